section
-- ===== PART A: goes FIRST, ahead of the names: the tables' words, and 'selects' of the private methods out of them =====
/-- a private method of a class that the tables say can be made, by its rows of tables_1 -/
def lw_okq (q : MethodName × Nat) : Prop := (q.1.cls ≠ "java/lang/invoke/MethodHandle" ∧ q.1.cls ≠ "java/lang/invoke/VarHandle") ∧ Cond.instantiable q.1.cls q.2 ∈ tables_1 ∧ Cond.privateMethod q.1 ∈ tables_1 ∧ Cond.instanceMethod q.1 ∈ tables_1
theorem lw_p0 : lw_okq (⟨"LendThreads", "find", "(I)LLendThreads$Work;"⟩, 5) := ⟨⟨by decide +kernel, by decide +kernel⟩, List.mem_of_getElem? (i := 15) (by decide +kernel), List.mem_of_getElem? (i := 175) (by decide +kernel), List.mem_of_getElem? (i := 176) (by decide +kernel)⟩
theorem lw_p1 : lw_okq (⟨"LendThreads", "isWork", "(I)Z"⟩, 5) := ⟨⟨by decide +kernel, by decide +kernel⟩, List.mem_of_getElem? (i := 15) (by decide +kernel), List.mem_of_getElem? (i := 179) (by decide +kernel), List.mem_of_getElem? (i := 180) (by decide +kernel)⟩
theorem lw_p2 : lw_okq (⟨"LendThreads", "isOther", "(II)Z"⟩, 5) := ⟨⟨by decide +kernel, by decide +kernel⟩, List.mem_of_getElem? (i := 15) (by decide +kernel), List.mem_of_getElem? (i := 187) (by decide +kernel), List.mem_of_getElem? (i := 188) (by decide +kernel)⟩
theorem lw_p3 : lw_okq (⟨"LendThreads", "takeTurn", "(LLendThreads$Work;)I"⟩, 5) := ⟨⟨by decide +kernel, by decide +kernel⟩, List.mem_of_getElem? (i := 15) (by decide +kernel), List.mem_of_getElem? (i := 210) (by decide +kernel), List.mem_of_getElem? (i := 211) (by decide +kernel)⟩
theorem lw_p4 : lw_okq (⟨"LendThreads", "actOrFail", "(LLendThreads$Work;)I"⟩, 5) := ⟨⟨by decide +kernel, by decide +kernel⟩, List.mem_of_getElem? (i := 15) (by decide +kernel), List.mem_of_getElem? (i := 222) (by decide +kernel), List.mem_of_getElem? (i := 223) (by decide +kernel)⟩
theorem lw_p5 : lw_okq (⟨"LendThreads", "undo", "(LLendThreads$Work;I)V"⟩, 5) := ⟨⟨by decide +kernel, by decide +kernel⟩, List.mem_of_getElem? (i := 15) (by decide +kernel), List.mem_of_getElem? (i := 226) (by decide +kernel), List.mem_of_getElem? (i := 227) (by decide +kernel)⟩
theorem lw_p6 : lw_okq (⟨"LendThreads", "sendAll", "(LLendThreads$Work;)V"⟩, 5) := ⟨⟨by decide +kernel, by decide +kernel⟩, List.mem_of_getElem? (i := 15) (by decide +kernel), List.mem_of_getElem? (i := 256) (by decide +kernel), List.mem_of_getElem? (i := 257) (by decide +kernel)⟩
theorem lw_p7 : lw_okq (⟨"LendThreads$Post", "isWay", "(I)Z"⟩, 3) := ⟨⟨by decide +kernel, by decide +kernel⟩, List.mem_of_getElem? (i := 67) (by decide +kernel), List.mem_of_getElem? (i := 272) (by decide +kernel), List.mem_of_getElem? (i := 273) (by decide +kernel)⟩
theorem lw_p8 : lw_okq (⟨"LendThreads", "goForNext", "(LLendThreads$Work;)I"⟩, 5) := ⟨⟨by decide +kernel, by decide +kernel⟩, List.mem_of_getElem? (i := 15) (by decide +kernel), List.mem_of_getElem? (i := 276) (by decide +kernel), List.mem_of_getElem? (i := 277) (by decide +kernel)⟩
theorem lw_p9 : lw_okq (⟨"LendThreads", "goForCopy", "(LLendThreads$Work;I)I"⟩, 5) := ⟨⟨by decide +kernel, by decide +kernel⟩, List.mem_of_getElem? (i := 15) (by decide +kernel), List.mem_of_getElem? (i := 280) (by decide +kernel), List.mem_of_getElem? (i := 281) (by decide +kernel)⟩
theorem lw_p10 : lw_okq (⟨"LendThreads", "goForMessage", "(LLendThreads$Work;I)I"⟩, 5) := ⟨⟨by decide +kernel, by decide +kernel⟩, List.mem_of_getElem? (i := 15) (by decide +kernel), List.mem_of_getElem? (i := 299) (by decide +kernel), List.mem_of_getElem? (i := 300) (by decide +kernel)⟩
theorem lw_p11 : lw_okq (⟨"LendThreads", "greatestInRingOf", "(I)I"⟩, 5) := ⟨⟨by decide +kernel, by decide +kernel⟩, List.mem_of_getElem? (i := 15) (by decide +kernel), List.mem_of_getElem? (i := 323) (by decide +kernel), List.mem_of_getElem? (i := 324) (by decide +kernel)⟩
theorem lw_p12 : lw_okq (⟨"java/lang/Throwable", "fillInStackTrace", "(I)Ljava/lang/Throwable;"⟩, 6) := ⟨⟨by decide +kernel, by decide +kernel⟩, List.mem_of_getElem? (i := 422) (by decide +kernel), List.mem_of_getElem? (i := 420) (by decide +kernel), List.mem_of_getElem? (i := 421) (by decide +kernel)⟩
theorem lw_p13 : lw_okq (⟨"LendThreadsModel", "isStep", "(II)Z"⟩, 29) := ⟨⟨by decide +kernel, by decide +kernel⟩, List.mem_of_getElem? (i := 452) (by decide +kernel), List.mem_of_getElem? (i := 562) (by decide +kernel), List.mem_of_getElem? (i := 563) (by decide +kernel)⟩
theorem lw_p14 : lw_okq (⟨"LendThreadsModel", "isWork", "(I)Z"⟩, 29) := ⟨⟨by decide +kernel, by decide +kernel⟩, List.mem_of_getElem? (i := 452) (by decide +kernel), List.mem_of_getElem? (i := 566) (by decide +kernel), List.mem_of_getElem? (i := 567) (by decide +kernel)⟩
theorem lw_p15 : lw_okq (⟨"LendThreadsModel", "does", "(I)I"⟩, 29) := ⟨⟨by decide +kernel, by decide +kernel⟩, List.mem_of_getElem? (i := 452) (by decide +kernel), List.mem_of_getElem? (i := 582) (by decide +kernel), List.mem_of_getElem? (i := 583) (by decide +kernel)⟩
def lw_privs_1 : List (MethodName × Nat) := [(⟨"LendThreads", "find", "(I)LLendThreads$Work;"⟩, 5), (⟨"LendThreads", "isWork", "(I)Z"⟩, 5), (⟨"LendThreads", "isOther", "(II)Z"⟩, 5), (⟨"LendThreads", "takeTurn", "(LLendThreads$Work;)I"⟩, 5), (⟨"LendThreads", "actOrFail", "(LLendThreads$Work;)I"⟩, 5), (⟨"LendThreads", "undo", "(LLendThreads$Work;I)V"⟩, 5), (⟨"LendThreads", "sendAll", "(LLendThreads$Work;)V"⟩, 5), (⟨"LendThreads$Post", "isWay", "(I)Z"⟩, 3), (⟨"LendThreads", "goForNext", "(LLendThreads$Work;)I"⟩, 5), (⟨"LendThreads", "goForCopy", "(LLendThreads$Work;I)I"⟩, 5), (⟨"LendThreads", "goForMessage", "(LLendThreads$Work;I)I"⟩, 5), (⟨"LendThreads", "greatestInRingOf", "(I)I"⟩, 5), (⟨"java/lang/Throwable", "fillInStackTrace", "(I)Ljava/lang/Throwable;"⟩, 6), (⟨"LendThreadsModel", "isStep", "(II)Z"⟩, 29), (⟨"LendThreadsModel", "isWork", "(I)Z"⟩, 29), (⟨"LendThreadsModel", "does", "(I)I"⟩, 29)]
theorem lw_r1 : ∀ q ∈ lw_privs_1, lw_okq q := List.forall_mem_cons.mpr ⟨lw_p0, List.forall_mem_cons.mpr ⟨lw_p1, List.forall_mem_cons.mpr ⟨lw_p2, List.forall_mem_cons.mpr ⟨lw_p3, List.forall_mem_cons.mpr ⟨lw_p4, List.forall_mem_cons.mpr ⟨lw_p5, List.forall_mem_cons.mpr ⟨lw_p6, List.forall_mem_cons.mpr ⟨lw_p7, List.forall_mem_cons.mpr ⟨lw_p8, List.forall_mem_cons.mpr ⟨lw_p9, List.forall_mem_cons.mpr ⟨lw_p10, List.forall_mem_cons.mpr ⟨lw_p11, List.forall_mem_cons.mpr ⟨lw_p12, List.forall_mem_cons.mpr ⟨lw_p13, List.forall_mem_cons.mpr ⟨lw_p14, List.forall_mem_cons.mpr ⟨lw_p15, fun _ h => absurd h List.not_mem_nil⟩⟩⟩⟩⟩⟩⟩⟩⟩⟩⟩⟩⟩⟩⟩⟩
theorem lw_p16 : lw_okq (⟨"LendThreadsModel", "takes", "(II)I"⟩, 29) := ⟨⟨by decide +kernel, by decide +kernel⟩, List.mem_of_getElem? (i := 452) (by decide +kernel), List.mem_of_getElem? (i := 586) (by decide +kernel), List.mem_of_getElem? (i := 587) (by decide +kernel)⟩
theorem lw_p17 : lw_okq (⟨"LendThreadsModel", "ahead", "(II)I"⟩, 29) := ⟨⟨by decide +kernel, by decide +kernel⟩, List.mem_of_getElem? (i := 452) (by decide +kernel), List.mem_of_getElem? (i := 590) (by decide +kernel), List.mem_of_getElem? (i := 591) (by decide +kernel)⟩
theorem lw_p18 : lw_okq (⟨"LendThreadsModel", "hears", "(II)I"⟩, 29) := ⟨⟨by decide +kernel, by decide +kernel⟩, List.mem_of_getElem? (i := 452) (by decide +kernel), List.mem_of_getElem? (i := 594) (by decide +kernel), List.mem_of_getElem? (i := 595) (by decide +kernel)⟩
theorem lw_p19 : lw_okq (⟨"LendThreadsModel", "undo", "(II)V"⟩, 29) := ⟨⟨by decide +kernel, by decide +kernel⟩, List.mem_of_getElem? (i := 452) (by decide +kernel), List.mem_of_getElem? (i := 598) (by decide +kernel), List.mem_of_getElem? (i := 599) (by decide +kernel)⟩
theorem lw_p20 : lw_okq (⟨"LendThreadsModel", "frees", "(I)V"⟩, 29) := ⟨⟨by decide +kernel, by decide +kernel⟩, List.mem_of_getElem? (i := 452) (by decide +kernel), List.mem_of_getElem? (i := 602) (by decide +kernel), List.mem_of_getElem? (i := 603) (by decide +kernel)⟩
theorem lw_p21 : lw_okq (⟨"LendThreadsModel", "acts", "(I)V"⟩, 29) := ⟨⟨by decide +kernel, by decide +kernel⟩, List.mem_of_getElem? (i := 452) (by decide +kernel), List.mem_of_getElem? (i := 606) (by decide +kernel), List.mem_of_getElem? (i := 607) (by decide +kernel)⟩
theorem lw_p22 : lw_okq (⟨"LendThreadsModel", "waitsOn", "(I)I"⟩, 29) := ⟨⟨by decide +kernel, by decide +kernel⟩, List.mem_of_getElem? (i := 452) (by decide +kernel), List.mem_of_getElem? (i := 618) (by decide +kernel), List.mem_of_getElem? (i := 619) (by decide +kernel)⟩
def lw_privs_2 : List (MethodName × Nat) := [(⟨"LendThreadsModel", "takes", "(II)I"⟩, 29), (⟨"LendThreadsModel", "ahead", "(II)I"⟩, 29), (⟨"LendThreadsModel", "hears", "(II)I"⟩, 29), (⟨"LendThreadsModel", "undo", "(II)V"⟩, 29), (⟨"LendThreadsModel", "frees", "(I)V"⟩, 29), (⟨"LendThreadsModel", "acts", "(I)V"⟩, 29), (⟨"LendThreadsModel", "waitsOn", "(I)I"⟩, 29)]
theorem lw_r2 : ∀ q ∈ lw_privs_2, lw_okq q := List.forall_mem_cons.mpr ⟨lw_p16, List.forall_mem_cons.mpr ⟨lw_p17, List.forall_mem_cons.mpr ⟨lw_p18, List.forall_mem_cons.mpr ⟨lw_p19, List.forall_mem_cons.mpr ⟨lw_p20, List.forall_mem_cons.mpr ⟨lw_p21, List.forall_mem_cons.mpr ⟨lw_p22, fun _ h => absurd h List.not_mem_nil⟩⟩⟩⟩⟩⟩⟩
def lw_privs : List (MethodName × Nat) := lw_privs_1 ++ (lw_privs_2)
def lw_tbl : List Cond := k2_sels lw_privs ++ tables_1
theorem lw_privs_ok : ∀ q ∈ lw_privs, lw_okq q := by
  show ∀ q ∈ lw_privs_1 ++ (lw_privs_2), lw_okq q
  exact List.forall_mem_append.mpr ⟨lw_r1, lw_r2⟩
end
section
/-! ===== BEGIN words of one list among another's, by their places ===== -/
theorem goodIn_r {big : List Cond} (ws : List Cond) (ps : List Nat) (hp : ws = ps.filterMap (fun i => big[i]?)) (h : ws.all goodWord = true) : GoodIn big ws := by
  intro w hw
  have h1 := List.all_eq_true.mp h w hw
  rw [hp] at hw
  obtain ⟨i, -, hi⟩ := List.mem_filterMap.mp hw
  have hm : w ∈ big := by first | exact List.mem_of_getElem? hi | exact List.getElem?_mem hi
  exact ⟨hm, good_of_word h1⟩
theorem goodIn_app {big a b : List Cond} (ha : GoodIn big a) (hb : GoodIn big b) : GoodIn big (a ++ b) := fun w h => (List.mem_append.mp h).elim (ha w) (hb w)
theorem goodIn_ca {big a b : List Cond} {c : Cond} (ha : GoodIn big (c :: a)) (hb : GoodIn big b) : GoodIn big (c :: (a ++ b)) := fun w h => (List.mem_cons.mp h).elim (fun e => ha w (List.mem_cons.mpr (Or.inl e))) (fun h => (List.mem_append.mp h).elim (fun h => ha w (List.mem_cons.mpr (Or.inr h))) (hb w))
theorem goodIn_sub {big ws : List Cond} (hm : ∀ w ∈ ws, w ∈ big) (h : ws.all goodWord = true) : GoodIn big ws := fun w hw => ⟨hm w hw, good_of_word (List.all_eq_true.mp h w hw)⟩
/-! ===== END ===== -/

/-! ===== BEGIN exceptions that leave a method, and their catching by the caller (launches without stack traces) ===== -/
section VXA
/-! The laws vx_back, vx_callV, vx_callS, vx_callSW, vx_throw0, vx_throwS follow proofs of the library, with one case more: JvmDerived/Free/Laws.lean (Back.of_free), Shelf42/LK1.lean (callV, callS), Shelf/KitTraced.lean (throwNew0V, throwNewS). -/
/-- where a method has thrown q: the class by its name, the cell, what was written, the world -/
def vx_T (XC : String → State → State → Prop) (st : State) (q : Addr) (t : State) (mc ms : Nat) (free : Addr → Prop) : Prop :=
  ∃ (E : String) (ce : Cell) (L : List Loc), XC E st t ∧ t.heap[q]? = some ce ∧ ce.vm = .none ∧ st.vm.findClass E = some ce.cls ∧ st.WarmedH t.vm ∧ st.sameButNew ({ t with vm := st.vm } : State) L mc ms ∧ ∀ z ∈ L, free z.base
def vx_Q (Qc : Array Value → State → Outcome → State → Prop) (XC : String → State → State → Prop) (mc ms : Nat) (free : Addr → Prop) : Array Value → State → Outcome → State → Prop := fun a st o t =>
  (Qc a st o t ∧ ∃ L, FrameEnd st o t L mc ms ∧ ∀ q ∈ L, free q.base) ∨ ∃ q, o = .threw q ∧ vx_T XC st q t mc ms free
/-- a callee that returns or throws -/
def vx_Met (l : Launch) (y : MethodName) (ws : List Cond) (rm : Room) (Pc : Array Value → State → Prop) (Qc : Array Value → State → Outcome → State → Prop) (XC : String → State → State → Prop) (mc ms : Nat) (free : Addr → Prop) : Prop :=
  MetFree l y (headSpec ws rm) Pc (fun _ _ _ _ _ => True) (vx_Q Qc XC mc ms free)
def vx_Post (XC : String → State → State → Prop) (mc ms : Nat) (free : Addr → Prop) : Pt → Array Value → Addr → Pt → Prop := fun A a q B =>
  ∃ (g : JFrame) (mk : MethodId) (t : State) (L : List Loc) (E : String) (ce : Cell), B.U.heap = t.heap ∧ B.U.vm = t.vm ∧ XC E (A.U.calling g mk a) t ∧ t.heap[q]? = some ce ∧ ce.vm = .none ∧ A.U.vm.findClass E = some ce.cls ∧ B.locs = A.locs ++ L ∧ (∀ z ∈ L, free z.base) ∧ B.cells = A.cells + mc ∧ B.slots = A.slots + ms
def vx_Back (l : Launch) (R : Room) (p : Program) (e : Env) (below : List Frame) (s : State) (sargs : Array Value) (y : MethodName) (len W9 : Nat)
    (Pre : Pt → Array Value → Prop) (Post : Pt → Array Value → Option Value → Pt → Prop) (PostX : Pt → Array Value → Addr → Pt → Prop) : Prop :=
  ∀ (m : MethodId) (meth : Method) (c : Code) (A : Pt) (g : JFrame) (ig : Instr) (mk : MethodId) (a : Array Value),
    Stand p l e R s m sargs below meth c A.U A.locs A.cells A.slots → g.method = m → g.locals.size = c.maxLocals → decode c.code g.pc = .ok (ig, len) →
    2 * g.monitorRoom + (g.stack.map fun v => v.category).sum ≤ W9 → A.U.methodNamed? y = some mk → Pre A a →
    (∃ (v : Option Value) (B : Pt), Stand p l e R s m sargs below meth c B.U B.locs B.cells B.slots ∧ Post A a v B ∧
      Steps p.tables e below (doInvoke e (A.U.setTop g) [] mk a).1 (B.U.setTop { g with pc := g.pc + len, stack := v.toList ++ g.stack })) ∨
    (∃ (q : Addr) (B : Pt), Stand p l e R s m sargs below meth c B.U B.locs B.cells B.slots ∧ PostX A a q B ∧
      Steps p.tables e below (doInvoke e (A.U.setTop g) [] mk a).1 ((B.U.setTop g).pushFrame (.throwing q)))
section Payer
variable {l : Launch} {R : Room} {p : Program} {e : Env} {below : List Frame} {s : State} {sargs : Array Value} {y : MethodName} {len W9 : Nat}
theorem vx_back {ws : List Cond} {rm : Room} {Pc : Array Value → State → Prop} {Qc : Array Value → State → Outcome → State → Prop} {XC : String → State → State → Prop} {mc ms : Nat} {free : Addr → Prop} {bytes : ByteArray} {maxL : Nat} {ret : Option FieldType}
    (hM : vx_Met l y ws rm Pc Qc XC mc ms free) (hblind : FrameBlind Pc) (hrc : rm.cells = mc) (hrs : rm.slots = ms)
    (hframes : rm.frames + 1 ≤ R.frames) (hlocals : W9 + (maxL + 11) + rm.locals ≤ R.locals)
    (hws : ∀ w ∈ ws, ∀ a' U, s.WarmedH U.vm → w.before a' U = true) (hcode : Cond.code y bytes maxL ret ∈ ws) (hinit : ∀ a' U, s.WarmedH U.vm → (Cond.initialized y.cls).before a' U = true) :
    vx_Back l R p e below s sargs y len W9 (PreOf R mc ms Pc) (PostOf Qc mc ms free) (vx_Post XC mc ms free) := by
  intro m meth c A g ig mk a X hg hsize hdg hW hn hp
  have h1 : (headSpec ws rm).pre.before a A.U = true := atoms_intro fun w hw => hws w hw _ _ X.warmed
  have h2 : (Cond.code y bytes maxL ret).before a A.U = true := hws _ hcode _ _ X.warmed
  have h3 : (Cond.initialized y.cls).before a A.U = true := hinit _ _ X.warmed
  have h4 : A.cells + (headSpec ws rm).room.cells ≤ R.cells := by rw [show (headSpec ws rm).room.cells = mc from hrc]; exact hp.1
  have h5 : A.slots + (headSpec ws rm).room.slots ≤ R.slots := by rw [show (headSpec ws rm).room.slots = ms from hrs]; exact hp.2.1
  have hPc : Pc a (A.U.calling g mk a) := hblind _ _ _ _ hp.2.2
  obtain ⟨U, Ls, c0, s0⟩ := A
  dsimp only [Pt.U, Pt.locs, Pt.cells, Pt.slots] at h1 h2 h3 h4 h5 X hn hPc ⊢
  obtain ⟨methY, cY, hmY, hcY, -, hlY, -, -, -, -⟩ := Cond.code_spec hn h2
  obtain ⟨kY, hkY, -⟩ := className_of_methodNamed hn
  have hinitY : kY.init = .initialized := Cond.initialized_spec (findClass_of_methodNamed hn) hkY h3
  have h : At U g.method c below := by rw [hg]; exact X.here
  have hlocals9 : W9 + (maxL + 11) + (headSpec ws rm).room.locals ≤ R.locals := hlocals
  have happ : (headSpec ws rm).appliesLoose y e.platform (U.calling g mk a) = true :=
    Spec.appliesLoose_calling (g := g) h hdg hn hkY hinitY
      (X.room_calling (g := g) (R' := (headSpec ws rm).room) hsize hmY hcY hframes (by rw [hlY]; omega) h4 h5) h1
  obtain ⟨mid, hmid⟩ := h.above
  have hfr : (U.setTop g).frames = (.java g :: mid) ++ below := by rw [State.frames_setTop' g h.top, hmid]; rfl
  obtain ⟨o, s₂, hsteps, -, hend, hq⟩ := Steps.callFree hM p X.admits X.cas X.clock (acts := []) hfr happ hPc trivial
  have hq' : vx_Q Qc XC mc ms free a (U.calling g mk a) o s₂ := hq
  rw [State.frames_setTop' g h.top] at hend
  obtain ⟨g₀, hg0⟩ := Option.isSome_iff_exists.mp h.top
  obtain ⟨r, hr⟩ := State.topJava?_eq_some.mp hg0
  have hr' : (({ U with heap := s₂.heap, slotsUsed := s₂.slotsUsed } : State).setVm s₂.vm).frames = .java g₀ :: r := hr
  rcases hq' with ⟨hqc, L, hfe, hL⟩ | ⟨q, rfl, E, ce, L, hx, hce, hcv, hcl, hW₂, hsm, hL⟩
  · obtain ⟨⟨v, rfl⟩, hW₂, e2, q2, q3, q4, q5, q6⟩ := id hfe
    have e3 : s₂ = ({ (U.calling g mk a).setFrames s₂.frames with heap := s₂.heap, slotsUsed := s₂.slotsUsed } : State).setVm s₂.vm := by
      have : s₂ = ({ s₂ with vm := (U.calling g mk a).vm } : State).setVm s₂.vm := rfl
      rw [e2] at this
      exact this
    obtain ⟨c₂, i₂, len₂, hc₂, hd₂, hf₂⟩ := hend
    have hW' : U.WarmedH s₂.vm := hW₂
    have hcc : c₂ = c := by
      have h1 : s₂.code? g.method = U.code? g.method := by
        rw [State.code?_eq, State.code?_eq, hW'.alike.method?]
      exact Option.some.inj (hc₂.symm.trans (h1.trans h.code))
    subst hcc
    have hlen : len₂ = len := by rw [hdg] at hd₂; cases hd₂; rfl
    subst hlen
    have hs₂ : s₂ = (({ U with heap := s₂.heap, slotsUsed := s₂.slotsUsed } : State).setVm s₂.vm).setTop { g with pc := g.pc + len₂, stack := v.toList ++ g.stack } := by
      refine e3.trans ?_
      rw [hf₂, State.calling_eq h.top, State.setFrames_setFrames, State.setTop_of_frames _ hr', hr]
      rfl
    have hsame : U.sameButNew ({ U with heap := s₂.heap, slotsUsed := s₂.slotsUsed } : State) L mc ms := by
      refine ⟨?_, q2, q3, q4, q5, q6⟩
      obtain ⟨t, ht, -⟩ := State.frames_cons hr
      show ({ U with heap := s₂.heap, slotsUsed := s₂.slotsUsed } : State) = { U.setFrames U.frames with heap := s₂.heap, slotsUsed := s₂.slotsUsed }
      rw [State.setFrames_self ht]
    subst hg
    refine Or.inl ⟨v, ⟨(({ U with heap := s₂.heap, slotsUsed := s₂.slotsUsed } : State).setVm s₂.vm), Ls ++ L, c0 + mc, s0 + ms⟩,
      ⟨X.admits, X.cas, X.clock, X.frames, X.room, X.hears, X.method, X.code, (X.here.setHeapUsed s₂.heap s₂.slotsUsed).setVm hW'.alike, X.tail, State.WarmedH.trans X.warmed hW', X.limits, X.bytes, X.same.trans (hsame.setVm s.vm)⟩,
      ⟨g, mk, s₂, L, rfl, rfl, hqc, rfl, hL, rfl, rfl⟩, ?_⟩
    show Steps p.tables e below _ ((({ U with heap := s₂.heap, slotsUsed := s₂.slotsUsed } : State).setVm s₂.vm).setTop { g with pc := g.pc + len₂, stack := v.toList ++ g.stack })
    rw [← hs₂]
    exact hsteps
  · obtain ⟨e2, q2, q3, q4, q5, q6⟩ := id hsm
    have e3 : s₂ = ({ (U.calling g mk a).setFrames s₂.frames with heap := s₂.heap, slotsUsed := s₂.slotsUsed } : State).setVm s₂.vm := by
      have : s₂ = ({ s₂ with vm := (U.calling g mk a).vm } : State).setVm s₂.vm := rfl
      rw [e2] at this
      exact this
    have hf₂ : s₂.frames = .throwing q :: .java g :: U.frames.tail := hend
    have hW' : U.WarmedH s₂.vm := hW₂
    have hs₂ : s₂ = ((({ U with heap := s₂.heap, slotsUsed := s₂.slotsUsed } : State).setVm s₂.vm).setTop g).pushFrame (.throwing q) := by
      refine e3.trans ?_
      rw [hf₂, State.calling_eq h.top, State.setFrames_setFrames, State.pushFrame, State.frames_setTop _ hr', State.setTop_of_frames _ hr', State.setFrames_setFrames, hr]
      rfl
    have hsame : U.sameButNew ({ U with heap := s₂.heap, slotsUsed := s₂.slotsUsed } : State) L mc ms := by
      refine ⟨?_, q2, q3, q4, q5, q6⟩
      obtain ⟨t, ht, -⟩ := State.frames_cons hr
      show ({ U with heap := s₂.heap, slotsUsed := s₂.slotsUsed } : State) = { U.setFrames U.frames with heap := s₂.heap, slotsUsed := s₂.slotsUsed }
      rw [State.setFrames_self ht]
    subst hg
    refine Or.inr ⟨q, ⟨(({ U with heap := s₂.heap, slotsUsed := s₂.slotsUsed } : State).setVm s₂.vm), Ls ++ L, c0 + mc, s0 + ms⟩,
      ⟨X.admits, X.cas, X.clock, X.frames, X.room, X.hears, X.method, X.code, (X.here.setHeapUsed s₂.heap s₂.slotsUsed).setVm hW'.alike, X.tail, State.WarmedH.trans X.warmed hW', X.limits, X.bytes, X.same.trans (hsame.setVm s.vm)⟩,
      ⟨g, mk, s₂, L, E, ce, rfl, rfl, hx, hce, hcv, hcl, rfl, hL, rfl, rfl⟩, ?_⟩
    show Steps p.tables e below _ (((({ U with heap := s₂.heap, slotsUsed := s₂.slotsUsed } : State).setVm s₂.vm).setTop g).pushFrame (.throwing q))
    rw [← hs₂]
    exact hsteps
end Payer
section Calls
variable {p : Program} {l : Launch} {e : Env} {R : Room} {s : State} {m : MethodId} {args : Array Value} {below : List Frame} {meth : Method} {c : Code} {T : State} {locs : List Loc} {cells slots : Nat}
theorem vx_callV (X : Stand p l e R s m args below meth c T locs cells slots) (hexec : p.tables.exec = Jvm.exec) {own C : String} {index : Nat} {y : MethodName} {bytes : ByteArray} {maxL : Nat} {ret : Option FieldType}
    (hown : s.vm.findClass own = some m.cls) (hlink : (Cond.methodLink own index y).before args s = true) (hinst : (Cond.instanceMethod y).before args s = true) (hsel : (Cond.selects C y y).before args s = true)
    (hcode : (Cond.code y bytes maxL ret).before args s = true) (hy : y.cls ≠ "java/lang/invoke/MethodHandle" ∧ y.cls ≠ "java/lang/invoke/VarHandle")
    {W9 : Nat} {Pre : Pt → Array Value → Prop} {Post : Pt → Array Value → Option Value → Pt → Prop} {PostX : Pt → Array Value → Addr → Pt → Prop} (hK : vx_Back l R p e below s args y 3 W9 Pre Post PostX)
    {b : Addr} {cellB : Cell} (hcell : T.heap[b]? = some cellB) (hobj : cellB.vm.isStatics = false) (hcls : s.vm.findClass C = some cellB.cls)
    {g : JFrame} (hg : g.method = m) (hsize : g.locals.size = c.maxLocals) {argsL rest : List Value} (hlen : ∀ sig, parseMethodDescriptor y.desc = some sig → argsL.length = sig.parameters.length)
    (hstack : g.stack = argsL.reverse ++ .ref b :: rest) (hW : 2 * g.monitorRoom + (rest.map fun v => v.category).sum ≤ W9) (hdg : decode c.code g.pc = .ok (.invokevirtual index, 3))
    (hpre : ∀ vm₁, s.WarmedH vm₁ → Pre ⟨T.setVm vm₁, locs, cells, slots⟩ (Value.ref b :: argsL).toArray) :
    (∃ (v : Option Value) (vm₁ : Vm) (B : Pt), s.WarmedH vm₁ ∧ Stand p l e R s m args below meth c B.U B.locs B.cells B.slots ∧ Post ⟨T.setVm vm₁, locs, cells, slots⟩ (Value.ref b :: argsL).toArray v B ∧
      ∀ target, Steps p.tables e below (B.U.setTop { g with pc := g.pc + 3, stack := v.toList ++ rest }) target → Steps p.tables e below (T.setTop g) target) ∨
    (∃ (q : Addr) (vm₁ : Vm) (B : Pt), s.WarmedH vm₁ ∧ Stand p l e R s m args below meth c B.U B.locs B.cells B.slots ∧ PostX ⟨T.setVm vm₁, locs, cells, slots⟩ (Value.ref b :: argsL).toArray q B ∧
      Steps p.tables e below (T.setTop g) ((B.U.setTop { g with stack := rest }).pushFrame (.throwing q))) := by
  obtain ⟨mk, methM, hnamed, hmethM, hstM, habM⟩ := Cond.instanceMethod_spec hinst
  obtain ⟨methM', cM, hmethM', -, -, -, -, -, -, hsigM⟩ := Cond.code_spec hnamed hcode
  cases hmethM.symm.trans hmethM'
  obtain ⟨c2, r2, m2, q1, q2, q3, q4, kP, hkP, hkPi⟩ := Cond.selects_spec hsel
  cases hcls.symm.trans q1
  cases (State.methodFound?_of_named hnamed hy).symm.trans q2
  cases hnamed.symm.trans q3
  have hselP : selectMethod e.platform s.vm cellB.cls mk = .method mk := by rw [Launch.admits_selectMethod X.admits]; exact q4
  obtain ⟨vm₁, X₁, hstep₁⟩ := X.invokevirtual hexec hown hlink hnamed hmethM hstM hkP hkPi hy (a := b) (cell := cellB) hcell
    (fun z h => by rw [h] at hobj; cases hobj) hselP hmethM habM hkP hkPi (g := g) hg (argsL := argsL) (rest := rest) (hlen _ hsigM) hstack hdg
  rcases hK m meth c ⟨T.setVm vm₁, locs, cells, slots⟩ { g with stack := rest } (.invokevirtual index) mk (Value.ref b :: argsL).toArray X₁ hg hsize hdg hW (X₁.named hnamed) (hpre vm₁ X₁.warmed) with ⟨v, B, X', hpost, hsteps⟩ | ⟨q, B, X', hpost, hsteps⟩
  · exact Or.inl ⟨v, vm₁, B, X₁.warmed, X', hpost, fun target h => hstep₁ _ fun acts => by rw [doInvoke_state]; exact hsteps.trans h⟩
  · exact Or.inr ⟨q, vm₁, B, X₁.warmed, X', hpost, hstep₁ _ fun acts => by rw [doInvoke_state]; exact hsteps⟩
theorem vx_callS (X : Stand p l e R s m args below meth c T locs cells slots) (hexec : p.tables.exec = Jvm.exec) {own : String} {index : Nat} {y : MethodName} {bytes : ByteArray} {maxL : Nat} {ret : Option FieldType}
    (hown : s.vm.findClass own = some m.cls) (hlink : (Cond.methodLink own index y).before args s = true) (hstat : (Cond.static y).before args s = true) (hinit : (Cond.initialized y.cls).before args s = true)
    (hcode : (Cond.code y bytes maxL ret).before args s = true) (hy : y.cls ≠ "java/lang/invoke/MethodHandle" ∧ y.cls ≠ "java/lang/invoke/VarHandle")
    {W9 : Nat} {Pre : Pt → Array Value → Prop} {Post : Pt → Array Value → Option Value → Pt → Prop} {PostX : Pt → Array Value → Addr → Pt → Prop} (hK : vx_Back l R p e below s args y 3 W9 Pre Post PostX)
    {g : JFrame} (hg : g.method = m) (hsize : g.locals.size = c.maxLocals) {argsL rest : List Value} (hlen : ∀ sig, parseMethodDescriptor y.desc = some sig → argsL.length = sig.parameters.length)
    (hstack : g.stack = argsL.reverse ++ rest) (hW : 2 * g.monitorRoom + (rest.map fun v => v.category).sum ≤ W9) (hdg : decode c.code g.pc = .ok (.invokestatic index, 3))
    (hpre : ∀ vm₁, s.WarmedH vm₁ → Pre ⟨T.setVm vm₁, locs, cells, slots⟩ argsL.toArray) :
    (∃ (v : Option Value) (vm₁ : Vm) (B : Pt), s.WarmedH vm₁ ∧ Stand p l e R s m args below meth c B.U B.locs B.cells B.slots ∧ Post ⟨T.setVm vm₁, locs, cells, slots⟩ argsL.toArray v B ∧
      ∀ target, Steps p.tables e below (B.U.setTop { g with pc := g.pc + 3, stack := v.toList ++ rest }) target → Steps p.tables e below (T.setTop g) target) ∨
    (∃ (q : Addr) (vm₁ : Vm) (B : Pt), s.WarmedH vm₁ ∧ Stand p l e R s m args below meth c B.U B.locs B.cells B.slots ∧ PostX ⟨T.setVm vm₁, locs, cells, slots⟩ argsL.toArray q B ∧
      Steps p.tables e below (T.setTop g) ((B.U.setTop { g with stack := rest }).pushFrame (.throwing q))) := by
  obtain ⟨mk, hnamed⟩ := Cond.code_named hcode
  obtain ⟨methM, cM, hmethM, -, -, -, -, -, -, hsigM⟩ := Cond.code_spec hnamed hcode
  have hstatic : methM.isStatic = true := Cond.static_spec hnamed hmethM hstat
  obtain ⟨kP, hkP, -⟩ := className_of_methodNamed hnamed
  have hinitP : kP.init = .initialized := Cond.initialized_spec (findClass_of_methodNamed hnamed) hkP hinit
  obtain ⟨vm₁, X₁, hstep₁⟩ := X.invokestatic hexec hown hlink hnamed hmethM hstatic hkP hinitP hy (g := g) hg (argsL := argsL) (rest := rest) (hlen _ hsigM) hstack hdg
  rcases hK m meth c ⟨T.setVm vm₁, locs, cells, slots⟩ { g with stack := rest } (.invokestatic index) mk argsL.toArray X₁ hg hsize hdg hW (X₁.named hnamed) (hpre vm₁ X₁.warmed) with ⟨v, B, X', hpost, hsteps⟩ | ⟨q, B, X', hpost, hsteps⟩
  · exact Or.inl ⟨v, vm₁, B, X₁.warmed, X', hpost, fun target h => hstep₁ _ fun acts => by rw [doInvoke_state]; exact hsteps.trans h⟩
  · exact Or.inr ⟨q, vm₁, B, X₁.warmed, X', hpost, hstep₁ _ fun acts => by rw [doInvoke_state]; exact hsteps⟩
end Calls
theorem vx_cls {s : State} {T : State} {vm₁ : Vm} {E : String} {k : ClassId} (hW : s.WarmedH vm₁) (h : (T.setVm vm₁).vm.findClass E = some k) : s.vm.findClass E = some k := by
  have h1 : vm₁.findClass E = some k := h
  rw [hW.alike.findClass] at h1
  exact h1
/-- the method's frame g, with q thrown over it -/
def vx_W (p : Program) (l : Launch) (e : Env) (R : Room) (s : State) (m : MethodId) (args : Array Value) (below : List Frame) (meth : Method) (c : Code) (H : Heap) (locs : List Loc) (cells slots : Nat) (Q : State → Prop) (g : JFrame) (q : Addr) : Prop :=
  ∀ T : State, T.heap = H → Stand p l e R s m args below meth c T locs cells slots → ∃ t, Steps p.tables e below ((T.setTop g).pushFrame (.throwing q)) t ∧ Q t
def vx_Run (p : Program) (l : Launch) (e : Env) (R : Room) (s : State) (m : MethodId) (args : Array Value) (below : List Frame) (meth : Method) (c : Code) (H : Heap) (locs : List Loc) (cells slots mc ms : Nat) (g : JFrame) (rest : List Value) (Qa : State → Outcome → State → Prop) (XC : String → State → State → Prop) (free : Addr → Prop) : Prop :=
  ∀ T : State, T.heap = H → Stand p l e R s m args below meth c T locs cells slots →
    (∃ (v : Option Value) (st₀ t T' : State) (L : List Loc), st₀.heap = H ∧ Stand p l e R s m args below meth c T' (locs ++ L) (cells + mc) (slots + ms) ∧ (∀ q ∈ L, free q.base) ∧ T'.heap = t.heap ∧ T'.vm = t.vm ∧ Qa st₀ (.returned v) t ∧
      Goes p e below T g T' { g with pc := g.pc + 3, stack := v.toList ++ rest }) ∨
    (∃ (q : Addr) (st₀ t T' : State) (L : List Loc) (E : String) (ce : Cell), st₀.heap = H ∧ Stand p l e R s m args below meth c T' (locs ++ L) (cells + mc) (slots + ms) ∧ (∀ z ∈ L, free z.base) ∧ T'.heap = t.heap ∧ T'.vm = t.vm ∧ XC E st₀ t ∧ t.heap[q]? = some ce ∧ ce.vm = .none ∧ s.vm.findClass E = some ce.cls ∧
      Steps p.tables e below (T.setTop g) ((T'.setTop { g with stack := rest }).pushFrame (.throwing q)))
def vx_X {S : Type} (px : S → Prop) (B : String → S → State → Prop) (A : Nat → Prop) : String → State → State → Prop := fun E st t => ∃ u : S, px u ∧ B E u t ∧ va_F A st t
section Runs
variable {p : Program} {l : Launch} {e : Env} {R : Room} {s : State} {m : MethodId} {args : Array Value} {below : List Frame} {meth : Method} {c : Code} {H : Heap} {locs : List Loc} {cells slots : Nat}
variable {y : MethodName} {bytes cc : ByteArray} {maxL nL mc ms n index : Nat} {ret : Option FieldType} {ws : List Cond} {rm : Room} {Pc : Array Value → State → Prop} {Qc : Array Value → State → Outcome → State → Prop} {XC : String → State → State → Prop} {free : Addr → Prop} {Ts : List Cond} {own C : String} {b : Addr} {As rest : List Value} {g : JFrame}
theorem vx_callBack (cb : CallB R s args own index y bytes maxL ret ws rm mc ms n) (hM : vx_Met l y ws rm Pc Qc XC mc ms free) (hbl : FrameBlind Pc) : vx_Back l R p e below s args y 3 8 (PreOf R mc ms Pc) (PostOf Qc mc ms free) (vx_Post XC mc ms free) := by
  obtain ⟨hrc, hrs, hfr, hlo, hws, hcw, -, hini, -⟩ := cb
  exact vx_back (bytes := bytes) (maxL := maxL) (ret := ret) hM hbl hrc hrs hfr hlo hws hcw (fun a' U hW => word_at hW (Or.inl (by first | rfl | simp [Cond.onTables, Cond.keeps, Cond.steady])) hini)
theorem vx_runV (S : CallFix p m c cc nL s args Ts own) (hM : vx_Met l y ws rm Pc Qc XC mc ms free) (cw : CallW R s args own C index y bytes maxL ret ws rm mc ms n) (hp : PreV s H C b Pc As)
    (hg : g.method = m) (hn : As.length = n) (hsize : g.locals.size = nL) (hstack : g.stack = As.reverse ++ .ref b :: rest) (hW : 2 * g.monitorRoom + (rest.map fun v => v.category).sum ≤ 8) (hdg : decode cc g.pc = .ok (.invokevirtual index, 3)) (hf : cells + mc ≤ R.cells ∧ slots + ms ≤ R.slots) :
    vx_Run p l e R s m args below meth c H locs cells slots mc ms g rest (Qc (Value.ref b :: As).toArray) XC free := by
  have hK : vx_Back l R p e below s args y 3 8 (PreOf R mc ms Pc) (PostOf Qc mc ms free) (vx_Post XC mc ms free) := vx_callBack cw.1 hM hp.1
  obtain ⟨⟨-, -, -, -, -, -, hcode, -, hy, hlen, hl⟩, hin, hse⟩ := cw
  obtain ⟨hx, hb, hml, ho, -⟩ := S
  obtain ⟨-, ⟨cellB, hcB, hoB, hclB⟩, hPc⟩ := hp
  intro T hT X
  rcases vx_callV X hx (C := C) (bytes := bytes) (maxL := maxL) (ret := ret) ho hl hin hse hcode hy hK (by rw [hT]; exact hcB) hoB hclB hg (hsize.trans hml.symm) (argsL := As) (rest := rest) (fun sig h => hn.trans (hlen sig h)) hstack hW (by rw [hb]; exact hdg)
    (fun vm₁ hW₁ => ⟨hf.1, hf.2, hPc (T.setVm vm₁) hT hW₁⟩) with ⟨v, vm₁, ⟨U', l2, c2, s2⟩, hW₁, X', ⟨g', mk, t, L, e1, e2, hq, h1, hL, h2, h3⟩, st⟩ | ⟨q, vm₁, ⟨U', l2, c2, s2⟩, hW₁, X', ⟨g', mk, t, L, E, ce, e1, e2, hq, hce, hcv, hcl, h1, hL, h2, h3⟩, st⟩
  · dsimp only [Pt.U, Pt.locs, Pt.cells, Pt.slots] at X' e1 e2 h1 h2 h3 st
    subst h1; subst h2; subst h3
    exact Or.inl ⟨v, (T.setVm vm₁).calling g' mk (Value.ref b :: As).toArray, t, U', L, hT, X', hL, e1, e2, hq, st⟩
  · dsimp only [Pt.U, Pt.locs, Pt.cells, Pt.slots] at X' e1 e2 h1 h2 h3 st hcl
    subst h1; subst h2; subst h3
    exact Or.inr ⟨q, (T.setVm vm₁).calling g' mk (Value.ref b :: As).toArray, t, U', L, E, ce, hT, X', hL, e1, e2, hq, hce, hcv, vx_cls hW₁ hcl, st⟩
theorem vx_runS (S : CallFix p m c cc nL s args Ts own) (hM : vx_Met l y ws rm Pc Qc XC mc ms free) (cw : CallB R s args own index y bytes maxL ret ws rm mc ms n ∧ (Cond.static y).before args s = true) (hp : PreS s H Pc As)
    (hg : g.method = m) (hn : As.length = n) (hsize : g.locals.size = nL) (hstack : g.stack = As.reverse ++ rest) (hW : 2 * g.monitorRoom + (rest.map fun v => v.category).sum ≤ 8) (hdg : decode cc g.pc = .ok (.invokestatic index, 3)) (hf : cells + mc ≤ R.cells ∧ slots + ms ≤ R.slots) :
    vx_Run p l e R s m args below meth c H locs cells slots mc ms g rest (Qc As.toArray) XC free := by
  have hK : vx_Back l R p e below s args y 3 8 (PreOf R mc ms Pc) (PostOf Qc mc ms free) (vx_Post XC mc ms free) := vx_callBack cw.1 hM hp.1
  obtain ⟨⟨-, -, -, -, -, -, hcode, hini, hy, hlen, hl⟩, hstt⟩ := cw
  obtain ⟨hx, hb, hml, ho, -⟩ := S
  intro T hT X
  rcases vx_callS X hx (bytes := bytes) (maxL := maxL) (ret := ret) ho hl hstt hini hcode hy hK hg (hsize.trans hml.symm) (argsL := As) (rest := rest) (fun sig h => hn.trans (hlen sig h)) hstack hW (by rw [hb]; exact hdg)
    (fun vm₁ hW₁ => ⟨hf.1, hf.2, hp.2 (T.setVm vm₁) hT hW₁⟩) with ⟨v, vm₁, ⟨U', l2, c2, s2⟩, hW₁, X', ⟨g', mk, t, L, e1, e2, hq, h1, hL, h2, h3⟩, st⟩ | ⟨q, vm₁, ⟨U', l2, c2, s2⟩, hW₁, X', ⟨g', mk, t, L, E, ce, e1, e2, hq, hce, hcv, hcl, h1, hL, h2, h3⟩, st⟩
  · dsimp only [Pt.U, Pt.locs, Pt.cells, Pt.slots] at X' e1 e2 h1 h2 h3 st
    subst h1; subst h2; subst h3
    exact Or.inl ⟨v, (T.setVm vm₁).calling g' mk As.toArray, t, U', L, hT, X', hL, e1, e2, hq, st⟩
  · dsimp only [Pt.U, Pt.locs, Pt.cells, Pt.slots] at X' e1 e2 h1 h2 h3 st hcl
    subst h1; subst h2; subst h3
    exact Or.inr ⟨q, (T.setVm vm₁).calling g' mk As.toArray, t, U', L, E, ce, hT, X', hL, e1, e2, hq, hce, hcv, vx_cls hW₁ hcl, st⟩
end Runs
section Rows
variable {p : Program} {l : Launch} {e : Env} {R : Room} {s : State} {m : MethodId} {args : Array Value} {below : List Frame} {meth : Method} {c : Code} {H : Heap} {locs : List Loc} {cells slots : Nat} {Q : State → Prop}
variable {mc ms : Nat} {free : Addr → Prop} {A0 A1 : Nat → Prop} {H0 : Heap} {a : Array Value} {pc : Nat} {ls : Array Slot} {st0 rest : List Value}
theorem vx_keep {st₀ t T' : State} {L : List Loc} (h0 : st₀.heap = H) (e1 : T'.heap = t.heap) (hS : va_S A0 H0 H locs) (hA : ∀ q, q < H.size → A1 q → A0 q) (hf : ∀ q, free q → A0 q) (hL : ∀ q ∈ L, free q.base) (hF : va_F A1 st₀ t) :
    H.size ≤ T'.heap.size ∧ (∀ q : Nat, q < H.size → ¬ A1 q → T'.heap[q]? = H[q]?) ∧ va_S A0 H0 T'.heap (locs ++ L) := by
  obtain ⟨hz, hk⟩ := hF
  rw [h0] at hz hk
  exact ⟨by rw [e1]; exact hz, fun q h1 h2 => by rw [e1]; exact hk q h1 h2,
    ⟨Nat.le_trans hS.1 (by rw [e1]; exact hz), fun q h1 h2 => by rw [e1, hk q (Nat.lt_of_lt_of_le h1 hS.1) (fun z => h2 (hA q (Nat.lt_of_lt_of_le h1 hS.1) z))]; exact hS.2.1 q h1 h2, fun q hq => by
      rcases List.mem_append.mp hq with h | h
      · exact hS.2.2 q h
      · exact hf _ (hL q h)⟩⟩
theorem vx_calli {S SX : Type} {post : Int32 → S → Prop} {px : SX → Prop} {B : S → State → Prop} {BX : String → SX → State → Prop} {AX : Nat → Prop} (hr : vx_Run p l e R s m args below meth c H locs cells slots mc ms (F0 m pc ls st0) rest (va_Qi post B A1 a) (vx_X px BX AX) free) (hS : va_S A0 H0 H locs) (hA : ∀ q, q < H.size → A1 q → A0 q) (hf : ∀ q, free q → A0 q) (hAX : ∀ q, q < H.size → AX q → A0 q)
    (kx : ∀ (E : String) (ce : Cell) (q9 : Addr) (u : SX) (t : State) (H1 : Heap) (locs1 : List Loc), t.heap = H1 → s.vm.Alike t.vm → px u → BX E u t → H.size ≤ H1.size → (∀ q : Nat, q < H.size → ¬ AX q → H1[q]? = H[q]?) → va_S A0 H0 H1 locs1 → H1[q9]? = some ce → ce.vm = .none → s.vm.findClass E = some ce.cls → vx_W p l e R s m args below meth c H1 locs1 (cells + mc) (slots + ms) Q (F0 m pc ls rest) q9)
    (kk : ∀ (r : Int32) (u : S) (t : State) (H1 : Heap) (locs1 : List Loc), t.heap = H1 → s.vm.Alike t.vm → post r u → B u t → H.size ≤ H1.size → (∀ q : Nat, q < H.size → ¬ A1 q → H1[q]? = H[q]?) → va_S A0 H0 H1 locs1 → W p l e R s m args below meth c H1 locs1 (cells + mc) (slots + ms) Q (F0 m (pc + 3) ls (.int r :: rest))) : W p l e R s m args below meth c H locs cells slots Q (F0 m pc ls st0) := by
  intro T hT X
  rcases hr T hT X with ⟨v, st₀, t, T', L, h0, X', hL, e1, e2, ⟨⟨r, u, hv, hp, hb⟩, hF⟩, st⟩ | ⟨q, st₀, t, T', L, E, ce, h0, X', hL, e1, e2, ⟨u, hp, hb, hF⟩, hce, hcv, hcl, st⟩
  · cases hv
    obtain ⟨k1, k2, k3⟩ := vx_keep h0 e1 hS hA hf hL hF
    obtain ⟨t2, a1, b1⟩ := kk r u t T'.heap (locs ++ L) e1.symm (by rw [← e2]; exact X'.warmed.alike) hp hb k1 k2 k3 T' rfl X'
    exact ⟨t2, st t2 a1, b1⟩
  · obtain ⟨k1, k2, k3⟩ := vx_keep h0 e1 hS hAX hf hL hF
    obtain ⟨t2, a1, b1⟩ := kx E ce q u t T'.heap (locs ++ L) e1.symm (by rw [← e2]; exact X'.warmed.alike) hp hb k1 k2 k3 (by rw [e1]; exact hce) hcv hcl T' rfl X'
    exact ⟨t2, st.trans a1, b1⟩
theorem vx_calll {S SX : Type} {post : Int64 → S → Prop} {px : SX → Prop} {B : S → State → Prop} {BX : String → SX → State → Prop} {AX : Nat → Prop} (hr : vx_Run p l e R s m args below meth c H locs cells slots mc ms (F0 m pc ls st0) rest (va_Ql post B A1 a) (vx_X px BX AX) free) (hS : va_S A0 H0 H locs) (hA : ∀ q, q < H.size → A1 q → A0 q) (hf : ∀ q, free q → A0 q) (hAX : ∀ q, q < H.size → AX q → A0 q)
    (kx : ∀ (E : String) (ce : Cell) (q9 : Addr) (u : SX) (t : State) (H1 : Heap) (locs1 : List Loc), t.heap = H1 → s.vm.Alike t.vm → px u → BX E u t → H.size ≤ H1.size → (∀ q : Nat, q < H.size → ¬ AX q → H1[q]? = H[q]?) → va_S A0 H0 H1 locs1 → H1[q9]? = some ce → ce.vm = .none → s.vm.findClass E = some ce.cls → vx_W p l e R s m args below meth c H1 locs1 (cells + mc) (slots + ms) Q (F0 m pc ls rest) q9)
    (kk : ∀ (r : Int64) (u : S) (t : State) (H1 : Heap) (locs1 : List Loc), t.heap = H1 → s.vm.Alike t.vm → post r u → B u t → H.size ≤ H1.size → (∀ q : Nat, q < H.size → ¬ A1 q → H1[q]? = H[q]?) → va_S A0 H0 H1 locs1 → W p l e R s m args below meth c H1 locs1 (cells + mc) (slots + ms) Q (F0 m (pc + 3) ls (.long r :: rest))) : W p l e R s m args below meth c H locs cells slots Q (F0 m pc ls st0) := by
  intro T hT X
  rcases hr T hT X with ⟨v, st₀, t, T', L, h0, X', hL, e1, e2, ⟨⟨r, u, hv, hp, hb⟩, hF⟩, st⟩ | ⟨q, st₀, t, T', L, E, ce, h0, X', hL, e1, e2, ⟨u, hp, hb, hF⟩, hce, hcv, hcl, st⟩
  · cases hv
    obtain ⟨k1, k2, k3⟩ := vx_keep h0 e1 hS hA hf hL hF
    obtain ⟨t2, a1, b1⟩ := kk r u t T'.heap (locs ++ L) e1.symm (by rw [← e2]; exact X'.warmed.alike) hp hb k1 k2 k3 T' rfl X'
    exact ⟨t2, st t2 a1, b1⟩
  · obtain ⟨k1, k2, k3⟩ := vx_keep h0 e1 hS hAX hf hL hF
    obtain ⟨t2, a1, b1⟩ := kx E ce q u t T'.heap (locs ++ L) e1.symm (by rw [← e2]; exact X'.warmed.alike) hp hb k1 k2 k3 (by rw [e1]; exact hce) hcv hcl T' rfl X'
    exact ⟨t2, st.trans a1, b1⟩
theorem vx_callf {S SX : Type} {post : UInt32 → S → Prop} {px : SX → Prop} {B : S → State → Prop} {BX : String → SX → State → Prop} {AX : Nat → Prop} (hr : vx_Run p l e R s m args below meth c H locs cells slots mc ms (F0 m pc ls st0) rest (va_Qf post B A1 a) (vx_X px BX AX) free) (hS : va_S A0 H0 H locs) (hA : ∀ q, q < H.size → A1 q → A0 q) (hf : ∀ q, free q → A0 q) (hAX : ∀ q, q < H.size → AX q → A0 q)
    (kx : ∀ (E : String) (ce : Cell) (q9 : Addr) (u : SX) (t : State) (H1 : Heap) (locs1 : List Loc), t.heap = H1 → s.vm.Alike t.vm → px u → BX E u t → H.size ≤ H1.size → (∀ q : Nat, q < H.size → ¬ AX q → H1[q]? = H[q]?) → va_S A0 H0 H1 locs1 → H1[q9]? = some ce → ce.vm = .none → s.vm.findClass E = some ce.cls → vx_W p l e R s m args below meth c H1 locs1 (cells + mc) (slots + ms) Q (F0 m pc ls rest) q9)
    (kk : ∀ (r : UInt32) (u : S) (t : State) (H1 : Heap) (locs1 : List Loc), t.heap = H1 → s.vm.Alike t.vm → post r u → B u t → H.size ≤ H1.size → (∀ q : Nat, q < H.size → ¬ A1 q → H1[q]? = H[q]?) → va_S A0 H0 H1 locs1 → W p l e R s m args below meth c H1 locs1 (cells + mc) (slots + ms) Q (F0 m (pc + 3) ls (.float r :: rest))) : W p l e R s m args below meth c H locs cells slots Q (F0 m pc ls st0) := by
  intro T hT X
  rcases hr T hT X with ⟨v, st₀, t, T', L, h0, X', hL, e1, e2, ⟨⟨r, u, hv, hp, hb⟩, hF⟩, st⟩ | ⟨q, st₀, t, T', L, E, ce, h0, X', hL, e1, e2, ⟨u, hp, hb, hF⟩, hce, hcv, hcl, st⟩
  · cases hv
    obtain ⟨k1, k2, k3⟩ := vx_keep h0 e1 hS hA hf hL hF
    obtain ⟨t2, a1, b1⟩ := kk r u t T'.heap (locs ++ L) e1.symm (by rw [← e2]; exact X'.warmed.alike) hp hb k1 k2 k3 T' rfl X'
    exact ⟨t2, st t2 a1, b1⟩
  · obtain ⟨k1, k2, k3⟩ := vx_keep h0 e1 hS hAX hf hL hF
    obtain ⟨t2, a1, b1⟩ := kx E ce q u t T'.heap (locs ++ L) e1.symm (by rw [← e2]; exact X'.warmed.alike) hp hb k1 k2 k3 (by rw [e1]; exact hce) hcv hcl T' rfl X'
    exact ⟨t2, st.trans a1, b1⟩
theorem vx_calld {S SX : Type} {post : UInt64 → S → Prop} {px : SX → Prop} {B : S → State → Prop} {BX : String → SX → State → Prop} {AX : Nat → Prop} (hr : vx_Run p l e R s m args below meth c H locs cells slots mc ms (F0 m pc ls st0) rest (va_Qd post B A1 a) (vx_X px BX AX) free) (hS : va_S A0 H0 H locs) (hA : ∀ q, q < H.size → A1 q → A0 q) (hf : ∀ q, free q → A0 q) (hAX : ∀ q, q < H.size → AX q → A0 q)
    (kx : ∀ (E : String) (ce : Cell) (q9 : Addr) (u : SX) (t : State) (H1 : Heap) (locs1 : List Loc), t.heap = H1 → s.vm.Alike t.vm → px u → BX E u t → H.size ≤ H1.size → (∀ q : Nat, q < H.size → ¬ AX q → H1[q]? = H[q]?) → va_S A0 H0 H1 locs1 → H1[q9]? = some ce → ce.vm = .none → s.vm.findClass E = some ce.cls → vx_W p l e R s m args below meth c H1 locs1 (cells + mc) (slots + ms) Q (F0 m pc ls rest) q9)
    (kk : ∀ (r : UInt64) (u : S) (t : State) (H1 : Heap) (locs1 : List Loc), t.heap = H1 → s.vm.Alike t.vm → post r u → B u t → H.size ≤ H1.size → (∀ q : Nat, q < H.size → ¬ A1 q → H1[q]? = H[q]?) → va_S A0 H0 H1 locs1 → W p l e R s m args below meth c H1 locs1 (cells + mc) (slots + ms) Q (F0 m (pc + 3) ls (.double r :: rest))) : W p l e R s m args below meth c H locs cells slots Q (F0 m pc ls st0) := by
  intro T hT X
  rcases hr T hT X with ⟨v, st₀, t, T', L, h0, X', hL, e1, e2, ⟨⟨r, u, hv, hp, hb⟩, hF⟩, st⟩ | ⟨q, st₀, t, T', L, E, ce, h0, X', hL, e1, e2, ⟨u, hp, hb, hF⟩, hce, hcv, hcl, st⟩
  · cases hv
    obtain ⟨k1, k2, k3⟩ := vx_keep h0 e1 hS hA hf hL hF
    obtain ⟨t2, a1, b1⟩ := kk r u t T'.heap (locs ++ L) e1.symm (by rw [← e2]; exact X'.warmed.alike) hp hb k1 k2 k3 T' rfl X'
    exact ⟨t2, st t2 a1, b1⟩
  · obtain ⟨k1, k2, k3⟩ := vx_keep h0 e1 hS hAX hf hL hF
    obtain ⟨t2, a1, b1⟩ := kx E ce q u t T'.heap (locs ++ L) e1.symm (by rw [← e2]; exact X'.warmed.alike) hp hb k1 k2 k3 (by rw [e1]; exact hce) hcv hcl T' rfl X'
    exact ⟨t2, st.trans a1, b1⟩
theorem vx_callv {S SX : Type} {post : S → Prop} {px : SX → Prop} {B : S → State → Prop} {BX : String → SX → State → Prop} {AX : Nat → Prop} (hr : vx_Run p l e R s m args below meth c H locs cells slots mc ms (F0 m pc ls st0) rest (va_Qv post B A1 a) (vx_X px BX AX) free) (hS : va_S A0 H0 H locs) (hA : ∀ q, q < H.size → A1 q → A0 q) (hf : ∀ q, free q → A0 q) (hAX : ∀ q, q < H.size → AX q → A0 q)
    (kx : ∀ (E : String) (ce : Cell) (q9 : Addr) (u : SX) (t : State) (H1 : Heap) (locs1 : List Loc), t.heap = H1 → s.vm.Alike t.vm → px u → BX E u t → H.size ≤ H1.size → (∀ q : Nat, q < H.size → ¬ AX q → H1[q]? = H[q]?) → va_S A0 H0 H1 locs1 → H1[q9]? = some ce → ce.vm = .none → s.vm.findClass E = some ce.cls → vx_W p l e R s m args below meth c H1 locs1 (cells + mc) (slots + ms) Q (F0 m pc ls rest) q9)
    (kk : ∀ (u : S) (t : State) (H1 : Heap) (locs1 : List Loc), t.heap = H1 → s.vm.Alike t.vm → post u → B u t → H.size ≤ H1.size → (∀ q : Nat, q < H.size → ¬ A1 q → H1[q]? = H[q]?) → va_S A0 H0 H1 locs1 → W p l e R s m args below meth c H1 locs1 (cells + mc) (slots + ms) Q (F0 m (pc + 3) ls (rest))) : W p l e R s m args below meth c H locs cells slots Q (F0 m pc ls st0) := by
  intro T hT X
  rcases hr T hT X with ⟨v, st₀, t, T', L, h0, X', hL, e1, e2, ⟨⟨u, hv, hp, hb⟩, hF⟩, st⟩ | ⟨q, st₀, t, T', L, E, ce, h0, X', hL, e1, e2, ⟨u, hp, hb, hF⟩, hce, hcv, hcl, st⟩
  · cases hv
    obtain ⟨k1, k2, k3⟩ := vx_keep h0 e1 hS hA hf hL hF
    obtain ⟨t2, a1, b1⟩ := kk u t T'.heap (locs ++ L) e1.symm (by rw [← e2]; exact X'.warmed.alike) hp hb k1 k2 k3 T' rfl X'
    exact ⟨t2, st t2 a1, b1⟩
  · obtain ⟨k1, k2, k3⟩ := vx_keep h0 e1 hS hAX hf hL hF
    obtain ⟨t2, a1, b1⟩ := kx E ce q u t T'.heap (locs ++ L) e1.symm (by rw [← e2]; exact X'.warmed.alike) hp hb k1 k2 k3 (by rw [e1]; exact hce) hcv hcl T' rfl X'
    exact ⟨t2, st.trans a1, b1⟩
end Rows
section Ends
variable {p : Program} {l : Launch} {e : Env} {R : Room} {s : State} {m : MethodId} {args : Array Value} {below : List Frame} {meth : Method} {c : Code} {H : Heap} {locs : List Loc} {cells slots : Nat} {Q : State → Prop}
variable {mc ms : Nat} {free : Addr → Prop} {A0 A1 : Nat → Prop} {H0 : Heap} {a : Array Value} {ls : Array Slot} {st0 rest : List Value}
variable {Qc : Array Value → State → Outcome → State → Prop} {XC : String → State → State → Prop}
/-- what a body that may throw owes at its end -/
def vx_MQ (below : List Frame) (Qc : Array Value → State → Outcome → State → Prop) (XC : String → State → State → Prop) (a : Array Value) (s : State) (mc ms : Nat) (free : Addr → Prop) : State → Prop := fun t =>
  ∃ o, t.status = .running ∧ Ended t below o ∧ vx_Q Qc XC mc ms free a s o t
theorem vx_ret {g : JFrame} {mc ms : Nat} (k : W p l e R s m args below meth c H locs cells slots (MQ below Qc args s mc ms free) g) : W p l e R s m args below meth c H locs cells slots (vx_MQ below Qc XC args s mc ms free) g := by
  intro T hT X
  obtain ⟨t, a1, o, b1, b2, b3, b4⟩ := k T hT X
  exact ⟨t, a1, o, b1, b2, Or.inl ⟨b3, b4⟩⟩
/-- not caught here: it goes on to the caller -/
theorem vx_widen {g : JFrame} {q : Addr} {k n : Nat} (h1 : cells ≤ k) (h2 : slots ≤ n) (kk : vx_W p l e R s m args below meth c H locs k n Q g q) : vx_W p l e R s m args below meth c H locs cells slots Q g q := fun T hT X => kk T hT (stand_widen X h1 h2)
theorem vx_out {pc : Nat} {E : String} {ce : Cell} {q : Addr} {mc ms : Nat} (hout : ∀ x ∈ c.exceptionTable.toList, covers x pc = false) (hlocks : meth.locks = false) (hcell : H[q]? = some ce) (hv : ce.vm = .none) (hcl : s.vm.findClass E = some ce.cls)
    (hx : ∀ t : State, t.heap = H → s.vm.Alike t.vm → XC E s t) (hf : ∀ z ∈ locs, free z.base) (hc : cells ≤ mc) (hs : slots ≤ ms) :
    vx_W p l e R s m args below meth c H locs cells slots (vx_MQ below Qc XC args s mc ms free) (F0 m pc ls rest) q := by
  intro T hT X
  obtain ⟨st1, hrun, hend, hW, hsm⟩ := X.leaveThrown q (g := F0 m pc ls rest) rfl rfl rfl hout hlocks
  have hcell9 : (T.setFrames (.throwing q :: below)).heap[q]? = some ce := by
    show T.heap[q]? = some ce
    rw [hT]; exact hcell
  exact ⟨_, st1, .threw q, hrun, hend, Or.inr ⟨q, rfl, E, ce, locs, hx _ hT hW.alike, hcell9, hv, hcl, hW, hsm.mono hc hs, hf⟩⟩
theorem vx_frame {U : State} {k n : Nat} (h : s.sameButNew ({ U with vm := s.vm } : State) locs k n) : s.heap.size ≤ U.heap.size ∧ ∀ q : Nat, q < s.heap.size → (∀ z ∈ locs, z.base ≠ q) → U.heap[q]? = s.heap[q]? := by
  obtain ⟨-, h2, -, -, -, h6⟩ := h
  refine ⟨h2, fun q hq hz => ?_⟩
  obtain ⟨c9, e1, e2, e3, e4⟩ := h6 q _ (Array.getElem?_eq_getElem hq)
  have hs : c9.slots = (s.heap[q]).slots := Array.ext_getElem? fun i => e4 i fun hm => hz _ hm rfl
  have h9 : c9 = s.heap[q] := by
    rw [hs] at e2
    exact e2
  have e5 : U.heap[q]? = some c9 := e1
  rw [e5, h9, Array.getElem?_eq_getElem hq]
/-- the words of a throw but the four that speak of the heap -/
def vx_no (w : Cond) : Bool := decide (w ≠ .isRef (.static Bundle.tN "UNASSIGNED_STACK" Bundle.steD)) && decide (w ≠ .isRef (.static Bundle.tN "SUPPRESSED_SENTINEL" Bundle.listD)) && decide (w ≠ .laysStatic Bundle.tN "UNASSIGNED_STACK" Bundle.steD) && decide (w ≠ .laysStatic Bundle.tN "SUPPRESSED_SENTINEL" Bundle.listD)
def vx_at0 (own : String) (ic : Nat) (X : String) (names : List String) : List Cond := (Bundle.ownAtoms0 own ic X names).filter vx_no
def vx_atS (own : String) (ic : Nat) (X : String) (names : List String) : List Cond := (Bundle.ownAtoms own ic X names).filter vx_no
/-- a word that the tables alone decide, or a good one -/
def vx_ot (w : Cond) : Bool := w.onTables || goodWord w
theorem vx_ot_at {args a' : Array Value} {s U : State} {w : Cond} (hW : s.WarmedH U.vm) (hvm : s.vm = U.vm) (hg : vx_ot w = true) (h : w.before args s = true) : w.before a' U = true := by
  simp only [vx_ot, Bool.or_eq_true] at hg
  rcases hg with hg | hg
  · exact va_tabs hg hvm h
  · exact word_at hW (good_of_word hg) h
/-- a list's words: the good ones out of the method's own list, the others by premises of their own -/
theorem vx_hat {args : Array Value} {s : State} {L B : List Cond} (h1 : ∀ w ∈ L.filter goodWord, w.before args s = true) (h2 : ∀ w ∈ L.filter (fun w => !goodWord w), w ∈ B) (h3 : ∀ w ∈ B, w.before args s = true) : ∀ w ∈ L, w.before args s = true := by
  intro w hw
  by_cases g : goodWord w = true
  · exact h1 w (List.mem_filter.mpr ⟨hw, g⟩)
  · refine h3 w (h2 w (List.mem_filter.mpr ⟨hw, ?_⟩))
    show (!goodWord w) = true
    cases hgw : goodWord w
    · rfl
    · exact absurd hgw g
theorem vx_c {args : Array Value} {s : State} {w : Cond} {B : List Cond} (h : w.before args s = true) (t : ∀ w ∈ B, w.before args s = true) : ∀ w' ∈ w :: B, w'.before args s = true := fun w' h' => (List.mem_cons.mp h').elim (fun e => by rw [e]; exact h) (t w')
theorem vx_n {args : Array Value} {s : State} : ∀ w ∈ ([] : List Cond), w.before args s = true := fun _ h => nomatch h
theorem vx_own {args : Array Value} {s : State} {L : List Cond} (h1 : ∀ w ∈ L.filter vx_no, w.before args s = true)
    (hU : (Cond.isRef (.static Bundle.tN "UNASSIGNED_STACK" Bundle.steD)).before args s = true) (hN : (Cond.isRef (.static Bundle.tN "SUPPRESSED_SENTINEL" Bundle.listD)).before args s = true)
    (lU : (Cond.laysStatic Bundle.tN "UNASSIGNED_STACK" Bundle.steD).before args s = true) (lN : (Cond.laysStatic Bundle.tN "SUPPRESSED_SENTINEL" Bundle.listD).before args s = true) : ∀ w ∈ L, w.before args s = true := by
  intro w hw
  by_cases e1 : w = .isRef (.static Bundle.tN "UNASSIGNED_STACK" Bundle.steD)
  · rw [e1]; exact hU
  · by_cases e2 : w = .isRef (.static Bundle.tN "SUPPRESSED_SENTINEL" Bundle.listD)
    · rw [e2]; exact hN
    · by_cases e3 : w = .laysStatic Bundle.tN "UNASSIGNED_STACK" Bundle.steD
      · rw [e3]; exact lU
      · by_cases e4 : w = .laysStatic Bundle.tN "SUPPRESSED_SENTINEL" Bundle.listD
        · rw [e4]; exact lN
        · exact h1 w (List.mem_filter.mpr ⟨hw, by unfold vx_no; rw [decide_eq_true e1, decide_eq_true e2, decide_eq_true e3, decide_eq_true e4]; rfl⟩)
/-- where a static field lies, its class's statics cell in H -/
def vx_L (C n d : String) (A : Nat → Prop) (U : State) (H : Heap) : Prop := ∃ (c : ClassId) (k : Class) (i : Nat) (f : Field) (a : Nat) (cell : Cell), U.vm.findClass C = some c ∧ U.fieldFound? C n d = some (c, k, i, f) ∧ f.isStatic = true ∧ k.statics = some a ∧ H[a]? = some cell ∧ cell.vm.isStatics = true ∧ cell.cls = c ∧ f.slot < cell.slots.size ∧ k.staticTypes[f.slot]? = some f.type ∧ ¬ A a
theorem vx_L.moved {C n d : String} {A : Nat → Prop} {u U : State} {H : Heap} (hvm : u.vm.Alike U.vm) (h : vx_L C n d A u H) : vx_L C n d A U H := by
  obtain ⟨c, k, i, f, a, cell, h1, h2, h3, h4, h5, h6, h7, h8, h9, h10⟩ := h
  obtain ⟨k', hi', he⟩ := State.fieldFound?_setVm hvm h2
  exact ⟨c, k', i, f, a, cell, by rw [hvm.findClass]; exact h1, hi', h3, by rw [he]; exact h4, h5, h6, h7, h8, by rw [he]; exact h9, h10⟩
theorem vx_L.kept {C n d : String} {A : Nat → Prop} {U : State} {H H1 : Heap} (h : vx_L C n d A U H) (hq : ∀ a : Nat, a < H.size → ¬ A a → H1[a]? = H[a]?) : vx_L C n d A U H1 := by
  obtain ⟨c, k, i, f, a, cell, h1, h2, h3, h4, h5, h6, h7, h8, h9, h10⟩ := h
  exact ⟨c, k, i, f, a, cell, h1, h2, h3, h4, by rw [hq a (Array.getElem?_eq_some_iff.mp h5).1 h10]; exact h5, h6, h7, h8, h9, h10⟩
theorem vx_L.narrow {C n d : String} {A B : Nat → Prop} {U : State} {H : Heap} (h : vx_L C n d A U H) (hAB : ∀ q, B q → A q) : vx_L C n d B U H := by
  obtain ⟨c, k, i, f, a, cell, h1, h2, h3, h4, h5, h6, h7, h8, h9, h10⟩ := h
  exact ⟨c, k, i, f, a, cell, h1, h2, h3, h4, h5, h6, h7, h8, h9, fun z => h10 (hAB _ z)⟩
theorem vx_L.word {C n d : String} {A : Nat → Prop} {s : State} {args : Array Value} (h : vx_L C n d A s s.heap) : (Cond.laysStatic C n d).before args s = true := by
  obtain ⟨c, k, i, f, a, cell, h1, h2, h3, h4, h5, h6, h7, h8, h9, -⟩ := h
  show (Cond.laysStatic C n d).holds args s none s [] = true
  exact Cond.laysStatic_of h1 h2 h3 h4 h5 h6 h7 h8 h9
/-- .. and what it holds: null or some reference -/
def vx_Zq (C n d : String) (A : Nat → Prop) (U : State) (H : Heap) : Prop := va_Zq C n d A U H ∧ vx_L C n d A U H
theorem vx_Zq.moved {C n d : String} {A : Nat → Prop} {u U : State} {H : Heap} (hvm : u.vm.Alike U.vm) (h : vx_Zq C n d A u H) : vx_Zq C n d A U H := ⟨va_Zq.moved hvm h.1, vx_L.moved hvm h.2⟩
theorem vx_Zq.kept {C n d : String} {A : Nat → Prop} {U : State} {H H1 : Heap} (h : vx_Zq C n d A U H) (hq : ∀ a : Nat, a < H.size → ¬ A a → H1[a]? = H[a]?) : vx_Zq C n d A U H1 := ⟨va_Zq.kept h.1 hq, vx_L.kept h.2 hq⟩
theorem vx_Zq.narrow {C n d : String} {A B : Nat → Prop} {U : State} {H : Heap} (h : vx_Zq C n d A U H) (hAB : ∀ q, B q → A q) : vx_Zq C n d B U H := ⟨va_Zq.narrow h.1 hAB, vx_L.narrow h.2 hAB⟩
theorem vx_Zqof {args : Array Value} {s : State} {C n d : String} {A : Nat → Prop} (hl : (Cond.laysStatic C n d).before args s = true) (hini : (Cond.initialized C).before args s = true) (h : (Cond.isRef (.static C n d)).before args s = true) (hA : ∀ a : Nat, a < s.heap.size → ¬ A a) : vx_Zq C n d A s s.heap := by
  refine ⟨va_Zqof hl hini h hA, ?_⟩
  obtain ⟨c, k, i, f, a, cell, h1, h2, h3, h4, h5, h6, h7, h8, h9⟩ := Cond.laysStatic_spec hl
  exact ⟨c, k, i, f, a, cell, h1, h2, h3, h4, h5, h6, h7, h8, h9, hA a (Array.getElem?_eq_some_iff.mp h5).1⟩
theorem vx_isRef {C n d : String} {v : Value} {A : Nat → Prop} {s : State} {args : Array Value} (h : va_Z C n d v A s s.heap) (hv : v.isRef = true) : (Cond.isRef (.static C n d)).before args s = true := by
  obtain ⟨cf, kf, fi, f, a, cell, h1, h2, h3, h4, h5, h6, h7, -⟩ := h
  have he : (Term.static C n d).eval args s none [] s = some v := by
    simp [Term.eval, State.fieldNamed?, h1, h2, h4, h5, h6, h7]
  simp only [Cond.before, Cond.holds, Cond.value, he]
  cases v <;> simp_all [Value.isRef]
theorem vx_isRefq {C n d : String} {A : Nat → Prop} {s : State} {args : Array Value} (h : va_Zq C n d A s s.heap) : (Cond.isRef (.static C n d)).before args s = true := by
  rcases h with h | ⟨t, h⟩
  · exact vx_isRef h rfl
  · exact vx_isRef h rfl
/-- the same frame, seen from here: as if the method were called anew in this heap -/
theorem vx_rebase {T : State} (X : Stand p l e R s m args below meth c T locs cells slots) {R' : Room} (hf : R'.frames ≤ R.frames) (hl : R'.locals ≤ R.locals) (hc : cells + R'.cells ≤ R.cells) (hs : slots + R'.slots ≤ R.slots) :
    Stand p l e R' ((T.setVm s.vm).setFrames (.invoking m args :: below)) m args below meth c T [] 0 0 := by
  have htop : (T.setVm s.vm).topJava?.isSome := X.here.top
  have hF : ((T.setVm s.vm).setFrames (.invoking m args :: below)).frames = .invoking m args :: below := State.frames_setFrames _ (State.cur_lt_of_top htop)
  obtain ⟨g₀, hg0⟩ := Option.isSome_iff_exists.mp htop
  obtain ⟨r, hr⟩ := State.topJava?_eq_some.mp hg0
  have hl9 : e.platform.stackLimits (T.setVm s.vm).me = e.platform.stackLimits s.me := X.limits
  have hb9 : (T.setVm s.vm).me.stackBytes = s.me.stackBytes := X.bytes
  refine ⟨X.admits, X.cas, X.clock, hF, ?_, X.hears, X.method, X.code, X.here, X.tail, X.warmed, ?_, ?_, ?_⟩
  · have h := X.room
    have hU : ((T.setVm s.vm).setFrames (.invoking m args :: below)).localsInUse = s.localsInUse := by
      rw [State.localsInUse_invoking hF (meth := meth) (c := c) X.method X.code, State.localsInUse_invoking X.frames X.method X.code]
    simp only [State.hasRoom, Bool.and_eq_true, decide_eq_true_eq] at h ⊢
    obtain ⟨⟨⟨⟨h1, h2, h3, h4, h5, h6⟩, h7⟩, h8⟩, h9⟩ := h
    rw [X.frames, List.length_cons] at h2 h3
    have q1 := X.heapSize
    have q2 := X.used
    simp only [hF, hU, List.length_cons, State.stackLimits_setFrames, State.stackBytes_setFrames, hl9, hb9]
    refine ⟨⟨⟨⟨by omega, by omega, by omega, by omega, by omega, h6⟩, ?_⟩, ?_⟩, X.book⟩
    · show T.heap.size + R'.cells ≤ e.platform.maxCells
      omega
    · show T.slotsUsed + R'.slots ≤ e.platform.maxSlots
      omega
  · rw [State.stackLimits_setFrames]; rfl
  · rw [State.stackBytes_setFrames]; rfl
  · refine ⟨?_, Nat.le_refl _, Nat.le_refl _, ?_, ?_, fun a c9 h9 => ⟨c9, h9, rfl, rfl, fun _ _ => rfl⟩⟩
    · obtain ⟨t, ht, -⟩ := State.frames_cons hr
      show T.setVm s.vm = { ((T.setVm s.vm).setFrames (.invoking m args :: below)).setFrames (T.setVm s.vm).frames with heap := T.heap, slotsUsed := T.slotsUsed }
      rw [State.setFrames_setFrames, State.setFrames_self ht]
      rfl
    · show T.slotsUsed = T.slotsUsed + ((T.heap.toList.drop T.heap.size).map (·.slots.size)).sum
      rw [List.drop_eq_nil_of_le (Nat.le_of_eq Array.length_toList)]
      rfl
    · show ((T.heap.toList.drop T.heap.size).map (·.slots.size)).sum ≤ 0
      rw [List.drop_eq_nil_of_le (Nat.le_of_eq Array.length_toList)]
      exact Nat.le_refl _
/-- 'throw new E()': new; dup; invokespecial; athrow -/
theorem vx_throw0 {cc : ByteArray} {pc : Nat} (hexec : p.tables.exec = Jvm.exec) (hb : c.code = cc) (hl : l.stackTraces = false) {own cls : String} {names : List String} {ik ic mc ms : Nat} {A : Nat → Prop}
    (hown : s.vm.findClass own = some m.cls) (hcls : Bundle.fit cls = true) (hnames : ∀ n ∈ names, Bundle.fit n = true)
    (hk : (Cond.classLink own ik cls).before args s = true) (hini : (Cond.initialized cls).before args s = true) (hat : ∀ w ∈ vx_at0 own ic cls names, w.before args s = true)
    (hgood : ∀ w ∈ Cond.classLink own ik cls :: Cond.initialized cls :: vx_at0 own ic cls names, vx_ot w = true)
    (hU : vx_Zq Bundle.tN "UNASSIGNED_STACK" Bundle.steD A s s.heap) (hN : vx_Zq Bundle.tN "SUPPRESSED_SENTINEL" Bundle.listD A s s.heap) (hS : va_S A s.heap H locs) (hsize : ls.size = c.maxLocals)
    (d0 : decode cc pc = .ok (.new ik, 3)) (d3 : decode cc (pc + 3) = .ok (.dup, 1)) (d4 : decode cc (pc + 4) = .ok (.invokespecial ic, 3)) (d7 : decode cc (pc + 7) = .ok (.athrow, 1))
    (hout : ∀ x ∈ c.exceptionTable.toList, covers x (pc + 7) = false)
    (hRframes : names.length + 3 < R.frames) (hRlocals : (rest.map fun v => v.category).sum + (13 * (names.length + 1) + 42) ≤ R.locals) (hRcells : cells + 1 ≤ R.cells) (hRslots : slots + 6 ≤ R.slots) (hlocks : meth.locks = false)
    (hx : ∀ t : State, s.vm.Alike t.vm → H.size ≤ t.heap.size → (∀ q : Nat, q < H.size → t.heap[q]? = H[q]?) → XC cls s t)
    (hf : ∀ z ∈ locs, free z.base) (hc : cells + 1 ≤ mc) (hs : slots + 6 ≤ ms) :
    W p l e R s m args below meth c H locs cells slots (vx_MQ below Qc XC args s mc ms free) (F0 m pc ls rest) := by
  intro T hT X
  have htr : e.platform.stackTraces = false := (show e.platform.stackTraces = l.stackTraces by rw [X.admits.platform]).trans hl
  have Y := vx_rebase X (R' := { frames := R.frames, locals := R.locals, cells := 1, slots := 6 }) (Nat.le_refl _) (Nat.le_refl _) hRcells hRslots
  obtain ⟨s', hA⟩ : ∃ z, z = (T.setVm s.vm).setFrames (.invoking m args :: below) := ⟨_, rfl⟩
  rw [← hA] at Y
  have hvm : s'.vm = s.vm := by rw [hA]; rfl
  have hhp : s'.heap = H := by rw [hA]; exact hT
  have hW0 : s.WarmedH s'.vm := by rw [hvm]; exact State.WarmedH.refl s
  have hat' : ∀ w ∈ vx_at0 own ic cls names, w.before args s' = true := fun w hw => vx_ot_at hW0 hvm.symm (hgood w (List.mem_cons_of_mem _ (List.mem_cons_of_mem _ hw))) (hat w hw)
  have hk' : (Cond.classLink own ik cls).before args s' = true := vx_ot_at hW0 hvm.symm (hgood _ List.mem_cons_self) hk
  have hini' : (Cond.initialized cls).before args s' = true := vx_ot_at hW0 hvm.symm (hgood _ (List.mem_cons_of_mem _ List.mem_cons_self)) hini
  have hU' : vx_Zq Bundle.tN "UNASSIGNED_STACK" Bundle.steD A s' s'.heap := by rw [hhp]; exact vx_Zq.moved hW0.alike (hU.kept hS.2.1)
  have hN' : vx_Zq Bundle.tN "SUPPRESSED_SENTINEL" Bundle.listD A s' s'.heap := by rw [hhp]; exact vx_Zq.moved hW0.alike (hN.kept hS.2.1)
  have h : ∀ w ∈ Bundle.ownAtoms0 own ic cls names, w.before args s' = true := vx_own hat' (vx_isRefq hU'.1) (vx_isRefq hN'.1) hU'.2.word hN'.2.word
  have hown' : s'.vm.findClass own = some m.cls := by rw [hvm]; exact hown
  have hins : (Cond.instantiable cls 6).before args s' = true := h _ (by simp [Bundle.ownAtoms0])
  obtain ⟨vm₁, cX, kX, hfX, hkX, -, -, X₁, st1⟩ := Y.newCold hexec (own := own) (C := cls) (index := ik) (n := 6) hown' hk' hins hini'
    (g := F0 m pc ls rest) rfl (by rw [hb]; exact d0) (Nat.le_refl _) (Nat.le_refl _)
  generalize hT1 : (T.setVm vm₁).pushCell { cls := cX, slots := kX.instanceTypes.map defaultValue, vm := .none } = T1 at X₁ st1
  have hcat : (Value.ref T.heap.size).category = 1 := rfl
  have hcellA : T1.heap[T.heap.size]? = some (freshCell cX kX) := by rw [← hT1]; exact State.heap_pushCell_size _ _
  have d3' : decode c.code (pc + 3) = .ok (.dup, 1) := by rw [hb]; exact d3
  obtain ⟨U, hsteps, hrun, hend, hW, hsame, ce, hce, hO⟩ := X₁.ctorThrow0 hexec htr (own := own) (cls := cls) (names := names) (ic := ic) hown' hcls hnames h (fun x hx => nomatch hx) hfX hkX hcellA (by rw [hhp, hT]; exact Nat.le_refl _)
    (g := { method := m, pc := pc + 4, locals := ls, stack := .ref T.heap.size :: .ref T.heap.size :: rest, locked := none }) rfl hsize rfl rfl (rest := rest) rfl
    (by rw [hb]; exact d4) (by rw [hb]; exact d7) hout hRframes (by simp only [List.map_cons, List.sum_cons, hcat]; omega) hlocks
  obtain ⟨f1, f2⟩ := vx_frame hsame
  rw [hhp] at f1 f2
  have hWs : s.WarmedH U.vm := State.WarmedH.trans hW0 hW
  have hcl : s.vm.findClass cls = some ce.cls := by
    have h9 := hO.cls
    rw [hvm] at h9
    exact h9
  have hall : s.sameButNew ({ U with vm := s.vm } : State) locs mc ms := by
    subst hA
    obtain ⟨e1, e2⟩ := hsame
    rw [State.setFrames_setFrames] at e1
    have h2 : (T.setVm s.vm).sameButNew ({ U with vm := s.vm } : State) [] (0 + 1) (0 + 6) := ⟨e1, e2⟩
    have h3 := X.same.trans h2
    rw [List.append_nil] at h3
    exact h3.mono hc hs
  refine ⟨U, ?_, .threw T.heap.size, hrun, hend, Or.inr ⟨T.heap.size, rfl, cls, ce, locs, hx U hWs.alike f1 (fun q hq => f2 q hq (fun z hz => nomatch hz)), hce, hO.vm, hcl, hWs, hall, hf⟩⟩
  refine st1 _ ?_
  show Steps p.tables e below (T1.setTop { method := m, pc := pc + 3, locals := ls, stack := .ref T.heap.size :: rest, locked := none }) _
  jvm_step X₁.here [X₁.here.top, hexec, d3', Value.category]
  exact hsteps
/-- 'throw new E("text")': new; dup; ldc; invokespecial; athrow -/
theorem vx_throwS {cc : ByteArray} {pc : Nat} (hexec : p.tables.exec = Jvm.exec) (hb : c.code = cc) (hl : l.stackTraces = false) {own cls text : String} {names : List String} {ik is ic mc ms sa : Nat} {A : Nat → Prop}
    (hown : s.vm.findClass own = some m.cls) (hcls : Bundle.fit cls = true) (hnames : ∀ n ∈ names, Bundle.fit n = true)
    (hk : (Cond.classLink own ik cls).before args s = true) (hini : (Cond.initialized cls).before args s = true) (hstr : vk_R own is text sa s) (hat : ∀ w ∈ vx_atS own ic cls names, w.before args s = true)
    (hgood : ∀ w ∈ Cond.classLink own ik cls :: Cond.initialized cls :: vx_atS own ic cls names, vx_ot w = true)
    (hU : vx_Zq Bundle.tN "UNASSIGNED_STACK" Bundle.steD A s s.heap) (hN : vx_Zq Bundle.tN "SUPPRESSED_SENTINEL" Bundle.listD A s s.heap) (hS : va_S A s.heap H locs) (hsize : ls.size = c.maxLocals)
    (d0 : decode cc pc = .ok (.new ik, 3)) (d3 : decode cc (pc + 3) = .ok (.dup, 1)) (d4 : decode cc (pc + 4) = .ok (.ldc is, 2)) (d6 : decode cc (pc + 6) = .ok (.invokespecial ic, 3)) (d9 : decode cc (pc + 9) = .ok (.athrow, 1))
    (hout : ∀ x ∈ c.exceptionTable.toList, covers x (pc + 9) = false)
    (hRframes : names.length + 3 < R.frames) (hRlocals : (rest.map fun v => v.category).sum + (13 * (names.length + 1) + 43) ≤ R.locals) (hRcells : cells + 1 ≤ R.cells) (hRslots : slots + 6 ≤ R.slots) (hlocks : meth.locks = false)
    (hx : ∀ t : State, s.vm.Alike t.vm → H.size ≤ t.heap.size → (∀ q : Nat, q < H.size → t.heap[q]? = H[q]?) → XC cls s t)
    (hf : ∀ z ∈ locs, free z.base) (hc : cells + 1 ≤ mc) (hs : slots + 6 ≤ ms) :
    W p l e R s m args below meth c H locs cells slots (vx_MQ below Qc XC args s mc ms free) (F0 m pc ls rest) := by
  intro T hT X
  have htr : e.platform.stackTraces = false := (show e.platform.stackTraces = l.stackTraces by rw [X.admits.platform]).trans hl
  have Y := vx_rebase X (R' := { frames := R.frames, locals := R.locals, cells := 1, slots := 6 }) (Nat.le_refl _) (Nat.le_refl _) hRcells hRslots
  obtain ⟨s', hA⟩ : ∃ z, z = (T.setVm s.vm).setFrames (.invoking m args :: below) := ⟨_, rfl⟩
  rw [← hA] at Y
  have hvm : s'.vm = s.vm := by rw [hA]; rfl
  have hhp : s'.heap = H := by rw [hA]; exact hT
  have hW0 : s.WarmedH s'.vm := by rw [hvm]; exact State.WarmedH.refl s
  have hat' : ∀ w ∈ vx_atS own ic cls names, w.before args s' = true := fun w hw => vx_ot_at hW0 hvm.symm (hgood w (List.mem_cons_of_mem _ (List.mem_cons_of_mem _ hw))) (hat w hw)
  have hk' : (Cond.classLink own ik cls).before args s' = true := vx_ot_at hW0 hvm.symm (hgood _ List.mem_cons_self) hk
  have hini' : (Cond.initialized cls).before args s' = true := vx_ot_at hW0 hvm.symm (hgood _ (List.mem_cons_of_mem _ List.mem_cons_self)) hini
  have hU' : vx_Zq Bundle.tN "UNASSIGNED_STACK" Bundle.steD A s' s'.heap := by rw [hhp]; exact vx_Zq.moved hW0.alike (hU.kept hS.2.1)
  have hN' : vx_Zq Bundle.tN "SUPPRESSED_SENTINEL" Bundle.listD A s' s'.heap := by rw [hhp]; exact vx_Zq.moved hW0.alike (hN.kept hS.2.1)
  have h : ∀ w ∈ Bundle.ownAtoms own ic cls names, w.before args s' = true := vx_own hat' (vx_isRefq hU'.1) (vx_isRefq hN'.1) hU'.2.word hN'.2.word
  have hown' : s'.vm.findClass own = some m.cls := by rw [hvm]; exact hown
  have hins : (Cond.instantiable cls 6).before args s' = true := h _ (by simp [Bundle.ownAtoms])
  obtain ⟨vm₁, cX, kX, hfX, hkX, -, -, X₁, st1⟩ := Y.newCold hexec (own := own) (C := cls) (index := ik) (n := 6) hown' hk' hins hini'
    (g := F0 m pc ls rest) rfl (by rw [hb]; exact d0) (Nat.le_refl _) (Nat.le_refl _)
  generalize hT1 : (T.setVm vm₁).pushCell { cls := cX, slots := kX.instanceTypes.map defaultValue, vm := .none } = T1 at X₁ st1
  have hcat : (Value.ref T.heap.size).category = 1 := rfl
  have hcellA : T1.heap[T.heap.size]? = some (freshCell cX kX) := by rw [← hT1]; exact State.heap_pushCell_size _ _
  have d3' : decode c.code (pc + 3) = .ok (.dup, 1) := by rw [hb]; exact d3
  have d4' : decode c.code (pc + 4) = .ok (.ldc is, 2) := by rw [hb]; exact d4
  have hstr' : vk_R own is text sa s' := vk_R.warm hW0 hstr
  obtain ⟨U, hsteps, hrun, hend, hW, hsame, ce, hce, hO⟩ := X₁.ctorThrowS hexec htr (own := own) (cls := cls) (names := names) (ic := ic) hown' hcls hnames h (fun x hx => nomatch hx) hfX hkX hcellA (by rw [hhp, hT]; exact Nat.le_refl _) (msg := .ref sa) rfl
    (g := { method := m, pc := pc + 6, locals := ls, stack := .ref sa :: .ref T.heap.size :: .ref T.heap.size :: rest, locked := none }) rfl hsize rfl rfl (rest := rest) rfl
    (by rw [hb]; exact d6) (by rw [hb]; exact d9) hout hRframes (by simp only [List.map_cons, List.sum_cons, hcat]; omega) hlocks
  obtain ⟨f1, f2⟩ := vx_frame hsame
  rw [hhp] at f1 f2
  have hWs : s.WarmedH U.vm := State.WarmedH.trans hW0 hW
  have hcl : s.vm.findClass cls = some ce.cls := by
    have h9 := hO.cls
    rw [hvm] at h9
    exact h9
  have hall : s.sameButNew ({ U with vm := s.vm } : State) locs mc ms := by
    subst hA
    obtain ⟨e1, e2⟩ := hsame
    rw [State.setFrames_setFrames] at e1
    have h2 : (T.setVm s.vm).sameButNew ({ U with vm := s.vm } : State) [] (0 + 1) (0 + 6) := ⟨e1, e2⟩
    have h3 := X.same.trans h2
    rw [List.append_nil] at h3
    exact h3.mono hc hs
  refine ⟨U, ?_, .threw T.heap.size, hrun, hend, Or.inr ⟨T.heap.size, rfl, cls, ce, locs, hx U hWs.alike f1 (fun q hq => f2 q hq (fun z hz => nomatch hz)), hce, hO.vm, hcl, hWs, hall, hf⟩⟩
  refine st1 _ ?_
  show Steps p.tables e below (T1.setTop { method := m, pc := pc + 3, locals := ls, stack := .ref T.heap.size :: rest, locked := none }) _
  jvm_step X₁.here [X₁.here.top, hexec, d3', Value.category]
  exact X₁.ldcString hexec (own := own) (text := text) (index := is) (a := sa) hown' hstr'.1 hstr'.2
    (g := { method := m, pc := pc + 4, locals := ls, stack := .ref T.heap.size :: .ref T.heap.size :: rest, locked := none }) rfl d4' _ hsteps
/-- 'throw new E("text")', the text by a wide index -/
theorem vx_throwSW {cc : ByteArray} {pc : Nat} (hexec : p.tables.exec = Jvm.exec) (hb : c.code = cc) (hl : l.stackTraces = false) {own cls text : String} {names : List String} {ik is ic mc ms sa : Nat} {A : Nat → Prop}
    (hown : s.vm.findClass own = some m.cls) (hcls : Bundle.fit cls = true) (hnames : ∀ n ∈ names, Bundle.fit n = true)
    (hk : (Cond.classLink own ik cls).before args s = true) (hini : (Cond.initialized cls).before args s = true) (hstr : vk_R own is text sa s) (hat : ∀ w ∈ vx_atS own ic cls names, w.before args s = true)
    (hgood : ∀ w ∈ Cond.classLink own ik cls :: Cond.initialized cls :: vx_atS own ic cls names, vx_ot w = true)
    (hU : vx_Zq Bundle.tN "UNASSIGNED_STACK" Bundle.steD A s s.heap) (hN : vx_Zq Bundle.tN "SUPPRESSED_SENTINEL" Bundle.listD A s s.heap) (hS : va_S A s.heap H locs) (hsize : ls.size = c.maxLocals)
    (d0 : decode cc pc = .ok (.new ik, 3)) (d3 : decode cc (pc + 3) = .ok (.dup, 1)) (d4 : decode cc (pc + 4) = .ok (.ldc_w is, 3)) (d7 : decode cc (pc + 7) = .ok (.invokespecial ic, 3)) (d10 : decode cc (pc + 10) = .ok (.athrow, 1))
    (hout : ∀ x ∈ c.exceptionTable.toList, covers x (pc + 10) = false)
    (hRframes : names.length + 3 < R.frames) (hRlocals : (rest.map fun v => v.category).sum + (13 * (names.length + 1) + 43) ≤ R.locals) (hRcells : cells + 1 ≤ R.cells) (hRslots : slots + 6 ≤ R.slots) (hlocks : meth.locks = false)
    (hx : ∀ t : State, s.vm.Alike t.vm → H.size ≤ t.heap.size → (∀ q : Nat, q < H.size → t.heap[q]? = H[q]?) → XC cls s t)
    (hf : ∀ z ∈ locs, free z.base) (hc : cells + 1 ≤ mc) (hs : slots + 6 ≤ ms) :
    W p l e R s m args below meth c H locs cells slots (vx_MQ below Qc XC args s mc ms free) (F0 m pc ls rest) := by
  intro T hT X
  have htr : e.platform.stackTraces = false := (show e.platform.stackTraces = l.stackTraces by rw [X.admits.platform]).trans hl
  have Y := vx_rebase X (R' := { frames := R.frames, locals := R.locals, cells := 1, slots := 6 }) (Nat.le_refl _) (Nat.le_refl _) hRcells hRslots
  obtain ⟨s', hA⟩ : ∃ z, z = (T.setVm s.vm).setFrames (.invoking m args :: below) := ⟨_, rfl⟩
  rw [← hA] at Y
  have hvm : s'.vm = s.vm := by rw [hA]; rfl
  have hhp : s'.heap = H := by rw [hA]; exact hT
  have hW0 : s.WarmedH s'.vm := by rw [hvm]; exact State.WarmedH.refl s
  have hat' : ∀ w ∈ vx_atS own ic cls names, w.before args s' = true := fun w hw => vx_ot_at hW0 hvm.symm (hgood w (List.mem_cons_of_mem _ (List.mem_cons_of_mem _ hw))) (hat w hw)
  have hk' : (Cond.classLink own ik cls).before args s' = true := vx_ot_at hW0 hvm.symm (hgood _ List.mem_cons_self) hk
  have hini' : (Cond.initialized cls).before args s' = true := vx_ot_at hW0 hvm.symm (hgood _ (List.mem_cons_of_mem _ List.mem_cons_self)) hini
  have hU' : vx_Zq Bundle.tN "UNASSIGNED_STACK" Bundle.steD A s' s'.heap := by rw [hhp]; exact vx_Zq.moved hW0.alike (hU.kept hS.2.1)
  have hN' : vx_Zq Bundle.tN "SUPPRESSED_SENTINEL" Bundle.listD A s' s'.heap := by rw [hhp]; exact vx_Zq.moved hW0.alike (hN.kept hS.2.1)
  have h : ∀ w ∈ Bundle.ownAtoms own ic cls names, w.before args s' = true := vx_own hat' (vx_isRefq hU'.1) (vx_isRefq hN'.1) hU'.2.word hN'.2.word
  have hown' : s'.vm.findClass own = some m.cls := by rw [hvm]; exact hown
  have hins : (Cond.instantiable cls 6).before args s' = true := h _ (by simp [Bundle.ownAtoms])
  obtain ⟨vm₁, cX, kX, hfX, hkX, -, -, X₁, st1⟩ := Y.newCold hexec (own := own) (C := cls) (index := ik) (n := 6) hown' hk' hins hini'
    (g := F0 m pc ls rest) rfl (by rw [hb]; exact d0) (Nat.le_refl _) (Nat.le_refl _)
  generalize hT1 : (T.setVm vm₁).pushCell { cls := cX, slots := kX.instanceTypes.map defaultValue, vm := .none } = T1 at X₁ st1
  have hcat : (Value.ref T.heap.size).category = 1 := rfl
  have hcellA : T1.heap[T.heap.size]? = some (freshCell cX kX) := by rw [← hT1]; exact State.heap_pushCell_size _ _
  have d3' : decode c.code (pc + 3) = .ok (.dup, 1) := by rw [hb]; exact d3
  have d4' : decode c.code (pc + 4) = .ok (.ldc_w is, 3) := by rw [hb]; exact d4
  have hstr' : vk_R own is text sa s' := vk_R.warm hW0 hstr
  obtain ⟨U, hsteps, hrun, hend, hW, hsame, ce, hce, hO⟩ := X₁.ctorThrowS hexec htr (own := own) (cls := cls) (names := names) (ic := ic) hown' hcls hnames h (fun x hx => nomatch hx) hfX hkX hcellA (by rw [hhp, hT]; exact Nat.le_refl _) (msg := .ref sa) rfl
    (g := { method := m, pc := pc + 7, locals := ls, stack := .ref sa :: .ref T.heap.size :: .ref T.heap.size :: rest, locked := none }) rfl hsize rfl rfl (rest := rest) rfl
    (by rw [hb]; exact d7) (by rw [hb]; exact d10) hout hRframes (by simp only [List.map_cons, List.sum_cons, hcat]; omega) hlocks
  obtain ⟨f1, f2⟩ := vx_frame hsame
  rw [hhp] at f1 f2
  have hWs : s.WarmedH U.vm := State.WarmedH.trans hW0 hW
  have hcl : s.vm.findClass cls = some ce.cls := by
    have h9 := hO.cls
    rw [hvm] at h9
    exact h9
  have hall : s.sameButNew ({ U with vm := s.vm } : State) locs mc ms := by
    subst hA
    obtain ⟨e1, e2⟩ := hsame
    rw [State.setFrames_setFrames] at e1
    have h2 : (T.setVm s.vm).sameButNew ({ U with vm := s.vm } : State) [] (0 + 1) (0 + 6) := ⟨e1, e2⟩
    have h3 := X.same.trans h2
    rw [List.append_nil] at h3
    exact h3.mono hc hs
  refine ⟨U, ?_, .threw T.heap.size, hrun, hend, Or.inr ⟨T.heap.size, rfl, cls, ce, locs, hx U hWs.alike f1 (fun q hq => f2 q hq (fun z hz => nomatch hz)), hce, hO.vm, hcl, hWs, hall, hf⟩⟩
  refine st1 _ ?_
  show Steps p.tables e below (T1.setTop { method := m, pc := pc + 3, locals := ls, stack := .ref T.heap.size :: rest, locked := none }) _
  jvm_step X₁.here [X₁.here.top, hexec, d3', Value.category]
  exact X₁.ldcStringW hexec (own := own) (text := text) (index := is) (a := sa) hown' hstr'.1 hstr'.2
    (g := { method := m, pc := pc + 4, locals := ls, stack := .ref T.heap.size :: .ref T.heap.size :: rest, locked := none }) rfl d4' _ hsteps
end Ends
section Bodies
variable {l : Launch}
theorem vx_ofW {y : MethodName} {ws ws' : List Cond} {rm : Room} {Pc : Array Value → State → Prop} {Qc : Array Value → State → Outcome → State → Prop} {XC : String → State → State → Prop} {mc ms : Nat} {free : Addr → Prop} {cc : ByteArray} {maxL : Nat} {ret : Option FieldType}
    (hy : plainName y.cls = true) (hw : ws = Cond.code y cc maxL ret :: ws')
    (body : ∀ p e s m args below meth c s₁, BodyLoose p l y (headSpec ws rm) cc maxL ret e s m args below meth c s₁ → c.maxLocals = maxL → (∀ x ∈ c.exceptionTable.toList, False) → Pc args s →
      W p l e (headSpec ws rm).room s m args below meth c s.heap [] 0 0 (vx_MQ below Qc XC args s mc ms free) (entryFrame m args maxL)) : vx_Met l y ws rm Pc Qc XC mc ms free := by
  refine MetFree.of_bodyS (code := cc) (maxLocals := maxL) (ret := ret) hy ?_ ?_
  · intro args s m h hn
    obtain ⟨meth, c, h1, h2, h3, h4, h5, h6, -, -⟩ := Cond.code_spec hn (atoms_spec (ws := ws) h _ (by rw [hw]; exact List.mem_cons_self))
    exact ⟨meth, c, h1, h2, h3, h4, h5, h6⟩
  · intro p e s m args below meth c s₁ B hml hP _
    have hh0 : s₁.heap = s.heap := by rw [B.state]; rfl
    have ht : ∀ x ∈ c.exceptionTable.toList, False := by
      obtain ⟨meth9, c9, h1, h2, -, -, -, -, h7, -⟩ := Cond.code_spec B.named (atoms_spec (ws := ws) B.pre _ (by rw [hw]; exact List.mem_cons_self))
      cases Option.some.inj (h1.symm.trans B.method)
      cases Option.some.inj (h2.symm.trans (Stand.of_body B).code)
      intro x hx
      rw [Array.isEmpty_iff.mp h7] at hx
      cases hx
    obtain ⟨t, a1, o, b1, b2, b3⟩ := body p e s m args below meth c s₁ B hml ht hP s₁ hh0 (Stand.of_body B)
    exact ⟨t, o, a1, b1, b2, b3⟩
/-- the table of a body with handlers -/
theorem vx_table {p : Program} {x y : MethodName} {S : Spec} {cc bytes : ByteArray} {maxL maxL' : Nat} {ret ret' : Option FieldType} {e : Env} {s s₁ : State} {m : MethodId} {args : Array Value} {below : List Frame} {meth : Method} {c : Code} {hh : List (Nat × Nat × Nat × Nat)}
    (B : BodyLoose p l y S cc maxL ret e s m args below meth c s₁) (h : (Cond.codeWith y bytes maxL' ret' hh).before args s = true) : c.exceptionTable.toList = tableOf hh := by
  obtain ⟨m9, meth9, c9, hn9, h1, h2, -, -, h6, -⟩ := Cond.codeWith_spec h
  cases Option.some.inj (hn9.symm.trans B.named)
  cases Option.some.inj (h1.symm.trans B.method)
  cases Option.some.inj (h2.symm.trans (Stand.of_body B).code)
  rw [← h6, table_eq]
end Bodies
end VXA
/-! ===== END ===== -/
/-! ===== BEGIN a static call of a method with an exception table ===== -/
section VXS
variable {p : Program} {l : Launch} {e : Env} {R : Room} {s : State} {m : MethodId} {args : Array Value} {below : List Frame} {meth : Method} {c : Code} {T : State} {H : Heap} {locs : List Loc} {cells slots : Nat}
abbrev vx_CSW (R : Room) (s : State) (args : Array Value) (own : String) (index : Nat) (y : MethodName) (bytes : ByteArray) (maxL : Nat) (ret : Option FieldType) (hh : List (Nat × Nat × Nat × Nat)) (ws : List Cond) (rm : Room) (mc ms n : Nat) : Prop :=
  (rm.cells = mc ∧ rm.slots = ms ∧ rm.frames + 1 ≤ R.frames ∧ 8 + (maxL + 11) + rm.locals ≤ R.locals ∧ (∀ w ∈ ws, ∀ (a' : Array Value) (U : State), s.WarmedH U.vm → w.before a' U = true) ∧ Cond.codeWith y bytes maxL ret hh ∈ ws) ∧
  (Cond.codeWith y bytes maxL ret hh).before args s = true ∧ (Cond.initialized y.cls).before args s = true ∧ (y.cls ≠ "java/lang/invoke/MethodHandle" ∧ y.cls ≠ "java/lang/invoke/VarHandle") ∧
  (∀ sig, parseMethodDescriptor y.desc = some sig → n = sig.parameters.length) ∧ (Cond.methodLink own index y).before args s = true ∧ (Cond.static y).before args s = true
theorem vx_cwSW {own : String} {index maxL mc ms : Nat} {y : MethodName} {bytes : ByteArray} {ret : Option FieldType} {hh : List (Nat × Nat × Nat × Nat)} {Ts ws ws' : List Cond} {rm : Room} (n : Nat) (ht : ∀ w ∈ Ts, w.before args s = true) (hT : GoodIn Ts (va_wsS own index y ws)) (hw : ws = Cond.codeWith y bytes maxL ret hh :: ws') (hrc : rm.cells = mc) (hrs : rm.slots = ms)
    (hd : y.cls ≠ "java/lang/invoke/MethodHandle" ∧ y.cls ≠ "java/lang/invoke/VarHandle" ∧ (parseMethodDescriptor y.desc).map (fun d => d.parameters.length) = some n) (hR : rm.frames + 1 ≤ R.frames ∧ 8 + (maxL + 11) + rm.locals ≤ R.locals) :
    vx_CSW R s args own index y bytes maxL ret hh ws rm mc ms n := by
  have ok : ∀ w ∈ va_wsS own index y ws, w.before args s = true := fun w h => ht w (hT w h).1
  have hG : GoodIn Ts ws := fun w h => hT w (by unfold va_wsS; exact List.mem_append_right _ h)
  have hc : Cond.codeWith y bytes maxL ret hh ∈ ws := by rw [hw]; exact List.mem_cons_self
  refine ⟨⟨hrc, hrs, hR.1, hR.2, pay_in ht hG, hc⟩, ht _ (hG _ hc).1, ok _ (by simp [va_wsS]), ⟨hd.1, hd.2.1⟩, fun sig h => ?_, ok _ (by simp [va_wsS]), ok _ (by simp [va_wsS])⟩
  have h2 := hd.2.2
  rw [h] at h2
  exact (Option.some.inj h2).symm
theorem vx_callSW (X : Stand p l e R s m args below meth c T locs cells slots) (hexec : p.tables.exec = Jvm.exec) {own : String} {index : Nat} {y : MethodName} {bytes : ByteArray} {maxL : Nat} {ret : Option FieldType} {hh : List (Nat × Nat × Nat × Nat)}
    (hown : s.vm.findClass own = some m.cls) (hlink : (Cond.methodLink own index y).before args s = true) (hstat : (Cond.static y).before args s = true) (hinit : (Cond.initialized y.cls).before args s = true)
    (hcode : (Cond.codeWith y bytes maxL ret hh).before args s = true) (hy : y.cls ≠ "java/lang/invoke/MethodHandle" ∧ y.cls ≠ "java/lang/invoke/VarHandle")
    {W9 : Nat} {Pre : Pt → Array Value → Prop} {Post : Pt → Array Value → Option Value → Pt → Prop} (hK : Back l R p e below s args y 3 W9 Pre Post)
    {g : JFrame} (hg : g.method = m) (hsize : g.locals.size = c.maxLocals) {argsL rest : List Value} (hlen : ∀ sig, parseMethodDescriptor y.desc = some sig → argsL.length = sig.parameters.length)
    (hstack : g.stack = argsL.reverse ++ rest) (hW : 2 * g.monitorRoom + (rest.map fun v => v.category).sum ≤ W9) (hdg : decode c.code g.pc = .ok (.invokestatic index, 3))
    (hpre : ∀ vm₁, s.WarmedH vm₁ → Pre ⟨T.setVm vm₁, locs, cells, slots⟩ argsL.toArray) :
    ∃ (v : Option Value) (vm₁ : Vm) (B : Pt), s.WarmedH vm₁ ∧ Stand p l e R s m args below meth c B.U B.locs B.cells B.slots ∧ Post ⟨T.setVm vm₁, locs, cells, slots⟩ argsL.toArray v B ∧
      ∀ target, Steps p.tables e below (B.U.setTop { g with pc := g.pc + 3, stack := v.toList ++ rest }) target → Steps p.tables e below (T.setTop g) target := by
  obtain ⟨mk, methM, cM, hnamed, hmethM, -, -, -, -, -, -, hsigM⟩ := Cond.codeWith_spec hcode
  have hstatic : methM.isStatic = true := Cond.static_spec hnamed hmethM hstat
  obtain ⟨kP, hkP, -⟩ := className_of_methodNamed hnamed
  have hinitP : kP.init = .initialized := Cond.initialized_spec (findClass_of_methodNamed hnamed) hkP hinit
  obtain ⟨vm₁, X₁, hstep₁⟩ := X.invokestatic hexec hown hlink hnamed hmethM hstatic hkP hinitP hy (g := g) hg (argsL := argsL) (rest := rest) (hlen _ hsigM) hstack hdg
  obtain ⟨v, B, X', hpost, hsteps⟩ := hK m meth c ⟨T.setVm vm₁, locs, cells, slots⟩ { g with stack := rest } (.invokestatic index) mk argsL.toArray X₁ hg hsize hdg hW (X₁.named hnamed) (hpre vm₁ X₁.warmed)
  exact ⟨v, vm₁, B, X₁.warmed, X', hpost, fun target h => hstep₁ _ fun acts => by rw [doInvoke_state]; exact hsteps.trans h⟩
theorem vx_runSW {y : MethodName} {bytes cc : ByteArray} {maxL nL mc ms n index : Nat} {ret : Option FieldType} {hh : List (Nat × Nat × Nat × Nat)} {ws : List Cond} {rm : Room} {Pc : Array Value → State → Prop} {Qc : Array Value → State → Outcome → State → Prop} {free : Addr → Prop} {Ts : List Cond} {own : String} {As rest : List Value} {g : JFrame}
    (S : CallFix p m c cc nL s args Ts own) (hM : Met l y ws rm Pc Qc mc ms free) (cw : vx_CSW R s args own index y bytes maxL ret hh ws rm mc ms n) (hp : PreS s H Pc As)
    (hg : g.method = m) (hn : As.length = n) (hsize : g.locals.size = nL) (hstack : g.stack = As.reverse ++ rest) (hW : 2 * g.monitorRoom + (rest.map fun v => v.category).sum ≤ 8) (hdg : decode cc g.pc = .ok (.invokestatic index, 3)) (hf : cells + mc ≤ R.cells ∧ slots + ms ≤ R.slots) :
    va_Run p l e R s m args below meth c H locs cells slots mc ms g rest (Qc As.toArray) (free) := by
  obtain ⟨⟨hrc, hrs, hfr, hlo, hws, hcw⟩, hcode, hini, hy, hlen, hl, hstt⟩ := cw
  have hK : Back l R p e below s args y 3 8 (PreOf R mc ms Pc) (PostOf Qc mc ms free) := va_backW (hh := hh) (bytes := bytes) (maxL := maxL) (ret := ret) hM hp.1 hrc hrs hfr hlo hws hcw (fun a' U hW => word_at hW (Or.inl (by first | rfl | simp [Cond.onTables, Cond.keeps, Cond.steady])) hini)
  obtain ⟨hx, hb, hml, ho, -⟩ := S
  intro T hT X
  obtain ⟨v, vm₁, ⟨U', l2, c2, s2⟩, hW₁, X', ⟨g', mk, t, L, e1, e2, hq, h1, hL, h2, h3⟩, st⟩ := vx_callSW X hx (hh := hh) (bytes := bytes) (maxL := maxL) (ret := ret) ho hl hstt hini hcode hy hK hg (hsize.trans hml.symm) (argsL := As) (rest := rest) (fun sig h => hn.trans (hlen sig h)) hstack hW (by rw [hb]; exact hdg)
    (fun vm₁ hW₁ => ⟨hf.1, hf.2, hp.2 (T.setVm vm₁) hT hW₁⟩)
  dsimp only [Pt.U, Pt.locs, Pt.cells, Pt.slots] at X' e1 e2 h1 h2 h3 st
  subst h1; subst h2; subst h3
  exact ⟨v, (T.setVm vm₁).calling g' mk As.toArray, t, U', L, hT, X', hL, e1, e2, hq, st⟩
/-- a thing of a world lies in the heap -/
theorem vx_lt {D : va_G} {cl : List vw_C} {ws : va_W} {H1 : Heap} (h : va_P D cl ws H1) {k : Nat} {q : Nat × va_E} (hk : ws[k]? = some q) : q.1 < H1.size := (h k q hk).lt
end VXS
/-! ===== END ===== -/
/-! ===== BEGIN methods with a table of their own: called by a name, returning or throwing ===== -/
section VXH
/-! vx_backW, vx_callVX, vx_callSX, vx_callVW, vx_runVW, vx_runVX, vx_runSX, vx_ofWH follow the same proofs as their sisters above (Free/Laws.lean, Shelf42/LK1.lean); vx_outP calls Shelf42/NT130.lean (outThrough). -/
section
variable {l : Launch} {R : Room} {p : Program} {e : Env} {below : List Frame} {s : State} {sargs : Array Value} {y : MethodName} {len W9 : Nat}
theorem vx_backW {ws : List Cond} {rm : Room} {Pc : Array Value → State → Prop} {Qc : Array Value → State → Outcome → State → Prop} {XC : String → State → State → Prop} {mc ms : Nat} {free : Addr → Prop} {bytes : ByteArray} {maxL : Nat} {ret : Option FieldType} {hh : List (Nat × Nat × Nat × Nat)}
    (hM : vx_Met l y ws rm Pc Qc XC mc ms free) (hblind : FrameBlind Pc) (hrc : rm.cells = mc) (hrs : rm.slots = ms)
    (hframes : rm.frames + 1 ≤ R.frames) (hlocals : W9 + (maxL + 11) + rm.locals ≤ R.locals)
    (hws : ∀ w ∈ ws, ∀ a' U, s.WarmedH U.vm → w.before a' U = true) (hcode : Cond.codeWith y bytes maxL ret hh ∈ ws) (hinit : ∀ a' U, s.WarmedH U.vm → (Cond.initialized y.cls).before a' U = true) :
    vx_Back l R p e below s sargs y len W9 (PreOf R mc ms Pc) (PostOf Qc mc ms free) (vx_Post XC mc ms free) := by
  intro m meth c A g ig mk a X hg hsize hdg hW hn hp
  have h1 : (headSpec ws rm).pre.before a A.U = true := atoms_intro fun w hw => hws w hw _ _ X.warmed
  have h2 : (Cond.codeWith y bytes maxL ret hh).before a A.U = true := hws _ hcode _ _ X.warmed
  have h3 : (Cond.initialized y.cls).before a A.U = true := hinit _ _ X.warmed
  have h4 : A.cells + (headSpec ws rm).room.cells ≤ R.cells := by rw [show (headSpec ws rm).room.cells = mc from hrc]; exact hp.1
  have h5 : A.slots + (headSpec ws rm).room.slots ≤ R.slots := by rw [show (headSpec ws rm).room.slots = ms from hrs]; exact hp.2.1
  have hPc : Pc a (A.U.calling g mk a) := hblind _ _ _ _ hp.2.2
  obtain ⟨U, Ls, c0, s0⟩ := A
  dsimp only [Pt.U, Pt.locs, Pt.cells, Pt.slots] at h1 h2 h3 h4 h5 X hn hPc ⊢
  obtain ⟨m9, methY, cY, hn9, hmY, hcY, -, hlY, -⟩ := Cond.codeWith_spec h2
  cases Option.some.inj (hn9.symm.trans hn)
  obtain ⟨kY, hkY, -⟩ := className_of_methodNamed hn
  have hinitY : kY.init = .initialized := Cond.initialized_spec (findClass_of_methodNamed hn) hkY h3
  have h : At U g.method c below := by rw [hg]; exact X.here
  have hlocals9 : W9 + (maxL + 11) + (headSpec ws rm).room.locals ≤ R.locals := hlocals
  have happ : (headSpec ws rm).appliesLoose y e.platform (U.calling g mk a) = true :=
    Spec.appliesLoose_calling (g := g) h hdg hn hkY hinitY
      (X.room_calling (g := g) (R' := (headSpec ws rm).room) hsize hmY hcY hframes (by rw [hlY]; omega) h4 h5) h1
  obtain ⟨mid, hmid⟩ := h.above
  have hfr : (U.setTop g).frames = (.java g :: mid) ++ below := by rw [State.frames_setTop' g h.top, hmid]; rfl
  obtain ⟨o, s₂, hsteps, -, hend, hq⟩ := Steps.callFree hM p X.admits X.cas X.clock (acts := []) hfr happ hPc trivial
  have hq' : vx_Q Qc XC mc ms free a (U.calling g mk a) o s₂ := hq
  rw [State.frames_setTop' g h.top] at hend
  obtain ⟨g₀, hg0⟩ := Option.isSome_iff_exists.mp h.top
  obtain ⟨r, hr⟩ := State.topJava?_eq_some.mp hg0
  have hr' : (({ U with heap := s₂.heap, slotsUsed := s₂.slotsUsed } : State).setVm s₂.vm).frames = .java g₀ :: r := hr
  rcases hq' with ⟨hqc, L, hfe, hL⟩ | ⟨q, rfl, E, ce, L, hx, hce, hcv, hcl, hW₂, hsm, hL⟩
  · obtain ⟨⟨v, rfl⟩, hW₂, e2, q2, q3, q4, q5, q6⟩ := id hfe
    have e3 : s₂ = ({ (U.calling g mk a).setFrames s₂.frames with heap := s₂.heap, slotsUsed := s₂.slotsUsed } : State).setVm s₂.vm := by
      have : s₂ = ({ s₂ with vm := (U.calling g mk a).vm } : State).setVm s₂.vm := rfl
      rw [e2] at this
      exact this
    obtain ⟨c₂, i₂, len₂, hc₂, hd₂, hf₂⟩ := hend
    have hW' : U.WarmedH s₂.vm := hW₂
    have hcc : c₂ = c := by
      have h1 : s₂.code? g.method = U.code? g.method := by
        rw [State.code?_eq, State.code?_eq, hW'.alike.method?]
      exact Option.some.inj (hc₂.symm.trans (h1.trans h.code))
    subst hcc
    have hlen : len₂ = len := by rw [hdg] at hd₂; cases hd₂; rfl
    subst hlen
    have hs₂ : s₂ = (({ U with heap := s₂.heap, slotsUsed := s₂.slotsUsed } : State).setVm s₂.vm).setTop { g with pc := g.pc + len₂, stack := v.toList ++ g.stack } := by
      refine e3.trans ?_
      rw [hf₂, State.calling_eq h.top, State.setFrames_setFrames, State.setTop_of_frames _ hr', hr]
      rfl
    have hsame : U.sameButNew ({ U with heap := s₂.heap, slotsUsed := s₂.slotsUsed } : State) L mc ms := by
      refine ⟨?_, q2, q3, q4, q5, q6⟩
      obtain ⟨t, ht, -⟩ := State.frames_cons hr
      show ({ U with heap := s₂.heap, slotsUsed := s₂.slotsUsed } : State) = { U.setFrames U.frames with heap := s₂.heap, slotsUsed := s₂.slotsUsed }
      rw [State.setFrames_self ht]
    subst hg
    refine Or.inl ⟨v, ⟨(({ U with heap := s₂.heap, slotsUsed := s₂.slotsUsed } : State).setVm s₂.vm), Ls ++ L, c0 + mc, s0 + ms⟩,
      ⟨X.admits, X.cas, X.clock, X.frames, X.room, X.hears, X.method, X.code, (X.here.setHeapUsed s₂.heap s₂.slotsUsed).setVm hW'.alike, X.tail, State.WarmedH.trans X.warmed hW', X.limits, X.bytes, X.same.trans (hsame.setVm s.vm)⟩,
      ⟨g, mk, s₂, L, rfl, rfl, hqc, rfl, hL, rfl, rfl⟩, ?_⟩
    show Steps p.tables e below _ ((({ U with heap := s₂.heap, slotsUsed := s₂.slotsUsed } : State).setVm s₂.vm).setTop { g with pc := g.pc + len₂, stack := v.toList ++ g.stack })
    rw [← hs₂]
    exact hsteps
  · obtain ⟨e2, q2, q3, q4, q5, q6⟩ := id hsm
    have e3 : s₂ = ({ (U.calling g mk a).setFrames s₂.frames with heap := s₂.heap, slotsUsed := s₂.slotsUsed } : State).setVm s₂.vm := by
      have : s₂ = ({ s₂ with vm := (U.calling g mk a).vm } : State).setVm s₂.vm := rfl
      rw [e2] at this
      exact this
    have hf₂ : s₂.frames = .throwing q :: .java g :: U.frames.tail := hend
    have hW' : U.WarmedH s₂.vm := hW₂
    have hs₂ : s₂ = ((({ U with heap := s₂.heap, slotsUsed := s₂.slotsUsed } : State).setVm s₂.vm).setTop g).pushFrame (.throwing q) := by
      refine e3.trans ?_
      rw [hf₂, State.calling_eq h.top, State.setFrames_setFrames, State.pushFrame, State.frames_setTop _ hr', State.setTop_of_frames _ hr', State.setFrames_setFrames, hr]
      rfl
    have hsame : U.sameButNew ({ U with heap := s₂.heap, slotsUsed := s₂.slotsUsed } : State) L mc ms := by
      refine ⟨?_, q2, q3, q4, q5, q6⟩
      obtain ⟨t, ht, -⟩ := State.frames_cons hr
      show ({ U with heap := s₂.heap, slotsUsed := s₂.slotsUsed } : State) = { U.setFrames U.frames with heap := s₂.heap, slotsUsed := s₂.slotsUsed }
      rw [State.setFrames_self ht]
    subst hg
    refine Or.inr ⟨q, ⟨(({ U with heap := s₂.heap, slotsUsed := s₂.slotsUsed } : State).setVm s₂.vm), Ls ++ L, c0 + mc, s0 + ms⟩,
      ⟨X.admits, X.cas, X.clock, X.frames, X.room, X.hears, X.method, X.code, (X.here.setHeapUsed s₂.heap s₂.slotsUsed).setVm hW'.alike, X.tail, State.WarmedH.trans X.warmed hW', X.limits, X.bytes, X.same.trans (hsame.setVm s.vm)⟩,
      ⟨g, mk, s₂, L, E, ce, rfl, rfl, hx, hce, hcv, hcl, rfl, hL, rfl, rfl⟩, ?_⟩
    show Steps p.tables e below _ (((({ U with heap := s₂.heap, slotsUsed := s₂.slotsUsed } : State).setVm s₂.vm).setTop g).pushFrame (.throwing q))
    rw [← hs₂]
    exact hsteps
end
variable {p : Program} {l : Launch} {e : Env} {R : Room} {s : State} {m : MethodId} {args : Array Value} {below : List Frame} {meth : Method} {c : Code} {T : State} {H : Heap} {locs : List Loc} {cells slots : Nat}
theorem vx_callVX (X : Stand p l e R s m args below meth c T locs cells slots) (hexec : p.tables.exec = Jvm.exec) {own C : String} {index : Nat} {y : MethodName} {bytes : ByteArray} {maxL : Nat} {ret : Option FieldType} {hh : List (Nat × Nat × Nat × Nat)}
    (hown : s.vm.findClass own = some m.cls) (hlink : (Cond.methodLink own index y).before args s = true) (hinst : (Cond.instanceMethod y).before args s = true) (hsel : (Cond.selects C y y).before args s = true)
    (hcode : (Cond.codeWith y bytes maxL ret hh).before args s = true) (hy : y.cls ≠ "java/lang/invoke/MethodHandle" ∧ y.cls ≠ "java/lang/invoke/VarHandle")
    {W9 : Nat} {Pre : Pt → Array Value → Prop} {Post : Pt → Array Value → Option Value → Pt → Prop} {PostX : Pt → Array Value → Addr → Pt → Prop} (hK : vx_Back l R p e below s args y 3 W9 Pre Post PostX)
    {b : Addr} {cellB : Cell} (hcell : T.heap[b]? = some cellB) (hobj : cellB.vm.isStatics = false) (hcls : s.vm.findClass C = some cellB.cls)
    {g : JFrame} (hg : g.method = m) (hsize : g.locals.size = c.maxLocals) {argsL rest : List Value} (hlen : ∀ sig, parseMethodDescriptor y.desc = some sig → argsL.length = sig.parameters.length)
    (hstack : g.stack = argsL.reverse ++ .ref b :: rest) (hW : 2 * g.monitorRoom + (rest.map fun v => v.category).sum ≤ W9) (hdg : decode c.code g.pc = .ok (.invokevirtual index, 3))
    (hpre : ∀ vm₁, s.WarmedH vm₁ → Pre ⟨T.setVm vm₁, locs, cells, slots⟩ (Value.ref b :: argsL).toArray) :
    (∃ (v : Option Value) (vm₁ : Vm) (B : Pt), s.WarmedH vm₁ ∧ Stand p l e R s m args below meth c B.U B.locs B.cells B.slots ∧ Post ⟨T.setVm vm₁, locs, cells, slots⟩ (Value.ref b :: argsL).toArray v B ∧
      ∀ target, Steps p.tables e below (B.U.setTop { g with pc := g.pc + 3, stack := v.toList ++ rest }) target → Steps p.tables e below (T.setTop g) target) ∨
    (∃ (q : Addr) (vm₁ : Vm) (B : Pt), s.WarmedH vm₁ ∧ Stand p l e R s m args below meth c B.U B.locs B.cells B.slots ∧ PostX ⟨T.setVm vm₁, locs, cells, slots⟩ (Value.ref b :: argsL).toArray q B ∧
      Steps p.tables e below (T.setTop g) ((B.U.setTop { g with stack := rest }).pushFrame (.throwing q))) := by
  obtain ⟨mk, methM, hnamed, hmethM, hstM, habM⟩ := Cond.instanceMethod_spec hinst
  obtain ⟨m8, methM', cM, hn8, hmethM', -, -, -, -, -, -, hsigM⟩ := Cond.codeWith_spec hcode
  cases Option.some.inj (hn8.symm.trans hnamed)
  cases hmethM.symm.trans hmethM'
  obtain ⟨c2, r2, m2, q1, q2, q3, q4, kP, hkP, hkPi⟩ := Cond.selects_spec hsel
  cases hcls.symm.trans q1
  cases (State.methodFound?_of_named hnamed hy).symm.trans q2
  cases hnamed.symm.trans q3
  have hselP : selectMethod e.platform s.vm cellB.cls mk = .method mk := by rw [Launch.admits_selectMethod X.admits]; exact q4
  obtain ⟨vm₁, X₁, hstep₁⟩ := X.invokevirtual hexec hown hlink hnamed hmethM hstM hkP hkPi hy (a := b) (cell := cellB) hcell
    (fun z h => by rw [h] at hobj; cases hobj) hselP hmethM habM hkP hkPi (g := g) hg (argsL := argsL) (rest := rest) (hlen _ hsigM) hstack hdg
  rcases hK m meth c ⟨T.setVm vm₁, locs, cells, slots⟩ { g with stack := rest } (.invokevirtual index) mk (Value.ref b :: argsL).toArray X₁ hg hsize hdg hW (X₁.named hnamed) (hpre vm₁ X₁.warmed) with ⟨v, B, X', hpost, hsteps⟩ | ⟨q, B, X', hpost, hsteps⟩
  · exact Or.inl ⟨v, vm₁, B, X₁.warmed, X', hpost, fun target h => hstep₁ _ fun acts => by rw [doInvoke_state]; exact hsteps.trans h⟩
  · exact Or.inr ⟨q, vm₁, B, X₁.warmed, X', hpost, hstep₁ _ fun acts => by rw [doInvoke_state]; exact hsteps⟩
theorem vx_callSX (X : Stand p l e R s m args below meth c T locs cells slots) (hexec : p.tables.exec = Jvm.exec) {own : String} {index : Nat} {y : MethodName} {bytes : ByteArray} {maxL : Nat} {ret : Option FieldType} {hh : List (Nat × Nat × Nat × Nat)}
    (hown : s.vm.findClass own = some m.cls) (hlink : (Cond.methodLink own index y).before args s = true) (hstat : (Cond.static y).before args s = true) (hinit : (Cond.initialized y.cls).before args s = true)
    (hcode : (Cond.codeWith y bytes maxL ret hh).before args s = true) (hy : y.cls ≠ "java/lang/invoke/MethodHandle" ∧ y.cls ≠ "java/lang/invoke/VarHandle")
    {W9 : Nat} {Pre : Pt → Array Value → Prop} {Post : Pt → Array Value → Option Value → Pt → Prop} {PostX : Pt → Array Value → Addr → Pt → Prop} (hK : vx_Back l R p e below s args y 3 W9 Pre Post PostX)
    {g : JFrame} (hg : g.method = m) (hsize : g.locals.size = c.maxLocals) {argsL rest : List Value} (hlen : ∀ sig, parseMethodDescriptor y.desc = some sig → argsL.length = sig.parameters.length)
    (hstack : g.stack = argsL.reverse ++ rest) (hW : 2 * g.monitorRoom + (rest.map fun v => v.category).sum ≤ W9) (hdg : decode c.code g.pc = .ok (.invokestatic index, 3))
    (hpre : ∀ vm₁, s.WarmedH vm₁ → Pre ⟨T.setVm vm₁, locs, cells, slots⟩ argsL.toArray) :
    (∃ (v : Option Value) (vm₁ : Vm) (B : Pt), s.WarmedH vm₁ ∧ Stand p l e R s m args below meth c B.U B.locs B.cells B.slots ∧ Post ⟨T.setVm vm₁, locs, cells, slots⟩ argsL.toArray v B ∧
      ∀ target, Steps p.tables e below (B.U.setTop { g with pc := g.pc + 3, stack := v.toList ++ rest }) target → Steps p.tables e below (T.setTop g) target) ∨
    (∃ (q : Addr) (vm₁ : Vm) (B : Pt), s.WarmedH vm₁ ∧ Stand p l e R s m args below meth c B.U B.locs B.cells B.slots ∧ PostX ⟨T.setVm vm₁, locs, cells, slots⟩ argsL.toArray q B ∧
      Steps p.tables e below (T.setTop g) ((B.U.setTop { g with stack := rest }).pushFrame (.throwing q))) := by
  obtain ⟨mk, methM, cM, hnamed, hmethM, -, -, -, -, -, -, hsigM⟩ := Cond.codeWith_spec hcode
  have hstatic : methM.isStatic = true := Cond.static_spec hnamed hmethM hstat
  obtain ⟨kP, hkP, -⟩ := className_of_methodNamed hnamed
  have hinitP : kP.init = .initialized := Cond.initialized_spec (findClass_of_methodNamed hnamed) hkP hinit
  obtain ⟨vm₁, X₁, hstep₁⟩ := X.invokestatic hexec hown hlink hnamed hmethM hstatic hkP hinitP hy (g := g) hg (argsL := argsL) (rest := rest) (hlen _ hsigM) hstack hdg
  rcases hK m meth c ⟨T.setVm vm₁, locs, cells, slots⟩ { g with stack := rest } (.invokestatic index) mk argsL.toArray X₁ hg hsize hdg hW (X₁.named hnamed) (hpre vm₁ X₁.warmed) with ⟨v, B, X', hpost, hsteps⟩ | ⟨q, B, X', hpost, hsteps⟩
  · exact Or.inl ⟨v, vm₁, B, X₁.warmed, X', hpost, fun target h => hstep₁ _ fun acts => by rw [doInvoke_state]; exact hsteps.trans h⟩
  · exact Or.inr ⟨q, vm₁, B, X₁.warmed, X', hpost, hstep₁ _ fun acts => by rw [doInvoke_state]; exact hsteps⟩
theorem vx_callVW (X : Stand p l e R s m args below meth c T locs cells slots) (hexec : p.tables.exec = Jvm.exec) {own C : String} {index : Nat} {y : MethodName} {bytes : ByteArray} {maxL : Nat} {ret : Option FieldType} {hh : List (Nat × Nat × Nat × Nat)}
    (hown : s.vm.findClass own = some m.cls) (hlink : (Cond.methodLink own index y).before args s = true) (hinst : (Cond.instanceMethod y).before args s = true) (hsel : (Cond.selects C y y).before args s = true)
    (hcode : (Cond.codeWith y bytes maxL ret hh).before args s = true) (hy : y.cls ≠ "java/lang/invoke/MethodHandle" ∧ y.cls ≠ "java/lang/invoke/VarHandle")
    {W9 : Nat} {Pre : Pt → Array Value → Prop} {Post : Pt → Array Value → Option Value → Pt → Prop} (hK : Back l R p e below s args y 3 W9 Pre Post)
    {b : Addr} {cellB : Cell} (hcell : T.heap[b]? = some cellB) (hobj : cellB.vm.isStatics = false) (hcls : s.vm.findClass C = some cellB.cls)
    {g : JFrame} (hg : g.method = m) (hsize : g.locals.size = c.maxLocals) {argsL rest : List Value} (hlen : ∀ sig, parseMethodDescriptor y.desc = some sig → argsL.length = sig.parameters.length)
    (hstack : g.stack = argsL.reverse ++ .ref b :: rest) (hW : 2 * g.monitorRoom + (rest.map fun v => v.category).sum ≤ W9) (hdg : decode c.code g.pc = .ok (.invokevirtual index, 3))
    (hpre : ∀ vm₁, s.WarmedH vm₁ → Pre ⟨T.setVm vm₁, locs, cells, slots⟩ (Value.ref b :: argsL).toArray) :
    ∃ (v : Option Value) (vm₁ : Vm) (B : Pt), s.WarmedH vm₁ ∧ Stand p l e R s m args below meth c B.U B.locs B.cells B.slots ∧ Post ⟨T.setVm vm₁, locs, cells, slots⟩ (Value.ref b :: argsL).toArray v B ∧
      ∀ target, Steps p.tables e below (B.U.setTop { g with pc := g.pc + 3, stack := v.toList ++ rest }) target → Steps p.tables e below (T.setTop g) target := by
  obtain ⟨mk, methM, hnamed, hmethM, hstM, habM⟩ := Cond.instanceMethod_spec hinst
  obtain ⟨m8, methM', cM, hn8, hmethM', -, -, -, -, -, -, hsigM⟩ := Cond.codeWith_spec hcode
  cases Option.some.inj (hn8.symm.trans hnamed)
  cases hmethM.symm.trans hmethM'
  obtain ⟨c2, r2, m2, q1, q2, q3, q4, kP, hkP, hkPi⟩ := Cond.selects_spec hsel
  cases hcls.symm.trans q1
  cases (State.methodFound?_of_named hnamed hy).symm.trans q2
  cases hnamed.symm.trans q3
  have hselP : selectMethod e.platform s.vm cellB.cls mk = .method mk := by rw [Launch.admits_selectMethod X.admits]; exact q4
  obtain ⟨vm₁, X₁, hstep₁⟩ := X.invokevirtual hexec hown hlink hnamed hmethM hstM hkP hkPi hy (a := b) (cell := cellB) hcell
    (fun z h => by rw [h] at hobj; cases hobj) hselP hmethM habM hkP hkPi (g := g) hg (argsL := argsL) (rest := rest) (hlen _ hsigM) hstack hdg
  obtain ⟨v, B, X', hpost, hsteps⟩ := hK m meth c ⟨T.setVm vm₁, locs, cells, slots⟩ { g with stack := rest } (.invokevirtual index) mk (Value.ref b :: argsL).toArray X₁ hg hsize hdg hW (X₁.named hnamed) (hpre vm₁ X₁.warmed)
  exact ⟨v, vm₁, B, X₁.warmed, X', hpost, fun target h => hstep₁ _ fun acts => by rw [doInvoke_state]; exact hsteps.trans h⟩
abbrev vx_CVW (R : Room) (s : State) (args : Array Value) (own C : String) (index : Nat) (y : MethodName) (bytes : ByteArray) (maxL : Nat) (ret : Option FieldType) (hh : List (Nat × Nat × Nat × Nat)) (ws : List Cond) (rm : Room) (mc ms n : Nat) : Prop :=
  (rm.cells = mc ∧ rm.slots = ms ∧ rm.frames + 1 ≤ R.frames ∧ 8 + (maxL + 11) + rm.locals ≤ R.locals ∧ (∀ w ∈ ws, ∀ (a' : Array Value) (U : State), s.WarmedH U.vm → w.before a' U = true) ∧ Cond.codeWith y bytes maxL ret hh ∈ ws) ∧
  (Cond.codeWith y bytes maxL ret hh).before args s = true ∧ (Cond.initialized y.cls).before args s = true ∧ (y.cls ≠ "java/lang/invoke/MethodHandle" ∧ y.cls ≠ "java/lang/invoke/VarHandle") ∧
  (∀ sig, parseMethodDescriptor y.desc = some sig → n = sig.parameters.length) ∧ (Cond.methodLink own index y).before args s = true ∧ (Cond.instanceMethod y).before args s = true ∧ (Cond.selects C y y).before args s = true
theorem vx_cwVW {own C : String} {index maxL mc ms : Nat} {y : MethodName} {bytes : ByteArray} {ret : Option FieldType} {hh : List (Nat × Nat × Nat × Nat)} {Ts ws ws' : List Cond} {rm : Room} (n : Nat) (ht : ∀ w ∈ Ts, w.before args s = true) (hT : GoodIn Ts (wsV own index C y ws)) (hw : ws = Cond.codeWith y bytes maxL ret hh :: ws') (hrc : rm.cells = mc) (hrs : rm.slots = ms)
    (hd : y.cls = C ∧ y.cls ≠ "java/lang/invoke/MethodHandle" ∧ y.cls ≠ "java/lang/invoke/VarHandle" ∧ (parseMethodDescriptor y.desc).map (fun d => d.parameters.length) = some n) (hR : rm.frames + 1 ≤ R.frames ∧ 8 + (maxL + 11) + rm.locals ≤ R.locals) :
    vx_CVW R s args own C index y bytes maxL ret hh ws rm mc ms n := by
  obtain ⟨hC, hd⟩ := hd
  subst hC
  have ok : ∀ w ∈ wsV own index y.cls y ws, w.before args s = true := fun w h => ht w (hT w h).1
  have hG : GoodIn Ts ws := fun w h => hT w (by unfold wsV; exact List.mem_append_right _ h)
  have hc : Cond.codeWith y bytes maxL ret hh ∈ ws := by rw [hw]; exact List.mem_cons_self
  refine ⟨⟨hrc, hrs, hR.1, hR.2, pay_in ht hG, hc⟩, ht _ (hG _ hc).1, ok _ (by simp [wsV]), ⟨hd.1, hd.2.1⟩, fun sig h => ?_, ok _ (by simp [wsV]), ok _ (by simp [wsV]), ok _ (by simp [wsV])⟩
  have h2 := hd.2.2
  rw [h] at h2
  exact (Option.some.inj h2).symm
theorem vx_runVW {y : MethodName} {bytes cc : ByteArray} {maxL nL mc ms n index : Nat} {ret : Option FieldType} {hh : List (Nat × Nat × Nat × Nat)} {ws : List Cond} {rm : Room} {Pc : Array Value → State → Prop} {Qc : Array Value → State → Outcome → State → Prop} {free : Addr → Prop} {Ts : List Cond} {own C : String} {b : Addr} {As rest : List Value} {g : JFrame}
    (S : CallFix p m c cc nL s args Ts own) (hM : Met l y ws rm Pc Qc mc ms free) (cw : vx_CVW R s args own C index y bytes maxL ret hh ws rm mc ms n) (hp : PreV s H C b Pc As)
    (hg : g.method = m) (hn : As.length = n) (hsize : g.locals.size = nL) (hstack : g.stack = As.reverse ++ .ref b :: rest) (hW : 2 * g.monitorRoom + (rest.map fun v => v.category).sum ≤ 8) (hdg : decode cc g.pc = .ok (.invokevirtual index, 3)) (hf : cells + mc ≤ R.cells ∧ slots + ms ≤ R.slots) :
    va_Run p l e R s m args below meth c H locs cells slots mc ms g rest (Qc (Value.ref b :: As).toArray) free := by
  obtain ⟨⟨hrc, hrs, hfr, hlo, hws, hcw⟩, hcode, hini, hy, hlen, hl, hin, hse⟩ := cw
  have hK : Back l R p e below s args y 3 8 (PreOf R mc ms Pc) (PostOf Qc mc ms free) := va_backW (hh := hh) (bytes := bytes) (maxL := maxL) (ret := ret) hM hp.1 hrc hrs hfr hlo hws hcw (fun a' U hW => word_at hW (Or.inl (by first | rfl | simp [Cond.onTables, Cond.keeps, Cond.steady])) hini)
  obtain ⟨hx, hb, hml, ho, -⟩ := S
  obtain ⟨-, ⟨cellB, hcB, hoB, hclB⟩, hPc⟩ := hp
  intro T hT X
  obtain ⟨v, vm₁, ⟨U', l2, c2, s2⟩, hW₁, X', ⟨g', mk, t, L, e1, e2, hq, h1, hL, h2, h3⟩, st⟩ := vx_callVW X hx (C := C) (hh := hh) (bytes := bytes) (maxL := maxL) (ret := ret) ho hl hin hse hcode hy hK (by rw [hT]; exact hcB) hoB hclB hg (hsize.trans hml.symm) (argsL := As) (rest := rest) (fun sig h => hn.trans (hlen sig h)) hstack hW (by rw [hb]; exact hdg)
    (fun vm₁ hW₁ => ⟨hf.1, hf.2, hPc (T.setVm vm₁) hT hW₁⟩)
  dsimp only [Pt.U, Pt.locs, Pt.cells, Pt.slots] at X' e1 e2 h1 h2 h3 st
  subst h1; subst h2; subst h3
  exact ⟨v, (T.setVm vm₁).calling g' mk (Value.ref b :: As).toArray, t, U', L, hT, X', hL, e1, e2, hq, st⟩
section
variable {y : MethodName} {bytes cc : ByteArray} {maxL nL mc ms n index : Nat} {ret : Option FieldType} {ws : List Cond} {rm : Room} {Pc : Array Value → State → Prop} {Qc : Array Value → State → Outcome → State → Prop} {XC : String → State → State → Prop} {free : Addr → Prop} {Ts : List Cond} {own C : String} {b : Addr} {As rest : List Value} {g : JFrame}
theorem vx_runVX {hh : List (Nat × Nat × Nat × Nat)} (S : CallFix p m c cc nL s args Ts own) (hM : vx_Met l y ws rm Pc Qc XC mc ms free) (cw : vx_CVW R s args own C index y bytes maxL ret hh ws rm mc ms n) (hp : PreV s H C b Pc As)
    (hg : g.method = m) (hn : As.length = n) (hsize : g.locals.size = nL) (hstack : g.stack = As.reverse ++ .ref b :: rest) (hW : 2 * g.monitorRoom + (rest.map fun v => v.category).sum ≤ 8) (hdg : decode cc g.pc = .ok (.invokevirtual index, 3)) (hf : cells + mc ≤ R.cells ∧ slots + ms ≤ R.slots) :
    vx_Run p l e R s m args below meth c H locs cells slots mc ms g rest (Qc (Value.ref b :: As).toArray) XC free := by
  obtain ⟨⟨hrc, hrs, hfr, hlo, hws, hcw⟩, hcode, hini, hy, hlen, hl, hin, hse⟩ := cw
  have hK : vx_Back l R p e below s args y 3 8 (PreOf R mc ms Pc) (PostOf Qc mc ms free) (vx_Post XC mc ms free) := vx_backW (hh := hh) (bytes := bytes) (maxL := maxL) (ret := ret) hM hp.1 hrc hrs hfr hlo hws hcw (fun a' U hW => word_at hW (Or.inl (by first | rfl | simp [Cond.onTables, Cond.keeps, Cond.steady])) hini)
  obtain ⟨hx, hb, hml, ho, -⟩ := S
  obtain ⟨-, ⟨cellB, hcB, hoB, hclB⟩, hPc⟩ := hp
  intro T hT X
  rcases vx_callVX X hx (C := C) (hh := hh) (bytes := bytes) (maxL := maxL) (ret := ret) ho hl hin hse hcode hy hK (by rw [hT]; exact hcB) hoB hclB hg (hsize.trans hml.symm) (argsL := As) (rest := rest) (fun sig h => hn.trans (hlen sig h)) hstack hW (by rw [hb]; exact hdg)
    (fun vm₁ hW₁ => ⟨hf.1, hf.2, hPc (T.setVm vm₁) hT hW₁⟩) with ⟨v, vm₁, ⟨U', l2, c2, s2⟩, hW₁, X', ⟨g', mk, t, L, e1, e2, hq, h1, hL, h2, h3⟩, st⟩ | ⟨q, vm₁, ⟨U', l2, c2, s2⟩, hW₁, X', ⟨g', mk, t, L, E, ce, e1, e2, hq, hce, hcv, hcl, h1, hL, h2, h3⟩, st⟩
  · dsimp only [Pt.U, Pt.locs, Pt.cells, Pt.slots] at X' e1 e2 h1 h2 h3 st
    subst h1; subst h2; subst h3
    exact Or.inl ⟨v, (T.setVm vm₁).calling g' mk (Value.ref b :: As).toArray, t, U', L, hT, X', hL, e1, e2, hq, st⟩
  · dsimp only [Pt.U, Pt.locs, Pt.cells, Pt.slots] at X' e1 e2 h1 h2 h3 st hcl
    subst h1; subst h2; subst h3
    exact Or.inr ⟨q, (T.setVm vm₁).calling g' mk (Value.ref b :: As).toArray, t, U', L, E, ce, hT, X', hL, e1, e2, hq, hce, hcv, vx_cls hW₁ hcl, st⟩
theorem vx_runSX {hh : List (Nat × Nat × Nat × Nat)} (S : CallFix p m c cc nL s args Ts own) (hM : vx_Met l y ws rm Pc Qc XC mc ms free) (cw : vx_CSW R s args own index y bytes maxL ret hh ws rm mc ms n) (hp : PreS s H Pc As)
    (hg : g.method = m) (hn : As.length = n) (hsize : g.locals.size = nL) (hstack : g.stack = As.reverse ++ rest) (hW : 2 * g.monitorRoom + (rest.map fun v => v.category).sum ≤ 8) (hdg : decode cc g.pc = .ok (.invokestatic index, 3)) (hf : cells + mc ≤ R.cells ∧ slots + ms ≤ R.slots) :
    vx_Run p l e R s m args below meth c H locs cells slots mc ms g rest (Qc As.toArray) XC free := by
  obtain ⟨⟨hrc, hrs, hfr, hlo, hws, hcw⟩, hcode, hini, hy, hlen, hl, hstt⟩ := cw
  have hK : vx_Back l R p e below s args y 3 8 (PreOf R mc ms Pc) (PostOf Qc mc ms free) (vx_Post XC mc ms free) := vx_backW (hh := hh) (bytes := bytes) (maxL := maxL) (ret := ret) hM hp.1 hrc hrs hfr hlo hws hcw (fun a' U hW => word_at hW (Or.inl (by first | rfl | simp [Cond.onTables, Cond.keeps, Cond.steady])) hini)
  obtain ⟨hx, hb, hml, ho, -⟩ := S
  intro T hT X
  rcases vx_callSX X hx (hh := hh) (bytes := bytes) (maxL := maxL) (ret := ret) ho hl hstt hini hcode hy hK hg (hsize.trans hml.symm) (argsL := As) (rest := rest) (fun sig h => hn.trans (hlen sig h)) hstack hW (by rw [hb]; exact hdg)
    (fun vm₁ hW₁ => ⟨hf.1, hf.2, hp.2 (T.setVm vm₁) hT hW₁⟩) with ⟨v, vm₁, ⟨U', l2, c2, s2⟩, hW₁, X', ⟨g', mk, t, L, e1, e2, hq, h1, hL, h2, h3⟩, st⟩ | ⟨q, vm₁, ⟨U', l2, c2, s2⟩, hW₁, X', ⟨g', mk, t, L, E, ce, e1, e2, hq, hce, hcv, hcl, h1, hL, h2, h3⟩, st⟩
  · dsimp only [Pt.U, Pt.locs, Pt.cells, Pt.slots] at X' e1 e2 h1 h2 h3 st
    subst h1; subst h2; subst h3
    exact Or.inl ⟨v, (T.setVm vm₁).calling g' mk As.toArray, t, U', L, hT, X', hL, e1, e2, hq, st⟩
  · dsimp only [Pt.U, Pt.locs, Pt.cells, Pt.slots] at X' e1 e2 h1 h2 h3 st hcl
    subst h1; subst h2; subst h3
    exact Or.inr ⟨q, (T.setVm vm₁).calling g' mk As.toArray, t, U', L, E, ce, hT, X', hL, e1, e2, hq, hce, hcv, vx_cls hW₁ hcl, st⟩
end
end VXH
theorem vx_ofWH {l : Launch} {y : MethodName} {ws ws' : List Cond} {rm : Room} {Pc : Array Value → State → Prop} {Qc : Array Value → State → Outcome → State → Prop} {XC : String → State → State → Prop} {mc ms : Nat} {free : Addr → Prop} {cc : ByteArray} {maxL : Nat} {ret : Option FieldType} {hh : List (Nat × Nat × Nat × Nat)}
    (hy : plainName y.cls = true) (hw : ws = Cond.codeWith y cc maxL ret hh :: ws')
    (body : ∀ p e s m args below meth c s₁, BodyLoose p l y (headSpec ws rm) cc maxL ret e s m args below meth c s₁ → c.maxLocals = maxL → Pc args s →
      W p l e (headSpec ws rm).room s m args below meth c s.heap [] 0 0 (vx_MQ below Qc XC args s mc ms free) (entryFrame m args maxL)) : vx_Met l y ws rm Pc Qc XC mc ms free := by
  refine MetFree.of_bodyS (code := cc) (maxLocals := maxL) (ret := ret) hy ?_ ?_
  · intro args s m h hn
    obtain ⟨m9, meth, c, hn9, h1, h2, h3, h4, -, h5, h6, -⟩ := Cond.codeWith_spec (atoms_spec (ws := ws) h _ (by rw [hw]; exact List.mem_cons_self))
    cases hn.symm.trans hn9
    exact ⟨meth, c, h1, h2, h3, h4, h5, h6⟩
  · intro p e s m args below meth c s₁ B hml hP _
    have hh0 : s₁.heap = s.heap := by rw [B.state]; rfl
    obtain ⟨t, a1, o, b1, b2, b3⟩ := body p e s m args below meth c s₁ B hml hP s₁ hh0 (Stand.of_body B)
    exact ⟨t, o, a1, b1, b2, b3⟩
/-! ===== END ===== -/
end
section
def RX0 : String := "LendThreads$Diary"
def TX0 : u_T := fun k => match k with
  | _ => ("LendThreads$Diary", "lines", "LLendThreads$Rows;", true)
def tyX0 : Nat → FieldType := fun k => match k with
  | _ => .object "LendThreads$Rows"
abbrev wsX00 : List Cond := u_ws RX0 TX0 1
theorem nmX0 : ∀ a, a < 1 → ∀ b, b < 1 → a ≠ b → (TX0 a).2.1 ≠ (TX0 b).2.1 := by decide +kernel
theorem tyX0_ok : ∀ k, k < 1 → parseFieldDescriptor (TX0 k).2.2.1 = some (tyX0 k) := by decide +kernel
abbrev cX0_init : ByteArray := prog_2_method_1_code
def yX0_init : MethodName := ⟨RX0, "<init>", "()V"⟩
abbrev cX0_write : ByteArray := prog_2_method_2_code
def yX0_write : MethodName := ⟨RX0, "write", "(II)V"⟩
def RX1 : String := "LendThreads$Post"
def TX1 : u_T := fun k => match k with
  | 0 => ("LendThreads$Post", "there", "[I", true)
  | 1 => ("LendThreads$Post", "lost", "[I", true)
  | _ => ("LendThreads$Post", "toLose", "I", false)
def tyX1 : Nat → FieldType := fun k => match k with
  | 0 => .array .int
  | 1 => .array .int
  | _ => .int
abbrev wsX10 : List Cond := u_ws RX1 TX1 3
theorem nmX1 : ∀ a, a < 3 → ∀ b, b < 3 → a ≠ b → (TX1 a).2.1 ≠ (TX1 b).2.1 := by decide +kernel
theorem tyX1_ok : ∀ k, k < 3 → parseFieldDescriptor (TX1 k).2.2.1 = some (tyX1 k) := by decide +kernel
abbrev cX1_init : ByteArray := prog_3_method_1_code
def yX1_init : MethodName := ⟨RX1, "<init>", "()V"⟩
abbrev cX1_way : ByteArray := prog_3_method_2_code
def yX1_way : MethodName := ⟨RX1, "way", "(II)I"⟩
abbrev cX1_isWay : ByteArray := prog_3_method_3_code
def yX1_isWay : MethodName := ⟨RX1, "isWay", "(I)Z"⟩
abbrev cX1_countThere : ByteArray := prog_3_method_4_code
def yX1_countThere : MethodName := ⟨RX1, "countThere", "(I)I"⟩
abbrev cX1_send : ByteArray := prog_3_method_5_code
def yX1_send : MethodName := ⟨RX1, "send", "(I)V"⟩
abbrev cX1_take : ByteArray := prog_3_method_6_code
def yX1_take : MethodName := ⟨RX1, "take", "(I)Z"⟩
abbrev cX1_findLost : ByteArray := prog_3_method_7_code
def yX1_findLost : MethodName := ⟨RX1, "findLost", "(I)Z"⟩
def RX2 : String := "LendThreads$Rows"
def TX2 : u_T := fun k => match k with
  | 0 => ("LendThreads$Rows", "room", "I", true)
  | 1 => ("LendThreads$Rows", "counts", "[I", true)
  | _ => ("LendThreads$Rows", "items", "[I", true)
def tyX2 : Nat → FieldType := fun k => match k with
  | 0 => .int
  | 1 => .array .int
  | _ => .array .int
abbrev wsX20 : List Cond := u_ws RX2 TX2 3
theorem nmX2 : ∀ a, a < 3 → ∀ b, b < 3 → a ≠ b → (TX2 a).2.1 ≠ (TX2 b).2.1 := by decide +kernel
theorem tyX2_ok : ∀ k, k < 3 → parseFieldDescriptor (TX2 k).2.2.1 = some (tyX2 k) := by decide +kernel
abbrev cX2_init : ByteArray := prog_4_method_1_code
def yX2_init : MethodName := ⟨RX2, "<init>", "(II)V"⟩
abbrev cX2_count : ByteArray := prog_4_method_2_code
def yX2_count : MethodName := ⟨RX2, "count", "(I)I"⟩
abbrev cX2_item : ByteArray := prog_4_method_3_code
def yX2_item : MethodName := ⟨RX2, "item", "(II)I"⟩
abbrev cX2_add : ByteArray := prog_4_method_4_code
def yX2_add : MethodName := ⟨RX2, "add", "(II)I"⟩
abbrev cX2_placeOf : ByteArray := prog_4_method_5_code
def yX2_placeOf : MethodName := ⟨RX2, "placeOf", "(II)I"⟩
abbrev cX2_remove : ByteArray := prog_4_method_6_code
def yX2_remove : MethodName := ⟨RX2, "remove", "(II)V"⟩
def RX3 : String := "LendThreads$Shelf"
def TX3 : u_T := fun k => match k with
  | 0 => ("LendThreads$Shelf", "values", "[I", true)
  | 1 => ("LendThreads$Shelf", "valuesWhenTaken", "[I", true)
  | 2 => ("LendThreads$Shelf", "holders", "[I", true)
  | _ => ("LendThreads$Shelf", "lines", "LLendThreads$Rows;", true)
def tyX3 : Nat → FieldType := fun k => match k with
  | 0 => .array .int
  | 1 => .array .int
  | 2 => .array .int
  | _ => .object "LendThreads$Rows"
abbrev wsX30 : List Cond := u_ws RX3 TX3 4
theorem nmX3 : ∀ a, a < 4 → ∀ b, b < 4 → a ≠ b → (TX3 a).2.1 ≠ (TX3 b).2.1 := by decide +kernel
theorem tyX3_ok : ∀ k, k < 4 → parseFieldDescriptor (TX3 k).2.2.1 = some (tyX3 k) := by decide +kernel
abbrev cX3_init : ByteArray := prog_5_method_1_code
def yX3_init : MethodName := ⟨RX3, "<init>", "()V"⟩
abbrev cX3_isFreeFor : ByteArray := prog_5_method_2_code
def yX3_isFreeFor : MethodName := ⟨RX3, "isFreeFor", "(II)Z"⟩
abbrev cX3_take : ByteArray := prog_5_method_3_code
def yX3_take : MethodName := ⟨RX3, "take", "(II)V"⟩
abbrev cX3_standInLine : ByteArray := prog_5_method_4_code
def yX3_standInLine : MethodName := ⟨RX3, "standInLine", "(II)V"⟩
abbrev cX3_change : ByteArray := prog_5_method_5_code
def yX3_change : MethodName := ⟨RX3, "change", "(II)V"⟩
abbrev cX3_restore : ByteArray := prog_5_method_6_code
def yX3_restore : MethodName := ⟨RX3, "restore", "(I)V"⟩
abbrev cX3_release : ByteArray := prog_5_method_7_code
def yX3_release : MethodName := ⟨RX3, "release", "(I)V"⟩
abbrev cX3_countOf : ByteArray := prog_5_method_8_code
def yX3_countOf : MethodName := ⟨RX3, "countOf", "(I)I"⟩
abbrev cX3_holderAwaitedBy : ByteArray := prog_5_method_9_code
def yX3_holderAwaitedBy : MethodName := ⟨RX3, "holderAwaitedBy", "(I)I"⟩
def RX4 : String := "LendThreads$Work"
def TX4 : u_T := fun k => match k with
  | 0 => ("LendThreads$Work", "number", "I", true)
  | 1 => ("LendThreads$Work", "wanted", "LLendThreads$Rows;", true)
  | 2 => ("LendThreads$Work", "receivers", "LLendThreads$Rows;", true)
  | 3 => ("LendThreads$Work", "steps", "I", false)
  | 4 => ("LendThreads$Work", "failsAt", "I", false)
  | 5 => ("LendThreads$Work", "state", "I", false)
  | 6 => ("LendThreads$Work", "step", "I", false)
  | 7 => ("LendThreads$Work", "got", "I", false)
  | 8 => ("LendThreads$Work", "askedFor", "I", false)
  | 9 => ("LendThreads$Work", "begunAgain", "I", false)
  | 10 => ("LendThreads$Work", "hadTurn", "Z", false)
  | _ => ("LendThreads$Work", "latest", "I", false)
def tyX4 : Nat → FieldType := fun k => match k with
  | 0 => .int
  | 1 => .object "LendThreads$Rows"
  | 2 => .object "LendThreads$Rows"
  | 3 => .int
  | 4 => .int
  | 5 => .int
  | 6 => .int
  | 7 => .int
  | 8 => .int
  | 9 => .int
  | 10 => .boolean
  | _ => .int
abbrev wsX40 : List Cond := u_ws RX4 TX4 12
theorem nmX4 : ∀ a, a < 12 → ∀ b, b < 12 → a ≠ b → (TX4 a).2.1 ≠ (TX4 b).2.1 := by decide +kernel
theorem tyX4_ok : ∀ k, k < 12 → parseFieldDescriptor (TX4 k).2.2.1 = some (tyX4 k) := by decide +kernel
abbrev cX4_init : ByteArray := prog_6_method_1_code
def yX4_init : MethodName := ⟨RX4, "<init>", "(I)V"⟩
abbrev cX4_isStep : ByteArray := prog_6_method_2_code
def yX4_isStep : MethodName := ⟨RX4, "isStep", "(I)Z"⟩
abbrev cX4_gotAll : ByteArray := prog_6_method_3_code
def yX4_gotAll : MethodName := ⟨RX4, "gotAll", "()Z"⟩
abbrev cX4_beginAgain : ByteArray := prog_6_method_4_code
def yX4_beginAgain : MethodName := ⟨RX4, "beginAgain", "()V"⟩
def RX5 : String := "LendThreads"
def TX5 : u_T := fun k => match k with
  | 0 => ("LendThreads", "works", "[LLendThreads$Work;", true)
  | 1 => ("LendThreads", "workCount", "I", false)
  | 2 => ("LendThreads", "shelf", "LLendThreads$Shelf;", true)
  | 3 => ("LendThreads", "post", "LLendThreads$Post;", true)
  | _ => ("LendThreads", "diary", "LLendThreads$Diary;", true)
def tyX5 : Nat → FieldType := fun k => match k with
  | 0 => .array (.object "LendThreads$Work")
  | 1 => .int
  | 2 => .object "LendThreads$Shelf"
  | 3 => .object "LendThreads$Post"
  | _ => .object "LendThreads$Diary"
abbrev wsX50 : List Cond := u_ws RX5 TX5 5
theorem nmX5 : ∀ a, a < 5 → ∀ b, b < 5 → a ≠ b → (TX5 a).2.1 ≠ (TX5 b).2.1 := by decide +kernel
theorem tyX5_ok : ∀ k, k < 5 → parseFieldDescriptor (TX5 k).2.2.1 = some (tyX5 k) := by decide +kernel
abbrev cX5_init : ByteArray := prog_1_method_1_code
def yX5_init : MethodName := ⟨RX5, "<init>", "()V"⟩
abbrev cX5_work : ByteArray := prog_1_method_2_code
def yX5_work : MethodName := ⟨RX5, "work", "(II)I"⟩
abbrev cX5_wants : ByteArray := prog_1_method_3_code
def yX5_wants : MethodName := ⟨RX5, "wants", "(IIZI)I"⟩
abbrev cX5_sends : ByteArray := prog_1_method_4_code
def yX5_sends : MethodName := ⟨RX5, "sends", "(III)I"⟩
abbrev cX5_loses : ByteArray := prog_1_method_5_code
def yX5_loses : MethodName := ⟨RX5, "loses", "(I)I"⟩
abbrev cX5_turn : ByteArray := prog_1_method_6_code
def yX5_turn : MethodName := ⟨RX5, "turn", "(I)I"⟩
abbrev cX5_run : ByteArray := prog_1_method_7_code
def yX5_run : MethodName := ⟨RX5, "run", "()I"⟩
abbrev cX5_ring : ByteArray := prog_1_method_8_code
def yX5_ring : MethodName := ⟨RX5, "ring", "()I"⟩
abbrev cX5_interrupt : ByteArray := prog_1_method_9_code
def yX5_interrupt : MethodName := ⟨RX5, "interrupt", "(I)I"⟩
abbrev cX5_again : ByteArray := prog_1_method_10_code
def yX5_again : MethodName := ⟨RX5, "again", "(I)I"⟩
abbrev cX5_close : ByteArray := prog_1_method_11_code
def yX5_close : MethodName := ⟨RX5, "close", "()I"⟩
abbrev cX5_state : ByteArray := prog_1_method_12_code
def yX5_state : MethodName := ⟨RX5, "state", "(II)I"⟩
abbrev cX5_has : ByteArray := prog_1_method_13_code
def yX5_has : MethodName := ⟨RX5, "has", "(I)I"⟩
abbrev cX5_line : ByteArray := prog_1_method_14_code
def yX5_line : MethodName := ⟨RX5, "line", "(II)I"⟩
abbrev cX5_value : ByteArray := prog_1_method_15_code
def yX5_value : MethodName := ⟨RX5, "value", "(I)I"⟩
abbrev cX5_log : ByteArray := prog_1_method_16_code
def yX5_log : MethodName := ⟨RX5, "log", "(I)I"⟩
abbrev cX5_mail : ByteArray := prog_1_method_17_code
def yX5_mail : MethodName := ⟨RX5, "mail", "(II)I"⟩
abbrev cX5_find : ByteArray := prog_1_method_18_code
def yX5_find : MethodName := ⟨RX5, "find", "(I)LLendThreads$Work;"⟩
abbrev cX5_isWork : ByteArray := prog_1_method_19_code
def yX5_isWork : MethodName := ⟨RX5, "isWork", "(I)Z"⟩
abbrev cX5_isOther : ByteArray := prog_1_method_20_code
def yX5_isOther : MethodName := ⟨RX5, "isOther", "(II)Z"⟩
abbrev cX5_isCopy : ByteArray := prog_1_method_21_code
def yX5_isCopy : MethodName := ⟨RX5, "isCopy", "(I)Z"⟩
abbrev cX5_isWaiting : ByteArray := prog_1_method_22_code
def yX5_isWaiting : MethodName := ⟨RX5, "isWaiting", "(I)Z"⟩
abbrev cX5_takeTurn : ByteArray := prog_1_method_23_code
def yX5_takeTurn : MethodName := ⟨RX5, "takeTurn", "(LLendThreads$Work;)I"⟩
abbrev cX5_goForNext : ByteArray := prog_1_method_24_code
def yX5_goForNext : MethodName := ⟨RX5, "goForNext", "(LLendThreads$Work;)I"⟩
abbrev cX5_goForCopy : ByteArray := prog_1_method_25_code
def yX5_goForCopy : MethodName := ⟨RX5, "goForCopy", "(LLendThreads$Work;I)I"⟩
abbrev cX5_goForMessage : ByteArray := prog_1_method_26_code
def yX5_goForMessage : MethodName := ⟨RX5, "goForMessage", "(LLendThreads$Work;I)I"⟩
abbrev cX5_actOrFail : ByteArray := prog_1_method_27_code
def yX5_actOrFail : MethodName := ⟨RX5, "actOrFail", "(LLendThreads$Work;)I"⟩
abbrev cX5_sendAll : ByteArray := prog_1_method_28_code
def yX5_sendAll : MethodName := ⟨RX5, "sendAll", "(LLendThreads$Work;)V"⟩
abbrev cX5_undo : ByteArray := prog_1_method_29_code
def yX5_undo : MethodName := ⟨RX5, "undo", "(LLendThreads$Work;I)V"⟩
abbrev cX5_greatestInRingOf : ByteArray := prog_1_method_30_code
def yX5_greatestInRingOf : MethodName := ⟨RX5, "greatestInRingOf", "(I)I"⟩
def RX6 : String := "LendThreadsModel"
def TX6 : u_T := fun k => match k with
  | 0 => ("LendThreadsModel", "thrown", "I", false)
  | 1 => ("LendThreadsModel", "works", "I", false)
  | 2 => ("LendThreadsModel", "steps", "[I", true)
  | 3 => ("LendThreadsModel", "failsAt", "[I", true)
  | 4 => ("LendThreadsModel", "state", "[I", true)
  | 5 => ("LendThreadsModel", "step", "[I", true)
  | 6 => ("LendThreadsModel", "got", "[I", true)
  | 7 => ("LendThreadsModel", "latest", "[I", true)
  | 8 => ("LendThreadsModel", "begun", "[Z", true)
  | 9 => ("LendThreadsModel", "asked", "[I", true)
  | 10 => ("LendThreadsModel", "again", "[I", true)
  | 11 => ("LendThreadsModel", "waitsFor", "[I", true)
  | 12 => ("LendThreadsModel", "since", "[I", true)
  | 13 => ("LendThreadsModel", "clock", "I", false)
  | 14 => ("LendThreadsModel", "wantCount", "[I", true)
  | 15 => ("LendThreadsModel", "want", "[I", true)
  | 16 => ("LendThreadsModel", "sendCount", "[I", true)
  | 17 => ("LendThreadsModel", "send", "[I", true)
  | 18 => ("LendThreadsModel", "owner", "[I", true)
  | 19 => ("LendThreadsModel", "value", "[I", true)
  | 20 => ("LendThreadsModel", "there", "[I", true)
  | 21 => ("LendThreadsModel", "lost", "[I", true)
  | 22 => ("LendThreadsModel", "losing", "I", false)
  | 23 => ("LendThreadsModel", "changes", "I", false)
  | 24 => ("LendThreadsModel", "changedBy", "[I", true)
  | 25 => ("LendThreadsModel", "changed", "[I", true)
  | 26 => ("LendThreadsModel", "before", "[I", true)
  | 27 => ("LendThreadsModel", "logged", "I", false)
  | _ => ("LendThreadsModel", "log", "[I", true)
def tyX6 : Nat → FieldType := fun k => match k with
  | 0 => .int
  | 1 => .int
  | 2 => .array .int
  | 3 => .array .int
  | 4 => .array .int
  | 5 => .array .int
  | 6 => .array .int
  | 7 => .array .int
  | 8 => .array .boolean
  | 9 => .array .int
  | 10 => .array .int
  | 11 => .array .int
  | 12 => .array .int
  | 13 => .int
  | 14 => .array .int
  | 15 => .array .int
  | 16 => .array .int
  | 17 => .array .int
  | 18 => .array .int
  | 19 => .array .int
  | 20 => .array .int
  | 21 => .array .int
  | 22 => .int
  | 23 => .int
  | 24 => .array .int
  | 25 => .array .int
  | 26 => .array .int
  | 27 => .int
  | _ => .array .int
abbrev wsX60 : List Cond := u_ws RX6 TX6 29
theorem nmX6 : ∀ a, a < 29 → ∀ b, b < 29 → a ≠ b → (TX6 a).2.1 ≠ (TX6 b).2.1 := by decide +kernel
theorem tyX6_ok : ∀ k, k < 29 → parseFieldDescriptor (TX6 k).2.2.1 = some (tyX6 k) := by decide +kernel
abbrev cX6_init : ByteArray := prog_8_method_1_code
def yX6_init : MethodName := ⟨RX6, "<init>", "()V"⟩
abbrev cX6_thrown : ByteArray := prog_8_method_2_code
def yX6_thrown : MethodName := ⟨RX6, "thrown", "()I"⟩
abbrev cX6_in : ByteArray := prog_8_method_3_code
def yX6_in : MethodName := ⟨RX6, "in", "(III)Z"⟩
abbrev cX6_isWork : ByteArray := prog_8_method_4_code
def yX6_isWork : MethodName := ⟨RX6, "isWork", "(I)Z"⟩
abbrev cX6_work : ByteArray := prog_8_method_5_code
def yX6_work : MethodName := ⟨RX6, "work", "(II)I"⟩
abbrev cX6_isStep : ByteArray := prog_8_method_6_code
def yX6_isStep : MethodName := ⟨RX6, "isStep", "(II)Z"⟩
abbrev cX6_wants : ByteArray := prog_8_method_7_code
def yX6_wants : MethodName := ⟨RX6, "wants", "(IIZI)I"⟩
abbrev cX6_sends : ByteArray := prog_8_method_8_code
def yX6_sends : MethodName := ⟨RX6, "sends", "(III)I"⟩
abbrev cX6_loses : ByteArray := prog_8_method_9_code
def yX6_loses : MethodName := ⟨RX6, "loses", "(I)I"⟩
abbrev cX6_ahead : ByteArray := prog_8_method_10_code
def yX6_ahead : MethodName := ⟨RX6, "ahead", "(II)I"⟩
abbrev cX6_takes : ByteArray := prog_8_method_11_code
def yX6_takes : MethodName := ⟨RX6, "takes", "(II)I"⟩
abbrev cX6_hears : ByteArray := prog_8_method_12_code
def yX6_hears : MethodName := ⟨RX6, "hears", "(II)I"⟩
abbrev cX6_frees : ByteArray := prog_8_method_13_code
def yX6_frees : MethodName := ⟨RX6, "frees", "(I)V"⟩
abbrev cX6_undo : ByteArray := prog_8_method_14_code
def yX6_undo : MethodName := ⟨RX6, "undo", "(II)V"⟩
abbrev cX6_acts : ByteArray := prog_8_method_15_code
def yX6_acts : MethodName := ⟨RX6, "acts", "(I)V"⟩
abbrev cX6_does : ByteArray := prog_8_method_16_code
def yX6_does : MethodName := ⟨RX6, "does", "(I)I"⟩
abbrev cX6_turn : ByteArray := prog_8_method_17_code
def yX6_turn : MethodName := ⟨RX6, "turn", "(I)I"⟩
abbrev cX6_run : ByteArray := prog_8_method_18_code
def yX6_run : MethodName := ⟨RX6, "run", "()I"⟩
abbrev cX6_waitsOn : ByteArray := prog_8_method_19_code
def yX6_waitsOn : MethodName := ⟨RX6, "waitsOn", "(I)I"⟩
abbrev cX6_ring : ByteArray := prog_8_method_20_code
def yX6_ring : MethodName := ⟨RX6, "ring", "()I"⟩
abbrev cX6_interrupt : ByteArray := prog_8_method_21_code
def yX6_interrupt : MethodName := ⟨RX6, "interrupt", "(I)I"⟩
abbrev cX6_again : ByteArray := prog_8_method_22_code
def yX6_again : MethodName := ⟨RX6, "again", "(I)I"⟩
abbrev cX6_close : ByteArray := prog_8_method_23_code
def yX6_close : MethodName := ⟨RX6, "close", "()I"⟩
abbrev cX6_state : ByteArray := prog_8_method_24_code
def yX6_state : MethodName := ⟨RX6, "state", "(II)I"⟩
abbrev cX6_has : ByteArray := prog_8_method_25_code
def yX6_has : MethodName := ⟨RX6, "has", "(I)I"⟩
abbrev cX6_line : ByteArray := prog_8_method_26_code
def yX6_line : MethodName := ⟨RX6, "line", "(II)I"⟩
abbrev cX6_value : ByteArray := prog_8_method_27_code
def yX6_value : MethodName := ⟨RX6, "value", "(I)I"⟩
abbrev cX6_log : ByteArray := prog_8_method_28_code
def yX6_log : MethodName := ⟨RX6, "log", "(I)I"⟩
abbrev cX6_mail : ByteArray := prog_8_method_29_code
def yX6_mail : MethodName := ⟨RX6, "mail", "(II)I"⟩
def RJ9 : String := "java/lang/Math"
def TJ9 : u_T := fun k => match k with
  | _ => ("", "", "", false)
def tyJ9 : Nat → FieldType := fun k => match k with
  | _ => .int
abbrev wsJ90 : List Cond := u_ws RJ9 TJ9 0
theorem nmJ9 : ∀ a, a < 0 → ∀ b, b < 0 → a ≠ b → (TJ9 a).2.1 ≠ (TJ9 b).2.1 := by decide +kernel
theorem tyJ9_ok : ∀ k, k < 0 → parseFieldDescriptor (TJ9 k).2.2.1 = some (tyJ9 k) := by decide +kernel
abbrev cJ9_max_7cf53 : ByteArray := prog_11_method_65_code
def yJ9_max_7cf53 : MethodName := ⟨RJ9, "max", "(II)I"⟩
def RJ0 : String := "java/lang/String"
def TJ0 : u_T := fun k => match k with
  | _ => ("", "", "", false)
def tyJ0 : Nat → FieldType := fun k => match k with
  | _ => .int
abbrev wsJ00 : List Cond := u_ws RJ0 TJ0 0
theorem nmJ0 : ∀ a, a < 0 → ∀ b, b < 0 → a ≠ b → (TJ0 a).2.1 ≠ (TJ0 b).2.1 := by decide +kernel
theorem tyJ0_ok : ∀ k, k < 0 → parseFieldDescriptor (TJ0 k).2.2.1 = some (tyJ0 k) := by decide +kernel
def RJ7 : String := "java/util/Arrays"
def TJ7 : u_T := fun k => match k with
  | _ => ("", "", "", false)
def tyJ7 : Nat → FieldType := fun k => match k with
  | _ => .int
abbrev wsJ70 : List Cond := u_ws RJ7 TJ7 0
theorem nmJ7 : ∀ a, a < 0 → ∀ b, b < 0 → a ≠ b → (TJ7 a).2.1 ≠ (TJ7 b).2.1 := by decide +kernel
theorem tyJ7_ok : ∀ k, k < 0 → parseFieldDescriptor (TJ7 k).2.2.1 = some (tyJ7 k) := by decide +kernel
abbrev cJ7_fill_53178 : ByteArray := prog_15_method_103_code
def yJ7_fill_53178 : MethodName := ⟨RJ7, "fill", "([II)V"⟩
def RL : String := "LendThreadsLaw"
abbrev cL_value : ByteArray := method_3_code
def yL_value : MethodName := ⟨RL, "value", "(LLendThreads;I[J)I"⟩
abbrev cL_law : ByteArray := code
def yL_law : MethodName := ⟨RL, "law", "([I)Z"⟩
def wsX2_init : List Cond := .code yX2_init cX2_init 3 none :: ([.methodLink RX2 3 objectInit, .instanceMethod objectInit, .code objectInit ⟨#[0xb1]⟩ 1 none, .fieldLink RX2 9 "LendThreads$Rows" "room" "I", .arrayClass .int, .fieldLink RX2 15 "LendThreads$Rows" "counts" "[I", .fieldLink RX2 19 "LendThreads$Rows" "items" "[I"] ++ wsX20)
def wsX0_init : List Cond := .code yX0_init cX0_init 1 none :: ([.methodLink RX0 3 objectInit, .instanceMethod objectInit, .code objectInit ⟨#[0xb1]⟩ 1 none, .classLink RX0 9 RX2, .instantiable RX2 3, .initialized RX2, .fieldLink RX0 14 "LendThreads$Diary" "lines" "LLendThreads$Rows;", .methodLink RX0 11 yX2_init, .instanceMethod yX2_init, .code yX2_init cX2_init 3 none, .methodLink RX2 3 objectInit, .fieldLink RX2 9 "LendThreads$Rows" "room" "I", .arrayClass .int, .fieldLink RX2 15 "LendThreads$Rows" "counts" "[I", .fieldLink RX2 19 "LendThreads$Rows" "items" "[I"] ++ wsX20 ++ wsX00)
def wsX2_add : List Cond := .code yX2_add cX2_add 3 (some .int) :: ([.fieldLink RX2 15 "LendThreads$Rows" "counts" "[I", .fieldLink RX2 9 "LendThreads$Rows" "room" "I", .fieldLink RX2 19 "LendThreads$Rows" "items" "[I"] ++ wsX20)
def wsX0_write : List Cond := .code yX0_write cX0_write 3 none :: ([.fieldLink RX0 14 "LendThreads$Diary" "lines" "LLendThreads$Rows;", .methodLink RX0 20 yX2_add, .instanceMethod yX2_add, .selects RX2 yX2_add yX2_add, .initialized RX2, .code yX2_add cX2_add 3 (some .int), .fieldLink RX2 15 "LendThreads$Rows" "counts" "[I", .fieldLink RX2 9 "LendThreads$Rows" "room" "I", .fieldLink RX2 19 "LendThreads$Rows" "items" "[I"] ++ wsX00 ++ wsX20)
def wsX1_init : List Cond := .code yX1_init cX1_init 1 none :: ([.methodLink RX1 3 objectInit, .instanceMethod objectInit, .code objectInit ⟨#[0xb1]⟩ 1 none, .arrayClass .int, .fieldLink RX1 9 "LendThreads$Post" "there" "[I", .fieldLink RX1 15 "LendThreads$Post" "lost" "[I"] ++ wsX10)
def wsX1_way : List Cond := .code yX1_way cX1_way 2 (some .int) :: ([])
def wsX1_isWay : List Cond := .code yX1_isWay cX1_isWay 2 (some .boolean) :: ([.fieldLink RX1 9 "LendThreads$Post" "there" "[I", .fieldLink RX1 15 "LendThreads$Post" "lost" "[I"] ++ wsX10)
def wsX1_countThere : List Cond := .code yX1_countThere cX1_countThere 2 (some .int) :: ([.fieldLink RX1 9 "LendThreads$Post" "there" "[I", .methodLink RX1 18 yX1_isWay, .instanceMethod yX1_isWay, .selects RX1 yX1_isWay yX1_isWay, .initialized RX1, .code yX1_isWay cX1_isWay 2 (some .boolean), .fieldLink RX1 15 "LendThreads$Post" "lost" "[I"] ++ wsX10)
def wsX1_send : List Cond := .code yX1_send cX1_send 2 none :: ([.fieldLink RX1 22 "LendThreads$Post" "toLose" "I", .fieldLink RX1 15 "LendThreads$Post" "lost" "[I", .fieldLink RX1 9 "LendThreads$Post" "there" "[I", .methodLink RX1 18 yX1_isWay, .instanceMethod yX1_isWay, .selects RX1 yX1_isWay yX1_isWay, .initialized RX1, .code yX1_isWay cX1_isWay 2 (some .boolean)] ++ wsX10)
def wsX1_take : List Cond := .code yX1_take cX1_take 2 (some .boolean) :: ([.fieldLink RX1 9 "LendThreads$Post" "there" "[I", .methodLink RX1 18 yX1_isWay, .instanceMethod yX1_isWay, .selects RX1 yX1_isWay yX1_isWay, .initialized RX1, .code yX1_isWay cX1_isWay 2 (some .boolean), .fieldLink RX1 15 "LendThreads$Post" "lost" "[I"] ++ wsX10)
def wsX1_findLost : List Cond := .code yX1_findLost cX1_findLost 2 (some .boolean) :: ([.fieldLink RX1 15 "LendThreads$Post" "lost" "[I", .fieldLink RX1 9 "LendThreads$Post" "there" "[I", .methodLink RX1 18 yX1_isWay, .instanceMethod yX1_isWay, .selects RX1 yX1_isWay yX1_isWay, .initialized RX1, .code yX1_isWay cX1_isWay 2 (some .boolean)] ++ wsX10)
def wsX2_count : List Cond := .code yX2_count cX2_count 2 (some .int) :: ([.fieldLink RX2 15 "LendThreads$Rows" "counts" "[I"] ++ wsX20)
def wsX2_item : List Cond := .code yX2_item cX2_item 3 (some .int) :: ([.fieldLink RX2 19 "LendThreads$Rows" "items" "[I", .fieldLink RX2 9 "LendThreads$Rows" "room" "I", .methodLink RX2 22 yX2_count, .instanceMethod yX2_count, .selects RX2 yX2_count yX2_count, .initialized RX2, .code yX2_count cX2_count 2 (some .int), .fieldLink RX2 15 "LendThreads$Rows" "counts" "[I"] ++ wsX20)
def wsX2_placeOf : List Cond := .code yX2_placeOf cX2_placeOf 5 (some .int) :: ([.fieldLink RX2 19 "LendThreads$Rows" "items" "[I", .fieldLink RX2 9 "LendThreads$Rows" "room" "I", .methodLink RX2 22 yX2_count, .instanceMethod yX2_count, .selects RX2 yX2_count yX2_count, .initialized RX2, .code yX2_count cX2_count 2 (some .int), .fieldLink RX2 15 "LendThreads$Rows" "counts" "[I"] ++ wsX20)
def wsX2_remove : List Cond := .code yX2_remove cX2_remove 5 none :: ([.fieldLink RX2 15 "LendThreads$Rows" "counts" "[I", .fieldLink RX2 19 "LendThreads$Rows" "items" "[I", .fieldLink RX2 9 "LendThreads$Rows" "room" "I", .methodLink RX2 26 yX2_placeOf, .instanceMethod yX2_placeOf, .selects RX2 yX2_placeOf yX2_placeOf, .initialized RX2, .code yX2_placeOf cX2_placeOf 5 (some .int), .methodLink RX2 22 yX2_count, .instanceMethod yX2_count, .selects RX2 yX2_count yX2_count, .code yX2_count cX2_count 2 (some .int)] ++ wsX20)
def wsJ7_fill_53178 : List Cond := .code yJ7_fill_53178 cJ7_fill_53178 4 none :: ([])
def wsX3_init : List Cond := .code yX3_init cX3_init 1 none :: ([.methodLink RX3 3 objectInit, .instanceMethod objectInit, .code objectInit ⟨#[0xb1]⟩ 1 none, .arrayClass .int, .fieldLink RX3 9 "LendThreads$Shelf" "values" "[I", .fieldLink RX3 15 "LendThreads$Shelf" "valuesWhenTaken" "[I", .fieldLink RX3 18 "LendThreads$Shelf" "holders" "[I", .classLink RX3 21 RX2, .instantiable RX2 3, .initialized RX2, .fieldLink RX3 26 "LendThreads$Shelf" "lines" "LLendThreads$Rows;", .methodLink RX3 23 yX2_init, .instanceMethod yX2_init, .code yX2_init cX2_init 3 none, .methodLink RX2 3 objectInit, .fieldLink RX2 9 "LendThreads$Rows" "room" "I", .fieldLink RX2 15 "LendThreads$Rows" "counts" "[I", .fieldLink RX2 19 "LendThreads$Rows" "items" "[I", .methodLink RX3 30 yJ7_fill_53178, .static yJ7_fill_53178, .initialized RJ7, .code yJ7_fill_53178 cJ7_fill_53178 4 none] ++ wsX30 ++ wsX20)
def wsX3_isFreeFor : List Cond := .code yX3_isFreeFor cX3_isFreeFor 4 (some .boolean) :: ([.fieldLink RX3 26 "LendThreads$Shelf" "lines" "LLendThreads$Rows;", .fieldLink RX3 18 "LendThreads$Shelf" "holders" "[I", .methodLink RX3 36 yX2_item, .instanceMethod yX2_item, .selects RX2 yX2_item yX2_item, .initialized RX2, .code yX2_item cX2_item 3 (some .int), .fieldLink RX2 19 "LendThreads$Rows" "items" "[I", .fieldLink RX2 9 "LendThreads$Rows" "room" "I", .methodLink RX2 22 yX2_count, .instanceMethod yX2_count, .selects RX2 yX2_count yX2_count, .code yX2_count cX2_count 2 (some .int), .fieldLink RX2 15 "LendThreads$Rows" "counts" "[I"] ++ wsX30 ++ wsX20)
def wsX3_take : List Cond := .code yX3_take cX3_take 3 none :: ([.fieldLink RX3 26 "LendThreads$Shelf" "lines" "LLendThreads$Rows;", .fieldLink RX3 18 "LendThreads$Shelf" "holders" "[I", .fieldLink RX3 15 "LendThreads$Shelf" "valuesWhenTaken" "[I", .fieldLink RX3 9 "LendThreads$Shelf" "values" "[I", .methodLink RX3 40 yX2_remove, .instanceMethod yX2_remove, .selects RX2 yX2_remove yX2_remove, .initialized RX2, .code yX2_remove cX2_remove 5 none, .fieldLink RX2 15 "LendThreads$Rows" "counts" "[I", .fieldLink RX2 19 "LendThreads$Rows" "items" "[I", .fieldLink RX2 9 "LendThreads$Rows" "room" "I", .methodLink RX2 26 yX2_placeOf, .instanceMethod yX2_placeOf, .selects RX2 yX2_placeOf yX2_placeOf, .code yX2_placeOf cX2_placeOf 5 (some .int), .methodLink RX2 22 yX2_count, .instanceMethod yX2_count, .selects RX2 yX2_count yX2_count, .code yX2_count cX2_count 2 (some .int)] ++ wsX30 ++ wsX20)
def wsX3_standInLine : List Cond := .code yX3_standInLine cX3_standInLine 3 none :: ([.fieldLink RX3 26 "LendThreads$Shelf" "lines" "LLendThreads$Rows;", .methodLink RX3 43 yX2_placeOf, .instanceMethod yX2_placeOf, .selects RX2 yX2_placeOf yX2_placeOf, .initialized RX2, .code yX2_placeOf cX2_placeOf 5 (some .int), .fieldLink RX2 19 "LendThreads$Rows" "items" "[I", .fieldLink RX2 9 "LendThreads$Rows" "room" "I", .methodLink RX2 22 yX2_count, .instanceMethod yX2_count, .selects RX2 yX2_count yX2_count, .code yX2_count cX2_count 2 (some .int), .fieldLink RX2 15 "LendThreads$Rows" "counts" "[I", .methodLink RX3 46 yX2_add, .instanceMethod yX2_add, .selects RX2 yX2_add yX2_add, .code yX2_add cX2_add 3 (some .int)] ++ wsX30 ++ wsX20)
def wsX3_change : List Cond := .code yX3_change cX3_change 4 none :: ([.fieldLink RX3 18 "LendThreads$Shelf" "holders" "[I", .fieldLink RX3 9 "LendThreads$Shelf" "values" "[I"] ++ wsX30)
def wsX3_restore : List Cond := .code yX3_restore cX3_restore 3 none :: ([.fieldLink RX3 18 "LendThreads$Shelf" "holders" "[I", .fieldLink RX3 9 "LendThreads$Shelf" "values" "[I", .fieldLink RX3 15 "LendThreads$Shelf" "valuesWhenTaken" "[I"] ++ wsX30)
def wsX3_release : List Cond := .code yX3_release cX3_release 3 none :: ([.fieldLink RX3 26 "LendThreads$Shelf" "lines" "LLendThreads$Rows;", .fieldLink RX3 18 "LendThreads$Shelf" "holders" "[I", .methodLink RX3 40 yX2_remove, .instanceMethod yX2_remove, .selects RX2 yX2_remove yX2_remove, .initialized RX2, .code yX2_remove cX2_remove 5 none, .fieldLink RX2 15 "LendThreads$Rows" "counts" "[I", .fieldLink RX2 19 "LendThreads$Rows" "items" "[I", .fieldLink RX2 9 "LendThreads$Rows" "room" "I", .methodLink RX2 26 yX2_placeOf, .instanceMethod yX2_placeOf, .selects RX2 yX2_placeOf yX2_placeOf, .code yX2_placeOf cX2_placeOf 5 (some .int), .methodLink RX2 22 yX2_count, .instanceMethod yX2_count, .selects RX2 yX2_count yX2_count, .code yX2_count cX2_count 2 (some .int)] ++ wsX30 ++ wsX20)
def wsX3_countOf : List Cond := .code yX3_countOf cX3_countOf 4 (some .int) :: ([.fieldLink RX3 18 "LendThreads$Shelf" "holders" "[I"] ++ wsX30)
def wsX3_holderAwaitedBy : List Cond := .code yX3_holderAwaitedBy cX3_holderAwaitedBy 3 (some .int) :: ([.fieldLink RX3 26 "LendThreads$Shelf" "lines" "LLendThreads$Rows;", .fieldLink RX3 18 "LendThreads$Shelf" "holders" "[I", .methodLink RX3 43 yX2_placeOf, .instanceMethod yX2_placeOf, .selects RX2 yX2_placeOf yX2_placeOf, .initialized RX2, .code yX2_placeOf cX2_placeOf 5 (some .int), .fieldLink RX2 19 "LendThreads$Rows" "items" "[I", .fieldLink RX2 9 "LendThreads$Rows" "room" "I", .methodLink RX2 22 yX2_count, .instanceMethod yX2_count, .selects RX2 yX2_count yX2_count, .code yX2_count cX2_count 2 (some .int), .fieldLink RX2 15 "LendThreads$Rows" "counts" "[I"] ++ wsX30 ++ wsX20)
def wsX4_init : List Cond := .code yX4_init cX4_init 2 none :: ([.methodLink RX4 3 objectInit, .instanceMethod objectInit, .code objectInit ⟨#[0xb1]⟩ 1 none, .classLink RX4 9 RX2, .instantiable RX2 3, .initialized RX2, .fieldLink RX4 14 "LendThreads$Work" "wanted" "LLendThreads$Rows;", .fieldLink RX4 20 "LendThreads$Work" "receivers" "LLendThreads$Rows;", .fieldLink RX4 23 "LendThreads$Work" "failsAt" "I", .fieldLink RX4 27 "LendThreads$Work" "state" "I", .fieldLink RX4 30 "LendThreads$Work" "latest" "I", .fieldLink RX4 33 "LendThreads$Work" "number" "I", .methodLink RX4 11 yX2_init, .instanceMethod yX2_init, .code yX2_init cX2_init 3 none, .methodLink RX2 3 objectInit, .fieldLink RX2 9 "LendThreads$Rows" "room" "I", .arrayClass .int, .fieldLink RX2 15 "LendThreads$Rows" "counts" "[I", .fieldLink RX2 19 "LendThreads$Rows" "items" "[I"] ++ wsX20 ++ wsX40)
def wsX4_isStep : List Cond := .code yX4_isStep cX4_isStep 2 (some .boolean) :: ([.fieldLink RX4 36 "LendThreads$Work" "steps" "I"] ++ wsX40)
def wsX4_gotAll : List Cond := .code yX4_gotAll cX4_gotAll 1 (some .boolean) :: ([.fieldLink RX4 39 "LendThreads$Work" "got" "I", .fieldLink RX4 14 "LendThreads$Work" "wanted" "LLendThreads$Rows;", .fieldLink RX4 42 "LendThreads$Work" "step" "I", .methodLink RX4 45 yX2_count, .instanceMethod yX2_count, .selects RX2 yX2_count yX2_count, .initialized RX2, .code yX2_count cX2_count 2 (some .int), .fieldLink RX2 15 "LendThreads$Rows" "counts" "[I"] ++ wsX40 ++ wsX20)
def wsX4_beginAgain : List Cond := .code yX4_beginAgain cX4_beginAgain 1 none :: ([.fieldLink RX4 27 "LendThreads$Work" "state" "I", .fieldLink RX4 42 "LendThreads$Work" "step" "I", .fieldLink RX4 39 "LendThreads$Work" "got" "I", .fieldLink RX4 23 "LendThreads$Work" "failsAt" "I", .fieldLink RX4 30 "LendThreads$Work" "latest" "I", .fieldLink RX4 49 "LendThreads$Work" "begunAgain" "I"] ++ wsX40)
def wsX5_init_r1 : List Cond := [Cond.methodLink RX5 1 objectInit, Cond.instanceMethod objectInit, Cond.code objectInit ⟨#[0xb1]⟩ 1 none, Cond.classLink RX5 9 RX4, Cond.fieldLink RX5 11 "LendThreads" "works" "[LLendThreads$Work;", Cond.classLink RX5 15 RX3, Cond.instantiable RX3 4, Cond.initialized RX3, Cond.fieldLink RX5 18 "LendThreads" "shelf" "LLendThreads$Shelf;", Cond.classLink RX5 22 RX1, Cond.instantiable RX1 3, Cond.initialized RX1, Cond.fieldLink RX5 25 "LendThreads" "post" "LLendThreads$Post;", Cond.classLink RX5 29 RX0, Cond.instantiable RX0 1, Cond.initialized RX0, Cond.fieldLink RX5 32 "LendThreads" "diary" "LLendThreads$Diary;", Cond.instantiable RX4 12, Cond.initialized RX4, Cond.methodLink RX5 17 yX3_init, Cond.instanceMethod yX3_init, Cond.code yX3_init cX3_init 1 none, Cond.methodLink RX3 3 objectInit, Cond.arrayClass .int]
def wsX5_init_r2 : List Cond := [Cond.fieldLink RX3 9 "LendThreads$Shelf" "values" "[I", Cond.fieldLink RX3 15 "LendThreads$Shelf" "valuesWhenTaken" "[I", Cond.fieldLink RX3 18 "LendThreads$Shelf" "holders" "[I", Cond.classLink RX3 21 RX2, Cond.instantiable RX2 3, Cond.initialized RX2, Cond.fieldLink RX3 26 "LendThreads$Shelf" "lines" "LLendThreads$Rows;", Cond.methodLink RX3 23 yX2_init, Cond.instanceMethod yX2_init, Cond.code yX2_init cX2_init 3 none, Cond.methodLink RX2 3 objectInit, Cond.fieldLink RX2 9 "LendThreads$Rows" "room" "I", Cond.fieldLink RX2 15 "LendThreads$Rows" "counts" "[I", Cond.fieldLink RX2 19 "LendThreads$Rows" "items" "[I", Cond.methodLink RX3 30 yJ7_fill_53178, Cond.static yJ7_fill_53178, Cond.initialized RJ7, Cond.code yJ7_fill_53178 cJ7_fill_53178 4 none, Cond.instanceMethod yX1_init, Cond.code yX1_init cX1_init 1 none, Cond.methodLink RX1 3 objectInit, Cond.fieldLink RX1 9 "LendThreads$Post" "there" "[I", Cond.fieldLink RX1 15 "LendThreads$Post" "lost" "[I", Cond.instanceMethod yX0_init]
def wsX5_init_r3 : List Cond := [Cond.code yX0_init cX0_init 1 none, Cond.methodLink RX0 3 objectInit, Cond.classLink RX0 9 RX2, Cond.fieldLink RX0 14 "LendThreads$Diary" "lines" "LLendThreads$Rows;", Cond.methodLink RX0 11 yX2_init, Cond.methodLink RX5 36 yX4_init, Cond.instanceMethod yX4_init, Cond.code yX4_init cX4_init 2 none, Cond.methodLink RX4 3 objectInit, Cond.classLink RX4 9 RX2, Cond.fieldLink RX4 14 "LendThreads$Work" "wanted" "LLendThreads$Rows;", Cond.fieldLink RX4 20 "LendThreads$Work" "receivers" "LLendThreads$Rows;", Cond.fieldLink RX4 23 "LendThreads$Work" "failsAt" "I", Cond.fieldLink RX4 27 "LendThreads$Work" "state" "I", Cond.fieldLink RX4 30 "LendThreads$Work" "latest" "I", Cond.fieldLink RX4 33 "LendThreads$Work" "number" "I", Cond.methodLink RX4 11 yX2_init]
def wsX5_init : List Cond := .code yX5_init cX5_init 2 none :: ((wsX5_init_r1 ++ (wsX5_init_r2 ++ wsX5_init_r3)) ++ wsX50 ++ wsX30 ++ wsX10 ++ wsX00 ++ wsX40 ++ wsX20)
def wsX5_work : List Cond := .code yX5_work cX5_work 4 (some .int) :: ([.fieldLink RX5 39 "LendThreads" "workCount" "I", .fieldLink RX5 11 "LendThreads" "works" "[LLendThreads$Work;"] ++ wsX50 ++ wsX40)
def wsX5_isWork : List Cond := .code yX5_isWork cX5_isWork 2 (some .boolean) :: ([.fieldLink RX5 39 "LendThreads" "workCount" "I"] ++ wsX50)
def wsX5_find : List Cond := .code yX5_find cX5_find 2 (some (.object "LendThreads$Work")) :: ([.fieldLink RX5 11 "LendThreads" "works" "[LLendThreads$Work;", .methodLink RX5 154 yX5_isWork, .instanceMethod yX5_isWork, .selects RX5 yX5_isWork yX5_isWork, .initialized RX5, .code yX5_isWork cX5_isWork 2 (some .boolean), .fieldLink RX5 39 "LendThreads" "workCount" "I"] ++ wsX50)
def wsX5_isOther : List Cond := .code yX5_isOther cX5_isOther 3 (some .boolean) :: ([.methodLink RX5 154 yX5_isWork, .instanceMethod yX5_isWork, .selects RX5 yX5_isWork yX5_isWork, .initialized RX5, .code yX5_isWork cX5_isWork 2 (some .boolean), .fieldLink RX5 39 "LendThreads" "workCount" "I"] ++ wsX50)
def wsX5_isCopy : List Cond := .code yX5_isCopy cX5_isCopy 1 (some .boolean) :: ([])
def wsX5_wants_r1 : List Cond := [Cond.methodLink RX5 52 yX5_find, Cond.instanceMethod yX5_find, Cond.selects RX5 yX5_find yX5_find, Cond.initialized RX5, Cond.code yX5_find cX5_find 2 (some (.object "LendThreads$Work")), Cond.fieldLink RX5 11 "LendThreads" "works" "[LLendThreads$Work;", Cond.methodLink RX5 154 yX5_isWork, Cond.instanceMethod yX5_isWork, Cond.selects RX5 yX5_isWork yX5_isWork, Cond.code yX5_isWork cX5_isWork 2 (some .boolean), Cond.fieldLink RX5 39 "LendThreads" "workCount" "I", Cond.methodLink RX5 56 yX4_isStep, Cond.instanceMethod yX4_isStep, Cond.selects RX4 yX4_isStep yX4_isStep, Cond.initialized RX4, Cond.code yX4_isStep cX4_isStep 2 (some .boolean), Cond.fieldLink RX4 36 "LendThreads$Work" "steps" "I", Cond.methodLink RX5 60 yX5_isOther, Cond.instanceMethod yX5_isOther, Cond.selects RX5 yX5_isOther yX5_isOther, Cond.code yX5_isOther cX5_isOther 3 (some .boolean), Cond.methodLink RX5 64 yX5_isCopy, Cond.static yX5_isCopy, Cond.code yX5_isCopy cX5_isCopy 1 (some .boolean)]
def wsX5_wants_r2 : List Cond := [Cond.methodLink RX5 75 yX2_add, Cond.instanceMethod yX2_add, Cond.selects RX2 yX2_add yX2_add, Cond.initialized RX2, Cond.code yX2_add cX2_add 3 (some .int), Cond.fieldLink RX2 15 "LendThreads$Rows" "counts" "[I", Cond.fieldLink RX2 9 "LendThreads$Rows" "room" "I", Cond.fieldLink RX2 19 "LendThreads$Rows" "items" "[I"]
def wsX5_wants : List Cond := .code yX5_wants cX5_wants 6 (some .int) :: ((wsX5_wants_r1 ++ wsX5_wants_r2) ++ wsX40 ++ wsX50 ++ wsX20)
def wsX5_sends_r1 : List Cond := [Cond.methodLink RX5 52 yX5_find, Cond.instanceMethod yX5_find, Cond.selects RX5 yX5_find yX5_find, Cond.initialized RX5, Cond.code yX5_find cX5_find 2 (some (.object "LendThreads$Work")), Cond.fieldLink RX5 11 "LendThreads" "works" "[LLendThreads$Work;", Cond.methodLink RX5 154 yX5_isWork, Cond.instanceMethod yX5_isWork, Cond.selects RX5 yX5_isWork yX5_isWork, Cond.code yX5_isWork cX5_isWork 2 (some .boolean), Cond.fieldLink RX5 39 "LendThreads" "workCount" "I", Cond.methodLink RX5 56 yX4_isStep, Cond.instanceMethod yX4_isStep, Cond.selects RX4 yX4_isStep yX4_isStep, Cond.initialized RX4, Cond.code yX4_isStep cX4_isStep 2 (some .boolean), Cond.fieldLink RX4 36 "LendThreads$Work" "steps" "I", Cond.methodLink RX5 60 yX5_isOther, Cond.instanceMethod yX5_isOther, Cond.selects RX5 yX5_isOther yX5_isOther, Cond.code yX5_isOther cX5_isOther 3 (some .boolean), Cond.methodLink RX5 75 yX2_add, Cond.instanceMethod yX2_add, Cond.selects RX2 yX2_add yX2_add]
def wsX5_sends_r2 : List Cond := [Cond.initialized RX2, Cond.code yX2_add cX2_add 3 (some .int), Cond.fieldLink RX2 15 "LendThreads$Rows" "counts" "[I", Cond.fieldLink RX2 9 "LendThreads$Rows" "room" "I", Cond.fieldLink RX2 19 "LendThreads$Rows" "items" "[I"]
def wsX5_sends : List Cond := .code yX5_sends cX5_sends 5 (some .int) :: ((wsX5_sends_r1 ++ wsX5_sends_r2) ++ wsX40 ++ wsX50 ++ wsX20)
def wsX5_loses : List Cond := .code yX5_loses cX5_loses 2 (some .int) :: ([.fieldLink RX5 25 "LendThreads" "post" "LLendThreads$Post;"] ++ wsX50 ++ wsX10)
def wsX5_undo_r1 : List Cond := [Cond.fieldLink RX5 18 "LendThreads" "shelf" "LLendThreads$Shelf;", Cond.methodLink RX5 208 yX3_restore, Cond.instanceMethod yX3_restore, Cond.selects RX3 yX3_restore yX3_restore, Cond.initialized RX3, Cond.code yX3_restore cX3_restore 3 none, Cond.fieldLink RX3 18 "LendThreads$Shelf" "holders" "[I", Cond.fieldLink RX3 9 "LendThreads$Shelf" "values" "[I", Cond.fieldLink RX3 15 "LendThreads$Shelf" "valuesWhenTaken" "[I", Cond.methodLink RX5 199 yX3_release, Cond.instanceMethod yX3_release, Cond.selects RX3 yX3_release yX3_release, Cond.code yX3_release cX3_release 3 none, Cond.fieldLink RX3 26 "LendThreads$Shelf" "lines" "LLendThreads$Rows;", Cond.methodLink RX3 40 yX2_remove, Cond.instanceMethod yX2_remove, Cond.selects RX2 yX2_remove yX2_remove, Cond.initialized RX2, Cond.code yX2_remove cX2_remove 5 none, Cond.fieldLink RX2 15 "LendThreads$Rows" "counts" "[I", Cond.fieldLink RX2 19 "LendThreads$Rows" "items" "[I", Cond.fieldLink RX2 9 "LendThreads$Rows" "room" "I", Cond.methodLink RX2 26 yX2_placeOf, Cond.instanceMethod yX2_placeOf]
def wsX5_undo_r2 : List Cond := [Cond.selects RX2 yX2_placeOf yX2_placeOf, Cond.code yX2_placeOf cX2_placeOf 5 (some .int), Cond.methodLink RX2 22 yX2_count, Cond.instanceMethod yX2_count, Cond.selects RX2 yX2_count yX2_count, Cond.code yX2_count cX2_count 2 (some .int)]
def wsX5_undo : List Cond := .code yX5_undo cX5_undo 3 none :: ((wsX5_undo_r1 ++ wsX5_undo_r2) ++ wsX50 ++ wsX40 ++ wsX30 ++ wsX20)
def wsX5_sendAll_r1 : List Cond := [Cond.fieldLink RX5 25 "LendThreads" "post" "LLendThreads$Post;", Cond.methodLink RX5 202 yX2_count, Cond.instanceMethod yX2_count, Cond.selects RX2 yX2_count yX2_count, Cond.initialized RX2, Cond.code yX2_count cX2_count 2 (some .int), Cond.fieldLink RX2 15 "LendThreads$Rows" "counts" "[I", Cond.methodLink RX5 134 yX2_item, Cond.instanceMethod yX2_item, Cond.selects RX2 yX2_item yX2_item, Cond.code yX2_item cX2_item 3 (some .int), Cond.fieldLink RX2 19 "LendThreads$Rows" "items" "[I", Cond.fieldLink RX2 9 "LendThreads$Rows" "room" "I", Cond.methodLink RX2 22 yX2_count, Cond.methodLink RX5 148 yX1_way, Cond.static yX1_way, Cond.initialized RX1, Cond.code yX1_way cX1_way 2 (some .int), Cond.methodLink RX5 205 yX1_send, Cond.instanceMethod yX1_send, Cond.selects RX1 yX1_send yX1_send, Cond.code yX1_send cX1_send 2 none, Cond.fieldLink RX1 22 "LendThreads$Post" "toLose" "I", Cond.fieldLink RX1 15 "LendThreads$Post" "lost" "[I"]
def wsX5_sendAll_r2 : List Cond := [Cond.fieldLink RX1 9 "LendThreads$Post" "there" "[I", Cond.methodLink RX1 18 yX1_isWay, Cond.instanceMethod yX1_isWay, Cond.selects RX1 yX1_isWay yX1_isWay, Cond.code yX1_isWay cX1_isWay 2 (some .boolean)]
def wsX5_sendAll : List Cond := .code yX5_sendAll cX5_sendAll 4 none :: ((wsX5_sendAll_r1 ++ wsX5_sendAll_r2) ++ wsX40 ++ wsX50 ++ wsX20 ++ wsX10)
def wsX5_actOrFail_r1 : List Cond := [Cond.fieldLink RX5 18 "LendThreads" "shelf" "LLendThreads$Shelf;", Cond.fieldLink RX5 32 "LendThreads" "diary" "LLendThreads$Diary;", Cond.methodLink RX5 99 yX5_undo, Cond.instanceMethod yX5_undo, Cond.selects RX5 yX5_undo yX5_undo, Cond.initialized RX5, Cond.code yX5_undo cX5_undo 3 none, Cond.methodLink RX5 208 yX3_restore, Cond.instanceMethod yX3_restore, Cond.selects RX3 yX3_restore yX3_restore, Cond.initialized RX3, Cond.code yX3_restore cX3_restore 3 none, Cond.fieldLink RX3 18 "LendThreads$Shelf" "holders" "[I", Cond.fieldLink RX3 9 "LendThreads$Shelf" "values" "[I", Cond.fieldLink RX3 15 "LendThreads$Shelf" "valuesWhenTaken" "[I", Cond.methodLink RX5 199 yX3_release, Cond.instanceMethod yX3_release, Cond.selects RX3 yX3_release yX3_release, Cond.code yX3_release cX3_release 3 none, Cond.fieldLink RX3 26 "LendThreads$Shelf" "lines" "LLendThreads$Rows;", Cond.methodLink RX3 40 yX2_remove, Cond.instanceMethod yX2_remove, Cond.selects RX2 yX2_remove yX2_remove, Cond.initialized RX2]
def wsX5_actOrFail_r2 : List Cond := [Cond.code yX2_remove cX2_remove 5 none, Cond.fieldLink RX2 15 "LendThreads$Rows" "counts" "[I", Cond.fieldLink RX2 19 "LendThreads$Rows" "items" "[I", Cond.fieldLink RX2 9 "LendThreads$Rows" "room" "I", Cond.methodLink RX2 26 yX2_placeOf, Cond.instanceMethod yX2_placeOf, Cond.selects RX2 yX2_placeOf yX2_placeOf, Cond.code yX2_placeOf cX2_placeOf 5 (some .int), Cond.methodLink RX2 22 yX2_count, Cond.instanceMethod yX2_count, Cond.selects RX2 yX2_count yX2_count, Cond.code yX2_count cX2_count 2 (some .int), Cond.methodLink RX5 189 yX3_change, Cond.instanceMethod yX3_change, Cond.selects RX3 yX3_change yX3_change, Cond.code yX3_change cX3_change 4 none, Cond.methodLink RX5 192 yX0_write, Cond.instanceMethod yX0_write, Cond.selects RX0 yX0_write yX0_write, Cond.initialized RX0, Cond.code yX0_write cX0_write 3 none, Cond.fieldLink RX0 14 "LendThreads$Diary" "lines" "LLendThreads$Rows;", Cond.methodLink RX0 20 yX2_add, Cond.instanceMethod yX2_add]
def wsX5_actOrFail_r3 : List Cond := [Cond.selects RX2 yX2_add yX2_add, Cond.code yX2_add cX2_add 3 (some .int), Cond.methodLink RX5 195 yX5_sendAll, Cond.instanceMethod yX5_sendAll, Cond.selects RX5 yX5_sendAll yX5_sendAll, Cond.code yX5_sendAll cX5_sendAll 4 none, Cond.fieldLink RX5 25 "LendThreads" "post" "LLendThreads$Post;", Cond.methodLink RX5 202 yX2_count, Cond.methodLink RX5 134 yX2_item, Cond.instanceMethod yX2_item, Cond.selects RX2 yX2_item yX2_item, Cond.code yX2_item cX2_item 3 (some .int), Cond.methodLink RX5 148 yX1_way, Cond.static yX1_way, Cond.initialized RX1, Cond.code yX1_way cX1_way 2 (some .int), Cond.methodLink RX5 205 yX1_send, Cond.instanceMethod yX1_send, Cond.selects RX1 yX1_send yX1_send, Cond.code yX1_send cX1_send 2 none, Cond.fieldLink RX1 22 "LendThreads$Post" "toLose" "I", Cond.fieldLink RX1 15 "LendThreads$Post" "lost" "[I", Cond.fieldLink RX1 9 "LendThreads$Post" "there" "[I", Cond.methodLink RX1 18 yX1_isWay]
def wsX5_actOrFail_r4 : List Cond := [Cond.instanceMethod yX1_isWay, Cond.selects RX1 yX1_isWay yX1_isWay, Cond.code yX1_isWay cX1_isWay 2 (some .boolean)]
def wsX5_actOrFail : List Cond := .code yX5_actOrFail cX5_actOrFail 2 (some .int) :: ((wsX5_actOrFail_r1 ++ (wsX5_actOrFail_r2 ++ (wsX5_actOrFail_r3 ++ wsX5_actOrFail_r4))) ++ wsX40 ++ wsX50 ++ wsX30 ++ wsX20 ++ wsX00 ++ wsX10)
def wsX5_goForCopy_r1 : List Cond := [Cond.fieldLink RX5 18 "LendThreads" "shelf" "LLendThreads$Shelf;", Cond.methodLink RX5 174 yX3_isFreeFor, Cond.instanceMethod yX3_isFreeFor, Cond.selects RX3 yX3_isFreeFor yX3_isFreeFor, Cond.initialized RX3, Cond.code yX3_isFreeFor cX3_isFreeFor 4 (some .boolean), Cond.fieldLink RX3 26 "LendThreads$Shelf" "lines" "LLendThreads$Rows;", Cond.fieldLink RX3 18 "LendThreads$Shelf" "holders" "[I", Cond.methodLink RX3 36 yX2_item, Cond.instanceMethod yX2_item, Cond.selects RX2 yX2_item yX2_item, Cond.initialized RX2, Cond.code yX2_item cX2_item 3 (some .int), Cond.fieldLink RX2 19 "LendThreads$Rows" "items" "[I", Cond.fieldLink RX2 9 "LendThreads$Rows" "room" "I", Cond.methodLink RX2 22 yX2_count, Cond.instanceMethod yX2_count, Cond.selects RX2 yX2_count yX2_count, Cond.code yX2_count cX2_count 2 (some .int), Cond.fieldLink RX2 15 "LendThreads$Rows" "counts" "[I", Cond.methodLink RX5 177 yX3_take, Cond.instanceMethod yX3_take, Cond.selects RX3 yX3_take yX3_take, Cond.code yX3_take cX3_take 3 none]
def wsX5_goForCopy_r2 : List Cond := [Cond.fieldLink RX3 15 "LendThreads$Shelf" "valuesWhenTaken" "[I", Cond.fieldLink RX3 9 "LendThreads$Shelf" "values" "[I", Cond.methodLink RX3 40 yX2_remove, Cond.instanceMethod yX2_remove, Cond.selects RX2 yX2_remove yX2_remove, Cond.code yX2_remove cX2_remove 5 none, Cond.methodLink RX2 26 yX2_placeOf, Cond.instanceMethod yX2_placeOf, Cond.selects RX2 yX2_placeOf yX2_placeOf, Cond.code yX2_placeOf cX2_placeOf 5 (some .int), Cond.methodLink RX5 181 yX3_standInLine, Cond.instanceMethod yX3_standInLine, Cond.selects RX3 yX3_standInLine yX3_standInLine, Cond.code yX3_standInLine cX3_standInLine 3 none, Cond.methodLink RX3 43 yX2_placeOf, Cond.methodLink RX3 46 yX2_add, Cond.instanceMethod yX2_add, Cond.selects RX2 yX2_add yX2_add, Cond.code yX2_add cX2_add 3 (some .int)]
def wsX5_goForCopy : List Cond := .code yX5_goForCopy cX5_goForCopy 3 (some .int) :: ((wsX5_goForCopy_r1 ++ wsX5_goForCopy_r2) ++ wsX50 ++ wsX30 ++ wsX40 ++ wsX20)
def wsX5_goForMessage : List Cond := .code yX5_goForMessage cX5_goForMessage 4 (some .int) :: ([.fieldLink RX5 25 "LendThreads" "post" "LLendThreads$Post;", .methodLink RX5 148 yX1_way, .static yX1_way, .initialized RX1, .code yX1_way cX1_way 2 (some .int), .methodLink RX5 184 yX1_take, .instanceMethod yX1_take, .selects RX1 yX1_take yX1_take, .code yX1_take cX1_take 2 (some .boolean), .fieldLink RX1 9 "LendThreads$Post" "there" "[I", .methodLink RX1 18 yX1_isWay, .instanceMethod yX1_isWay, .selects RX1 yX1_isWay yX1_isWay, .code yX1_isWay cX1_isWay 2 (some .boolean), .fieldLink RX1 15 "LendThreads$Post" "lost" "[I", .methodLink RX5 186 yX1_findLost, .instanceMethod yX1_findLost, .selects RX1 yX1_findLost yX1_findLost, .code yX1_findLost cX1_findLost 2 (some .boolean)] ++ wsX40 ++ wsX50 ++ wsX10)
def wsX5_goForNext_r1 : List Cond := [Cond.methodLink RX5 134 yX2_item, Cond.instanceMethod yX2_item, Cond.selects RX2 yX2_item yX2_item, Cond.initialized RX2, Cond.code yX2_item cX2_item 3 (some .int), Cond.fieldLink RX2 19 "LendThreads$Rows" "items" "[I", Cond.fieldLink RX2 9 "LendThreads$Rows" "room" "I", Cond.methodLink RX2 22 yX2_count, Cond.instanceMethod yX2_count, Cond.selects RX2 yX2_count yX2_count, Cond.code yX2_count cX2_count 2 (some .int), Cond.fieldLink RX2 15 "LendThreads$Rows" "counts" "[I", Cond.methodLink RX5 64 yX5_isCopy, Cond.static yX5_isCopy, Cond.initialized RX5, Cond.code yX5_isCopy cX5_isCopy 1 (some .boolean), Cond.methodLink RX5 167 yX5_goForCopy, Cond.instanceMethod yX5_goForCopy, Cond.selects RX5 yX5_goForCopy yX5_goForCopy, Cond.code yX5_goForCopy cX5_goForCopy 3 (some .int), Cond.fieldLink RX5 18 "LendThreads" "shelf" "LLendThreads$Shelf;", Cond.methodLink RX5 174 yX3_isFreeFor, Cond.instanceMethod yX3_isFreeFor, Cond.selects RX3 yX3_isFreeFor yX3_isFreeFor]
def wsX5_goForNext_r2 : List Cond := [Cond.initialized RX3, Cond.code yX3_isFreeFor cX3_isFreeFor 4 (some .boolean), Cond.fieldLink RX3 26 "LendThreads$Shelf" "lines" "LLendThreads$Rows;", Cond.fieldLink RX3 18 "LendThreads$Shelf" "holders" "[I", Cond.methodLink RX3 36 yX2_item, Cond.methodLink RX5 177 yX3_take, Cond.instanceMethod yX3_take, Cond.selects RX3 yX3_take yX3_take, Cond.code yX3_take cX3_take 3 none, Cond.fieldLink RX3 15 "LendThreads$Shelf" "valuesWhenTaken" "[I", Cond.fieldLink RX3 9 "LendThreads$Shelf" "values" "[I", Cond.methodLink RX3 40 yX2_remove, Cond.instanceMethod yX2_remove, Cond.selects RX2 yX2_remove yX2_remove, Cond.code yX2_remove cX2_remove 5 none, Cond.methodLink RX2 26 yX2_placeOf, Cond.instanceMethod yX2_placeOf, Cond.selects RX2 yX2_placeOf yX2_placeOf, Cond.code yX2_placeOf cX2_placeOf 5 (some .int), Cond.methodLink RX5 181 yX3_standInLine, Cond.instanceMethod yX3_standInLine, Cond.selects RX3 yX3_standInLine yX3_standInLine, Cond.code yX3_standInLine cX3_standInLine 3 none, Cond.methodLink RX3 43 yX2_placeOf]
def wsX5_goForNext_r3 : List Cond := [Cond.methodLink RX3 46 yX2_add, Cond.instanceMethod yX2_add, Cond.selects RX2 yX2_add yX2_add, Cond.code yX2_add cX2_add 3 (some .int), Cond.methodLink RX5 171 yX5_goForMessage, Cond.instanceMethod yX5_goForMessage, Cond.selects RX5 yX5_goForMessage yX5_goForMessage, Cond.code yX5_goForMessage cX5_goForMessage 4 (some .int), Cond.fieldLink RX5 25 "LendThreads" "post" "LLendThreads$Post;", Cond.methodLink RX5 148 yX1_way, Cond.static yX1_way, Cond.initialized RX1, Cond.code yX1_way cX1_way 2 (some .int), Cond.methodLink RX5 184 yX1_take, Cond.instanceMethod yX1_take, Cond.selects RX1 yX1_take yX1_take, Cond.code yX1_take cX1_take 2 (some .boolean), Cond.fieldLink RX1 9 "LendThreads$Post" "there" "[I", Cond.methodLink RX1 18 yX1_isWay, Cond.instanceMethod yX1_isWay, Cond.selects RX1 yX1_isWay yX1_isWay, Cond.code yX1_isWay cX1_isWay 2 (some .boolean), Cond.fieldLink RX1 15 "LendThreads$Post" "lost" "[I", Cond.methodLink RX5 186 yX1_findLost]
def wsX5_goForNext_r4 : List Cond := [Cond.instanceMethod yX1_findLost, Cond.selects RX1 yX1_findLost yX1_findLost, Cond.code yX1_findLost cX1_findLost 2 (some .boolean)]
def wsX5_goForNext : List Cond := .code yX5_goForNext cX5_goForNext 4 (some .int) :: ((wsX5_goForNext_r1 ++ (wsX5_goForNext_r2 ++ (wsX5_goForNext_r3 ++ wsX5_goForNext_r4))) ++ wsX40 ++ wsX20 ++ wsX50 ++ wsX30 ++ wsX10)
def wsX5_takeTurn_r1 : List Cond := [Cond.methodLink RX5 157 yX4_gotAll, Cond.instanceMethod yX4_gotAll, Cond.selects RX4 yX4_gotAll yX4_gotAll, Cond.initialized RX4, Cond.code yX4_gotAll cX4_gotAll 1 (some .boolean), Cond.fieldLink RX4 39 "LendThreads$Work" "got" "I", Cond.fieldLink RX4 14 "LendThreads$Work" "wanted" "LLendThreads$Rows;", Cond.fieldLink RX4 42 "LendThreads$Work" "step" "I", Cond.methodLink RX4 45 yX2_count, Cond.instanceMethod yX2_count, Cond.selects RX2 yX2_count yX2_count, Cond.initialized RX2, Cond.code yX2_count cX2_count 2 (some .int), Cond.fieldLink RX2 15 "LendThreads$Rows" "counts" "[I", Cond.methodLink RX5 161 yX5_actOrFail, Cond.instanceMethod yX5_actOrFail, Cond.selects RX5 yX5_actOrFail yX5_actOrFail, Cond.initialized RX5, Cond.code yX5_actOrFail cX5_actOrFail 2 (some .int), Cond.fieldLink RX5 18 "LendThreads" "shelf" "LLendThreads$Shelf;", Cond.fieldLink RX5 32 "LendThreads" "diary" "LLendThreads$Diary;", Cond.methodLink RX5 99 yX5_undo, Cond.instanceMethod yX5_undo, Cond.selects RX5 yX5_undo yX5_undo]
def wsX5_takeTurn_r2 : List Cond := [Cond.code yX5_undo cX5_undo 3 none, Cond.methodLink RX5 208 yX3_restore, Cond.instanceMethod yX3_restore, Cond.selects RX3 yX3_restore yX3_restore, Cond.initialized RX3, Cond.code yX3_restore cX3_restore 3 none, Cond.fieldLink RX3 18 "LendThreads$Shelf" "holders" "[I", Cond.fieldLink RX3 9 "LendThreads$Shelf" "values" "[I", Cond.fieldLink RX3 15 "LendThreads$Shelf" "valuesWhenTaken" "[I", Cond.methodLink RX5 199 yX3_release, Cond.instanceMethod yX3_release, Cond.selects RX3 yX3_release yX3_release, Cond.code yX3_release cX3_release 3 none, Cond.fieldLink RX3 26 "LendThreads$Shelf" "lines" "LLendThreads$Rows;", Cond.methodLink RX3 40 yX2_remove, Cond.instanceMethod yX2_remove, Cond.selects RX2 yX2_remove yX2_remove, Cond.code yX2_remove cX2_remove 5 none, Cond.fieldLink RX2 19 "LendThreads$Rows" "items" "[I", Cond.fieldLink RX2 9 "LendThreads$Rows" "room" "I", Cond.methodLink RX2 26 yX2_placeOf, Cond.instanceMethod yX2_placeOf, Cond.selects RX2 yX2_placeOf yX2_placeOf, Cond.code yX2_placeOf cX2_placeOf 5 (some .int)]
def wsX5_takeTurn_r3 : List Cond := [Cond.methodLink RX2 22 yX2_count, Cond.methodLink RX5 189 yX3_change, Cond.instanceMethod yX3_change, Cond.selects RX3 yX3_change yX3_change, Cond.code yX3_change cX3_change 4 none, Cond.methodLink RX5 192 yX0_write, Cond.instanceMethod yX0_write, Cond.selects RX0 yX0_write yX0_write, Cond.initialized RX0, Cond.code yX0_write cX0_write 3 none, Cond.fieldLink RX0 14 "LendThreads$Diary" "lines" "LLendThreads$Rows;", Cond.methodLink RX0 20 yX2_add, Cond.instanceMethod yX2_add, Cond.selects RX2 yX2_add yX2_add, Cond.code yX2_add cX2_add 3 (some .int), Cond.methodLink RX5 195 yX5_sendAll, Cond.instanceMethod yX5_sendAll, Cond.selects RX5 yX5_sendAll yX5_sendAll, Cond.code yX5_sendAll cX5_sendAll 4 none, Cond.fieldLink RX5 25 "LendThreads" "post" "LLendThreads$Post;", Cond.methodLink RX5 202 yX2_count, Cond.methodLink RX5 134 yX2_item, Cond.instanceMethod yX2_item, Cond.selects RX2 yX2_item yX2_item]
def wsX5_takeTurn_r4 : List Cond := [Cond.code yX2_item cX2_item 3 (some .int), Cond.methodLink RX5 148 yX1_way, Cond.static yX1_way, Cond.initialized RX1, Cond.code yX1_way cX1_way 2 (some .int), Cond.methodLink RX5 205 yX1_send, Cond.instanceMethod yX1_send, Cond.selects RX1 yX1_send yX1_send, Cond.code yX1_send cX1_send 2 none, Cond.fieldLink RX1 22 "LendThreads$Post" "toLose" "I", Cond.fieldLink RX1 15 "LendThreads$Post" "lost" "[I", Cond.fieldLink RX1 9 "LendThreads$Post" "there" "[I", Cond.methodLink RX1 18 yX1_isWay, Cond.instanceMethod yX1_isWay, Cond.selects RX1 yX1_isWay yX1_isWay, Cond.code yX1_isWay cX1_isWay 2 (some .boolean), Cond.methodLink RX5 164 yX5_goForNext, Cond.instanceMethod yX5_goForNext, Cond.selects RX5 yX5_goForNext yX5_goForNext, Cond.code yX5_goForNext cX5_goForNext 4 (some .int), Cond.methodLink RX5 64 yX5_isCopy, Cond.static yX5_isCopy, Cond.code yX5_isCopy cX5_isCopy 1 (some .boolean), Cond.methodLink RX5 167 yX5_goForCopy]
def wsX5_takeTurn_r5 : List Cond := [Cond.instanceMethod yX5_goForCopy, Cond.selects RX5 yX5_goForCopy yX5_goForCopy, Cond.code yX5_goForCopy cX5_goForCopy 3 (some .int), Cond.methodLink RX5 174 yX3_isFreeFor, Cond.instanceMethod yX3_isFreeFor, Cond.selects RX3 yX3_isFreeFor yX3_isFreeFor, Cond.code yX3_isFreeFor cX3_isFreeFor 4 (some .boolean), Cond.methodLink RX3 36 yX2_item, Cond.methodLink RX5 177 yX3_take, Cond.instanceMethod yX3_take, Cond.selects RX3 yX3_take yX3_take, Cond.code yX3_take cX3_take 3 none, Cond.methodLink RX5 181 yX3_standInLine, Cond.instanceMethod yX3_standInLine, Cond.selects RX3 yX3_standInLine yX3_standInLine, Cond.code yX3_standInLine cX3_standInLine 3 none, Cond.methodLink RX3 43 yX2_placeOf, Cond.methodLink RX3 46 yX2_add, Cond.methodLink RX5 171 yX5_goForMessage, Cond.instanceMethod yX5_goForMessage, Cond.selects RX5 yX5_goForMessage yX5_goForMessage, Cond.code yX5_goForMessage cX5_goForMessage 4 (some .int), Cond.methodLink RX5 184 yX1_take, Cond.instanceMethod yX1_take]
def wsX5_takeTurn_r6 : List Cond := [Cond.selects RX1 yX1_take yX1_take, Cond.code yX1_take cX1_take 2 (some .boolean), Cond.methodLink RX5 186 yX1_findLost, Cond.instanceMethod yX1_findLost, Cond.selects RX1 yX1_findLost yX1_findLost, Cond.code yX1_findLost cX1_findLost 2 (some .boolean)]
def wsX5_takeTurn : List Cond := .code yX5_takeTurn cX5_takeTurn 2 (some .int) :: ((wsX5_takeTurn_r1 ++ (wsX5_takeTurn_r2 ++ (wsX5_takeTurn_r3 ++ (wsX5_takeTurn_r4 ++ (wsX5_takeTurn_r5 ++ wsX5_takeTurn_r6))))) ++ wsX40 ++ wsX20 ++ wsX50 ++ wsX30 ++ wsX00 ++ wsX10)
def wsX5_turn_r1 : List Cond := [Cond.methodLink RX5 52 yX5_find, Cond.instanceMethod yX5_find, Cond.selects RX5 yX5_find yX5_find, Cond.initialized RX5, Cond.code yX5_find cX5_find 2 (some (.object "LendThreads$Work")), Cond.fieldLink RX5 11 "LendThreads" "works" "[LLendThreads$Work;", Cond.methodLink RX5 154 yX5_isWork, Cond.instanceMethod yX5_isWork, Cond.selects RX5 yX5_isWork yX5_isWork, Cond.code yX5_isWork cX5_isWork 2 (some .boolean), Cond.fieldLink RX5 39 "LendThreads" "workCount" "I", Cond.methodLink RX5 87 yX5_takeTurn, Cond.instanceMethod yX5_takeTurn, Cond.selects RX5 yX5_takeTurn yX5_takeTurn, Cond.code yX5_takeTurn cX5_takeTurn 2 (some .int), Cond.methodLink RX5 157 yX4_gotAll, Cond.instanceMethod yX4_gotAll, Cond.selects RX4 yX4_gotAll yX4_gotAll, Cond.initialized RX4, Cond.code yX4_gotAll cX4_gotAll 1 (some .boolean), Cond.fieldLink RX4 39 "LendThreads$Work" "got" "I", Cond.fieldLink RX4 14 "LendThreads$Work" "wanted" "LLendThreads$Rows;", Cond.fieldLink RX4 42 "LendThreads$Work" "step" "I", Cond.methodLink RX4 45 yX2_count]
def wsX5_turn_r2 : List Cond := [Cond.instanceMethod yX2_count, Cond.selects RX2 yX2_count yX2_count, Cond.initialized RX2, Cond.code yX2_count cX2_count 2 (some .int), Cond.fieldLink RX2 15 "LendThreads$Rows" "counts" "[I", Cond.methodLink RX5 161 yX5_actOrFail, Cond.instanceMethod yX5_actOrFail, Cond.selects RX5 yX5_actOrFail yX5_actOrFail, Cond.code yX5_actOrFail cX5_actOrFail 2 (some .int), Cond.fieldLink RX5 18 "LendThreads" "shelf" "LLendThreads$Shelf;", Cond.fieldLink RX5 32 "LendThreads" "diary" "LLendThreads$Diary;", Cond.methodLink RX5 99 yX5_undo, Cond.instanceMethod yX5_undo, Cond.selects RX5 yX5_undo yX5_undo, Cond.code yX5_undo cX5_undo 3 none, Cond.methodLink RX5 208 yX3_restore, Cond.instanceMethod yX3_restore, Cond.selects RX3 yX3_restore yX3_restore, Cond.initialized RX3, Cond.code yX3_restore cX3_restore 3 none, Cond.fieldLink RX3 18 "LendThreads$Shelf" "holders" "[I", Cond.fieldLink RX3 9 "LendThreads$Shelf" "values" "[I", Cond.fieldLink RX3 15 "LendThreads$Shelf" "valuesWhenTaken" "[I", Cond.methodLink RX5 199 yX3_release]
def wsX5_turn_r3 : List Cond := [Cond.instanceMethod yX3_release, Cond.selects RX3 yX3_release yX3_release, Cond.code yX3_release cX3_release 3 none, Cond.fieldLink RX3 26 "LendThreads$Shelf" "lines" "LLendThreads$Rows;", Cond.methodLink RX3 40 yX2_remove, Cond.instanceMethod yX2_remove, Cond.selects RX2 yX2_remove yX2_remove, Cond.code yX2_remove cX2_remove 5 none, Cond.fieldLink RX2 19 "LendThreads$Rows" "items" "[I", Cond.fieldLink RX2 9 "LendThreads$Rows" "room" "I", Cond.methodLink RX2 26 yX2_placeOf, Cond.instanceMethod yX2_placeOf, Cond.selects RX2 yX2_placeOf yX2_placeOf, Cond.code yX2_placeOf cX2_placeOf 5 (some .int), Cond.methodLink RX2 22 yX2_count, Cond.methodLink RX5 189 yX3_change, Cond.instanceMethod yX3_change, Cond.selects RX3 yX3_change yX3_change, Cond.code yX3_change cX3_change 4 none, Cond.methodLink RX5 192 yX0_write, Cond.instanceMethod yX0_write, Cond.selects RX0 yX0_write yX0_write, Cond.initialized RX0, Cond.code yX0_write cX0_write 3 none]
def wsX5_turn_r4 : List Cond := [Cond.fieldLink RX0 14 "LendThreads$Diary" "lines" "LLendThreads$Rows;", Cond.methodLink RX0 20 yX2_add, Cond.instanceMethod yX2_add, Cond.selects RX2 yX2_add yX2_add, Cond.code yX2_add cX2_add 3 (some .int), Cond.methodLink RX5 195 yX5_sendAll, Cond.instanceMethod yX5_sendAll, Cond.selects RX5 yX5_sendAll yX5_sendAll, Cond.code yX5_sendAll cX5_sendAll 4 none, Cond.fieldLink RX5 25 "LendThreads" "post" "LLendThreads$Post;", Cond.methodLink RX5 202 yX2_count, Cond.methodLink RX5 134 yX2_item, Cond.instanceMethod yX2_item, Cond.selects RX2 yX2_item yX2_item, Cond.code yX2_item cX2_item 3 (some .int), Cond.methodLink RX5 148 yX1_way, Cond.static yX1_way, Cond.initialized RX1, Cond.code yX1_way cX1_way 2 (some .int), Cond.methodLink RX5 205 yX1_send, Cond.instanceMethod yX1_send, Cond.selects RX1 yX1_send yX1_send, Cond.code yX1_send cX1_send 2 none, Cond.fieldLink RX1 22 "LendThreads$Post" "toLose" "I"]
def wsX5_turn_r5 : List Cond := [Cond.fieldLink RX1 15 "LendThreads$Post" "lost" "[I", Cond.fieldLink RX1 9 "LendThreads$Post" "there" "[I", Cond.methodLink RX1 18 yX1_isWay, Cond.instanceMethod yX1_isWay, Cond.selects RX1 yX1_isWay yX1_isWay, Cond.code yX1_isWay cX1_isWay 2 (some .boolean), Cond.methodLink RX5 164 yX5_goForNext, Cond.instanceMethod yX5_goForNext, Cond.selects RX5 yX5_goForNext yX5_goForNext, Cond.code yX5_goForNext cX5_goForNext 4 (some .int), Cond.methodLink RX5 64 yX5_isCopy, Cond.static yX5_isCopy, Cond.code yX5_isCopy cX5_isCopy 1 (some .boolean), Cond.methodLink RX5 167 yX5_goForCopy, Cond.instanceMethod yX5_goForCopy, Cond.selects RX5 yX5_goForCopy yX5_goForCopy, Cond.code yX5_goForCopy cX5_goForCopy 3 (some .int), Cond.methodLink RX5 174 yX3_isFreeFor, Cond.instanceMethod yX3_isFreeFor, Cond.selects RX3 yX3_isFreeFor yX3_isFreeFor, Cond.code yX3_isFreeFor cX3_isFreeFor 4 (some .boolean), Cond.methodLink RX3 36 yX2_item, Cond.methodLink RX5 177 yX3_take, Cond.instanceMethod yX3_take]
def wsX5_turn_r6 : List Cond := [Cond.selects RX3 yX3_take yX3_take, Cond.code yX3_take cX3_take 3 none, Cond.methodLink RX5 181 yX3_standInLine, Cond.instanceMethod yX3_standInLine, Cond.selects RX3 yX3_standInLine yX3_standInLine, Cond.code yX3_standInLine cX3_standInLine 3 none, Cond.methodLink RX3 43 yX2_placeOf, Cond.methodLink RX3 46 yX2_add, Cond.methodLink RX5 171 yX5_goForMessage, Cond.instanceMethod yX5_goForMessage, Cond.selects RX5 yX5_goForMessage yX5_goForMessage, Cond.code yX5_goForMessage cX5_goForMessage 4 (some .int), Cond.methodLink RX5 184 yX1_take, Cond.instanceMethod yX1_take, Cond.selects RX1 yX1_take yX1_take, Cond.code yX1_take cX1_take 2 (some .boolean), Cond.methodLink RX5 186 yX1_findLost, Cond.instanceMethod yX1_findLost, Cond.selects RX1 yX1_findLost yX1_findLost, Cond.code yX1_findLost cX1_findLost 2 (some .boolean)]
def wsX5_turn : List Cond := .code yX5_turn cX5_turn 3 (some .int) :: ((wsX5_turn_r1 ++ (wsX5_turn_r2 ++ (wsX5_turn_r3 ++ (wsX5_turn_r4 ++ (wsX5_turn_r5 ++ wsX5_turn_r6))))) ++ wsX50 ++ wsX40 ++ wsX20 ++ wsX30 ++ wsX00 ++ wsX10)
def wsX5_isWaiting : List Cond := .code yX5_isWaiting cX5_isWaiting 1 (some .boolean) :: ([])
def wsX5_run_r1 : List Cond := [Cond.constant RX5 91 (1000000), Cond.fieldLink RX5 39 "LendThreads" "workCount" "I", Cond.fieldLink RX5 11 "LendThreads" "works" "[LLendThreads$Work;", Cond.methodLink RX5 87 yX5_takeTurn, Cond.instanceMethod yX5_takeTurn, Cond.selects RX5 yX5_takeTurn yX5_takeTurn, Cond.initialized RX5, Cond.code yX5_takeTurn cX5_takeTurn 2 (some .int), Cond.methodLink RX5 157 yX4_gotAll, Cond.instanceMethod yX4_gotAll, Cond.selects RX4 yX4_gotAll yX4_gotAll, Cond.initialized RX4, Cond.code yX4_gotAll cX4_gotAll 1 (some .boolean), Cond.fieldLink RX4 39 "LendThreads$Work" "got" "I", Cond.fieldLink RX4 14 "LendThreads$Work" "wanted" "LLendThreads$Rows;", Cond.fieldLink RX4 42 "LendThreads$Work" "step" "I", Cond.methodLink RX4 45 yX2_count, Cond.instanceMethod yX2_count, Cond.selects RX2 yX2_count yX2_count, Cond.initialized RX2, Cond.code yX2_count cX2_count 2 (some .int), Cond.fieldLink RX2 15 "LendThreads$Rows" "counts" "[I", Cond.methodLink RX5 161 yX5_actOrFail, Cond.instanceMethod yX5_actOrFail]
def wsX5_run_r2 : List Cond := [Cond.selects RX5 yX5_actOrFail yX5_actOrFail, Cond.code yX5_actOrFail cX5_actOrFail 2 (some .int), Cond.fieldLink RX5 18 "LendThreads" "shelf" "LLendThreads$Shelf;", Cond.fieldLink RX5 32 "LendThreads" "diary" "LLendThreads$Diary;", Cond.methodLink RX5 99 yX5_undo, Cond.instanceMethod yX5_undo, Cond.selects RX5 yX5_undo yX5_undo, Cond.code yX5_undo cX5_undo 3 none, Cond.methodLink RX5 208 yX3_restore, Cond.instanceMethod yX3_restore, Cond.selects RX3 yX3_restore yX3_restore, Cond.initialized RX3, Cond.code yX3_restore cX3_restore 3 none, Cond.fieldLink RX3 18 "LendThreads$Shelf" "holders" "[I", Cond.fieldLink RX3 9 "LendThreads$Shelf" "values" "[I", Cond.fieldLink RX3 15 "LendThreads$Shelf" "valuesWhenTaken" "[I", Cond.methodLink RX5 199 yX3_release, Cond.instanceMethod yX3_release, Cond.selects RX3 yX3_release yX3_release, Cond.code yX3_release cX3_release 3 none, Cond.fieldLink RX3 26 "LendThreads$Shelf" "lines" "LLendThreads$Rows;", Cond.methodLink RX3 40 yX2_remove, Cond.instanceMethod yX2_remove, Cond.selects RX2 yX2_remove yX2_remove]
def wsX5_run_r3 : List Cond := [Cond.code yX2_remove cX2_remove 5 none, Cond.fieldLink RX2 19 "LendThreads$Rows" "items" "[I", Cond.fieldLink RX2 9 "LendThreads$Rows" "room" "I", Cond.methodLink RX2 26 yX2_placeOf, Cond.instanceMethod yX2_placeOf, Cond.selects RX2 yX2_placeOf yX2_placeOf, Cond.code yX2_placeOf cX2_placeOf 5 (some .int), Cond.methodLink RX2 22 yX2_count, Cond.methodLink RX5 189 yX3_change, Cond.instanceMethod yX3_change, Cond.selects RX3 yX3_change yX3_change, Cond.code yX3_change cX3_change 4 none, Cond.methodLink RX5 192 yX0_write, Cond.instanceMethod yX0_write, Cond.selects RX0 yX0_write yX0_write, Cond.initialized RX0, Cond.code yX0_write cX0_write 3 none, Cond.fieldLink RX0 14 "LendThreads$Diary" "lines" "LLendThreads$Rows;", Cond.methodLink RX0 20 yX2_add, Cond.instanceMethod yX2_add, Cond.selects RX2 yX2_add yX2_add, Cond.code yX2_add cX2_add 3 (some .int), Cond.methodLink RX5 195 yX5_sendAll, Cond.instanceMethod yX5_sendAll]
def wsX5_run_r4 : List Cond := [Cond.selects RX5 yX5_sendAll yX5_sendAll, Cond.code yX5_sendAll cX5_sendAll 4 none, Cond.fieldLink RX5 25 "LendThreads" "post" "LLendThreads$Post;", Cond.methodLink RX5 202 yX2_count, Cond.methodLink RX5 134 yX2_item, Cond.instanceMethod yX2_item, Cond.selects RX2 yX2_item yX2_item, Cond.code yX2_item cX2_item 3 (some .int), Cond.methodLink RX5 148 yX1_way, Cond.static yX1_way, Cond.initialized RX1, Cond.code yX1_way cX1_way 2 (some .int), Cond.methodLink RX5 205 yX1_send, Cond.instanceMethod yX1_send, Cond.selects RX1 yX1_send yX1_send, Cond.code yX1_send cX1_send 2 none, Cond.fieldLink RX1 22 "LendThreads$Post" "toLose" "I", Cond.fieldLink RX1 15 "LendThreads$Post" "lost" "[I", Cond.fieldLink RX1 9 "LendThreads$Post" "there" "[I", Cond.methodLink RX1 18 yX1_isWay, Cond.instanceMethod yX1_isWay, Cond.selects RX1 yX1_isWay yX1_isWay, Cond.code yX1_isWay cX1_isWay 2 (some .boolean), Cond.methodLink RX5 164 yX5_goForNext]
def wsX5_run_r5 : List Cond := [Cond.instanceMethod yX5_goForNext, Cond.selects RX5 yX5_goForNext yX5_goForNext, Cond.code yX5_goForNext cX5_goForNext 4 (some .int), Cond.methodLink RX5 64 yX5_isCopy, Cond.static yX5_isCopy, Cond.code yX5_isCopy cX5_isCopy 1 (some .boolean), Cond.methodLink RX5 167 yX5_goForCopy, Cond.instanceMethod yX5_goForCopy, Cond.selects RX5 yX5_goForCopy yX5_goForCopy, Cond.code yX5_goForCopy cX5_goForCopy 3 (some .int), Cond.methodLink RX5 174 yX3_isFreeFor, Cond.instanceMethod yX3_isFreeFor, Cond.selects RX3 yX3_isFreeFor yX3_isFreeFor, Cond.code yX3_isFreeFor cX3_isFreeFor 4 (some .boolean), Cond.methodLink RX3 36 yX2_item, Cond.methodLink RX5 177 yX3_take, Cond.instanceMethod yX3_take, Cond.selects RX3 yX3_take yX3_take, Cond.code yX3_take cX3_take 3 none, Cond.methodLink RX5 181 yX3_standInLine, Cond.instanceMethod yX3_standInLine, Cond.selects RX3 yX3_standInLine yX3_standInLine, Cond.code yX3_standInLine cX3_standInLine 3 none, Cond.methodLink RX3 43 yX2_placeOf]
def wsX5_run_r6 : List Cond := [Cond.methodLink RX3 46 yX2_add, Cond.methodLink RX5 171 yX5_goForMessage, Cond.instanceMethod yX5_goForMessage, Cond.selects RX5 yX5_goForMessage yX5_goForMessage, Cond.code yX5_goForMessage cX5_goForMessage 4 (some .int), Cond.methodLink RX5 184 yX1_take, Cond.instanceMethod yX1_take, Cond.selects RX1 yX1_take yX1_take, Cond.code yX1_take cX1_take 2 (some .boolean), Cond.methodLink RX5 186 yX1_findLost, Cond.instanceMethod yX1_findLost, Cond.selects RX1 yX1_findLost yX1_findLost, Cond.code yX1_findLost cX1_findLost 2 (some .boolean), Cond.methodLink RX5 92 yX5_isWaiting, Cond.static yX5_isWaiting, Cond.code yX5_isWaiting cX5_isWaiting 1 (some .boolean)]
def wsX5_run : List Cond := .code yX5_run cX5_run 6 (some .int) :: ((wsX5_run_r1 ++ (wsX5_run_r2 ++ (wsX5_run_r3 ++ (wsX5_run_r4 ++ (wsX5_run_r5 ++ wsX5_run_r6))))) ++ wsX50 ++ wsX40 ++ wsX20 ++ wsX30 ++ wsX00 ++ wsX10)
def wsX5_greatestInRingOf : List Cond := .code yX5_greatestInRingOf cX5_greatestInRingOf 5 (some .int) :: ([.fieldLink RX5 18 "LendThreads" "shelf" "LLendThreads$Shelf;", .methodLink RX5 214 Lib.Math.max.name, .static Lib.Math.max.name, .initialized "java/lang/Math", .code Lib.Math.max.name Lib.Math.max.code 2 (some .int), .methodLink RX5 211 yX3_holderAwaitedBy, .instanceMethod yX3_holderAwaitedBy, .selects RX3 yX3_holderAwaitedBy yX3_holderAwaitedBy, .initialized RX3, .code yX3_holderAwaitedBy cX3_holderAwaitedBy 3 (some .int), .fieldLink RX3 26 "LendThreads$Shelf" "lines" "LLendThreads$Rows;", .fieldLink RX3 18 "LendThreads$Shelf" "holders" "[I", .methodLink RX3 43 yX2_placeOf, .instanceMethod yX2_placeOf, .selects RX2 yX2_placeOf yX2_placeOf, .initialized RX2, .code yX2_placeOf cX2_placeOf 5 (some .int), .fieldLink RX2 19 "LendThreads$Rows" "items" "[I", .fieldLink RX2 9 "LendThreads$Rows" "room" "I", .methodLink RX2 22 yX2_count, .instanceMethod yX2_count, .selects RX2 yX2_count yX2_count, .code yX2_count cX2_count 2 (some .int), .fieldLink RX2 15 "LendThreads$Rows" "counts" "[I"] ++ wsX50 ++ wsX30 ++ wsX20)
def wsX5_ring_r1 : List Cond := [Cond.fieldLink RX5 39 "LendThreads" "workCount" "I", Cond.fieldLink RX5 11 "LendThreads" "works" "[LLendThreads$Work;", Cond.methodLink RX5 95 yX5_greatestInRingOf, Cond.instanceMethod yX5_greatestInRingOf, Cond.selects RX5 yX5_greatestInRingOf yX5_greatestInRingOf, Cond.initialized RX5, Cond.code yX5_greatestInRingOf cX5_greatestInRingOf 5 (some .int), Cond.fieldLink RX5 18 "LendThreads" "shelf" "LLendThreads$Shelf;", Cond.methodLink RX5 214 Lib.Math.max.name, Cond.static Lib.Math.max.name, Cond.initialized "java/lang/Math", Cond.code Lib.Math.max.name Lib.Math.max.code 2 (some .int), Cond.methodLink RX5 211 yX3_holderAwaitedBy, Cond.instanceMethod yX3_holderAwaitedBy, Cond.selects RX3 yX3_holderAwaitedBy yX3_holderAwaitedBy, Cond.initialized RX3, Cond.code yX3_holderAwaitedBy cX3_holderAwaitedBy 3 (some .int), Cond.fieldLink RX3 26 "LendThreads$Shelf" "lines" "LLendThreads$Rows;", Cond.fieldLink RX3 18 "LendThreads$Shelf" "holders" "[I", Cond.methodLink RX3 43 yX2_placeOf, Cond.instanceMethod yX2_placeOf, Cond.selects RX2 yX2_placeOf yX2_placeOf, Cond.initialized RX2, Cond.code yX2_placeOf cX2_placeOf 5 (some .int)]
def wsX5_ring_r2 : List Cond := [Cond.fieldLink RX2 19 "LendThreads$Rows" "items" "[I", Cond.fieldLink RX2 9 "LendThreads$Rows" "room" "I", Cond.methodLink RX2 22 yX2_count, Cond.instanceMethod yX2_count, Cond.selects RX2 yX2_count yX2_count, Cond.code yX2_count cX2_count 2 (some .int), Cond.fieldLink RX2 15 "LendThreads$Rows" "counts" "[I", Cond.methodLink RX5 99 yX5_undo, Cond.instanceMethod yX5_undo, Cond.selects RX5 yX5_undo yX5_undo, Cond.code yX5_undo cX5_undo 3 none, Cond.methodLink RX5 208 yX3_restore, Cond.instanceMethod yX3_restore, Cond.selects RX3 yX3_restore yX3_restore, Cond.code yX3_restore cX3_restore 3 none, Cond.fieldLink RX3 9 "LendThreads$Shelf" "values" "[I", Cond.fieldLink RX3 15 "LendThreads$Shelf" "valuesWhenTaken" "[I", Cond.methodLink RX5 199 yX3_release, Cond.instanceMethod yX3_release, Cond.selects RX3 yX3_release yX3_release, Cond.code yX3_release cX3_release 3 none, Cond.methodLink RX3 40 yX2_remove, Cond.instanceMethod yX2_remove, Cond.selects RX2 yX2_remove yX2_remove]
def wsX5_ring_r3 : List Cond := [Cond.code yX2_remove cX2_remove 5 none, Cond.methodLink RX2 26 yX2_placeOf]
def wsX5_ring : List Cond := .code yX5_ring cX5_ring 3 (some .int) :: ((wsX5_ring_r1 ++ (wsX5_ring_r2 ++ wsX5_ring_r3)) ++ wsX50 ++ wsX30 ++ wsX20 ++ wsX40)
def wsX5_interrupt_r1 : List Cond := [Cond.methodLink RX5 52 yX5_find, Cond.instanceMethod yX5_find, Cond.selects RX5 yX5_find yX5_find, Cond.initialized RX5, Cond.code yX5_find cX5_find 2 (some (.object "LendThreads$Work")), Cond.fieldLink RX5 11 "LendThreads" "works" "[LLendThreads$Work;", Cond.methodLink RX5 154 yX5_isWork, Cond.instanceMethod yX5_isWork, Cond.selects RX5 yX5_isWork yX5_isWork, Cond.code yX5_isWork cX5_isWork 2 (some .boolean), Cond.fieldLink RX5 39 "LendThreads" "workCount" "I", Cond.methodLink RX5 92 yX5_isWaiting, Cond.static yX5_isWaiting, Cond.code yX5_isWaiting cX5_isWaiting 1 (some .boolean), Cond.methodLink RX5 99 yX5_undo, Cond.instanceMethod yX5_undo, Cond.selects RX5 yX5_undo yX5_undo, Cond.code yX5_undo cX5_undo 3 none, Cond.fieldLink RX5 18 "LendThreads" "shelf" "LLendThreads$Shelf;", Cond.methodLink RX5 208 yX3_restore, Cond.instanceMethod yX3_restore, Cond.selects RX3 yX3_restore yX3_restore, Cond.initialized RX3, Cond.code yX3_restore cX3_restore 3 none]
def wsX5_interrupt_r2 : List Cond := [Cond.fieldLink RX3 18 "LendThreads$Shelf" "holders" "[I", Cond.fieldLink RX3 9 "LendThreads$Shelf" "values" "[I", Cond.fieldLink RX3 15 "LendThreads$Shelf" "valuesWhenTaken" "[I", Cond.methodLink RX5 199 yX3_release, Cond.instanceMethod yX3_release, Cond.selects RX3 yX3_release yX3_release, Cond.code yX3_release cX3_release 3 none, Cond.fieldLink RX3 26 "LendThreads$Shelf" "lines" "LLendThreads$Rows;", Cond.methodLink RX3 40 yX2_remove, Cond.instanceMethod yX2_remove, Cond.selects RX2 yX2_remove yX2_remove, Cond.initialized RX2, Cond.code yX2_remove cX2_remove 5 none, Cond.fieldLink RX2 15 "LendThreads$Rows" "counts" "[I", Cond.fieldLink RX2 19 "LendThreads$Rows" "items" "[I", Cond.fieldLink RX2 9 "LendThreads$Rows" "room" "I", Cond.methodLink RX2 26 yX2_placeOf, Cond.instanceMethod yX2_placeOf, Cond.selects RX2 yX2_placeOf yX2_placeOf, Cond.code yX2_placeOf cX2_placeOf 5 (some .int), Cond.methodLink RX2 22 yX2_count, Cond.instanceMethod yX2_count, Cond.selects RX2 yX2_count yX2_count, Cond.code yX2_count cX2_count 2 (some .int)]
def wsX5_interrupt : List Cond := .code yX5_interrupt cX5_interrupt 3 (some .int) :: ((wsX5_interrupt_r1 ++ wsX5_interrupt_r2) ++ wsX40 ++ wsX50 ++ wsX30 ++ wsX20)
def wsX5_again : List Cond := .code yX5_again cX5_again 3 (some .int) :: ([.methodLink RX5 52 yX5_find, .instanceMethod yX5_find, .selects RX5 yX5_find yX5_find, .initialized RX5, .code yX5_find cX5_find 2 (some (.object "LendThreads$Work")), .fieldLink RX5 11 "LendThreads" "works" "[LLendThreads$Work;", .methodLink RX5 154 yX5_isWork, .instanceMethod yX5_isWork, .selects RX5 yX5_isWork yX5_isWork, .code yX5_isWork cX5_isWork 2 (some .boolean), .fieldLink RX5 39 "LendThreads" "workCount" "I", .methodLink RX5 109 yX4_beginAgain, .instanceMethod yX4_beginAgain, .selects RX4 yX4_beginAgain yX4_beginAgain, .initialized RX4, .code yX4_beginAgain cX4_beginAgain 1 none, .fieldLink RX4 27 "LendThreads$Work" "state" "I", .fieldLink RX4 42 "LendThreads$Work" "step" "I", .fieldLink RX4 39 "LendThreads$Work" "got" "I", .fieldLink RX4 23 "LendThreads$Work" "failsAt" "I", .fieldLink RX4 30 "LendThreads$Work" "latest" "I", .fieldLink RX4 49 "LendThreads$Work" "begunAgain" "I"] ++ wsX40 ++ wsX50)
def wsX5_close_r1 : List Cond := [Cond.fieldLink RX5 39 "LendThreads" "workCount" "I", Cond.fieldLink RX5 11 "LendThreads" "works" "[LLendThreads$Work;", Cond.methodLink RX5 99 yX5_undo, Cond.instanceMethod yX5_undo, Cond.selects RX5 yX5_undo yX5_undo, Cond.initialized RX5, Cond.code yX5_undo cX5_undo 3 none, Cond.fieldLink RX5 18 "LendThreads" "shelf" "LLendThreads$Shelf;", Cond.methodLink RX5 208 yX3_restore, Cond.instanceMethod yX3_restore, Cond.selects RX3 yX3_restore yX3_restore, Cond.initialized RX3, Cond.code yX3_restore cX3_restore 3 none, Cond.fieldLink RX3 18 "LendThreads$Shelf" "holders" "[I", Cond.fieldLink RX3 9 "LendThreads$Shelf" "values" "[I", Cond.fieldLink RX3 15 "LendThreads$Shelf" "valuesWhenTaken" "[I", Cond.methodLink RX5 199 yX3_release, Cond.instanceMethod yX3_release, Cond.selects RX3 yX3_release yX3_release, Cond.code yX3_release cX3_release 3 none, Cond.fieldLink RX3 26 "LendThreads$Shelf" "lines" "LLendThreads$Rows;", Cond.methodLink RX3 40 yX2_remove, Cond.instanceMethod yX2_remove, Cond.selects RX2 yX2_remove yX2_remove]
def wsX5_close_r2 : List Cond := [Cond.initialized RX2, Cond.code yX2_remove cX2_remove 5 none, Cond.fieldLink RX2 15 "LendThreads$Rows" "counts" "[I", Cond.fieldLink RX2 19 "LendThreads$Rows" "items" "[I", Cond.fieldLink RX2 9 "LendThreads$Rows" "room" "I", Cond.methodLink RX2 26 yX2_placeOf, Cond.instanceMethod yX2_placeOf, Cond.selects RX2 yX2_placeOf yX2_placeOf, Cond.code yX2_placeOf cX2_placeOf 5 (some .int), Cond.methodLink RX2 22 yX2_count, Cond.instanceMethod yX2_count, Cond.selects RX2 yX2_count yX2_count, Cond.code yX2_count cX2_count 2 (some .int)]
def wsX5_close : List Cond := .code yX5_close cX5_close 3 (some .int) :: ((wsX5_close_r1 ++ wsX5_close_r2) ++ wsX50 ++ wsX40 ++ wsX30 ++ wsX20)
def wsX5_state : List Cond := .code yX5_state cX5_state 4 (some .int) :: ([.fieldLink RX5 18 "LendThreads" "shelf" "LLendThreads$Shelf;", .methodLink RX5 52 yX5_find, .instanceMethod yX5_find, .selects RX5 yX5_find yX5_find, .initialized RX5, .code yX5_find cX5_find 2 (some (.object "LendThreads$Work")), .fieldLink RX5 11 "LendThreads" "works" "[LLendThreads$Work;", .methodLink RX5 154 yX5_isWork, .instanceMethod yX5_isWork, .selects RX5 yX5_isWork yX5_isWork, .code yX5_isWork cX5_isWork 2 (some .boolean), .fieldLink RX5 39 "LendThreads" "workCount" "I", .methodLink RX5 121 yX3_countOf, .instanceMethod yX3_countOf, .selects RX3 yX3_countOf yX3_countOf, .initialized RX3, .code yX3_countOf cX3_countOf 4 (some .int), .fieldLink RX3 18 "LendThreads$Shelf" "holders" "[I"] ++ wsX40 ++ wsX50 ++ wsX30)
def wsX5_has : List Cond := .code yX5_has cX5_has 2 (some .int) :: ([.fieldLink RX5 18 "LendThreads" "shelf" "LLendThreads$Shelf;", .methodLink RX5 64 yX5_isCopy, .static yX5_isCopy, .initialized RX5, .code yX5_isCopy cX5_isCopy 1 (some .boolean)] ++ wsX50 ++ wsX30)
def wsX5_line : List Cond := .code yX5_line cX5_line 3 (some .int) :: ([.fieldLink RX5 18 "LendThreads" "shelf" "LLendThreads$Shelf;", .methodLink RX5 134 yX2_item, .instanceMethod yX2_item, .selects RX2 yX2_item yX2_item, .initialized RX2, .code yX2_item cX2_item 3 (some .int), .fieldLink RX2 19 "LendThreads$Rows" "items" "[I", .fieldLink RX2 9 "LendThreads$Rows" "room" "I", .methodLink RX2 22 yX2_count, .instanceMethod yX2_count, .selects RX2 yX2_count yX2_count, .code yX2_count cX2_count 2 (some .int), .fieldLink RX2 15 "LendThreads$Rows" "counts" "[I"] ++ wsX50 ++ wsX30 ++ wsX20)
def wsX5_value : List Cond := .code yX5_value cX5_value 2 (some .int) :: ([.classLink RX5 137 "java/lang/IndexOutOfBoundsException", .initialized "java/lang/IndexOutOfBoundsException", .fieldLink RX5 18 "LendThreads" "shelf" "LLendThreads$Shelf;", .methodLink RX5 64 yX5_isCopy, .static yX5_isCopy, .initialized RX5, .code yX5_isCopy cX5_isCopy 1 (some .boolean)] ++ wsX50 ++ wsX30 ++ (vx_atS RX5 141 "java/lang/IndexOutOfBoundsException" ["java/lang/RuntimeException", "java/lang/Exception"]).filter goodWord)
def wsX5_log : List Cond := .code yX5_log cX5_log 2 (some .int) :: ([.fieldLink RX5 32 "LendThreads" "diary" "LLendThreads$Diary;", .methodLink RX5 134 yX2_item, .instanceMethod yX2_item, .selects RX2 yX2_item yX2_item, .initialized RX2, .code yX2_item cX2_item 3 (some .int), .fieldLink RX2 19 "LendThreads$Rows" "items" "[I", .fieldLink RX2 9 "LendThreads$Rows" "room" "I", .methodLink RX2 22 yX2_count, .instanceMethod yX2_count, .selects RX2 yX2_count yX2_count, .code yX2_count cX2_count 2 (some .int), .fieldLink RX2 15 "LendThreads$Rows" "counts" "[I"] ++ wsX50 ++ wsX00 ++ wsX20)
def wsX5_mail_r1 : List Cond := [Cond.fieldLink RX5 25 "LendThreads" "post" "LLendThreads$Post;", Cond.methodLink RX5 52 yX5_find, Cond.instanceMethod yX5_find, Cond.selects RX5 yX5_find yX5_find, Cond.initialized RX5, Cond.code yX5_find cX5_find 2 (some (.object "LendThreads$Work")), Cond.fieldLink RX5 11 "LendThreads" "works" "[LLendThreads$Work;", Cond.methodLink RX5 154 yX5_isWork, Cond.instanceMethod yX5_isWork, Cond.selects RX5 yX5_isWork yX5_isWork, Cond.code yX5_isWork cX5_isWork 2 (some .boolean), Cond.fieldLink RX5 39 "LendThreads" "workCount" "I", Cond.methodLink RX5 60 yX5_isOther, Cond.instanceMethod yX5_isOther, Cond.selects RX5 yX5_isOther yX5_isOther, Cond.code yX5_isOther cX5_isOther 3 (some .boolean), Cond.methodLink RX5 148 yX1_way, Cond.static yX1_way, Cond.initialized RX1, Cond.code yX1_way cX1_way 2 (some .int), Cond.methodLink RX5 151 yX1_countThere, Cond.instanceMethod yX1_countThere, Cond.selects RX1 yX1_countThere yX1_countThere, Cond.code yX1_countThere cX1_countThere 2 (some .int)]
def wsX5_mail_r2 : List Cond := [Cond.fieldLink RX1 9 "LendThreads$Post" "there" "[I", Cond.methodLink RX1 18 yX1_isWay, Cond.instanceMethod yX1_isWay, Cond.selects RX1 yX1_isWay yX1_isWay, Cond.code yX1_isWay cX1_isWay 2 (some .boolean), Cond.fieldLink RX1 15 "LendThreads$Post" "lost" "[I"]
def wsX5_mail : List Cond := .code yX5_mail cX5_mail 3 (some .int) :: ((wsX5_mail_r1 ++ wsX5_mail_r2) ++ wsX50 ++ wsX10)
def wsX6_init_r1 : List Cond := [Cond.methodLink RX6 1 objectInit, Cond.instanceMethod objectInit, Cond.code objectInit ⟨#[0xb1]⟩ 1 none, Cond.arrayClass .int, Cond.fieldLink RX6 7 "LendThreadsModel" "steps" "[I", Cond.fieldLink RX6 13 "LendThreadsModel" "failsAt" "[I", Cond.fieldLink RX6 16 "LendThreadsModel" "state" "[I", Cond.fieldLink RX6 19 "LendThreadsModel" "step" "[I", Cond.fieldLink RX6 22 "LendThreadsModel" "got" "[I", Cond.fieldLink RX6 25 "LendThreadsModel" "latest" "[I", Cond.arrayClass .boolean, Cond.fieldLink RX6 28 "LendThreadsModel" "begun" "[Z", Cond.fieldLink RX6 32 "LendThreadsModel" "asked" "[I", Cond.fieldLink RX6 35 "LendThreadsModel" "again" "[I", Cond.fieldLink RX6 38 "LendThreadsModel" "waitsFor" "[I", Cond.fieldLink RX6 41 "LendThreadsModel" "since" "[I", Cond.fieldLink RX6 44 "LendThreadsModel" "wantCount" "[I", Cond.fieldLink RX6 47 "LendThreadsModel" "want" "[I", Cond.fieldLink RX6 50 "LendThreadsModel" "sendCount" "[I", Cond.fieldLink RX6 53 "LendThreadsModel" "send" "[I", Cond.fieldLink RX6 56 "LendThreadsModel" "owner" "[I", Cond.fieldLink RX6 59 "LendThreadsModel" "value" "[I", Cond.fieldLink RX6 62 "LendThreadsModel" "there" "[I", Cond.fieldLink RX6 65 "LendThreadsModel" "lost" "[I"]
def wsX6_init_r2 : List Cond := [Cond.fieldLink RX6 68 "LendThreadsModel" "changedBy" "[I", Cond.fieldLink RX6 71 "LendThreadsModel" "changed" "[I", Cond.fieldLink RX6 74 "LendThreadsModel" "before" "[I", Cond.fieldLink RX6 77 "LendThreadsModel" "log" "[I"]
def wsX6_init : List Cond := .code yX6_init cX6_init 1 none :: ((wsX6_init_r1 ++ wsX6_init_r2) ++ wsX60)
def wsX6_thrown : List Cond := .code yX6_thrown cX6_thrown 1 (some .int) :: ([.fieldLink RX6 80 "LendThreadsModel" "thrown" "I"] ++ wsX60)
def wsX6_in : List Cond := .code yX6_in cX6_in 3 (some .boolean) :: ([])
def wsX6_isWork : List Cond := .code yX6_isWork cX6_isWork 2 (some .boolean) :: ([.fieldLink RX6 84 "LendThreadsModel" "works" "I", .methodLink RX6 87 yX6_in, .static yX6_in, .initialized RX6, .code yX6_in cX6_in 3 (some .boolean)] ++ wsX60)
def wsX6_work : List Cond := .code yX6_work cX6_work 3 (some .int) :: ([.fieldLink RX6 80 "LendThreadsModel" "thrown" "I", .fieldLink RX6 84 "LendThreadsModel" "works" "I", .fieldLink RX6 7 "LendThreadsModel" "steps" "[I", .fieldLink RX6 13 "LendThreadsModel" "failsAt" "[I", .methodLink RX6 87 yX6_in, .static yX6_in, .initialized RX6, .code yX6_in cX6_in 3 (some .boolean)] ++ wsX60)
def wsX6_isStep : List Cond := .code yX6_isStep cX6_isStep 3 (some .boolean) :: ([.fieldLink RX6 7 "LendThreadsModel" "steps" "[I", .methodLink RX6 91 yX6_isWork, .instanceMethod yX6_isWork, .selects RX6 yX6_isWork yX6_isWork, .initialized RX6, .code yX6_isWork cX6_isWork 2 (some .boolean), .fieldLink RX6 84 "LendThreadsModel" "works" "I", .methodLink RX6 87 yX6_in, .static yX6_in, .code yX6_in cX6_in 3 (some .boolean)] ++ wsX60)
def wsX6_wants : List Cond := .code yX6_wants cX6_wants 6 (some .int) :: ([.fieldLink RX6 80 "LendThreadsModel" "thrown" "I", .fieldLink RX6 28 "LendThreadsModel" "begun" "[Z", .fieldLink RX6 44 "LendThreadsModel" "wantCount" "[I", .fieldLink RX6 47 "LendThreadsModel" "want" "[I", .methodLink RX6 95 yX6_isStep, .instanceMethod yX6_isStep, .selects RX6 yX6_isStep yX6_isStep, .initialized RX6, .code yX6_isStep cX6_isStep 3 (some .boolean), .fieldLink RX6 7 "LendThreadsModel" "steps" "[I", .methodLink RX6 91 yX6_isWork, .instanceMethod yX6_isWork, .selects RX6 yX6_isWork yX6_isWork, .code yX6_isWork cX6_isWork 2 (some .boolean), .fieldLink RX6 84 "LendThreadsModel" "works" "I", .methodLink RX6 87 yX6_in, .static yX6_in, .code yX6_in cX6_in 3 (some .boolean)] ++ wsX60)
def wsX6_sends : List Cond := .code yX6_sends cX6_sends 5 (some .int) :: ([.fieldLink RX6 80 "LendThreadsModel" "thrown" "I", .fieldLink RX6 28 "LendThreadsModel" "begun" "[Z", .fieldLink RX6 50 "LendThreadsModel" "sendCount" "[I", .fieldLink RX6 53 "LendThreadsModel" "send" "[I", .methodLink RX6 95 yX6_isStep, .instanceMethod yX6_isStep, .selects RX6 yX6_isStep yX6_isStep, .initialized RX6, .code yX6_isStep cX6_isStep 3 (some .boolean), .fieldLink RX6 7 "LendThreadsModel" "steps" "[I", .methodLink RX6 91 yX6_isWork, .instanceMethod yX6_isWork, .selects RX6 yX6_isWork yX6_isWork, .code yX6_isWork cX6_isWork 2 (some .boolean), .fieldLink RX6 84 "LendThreadsModel" "works" "I", .methodLink RX6 87 yX6_in, .static yX6_in, .code yX6_in cX6_in 3 (some .boolean)] ++ wsX60)
def wsX6_loses : List Cond := .code yX6_loses cX6_loses 2 (some .int) :: ([.fieldLink RX6 80 "LendThreadsModel" "thrown" "I", .fieldLink RX6 99 "LendThreadsModel" "losing" "I", .methodLink RX6 87 yX6_in, .static yX6_in, .initialized RX6, .code yX6_in cX6_in 3 (some .boolean)] ++ wsX60)
def wsX6_ahead : List Cond := .code yX6_ahead cX6_ahead 5 (some .int) :: ([.fieldLink RX6 84 "LendThreadsModel" "works" "I", .fieldLink RX6 38 "LendThreadsModel" "waitsFor" "[I", .fieldLink RX6 41 "LendThreadsModel" "since" "[I"] ++ wsX60)
def wsX6_takes : List Cond := .code yX6_takes cX6_takes 3 (some .int) :: ([.fieldLink RX6 56 "LendThreadsModel" "owner" "[I", .fieldLink RX6 38 "LendThreadsModel" "waitsFor" "[I", .fieldLink RX6 22 "LendThreadsModel" "got" "[I", .fieldLink RX6 41 "LendThreadsModel" "since" "[I", .fieldLink RX6 106 "LendThreadsModel" "clock" "I", .methodLink RX6 102 yX6_ahead, .instanceMethod yX6_ahead, .selects RX6 yX6_ahead yX6_ahead, .initialized RX6, .code yX6_ahead cX6_ahead 5 (some .int), .fieldLink RX6 84 "LendThreadsModel" "works" "I"] ++ wsX60)
def wsX6_hears : List Cond := .code yX6_hears cX6_hears 4 (some .int) :: ([.fieldLink RX6 62 "LendThreadsModel" "there" "[I", .fieldLink RX6 22 "LendThreadsModel" "got" "[I", .fieldLink RX6 65 "LendThreadsModel" "lost" "[I", .fieldLink RX6 32 "LendThreadsModel" "asked" "[I"] ++ wsX60)
def wsX6_frees : List Cond := .code yX6_frees cX6_frees 4 none :: ([.fieldLink RX6 56 "LendThreadsModel" "owner" "[I", .fieldLink RX6 38 "LendThreadsModel" "waitsFor" "[I", .fieldLink RX6 109 "LendThreadsModel" "changes" "I", .fieldLink RX6 68 "LendThreadsModel" "changedBy" "[I", .fieldLink RX6 71 "LendThreadsModel" "changed" "[I", .fieldLink RX6 74 "LendThreadsModel" "before" "[I"] ++ wsX60)
def wsX6_undo : List Cond := .code yX6_undo cX6_undo 4 none :: ([.fieldLink RX6 109 "LendThreadsModel" "changes" "I", .fieldLink RX6 68 "LendThreadsModel" "changedBy" "[I", .fieldLink RX6 59 "LendThreadsModel" "value" "[I", .fieldLink RX6 71 "LendThreadsModel" "changed" "[I", .fieldLink RX6 74 "LendThreadsModel" "before" "[I", .fieldLink RX6 16 "LendThreadsModel" "state" "[I", .methodLink RX6 112 yX6_frees, .instanceMethod yX6_frees, .selects RX6 yX6_frees yX6_frees, .initialized RX6, .code yX6_frees cX6_frees 4 none, .fieldLink RX6 56 "LendThreadsModel" "owner" "[I", .fieldLink RX6 38 "LendThreadsModel" "waitsFor" "[I"] ++ wsX60)
def wsX6_acts : List Cond := .code yX6_acts cX6_acts 5 none :: ([.fieldLink RX6 19 "LendThreadsModel" "step" "[I", .fieldLink RX6 56 "LendThreadsModel" "owner" "[I", .fieldLink RX6 68 "LendThreadsModel" "changedBy" "[I", .fieldLink RX6 109 "LendThreadsModel" "changes" "I", .fieldLink RX6 71 "LendThreadsModel" "changed" "[I", .fieldLink RX6 74 "LendThreadsModel" "before" "[I", .fieldLink RX6 59 "LendThreadsModel" "value" "[I", .fieldLink RX6 116 "LendThreadsModel" "logged" "I", .fieldLink RX6 77 "LendThreadsModel" "log" "[I", .fieldLink RX6 50 "LendThreadsModel" "sendCount" "[I", .fieldLink RX6 53 "LendThreadsModel" "send" "[I", .fieldLink RX6 99 "LendThreadsModel" "losing" "I", .fieldLink RX6 65 "LendThreadsModel" "lost" "[I", .fieldLink RX6 62 "LendThreadsModel" "there" "[I", .fieldLink RX6 22 "LendThreadsModel" "got" "[I", .fieldLink RX6 7 "LendThreadsModel" "steps" "[I", .fieldLink RX6 16 "LendThreadsModel" "state" "[I", .methodLink RX6 112 yX6_frees, .instanceMethod yX6_frees, .selects RX6 yX6_frees yX6_frees, .initialized RX6, .code yX6_frees cX6_frees 4 none, .fieldLink RX6 38 "LendThreadsModel" "waitsFor" "[I"] ++ wsX60)
def wsX6_does_r1 : List Cond := [Cond.fieldLink RX6 16 "LendThreadsModel" "state" "[I", Cond.fieldLink RX6 28 "LendThreadsModel" "begun" "[Z", Cond.fieldLink RX6 19 "LendThreadsModel" "step" "[I", Cond.fieldLink RX6 22 "LendThreadsModel" "got" "[I", Cond.fieldLink RX6 44 "LendThreadsModel" "wantCount" "[I", Cond.fieldLink RX6 47 "LendThreadsModel" "want" "[I", Cond.fieldLink RX6 25 "LendThreadsModel" "latest" "[I", Cond.fieldLink RX6 13 "LendThreadsModel" "failsAt" "[I", Cond.methodLink RX6 91 yX6_isWork, Cond.instanceMethod yX6_isWork, Cond.selects RX6 yX6_isWork yX6_isWork, Cond.initialized RX6, Cond.code yX6_isWork cX6_isWork 2 (some .boolean), Cond.fieldLink RX6 84 "LendThreadsModel" "works" "I", Cond.methodLink RX6 87 yX6_in, Cond.static yX6_in, Cond.code yX6_in cX6_in 3 (some .boolean), Cond.methodLink RX6 119 yX6_takes, Cond.instanceMethod yX6_takes, Cond.selects RX6 yX6_takes yX6_takes, Cond.code yX6_takes cX6_takes 3 (some .int), Cond.fieldLink RX6 56 "LendThreadsModel" "owner" "[I", Cond.fieldLink RX6 38 "LendThreadsModel" "waitsFor" "[I", Cond.fieldLink RX6 41 "LendThreadsModel" "since" "[I"]
def wsX6_does_r2 : List Cond := [Cond.fieldLink RX6 106 "LendThreadsModel" "clock" "I", Cond.methodLink RX6 102 yX6_ahead, Cond.instanceMethod yX6_ahead, Cond.selects RX6 yX6_ahead yX6_ahead, Cond.code yX6_ahead cX6_ahead 5 (some .int), Cond.methodLink RX6 122 yX6_hears, Cond.instanceMethod yX6_hears, Cond.selects RX6 yX6_hears yX6_hears, Cond.code yX6_hears cX6_hears 4 (some .int), Cond.fieldLink RX6 62 "LendThreadsModel" "there" "[I", Cond.fieldLink RX6 65 "LendThreadsModel" "lost" "[I", Cond.fieldLink RX6 32 "LendThreadsModel" "asked" "[I", Cond.methodLink RX6 125 yX6_undo, Cond.instanceMethod yX6_undo, Cond.selects RX6 yX6_undo yX6_undo, Cond.code yX6_undo cX6_undo 4 none, Cond.fieldLink RX6 109 "LendThreadsModel" "changes" "I", Cond.fieldLink RX6 68 "LendThreadsModel" "changedBy" "[I", Cond.fieldLink RX6 59 "LendThreadsModel" "value" "[I", Cond.fieldLink RX6 71 "LendThreadsModel" "changed" "[I", Cond.fieldLink RX6 74 "LendThreadsModel" "before" "[I", Cond.methodLink RX6 112 yX6_frees, Cond.instanceMethod yX6_frees, Cond.selects RX6 yX6_frees yX6_frees]
def wsX6_does_r3 : List Cond := [Cond.code yX6_frees cX6_frees 4 none, Cond.methodLink RX6 129 yX6_acts, Cond.instanceMethod yX6_acts, Cond.selects RX6 yX6_acts yX6_acts, Cond.code yX6_acts cX6_acts 5 none, Cond.fieldLink RX6 116 "LendThreadsModel" "logged" "I", Cond.fieldLink RX6 77 "LendThreadsModel" "log" "[I", Cond.fieldLink RX6 50 "LendThreadsModel" "sendCount" "[I", Cond.fieldLink RX6 53 "LendThreadsModel" "send" "[I", Cond.fieldLink RX6 99 "LendThreadsModel" "losing" "I", Cond.fieldLink RX6 7 "LendThreadsModel" "steps" "[I"]
def wsX6_does : List Cond := .code yX6_does cX6_does 4 (some .int) :: ((wsX6_does_r1 ++ (wsX6_does_r2 ++ wsX6_does_r3)) ++ wsX60)
def wsX6_turn_r1 : List Cond := [Cond.fieldLink RX6 80 "LendThreadsModel" "thrown" "I", Cond.methodLink RX6 132 yX6_does, Cond.instanceMethod yX6_does, Cond.selects RX6 yX6_does yX6_does, Cond.initialized RX6, Cond.code yX6_does cX6_does 4 (some .int), Cond.fieldLink RX6 16 "LendThreadsModel" "state" "[I", Cond.fieldLink RX6 28 "LendThreadsModel" "begun" "[Z", Cond.fieldLink RX6 19 "LendThreadsModel" "step" "[I", Cond.fieldLink RX6 22 "LendThreadsModel" "got" "[I", Cond.fieldLink RX6 44 "LendThreadsModel" "wantCount" "[I", Cond.fieldLink RX6 47 "LendThreadsModel" "want" "[I", Cond.fieldLink RX6 25 "LendThreadsModel" "latest" "[I", Cond.fieldLink RX6 13 "LendThreadsModel" "failsAt" "[I", Cond.methodLink RX6 91 yX6_isWork, Cond.instanceMethod yX6_isWork, Cond.selects RX6 yX6_isWork yX6_isWork, Cond.code yX6_isWork cX6_isWork 2 (some .boolean), Cond.fieldLink RX6 84 "LendThreadsModel" "works" "I", Cond.methodLink RX6 87 yX6_in, Cond.static yX6_in, Cond.code yX6_in cX6_in 3 (some .boolean), Cond.methodLink RX6 119 yX6_takes, Cond.instanceMethod yX6_takes]
def wsX6_turn_r2 : List Cond := [Cond.selects RX6 yX6_takes yX6_takes, Cond.code yX6_takes cX6_takes 3 (some .int), Cond.fieldLink RX6 56 "LendThreadsModel" "owner" "[I", Cond.fieldLink RX6 38 "LendThreadsModel" "waitsFor" "[I", Cond.fieldLink RX6 41 "LendThreadsModel" "since" "[I", Cond.fieldLink RX6 106 "LendThreadsModel" "clock" "I", Cond.methodLink RX6 102 yX6_ahead, Cond.instanceMethod yX6_ahead, Cond.selects RX6 yX6_ahead yX6_ahead, Cond.code yX6_ahead cX6_ahead 5 (some .int), Cond.methodLink RX6 122 yX6_hears, Cond.instanceMethod yX6_hears, Cond.selects RX6 yX6_hears yX6_hears, Cond.code yX6_hears cX6_hears 4 (some .int), Cond.fieldLink RX6 62 "LendThreadsModel" "there" "[I", Cond.fieldLink RX6 65 "LendThreadsModel" "lost" "[I", Cond.fieldLink RX6 32 "LendThreadsModel" "asked" "[I", Cond.methodLink RX6 125 yX6_undo, Cond.instanceMethod yX6_undo, Cond.selects RX6 yX6_undo yX6_undo, Cond.code yX6_undo cX6_undo 4 none, Cond.fieldLink RX6 109 "LendThreadsModel" "changes" "I", Cond.fieldLink RX6 68 "LendThreadsModel" "changedBy" "[I", Cond.fieldLink RX6 59 "LendThreadsModel" "value" "[I"]
def wsX6_turn_r3 : List Cond := [Cond.fieldLink RX6 71 "LendThreadsModel" "changed" "[I", Cond.fieldLink RX6 74 "LendThreadsModel" "before" "[I", Cond.methodLink RX6 112 yX6_frees, Cond.instanceMethod yX6_frees, Cond.selects RX6 yX6_frees yX6_frees, Cond.code yX6_frees cX6_frees 4 none, Cond.methodLink RX6 129 yX6_acts, Cond.instanceMethod yX6_acts, Cond.selects RX6 yX6_acts yX6_acts, Cond.code yX6_acts cX6_acts 5 none, Cond.fieldLink RX6 116 "LendThreadsModel" "logged" "I", Cond.fieldLink RX6 77 "LendThreadsModel" "log" "[I", Cond.fieldLink RX6 50 "LendThreadsModel" "sendCount" "[I", Cond.fieldLink RX6 53 "LendThreadsModel" "send" "[I", Cond.fieldLink RX6 99 "LendThreadsModel" "losing" "I", Cond.fieldLink RX6 7 "LendThreadsModel" "steps" "[I"]
def wsX6_turn : List Cond := .code yX6_turn cX6_turn 2 (some .int) :: ((wsX6_turn_r1 ++ (wsX6_turn_r2 ++ wsX6_turn_r3)) ++ wsX60)
def wsX6_run_r1 : List Cond := [Cond.fieldLink RX6 80 "LendThreadsModel" "thrown" "I", Cond.fieldLink RX6 84 "LendThreadsModel" "works" "I", Cond.methodLink RX6 132 yX6_does, Cond.instanceMethod yX6_does, Cond.selects RX6 yX6_does yX6_does, Cond.initialized RX6, Cond.code yX6_does cX6_does 4 (some .int), Cond.fieldLink RX6 16 "LendThreadsModel" "state" "[I", Cond.fieldLink RX6 28 "LendThreadsModel" "begun" "[Z", Cond.fieldLink RX6 19 "LendThreadsModel" "step" "[I", Cond.fieldLink RX6 22 "LendThreadsModel" "got" "[I", Cond.fieldLink RX6 44 "LendThreadsModel" "wantCount" "[I", Cond.fieldLink RX6 47 "LendThreadsModel" "want" "[I", Cond.fieldLink RX6 25 "LendThreadsModel" "latest" "[I", Cond.fieldLink RX6 13 "LendThreadsModel" "failsAt" "[I", Cond.methodLink RX6 91 yX6_isWork, Cond.instanceMethod yX6_isWork, Cond.selects RX6 yX6_isWork yX6_isWork, Cond.code yX6_isWork cX6_isWork 2 (some .boolean), Cond.methodLink RX6 87 yX6_in, Cond.static yX6_in, Cond.code yX6_in cX6_in 3 (some .boolean), Cond.methodLink RX6 119 yX6_takes, Cond.instanceMethod yX6_takes]
def wsX6_run_r2 : List Cond := [Cond.selects RX6 yX6_takes yX6_takes, Cond.code yX6_takes cX6_takes 3 (some .int), Cond.fieldLink RX6 56 "LendThreadsModel" "owner" "[I", Cond.fieldLink RX6 38 "LendThreadsModel" "waitsFor" "[I", Cond.fieldLink RX6 41 "LendThreadsModel" "since" "[I", Cond.fieldLink RX6 106 "LendThreadsModel" "clock" "I", Cond.methodLink RX6 102 yX6_ahead, Cond.instanceMethod yX6_ahead, Cond.selects RX6 yX6_ahead yX6_ahead, Cond.code yX6_ahead cX6_ahead 5 (some .int), Cond.methodLink RX6 122 yX6_hears, Cond.instanceMethod yX6_hears, Cond.selects RX6 yX6_hears yX6_hears, Cond.code yX6_hears cX6_hears 4 (some .int), Cond.fieldLink RX6 62 "LendThreadsModel" "there" "[I", Cond.fieldLink RX6 65 "LendThreadsModel" "lost" "[I", Cond.fieldLink RX6 32 "LendThreadsModel" "asked" "[I", Cond.methodLink RX6 125 yX6_undo, Cond.instanceMethod yX6_undo, Cond.selects RX6 yX6_undo yX6_undo, Cond.code yX6_undo cX6_undo 4 none, Cond.fieldLink RX6 109 "LendThreadsModel" "changes" "I", Cond.fieldLink RX6 68 "LendThreadsModel" "changedBy" "[I", Cond.fieldLink RX6 59 "LendThreadsModel" "value" "[I"]
def wsX6_run_r3 : List Cond := [Cond.fieldLink RX6 71 "LendThreadsModel" "changed" "[I", Cond.fieldLink RX6 74 "LendThreadsModel" "before" "[I", Cond.methodLink RX6 112 yX6_frees, Cond.instanceMethod yX6_frees, Cond.selects RX6 yX6_frees yX6_frees, Cond.code yX6_frees cX6_frees 4 none, Cond.methodLink RX6 129 yX6_acts, Cond.instanceMethod yX6_acts, Cond.selects RX6 yX6_acts yX6_acts, Cond.code yX6_acts cX6_acts 5 none, Cond.fieldLink RX6 116 "LendThreadsModel" "logged" "I", Cond.fieldLink RX6 77 "LendThreadsModel" "log" "[I", Cond.fieldLink RX6 50 "LendThreadsModel" "sendCount" "[I", Cond.fieldLink RX6 53 "LendThreadsModel" "send" "[I", Cond.fieldLink RX6 99 "LendThreadsModel" "losing" "I", Cond.fieldLink RX6 7 "LendThreadsModel" "steps" "[I"]
def wsX6_run : List Cond := .code yX6_run cX6_run 5 (some .int) :: ((wsX6_run_r1 ++ (wsX6_run_r2 ++ wsX6_run_r3)) ++ wsX60)
def wsX6_waitsOn : List Cond := .code yX6_waitsOn cX6_waitsOn 2 (some .int) :: ([.fieldLink RX6 38 "LendThreadsModel" "waitsFor" "[I", .fieldLink RX6 56 "LendThreadsModel" "owner" "[I"] ++ wsX60)
def wsX6_ring : List Cond := .code yX6_ring cX6_ring 5 (some .int) :: ([.fieldLink RX6 80 "LendThreadsModel" "thrown" "I", .fieldLink RX6 84 "LendThreadsModel" "works" "I", .methodLink RX6 136 yX6_waitsOn, .instanceMethod yX6_waitsOn, .selects RX6 yX6_waitsOn yX6_waitsOn, .initialized RX6, .code yX6_waitsOn cX6_waitsOn 2 (some .int), .fieldLink RX6 38 "LendThreadsModel" "waitsFor" "[I", .fieldLink RX6 56 "LendThreadsModel" "owner" "[I", .methodLink RX6 125 yX6_undo, .instanceMethod yX6_undo, .selects RX6 yX6_undo yX6_undo, .code yX6_undo cX6_undo 4 none, .fieldLink RX6 109 "LendThreadsModel" "changes" "I", .fieldLink RX6 68 "LendThreadsModel" "changedBy" "[I", .fieldLink RX6 59 "LendThreadsModel" "value" "[I", .fieldLink RX6 71 "LendThreadsModel" "changed" "[I", .fieldLink RX6 74 "LendThreadsModel" "before" "[I", .fieldLink RX6 16 "LendThreadsModel" "state" "[I", .methodLink RX6 112 yX6_frees, .instanceMethod yX6_frees, .selects RX6 yX6_frees yX6_frees, .code yX6_frees cX6_frees 4 none] ++ wsX60)
def wsX6_interrupt_r1 : List Cond := [Cond.fieldLink RX6 80 "LendThreadsModel" "thrown" "I", Cond.fieldLink RX6 16 "LendThreadsModel" "state" "[I", Cond.fieldLink RX6 25 "LendThreadsModel" "latest" "[I", Cond.methodLink RX6 91 yX6_isWork, Cond.instanceMethod yX6_isWork, Cond.selects RX6 yX6_isWork yX6_isWork, Cond.initialized RX6, Cond.code yX6_isWork cX6_isWork 2 (some .boolean), Cond.fieldLink RX6 84 "LendThreadsModel" "works" "I", Cond.methodLink RX6 87 yX6_in, Cond.static yX6_in, Cond.code yX6_in cX6_in 3 (some .boolean), Cond.methodLink RX6 125 yX6_undo, Cond.instanceMethod yX6_undo, Cond.selects RX6 yX6_undo yX6_undo, Cond.code yX6_undo cX6_undo 4 none, Cond.fieldLink RX6 109 "LendThreadsModel" "changes" "I", Cond.fieldLink RX6 68 "LendThreadsModel" "changedBy" "[I", Cond.fieldLink RX6 59 "LendThreadsModel" "value" "[I", Cond.fieldLink RX6 71 "LendThreadsModel" "changed" "[I", Cond.fieldLink RX6 74 "LendThreadsModel" "before" "[I", Cond.methodLink RX6 112 yX6_frees, Cond.instanceMethod yX6_frees, Cond.selects RX6 yX6_frees yX6_frees]
def wsX6_interrupt_r2 : List Cond := [Cond.code yX6_frees cX6_frees 4 none, Cond.fieldLink RX6 56 "LendThreadsModel" "owner" "[I", Cond.fieldLink RX6 38 "LendThreadsModel" "waitsFor" "[I"]
def wsX6_interrupt : List Cond := .code yX6_interrupt cX6_interrupt 2 (some .int) :: ((wsX6_interrupt_r1 ++ wsX6_interrupt_r2) ++ wsX60)
def wsX6_again : List Cond := .code yX6_again cX6_again 2 (some .int) :: ([.fieldLink RX6 80 "LendThreadsModel" "thrown" "I", .fieldLink RX6 16 "LendThreadsModel" "state" "[I", .fieldLink RX6 19 "LendThreadsModel" "step" "[I", .fieldLink RX6 22 "LendThreadsModel" "got" "[I", .fieldLink RX6 25 "LendThreadsModel" "latest" "[I", .fieldLink RX6 13 "LendThreadsModel" "failsAt" "[I", .fieldLink RX6 35 "LendThreadsModel" "again" "[I", .methodLink RX6 91 yX6_isWork, .instanceMethod yX6_isWork, .selects RX6 yX6_isWork yX6_isWork, .initialized RX6, .code yX6_isWork cX6_isWork 2 (some .boolean), .fieldLink RX6 84 "LendThreadsModel" "works" "I", .methodLink RX6 87 yX6_in, .static yX6_in, .code yX6_in cX6_in 3 (some .boolean)] ++ wsX60)
def wsX6_close : List Cond := .code yX6_close cX6_close 3 (some .int) :: ([.fieldLink RX6 80 "LendThreadsModel" "thrown" "I", .fieldLink RX6 84 "LendThreadsModel" "works" "I", .fieldLink RX6 16 "LendThreadsModel" "state" "[I", .methodLink RX6 125 yX6_undo, .instanceMethod yX6_undo, .selects RX6 yX6_undo yX6_undo, .initialized RX6, .code yX6_undo cX6_undo 4 none, .fieldLink RX6 109 "LendThreadsModel" "changes" "I", .fieldLink RX6 68 "LendThreadsModel" "changedBy" "[I", .fieldLink RX6 59 "LendThreadsModel" "value" "[I", .fieldLink RX6 71 "LendThreadsModel" "changed" "[I", .fieldLink RX6 74 "LendThreadsModel" "before" "[I", .methodLink RX6 112 yX6_frees, .instanceMethod yX6_frees, .selects RX6 yX6_frees yX6_frees, .code yX6_frees cX6_frees 4 none, .fieldLink RX6 56 "LendThreadsModel" "owner" "[I", .fieldLink RX6 38 "LendThreadsModel" "waitsFor" "[I"] ++ wsX60)
def wsX6_state : List Cond := .code yX6_state cX6_state 5 (some .int) :: ([.fieldLink RX6 80 "LendThreadsModel" "thrown" "I", .fieldLink RX6 16 "LendThreadsModel" "state" "[I", .fieldLink RX6 19 "LendThreadsModel" "step" "[I", .fieldLink RX6 22 "LendThreadsModel" "got" "[I", .fieldLink RX6 56 "LendThreadsModel" "owner" "[I", .fieldLink RX6 32 "LendThreadsModel" "asked" "[I", .methodLink RX6 91 yX6_isWork, .instanceMethod yX6_isWork, .selects RX6 yX6_isWork yX6_isWork, .initialized RX6, .code yX6_isWork cX6_isWork 2 (some .boolean), .fieldLink RX6 84 "LendThreadsModel" "works" "I", .methodLink RX6 87 yX6_in, .static yX6_in, .code yX6_in cX6_in 3 (some .boolean)] ++ wsX60)
def wsX6_has : List Cond := .code yX6_has cX6_has 2 (some .int) :: ([.fieldLink RX6 80 "LendThreadsModel" "thrown" "I", .fieldLink RX6 56 "LendThreadsModel" "owner" "[I", .methodLink RX6 87 yX6_in, .static yX6_in, .initialized RX6, .code yX6_in cX6_in 3 (some .boolean)] ++ wsX60)
def wsX6_line : List Cond := .code yX6_line cX6_line 4 (some .int) :: ([.fieldLink RX6 80 "LendThreadsModel" "thrown" "I", .fieldLink RX6 84 "LendThreadsModel" "works" "I", .fieldLink RX6 38 "LendThreadsModel" "waitsFor" "[I", .methodLink RX6 87 yX6_in, .static yX6_in, .initialized RX6, .code yX6_in cX6_in 3 (some .boolean), .methodLink RX6 102 yX6_ahead, .instanceMethod yX6_ahead, .selects RX6 yX6_ahead yX6_ahead, .code yX6_ahead cX6_ahead 5 (some .int), .fieldLink RX6 41 "LendThreadsModel" "since" "[I"] ++ wsX60)
def wsX6_value : List Cond := .code yX6_value cX6_value 2 (some .int) :: ([.fieldLink RX6 80 "LendThreadsModel" "thrown" "I", .fieldLink RX6 59 "LendThreadsModel" "value" "[I", .methodLink RX6 87 yX6_in, .static yX6_in, .initialized RX6, .code yX6_in cX6_in 3 (some .boolean)] ++ wsX60)
def wsX6_log : List Cond := .code yX6_log cX6_log 2 (some .int) :: ([.fieldLink RX6 80 "LendThreadsModel" "thrown" "I", .fieldLink RX6 116 "LendThreadsModel" "logged" "I", .fieldLink RX6 77 "LendThreadsModel" "log" "[I", .methodLink RX6 87 yX6_in, .static yX6_in, .initialized RX6, .code yX6_in cX6_in 3 (some .boolean)] ++ wsX60)
def wsX6_mail : List Cond := .code yX6_mail cX6_mail 3 (some .int) :: ([.fieldLink RX6 80 "LendThreadsModel" "thrown" "I", .fieldLink RX6 62 "LendThreadsModel" "there" "[I", .methodLink RX6 91 yX6_isWork, .instanceMethod yX6_isWork, .selects RX6 yX6_isWork yX6_isWork, .initialized RX6, .code yX6_isWork cX6_isWork 2 (some .boolean), .fieldLink RX6 84 "LendThreadsModel" "works" "I", .methodLink RX6 87 yX6_in, .static yX6_in, .code yX6_in cX6_in 3 (some .boolean)] ++ wsX60)
def wsJ9_max_7cf53 : List Cond := .code yJ9_max_7cf53 cJ9_max_7cf53 2 (some .int) :: ([])
def wsL_value : List Cond := .codeWith yL_value cL_value 4 (some .int) [(0, 9, 12, 13)] :: ([.classLink RL 13 "java/lang/IndexOutOfBoundsException", .methodLink RL 7 yX5_value, .instanceMethod yX5_value, .selects RX5 yX5_value yX5_value, .initialized RX5, .code yX5_value cX5_value 2 (some .int), .classLink RX5 137 "java/lang/IndexOutOfBoundsException", .initialized "java/lang/IndexOutOfBoundsException", .fieldLink RX5 18 "LendThreads" "shelf" "LLendThreads$Shelf;", .methodLink RX5 64 yX5_isCopy, .static yX5_isCopy, .code yX5_isCopy cX5_isCopy 1 (some .boolean)] ++ wsX50 ++ wsX30 ++ (vx_atS RX5 141 "java/lang/IndexOutOfBoundsException" ["java/lang/RuntimeException", "java/lang/Exception"]).filter goodWord)
def wsL_law0_r1 : List Cond := [Cond.classLink RL 8 RX5, Cond.instantiable RX5 5, Cond.initialized RX5, Cond.classLink RL 16 RX6, Cond.instantiable RX6 29, Cond.initialized RX6, Cond.arrayClass .long, Cond.methodLink RL 15 yX5_init, Cond.instanceMethod yX5_init, Cond.code yX5_init cX5_init 2 none, Cond.methodLink RX5 1 objectInit, Cond.instanceMethod objectInit, Cond.code objectInit ⟨#[0xb1]⟩ 1 none, Cond.classLink RX5 9 RX4, Cond.fieldLink RX5 11 "LendThreads" "works" "[LLendThreads$Work;", Cond.classLink RX5 15 RX3, Cond.instantiable RX3 4, Cond.initialized RX3, Cond.fieldLink RX5 18 "LendThreads" "shelf" "LLendThreads$Shelf;", Cond.classLink RX5 22 RX1, Cond.instantiable RX1 3, Cond.initialized RX1, Cond.fieldLink RX5 25 "LendThreads" "post" "LLendThreads$Post;", Cond.classLink RX5 29 RX0]
def wsL_law0_r2 : List Cond := [Cond.instantiable RX0 1, Cond.initialized RX0, Cond.fieldLink RX5 32 "LendThreads" "diary" "LLendThreads$Diary;", Cond.instantiable RX4 12, Cond.initialized RX4, Cond.methodLink RX5 17 yX3_init, Cond.instanceMethod yX3_init, Cond.code yX3_init cX3_init 1 none, Cond.methodLink RX3 3 objectInit, Cond.arrayClass .int, Cond.fieldLink RX3 9 "LendThreads$Shelf" "values" "[I", Cond.fieldLink RX3 15 "LendThreads$Shelf" "valuesWhenTaken" "[I", Cond.fieldLink RX3 18 "LendThreads$Shelf" "holders" "[I", Cond.classLink RX3 21 RX2, Cond.instantiable RX2 3, Cond.initialized RX2, Cond.fieldLink RX3 26 "LendThreads$Shelf" "lines" "LLendThreads$Rows;", Cond.methodLink RX3 23 yX2_init, Cond.instanceMethod yX2_init, Cond.code yX2_init cX2_init 3 none, Cond.methodLink RX2 3 objectInit, Cond.fieldLink RX2 9 "LendThreads$Rows" "room" "I", Cond.fieldLink RX2 15 "LendThreads$Rows" "counts" "[I", Cond.fieldLink RX2 19 "LendThreads$Rows" "items" "[I"]
def wsL_law0_r3 : List Cond := [Cond.methodLink RX3 30 yJ7_fill_53178, Cond.static yJ7_fill_53178, Cond.initialized RJ7, Cond.code yJ7_fill_53178 cJ7_fill_53178 4 none, Cond.instanceMethod yX1_init, Cond.code yX1_init cX1_init 1 none, Cond.methodLink RX1 3 objectInit, Cond.fieldLink RX1 9 "LendThreads$Post" "there" "[I", Cond.fieldLink RX1 15 "LendThreads$Post" "lost" "[I", Cond.instanceMethod yX0_init, Cond.code yX0_init cX0_init 1 none, Cond.methodLink RX0 3 objectInit, Cond.classLink RX0 9 RX2, Cond.fieldLink RX0 14 "LendThreads$Diary" "lines" "LLendThreads$Rows;", Cond.methodLink RX0 11 yX2_init, Cond.methodLink RX5 36 yX4_init, Cond.instanceMethod yX4_init, Cond.code yX4_init cX4_init 2 none, Cond.methodLink RX4 3 objectInit, Cond.classLink RX4 9 RX2, Cond.fieldLink RX4 14 "LendThreads$Work" "wanted" "LLendThreads$Rows;", Cond.fieldLink RX4 20 "LendThreads$Work" "receivers" "LLendThreads$Rows;", Cond.fieldLink RX4 23 "LendThreads$Work" "failsAt" "I", Cond.fieldLink RX4 27 "LendThreads$Work" "state" "I"]
def wsL_law0_r4 : List Cond := [Cond.fieldLink RX4 30 "LendThreads$Work" "latest" "I", Cond.fieldLink RX4 33 "LendThreads$Work" "number" "I", Cond.methodLink RX4 11 yX2_init, Cond.methodLink RL 18 yX6_init, Cond.instanceMethod yX6_init, Cond.code yX6_init cX6_init 1 none, Cond.methodLink RX6 1 objectInit, Cond.fieldLink RX6 7 "LendThreadsModel" "steps" "[I", Cond.fieldLink RX6 13 "LendThreadsModel" "failsAt" "[I", Cond.fieldLink RX6 16 "LendThreadsModel" "state" "[I", Cond.fieldLink RX6 19 "LendThreadsModel" "step" "[I", Cond.fieldLink RX6 22 "LendThreadsModel" "got" "[I", Cond.fieldLink RX6 25 "LendThreadsModel" "latest" "[I", Cond.arrayClass .boolean, Cond.fieldLink RX6 28 "LendThreadsModel" "begun" "[Z", Cond.fieldLink RX6 32 "LendThreadsModel" "asked" "[I", Cond.fieldLink RX6 35 "LendThreadsModel" "again" "[I", Cond.fieldLink RX6 38 "LendThreadsModel" "waitsFor" "[I", Cond.fieldLink RX6 41 "LendThreadsModel" "since" "[I", Cond.fieldLink RX6 44 "LendThreadsModel" "wantCount" "[I", Cond.fieldLink RX6 47 "LendThreadsModel" "want" "[I", Cond.fieldLink RX6 50 "LendThreadsModel" "sendCount" "[I", Cond.fieldLink RX6 53 "LendThreadsModel" "send" "[I", Cond.fieldLink RX6 56 "LendThreadsModel" "owner" "[I"]
def wsL_law0_r5 : List Cond := [Cond.fieldLink RX6 59 "LendThreadsModel" "value" "[I", Cond.fieldLink RX6 62 "LendThreadsModel" "there" "[I", Cond.fieldLink RX6 65 "LendThreadsModel" "lost" "[I", Cond.fieldLink RX6 68 "LendThreadsModel" "changedBy" "[I", Cond.fieldLink RX6 71 "LendThreadsModel" "changed" "[I", Cond.fieldLink RX6 74 "LendThreadsModel" "before" "[I", Cond.fieldLink RX6 77 "LendThreadsModel" "log" "[I", Cond.methodLink RL 19 yX5_work, Cond.instanceMethod yX5_work, Cond.selects RX5 yX5_work yX5_work, Cond.code yX5_work cX5_work 4 (some .int), Cond.fieldLink RX5 39 "LendThreads" "workCount" "I", Cond.methodLink RL 23 yX6_work, Cond.instanceMethod yX6_work, Cond.selects RX6 yX6_work yX6_work, Cond.code yX6_work cX6_work 3 (some .int), Cond.fieldLink RX6 80 "LendThreadsModel" "thrown" "I", Cond.fieldLink RX6 84 "LendThreadsModel" "works" "I", Cond.methodLink RX6 87 yX6_in, Cond.static yX6_in, Cond.code yX6_in cX6_in 3 (some .boolean), Cond.methodLink RL 24 yX5_wants, Cond.instanceMethod yX5_wants, Cond.selects RX5 yX5_wants yX5_wants]
def wsL_law0_r6 : List Cond := [Cond.code yX5_wants cX5_wants 6 (some .int), Cond.methodLink RX5 52 yX5_find, Cond.instanceMethod yX5_find, Cond.selects RX5 yX5_find yX5_find, Cond.code yX5_find cX5_find 2 (some (.object "LendThreads$Work")), Cond.methodLink RX5 154 yX5_isWork, Cond.instanceMethod yX5_isWork, Cond.selects RX5 yX5_isWork yX5_isWork, Cond.code yX5_isWork cX5_isWork 2 (some .boolean), Cond.methodLink RX5 56 yX4_isStep, Cond.instanceMethod yX4_isStep, Cond.selects RX4 yX4_isStep yX4_isStep, Cond.code yX4_isStep cX4_isStep 2 (some .boolean), Cond.fieldLink RX4 36 "LendThreads$Work" "steps" "I", Cond.methodLink RX5 60 yX5_isOther, Cond.instanceMethod yX5_isOther, Cond.selects RX5 yX5_isOther yX5_isOther, Cond.code yX5_isOther cX5_isOther 3 (some .boolean), Cond.methodLink RX5 64 yX5_isCopy, Cond.static yX5_isCopy, Cond.code yX5_isCopy cX5_isCopy 1 (some .boolean), Cond.methodLink RX5 75 yX2_add, Cond.instanceMethod yX2_add, Cond.selects RX2 yX2_add yX2_add]
def wsL_law0_r7 : List Cond := [Cond.code yX2_add cX2_add 3 (some .int), Cond.methodLink RL 28 yX6_wants, Cond.instanceMethod yX6_wants, Cond.selects RX6 yX6_wants yX6_wants, Cond.code yX6_wants cX6_wants 6 (some .int), Cond.methodLink RX6 95 yX6_isStep, Cond.instanceMethod yX6_isStep, Cond.selects RX6 yX6_isStep yX6_isStep, Cond.code yX6_isStep cX6_isStep 3 (some .boolean), Cond.methodLink RX6 91 yX6_isWork, Cond.instanceMethod yX6_isWork, Cond.selects RX6 yX6_isWork yX6_isWork, Cond.code yX6_isWork cX6_isWork 2 (some .boolean), Cond.methodLink RL 29 yX5_sends, Cond.instanceMethod yX5_sends, Cond.selects RX5 yX5_sends yX5_sends, Cond.code yX5_sends cX5_sends 5 (some .int), Cond.methodLink RL 33 yX6_sends, Cond.instanceMethod yX6_sends, Cond.selects RX6 yX6_sends yX6_sends, Cond.code yX6_sends cX6_sends 5 (some .int), Cond.methodLink RL 34 yX5_loses, Cond.instanceMethod yX5_loses, Cond.selects RX5 yX5_loses yX5_loses]
def wsL_law0_r8 : List Cond := [Cond.code yX5_loses cX5_loses 2 (some .int), Cond.methodLink RL 37 yX6_loses, Cond.instanceMethod yX6_loses, Cond.selects RX6 yX6_loses yX6_loses, Cond.code yX6_loses cX6_loses 2 (some .int), Cond.fieldLink RX6 99 "LendThreadsModel" "losing" "I", Cond.methodLink RL 38 yX5_turn, Cond.instanceMethod yX5_turn, Cond.selects RX5 yX5_turn yX5_turn, Cond.code yX5_turn cX5_turn 3 (some .int), Cond.methodLink RX5 87 yX5_takeTurn, Cond.instanceMethod yX5_takeTurn, Cond.selects RX5 yX5_takeTurn yX5_takeTurn, Cond.code yX5_takeTurn cX5_takeTurn 2 (some .int), Cond.methodLink RX5 157 yX4_gotAll, Cond.instanceMethod yX4_gotAll, Cond.selects RX4 yX4_gotAll yX4_gotAll, Cond.code yX4_gotAll cX4_gotAll 1 (some .boolean), Cond.fieldLink RX4 39 "LendThreads$Work" "got" "I", Cond.fieldLink RX4 42 "LendThreads$Work" "step" "I", Cond.methodLink RX4 45 yX2_count, Cond.instanceMethod yX2_count, Cond.selects RX2 yX2_count yX2_count, Cond.code yX2_count cX2_count 2 (some .int)]
def wsL_law0_r9 : List Cond := [Cond.methodLink RX5 161 yX5_actOrFail, Cond.instanceMethod yX5_actOrFail, Cond.selects RX5 yX5_actOrFail yX5_actOrFail, Cond.code yX5_actOrFail cX5_actOrFail 2 (some .int), Cond.methodLink RX5 99 yX5_undo, Cond.instanceMethod yX5_undo, Cond.selects RX5 yX5_undo yX5_undo, Cond.code yX5_undo cX5_undo 3 none, Cond.methodLink RX5 208 yX3_restore, Cond.instanceMethod yX3_restore, Cond.selects RX3 yX3_restore yX3_restore, Cond.code yX3_restore cX3_restore 3 none, Cond.methodLink RX5 199 yX3_release, Cond.instanceMethod yX3_release, Cond.selects RX3 yX3_release yX3_release, Cond.code yX3_release cX3_release 3 none, Cond.methodLink RX3 40 yX2_remove, Cond.instanceMethod yX2_remove, Cond.selects RX2 yX2_remove yX2_remove, Cond.code yX2_remove cX2_remove 5 none, Cond.methodLink RX2 26 yX2_placeOf, Cond.instanceMethod yX2_placeOf, Cond.selects RX2 yX2_placeOf yX2_placeOf, Cond.code yX2_placeOf cX2_placeOf 5 (some .int)]
def wsL_law0_r10 : List Cond := [Cond.methodLink RX2 22 yX2_count, Cond.methodLink RX5 189 yX3_change, Cond.instanceMethod yX3_change, Cond.selects RX3 yX3_change yX3_change, Cond.code yX3_change cX3_change 4 none, Cond.methodLink RX5 192 yX0_write, Cond.instanceMethod yX0_write, Cond.selects RX0 yX0_write yX0_write, Cond.code yX0_write cX0_write 3 none, Cond.methodLink RX0 20 yX2_add, Cond.methodLink RX5 195 yX5_sendAll, Cond.instanceMethod yX5_sendAll, Cond.selects RX5 yX5_sendAll yX5_sendAll, Cond.code yX5_sendAll cX5_sendAll 4 none, Cond.methodLink RX5 202 yX2_count, Cond.methodLink RX5 134 yX2_item, Cond.instanceMethod yX2_item, Cond.selects RX2 yX2_item yX2_item, Cond.code yX2_item cX2_item 3 (some .int), Cond.methodLink RX5 148 yX1_way, Cond.static yX1_way, Cond.code yX1_way cX1_way 2 (some .int), Cond.methodLink RX5 205 yX1_send, Cond.instanceMethod yX1_send]
def wsL_law0_r11 : List Cond := [Cond.selects RX1 yX1_send yX1_send, Cond.code yX1_send cX1_send 2 none, Cond.fieldLink RX1 22 "LendThreads$Post" "toLose" "I", Cond.methodLink RX1 18 yX1_isWay, Cond.instanceMethod yX1_isWay, Cond.selects RX1 yX1_isWay yX1_isWay, Cond.code yX1_isWay cX1_isWay 2 (some .boolean), Cond.methodLink RX5 164 yX5_goForNext, Cond.instanceMethod yX5_goForNext, Cond.selects RX5 yX5_goForNext yX5_goForNext, Cond.code yX5_goForNext cX5_goForNext 4 (some .int), Cond.methodLink RX5 167 yX5_goForCopy, Cond.instanceMethod yX5_goForCopy, Cond.selects RX5 yX5_goForCopy yX5_goForCopy, Cond.code yX5_goForCopy cX5_goForCopy 3 (some .int), Cond.methodLink RX5 174 yX3_isFreeFor, Cond.instanceMethod yX3_isFreeFor, Cond.selects RX3 yX3_isFreeFor yX3_isFreeFor, Cond.code yX3_isFreeFor cX3_isFreeFor 4 (some .boolean), Cond.methodLink RX3 36 yX2_item, Cond.methodLink RX5 177 yX3_take, Cond.instanceMethod yX3_take, Cond.selects RX3 yX3_take yX3_take, Cond.code yX3_take cX3_take 3 none]
def wsL_law0_r12 : List Cond := [Cond.methodLink RX5 181 yX3_standInLine, Cond.instanceMethod yX3_standInLine, Cond.selects RX3 yX3_standInLine yX3_standInLine, Cond.code yX3_standInLine cX3_standInLine 3 none, Cond.methodLink RX3 43 yX2_placeOf, Cond.methodLink RX3 46 yX2_add, Cond.methodLink RX5 171 yX5_goForMessage, Cond.instanceMethod yX5_goForMessage, Cond.selects RX5 yX5_goForMessage yX5_goForMessage, Cond.code yX5_goForMessage cX5_goForMessage 4 (some .int), Cond.methodLink RX5 184 yX1_take, Cond.instanceMethod yX1_take, Cond.selects RX1 yX1_take yX1_take, Cond.code yX1_take cX1_take 2 (some .boolean), Cond.methodLink RX5 186 yX1_findLost, Cond.instanceMethod yX1_findLost, Cond.selects RX1 yX1_findLost yX1_findLost, Cond.code yX1_findLost cX1_findLost 2 (some .boolean), Cond.methodLink RL 41 yX6_turn, Cond.instanceMethod yX6_turn, Cond.selects RX6 yX6_turn yX6_turn, Cond.code yX6_turn cX6_turn 2 (some .int), Cond.methodLink RX6 132 yX6_does, Cond.instanceMethod yX6_does]
def wsL_law0_r13 : List Cond := [Cond.selects RX6 yX6_does yX6_does, Cond.code yX6_does cX6_does 4 (some .int), Cond.methodLink RX6 119 yX6_takes, Cond.instanceMethod yX6_takes, Cond.selects RX6 yX6_takes yX6_takes, Cond.code yX6_takes cX6_takes 3 (some .int), Cond.fieldLink RX6 106 "LendThreadsModel" "clock" "I", Cond.methodLink RX6 102 yX6_ahead, Cond.instanceMethod yX6_ahead, Cond.selects RX6 yX6_ahead yX6_ahead, Cond.code yX6_ahead cX6_ahead 5 (some .int), Cond.methodLink RX6 122 yX6_hears, Cond.instanceMethod yX6_hears, Cond.selects RX6 yX6_hears yX6_hears, Cond.code yX6_hears cX6_hears 4 (some .int), Cond.methodLink RX6 125 yX6_undo, Cond.instanceMethod yX6_undo, Cond.selects RX6 yX6_undo yX6_undo, Cond.code yX6_undo cX6_undo 4 none, Cond.fieldLink RX6 109 "LendThreadsModel" "changes" "I", Cond.methodLink RX6 112 yX6_frees, Cond.instanceMethod yX6_frees, Cond.selects RX6 yX6_frees yX6_frees, Cond.code yX6_frees cX6_frees 4 none]
def wsL_law0_r14 : List Cond := [Cond.methodLink RX6 129 yX6_acts, Cond.instanceMethod yX6_acts, Cond.selects RX6 yX6_acts yX6_acts, Cond.code yX6_acts cX6_acts 5 none, Cond.fieldLink RX6 116 "LendThreadsModel" "logged" "I", Cond.methodLink RL 42 yX5_run, Cond.instanceMethod yX5_run, Cond.selects RX5 yX5_run yX5_run, Cond.code yX5_run cX5_run 6 (some .int), Cond.constant RX5 91 (1000000), Cond.methodLink RX5 92 yX5_isWaiting, Cond.static yX5_isWaiting, Cond.code yX5_isWaiting cX5_isWaiting 1 (some .boolean), Cond.methodLink RL 46 yX6_run, Cond.instanceMethod yX6_run, Cond.selects RX6 yX6_run yX6_run, Cond.code yX6_run cX6_run 5 (some .int), Cond.methodLink RL 47 yX5_ring, Cond.instanceMethod yX5_ring, Cond.selects RX5 yX5_ring yX5_ring, Cond.code yX5_ring cX5_ring 3 (some .int), Cond.methodLink RX5 95 yX5_greatestInRingOf, Cond.instanceMethod yX5_greatestInRingOf, Cond.selects RX5 yX5_greatestInRingOf yX5_greatestInRingOf]
def wsL_law0_r15 : List Cond := [Cond.code yX5_greatestInRingOf cX5_greatestInRingOf 5 (some .int), Cond.methodLink RX5 214 Lib.Math.max.name, Cond.static Lib.Math.max.name, Cond.initialized "java/lang/Math", Cond.code Lib.Math.max.name Lib.Math.max.code 2 (some .int), Cond.methodLink RX5 211 yX3_holderAwaitedBy, Cond.instanceMethod yX3_holderAwaitedBy, Cond.selects RX3 yX3_holderAwaitedBy yX3_holderAwaitedBy, Cond.code yX3_holderAwaitedBy cX3_holderAwaitedBy 3 (some .int), Cond.methodLink RL 50 yX6_ring, Cond.instanceMethod yX6_ring, Cond.selects RX6 yX6_ring yX6_ring, Cond.code yX6_ring cX6_ring 5 (some .int), Cond.methodLink RX6 136 yX6_waitsOn, Cond.instanceMethod yX6_waitsOn, Cond.selects RX6 yX6_waitsOn yX6_waitsOn, Cond.code yX6_waitsOn cX6_waitsOn 2 (some .int), Cond.methodLink RL 51 yX5_interrupt, Cond.instanceMethod yX5_interrupt, Cond.selects RX5 yX5_interrupt yX5_interrupt, Cond.code yX5_interrupt cX5_interrupt 3 (some .int), Cond.methodLink RL 54 yX6_interrupt, Cond.instanceMethod yX6_interrupt, Cond.selects RX6 yX6_interrupt yX6_interrupt]
def wsL_law0_r16 : List Cond := [Cond.code yX6_interrupt cX6_interrupt 2 (some .int), Cond.methodLink RL 55 yX5_again, Cond.instanceMethod yX5_again, Cond.selects RX5 yX5_again yX5_again, Cond.code yX5_again cX5_again 3 (some .int), Cond.methodLink RX5 109 yX4_beginAgain, Cond.instanceMethod yX4_beginAgain, Cond.selects RX4 yX4_beginAgain yX4_beginAgain, Cond.code yX4_beginAgain cX4_beginAgain 1 none, Cond.fieldLink RX4 49 "LendThreads$Work" "begunAgain" "I", Cond.methodLink RL 58 yX6_again, Cond.instanceMethod yX6_again, Cond.selects RX6 yX6_again yX6_again, Cond.code yX6_again cX6_again 2 (some .int), Cond.methodLink RL 59 yX5_close, Cond.instanceMethod yX5_close, Cond.selects RX5 yX5_close yX5_close, Cond.code yX5_close cX5_close 3 (some .int), Cond.methodLink RL 62 yX6_close, Cond.instanceMethod yX6_close, Cond.selects RX6 yX6_close yX6_close, Cond.code yX6_close cX6_close 3 (some .int), Cond.methodLink RL 63 yX5_state, Cond.instanceMethod yX5_state]
def wsL_law0_r17 : List Cond := [Cond.selects RX5 yX5_state yX5_state, Cond.code yX5_state cX5_state 4 (some .int), Cond.methodLink RX5 121 yX3_countOf, Cond.instanceMethod yX3_countOf, Cond.selects RX3 yX3_countOf yX3_countOf, Cond.code yX3_countOf cX3_countOf 4 (some .int), Cond.methodLink RL 66 yX6_state, Cond.instanceMethod yX6_state, Cond.selects RX6 yX6_state yX6_state, Cond.code yX6_state cX6_state 5 (some .int), Cond.methodLink RL 67 yX5_has, Cond.instanceMethod yX5_has, Cond.selects RX5 yX5_has yX5_has, Cond.code yX5_has cX5_has 2 (some .int), Cond.methodLink RL 70 yX6_has, Cond.instanceMethod yX6_has, Cond.selects RX6 yX6_has yX6_has, Cond.code yX6_has cX6_has 2 (some .int), Cond.methodLink RL 71 yX5_line, Cond.instanceMethod yX5_line, Cond.selects RX5 yX5_line yX5_line, Cond.code yX5_line cX5_line 3 (some .int), Cond.methodLink RL 74 yX6_line, Cond.instanceMethod yX6_line]
def wsL_law0_r18 : List Cond := [Cond.selects RX6 yX6_line yX6_line, Cond.code yX6_line cX6_line 4 (some .int), Cond.methodLink RL 75 yL_value, Cond.static yL_value, Cond.initialized RL, Cond.codeWith yL_value cL_value 4 (some .int) [(0, 9, 12, 13)], Cond.classLink RL 13 "java/lang/IndexOutOfBoundsException", Cond.methodLink RL 7 yX5_value, Cond.instanceMethod yX5_value, Cond.selects RX5 yX5_value yX5_value, Cond.code yX5_value cX5_value 2 (some .int), Cond.classLink RX5 137 "java/lang/IndexOutOfBoundsException", Cond.initialized "java/lang/IndexOutOfBoundsException", Cond.methodLink RL 80 yX6_value, Cond.instanceMethod yX6_value, Cond.selects RX6 yX6_value yX6_value, Cond.code yX6_value cX6_value 2 (some .int), Cond.methodLink RL 81 yX6_thrown, Cond.instanceMethod yX6_thrown, Cond.selects RX6 yX6_thrown yX6_thrown, Cond.code yX6_thrown cX6_thrown 1 (some .int), Cond.methodLink RL 84 yX5_log, Cond.instanceMethod yX5_log, Cond.selects RX5 yX5_log yX5_log]
def wsL_law0_r19 : List Cond := [Cond.code yX5_log cX5_log 2 (some .int), Cond.methodLink RL 87 yX6_log, Cond.instanceMethod yX6_log, Cond.selects RX6 yX6_log yX6_log, Cond.code yX6_log cX6_log 2 (some .int), Cond.methodLink RL 88 yX5_mail, Cond.instanceMethod yX5_mail, Cond.selects RX5 yX5_mail yX5_mail, Cond.code yX5_mail cX5_mail 3 (some .int), Cond.methodLink RX5 151 yX1_countThere, Cond.instanceMethod yX1_countThere, Cond.selects RX1 yX1_countThere yX1_countThere, Cond.code yX1_countThere cX1_countThere 2 (some .int), Cond.methodLink RL 91 yX6_mail, Cond.instanceMethod yX6_mail, Cond.selects RX6 yX6_mail yX6_mail, Cond.code yX6_mail cX6_mail 3 (some .int)]
def wsL_law0 : List Cond := (wsL_law0_r1 ++ (wsL_law0_r2 ++ (wsL_law0_r3 ++ (wsL_law0_r4 ++ (wsL_law0_r5 ++ (wsL_law0_r6 ++ (wsL_law0_r7 ++ (wsL_law0_r8 ++ (wsL_law0_r9 ++ (wsL_law0_r10 ++ (wsL_law0_r11 ++ (wsL_law0_r12 ++ (wsL_law0_r13 ++ (wsL_law0_r14 ++ (wsL_law0_r15 ++ (wsL_law0_r16 ++ (wsL_law0_r17 ++ (wsL_law0_r18 ++ wsL_law0_r19)))))))))))))))))) ++ wsX50 ++ wsX60 ++ wsX30 ++ wsX10 ++ wsX00 ++ wsX40 ++ wsX20 ++ ([] : List Cond)
def wsL_law : List Cond := wsL_law0 ++ (vx_atS RX5 141 "java/lang/IndexOutOfBoundsException" ["java/lang/RuntimeException", "java/lang/Exception"]).filter goodWord
end
section
theorem mem_r {big : List Cond} (ws : List Cond) (ps : List Nat) (hp : ws = ps.filterMap (fun i => big[i]?)) : ∀ w ∈ ws, w ∈ big := by
  intro w hw
  rw [hp] at hw
  obtain ⟨i, -, hi⟩ := List.mem_filterMap.mp hw
  exact List.mem_of_getElem? hi
set_option maxRecDepth 20000 in
theorem wsL_in_r1 : ∀ w ∈ wsL_law0_r1, w ∈ lw_tbl := mem_r _ [37, 38, 24, 474, 475, 31, 680, 39, 40, 41, 42, 43, 44, 45, 173, 47, 48, 25, 175, 89, 90, 28, 176, 106] rfl
set_option maxRecDepth 20000 in
theorem wsL_in_r2 : ∀ w ∈ wsL_law0_r2, w ∈ lw_tbl := mem_r _ [107, 29, 177, 119, 30, 49, 50, 51, 52, 69, 73, 75, 76, 53, 54, 26, 78, 55, 56, 57, 58, 59, 60, 61] rfl
end
section
set_option maxRecDepth 20000 in
theorem wsL2_in_r1 : ∀ w ∈ wsL_law0_r1, w ∈ lw_tbl := mem_r _ [37, 38, 24, 474, 475, 31, 680, 39, 40, 41, 42, 43, 44, 45, 173, 47, 48, 25, 175, 89, 90, 28, 176, 106] (by decide +kernel)
set_option maxRecDepth 20000 in
theorem wsL2_in_r2 : ∀ w ∈ wsL_law0_r2, w ∈ lw_tbl := mem_r _ [107, 29, 177, 119, 30, 49, 50, 51, 52, 69, 73, 75, 76, 53, 54, 26, 78, 55, 56, 57, 58, 59, 60, 61] (by decide +kernel)
end
section
theorem zz_last : True := trivial
end
