-- ===== PART A: goes FIRST, ahead of the names: the tables' words, and 'selects' of the private methods out of them =====
/-- a private method of a class that the tables say can be made, by its rows of tables_1 -/
def lw_okq (q : MethodName × Nat) : Prop := (q.1.cls ≠ "java/lang/invoke/MethodHandle" ∧ q.1.cls ≠ "java/lang/invoke/VarHandle") ∧ Cond.instantiable q.1.cls q.2 ∈ tables_1 ∧ Cond.privateMethod q.1 ∈ tables_1 ∧ Cond.instanceMethod q.1 ∈ tables_1
theorem lw_p0 : lw_okq (⟨"ForwardLog$Verifier", "isGood", "(ILForwardLog$Hasher;)Z"⟩, 9) := ⟨⟨by decide +kernel, by decide +kernel⟩, List.mem_of_getElem? (i := 80) (by decide +kernel), List.mem_of_getElem? (i := 203) (by decide +kernel), List.mem_of_getElem? (i := 204) (by decide +kernel)⟩
theorem lw_p1 : lw_okq (⟨"ForwardLog$Hasher", "expand", "(I)V"⟩, 4) := ⟨⟨by decide +kernel, by decide +kernel⟩, List.mem_of_getElem? (i := 23) (by decide +kernel), List.mem_of_getElem? (i := 237) (by decide +kernel), List.mem_of_getElem? (i := 238) (by decide +kernel)⟩
theorem lw_p2 : lw_okq (⟨"ForwardLog$Hasher", "compress", "()V"⟩, 4) := ⟨⟨by decide +kernel, by decide +kernel⟩, List.mem_of_getElem? (i := 23) (by decide +kernel), List.mem_of_getElem? (i := 244) (by decide +kernel), List.mem_of_getElem? (i := 245) (by decide +kernel)⟩
theorem lw_p3 : lw_okq (⟨"ForwardLog$Hasher", "putKey", "(LForwardLog$KeyChain;I)V"⟩, 4) := ⟨⟨by decide +kernel, by decide +kernel⟩, List.mem_of_getElem? (i := 23) (by decide +kernel), List.mem_of_getElem? (i := 259) (by decide +kernel), List.mem_of_getElem? (i := 260) (by decide +kernel)⟩
theorem lw_p4 : lw_okq (⟨"java/lang/Throwable", "fillInStackTrace", "(I)Ljava/lang/Throwable;"⟩, 6) := ⟨⟨by decide +kernel, by decide +kernel⟩, List.mem_of_getElem? (i := 324) (by decide +kernel), List.mem_of_getElem? (i := 322) (by decide +kernel), List.mem_of_getElem? (i := 323) (by decide +kernel)⟩
theorem lw_p5 : lw_okq (⟨"ForwardLog", "write", "(I[II)I"⟩, 10) := ⟨⟨by decide +kernel, by decide +kernel⟩, List.mem_of_getElem? (i := 15) (by decide +kernel), List.mem_of_getElem? (i := 379) (by decide +kernel), List.mem_of_getElem? (i := 380) (by decide +kernel)⟩
theorem lw_p6 : lw_okq (⟨"ForwardLogModel", "forget", "()V"⟩, 30) := ⟨⟨by decide +kernel, by decide +kernel⟩, List.mem_of_getElem? (i := 504) (by decide +kernel), List.mem_of_getElem? (i := 510) (by decide +kernel), List.mem_of_getElem? (i := 511) (by decide +kernel)⟩
theorem lw_p7 : lw_okq (⟨"ForwardLogModel", "clear", "()V"⟩, 30) := ⟨⟨by decide +kernel, by decide +kernel⟩, List.mem_of_getElem? (i := 504) (by decide +kernel), List.mem_of_getElem? (i := 613) (by decide +kernel), List.mem_of_getElem? (i := 614) (by decide +kernel)⟩
theorem lw_p8 : lw_okq (⟨"ForwardLogModel", "refused", "(I)Z"⟩, 30) := ⟨⟨by decide +kernel, by decide +kernel⟩, List.mem_of_getElem? (i := 504) (by decide +kernel), List.mem_of_getElem? (i := 624) (by decide +kernel), List.mem_of_getElem? (i := 625) (by decide +kernel)⟩
theorem lw_p9 : lw_okq (⟨"ForwardLogModel", "fits", "(I)Z"⟩, 30) := ⟨⟨by decide +kernel, by decide +kernel⟩, List.mem_of_getElem? (i := 504) (by decide +kernel), List.mem_of_getElem? (i := 636) (by decide +kernel), List.mem_of_getElem? (i := 637) (by decide +kernel)⟩
theorem lw_p10 : lw_okq (⟨"ForwardLogModel", "write", "(I)I"⟩, 30) := ⟨⟨by decide +kernel, by decide +kernel⟩, List.mem_of_getElem? (i := 504) (by decide +kernel), List.mem_of_getElem? (i := 640) (by decide +kernel), List.mem_of_getElem? (i := 641) (by decide +kernel)⟩
theorem lw_p11 : lw_okq (⟨"ForwardLogModel", "tag", "(II)V"⟩, 30) := ⟨⟨by decide +kernel, by decide +kernel⟩, List.mem_of_getElem? (i := 504) (by decide +kernel), List.mem_of_getElem? (i := 644) (by decide +kernel), List.mem_of_getElem? (i := 645) (by decide +kernel)⟩
theorem lw_p12 : lw_okq (⟨"ForwardLogModel", "pad", "(I)V"⟩, 30) := ⟨⟨by decide +kernel, by decide +kernel⟩, List.mem_of_getElem? (i := 504) (by decide +kernel), List.mem_of_getElem? (i := 648) (by decide +kernel), List.mem_of_getElem? (i := 649) (by decide +kernel)⟩
theorem lw_p13 : lw_okq (⟨"ForwardLogModel", "add", "(I)V"⟩, 30) := ⟨⟨by decide +kernel, by decide +kernel⟩, List.mem_of_getElem? (i := 504) (by decide +kernel), List.mem_of_getElem? (i := 652) (by decide +kernel), List.mem_of_getElem? (i := 653) (by decide +kernel)⟩
theorem lw_p14 : lw_okq (⟨"ForwardLogModel", "addNumber", "(I)V"⟩, 30) := ⟨⟨by decide +kernel, by decide +kernel⟩, List.mem_of_getElem? (i := 504) (by decide +kernel), List.mem_of_getElem? (i := 656) (by decide +kernel), List.mem_of_getElem? (i := 657) (by decide +kernel)⟩
theorem lw_p15 : lw_okq (⟨"ForwardLogModel", "hash", "()V"⟩, 30) := ⟨⟨by decide +kernel, by decide +kernel⟩, List.mem_of_getElem? (i := 504) (by decide +kernel), List.mem_of_getElem? (i := 660) (by decide +kernel), List.mem_of_getElem? (i := 661) (by decide +kernel)⟩
def lw_privs_1 : List (MethodName × Nat) := [(⟨"ForwardLog$Verifier", "isGood", "(ILForwardLog$Hasher;)Z"⟩, 9), (⟨"ForwardLog$Hasher", "expand", "(I)V"⟩, 4), (⟨"ForwardLog$Hasher", "compress", "()V"⟩, 4), (⟨"ForwardLog$Hasher", "putKey", "(LForwardLog$KeyChain;I)V"⟩, 4), (⟨"java/lang/Throwable", "fillInStackTrace", "(I)Ljava/lang/Throwable;"⟩, 6), (⟨"ForwardLog", "write", "(I[II)I"⟩, 10), (⟨"ForwardLogModel", "forget", "()V"⟩, 30), (⟨"ForwardLogModel", "clear", "()V"⟩, 30), (⟨"ForwardLogModel", "refused", "(I)Z"⟩, 30), (⟨"ForwardLogModel", "fits", "(I)Z"⟩, 30), (⟨"ForwardLogModel", "write", "(I)I"⟩, 30), (⟨"ForwardLogModel", "tag", "(II)V"⟩, 30), (⟨"ForwardLogModel", "pad", "(I)V"⟩, 30), (⟨"ForwardLogModel", "add", "(I)V"⟩, 30), (⟨"ForwardLogModel", "addNumber", "(I)V"⟩, 30), (⟨"ForwardLogModel", "hash", "()V"⟩, 30)]
theorem lw_r1 : ∀ q ∈ lw_privs_1, lw_okq q := List.forall_mem_cons.mpr ⟨lw_p0, List.forall_mem_cons.mpr ⟨lw_p1, List.forall_mem_cons.mpr ⟨lw_p2, List.forall_mem_cons.mpr ⟨lw_p3, List.forall_mem_cons.mpr ⟨lw_p4, List.forall_mem_cons.mpr ⟨lw_p5, List.forall_mem_cons.mpr ⟨lw_p6, List.forall_mem_cons.mpr ⟨lw_p7, List.forall_mem_cons.mpr ⟨lw_p8, List.forall_mem_cons.mpr ⟨lw_p9, List.forall_mem_cons.mpr ⟨lw_p10, List.forall_mem_cons.mpr ⟨lw_p11, List.forall_mem_cons.mpr ⟨lw_p12, List.forall_mem_cons.mpr ⟨lw_p13, List.forall_mem_cons.mpr ⟨lw_p14, List.forall_mem_cons.mpr ⟨lw_p15, fun _ h => absurd h List.not_mem_nil⟩⟩⟩⟩⟩⟩⟩⟩⟩⟩⟩⟩⟩⟩⟩⟩
theorem lw_p16 : lw_okq (⟨"ForwardLogModel", "block", "(I)V"⟩, 30) := ⟨⟨by decide +kernel, by decide +kernel⟩, List.mem_of_getElem? (i := 504) (by decide +kernel), List.mem_of_getElem? (i := 675) (by decide +kernel), List.mem_of_getElem? (i := 676) (by decide +kernel)⟩
theorem lw_p17 : lw_okq (⟨"ForwardLogModel", "step", "()V"⟩, 30) := ⟨⟨by decide +kernel, by decide +kernel⟩, List.mem_of_getElem? (i := 504) (by decide +kernel), List.mem_of_getElem? (i := 749) (by decide +kernel), List.mem_of_getElem? (i := 750) (by decide +kernel)⟩
theorem lw_p18 : lw_okq (⟨"ForwardLogModel", "look", "(I)Z"⟩, 30) := ⟨⟨by decide +kernel, by decide +kernel⟩, List.mem_of_getElem? (i := 504) (by decide +kernel), List.mem_of_getElem? (i := 769) (by decide +kernel), List.mem_of_getElem? (i := 770) (by decide +kernel)⟩
theorem lw_p19 : lw_okq (⟨"ForwardLogModel", "bears", "(II)Z"⟩, 30) := ⟨⟨by decide +kernel, by decide +kernel⟩, List.mem_of_getElem? (i := 504) (by decide +kernel), List.mem_of_getElem? (i := 777) (by decide +kernel), List.mem_of_getElem? (i := 778) (by decide +kernel)⟩
def lw_privs_2 : List (MethodName × Nat) := [(⟨"ForwardLogModel", "block", "(I)V"⟩, 30), (⟨"ForwardLogModel", "step", "()V"⟩, 30), (⟨"ForwardLogModel", "look", "(I)Z"⟩, 30), (⟨"ForwardLogModel", "bears", "(II)Z"⟩, 30)]
theorem lw_r2 : ∀ q ∈ lw_privs_2, lw_okq q := List.forall_mem_cons.mpr ⟨lw_p16, List.forall_mem_cons.mpr ⟨lw_p17, List.forall_mem_cons.mpr ⟨lw_p18, List.forall_mem_cons.mpr ⟨lw_p19, fun _ h => absurd h List.not_mem_nil⟩⟩⟩⟩
def lw_privs : List (MethodName × Nat) := lw_privs_1 ++ (lw_privs_2)
def lw_tbl : List Cond := k2_sels lw_privs ++ tables_1
theorem lw_privs_ok : ∀ q ∈ lw_privs, lw_okq q := by
  show ∀ q ∈ lw_privs_1 ++ (lw_privs_2), lw_okq q
  exact List.forall_mem_append.mpr ⟨lw_r1, lw_r2⟩
-- ===== end of PART A; then your names; then what follows =====
/-! ===== BEGIN words of one list among another's, by their places ===== -/
theorem goodIn_r {big : List Cond} (ws : List Cond) (ps : List Nat) (hp : ws = ps.filterMap (fun i => big[i]?)) (h : ws.all goodWord = true) : GoodIn big ws := by
  intro w hw
  have h1 := List.all_eq_true.mp h w hw
  rw [hp] at hw
  obtain ⟨i, -, hi⟩ := List.mem_filterMap.mp hw
  have hm : w ∈ big := by first | exact List.mem_of_getElem? hi | exact List.getElem?_mem hi
  exact ⟨hm, good_of_word h1⟩
theorem goodIn_app {big a b : List Cond} (ha : GoodIn big a) (hb : GoodIn big b) : GoodIn big (a ++ b) := fun w h => (List.mem_append.mp h).elim (ha w) (hb w)
theorem goodIn_ca {big a b : List Cond} {c : Cond} (ha : GoodIn big (c :: a)) (hb : GoodIn big b) : GoodIn big (c :: (a ++ b)) := fun w h => (List.mem_cons.mp h).elim (fun e => ha w (List.mem_cons.mpr (Or.inl e))) (fun h => (List.mem_append.mp h).elim (fun h => ha w (List.mem_cons.mpr (Or.inr h))) (hb w))
theorem goodIn_sub {big ws : List Cond} (hm : ∀ w ∈ ws, w ∈ big) (h : ws.all goodWord = true) : GoodIn big ws := fun w hw => ⟨hm w hw, good_of_word (List.all_eq_true.mp h w hw)⟩
/-! ===== END ===== -/

/-! ===== BEGIN exceptions that leave a method, and their catching by the caller (launches without stack traces) ===== -/
section VXA
/-! The laws vx_back, vx_callV, vx_callS, vx_callSW, vx_throw0, vx_throwS follow proofs of the library, with one case more: JvmDerived/Free/Laws.lean (Back.of_free), Shelf42/LK1.lean (callV, callS), Shelf/KitTraced.lean (throwNew0V, throwNewS). -/
/-- where a method has thrown q: the class by its name, the cell, what was written, the world -/
def vx_T (XC : String → State → State → Prop) (st : State) (q : Addr) (t : State) (mc ms : Nat) (free : Addr → Prop) : Prop :=
  ∃ (E : String) (ce : Cell) (L : List Loc), XC E st t ∧ t.heap[q]? = some ce ∧ ce.vm = .none ∧ st.vm.findClass E = some ce.cls ∧ st.WarmedH t.vm ∧ st.sameButNew ({ t with vm := st.vm } : State) L mc ms ∧ ∀ z ∈ L, free z.base
def vx_Q (Qc : Array Value → State → Outcome → State → Prop) (XC : String → State → State → Prop) (mc ms : Nat) (free : Addr → Prop) : Array Value → State → Outcome → State → Prop := fun a st o t =>
  (Qc a st o t ∧ ∃ L, FrameEnd st o t L mc ms ∧ ∀ q ∈ L, free q.base) ∨ ∃ q, o = .threw q ∧ vx_T XC st q t mc ms free
/-- a callee that returns or throws -/
def vx_Met (l : Launch) (y : MethodName) (ws : List Cond) (rm : Room) (Pc : Array Value → State → Prop) (Qc : Array Value → State → Outcome → State → Prop) (XC : String → State → State → Prop) (mc ms : Nat) (free : Addr → Prop) : Prop :=
  MetFree l y (headSpec ws rm) Pc (fun _ _ _ _ _ => True) (vx_Q Qc XC mc ms free)
def vx_Post (XC : String → State → State → Prop) (mc ms : Nat) (free : Addr → Prop) : Pt → Array Value → Addr → Pt → Prop := fun A a q B =>
  ∃ (g : JFrame) (mk : MethodId) (t : State) (L : List Loc) (E : String) (ce : Cell), B.U.heap = t.heap ∧ B.U.vm = t.vm ∧ XC E (A.U.calling g mk a) t ∧ t.heap[q]? = some ce ∧ ce.vm = .none ∧ A.U.vm.findClass E = some ce.cls ∧ B.locs = A.locs ++ L ∧ (∀ z ∈ L, free z.base) ∧ B.cells = A.cells + mc ∧ B.slots = A.slots + ms
def vx_Back (l : Launch) (R : Room) (p : Program) (e : Env) (below : List Frame) (s : State) (sargs : Array Value) (y : MethodName) (len W9 : Nat)
    (Pre : Pt → Array Value → Prop) (Post : Pt → Array Value → Option Value → Pt → Prop) (PostX : Pt → Array Value → Addr → Pt → Prop) : Prop :=
  ∀ (m : MethodId) (meth : Method) (c : Code) (A : Pt) (g : JFrame) (ig : Instr) (mk : MethodId) (a : Array Value),
    Stand p l e R s m sargs below meth c A.U A.locs A.cells A.slots → g.method = m → g.locals.size = c.maxLocals → decode c.code g.pc = .ok (ig, len) →
    2 * g.monitorRoom + (g.stack.map fun v => v.category).sum ≤ W9 → A.U.methodNamed? y = some mk → Pre A a →
    (∃ (v : Option Value) (B : Pt), Stand p l e R s m sargs below meth c B.U B.locs B.cells B.slots ∧ Post A a v B ∧
      Steps p.tables e below (doInvoke e (A.U.setTop g) [] mk a).1 (B.U.setTop { g with pc := g.pc + len, stack := v.toList ++ g.stack })) ∨
    (∃ (q : Addr) (B : Pt), Stand p l e R s m sargs below meth c B.U B.locs B.cells B.slots ∧ PostX A a q B ∧
      Steps p.tables e below (doInvoke e (A.U.setTop g) [] mk a).1 ((B.U.setTop g).pushFrame (.throwing q)))
section Payer
variable {l : Launch} {R : Room} {p : Program} {e : Env} {below : List Frame} {s : State} {sargs : Array Value} {y : MethodName} {len W9 : Nat}
theorem vx_back {ws : List Cond} {rm : Room} {Pc : Array Value → State → Prop} {Qc : Array Value → State → Outcome → State → Prop} {XC : String → State → State → Prop} {mc ms : Nat} {free : Addr → Prop} {bytes : ByteArray} {maxL : Nat} {ret : Option FieldType}
    (hM : vx_Met l y ws rm Pc Qc XC mc ms free) (hblind : FrameBlind Pc) (hrc : rm.cells = mc) (hrs : rm.slots = ms)
    (hframes : rm.frames + 1 ≤ R.frames) (hlocals : W9 + (maxL + 11) + rm.locals ≤ R.locals)
    (hws : ∀ w ∈ ws, ∀ a' U, s.WarmedH U.vm → w.before a' U = true) (hcode : Cond.code y bytes maxL ret ∈ ws) (hinit : ∀ a' U, s.WarmedH U.vm → (Cond.initialized y.cls).before a' U = true) :
    vx_Back l R p e below s sargs y len W9 (PreOf R mc ms Pc) (PostOf Qc mc ms free) (vx_Post XC mc ms free) := by
  intro m meth c A g ig mk a X hg hsize hdg hW hn hp
  have h1 : (headSpec ws rm).pre.before a A.U = true := atoms_intro fun w hw => hws w hw _ _ X.warmed
  have h2 : (Cond.code y bytes maxL ret).before a A.U = true := hws _ hcode _ _ X.warmed
  have h3 : (Cond.initialized y.cls).before a A.U = true := hinit _ _ X.warmed
  have h4 : A.cells + (headSpec ws rm).room.cells ≤ R.cells := by rw [show (headSpec ws rm).room.cells = mc from hrc]; exact hp.1
  have h5 : A.slots + (headSpec ws rm).room.slots ≤ R.slots := by rw [show (headSpec ws rm).room.slots = ms from hrs]; exact hp.2.1
  have hPc : Pc a (A.U.calling g mk a) := hblind _ _ _ _ hp.2.2
  obtain ⟨U, Ls, c0, s0⟩ := A
  dsimp only [Pt.U, Pt.locs, Pt.cells, Pt.slots] at h1 h2 h3 h4 h5 X hn hPc ⊢
  obtain ⟨methY, cY, hmY, hcY, -, hlY, -, -, -, -⟩ := Cond.code_spec hn h2
  obtain ⟨kY, hkY, -⟩ := className_of_methodNamed hn
  have hinitY : kY.init = .initialized := Cond.initialized_spec (findClass_of_methodNamed hn) hkY h3
  have h : At U g.method c below := by rw [hg]; exact X.here
  have hlocals9 : W9 + (maxL + 11) + (headSpec ws rm).room.locals ≤ R.locals := hlocals
  have happ : (headSpec ws rm).appliesLoose y e.platform (U.calling g mk a) = true :=
    Spec.appliesLoose_calling (g := g) h hdg hn hkY hinitY
      (X.room_calling (g := g) (R' := (headSpec ws rm).room) hsize hmY hcY hframes (by rw [hlY]; omega) h4 h5) h1
  obtain ⟨mid, hmid⟩ := h.above
  have hfr : (U.setTop g).frames = (.java g :: mid) ++ below := by rw [State.frames_setTop' g h.top, hmid]; rfl
  obtain ⟨o, s₂, hsteps, -, hend, hq⟩ := Steps.callFree hM p X.admits X.cas X.clock (acts := []) hfr happ hPc trivial
  have hq' : vx_Q Qc XC mc ms free a (U.calling g mk a) o s₂ := hq
  rw [State.frames_setTop' g h.top] at hend
  obtain ⟨g₀, hg0⟩ := Option.isSome_iff_exists.mp h.top
  obtain ⟨r, hr⟩ := State.topJava?_eq_some.mp hg0
  have hr' : (({ U with heap := s₂.heap, slotsUsed := s₂.slotsUsed } : State).setVm s₂.vm).frames = .java g₀ :: r := hr
  rcases hq' with ⟨hqc, L, hfe, hL⟩ | ⟨q, rfl, E, ce, L, hx, hce, hcv, hcl, hW₂, hsm, hL⟩
  · obtain ⟨⟨v, rfl⟩, hW₂, e2, q2, q3, q4, q5, q6⟩ := id hfe
    have e3 : s₂ = ({ (U.calling g mk a).setFrames s₂.frames with heap := s₂.heap, slotsUsed := s₂.slotsUsed } : State).setVm s₂.vm := by
      have : s₂ = ({ s₂ with vm := (U.calling g mk a).vm } : State).setVm s₂.vm := rfl
      rw [e2] at this
      exact this
    obtain ⟨c₂, i₂, len₂, hc₂, hd₂, hf₂⟩ := hend
    have hW' : U.WarmedH s₂.vm := hW₂
    have hcc : c₂ = c := by
      have h1 : s₂.code? g.method = U.code? g.method := by
        rw [State.code?_eq, State.code?_eq, hW'.alike.method?]
      exact Option.some.inj (hc₂.symm.trans (h1.trans h.code))
    subst hcc
    have hlen : len₂ = len := by rw [hdg] at hd₂; cases hd₂; rfl
    subst hlen
    have hs₂ : s₂ = (({ U with heap := s₂.heap, slotsUsed := s₂.slotsUsed } : State).setVm s₂.vm).setTop { g with pc := g.pc + len₂, stack := v.toList ++ g.stack } := by
      refine e3.trans ?_
      rw [hf₂, State.calling_eq h.top, State.setFrames_setFrames, State.setTop_of_frames _ hr', hr]
      rfl
    have hsame : U.sameButNew ({ U with heap := s₂.heap, slotsUsed := s₂.slotsUsed } : State) L mc ms := by
      refine ⟨?_, q2, q3, q4, q5, q6⟩
      obtain ⟨t, ht, -⟩ := State.frames_cons hr
      show ({ U with heap := s₂.heap, slotsUsed := s₂.slotsUsed } : State) = { U.setFrames U.frames with heap := s₂.heap, slotsUsed := s₂.slotsUsed }
      rw [State.setFrames_self ht]
    subst hg
    refine Or.inl ⟨v, ⟨(({ U with heap := s₂.heap, slotsUsed := s₂.slotsUsed } : State).setVm s₂.vm), Ls ++ L, c0 + mc, s0 + ms⟩,
      ⟨X.admits, X.cas, X.clock, X.frames, X.room, X.hears, X.method, X.code, (X.here.setHeapUsed s₂.heap s₂.slotsUsed).setVm hW'.alike, X.tail, State.WarmedH.trans X.warmed hW', X.limits, X.bytes, X.same.trans (hsame.setVm s.vm)⟩,
      ⟨g, mk, s₂, L, rfl, rfl, hqc, rfl, hL, rfl, rfl⟩, ?_⟩
    show Steps p.tables e below _ ((({ U with heap := s₂.heap, slotsUsed := s₂.slotsUsed } : State).setVm s₂.vm).setTop { g with pc := g.pc + len₂, stack := v.toList ++ g.stack })
    rw [← hs₂]
    exact hsteps
  · obtain ⟨e2, q2, q3, q4, q5, q6⟩ := id hsm
    have e3 : s₂ = ({ (U.calling g mk a).setFrames s₂.frames with heap := s₂.heap, slotsUsed := s₂.slotsUsed } : State).setVm s₂.vm := by
      have : s₂ = ({ s₂ with vm := (U.calling g mk a).vm } : State).setVm s₂.vm := rfl
      rw [e2] at this
      exact this
    have hf₂ : s₂.frames = .throwing q :: .java g :: U.frames.tail := hend
    have hW' : U.WarmedH s₂.vm := hW₂
    have hs₂ : s₂ = ((({ U with heap := s₂.heap, slotsUsed := s₂.slotsUsed } : State).setVm s₂.vm).setTop g).pushFrame (.throwing q) := by
      refine e3.trans ?_
      rw [hf₂, State.calling_eq h.top, State.setFrames_setFrames, State.pushFrame, State.frames_setTop _ hr', State.setTop_of_frames _ hr', State.setFrames_setFrames, hr]
      rfl
    have hsame : U.sameButNew ({ U with heap := s₂.heap, slotsUsed := s₂.slotsUsed } : State) L mc ms := by
      refine ⟨?_, q2, q3, q4, q5, q6⟩
      obtain ⟨t, ht, -⟩ := State.frames_cons hr
      show ({ U with heap := s₂.heap, slotsUsed := s₂.slotsUsed } : State) = { U.setFrames U.frames with heap := s₂.heap, slotsUsed := s₂.slotsUsed }
      rw [State.setFrames_self ht]
    subst hg
    refine Or.inr ⟨q, ⟨(({ U with heap := s₂.heap, slotsUsed := s₂.slotsUsed } : State).setVm s₂.vm), Ls ++ L, c0 + mc, s0 + ms⟩,
      ⟨X.admits, X.cas, X.clock, X.frames, X.room, X.hears, X.method, X.code, (X.here.setHeapUsed s₂.heap s₂.slotsUsed).setVm hW'.alike, X.tail, State.WarmedH.trans X.warmed hW', X.limits, X.bytes, X.same.trans (hsame.setVm s.vm)⟩,
      ⟨g, mk, s₂, L, E, ce, rfl, rfl, hx, hce, hcv, hcl, rfl, hL, rfl, rfl⟩, ?_⟩
    show Steps p.tables e below _ (((({ U with heap := s₂.heap, slotsUsed := s₂.slotsUsed } : State).setVm s₂.vm).setTop g).pushFrame (.throwing q))
    rw [← hs₂]
    exact hsteps
end Payer
section Calls
variable {p : Program} {l : Launch} {e : Env} {R : Room} {s : State} {m : MethodId} {args : Array Value} {below : List Frame} {meth : Method} {c : Code} {T : State} {locs : List Loc} {cells slots : Nat}
theorem vx_callV (X : Stand p l e R s m args below meth c T locs cells slots) (hexec : p.tables.exec = Jvm.exec) {own C : String} {index : Nat} {y : MethodName} {bytes : ByteArray} {maxL : Nat} {ret : Option FieldType}
    (hown : s.vm.findClass own = some m.cls) (hlink : (Cond.methodLink own index y).before args s = true) (hinst : (Cond.instanceMethod y).before args s = true) (hsel : (Cond.selects C y y).before args s = true)
    (hcode : (Cond.code y bytes maxL ret).before args s = true) (hy : y.cls ≠ "java/lang/invoke/MethodHandle" ∧ y.cls ≠ "java/lang/invoke/VarHandle")
    {W9 : Nat} {Pre : Pt → Array Value → Prop} {Post : Pt → Array Value → Option Value → Pt → Prop} {PostX : Pt → Array Value → Addr → Pt → Prop} (hK : vx_Back l R p e below s args y 3 W9 Pre Post PostX)
    {b : Addr} {cellB : Cell} (hcell : T.heap[b]? = some cellB) (hobj : cellB.vm.isStatics = false) (hcls : s.vm.findClass C = some cellB.cls)
    {g : JFrame} (hg : g.method = m) (hsize : g.locals.size = c.maxLocals) {argsL rest : List Value} (hlen : ∀ sig, parseMethodDescriptor y.desc = some sig → argsL.length = sig.parameters.length)
    (hstack : g.stack = argsL.reverse ++ .ref b :: rest) (hW : 2 * g.monitorRoom + (rest.map fun v => v.category).sum ≤ W9) (hdg : decode c.code g.pc = .ok (.invokevirtual index, 3))
    (hpre : ∀ vm₁, s.WarmedH vm₁ → Pre ⟨T.setVm vm₁, locs, cells, slots⟩ (Value.ref b :: argsL).toArray) :
    (∃ (v : Option Value) (vm₁ : Vm) (B : Pt), s.WarmedH vm₁ ∧ Stand p l e R s m args below meth c B.U B.locs B.cells B.slots ∧ Post ⟨T.setVm vm₁, locs, cells, slots⟩ (Value.ref b :: argsL).toArray v B ∧
      ∀ target, Steps p.tables e below (B.U.setTop { g with pc := g.pc + 3, stack := v.toList ++ rest }) target → Steps p.tables e below (T.setTop g) target) ∨
    (∃ (q : Addr) (vm₁ : Vm) (B : Pt), s.WarmedH vm₁ ∧ Stand p l e R s m args below meth c B.U B.locs B.cells B.slots ∧ PostX ⟨T.setVm vm₁, locs, cells, slots⟩ (Value.ref b :: argsL).toArray q B ∧
      Steps p.tables e below (T.setTop g) ((B.U.setTop { g with stack := rest }).pushFrame (.throwing q))) := by
  obtain ⟨mk, methM, hnamed, hmethM, hstM, habM⟩ := Cond.instanceMethod_spec hinst
  obtain ⟨methM', cM, hmethM', -, -, -, -, -, -, hsigM⟩ := Cond.code_spec hnamed hcode
  cases hmethM.symm.trans hmethM'
  obtain ⟨c2, r2, m2, q1, q2, q3, q4, kP, hkP, hkPi⟩ := Cond.selects_spec hsel
  cases hcls.symm.trans q1
  cases (State.methodFound?_of_named hnamed hy).symm.trans q2
  cases hnamed.symm.trans q3
  have hselP : selectMethod e.platform s.vm cellB.cls mk = .method mk := by rw [Launch.admits_selectMethod X.admits]; exact q4
  obtain ⟨vm₁, X₁, hstep₁⟩ := X.invokevirtual hexec hown hlink hnamed hmethM hstM hkP hkPi hy (a := b) (cell := cellB) hcell
    (fun z h => by rw [h] at hobj; cases hobj) hselP hmethM habM hkP hkPi (g := g) hg (argsL := argsL) (rest := rest) (hlen _ hsigM) hstack hdg
  rcases hK m meth c ⟨T.setVm vm₁, locs, cells, slots⟩ { g with stack := rest } (.invokevirtual index) mk (Value.ref b :: argsL).toArray X₁ hg hsize hdg hW (X₁.named hnamed) (hpre vm₁ X₁.warmed) with ⟨v, B, X', hpost, hsteps⟩ | ⟨q, B, X', hpost, hsteps⟩
  · exact Or.inl ⟨v, vm₁, B, X₁.warmed, X', hpost, fun target h => hstep₁ _ fun acts => by rw [doInvoke_state]; exact hsteps.trans h⟩
  · exact Or.inr ⟨q, vm₁, B, X₁.warmed, X', hpost, hstep₁ _ fun acts => by rw [doInvoke_state]; exact hsteps⟩
theorem vx_callS (X : Stand p l e R s m args below meth c T locs cells slots) (hexec : p.tables.exec = Jvm.exec) {own : String} {index : Nat} {y : MethodName} {bytes : ByteArray} {maxL : Nat} {ret : Option FieldType}
    (hown : s.vm.findClass own = some m.cls) (hlink : (Cond.methodLink own index y).before args s = true) (hstat : (Cond.static y).before args s = true) (hinit : (Cond.initialized y.cls).before args s = true)
    (hcode : (Cond.code y bytes maxL ret).before args s = true) (hy : y.cls ≠ "java/lang/invoke/MethodHandle" ∧ y.cls ≠ "java/lang/invoke/VarHandle")
    {W9 : Nat} {Pre : Pt → Array Value → Prop} {Post : Pt → Array Value → Option Value → Pt → Prop} {PostX : Pt → Array Value → Addr → Pt → Prop} (hK : vx_Back l R p e below s args y 3 W9 Pre Post PostX)
    {g : JFrame} (hg : g.method = m) (hsize : g.locals.size = c.maxLocals) {argsL rest : List Value} (hlen : ∀ sig, parseMethodDescriptor y.desc = some sig → argsL.length = sig.parameters.length)
    (hstack : g.stack = argsL.reverse ++ rest) (hW : 2 * g.monitorRoom + (rest.map fun v => v.category).sum ≤ W9) (hdg : decode c.code g.pc = .ok (.invokestatic index, 3))
    (hpre : ∀ vm₁, s.WarmedH vm₁ → Pre ⟨T.setVm vm₁, locs, cells, slots⟩ argsL.toArray) :
    (∃ (v : Option Value) (vm₁ : Vm) (B : Pt), s.WarmedH vm₁ ∧ Stand p l e R s m args below meth c B.U B.locs B.cells B.slots ∧ Post ⟨T.setVm vm₁, locs, cells, slots⟩ argsL.toArray v B ∧
      ∀ target, Steps p.tables e below (B.U.setTop { g with pc := g.pc + 3, stack := v.toList ++ rest }) target → Steps p.tables e below (T.setTop g) target) ∨
    (∃ (q : Addr) (vm₁ : Vm) (B : Pt), s.WarmedH vm₁ ∧ Stand p l e R s m args below meth c B.U B.locs B.cells B.slots ∧ PostX ⟨T.setVm vm₁, locs, cells, slots⟩ argsL.toArray q B ∧
      Steps p.tables e below (T.setTop g) ((B.U.setTop { g with stack := rest }).pushFrame (.throwing q))) := by
  obtain ⟨mk, hnamed⟩ := Cond.code_named hcode
  obtain ⟨methM, cM, hmethM, -, -, -, -, -, -, hsigM⟩ := Cond.code_spec hnamed hcode
  have hstatic : methM.isStatic = true := Cond.static_spec hnamed hmethM hstat
  obtain ⟨kP, hkP, -⟩ := className_of_methodNamed hnamed
  have hinitP : kP.init = .initialized := Cond.initialized_spec (findClass_of_methodNamed hnamed) hkP hinit
  obtain ⟨vm₁, X₁, hstep₁⟩ := X.invokestatic hexec hown hlink hnamed hmethM hstatic hkP hinitP hy (g := g) hg (argsL := argsL) (rest := rest) (hlen _ hsigM) hstack hdg
  rcases hK m meth c ⟨T.setVm vm₁, locs, cells, slots⟩ { g with stack := rest } (.invokestatic index) mk argsL.toArray X₁ hg hsize hdg hW (X₁.named hnamed) (hpre vm₁ X₁.warmed) with ⟨v, B, X', hpost, hsteps⟩ | ⟨q, B, X', hpost, hsteps⟩
  · exact Or.inl ⟨v, vm₁, B, X₁.warmed, X', hpost, fun target h => hstep₁ _ fun acts => by rw [doInvoke_state]; exact hsteps.trans h⟩
  · exact Or.inr ⟨q, vm₁, B, X₁.warmed, X', hpost, hstep₁ _ fun acts => by rw [doInvoke_state]; exact hsteps⟩
end Calls
theorem vx_cls {s : State} {T : State} {vm₁ : Vm} {E : String} {k : ClassId} (hW : s.WarmedH vm₁) (h : (T.setVm vm₁).vm.findClass E = some k) : s.vm.findClass E = some k := by
  have h1 : vm₁.findClass E = some k := h
  rw [hW.alike.findClass] at h1
  exact h1
/-- the method's frame g, with q thrown over it -/
def vx_W (p : Program) (l : Launch) (e : Env) (R : Room) (s : State) (m : MethodId) (args : Array Value) (below : List Frame) (meth : Method) (c : Code) (H : Heap) (locs : List Loc) (cells slots : Nat) (Q : State → Prop) (g : JFrame) (q : Addr) : Prop :=
  ∀ T : State, T.heap = H → Stand p l e R s m args below meth c T locs cells slots → ∃ t, Steps p.tables e below ((T.setTop g).pushFrame (.throwing q)) t ∧ Q t
def vx_Run (p : Program) (l : Launch) (e : Env) (R : Room) (s : State) (m : MethodId) (args : Array Value) (below : List Frame) (meth : Method) (c : Code) (H : Heap) (locs : List Loc) (cells slots mc ms : Nat) (g : JFrame) (rest : List Value) (Qa : State → Outcome → State → Prop) (XC : String → State → State → Prop) (free : Addr → Prop) : Prop :=
  ∀ T : State, T.heap = H → Stand p l e R s m args below meth c T locs cells slots →
    (∃ (v : Option Value) (st₀ t T' : State) (L : List Loc), st₀.heap = H ∧ Stand p l e R s m args below meth c T' (locs ++ L) (cells + mc) (slots + ms) ∧ (∀ q ∈ L, free q.base) ∧ T'.heap = t.heap ∧ T'.vm = t.vm ∧ Qa st₀ (.returned v) t ∧
      Goes p e below T g T' { g with pc := g.pc + 3, stack := v.toList ++ rest }) ∨
    (∃ (q : Addr) (st₀ t T' : State) (L : List Loc) (E : String) (ce : Cell), st₀.heap = H ∧ Stand p l e R s m args below meth c T' (locs ++ L) (cells + mc) (slots + ms) ∧ (∀ z ∈ L, free z.base) ∧ T'.heap = t.heap ∧ T'.vm = t.vm ∧ XC E st₀ t ∧ t.heap[q]? = some ce ∧ ce.vm = .none ∧ s.vm.findClass E = some ce.cls ∧
      Steps p.tables e below (T.setTop g) ((T'.setTop { g with stack := rest }).pushFrame (.throwing q)))
def vx_X {S : Type} (px : S → Prop) (B : String → S → State → Prop) (A : Nat → Prop) : String → State → State → Prop := fun E st t => ∃ u : S, px u ∧ B E u t ∧ va_F A st t
section Runs
variable {p : Program} {l : Launch} {e : Env} {R : Room} {s : State} {m : MethodId} {args : Array Value} {below : List Frame} {meth : Method} {c : Code} {H : Heap} {locs : List Loc} {cells slots : Nat}
variable {y : MethodName} {bytes cc : ByteArray} {maxL nL mc ms n index : Nat} {ret : Option FieldType} {ws : List Cond} {rm : Room} {Pc : Array Value → State → Prop} {Qc : Array Value → State → Outcome → State → Prop} {XC : String → State → State → Prop} {free : Addr → Prop} {Ts : List Cond} {own C : String} {b : Addr} {As rest : List Value} {g : JFrame}
theorem vx_callBack (cb : CallB R s args own index y bytes maxL ret ws rm mc ms n) (hM : vx_Met l y ws rm Pc Qc XC mc ms free) (hbl : FrameBlind Pc) : vx_Back l R p e below s args y 3 8 (PreOf R mc ms Pc) (PostOf Qc mc ms free) (vx_Post XC mc ms free) := by
  obtain ⟨hrc, hrs, hfr, hlo, hws, hcw, -, hini, -⟩ := cb
  exact vx_back (bytes := bytes) (maxL := maxL) (ret := ret) hM hbl hrc hrs hfr hlo hws hcw (fun a' U hW => word_at hW (Or.inl (by first | rfl | simp [Cond.onTables, Cond.keeps, Cond.steady])) hini)
theorem vx_runV (S : CallFix p m c cc nL s args Ts own) (hM : vx_Met l y ws rm Pc Qc XC mc ms free) (cw : CallW R s args own C index y bytes maxL ret ws rm mc ms n) (hp : PreV s H C b Pc As)
    (hg : g.method = m) (hn : As.length = n) (hsize : g.locals.size = nL) (hstack : g.stack = As.reverse ++ .ref b :: rest) (hW : 2 * g.monitorRoom + (rest.map fun v => v.category).sum ≤ 8) (hdg : decode cc g.pc = .ok (.invokevirtual index, 3)) (hf : cells + mc ≤ R.cells ∧ slots + ms ≤ R.slots) :
    vx_Run p l e R s m args below meth c H locs cells slots mc ms g rest (Qc (Value.ref b :: As).toArray) XC free := by
  have hK : vx_Back l R p e below s args y 3 8 (PreOf R mc ms Pc) (PostOf Qc mc ms free) (vx_Post XC mc ms free) := vx_callBack cw.1 hM hp.1
  obtain ⟨⟨-, -, -, -, -, -, hcode, -, hy, hlen, hl⟩, hin, hse⟩ := cw
  obtain ⟨hx, hb, hml, ho, -⟩ := S
  obtain ⟨-, ⟨cellB, hcB, hoB, hclB⟩, hPc⟩ := hp
  intro T hT X
  rcases vx_callV X hx (C := C) (bytes := bytes) (maxL := maxL) (ret := ret) ho hl hin hse hcode hy hK (by rw [hT]; exact hcB) hoB hclB hg (hsize.trans hml.symm) (argsL := As) (rest := rest) (fun sig h => hn.trans (hlen sig h)) hstack hW (by rw [hb]; exact hdg)
    (fun vm₁ hW₁ => ⟨hf.1, hf.2, hPc (T.setVm vm₁) hT hW₁⟩) with ⟨v, vm₁, ⟨U', l2, c2, s2⟩, hW₁, X', ⟨g', mk, t, L, e1, e2, hq, h1, hL, h2, h3⟩, st⟩ | ⟨q, vm₁, ⟨U', l2, c2, s2⟩, hW₁, X', ⟨g', mk, t, L, E, ce, e1, e2, hq, hce, hcv, hcl, h1, hL, h2, h3⟩, st⟩
  · dsimp only [Pt.U, Pt.locs, Pt.cells, Pt.slots] at X' e1 e2 h1 h2 h3 st
    subst h1; subst h2; subst h3
    exact Or.inl ⟨v, (T.setVm vm₁).calling g' mk (Value.ref b :: As).toArray, t, U', L, hT, X', hL, e1, e2, hq, st⟩
  · dsimp only [Pt.U, Pt.locs, Pt.cells, Pt.slots] at X' e1 e2 h1 h2 h3 st hcl
    subst h1; subst h2; subst h3
    exact Or.inr ⟨q, (T.setVm vm₁).calling g' mk (Value.ref b :: As).toArray, t, U', L, E, ce, hT, X', hL, e1, e2, hq, hce, hcv, vx_cls hW₁ hcl, st⟩
theorem vx_runS (S : CallFix p m c cc nL s args Ts own) (hM : vx_Met l y ws rm Pc Qc XC mc ms free) (cw : CallB R s args own index y bytes maxL ret ws rm mc ms n ∧ (Cond.static y).before args s = true) (hp : PreS s H Pc As)
    (hg : g.method = m) (hn : As.length = n) (hsize : g.locals.size = nL) (hstack : g.stack = As.reverse ++ rest) (hW : 2 * g.monitorRoom + (rest.map fun v => v.category).sum ≤ 8) (hdg : decode cc g.pc = .ok (.invokestatic index, 3)) (hf : cells + mc ≤ R.cells ∧ slots + ms ≤ R.slots) :
    vx_Run p l e R s m args below meth c H locs cells slots mc ms g rest (Qc As.toArray) XC free := by
  have hK : vx_Back l R p e below s args y 3 8 (PreOf R mc ms Pc) (PostOf Qc mc ms free) (vx_Post XC mc ms free) := vx_callBack cw.1 hM hp.1
  obtain ⟨⟨-, -, -, -, -, -, hcode, hini, hy, hlen, hl⟩, hstt⟩ := cw
  obtain ⟨hx, hb, hml, ho, -⟩ := S
  intro T hT X
  rcases vx_callS X hx (bytes := bytes) (maxL := maxL) (ret := ret) ho hl hstt hini hcode hy hK hg (hsize.trans hml.symm) (argsL := As) (rest := rest) (fun sig h => hn.trans (hlen sig h)) hstack hW (by rw [hb]; exact hdg)
    (fun vm₁ hW₁ => ⟨hf.1, hf.2, hp.2 (T.setVm vm₁) hT hW₁⟩) with ⟨v, vm₁, ⟨U', l2, c2, s2⟩, hW₁, X', ⟨g', mk, t, L, e1, e2, hq, h1, hL, h2, h3⟩, st⟩ | ⟨q, vm₁, ⟨U', l2, c2, s2⟩, hW₁, X', ⟨g', mk, t, L, E, ce, e1, e2, hq, hce, hcv, hcl, h1, hL, h2, h3⟩, st⟩
  · dsimp only [Pt.U, Pt.locs, Pt.cells, Pt.slots] at X' e1 e2 h1 h2 h3 st
    subst h1; subst h2; subst h3
    exact Or.inl ⟨v, (T.setVm vm₁).calling g' mk As.toArray, t, U', L, hT, X', hL, e1, e2, hq, st⟩
  · dsimp only [Pt.U, Pt.locs, Pt.cells, Pt.slots] at X' e1 e2 h1 h2 h3 st hcl
    subst h1; subst h2; subst h3
    exact Or.inr ⟨q, (T.setVm vm₁).calling g' mk As.toArray, t, U', L, E, ce, hT, X', hL, e1, e2, hq, hce, hcv, vx_cls hW₁ hcl, st⟩
end Runs
section Rows
variable {p : Program} {l : Launch} {e : Env} {R : Room} {s : State} {m : MethodId} {args : Array Value} {below : List Frame} {meth : Method} {c : Code} {H : Heap} {locs : List Loc} {cells slots : Nat} {Q : State → Prop}
variable {mc ms : Nat} {free : Addr → Prop} {A0 A1 : Nat → Prop} {H0 : Heap} {a : Array Value} {pc : Nat} {ls : Array Slot} {st0 rest : List Value}
theorem vx_keep {st₀ t T' : State} {L : List Loc} (h0 : st₀.heap = H) (e1 : T'.heap = t.heap) (hS : va_S A0 H0 H locs) (hA : ∀ q, q < H.size → A1 q → A0 q) (hf : ∀ q, free q → A0 q) (hL : ∀ q ∈ L, free q.base) (hF : va_F A1 st₀ t) :
    H.size ≤ T'.heap.size ∧ (∀ q : Nat, q < H.size → ¬ A1 q → T'.heap[q]? = H[q]?) ∧ va_S A0 H0 T'.heap (locs ++ L) := by
  obtain ⟨hz, hk⟩ := hF
  rw [h0] at hz hk
  exact ⟨by rw [e1]; exact hz, fun q h1 h2 => by rw [e1]; exact hk q h1 h2,
    ⟨Nat.le_trans hS.1 (by rw [e1]; exact hz), fun q h1 h2 => by rw [e1, hk q (Nat.lt_of_lt_of_le h1 hS.1) (fun z => h2 (hA q (Nat.lt_of_lt_of_le h1 hS.1) z))]; exact hS.2.1 q h1 h2, fun q hq => by
      rcases List.mem_append.mp hq with h | h
      · exact hS.2.2 q h
      · exact hf _ (hL q h)⟩⟩
theorem vx_calli {S SX : Type} {post : Int32 → S → Prop} {px : SX → Prop} {B : S → State → Prop} {BX : String → SX → State → Prop} {AX : Nat → Prop} (hr : vx_Run p l e R s m args below meth c H locs cells slots mc ms (F0 m pc ls st0) rest (va_Qi post B A1 a) (vx_X px BX AX) free) (hS : va_S A0 H0 H locs) (hA : ∀ q, q < H.size → A1 q → A0 q) (hf : ∀ q, free q → A0 q) (hAX : ∀ q, q < H.size → AX q → A0 q)
    (kx : ∀ (E : String) (ce : Cell) (q9 : Addr) (u : SX) (t : State) (H1 : Heap) (locs1 : List Loc), t.heap = H1 → s.vm.Alike t.vm → px u → BX E u t → H.size ≤ H1.size → (∀ q : Nat, q < H.size → ¬ AX q → H1[q]? = H[q]?) → va_S A0 H0 H1 locs1 → H1[q9]? = some ce → ce.vm = .none → s.vm.findClass E = some ce.cls → vx_W p l e R s m args below meth c H1 locs1 (cells + mc) (slots + ms) Q (F0 m pc ls rest) q9)
    (kk : ∀ (r : Int32) (u : S) (t : State) (H1 : Heap) (locs1 : List Loc), t.heap = H1 → s.vm.Alike t.vm → post r u → B u t → H.size ≤ H1.size → (∀ q : Nat, q < H.size → ¬ A1 q → H1[q]? = H[q]?) → va_S A0 H0 H1 locs1 → W p l e R s m args below meth c H1 locs1 (cells + mc) (slots + ms) Q (F0 m (pc + 3) ls (.int r :: rest))) : W p l e R s m args below meth c H locs cells slots Q (F0 m pc ls st0) := by
  intro T hT X
  rcases hr T hT X with ⟨v, st₀, t, T', L, h0, X', hL, e1, e2, ⟨⟨r, u, hv, hp, hb⟩, hF⟩, st⟩ | ⟨q, st₀, t, T', L, E, ce, h0, X', hL, e1, e2, ⟨u, hp, hb, hF⟩, hce, hcv, hcl, st⟩
  · cases hv
    obtain ⟨k1, k2, k3⟩ := vx_keep h0 e1 hS hA hf hL hF
    obtain ⟨t2, a1, b1⟩ := kk r u t T'.heap (locs ++ L) e1.symm (by rw [← e2]; exact X'.warmed.alike) hp hb k1 k2 k3 T' rfl X'
    exact ⟨t2, st t2 a1, b1⟩
  · obtain ⟨k1, k2, k3⟩ := vx_keep h0 e1 hS hAX hf hL hF
    obtain ⟨t2, a1, b1⟩ := kx E ce q u t T'.heap (locs ++ L) e1.symm (by rw [← e2]; exact X'.warmed.alike) hp hb k1 k2 k3 (by rw [e1]; exact hce) hcv hcl T' rfl X'
    exact ⟨t2, st.trans a1, b1⟩
theorem vx_calll {S SX : Type} {post : Int64 → S → Prop} {px : SX → Prop} {B : S → State → Prop} {BX : String → SX → State → Prop} {AX : Nat → Prop} (hr : vx_Run p l e R s m args below meth c H locs cells slots mc ms (F0 m pc ls st0) rest (va_Ql post B A1 a) (vx_X px BX AX) free) (hS : va_S A0 H0 H locs) (hA : ∀ q, q < H.size → A1 q → A0 q) (hf : ∀ q, free q → A0 q) (hAX : ∀ q, q < H.size → AX q → A0 q)
    (kx : ∀ (E : String) (ce : Cell) (q9 : Addr) (u : SX) (t : State) (H1 : Heap) (locs1 : List Loc), t.heap = H1 → s.vm.Alike t.vm → px u → BX E u t → H.size ≤ H1.size → (∀ q : Nat, q < H.size → ¬ AX q → H1[q]? = H[q]?) → va_S A0 H0 H1 locs1 → H1[q9]? = some ce → ce.vm = .none → s.vm.findClass E = some ce.cls → vx_W p l e R s m args below meth c H1 locs1 (cells + mc) (slots + ms) Q (F0 m pc ls rest) q9)
    (kk : ∀ (r : Int64) (u : S) (t : State) (H1 : Heap) (locs1 : List Loc), t.heap = H1 → s.vm.Alike t.vm → post r u → B u t → H.size ≤ H1.size → (∀ q : Nat, q < H.size → ¬ A1 q → H1[q]? = H[q]?) → va_S A0 H0 H1 locs1 → W p l e R s m args below meth c H1 locs1 (cells + mc) (slots + ms) Q (F0 m (pc + 3) ls (.long r :: rest))) : W p l e R s m args below meth c H locs cells slots Q (F0 m pc ls st0) := by
  intro T hT X
  rcases hr T hT X with ⟨v, st₀, t, T', L, h0, X', hL, e1, e2, ⟨⟨r, u, hv, hp, hb⟩, hF⟩, st⟩ | ⟨q, st₀, t, T', L, E, ce, h0, X', hL, e1, e2, ⟨u, hp, hb, hF⟩, hce, hcv, hcl, st⟩
  · cases hv
    obtain ⟨k1, k2, k3⟩ := vx_keep h0 e1 hS hA hf hL hF
    obtain ⟨t2, a1, b1⟩ := kk r u t T'.heap (locs ++ L) e1.symm (by rw [← e2]; exact X'.warmed.alike) hp hb k1 k2 k3 T' rfl X'
    exact ⟨t2, st t2 a1, b1⟩
  · obtain ⟨k1, k2, k3⟩ := vx_keep h0 e1 hS hAX hf hL hF
    obtain ⟨t2, a1, b1⟩ := kx E ce q u t T'.heap (locs ++ L) e1.symm (by rw [← e2]; exact X'.warmed.alike) hp hb k1 k2 k3 (by rw [e1]; exact hce) hcv hcl T' rfl X'
    exact ⟨t2, st.trans a1, b1⟩
theorem vx_callf {S SX : Type} {post : UInt32 → S → Prop} {px : SX → Prop} {B : S → State → Prop} {BX : String → SX → State → Prop} {AX : Nat → Prop} (hr : vx_Run p l e R s m args below meth c H locs cells slots mc ms (F0 m pc ls st0) rest (va_Qf post B A1 a) (vx_X px BX AX) free) (hS : va_S A0 H0 H locs) (hA : ∀ q, q < H.size → A1 q → A0 q) (hf : ∀ q, free q → A0 q) (hAX : ∀ q, q < H.size → AX q → A0 q)
    (kx : ∀ (E : String) (ce : Cell) (q9 : Addr) (u : SX) (t : State) (H1 : Heap) (locs1 : List Loc), t.heap = H1 → s.vm.Alike t.vm → px u → BX E u t → H.size ≤ H1.size → (∀ q : Nat, q < H.size → ¬ AX q → H1[q]? = H[q]?) → va_S A0 H0 H1 locs1 → H1[q9]? = some ce → ce.vm = .none → s.vm.findClass E = some ce.cls → vx_W p l e R s m args below meth c H1 locs1 (cells + mc) (slots + ms) Q (F0 m pc ls rest) q9)
    (kk : ∀ (r : UInt32) (u : S) (t : State) (H1 : Heap) (locs1 : List Loc), t.heap = H1 → s.vm.Alike t.vm → post r u → B u t → H.size ≤ H1.size → (∀ q : Nat, q < H.size → ¬ A1 q → H1[q]? = H[q]?) → va_S A0 H0 H1 locs1 → W p l e R s m args below meth c H1 locs1 (cells + mc) (slots + ms) Q (F0 m (pc + 3) ls (.float r :: rest))) : W p l e R s m args below meth c H locs cells slots Q (F0 m pc ls st0) := by
  intro T hT X
  rcases hr T hT X with ⟨v, st₀, t, T', L, h0, X', hL, e1, e2, ⟨⟨r, u, hv, hp, hb⟩, hF⟩, st⟩ | ⟨q, st₀, t, T', L, E, ce, h0, X', hL, e1, e2, ⟨u, hp, hb, hF⟩, hce, hcv, hcl, st⟩
  · cases hv
    obtain ⟨k1, k2, k3⟩ := vx_keep h0 e1 hS hA hf hL hF
    obtain ⟨t2, a1, b1⟩ := kk r u t T'.heap (locs ++ L) e1.symm (by rw [← e2]; exact X'.warmed.alike) hp hb k1 k2 k3 T' rfl X'
    exact ⟨t2, st t2 a1, b1⟩
  · obtain ⟨k1, k2, k3⟩ := vx_keep h0 e1 hS hAX hf hL hF
    obtain ⟨t2, a1, b1⟩ := kx E ce q u t T'.heap (locs ++ L) e1.symm (by rw [← e2]; exact X'.warmed.alike) hp hb k1 k2 k3 (by rw [e1]; exact hce) hcv hcl T' rfl X'
    exact ⟨t2, st.trans a1, b1⟩
theorem vx_calld {S SX : Type} {post : UInt64 → S → Prop} {px : SX → Prop} {B : S → State → Prop} {BX : String → SX → State → Prop} {AX : Nat → Prop} (hr : vx_Run p l e R s m args below meth c H locs cells slots mc ms (F0 m pc ls st0) rest (va_Qd post B A1 a) (vx_X px BX AX) free) (hS : va_S A0 H0 H locs) (hA : ∀ q, q < H.size → A1 q → A0 q) (hf : ∀ q, free q → A0 q) (hAX : ∀ q, q < H.size → AX q → A0 q)
    (kx : ∀ (E : String) (ce : Cell) (q9 : Addr) (u : SX) (t : State) (H1 : Heap) (locs1 : List Loc), t.heap = H1 → s.vm.Alike t.vm → px u → BX E u t → H.size ≤ H1.size → (∀ q : Nat, q < H.size → ¬ AX q → H1[q]? = H[q]?) → va_S A0 H0 H1 locs1 → H1[q9]? = some ce → ce.vm = .none → s.vm.findClass E = some ce.cls → vx_W p l e R s m args below meth c H1 locs1 (cells + mc) (slots + ms) Q (F0 m pc ls rest) q9)
    (kk : ∀ (r : UInt64) (u : S) (t : State) (H1 : Heap) (locs1 : List Loc), t.heap = H1 → s.vm.Alike t.vm → post r u → B u t → H.size ≤ H1.size → (∀ q : Nat, q < H.size → ¬ A1 q → H1[q]? = H[q]?) → va_S A0 H0 H1 locs1 → W p l e R s m args below meth c H1 locs1 (cells + mc) (slots + ms) Q (F0 m (pc + 3) ls (.double r :: rest))) : W p l e R s m args below meth c H locs cells slots Q (F0 m pc ls st0) := by
  intro T hT X
  rcases hr T hT X with ⟨v, st₀, t, T', L, h0, X', hL, e1, e2, ⟨⟨r, u, hv, hp, hb⟩, hF⟩, st⟩ | ⟨q, st₀, t, T', L, E, ce, h0, X', hL, e1, e2, ⟨u, hp, hb, hF⟩, hce, hcv, hcl, st⟩
  · cases hv
    obtain ⟨k1, k2, k3⟩ := vx_keep h0 e1 hS hA hf hL hF
    obtain ⟨t2, a1, b1⟩ := kk r u t T'.heap (locs ++ L) e1.symm (by rw [← e2]; exact X'.warmed.alike) hp hb k1 k2 k3 T' rfl X'
    exact ⟨t2, st t2 a1, b1⟩
  · obtain ⟨k1, k2, k3⟩ := vx_keep h0 e1 hS hAX hf hL hF
    obtain ⟨t2, a1, b1⟩ := kx E ce q u t T'.heap (locs ++ L) e1.symm (by rw [← e2]; exact X'.warmed.alike) hp hb k1 k2 k3 (by rw [e1]; exact hce) hcv hcl T' rfl X'
    exact ⟨t2, st.trans a1, b1⟩
theorem vx_callv {S SX : Type} {post : S → Prop} {px : SX → Prop} {B : S → State → Prop} {BX : String → SX → State → Prop} {AX : Nat → Prop} (hr : vx_Run p l e R s m args below meth c H locs cells slots mc ms (F0 m pc ls st0) rest (va_Qv post B A1 a) (vx_X px BX AX) free) (hS : va_S A0 H0 H locs) (hA : ∀ q, q < H.size → A1 q → A0 q) (hf : ∀ q, free q → A0 q) (hAX : ∀ q, q < H.size → AX q → A0 q)
    (kx : ∀ (E : String) (ce : Cell) (q9 : Addr) (u : SX) (t : State) (H1 : Heap) (locs1 : List Loc), t.heap = H1 → s.vm.Alike t.vm → px u → BX E u t → H.size ≤ H1.size → (∀ q : Nat, q < H.size → ¬ AX q → H1[q]? = H[q]?) → va_S A0 H0 H1 locs1 → H1[q9]? = some ce → ce.vm = .none → s.vm.findClass E = some ce.cls → vx_W p l e R s m args below meth c H1 locs1 (cells + mc) (slots + ms) Q (F0 m pc ls rest) q9)
    (kk : ∀ (u : S) (t : State) (H1 : Heap) (locs1 : List Loc), t.heap = H1 → s.vm.Alike t.vm → post u → B u t → H.size ≤ H1.size → (∀ q : Nat, q < H.size → ¬ A1 q → H1[q]? = H[q]?) → va_S A0 H0 H1 locs1 → W p l e R s m args below meth c H1 locs1 (cells + mc) (slots + ms) Q (F0 m (pc + 3) ls (rest))) : W p l e R s m args below meth c H locs cells slots Q (F0 m pc ls st0) := by
  intro T hT X
  rcases hr T hT X with ⟨v, st₀, t, T', L, h0, X', hL, e1, e2, ⟨⟨u, hv, hp, hb⟩, hF⟩, st⟩ | ⟨q, st₀, t, T', L, E, ce, h0, X', hL, e1, e2, ⟨u, hp, hb, hF⟩, hce, hcv, hcl, st⟩
  · cases hv
    obtain ⟨k1, k2, k3⟩ := vx_keep h0 e1 hS hA hf hL hF
    obtain ⟨t2, a1, b1⟩ := kk u t T'.heap (locs ++ L) e1.symm (by rw [← e2]; exact X'.warmed.alike) hp hb k1 k2 k3 T' rfl X'
    exact ⟨t2, st t2 a1, b1⟩
  · obtain ⟨k1, k2, k3⟩ := vx_keep h0 e1 hS hAX hf hL hF
    obtain ⟨t2, a1, b1⟩ := kx E ce q u t T'.heap (locs ++ L) e1.symm (by rw [← e2]; exact X'.warmed.alike) hp hb k1 k2 k3 (by rw [e1]; exact hce) hcv hcl T' rfl X'
    exact ⟨t2, st.trans a1, b1⟩
/-- caught by the row x of this method's table; the rows ahead don't take it -/
theorem vx_catch {own name : String} {E : String} {ce : Cell} {q : Addr} (hown : s.vm.findClass own = some m.cls) (pre : List ExceptionTableEntry) (x : ExceptionTableEntry) (suf : List ExceptionTableEntry) (hsplit : c.exceptionTable.toList = pre ++ x :: suf)
    (hpass : ∀ z ∈ pre, covers z pc = false ∨ (z.catchType ≠ 0 ∧ ∃ nm : String, (Cond.classLink own z.catchType nm).before args s = true ∧ va_Nc E nm s)) (hx : covers x pc = true) (h0 : x.catchType ≠ 0)
    (hlink : (Cond.classLink own x.catchType name).before args s = true) (hcast : (Cond.castable E name).before args s = true) (hcell : H[q]? = some ce) (hv : ce.vm = .none) (hcl : s.vm.findClass E = some ce.cls)
    (kk : W p l e R s m args below meth c H locs cells slots Q (F0 m x.handlerPc ls [.ref q])) : vx_W p l e R s m args below meth c H locs cells slots Q (F0 m pc ls rest) q := by
  intro T hT X
  have hpl : e.platform.magicAccessors = ({} : Platform).magicAccessors := by rw [X.admits.platform]
  obtain ⟨c3, c4, hc3, hc4, hasg⟩ := Cond.castable_spec hcast
  cases Option.some.inj (hc3.symm.trans hcl)
  obtain ⟨c5, hc5, hcl5⟩ := Cond.classLink_spec hown hlink e.platform hpl
  cases Option.some.inj (hc4.symm.trans hc5)
  obtain ⟨vm', X', st⟩ := X.thenCaughtThrough q (g := F0 m pc ls rest) rfl (Steps.refl _) (by rw [hT]; exact hcell) (by rw [hv]; rfl) (by obtain ⟨k9, h9, -⟩ := Vm.findClass_spec hcl; exact ⟨k9, h9⟩) pre x suf hsplit
    (fun z hz => by
      rcases hpass z hz with h | ⟨hz0, nm, hl1, hn1⟩
      · exact Or.inl h
      · obtain ⟨c6, hc6, hcl6⟩ := Cond.classLink_spec hown hl1 e.platform hpl
        obtain ⟨a8, b8, h1, h2, h3⟩ := hn1
        cases Option.some.inj (h1.symm.trans hcl)
        cases Option.some.inj (h2.symm.trans hc6)
        exact Or.inr ⟨hz0, _, hcl6, h3⟩) hx (Or.inr ⟨h0, c4, hcl5, hasg⟩)
  obtain ⟨t, a1, b1⟩ := kk (T.setVm vm') hT X'
  exact ⟨t, st.trans a1, b1⟩
end Rows
section Ends
variable {p : Program} {l : Launch} {e : Env} {R : Room} {s : State} {m : MethodId} {args : Array Value} {below : List Frame} {meth : Method} {c : Code} {H : Heap} {locs : List Loc} {cells slots : Nat} {Q : State → Prop}
variable {mc ms : Nat} {free : Addr → Prop} {A0 A1 : Nat → Prop} {H0 : Heap} {a : Array Value} {ls : Array Slot} {st0 rest : List Value}
variable {Qc : Array Value → State → Outcome → State → Prop} {XC : String → State → State → Prop}
/-- what a body that may throw owes at its end -/
def vx_MQ (below : List Frame) (Qc : Array Value → State → Outcome → State → Prop) (XC : String → State → State → Prop) (a : Array Value) (s : State) (mc ms : Nat) (free : Addr → Prop) : State → Prop := fun t =>
  ∃ o, t.status = .running ∧ Ended t below o ∧ vx_Q Qc XC mc ms free a s o t
theorem vx_ret {g : JFrame} {mc ms : Nat} (k : W p l e R s m args below meth c H locs cells slots (MQ below Qc args s mc ms free) g) : W p l e R s m args below meth c H locs cells slots (vx_MQ below Qc XC args s mc ms free) g := by
  intro T hT X
  obtain ⟨t, a1, o, b1, b2, b3, b4⟩ := k T hT X
  exact ⟨t, a1, o, b1, b2, Or.inl ⟨b3, b4⟩⟩
/-- not caught here: it goes on to the caller -/
theorem vx_widen {g : JFrame} {q : Addr} {k n : Nat} (h1 : cells ≤ k) (h2 : slots ≤ n) (kk : vx_W p l e R s m args below meth c H locs k n Q g q) : vx_W p l e R s m args below meth c H locs cells slots Q g q := fun T hT X => kk T hT (stand_widen X h1 h2)
theorem vx_out {pc : Nat} {E : String} {ce : Cell} {q : Addr} {mc ms : Nat} (hout : ∀ x ∈ c.exceptionTable.toList, covers x pc = false) (hlocks : meth.locks = false) (hcell : H[q]? = some ce) (hv : ce.vm = .none) (hcl : s.vm.findClass E = some ce.cls)
    (hx : ∀ t : State, t.heap = H → s.vm.Alike t.vm → XC E s t) (hf : ∀ z ∈ locs, free z.base) (hc : cells ≤ mc) (hs : slots ≤ ms) :
    vx_W p l e R s m args below meth c H locs cells slots (vx_MQ below Qc XC args s mc ms free) (F0 m pc ls rest) q := by
  intro T hT X
  obtain ⟨st1, hrun, hend, hW, hsm⟩ := X.leaveThrown q (g := F0 m pc ls rest) rfl rfl rfl hout hlocks
  have hcell9 : (T.setFrames (.throwing q :: below)).heap[q]? = some ce := by
    show T.heap[q]? = some ce
    rw [hT]; exact hcell
  exact ⟨_, st1, .threw q, hrun, hend, Or.inr ⟨q, rfl, E, ce, locs, hx _ hT hW.alike, hcell9, hv, hcl, hW, hsm.mono hc hs, hf⟩⟩
theorem vx_frame {U : State} {k n : Nat} (h : s.sameButNew ({ U with vm := s.vm } : State) locs k n) : s.heap.size ≤ U.heap.size ∧ ∀ q : Nat, q < s.heap.size → (∀ z ∈ locs, z.base ≠ q) → U.heap[q]? = s.heap[q]? := by
  obtain ⟨-, h2, -, -, -, h6⟩ := h
  refine ⟨h2, fun q hq hz => ?_⟩
  obtain ⟨c9, e1, e2, e3, e4⟩ := h6 q _ (Array.getElem?_eq_getElem hq)
  have hs : c9.slots = (s.heap[q]).slots := Array.ext_getElem? fun i => e4 i fun hm => hz _ hm rfl
  have h9 : c9 = s.heap[q] := by
    rw [hs] at e2
    exact e2
  have e5 : U.heap[q]? = some c9 := e1
  rw [e5, h9, Array.getElem?_eq_getElem hq]
/-- the words of a throw but the four that speak of the heap -/
def vx_no (w : Cond) : Bool := decide (w ≠ .isRef (.static Bundle.tN "UNASSIGNED_STACK" Bundle.steD)) && decide (w ≠ .isRef (.static Bundle.tN "SUPPRESSED_SENTINEL" Bundle.listD)) && decide (w ≠ .laysStatic Bundle.tN "UNASSIGNED_STACK" Bundle.steD) && decide (w ≠ .laysStatic Bundle.tN "SUPPRESSED_SENTINEL" Bundle.listD)
def vx_at0 (own : String) (ic : Nat) (X : String) (names : List String) : List Cond := (Bundle.ownAtoms0 own ic X names).filter vx_no
def vx_atS (own : String) (ic : Nat) (X : String) (names : List String) : List Cond := (Bundle.ownAtoms own ic X names).filter vx_no
/-- a word that the tables alone decide, or a good one -/
def vx_ot (w : Cond) : Bool := w.onTables || goodWord w
theorem vx_ot_at {args a' : Array Value} {s U : State} {w : Cond} (hW : s.WarmedH U.vm) (hvm : s.vm = U.vm) (hg : vx_ot w = true) (h : w.before args s = true) : w.before a' U = true := by
  simp only [vx_ot, Bool.or_eq_true] at hg
  rcases hg with hg | hg
  · exact va_tabs hg hvm h
  · exact word_at hW (good_of_word hg) h
/-- a list's words: the good ones out of the method's own list, the others by premises of their own -/
theorem vx_hat {args : Array Value} {s : State} {L B : List Cond} (h1 : ∀ w ∈ L.filter goodWord, w.before args s = true) (h2 : ∀ w ∈ L.filter (fun w => !goodWord w), w ∈ B) (h3 : ∀ w ∈ B, w.before args s = true) : ∀ w ∈ L, w.before args s = true := by
  intro w hw
  by_cases g : goodWord w = true
  · exact h1 w (List.mem_filter.mpr ⟨hw, g⟩)
  · refine h3 w (h2 w (List.mem_filter.mpr ⟨hw, ?_⟩))
    show (!goodWord w) = true
    cases hgw : goodWord w
    · rfl
    · exact absurd hgw g
theorem vx_c {args : Array Value} {s : State} {w : Cond} {B : List Cond} (h : w.before args s = true) (t : ∀ w ∈ B, w.before args s = true) : ∀ w' ∈ w :: B, w'.before args s = true := fun w' h' => (List.mem_cons.mp h').elim (fun e => by rw [e]; exact h) (t w')
theorem vx_n {args : Array Value} {s : State} : ∀ w ∈ ([] : List Cond), w.before args s = true := fun _ h => nomatch h
theorem vx_own {args : Array Value} {s : State} {L : List Cond} (h1 : ∀ w ∈ L.filter vx_no, w.before args s = true)
    (hU : (Cond.isRef (.static Bundle.tN "UNASSIGNED_STACK" Bundle.steD)).before args s = true) (hN : (Cond.isRef (.static Bundle.tN "SUPPRESSED_SENTINEL" Bundle.listD)).before args s = true)
    (lU : (Cond.laysStatic Bundle.tN "UNASSIGNED_STACK" Bundle.steD).before args s = true) (lN : (Cond.laysStatic Bundle.tN "SUPPRESSED_SENTINEL" Bundle.listD).before args s = true) : ∀ w ∈ L, w.before args s = true := by
  intro w hw
  by_cases e1 : w = .isRef (.static Bundle.tN "UNASSIGNED_STACK" Bundle.steD)
  · rw [e1]; exact hU
  · by_cases e2 : w = .isRef (.static Bundle.tN "SUPPRESSED_SENTINEL" Bundle.listD)
    · rw [e2]; exact hN
    · by_cases e3 : w = .laysStatic Bundle.tN "UNASSIGNED_STACK" Bundle.steD
      · rw [e3]; exact lU
      · by_cases e4 : w = .laysStatic Bundle.tN "SUPPRESSED_SENTINEL" Bundle.listD
        · rw [e4]; exact lN
        · exact h1 w (List.mem_filter.mpr ⟨hw, by unfold vx_no; rw [decide_eq_true e1, decide_eq_true e2, decide_eq_true e3, decide_eq_true e4]; rfl⟩)
/-- where a static field lies, its class's statics cell in H -/
def vx_L (C n d : String) (A : Nat → Prop) (U : State) (H : Heap) : Prop := ∃ (c : ClassId) (k : Class) (i : Nat) (f : Field) (a : Nat) (cell : Cell), U.vm.findClass C = some c ∧ U.fieldFound? C n d = some (c, k, i, f) ∧ f.isStatic = true ∧ k.statics = some a ∧ H[a]? = some cell ∧ cell.vm.isStatics = true ∧ cell.cls = c ∧ f.slot < cell.slots.size ∧ k.staticTypes[f.slot]? = some f.type ∧ ¬ A a
theorem vx_L.moved {C n d : String} {A : Nat → Prop} {u U : State} {H : Heap} (hvm : u.vm.Alike U.vm) (h : vx_L C n d A u H) : vx_L C n d A U H := by
  obtain ⟨c, k, i, f, a, cell, h1, h2, h3, h4, h5, h6, h7, h8, h9, h10⟩ := h
  obtain ⟨k', hi', he⟩ := State.fieldFound?_setVm hvm h2
  exact ⟨c, k', i, f, a, cell, by rw [hvm.findClass]; exact h1, hi', h3, by rw [he]; exact h4, h5, h6, h7, h8, by rw [he]; exact h9, h10⟩
theorem vx_L.kept {C n d : String} {A : Nat → Prop} {U : State} {H H1 : Heap} (h : vx_L C n d A U H) (hq : ∀ a : Nat, a < H.size → ¬ A a → H1[a]? = H[a]?) : vx_L C n d A U H1 := by
  obtain ⟨c, k, i, f, a, cell, h1, h2, h3, h4, h5, h6, h7, h8, h9, h10⟩ := h
  exact ⟨c, k, i, f, a, cell, h1, h2, h3, h4, by rw [hq a (Array.getElem?_eq_some_iff.mp h5).1 h10]; exact h5, h6, h7, h8, h9, h10⟩
theorem vx_L.narrow {C n d : String} {A B : Nat → Prop} {U : State} {H : Heap} (h : vx_L C n d A U H) (hAB : ∀ q, B q → A q) : vx_L C n d B U H := by
  obtain ⟨c, k, i, f, a, cell, h1, h2, h3, h4, h5, h6, h7, h8, h9, h10⟩ := h
  exact ⟨c, k, i, f, a, cell, h1, h2, h3, h4, h5, h6, h7, h8, h9, fun z => h10 (hAB _ z)⟩
theorem vx_L.word {C n d : String} {A : Nat → Prop} {s : State} {args : Array Value} (h : vx_L C n d A s s.heap) : (Cond.laysStatic C n d).before args s = true := by
  obtain ⟨c, k, i, f, a, cell, h1, h2, h3, h4, h5, h6, h7, h8, h9, -⟩ := h
  show (Cond.laysStatic C n d).holds args s none s [] = true
  exact Cond.laysStatic_of h1 h2 h3 h4 h5 h6 h7 h8 h9
/-- .. and what it holds: null or some reference -/
def vx_Zq (C n d : String) (A : Nat → Prop) (U : State) (H : Heap) : Prop := va_Zq C n d A U H ∧ vx_L C n d A U H
theorem vx_Zq.moved {C n d : String} {A : Nat → Prop} {u U : State} {H : Heap} (hvm : u.vm.Alike U.vm) (h : vx_Zq C n d A u H) : vx_Zq C n d A U H := ⟨va_Zq.moved hvm h.1, vx_L.moved hvm h.2⟩
theorem vx_Zq.kept {C n d : String} {A : Nat → Prop} {U : State} {H H1 : Heap} (h : vx_Zq C n d A U H) (hq : ∀ a : Nat, a < H.size → ¬ A a → H1[a]? = H[a]?) : vx_Zq C n d A U H1 := ⟨va_Zq.kept h.1 hq, vx_L.kept h.2 hq⟩
theorem vx_Zq.narrow {C n d : String} {A B : Nat → Prop} {U : State} {H : Heap} (h : vx_Zq C n d A U H) (hAB : ∀ q, B q → A q) : vx_Zq C n d B U H := ⟨va_Zq.narrow h.1 hAB, vx_L.narrow h.2 hAB⟩
theorem vx_Zqof {args : Array Value} {s : State} {C n d : String} {A : Nat → Prop} (hl : (Cond.laysStatic C n d).before args s = true) (hini : (Cond.initialized C).before args s = true) (h : (Cond.isRef (.static C n d)).before args s = true) (hA : ∀ a : Nat, a < s.heap.size → ¬ A a) : vx_Zq C n d A s s.heap := by
  refine ⟨va_Zqof hl hini h hA, ?_⟩
  obtain ⟨c, k, i, f, a, cell, h1, h2, h3, h4, h5, h6, h7, h8, h9⟩ := Cond.laysStatic_spec hl
  exact ⟨c, k, i, f, a, cell, h1, h2, h3, h4, h5, h6, h7, h8, h9, hA a (Array.getElem?_eq_some_iff.mp h5).1⟩
theorem vx_isRef {C n d : String} {v : Value} {A : Nat → Prop} {s : State} {args : Array Value} (h : va_Z C n d v A s s.heap) (hv : v.isRef = true) : (Cond.isRef (.static C n d)).before args s = true := by
  obtain ⟨cf, kf, fi, f, a, cell, h1, h2, h3, h4, h5, h6, h7, -⟩ := h
  have he : (Term.static C n d).eval args s none [] s = some v := by
    simp [Term.eval, State.fieldNamed?, h1, h2, h4, h5, h6, h7]
  simp only [Cond.before, Cond.holds, Cond.value, he]
  cases v <;> simp_all [Value.isRef]
theorem vx_isRefq {C n d : String} {A : Nat → Prop} {s : State} {args : Array Value} (h : va_Zq C n d A s s.heap) : (Cond.isRef (.static C n d)).before args s = true := by
  rcases h with h | ⟨t, h⟩
  · exact vx_isRef h rfl
  · exact vx_isRef h rfl
/-- the same frame, seen from here: as if the method were called anew in this heap -/
theorem vx_rebase {T : State} (X : Stand p l e R s m args below meth c T locs cells slots) {R' : Room} (hf : R'.frames ≤ R.frames) (hl : R'.locals ≤ R.locals) (hc : cells + R'.cells ≤ R.cells) (hs : slots + R'.slots ≤ R.slots) :
    Stand p l e R' ((T.setVm s.vm).setFrames (.invoking m args :: below)) m args below meth c T [] 0 0 := by
  have htop : (T.setVm s.vm).topJava?.isSome := X.here.top
  have hF : ((T.setVm s.vm).setFrames (.invoking m args :: below)).frames = .invoking m args :: below := State.frames_setFrames _ (State.cur_lt_of_top htop)
  obtain ⟨g₀, hg0⟩ := Option.isSome_iff_exists.mp htop
  obtain ⟨r, hr⟩ := State.topJava?_eq_some.mp hg0
  have hl9 : e.platform.stackLimits (T.setVm s.vm).me = e.platform.stackLimits s.me := X.limits
  have hb9 : (T.setVm s.vm).me.stackBytes = s.me.stackBytes := X.bytes
  refine ⟨X.admits, X.cas, X.clock, hF, ?_, X.hears, X.method, X.code, X.here, X.tail, X.warmed, ?_, ?_, ?_⟩
  · have h := X.room
    have hU : ((T.setVm s.vm).setFrames (.invoking m args :: below)).localsInUse = s.localsInUse := by
      rw [State.localsInUse_invoking hF (meth := meth) (c := c) X.method X.code, State.localsInUse_invoking X.frames X.method X.code]
    simp only [State.hasRoom, Bool.and_eq_true, decide_eq_true_eq] at h ⊢
    obtain ⟨⟨⟨⟨h1, h2, h3, h4, h5, h6⟩, h7⟩, h8⟩, h9⟩ := h
    rw [X.frames, List.length_cons] at h2 h3
    have q1 := X.heapSize
    have q2 := X.used
    simp only [hF, hU, List.length_cons, State.stackLimits_setFrames, State.stackBytes_setFrames, hl9, hb9]
    refine ⟨⟨⟨⟨by omega, by omega, by omega, by omega, by omega, h6⟩, ?_⟩, ?_⟩, X.book⟩
    · show T.heap.size + R'.cells ≤ e.platform.maxCells
      omega
    · show T.slotsUsed + R'.slots ≤ e.platform.maxSlots
      omega
  · rw [State.stackLimits_setFrames]; rfl
  · rw [State.stackBytes_setFrames]; rfl
  · refine ⟨?_, Nat.le_refl _, Nat.le_refl _, ?_, ?_, fun a c9 h9 => ⟨c9, h9, rfl, rfl, fun _ _ => rfl⟩⟩
    · obtain ⟨t, ht, -⟩ := State.frames_cons hr
      show T.setVm s.vm = { ((T.setVm s.vm).setFrames (.invoking m args :: below)).setFrames (T.setVm s.vm).frames with heap := T.heap, slotsUsed := T.slotsUsed }
      rw [State.setFrames_setFrames, State.setFrames_self ht]
      rfl
    · show T.slotsUsed = T.slotsUsed + ((T.heap.toList.drop T.heap.size).map (·.slots.size)).sum
      rw [List.drop_eq_nil_of_le (Nat.le_of_eq Array.length_toList)]
      rfl
    · show ((T.heap.toList.drop T.heap.size).map (·.slots.size)).sum ≤ 0
      rw [List.drop_eq_nil_of_le (Nat.le_of_eq Array.length_toList)]
      exact Nat.le_refl _
/-- 'throw new E()': new; dup; invokespecial; athrow -/
theorem vx_throw0 {cc : ByteArray} {pc : Nat} (hexec : p.tables.exec = Jvm.exec) (hb : c.code = cc) (hl : l.stackTraces = false) {own cls : String} {names : List String} {ik ic mc ms : Nat} {A : Nat → Prop}
    (hown : s.vm.findClass own = some m.cls) (hcls : Bundle.fit cls = true) (hnames : ∀ n ∈ names, Bundle.fit n = true)
    (hk : (Cond.classLink own ik cls).before args s = true) (hini : (Cond.initialized cls).before args s = true) (hat : ∀ w ∈ vx_at0 own ic cls names, w.before args s = true)
    (hgood : ∀ w ∈ Cond.classLink own ik cls :: Cond.initialized cls :: vx_at0 own ic cls names, vx_ot w = true)
    (hU : vx_Zq Bundle.tN "UNASSIGNED_STACK" Bundle.steD A s s.heap) (hN : vx_Zq Bundle.tN "SUPPRESSED_SENTINEL" Bundle.listD A s s.heap) (hS : va_S A s.heap H locs) (hsize : ls.size = c.maxLocals)
    (d0 : decode cc pc = .ok (.new ik, 3)) (d3 : decode cc (pc + 3) = .ok (.dup, 1)) (d4 : decode cc (pc + 4) = .ok (.invokespecial ic, 3)) (d7 : decode cc (pc + 7) = .ok (.athrow, 1))
    (hout : ∀ x ∈ c.exceptionTable.toList, covers x (pc + 7) = false)
    (hRframes : names.length + 3 < R.frames) (hRlocals : (rest.map fun v => v.category).sum + (13 * (names.length + 1) + 42) ≤ R.locals) (hRcells : cells + 1 ≤ R.cells) (hRslots : slots + 6 ≤ R.slots) (hlocks : meth.locks = false)
    (hx : ∀ t : State, s.vm.Alike t.vm → H.size ≤ t.heap.size → (∀ q : Nat, q < H.size → t.heap[q]? = H[q]?) → XC cls s t)
    (hf : ∀ z ∈ locs, free z.base) (hc : cells + 1 ≤ mc) (hs : slots + 6 ≤ ms) :
    W p l e R s m args below meth c H locs cells slots (vx_MQ below Qc XC args s mc ms free) (F0 m pc ls rest) := by
  intro T hT X
  have htr : e.platform.stackTraces = false := (show e.platform.stackTraces = l.stackTraces by rw [X.admits.platform]).trans hl
  have Y := vx_rebase X (R' := { frames := R.frames, locals := R.locals, cells := 1, slots := 6 }) (Nat.le_refl _) (Nat.le_refl _) hRcells hRslots
  obtain ⟨s', hA⟩ : ∃ z, z = (T.setVm s.vm).setFrames (.invoking m args :: below) := ⟨_, rfl⟩
  rw [← hA] at Y
  have hvm : s'.vm = s.vm := by rw [hA]; rfl
  have hhp : s'.heap = H := by rw [hA]; exact hT
  have hW0 : s.WarmedH s'.vm := by rw [hvm]; exact State.WarmedH.refl s
  have hat' : ∀ w ∈ vx_at0 own ic cls names, w.before args s' = true := fun w hw => vx_ot_at hW0 hvm.symm (hgood w (List.mem_cons_of_mem _ (List.mem_cons_of_mem _ hw))) (hat w hw)
  have hk' : (Cond.classLink own ik cls).before args s' = true := vx_ot_at hW0 hvm.symm (hgood _ List.mem_cons_self) hk
  have hini' : (Cond.initialized cls).before args s' = true := vx_ot_at hW0 hvm.symm (hgood _ (List.mem_cons_of_mem _ List.mem_cons_self)) hini
  have hU' : vx_Zq Bundle.tN "UNASSIGNED_STACK" Bundle.steD A s' s'.heap := by rw [hhp]; exact vx_Zq.moved hW0.alike (hU.kept hS.2.1)
  have hN' : vx_Zq Bundle.tN "SUPPRESSED_SENTINEL" Bundle.listD A s' s'.heap := by rw [hhp]; exact vx_Zq.moved hW0.alike (hN.kept hS.2.1)
  have h : ∀ w ∈ Bundle.ownAtoms0 own ic cls names, w.before args s' = true := vx_own hat' (vx_isRefq hU'.1) (vx_isRefq hN'.1) hU'.2.word hN'.2.word
  have hown' : s'.vm.findClass own = some m.cls := by rw [hvm]; exact hown
  have hins : (Cond.instantiable cls 6).before args s' = true := h _ (by simp [Bundle.ownAtoms0])
  obtain ⟨vm₁, cX, kX, hfX, hkX, -, -, X₁, st1⟩ := Y.newCold hexec (own := own) (C := cls) (index := ik) (n := 6) hown' hk' hins hini'
    (g := F0 m pc ls rest) rfl (by rw [hb]; exact d0) (Nat.le_refl _) (Nat.le_refl _)
  generalize hT1 : (T.setVm vm₁).pushCell { cls := cX, slots := kX.instanceTypes.map defaultValue, vm := .none } = T1 at X₁ st1
  have hcat : (Value.ref T.heap.size).category = 1 := rfl
  have hcellA : T1.heap[T.heap.size]? = some (freshCell cX kX) := by rw [← hT1]; exact State.heap_pushCell_size _ _
  have d3' : decode c.code (pc + 3) = .ok (.dup, 1) := by rw [hb]; exact d3
  obtain ⟨U, hsteps, hrun, hend, hW, hsame, ce, hce, hO⟩ := X₁.ctorThrow0 hexec htr (own := own) (cls := cls) (names := names) (ic := ic) hown' hcls hnames h (fun x hx => nomatch hx) hfX hkX hcellA (by rw [hhp, hT]; exact Nat.le_refl _)
    (g := { method := m, pc := pc + 4, locals := ls, stack := .ref T.heap.size :: .ref T.heap.size :: rest, locked := none }) rfl hsize rfl rfl (rest := rest) rfl
    (by rw [hb]; exact d4) (by rw [hb]; exact d7) hout hRframes (by simp only [List.map_cons, List.sum_cons, hcat]; omega) hlocks
  obtain ⟨f1, f2⟩ := vx_frame hsame
  rw [hhp] at f1 f2
  have hWs : s.WarmedH U.vm := State.WarmedH.trans hW0 hW
  have hcl : s.vm.findClass cls = some ce.cls := by
    have h9 := hO.cls
    rw [hvm] at h9
    exact h9
  have hall : s.sameButNew ({ U with vm := s.vm } : State) locs mc ms := by
    subst hA
    obtain ⟨e1, e2⟩ := hsame
    rw [State.setFrames_setFrames] at e1
    have h2 : (T.setVm s.vm).sameButNew ({ U with vm := s.vm } : State) [] (0 + 1) (0 + 6) := ⟨e1, e2⟩
    have h3 := X.same.trans h2
    rw [List.append_nil] at h3
    exact h3.mono hc hs
  refine ⟨U, ?_, .threw T.heap.size, hrun, hend, Or.inr ⟨T.heap.size, rfl, cls, ce, locs, hx U hWs.alike f1 (fun q hq => f2 q hq (fun z hz => nomatch hz)), hce, hO.vm, hcl, hWs, hall, hf⟩⟩
  refine st1 _ ?_
  show Steps p.tables e below (T1.setTop { method := m, pc := pc + 3, locals := ls, stack := .ref T.heap.size :: rest, locked := none }) _
  jvm_step X₁.here [X₁.here.top, hexec, d3', Value.category]
  exact hsteps
/-- 'throw new E("text")': new; dup; ldc; invokespecial; athrow -/
theorem vx_throwS {cc : ByteArray} {pc : Nat} (hexec : p.tables.exec = Jvm.exec) (hb : c.code = cc) (hl : l.stackTraces = false) {own cls text : String} {names : List String} {ik is ic mc ms sa : Nat} {A : Nat → Prop}
    (hown : s.vm.findClass own = some m.cls) (hcls : Bundle.fit cls = true) (hnames : ∀ n ∈ names, Bundle.fit n = true)
    (hk : (Cond.classLink own ik cls).before args s = true) (hini : (Cond.initialized cls).before args s = true) (hstr : vk_R own is text sa s) (hat : ∀ w ∈ vx_atS own ic cls names, w.before args s = true)
    (hgood : ∀ w ∈ Cond.classLink own ik cls :: Cond.initialized cls :: vx_atS own ic cls names, vx_ot w = true)
    (hU : vx_Zq Bundle.tN "UNASSIGNED_STACK" Bundle.steD A s s.heap) (hN : vx_Zq Bundle.tN "SUPPRESSED_SENTINEL" Bundle.listD A s s.heap) (hS : va_S A s.heap H locs) (hsize : ls.size = c.maxLocals)
    (d0 : decode cc pc = .ok (.new ik, 3)) (d3 : decode cc (pc + 3) = .ok (.dup, 1)) (d4 : decode cc (pc + 4) = .ok (.ldc is, 2)) (d6 : decode cc (pc + 6) = .ok (.invokespecial ic, 3)) (d9 : decode cc (pc + 9) = .ok (.athrow, 1))
    (hout : ∀ x ∈ c.exceptionTable.toList, covers x (pc + 9) = false)
    (hRframes : names.length + 3 < R.frames) (hRlocals : (rest.map fun v => v.category).sum + (13 * (names.length + 1) + 43) ≤ R.locals) (hRcells : cells + 1 ≤ R.cells) (hRslots : slots + 6 ≤ R.slots) (hlocks : meth.locks = false)
    (hx : ∀ t : State, s.vm.Alike t.vm → H.size ≤ t.heap.size → (∀ q : Nat, q < H.size → t.heap[q]? = H[q]?) → XC cls s t)
    (hf : ∀ z ∈ locs, free z.base) (hc : cells + 1 ≤ mc) (hs : slots + 6 ≤ ms) :
    W p l e R s m args below meth c H locs cells slots (vx_MQ below Qc XC args s mc ms free) (F0 m pc ls rest) := by
  intro T hT X
  have htr : e.platform.stackTraces = false := (show e.platform.stackTraces = l.stackTraces by rw [X.admits.platform]).trans hl
  have Y := vx_rebase X (R' := { frames := R.frames, locals := R.locals, cells := 1, slots := 6 }) (Nat.le_refl _) (Nat.le_refl _) hRcells hRslots
  obtain ⟨s', hA⟩ : ∃ z, z = (T.setVm s.vm).setFrames (.invoking m args :: below) := ⟨_, rfl⟩
  rw [← hA] at Y
  have hvm : s'.vm = s.vm := by rw [hA]; rfl
  have hhp : s'.heap = H := by rw [hA]; exact hT
  have hW0 : s.WarmedH s'.vm := by rw [hvm]; exact State.WarmedH.refl s
  have hat' : ∀ w ∈ vx_atS own ic cls names, w.before args s' = true := fun w hw => vx_ot_at hW0 hvm.symm (hgood w (List.mem_cons_of_mem _ (List.mem_cons_of_mem _ hw))) (hat w hw)
  have hk' : (Cond.classLink own ik cls).before args s' = true := vx_ot_at hW0 hvm.symm (hgood _ List.mem_cons_self) hk
  have hini' : (Cond.initialized cls).before args s' = true := vx_ot_at hW0 hvm.symm (hgood _ (List.mem_cons_of_mem _ List.mem_cons_self)) hini
  have hU' : vx_Zq Bundle.tN "UNASSIGNED_STACK" Bundle.steD A s' s'.heap := by rw [hhp]; exact vx_Zq.moved hW0.alike (hU.kept hS.2.1)
  have hN' : vx_Zq Bundle.tN "SUPPRESSED_SENTINEL" Bundle.listD A s' s'.heap := by rw [hhp]; exact vx_Zq.moved hW0.alike (hN.kept hS.2.1)
  have h : ∀ w ∈ Bundle.ownAtoms own ic cls names, w.before args s' = true := vx_own hat' (vx_isRefq hU'.1) (vx_isRefq hN'.1) hU'.2.word hN'.2.word
  have hown' : s'.vm.findClass own = some m.cls := by rw [hvm]; exact hown
  have hins : (Cond.instantiable cls 6).before args s' = true := h _ (by simp [Bundle.ownAtoms])
  obtain ⟨vm₁, cX, kX, hfX, hkX, -, -, X₁, st1⟩ := Y.newCold hexec (own := own) (C := cls) (index := ik) (n := 6) hown' hk' hins hini'
    (g := F0 m pc ls rest) rfl (by rw [hb]; exact d0) (Nat.le_refl _) (Nat.le_refl _)
  generalize hT1 : (T.setVm vm₁).pushCell { cls := cX, slots := kX.instanceTypes.map defaultValue, vm := .none } = T1 at X₁ st1
  have hcat : (Value.ref T.heap.size).category = 1 := rfl
  have hcellA : T1.heap[T.heap.size]? = some (freshCell cX kX) := by rw [← hT1]; exact State.heap_pushCell_size _ _
  have d3' : decode c.code (pc + 3) = .ok (.dup, 1) := by rw [hb]; exact d3
  have d4' : decode c.code (pc + 4) = .ok (.ldc is, 2) := by rw [hb]; exact d4
  have hstr' : vk_R own is text sa s' := vk_R.warm hW0 hstr
  obtain ⟨U, hsteps, hrun, hend, hW, hsame, ce, hce, hO⟩ := X₁.ctorThrowS hexec htr (own := own) (cls := cls) (names := names) (ic := ic) hown' hcls hnames h (fun x hx => nomatch hx) hfX hkX hcellA (by rw [hhp, hT]; exact Nat.le_refl _) (msg := .ref sa) rfl
    (g := { method := m, pc := pc + 6, locals := ls, stack := .ref sa :: .ref T.heap.size :: .ref T.heap.size :: rest, locked := none }) rfl hsize rfl rfl (rest := rest) rfl
    (by rw [hb]; exact d6) (by rw [hb]; exact d9) hout hRframes (by simp only [List.map_cons, List.sum_cons, hcat]; omega) hlocks
  obtain ⟨f1, f2⟩ := vx_frame hsame
  rw [hhp] at f1 f2
  have hWs : s.WarmedH U.vm := State.WarmedH.trans hW0 hW
  have hcl : s.vm.findClass cls = some ce.cls := by
    have h9 := hO.cls
    rw [hvm] at h9
    exact h9
  have hall : s.sameButNew ({ U with vm := s.vm } : State) locs mc ms := by
    subst hA
    obtain ⟨e1, e2⟩ := hsame
    rw [State.setFrames_setFrames] at e1
    have h2 : (T.setVm s.vm).sameButNew ({ U with vm := s.vm } : State) [] (0 + 1) (0 + 6) := ⟨e1, e2⟩
    have h3 := X.same.trans h2
    rw [List.append_nil] at h3
    exact h3.mono hc hs
  refine ⟨U, ?_, .threw T.heap.size, hrun, hend, Or.inr ⟨T.heap.size, rfl, cls, ce, locs, hx U hWs.alike f1 (fun q hq => f2 q hq (fun z hz => nomatch hz)), hce, hO.vm, hcl, hWs, hall, hf⟩⟩
  refine st1 _ ?_
  show Steps p.tables e below (T1.setTop { method := m, pc := pc + 3, locals := ls, stack := .ref T.heap.size :: rest, locked := none }) _
  jvm_step X₁.here [X₁.here.top, hexec, d3', Value.category]
  exact X₁.ldcString hexec (own := own) (text := text) (index := is) (a := sa) hown' hstr'.1 hstr'.2
    (g := { method := m, pc := pc + 4, locals := ls, stack := .ref T.heap.size :: .ref T.heap.size :: rest, locked := none }) rfl d4' _ hsteps
/-- 'throw new E("text")', the text by a wide index -/
theorem vx_throwSW {cc : ByteArray} {pc : Nat} (hexec : p.tables.exec = Jvm.exec) (hb : c.code = cc) (hl : l.stackTraces = false) {own cls text : String} {names : List String} {ik is ic mc ms sa : Nat} {A : Nat → Prop}
    (hown : s.vm.findClass own = some m.cls) (hcls : Bundle.fit cls = true) (hnames : ∀ n ∈ names, Bundle.fit n = true)
    (hk : (Cond.classLink own ik cls).before args s = true) (hini : (Cond.initialized cls).before args s = true) (hstr : vk_R own is text sa s) (hat : ∀ w ∈ vx_atS own ic cls names, w.before args s = true)
    (hgood : ∀ w ∈ Cond.classLink own ik cls :: Cond.initialized cls :: vx_atS own ic cls names, vx_ot w = true)
    (hU : vx_Zq Bundle.tN "UNASSIGNED_STACK" Bundle.steD A s s.heap) (hN : vx_Zq Bundle.tN "SUPPRESSED_SENTINEL" Bundle.listD A s s.heap) (hS : va_S A s.heap H locs) (hsize : ls.size = c.maxLocals)
    (d0 : decode cc pc = .ok (.new ik, 3)) (d3 : decode cc (pc + 3) = .ok (.dup, 1)) (d4 : decode cc (pc + 4) = .ok (.ldc_w is, 3)) (d7 : decode cc (pc + 7) = .ok (.invokespecial ic, 3)) (d10 : decode cc (pc + 10) = .ok (.athrow, 1))
    (hout : ∀ x ∈ c.exceptionTable.toList, covers x (pc + 10) = false)
    (hRframes : names.length + 3 < R.frames) (hRlocals : (rest.map fun v => v.category).sum + (13 * (names.length + 1) + 43) ≤ R.locals) (hRcells : cells + 1 ≤ R.cells) (hRslots : slots + 6 ≤ R.slots) (hlocks : meth.locks = false)
    (hx : ∀ t : State, s.vm.Alike t.vm → H.size ≤ t.heap.size → (∀ q : Nat, q < H.size → t.heap[q]? = H[q]?) → XC cls s t)
    (hf : ∀ z ∈ locs, free z.base) (hc : cells + 1 ≤ mc) (hs : slots + 6 ≤ ms) :
    W p l e R s m args below meth c H locs cells slots (vx_MQ below Qc XC args s mc ms free) (F0 m pc ls rest) := by
  intro T hT X
  have htr : e.platform.stackTraces = false := (show e.platform.stackTraces = l.stackTraces by rw [X.admits.platform]).trans hl
  have Y := vx_rebase X (R' := { frames := R.frames, locals := R.locals, cells := 1, slots := 6 }) (Nat.le_refl _) (Nat.le_refl _) hRcells hRslots
  obtain ⟨s', hA⟩ : ∃ z, z = (T.setVm s.vm).setFrames (.invoking m args :: below) := ⟨_, rfl⟩
  rw [← hA] at Y
  have hvm : s'.vm = s.vm := by rw [hA]; rfl
  have hhp : s'.heap = H := by rw [hA]; exact hT
  have hW0 : s.WarmedH s'.vm := by rw [hvm]; exact State.WarmedH.refl s
  have hat' : ∀ w ∈ vx_atS own ic cls names, w.before args s' = true := fun w hw => vx_ot_at hW0 hvm.symm (hgood w (List.mem_cons_of_mem _ (List.mem_cons_of_mem _ hw))) (hat w hw)
  have hk' : (Cond.classLink own ik cls).before args s' = true := vx_ot_at hW0 hvm.symm (hgood _ List.mem_cons_self) hk
  have hini' : (Cond.initialized cls).before args s' = true := vx_ot_at hW0 hvm.symm (hgood _ (List.mem_cons_of_mem _ List.mem_cons_self)) hini
  have hU' : vx_Zq Bundle.tN "UNASSIGNED_STACK" Bundle.steD A s' s'.heap := by rw [hhp]; exact vx_Zq.moved hW0.alike (hU.kept hS.2.1)
  have hN' : vx_Zq Bundle.tN "SUPPRESSED_SENTINEL" Bundle.listD A s' s'.heap := by rw [hhp]; exact vx_Zq.moved hW0.alike (hN.kept hS.2.1)
  have h : ∀ w ∈ Bundle.ownAtoms own ic cls names, w.before args s' = true := vx_own hat' (vx_isRefq hU'.1) (vx_isRefq hN'.1) hU'.2.word hN'.2.word
  have hown' : s'.vm.findClass own = some m.cls := by rw [hvm]; exact hown
  have hins : (Cond.instantiable cls 6).before args s' = true := h _ (by simp [Bundle.ownAtoms])
  obtain ⟨vm₁, cX, kX, hfX, hkX, -, -, X₁, st1⟩ := Y.newCold hexec (own := own) (C := cls) (index := ik) (n := 6) hown' hk' hins hini'
    (g := F0 m pc ls rest) rfl (by rw [hb]; exact d0) (Nat.le_refl _) (Nat.le_refl _)
  generalize hT1 : (T.setVm vm₁).pushCell { cls := cX, slots := kX.instanceTypes.map defaultValue, vm := .none } = T1 at X₁ st1
  have hcat : (Value.ref T.heap.size).category = 1 := rfl
  have hcellA : T1.heap[T.heap.size]? = some (freshCell cX kX) := by rw [← hT1]; exact State.heap_pushCell_size _ _
  have d3' : decode c.code (pc + 3) = .ok (.dup, 1) := by rw [hb]; exact d3
  have d4' : decode c.code (pc + 4) = .ok (.ldc_w is, 3) := by rw [hb]; exact d4
  have hstr' : vk_R own is text sa s' := vk_R.warm hW0 hstr
  obtain ⟨U, hsteps, hrun, hend, hW, hsame, ce, hce, hO⟩ := X₁.ctorThrowS hexec htr (own := own) (cls := cls) (names := names) (ic := ic) hown' hcls hnames h (fun x hx => nomatch hx) hfX hkX hcellA (by rw [hhp, hT]; exact Nat.le_refl _) (msg := .ref sa) rfl
    (g := { method := m, pc := pc + 7, locals := ls, stack := .ref sa :: .ref T.heap.size :: .ref T.heap.size :: rest, locked := none }) rfl hsize rfl rfl (rest := rest) rfl
    (by rw [hb]; exact d7) (by rw [hb]; exact d10) hout hRframes (by simp only [List.map_cons, List.sum_cons, hcat]; omega) hlocks
  obtain ⟨f1, f2⟩ := vx_frame hsame
  rw [hhp] at f1 f2
  have hWs : s.WarmedH U.vm := State.WarmedH.trans hW0 hW
  have hcl : s.vm.findClass cls = some ce.cls := by
    have h9 := hO.cls
    rw [hvm] at h9
    exact h9
  have hall : s.sameButNew ({ U with vm := s.vm } : State) locs mc ms := by
    subst hA
    obtain ⟨e1, e2⟩ := hsame
    rw [State.setFrames_setFrames] at e1
    have h2 : (T.setVm s.vm).sameButNew ({ U with vm := s.vm } : State) [] (0 + 1) (0 + 6) := ⟨e1, e2⟩
    have h3 := X.same.trans h2
    rw [List.append_nil] at h3
    exact h3.mono hc hs
  refine ⟨U, ?_, .threw T.heap.size, hrun, hend, Or.inr ⟨T.heap.size, rfl, cls, ce, locs, hx U hWs.alike f1 (fun q hq => f2 q hq (fun z hz => nomatch hz)), hce, hO.vm, hcl, hWs, hall, hf⟩⟩
  refine st1 _ ?_
  show Steps p.tables e below (T1.setTop { method := m, pc := pc + 3, locals := ls, stack := .ref T.heap.size :: rest, locked := none }) _
  jvm_step X₁.here [X₁.here.top, hexec, d3', Value.category]
  exact X₁.ldcStringW hexec (own := own) (text := text) (index := is) (a := sa) hown' hstr'.1 hstr'.2
    (g := { method := m, pc := pc + 4, locals := ls, stack := .ref T.heap.size :: .ref T.heap.size :: rest, locked := none }) rfl d4' _ hsteps
end Ends
section Bodies
variable {l : Launch}
theorem vx_ofW {y : MethodName} {ws ws' : List Cond} {rm : Room} {Pc : Array Value → State → Prop} {Qc : Array Value → State → Outcome → State → Prop} {XC : String → State → State → Prop} {mc ms : Nat} {free : Addr → Prop} {cc : ByteArray} {maxL : Nat} {ret : Option FieldType}
    (hy : plainName y.cls = true) (hw : ws = Cond.code y cc maxL ret :: ws')
    (body : ∀ p e s m args below meth c s₁, BodyLoose p l y (headSpec ws rm) cc maxL ret e s m args below meth c s₁ → c.maxLocals = maxL → (∀ x ∈ c.exceptionTable.toList, False) → Pc args s →
      W p l e (headSpec ws rm).room s m args below meth c s.heap [] 0 0 (vx_MQ below Qc XC args s mc ms free) (entryFrame m args maxL)) : vx_Met l y ws rm Pc Qc XC mc ms free := by
  refine MetFree.of_bodyS (code := cc) (maxLocals := maxL) (ret := ret) hy ?_ ?_
  · intro args s m h hn
    obtain ⟨meth, c, h1, h2, h3, h4, h5, h6, -, -⟩ := Cond.code_spec hn (atoms_spec (ws := ws) h _ (by rw [hw]; exact List.mem_cons_self))
    exact ⟨meth, c, h1, h2, h3, h4, h5, h6⟩
  · intro p e s m args below meth c s₁ B hml hP _
    have hh0 : s₁.heap = s.heap := by rw [B.state]; rfl
    have ht : ∀ x ∈ c.exceptionTable.toList, False := by
      obtain ⟨meth9, c9, h1, h2, -, -, -, -, h7, -⟩ := Cond.code_spec B.named (atoms_spec (ws := ws) B.pre _ (by rw [hw]; exact List.mem_cons_self))
      cases Option.some.inj (h1.symm.trans B.method)
      cases Option.some.inj (h2.symm.trans (Stand.of_body B).code)
      intro x hx
      rw [Array.isEmpty_iff.mp h7] at hx
      cases hx
    obtain ⟨t, a1, o, b1, b2, b3⟩ := body p e s m args below meth c s₁ B hml ht hP s₁ hh0 (Stand.of_body B)
    exact ⟨t, o, a1, b1, b2, b3⟩
/-- the table of a body with handlers -/
theorem vx_table {p : Program} {x y : MethodName} {S : Spec} {cc bytes : ByteArray} {maxL maxL' : Nat} {ret ret' : Option FieldType} {e : Env} {s s₁ : State} {m : MethodId} {args : Array Value} {below : List Frame} {meth : Method} {c : Code} {hh : List (Nat × Nat × Nat × Nat)}
    (B : BodyLoose p l y S cc maxL ret e s m args below meth c s₁) (h : (Cond.codeWith y bytes maxL' ret' hh).before args s = true) : c.exceptionTable.toList = tableOf hh := by
  obtain ⟨m9, meth9, c9, hn9, h1, h2, -, -, h6, -⟩ := Cond.codeWith_spec h
  cases Option.some.inj (hn9.symm.trans B.named)
  cases Option.some.inj (h1.symm.trans B.method)
  cases Option.some.inj (h2.symm.trans (Stand.of_body B).code)
  rw [← h6, table_eq]
end Bodies
end VXA
/-! ===== END ===== -/
/-! ===== BEGIN a static call of a method with an exception table ===== -/
section VXS
variable {p : Program} {l : Launch} {e : Env} {R : Room} {s : State} {m : MethodId} {args : Array Value} {below : List Frame} {meth : Method} {c : Code} {T : State} {H : Heap} {locs : List Loc} {cells slots : Nat}
abbrev vx_CSW (R : Room) (s : State) (args : Array Value) (own : String) (index : Nat) (y : MethodName) (bytes : ByteArray) (maxL : Nat) (ret : Option FieldType) (hh : List (Nat × Nat × Nat × Nat)) (ws : List Cond) (rm : Room) (mc ms n : Nat) : Prop :=
  (rm.cells = mc ∧ rm.slots = ms ∧ rm.frames + 1 ≤ R.frames ∧ 8 + (maxL + 11) + rm.locals ≤ R.locals ∧ (∀ w ∈ ws, ∀ (a' : Array Value) (U : State), s.WarmedH U.vm → w.before a' U = true) ∧ Cond.codeWith y bytes maxL ret hh ∈ ws) ∧
  (Cond.codeWith y bytes maxL ret hh).before args s = true ∧ (Cond.initialized y.cls).before args s = true ∧ (y.cls ≠ "java/lang/invoke/MethodHandle" ∧ y.cls ≠ "java/lang/invoke/VarHandle") ∧
  (∀ sig, parseMethodDescriptor y.desc = some sig → n = sig.parameters.length) ∧ (Cond.methodLink own index y).before args s = true ∧ (Cond.static y).before args s = true
theorem vx_cwSW {own : String} {index maxL mc ms : Nat} {y : MethodName} {bytes : ByteArray} {ret : Option FieldType} {hh : List (Nat × Nat × Nat × Nat)} {Ts ws ws' : List Cond} {rm : Room} (n : Nat) (ht : ∀ w ∈ Ts, w.before args s = true) (hT : GoodIn Ts (va_wsS own index y ws)) (hw : ws = Cond.codeWith y bytes maxL ret hh :: ws') (hrc : rm.cells = mc) (hrs : rm.slots = ms)
    (hd : y.cls ≠ "java/lang/invoke/MethodHandle" ∧ y.cls ≠ "java/lang/invoke/VarHandle" ∧ (parseMethodDescriptor y.desc).map (fun d => d.parameters.length) = some n) (hR : rm.frames + 1 ≤ R.frames ∧ 8 + (maxL + 11) + rm.locals ≤ R.locals) :
    vx_CSW R s args own index y bytes maxL ret hh ws rm mc ms n := by
  have ok : ∀ w ∈ va_wsS own index y ws, w.before args s = true := fun w h => ht w (hT w h).1
  have hG : GoodIn Ts ws := fun w h => hT w (by unfold va_wsS; exact List.mem_append_right _ h)
  have hc : Cond.codeWith y bytes maxL ret hh ∈ ws := by rw [hw]; exact List.mem_cons_self
  refine ⟨⟨hrc, hrs, hR.1, hR.2, pay_in ht hG, hc⟩, ht _ (hG _ hc).1, ok _ (by simp [va_wsS]), ⟨hd.1, hd.2.1⟩, fun sig h => ?_, ok _ (by simp [va_wsS]), ok _ (by simp [va_wsS])⟩
  have h2 := hd.2.2
  rw [h] at h2
  exact (Option.some.inj h2).symm
theorem vx_callSW (X : Stand p l e R s m args below meth c T locs cells slots) (hexec : p.tables.exec = Jvm.exec) {own : String} {index : Nat} {y : MethodName} {bytes : ByteArray} {maxL : Nat} {ret : Option FieldType} {hh : List (Nat × Nat × Nat × Nat)}
    (hown : s.vm.findClass own = some m.cls) (hlink : (Cond.methodLink own index y).before args s = true) (hstat : (Cond.static y).before args s = true) (hinit : (Cond.initialized y.cls).before args s = true)
    (hcode : (Cond.codeWith y bytes maxL ret hh).before args s = true) (hy : y.cls ≠ "java/lang/invoke/MethodHandle" ∧ y.cls ≠ "java/lang/invoke/VarHandle")
    {W9 : Nat} {Pre : Pt → Array Value → Prop} {Post : Pt → Array Value → Option Value → Pt → Prop} (hK : Back l R p e below s args y 3 W9 Pre Post)
    {g : JFrame} (hg : g.method = m) (hsize : g.locals.size = c.maxLocals) {argsL rest : List Value} (hlen : ∀ sig, parseMethodDescriptor y.desc = some sig → argsL.length = sig.parameters.length)
    (hstack : g.stack = argsL.reverse ++ rest) (hW : 2 * g.monitorRoom + (rest.map fun v => v.category).sum ≤ W9) (hdg : decode c.code g.pc = .ok (.invokestatic index, 3))
    (hpre : ∀ vm₁, s.WarmedH vm₁ → Pre ⟨T.setVm vm₁, locs, cells, slots⟩ argsL.toArray) :
    ∃ (v : Option Value) (vm₁ : Vm) (B : Pt), s.WarmedH vm₁ ∧ Stand p l e R s m args below meth c B.U B.locs B.cells B.slots ∧ Post ⟨T.setVm vm₁, locs, cells, slots⟩ argsL.toArray v B ∧
      ∀ target, Steps p.tables e below (B.U.setTop { g with pc := g.pc + 3, stack := v.toList ++ rest }) target → Steps p.tables e below (T.setTop g) target := by
  obtain ⟨mk, methM, cM, hnamed, hmethM, -, -, -, -, -, -, hsigM⟩ := Cond.codeWith_spec hcode
  have hstatic : methM.isStatic = true := Cond.static_spec hnamed hmethM hstat
  obtain ⟨kP, hkP, -⟩ := className_of_methodNamed hnamed
  have hinitP : kP.init = .initialized := Cond.initialized_spec (findClass_of_methodNamed hnamed) hkP hinit
  obtain ⟨vm₁, X₁, hstep₁⟩ := X.invokestatic hexec hown hlink hnamed hmethM hstatic hkP hinitP hy (g := g) hg (argsL := argsL) (rest := rest) (hlen _ hsigM) hstack hdg
  obtain ⟨v, B, X', hpost, hsteps⟩ := hK m meth c ⟨T.setVm vm₁, locs, cells, slots⟩ { g with stack := rest } (.invokestatic index) mk argsL.toArray X₁ hg hsize hdg hW (X₁.named hnamed) (hpre vm₁ X₁.warmed)
  exact ⟨v, vm₁, B, X₁.warmed, X', hpost, fun target h => hstep₁ _ fun acts => by rw [doInvoke_state]; exact hsteps.trans h⟩
theorem vx_runSW {y : MethodName} {bytes cc : ByteArray} {maxL nL mc ms n index : Nat} {ret : Option FieldType} {hh : List (Nat × Nat × Nat × Nat)} {ws : List Cond} {rm : Room} {Pc : Array Value → State → Prop} {Qc : Array Value → State → Outcome → State → Prop} {free : Addr → Prop} {Ts : List Cond} {own : String} {As rest : List Value} {g : JFrame}
    (S : CallFix p m c cc nL s args Ts own) (hM : Met l y ws rm Pc Qc mc ms free) (cw : vx_CSW R s args own index y bytes maxL ret hh ws rm mc ms n) (hp : PreS s H Pc As)
    (hg : g.method = m) (hn : As.length = n) (hsize : g.locals.size = nL) (hstack : g.stack = As.reverse ++ rest) (hW : 2 * g.monitorRoom + (rest.map fun v => v.category).sum ≤ 8) (hdg : decode cc g.pc = .ok (.invokestatic index, 3)) (hf : cells + mc ≤ R.cells ∧ slots + ms ≤ R.slots) :
    va_Run p l e R s m args below meth c H locs cells slots mc ms g rest (Qc As.toArray) (free) := by
  obtain ⟨⟨hrc, hrs, hfr, hlo, hws, hcw⟩, hcode, hini, hy, hlen, hl, hstt⟩ := cw
  have hK : Back l R p e below s args y 3 8 (PreOf R mc ms Pc) (PostOf Qc mc ms free) := va_backW (hh := hh) (bytes := bytes) (maxL := maxL) (ret := ret) hM hp.1 hrc hrs hfr hlo hws hcw (fun a' U hW => word_at hW (Or.inl (by first | rfl | simp [Cond.onTables, Cond.keeps, Cond.steady])) hini)
  obtain ⟨hx, hb, hml, ho, -⟩ := S
  intro T hT X
  obtain ⟨v, vm₁, ⟨U', l2, c2, s2⟩, hW₁, X', ⟨g', mk, t, L, e1, e2, hq, h1, hL, h2, h3⟩, st⟩ := vx_callSW X hx (hh := hh) (bytes := bytes) (maxL := maxL) (ret := ret) ho hl hstt hini hcode hy hK hg (hsize.trans hml.symm) (argsL := As) (rest := rest) (fun sig h => hn.trans (hlen sig h)) hstack hW (by rw [hb]; exact hdg)
    (fun vm₁ hW₁ => ⟨hf.1, hf.2, hp.2 (T.setVm vm₁) hT hW₁⟩)
  dsimp only [Pt.U, Pt.locs, Pt.cells, Pt.slots] at X' e1 e2 h1 h2 h3 st
  subst h1; subst h2; subst h3
  exact ⟨v, (T.setVm vm₁).calling g' mk As.toArray, t, U', L, hT, X', hL, e1, e2, hq, st⟩
/-- not caught here, past rows that name other classes: it goes on to the caller -/
theorem vx_outP {p : Program} {l : Launch} {e : Env} {R : Room} {s : State} {m : MethodId} {args : Array Value} {below : List Frame} {meth : Method} {c : Code} {H : Heap} {locs : List Loc} {cells slots : Nat} {free : Addr → Prop} {ls : Array Slot} {rest : List Value} {Qc : Array Value → State → Outcome → State → Prop} {XC : String → State → State → Prop}
    {pc : Nat} {own E : String} {ce : Cell} {q : Addr} {mc ms : Nat} (hown : s.vm.findClass own = some m.cls) (hlocks : meth.locks = false)
    (hpass : ∀ z ∈ c.exceptionTable.toList, covers z pc = false ∨ (z.catchType ≠ 0 ∧ ∃ nm : String, (Cond.classLink own z.catchType nm).before args s = true ∧ va_Nc E nm s)) (hcell : H[q]? = some ce) (hv : ce.vm = .none) (hcl : s.vm.findClass E = some ce.cls)
    (hx : ∀ t : State, t.heap = H → s.vm.Alike t.vm → XC E s t) (hf : ∀ z ∈ locs, free z.base) (hc : cells ≤ mc) (hs : slots ≤ ms) :
    vx_W p l e R s m args below meth c H locs cells slots (vx_MQ below Qc XC args s mc ms free) (F0 m pc ls rest) q := by
  intro T hT X
  have hpl : e.platform.magicAccessors = ({} : Platform).magicAccessors := by rw [X.admits.platform]
  obtain ⟨vm', hW', X', st⟩ := X.outThrough hlocks q (g := F0 m pc ls rest) rfl rfl rfl (cell := ce) (by rw [hT]; exact hcell) (by rw [hv]; rfl)
    (by obtain ⟨k9, h9, -⟩ := Vm.findClass_spec hcl; exact ⟨k9, h9⟩) (fun z hz => by
      rcases hpass z hz with h | ⟨hz0, nm, hl1, hn1⟩
      · exact Or.inl h
      · obtain ⟨c6, hc6, hcl6⟩ := Cond.classLink_spec hown hl1 e.platform hpl
        obtain ⟨a8, b8, h1, h2, h3⟩ := hn1
        cases Option.some.inj (h1.symm.trans hcl)
        cases Option.some.inj (h2.symm.trans hc6)
        exact Or.inr ⟨hz0, _, hcl6, h3⟩)
  obtain ⟨g₀, hfr⟩ := X'.frames_eq
  have hcell9 : ((T.setVm vm').setFrames (.throwing q :: below)).heap[q]? = some ce := by
    show T.heap[q]? = some ce
    rw [hT]; exact hcell
  have hend : Ended ((T.setVm vm').setFrames (.throwing q :: below)) below (.threw q) := State.frames_setFrames _ (State.cur_lt_of_frames hfr)
  refine ⟨(T.setVm vm').setFrames (.throwing q :: below), ?_, .threw q, X'.here.running, hend, Or.inr ⟨q, rfl, E, ce, locs, hx _ hT (X'.ends _).1.alike, hcell9, hv, hcl, (X'.ends _).1, (X'.ends _).2.mono hc hs, hf⟩⟩
  rw [X.pushThrowing_eq]
  exact st
/-- a thing of a world lies in the heap -/
theorem vx_lt {D : va_G} {cl : List vw_C} {ws : va_W} {H1 : Heap} (h : va_P D cl ws H1) {k : Nat} {q : Nat × va_E} (hk : ws[k]? = some q) : q.1 < H1.size := (h k q hk).lt
end VXS
/-! ===== END ===== -/
/-! ===== BEGIN methods with a table of their own: called by a name, returning or throwing ===== -/
section VXH
/-! vx_backW, vx_callVX, vx_callSX, vx_callVW, vx_runVW, vx_runVX, vx_runSX, vx_ofWH follow the same proofs as their sisters above (Free/Laws.lean, Shelf42/LK1.lean); vx_outP calls Shelf42/NT130.lean (outThrough). -/
section
variable {l : Launch} {R : Room} {p : Program} {e : Env} {below : List Frame} {s : State} {sargs : Array Value} {y : MethodName} {len W9 : Nat}
theorem vx_backW {ws : List Cond} {rm : Room} {Pc : Array Value → State → Prop} {Qc : Array Value → State → Outcome → State → Prop} {XC : String → State → State → Prop} {mc ms : Nat} {free : Addr → Prop} {bytes : ByteArray} {maxL : Nat} {ret : Option FieldType} {hh : List (Nat × Nat × Nat × Nat)}
    (hM : vx_Met l y ws rm Pc Qc XC mc ms free) (hblind : FrameBlind Pc) (hrc : rm.cells = mc) (hrs : rm.slots = ms)
    (hframes : rm.frames + 1 ≤ R.frames) (hlocals : W9 + (maxL + 11) + rm.locals ≤ R.locals)
    (hws : ∀ w ∈ ws, ∀ a' U, s.WarmedH U.vm → w.before a' U = true) (hcode : Cond.codeWith y bytes maxL ret hh ∈ ws) (hinit : ∀ a' U, s.WarmedH U.vm → (Cond.initialized y.cls).before a' U = true) :
    vx_Back l R p e below s sargs y len W9 (PreOf R mc ms Pc) (PostOf Qc mc ms free) (vx_Post XC mc ms free) := by
  intro m meth c A g ig mk a X hg hsize hdg hW hn hp
  have h1 : (headSpec ws rm).pre.before a A.U = true := atoms_intro fun w hw => hws w hw _ _ X.warmed
  have h2 : (Cond.codeWith y bytes maxL ret hh).before a A.U = true := hws _ hcode _ _ X.warmed
  have h3 : (Cond.initialized y.cls).before a A.U = true := hinit _ _ X.warmed
  have h4 : A.cells + (headSpec ws rm).room.cells ≤ R.cells := by rw [show (headSpec ws rm).room.cells = mc from hrc]; exact hp.1
  have h5 : A.slots + (headSpec ws rm).room.slots ≤ R.slots := by rw [show (headSpec ws rm).room.slots = ms from hrs]; exact hp.2.1
  have hPc : Pc a (A.U.calling g mk a) := hblind _ _ _ _ hp.2.2
  obtain ⟨U, Ls, c0, s0⟩ := A
  dsimp only [Pt.U, Pt.locs, Pt.cells, Pt.slots] at h1 h2 h3 h4 h5 X hn hPc ⊢
  obtain ⟨m9, methY, cY, hn9, hmY, hcY, -, hlY, -⟩ := Cond.codeWith_spec h2
  cases Option.some.inj (hn9.symm.trans hn)
  obtain ⟨kY, hkY, -⟩ := className_of_methodNamed hn
  have hinitY : kY.init = .initialized := Cond.initialized_spec (findClass_of_methodNamed hn) hkY h3
  have h : At U g.method c below := by rw [hg]; exact X.here
  have hlocals9 : W9 + (maxL + 11) + (headSpec ws rm).room.locals ≤ R.locals := hlocals
  have happ : (headSpec ws rm).appliesLoose y e.platform (U.calling g mk a) = true :=
    Spec.appliesLoose_calling (g := g) h hdg hn hkY hinitY
      (X.room_calling (g := g) (R' := (headSpec ws rm).room) hsize hmY hcY hframes (by rw [hlY]; omega) h4 h5) h1
  obtain ⟨mid, hmid⟩ := h.above
  have hfr : (U.setTop g).frames = (.java g :: mid) ++ below := by rw [State.frames_setTop' g h.top, hmid]; rfl
  obtain ⟨o, s₂, hsteps, -, hend, hq⟩ := Steps.callFree hM p X.admits X.cas X.clock (acts := []) hfr happ hPc trivial
  have hq' : vx_Q Qc XC mc ms free a (U.calling g mk a) o s₂ := hq
  rw [State.frames_setTop' g h.top] at hend
  obtain ⟨g₀, hg0⟩ := Option.isSome_iff_exists.mp h.top
  obtain ⟨r, hr⟩ := State.topJava?_eq_some.mp hg0
  have hr' : (({ U with heap := s₂.heap, slotsUsed := s₂.slotsUsed } : State).setVm s₂.vm).frames = .java g₀ :: r := hr
  rcases hq' with ⟨hqc, L, hfe, hL⟩ | ⟨q, rfl, E, ce, L, hx, hce, hcv, hcl, hW₂, hsm, hL⟩
  · obtain ⟨⟨v, rfl⟩, hW₂, e2, q2, q3, q4, q5, q6⟩ := id hfe
    have e3 : s₂ = ({ (U.calling g mk a).setFrames s₂.frames with heap := s₂.heap, slotsUsed := s₂.slotsUsed } : State).setVm s₂.vm := by
      have : s₂ = ({ s₂ with vm := (U.calling g mk a).vm } : State).setVm s₂.vm := rfl
      rw [e2] at this
      exact this
    obtain ⟨c₂, i₂, len₂, hc₂, hd₂, hf₂⟩ := hend
    have hW' : U.WarmedH s₂.vm := hW₂
    have hcc : c₂ = c := by
      have h1 : s₂.code? g.method = U.code? g.method := by
        rw [State.code?_eq, State.code?_eq, hW'.alike.method?]
      exact Option.some.inj (hc₂.symm.trans (h1.trans h.code))
    subst hcc
    have hlen : len₂ = len := by rw [hdg] at hd₂; cases hd₂; rfl
    subst hlen
    have hs₂ : s₂ = (({ U with heap := s₂.heap, slotsUsed := s₂.slotsUsed } : State).setVm s₂.vm).setTop { g with pc := g.pc + len₂, stack := v.toList ++ g.stack } := by
      refine e3.trans ?_
      rw [hf₂, State.calling_eq h.top, State.setFrames_setFrames, State.setTop_of_frames _ hr', hr]
      rfl
    have hsame : U.sameButNew ({ U with heap := s₂.heap, slotsUsed := s₂.slotsUsed } : State) L mc ms := by
      refine ⟨?_, q2, q3, q4, q5, q6⟩
      obtain ⟨t, ht, -⟩ := State.frames_cons hr
      show ({ U with heap := s₂.heap, slotsUsed := s₂.slotsUsed } : State) = { U.setFrames U.frames with heap := s₂.heap, slotsUsed := s₂.slotsUsed }
      rw [State.setFrames_self ht]
    subst hg
    refine Or.inl ⟨v, ⟨(({ U with heap := s₂.heap, slotsUsed := s₂.slotsUsed } : State).setVm s₂.vm), Ls ++ L, c0 + mc, s0 + ms⟩,
      ⟨X.admits, X.cas, X.clock, X.frames, X.room, X.hears, X.method, X.code, (X.here.setHeapUsed s₂.heap s₂.slotsUsed).setVm hW'.alike, X.tail, State.WarmedH.trans X.warmed hW', X.limits, X.bytes, X.same.trans (hsame.setVm s.vm)⟩,
      ⟨g, mk, s₂, L, rfl, rfl, hqc, rfl, hL, rfl, rfl⟩, ?_⟩
    show Steps p.tables e below _ ((({ U with heap := s₂.heap, slotsUsed := s₂.slotsUsed } : State).setVm s₂.vm).setTop { g with pc := g.pc + len₂, stack := v.toList ++ g.stack })
    rw [← hs₂]
    exact hsteps
  · obtain ⟨e2, q2, q3, q4, q5, q6⟩ := id hsm
    have e3 : s₂ = ({ (U.calling g mk a).setFrames s₂.frames with heap := s₂.heap, slotsUsed := s₂.slotsUsed } : State).setVm s₂.vm := by
      have : s₂ = ({ s₂ with vm := (U.calling g mk a).vm } : State).setVm s₂.vm := rfl
      rw [e2] at this
      exact this
    have hf₂ : s₂.frames = .throwing q :: .java g :: U.frames.tail := hend
    have hW' : U.WarmedH s₂.vm := hW₂
    have hs₂ : s₂ = ((({ U with heap := s₂.heap, slotsUsed := s₂.slotsUsed } : State).setVm s₂.vm).setTop g).pushFrame (.throwing q) := by
      refine e3.trans ?_
      rw [hf₂, State.calling_eq h.top, State.setFrames_setFrames, State.pushFrame, State.frames_setTop _ hr', State.setTop_of_frames _ hr', State.setFrames_setFrames, hr]
      rfl
    have hsame : U.sameButNew ({ U with heap := s₂.heap, slotsUsed := s₂.slotsUsed } : State) L mc ms := by
      refine ⟨?_, q2, q3, q4, q5, q6⟩
      obtain ⟨t, ht, -⟩ := State.frames_cons hr
      show ({ U with heap := s₂.heap, slotsUsed := s₂.slotsUsed } : State) = { U.setFrames U.frames with heap := s₂.heap, slotsUsed := s₂.slotsUsed }
      rw [State.setFrames_self ht]
    subst hg
    refine Or.inr ⟨q, ⟨(({ U with heap := s₂.heap, slotsUsed := s₂.slotsUsed } : State).setVm s₂.vm), Ls ++ L, c0 + mc, s0 + ms⟩,
      ⟨X.admits, X.cas, X.clock, X.frames, X.room, X.hears, X.method, X.code, (X.here.setHeapUsed s₂.heap s₂.slotsUsed).setVm hW'.alike, X.tail, State.WarmedH.trans X.warmed hW', X.limits, X.bytes, X.same.trans (hsame.setVm s.vm)⟩,
      ⟨g, mk, s₂, L, E, ce, rfl, rfl, hx, hce, hcv, hcl, rfl, hL, rfl, rfl⟩, ?_⟩
    show Steps p.tables e below _ (((({ U with heap := s₂.heap, slotsUsed := s₂.slotsUsed } : State).setVm s₂.vm).setTop g).pushFrame (.throwing q))
    rw [← hs₂]
    exact hsteps
end
variable {p : Program} {l : Launch} {e : Env} {R : Room} {s : State} {m : MethodId} {args : Array Value} {below : List Frame} {meth : Method} {c : Code} {T : State} {H : Heap} {locs : List Loc} {cells slots : Nat}
theorem vx_callVX (X : Stand p l e R s m args below meth c T locs cells slots) (hexec : p.tables.exec = Jvm.exec) {own C : String} {index : Nat} {y : MethodName} {bytes : ByteArray} {maxL : Nat} {ret : Option FieldType} {hh : List (Nat × Nat × Nat × Nat)}
    (hown : s.vm.findClass own = some m.cls) (hlink : (Cond.methodLink own index y).before args s = true) (hinst : (Cond.instanceMethod y).before args s = true) (hsel : (Cond.selects C y y).before args s = true)
    (hcode : (Cond.codeWith y bytes maxL ret hh).before args s = true) (hy : y.cls ≠ "java/lang/invoke/MethodHandle" ∧ y.cls ≠ "java/lang/invoke/VarHandle")
    {W9 : Nat} {Pre : Pt → Array Value → Prop} {Post : Pt → Array Value → Option Value → Pt → Prop} {PostX : Pt → Array Value → Addr → Pt → Prop} (hK : vx_Back l R p e below s args y 3 W9 Pre Post PostX)
    {b : Addr} {cellB : Cell} (hcell : T.heap[b]? = some cellB) (hobj : cellB.vm.isStatics = false) (hcls : s.vm.findClass C = some cellB.cls)
    {g : JFrame} (hg : g.method = m) (hsize : g.locals.size = c.maxLocals) {argsL rest : List Value} (hlen : ∀ sig, parseMethodDescriptor y.desc = some sig → argsL.length = sig.parameters.length)
    (hstack : g.stack = argsL.reverse ++ .ref b :: rest) (hW : 2 * g.monitorRoom + (rest.map fun v => v.category).sum ≤ W9) (hdg : decode c.code g.pc = .ok (.invokevirtual index, 3))
    (hpre : ∀ vm₁, s.WarmedH vm₁ → Pre ⟨T.setVm vm₁, locs, cells, slots⟩ (Value.ref b :: argsL).toArray) :
    (∃ (v : Option Value) (vm₁ : Vm) (B : Pt), s.WarmedH vm₁ ∧ Stand p l e R s m args below meth c B.U B.locs B.cells B.slots ∧ Post ⟨T.setVm vm₁, locs, cells, slots⟩ (Value.ref b :: argsL).toArray v B ∧
      ∀ target, Steps p.tables e below (B.U.setTop { g with pc := g.pc + 3, stack := v.toList ++ rest }) target → Steps p.tables e below (T.setTop g) target) ∨
    (∃ (q : Addr) (vm₁ : Vm) (B : Pt), s.WarmedH vm₁ ∧ Stand p l e R s m args below meth c B.U B.locs B.cells B.slots ∧ PostX ⟨T.setVm vm₁, locs, cells, slots⟩ (Value.ref b :: argsL).toArray q B ∧
      Steps p.tables e below (T.setTop g) ((B.U.setTop { g with stack := rest }).pushFrame (.throwing q))) := by
  obtain ⟨mk, methM, hnamed, hmethM, hstM, habM⟩ := Cond.instanceMethod_spec hinst
  obtain ⟨m8, methM', cM, hn8, hmethM', -, -, -, -, -, -, hsigM⟩ := Cond.codeWith_spec hcode
  cases Option.some.inj (hn8.symm.trans hnamed)
  cases hmethM.symm.trans hmethM'
  obtain ⟨c2, r2, m2, q1, q2, q3, q4, kP, hkP, hkPi⟩ := Cond.selects_spec hsel
  cases hcls.symm.trans q1
  cases (State.methodFound?_of_named hnamed hy).symm.trans q2
  cases hnamed.symm.trans q3
  have hselP : selectMethod e.platform s.vm cellB.cls mk = .method mk := by rw [Launch.admits_selectMethod X.admits]; exact q4
  obtain ⟨vm₁, X₁, hstep₁⟩ := X.invokevirtual hexec hown hlink hnamed hmethM hstM hkP hkPi hy (a := b) (cell := cellB) hcell
    (fun z h => by rw [h] at hobj; cases hobj) hselP hmethM habM hkP hkPi (g := g) hg (argsL := argsL) (rest := rest) (hlen _ hsigM) hstack hdg
  rcases hK m meth c ⟨T.setVm vm₁, locs, cells, slots⟩ { g with stack := rest } (.invokevirtual index) mk (Value.ref b :: argsL).toArray X₁ hg hsize hdg hW (X₁.named hnamed) (hpre vm₁ X₁.warmed) with ⟨v, B, X', hpost, hsteps⟩ | ⟨q, B, X', hpost, hsteps⟩
  · exact Or.inl ⟨v, vm₁, B, X₁.warmed, X', hpost, fun target h => hstep₁ _ fun acts => by rw [doInvoke_state]; exact hsteps.trans h⟩
  · exact Or.inr ⟨q, vm₁, B, X₁.warmed, X', hpost, hstep₁ _ fun acts => by rw [doInvoke_state]; exact hsteps⟩
theorem vx_callSX (X : Stand p l e R s m args below meth c T locs cells slots) (hexec : p.tables.exec = Jvm.exec) {own : String} {index : Nat} {y : MethodName} {bytes : ByteArray} {maxL : Nat} {ret : Option FieldType} {hh : List (Nat × Nat × Nat × Nat)}
    (hown : s.vm.findClass own = some m.cls) (hlink : (Cond.methodLink own index y).before args s = true) (hstat : (Cond.static y).before args s = true) (hinit : (Cond.initialized y.cls).before args s = true)
    (hcode : (Cond.codeWith y bytes maxL ret hh).before args s = true) (hy : y.cls ≠ "java/lang/invoke/MethodHandle" ∧ y.cls ≠ "java/lang/invoke/VarHandle")
    {W9 : Nat} {Pre : Pt → Array Value → Prop} {Post : Pt → Array Value → Option Value → Pt → Prop} {PostX : Pt → Array Value → Addr → Pt → Prop} (hK : vx_Back l R p e below s args y 3 W9 Pre Post PostX)
    {g : JFrame} (hg : g.method = m) (hsize : g.locals.size = c.maxLocals) {argsL rest : List Value} (hlen : ∀ sig, parseMethodDescriptor y.desc = some sig → argsL.length = sig.parameters.length)
    (hstack : g.stack = argsL.reverse ++ rest) (hW : 2 * g.monitorRoom + (rest.map fun v => v.category).sum ≤ W9) (hdg : decode c.code g.pc = .ok (.invokestatic index, 3))
    (hpre : ∀ vm₁, s.WarmedH vm₁ → Pre ⟨T.setVm vm₁, locs, cells, slots⟩ argsL.toArray) :
    (∃ (v : Option Value) (vm₁ : Vm) (B : Pt), s.WarmedH vm₁ ∧ Stand p l e R s m args below meth c B.U B.locs B.cells B.slots ∧ Post ⟨T.setVm vm₁, locs, cells, slots⟩ argsL.toArray v B ∧
      ∀ target, Steps p.tables e below (B.U.setTop { g with pc := g.pc + 3, stack := v.toList ++ rest }) target → Steps p.tables e below (T.setTop g) target) ∨
    (∃ (q : Addr) (vm₁ : Vm) (B : Pt), s.WarmedH vm₁ ∧ Stand p l e R s m args below meth c B.U B.locs B.cells B.slots ∧ PostX ⟨T.setVm vm₁, locs, cells, slots⟩ argsL.toArray q B ∧
      Steps p.tables e below (T.setTop g) ((B.U.setTop { g with stack := rest }).pushFrame (.throwing q))) := by
  obtain ⟨mk, methM, cM, hnamed, hmethM, -, -, -, -, -, -, hsigM⟩ := Cond.codeWith_spec hcode
  have hstatic : methM.isStatic = true := Cond.static_spec hnamed hmethM hstat
  obtain ⟨kP, hkP, -⟩ := className_of_methodNamed hnamed
  have hinitP : kP.init = .initialized := Cond.initialized_spec (findClass_of_methodNamed hnamed) hkP hinit
  obtain ⟨vm₁, X₁, hstep₁⟩ := X.invokestatic hexec hown hlink hnamed hmethM hstatic hkP hinitP hy (g := g) hg (argsL := argsL) (rest := rest) (hlen _ hsigM) hstack hdg
  rcases hK m meth c ⟨T.setVm vm₁, locs, cells, slots⟩ { g with stack := rest } (.invokestatic index) mk argsL.toArray X₁ hg hsize hdg hW (X₁.named hnamed) (hpre vm₁ X₁.warmed) with ⟨v, B, X', hpost, hsteps⟩ | ⟨q, B, X', hpost, hsteps⟩
  · exact Or.inl ⟨v, vm₁, B, X₁.warmed, X', hpost, fun target h => hstep₁ _ fun acts => by rw [doInvoke_state]; exact hsteps.trans h⟩
  · exact Or.inr ⟨q, vm₁, B, X₁.warmed, X', hpost, hstep₁ _ fun acts => by rw [doInvoke_state]; exact hsteps⟩
theorem vx_callVW (X : Stand p l e R s m args below meth c T locs cells slots) (hexec : p.tables.exec = Jvm.exec) {own C : String} {index : Nat} {y : MethodName} {bytes : ByteArray} {maxL : Nat} {ret : Option FieldType} {hh : List (Nat × Nat × Nat × Nat)}
    (hown : s.vm.findClass own = some m.cls) (hlink : (Cond.methodLink own index y).before args s = true) (hinst : (Cond.instanceMethod y).before args s = true) (hsel : (Cond.selects C y y).before args s = true)
    (hcode : (Cond.codeWith y bytes maxL ret hh).before args s = true) (hy : y.cls ≠ "java/lang/invoke/MethodHandle" ∧ y.cls ≠ "java/lang/invoke/VarHandle")
    {W9 : Nat} {Pre : Pt → Array Value → Prop} {Post : Pt → Array Value → Option Value → Pt → Prop} (hK : Back l R p e below s args y 3 W9 Pre Post)
    {b : Addr} {cellB : Cell} (hcell : T.heap[b]? = some cellB) (hobj : cellB.vm.isStatics = false) (hcls : s.vm.findClass C = some cellB.cls)
    {g : JFrame} (hg : g.method = m) (hsize : g.locals.size = c.maxLocals) {argsL rest : List Value} (hlen : ∀ sig, parseMethodDescriptor y.desc = some sig → argsL.length = sig.parameters.length)
    (hstack : g.stack = argsL.reverse ++ .ref b :: rest) (hW : 2 * g.monitorRoom + (rest.map fun v => v.category).sum ≤ W9) (hdg : decode c.code g.pc = .ok (.invokevirtual index, 3))
    (hpre : ∀ vm₁, s.WarmedH vm₁ → Pre ⟨T.setVm vm₁, locs, cells, slots⟩ (Value.ref b :: argsL).toArray) :
    ∃ (v : Option Value) (vm₁ : Vm) (B : Pt), s.WarmedH vm₁ ∧ Stand p l e R s m args below meth c B.U B.locs B.cells B.slots ∧ Post ⟨T.setVm vm₁, locs, cells, slots⟩ (Value.ref b :: argsL).toArray v B ∧
      ∀ target, Steps p.tables e below (B.U.setTop { g with pc := g.pc + 3, stack := v.toList ++ rest }) target → Steps p.tables e below (T.setTop g) target := by
  obtain ⟨mk, methM, hnamed, hmethM, hstM, habM⟩ := Cond.instanceMethod_spec hinst
  obtain ⟨m8, methM', cM, hn8, hmethM', -, -, -, -, -, -, hsigM⟩ := Cond.codeWith_spec hcode
  cases Option.some.inj (hn8.symm.trans hnamed)
  cases hmethM.symm.trans hmethM'
  obtain ⟨c2, r2, m2, q1, q2, q3, q4, kP, hkP, hkPi⟩ := Cond.selects_spec hsel
  cases hcls.symm.trans q1
  cases (State.methodFound?_of_named hnamed hy).symm.trans q2
  cases hnamed.symm.trans q3
  have hselP : selectMethod e.platform s.vm cellB.cls mk = .method mk := by rw [Launch.admits_selectMethod X.admits]; exact q4
  obtain ⟨vm₁, X₁, hstep₁⟩ := X.invokevirtual hexec hown hlink hnamed hmethM hstM hkP hkPi hy (a := b) (cell := cellB) hcell
    (fun z h => by rw [h] at hobj; cases hobj) hselP hmethM habM hkP hkPi (g := g) hg (argsL := argsL) (rest := rest) (hlen _ hsigM) hstack hdg
  obtain ⟨v, B, X', hpost, hsteps⟩ := hK m meth c ⟨T.setVm vm₁, locs, cells, slots⟩ { g with stack := rest } (.invokevirtual index) mk (Value.ref b :: argsL).toArray X₁ hg hsize hdg hW (X₁.named hnamed) (hpre vm₁ X₁.warmed)
  exact ⟨v, vm₁, B, X₁.warmed, X', hpost, fun target h => hstep₁ _ fun acts => by rw [doInvoke_state]; exact hsteps.trans h⟩
abbrev vx_CVW (R : Room) (s : State) (args : Array Value) (own C : String) (index : Nat) (y : MethodName) (bytes : ByteArray) (maxL : Nat) (ret : Option FieldType) (hh : List (Nat × Nat × Nat × Nat)) (ws : List Cond) (rm : Room) (mc ms n : Nat) : Prop :=
  (rm.cells = mc ∧ rm.slots = ms ∧ rm.frames + 1 ≤ R.frames ∧ 8 + (maxL + 11) + rm.locals ≤ R.locals ∧ (∀ w ∈ ws, ∀ (a' : Array Value) (U : State), s.WarmedH U.vm → w.before a' U = true) ∧ Cond.codeWith y bytes maxL ret hh ∈ ws) ∧
  (Cond.codeWith y bytes maxL ret hh).before args s = true ∧ (Cond.initialized y.cls).before args s = true ∧ (y.cls ≠ "java/lang/invoke/MethodHandle" ∧ y.cls ≠ "java/lang/invoke/VarHandle") ∧
  (∀ sig, parseMethodDescriptor y.desc = some sig → n = sig.parameters.length) ∧ (Cond.methodLink own index y).before args s = true ∧ (Cond.instanceMethod y).before args s = true ∧ (Cond.selects C y y).before args s = true
theorem vx_cwVW {own C : String} {index maxL mc ms : Nat} {y : MethodName} {bytes : ByteArray} {ret : Option FieldType} {hh : List (Nat × Nat × Nat × Nat)} {Ts ws ws' : List Cond} {rm : Room} (n : Nat) (ht : ∀ w ∈ Ts, w.before args s = true) (hT : GoodIn Ts (wsV own index C y ws)) (hw : ws = Cond.codeWith y bytes maxL ret hh :: ws') (hrc : rm.cells = mc) (hrs : rm.slots = ms)
    (hd : y.cls = C ∧ y.cls ≠ "java/lang/invoke/MethodHandle" ∧ y.cls ≠ "java/lang/invoke/VarHandle" ∧ (parseMethodDescriptor y.desc).map (fun d => d.parameters.length) = some n) (hR : rm.frames + 1 ≤ R.frames ∧ 8 + (maxL + 11) + rm.locals ≤ R.locals) :
    vx_CVW R s args own C index y bytes maxL ret hh ws rm mc ms n := by
  obtain ⟨hC, hd⟩ := hd
  subst hC
  have ok : ∀ w ∈ wsV own index y.cls y ws, w.before args s = true := fun w h => ht w (hT w h).1
  have hG : GoodIn Ts ws := fun w h => hT w (by unfold wsV; exact List.mem_append_right _ h)
  have hc : Cond.codeWith y bytes maxL ret hh ∈ ws := by rw [hw]; exact List.mem_cons_self
  refine ⟨⟨hrc, hrs, hR.1, hR.2, pay_in ht hG, hc⟩, ht _ (hG _ hc).1, ok _ (by simp [wsV]), ⟨hd.1, hd.2.1⟩, fun sig h => ?_, ok _ (by simp [wsV]), ok _ (by simp [wsV]), ok _ (by simp [wsV])⟩
  have h2 := hd.2.2
  rw [h] at h2
  exact (Option.some.inj h2).symm
theorem vx_runVW {y : MethodName} {bytes cc : ByteArray} {maxL nL mc ms n index : Nat} {ret : Option FieldType} {hh : List (Nat × Nat × Nat × Nat)} {ws : List Cond} {rm : Room} {Pc : Array Value → State → Prop} {Qc : Array Value → State → Outcome → State → Prop} {free : Addr → Prop} {Ts : List Cond} {own C : String} {b : Addr} {As rest : List Value} {g : JFrame}
    (S : CallFix p m c cc nL s args Ts own) (hM : Met l y ws rm Pc Qc mc ms free) (cw : vx_CVW R s args own C index y bytes maxL ret hh ws rm mc ms n) (hp : PreV s H C b Pc As)
    (hg : g.method = m) (hn : As.length = n) (hsize : g.locals.size = nL) (hstack : g.stack = As.reverse ++ .ref b :: rest) (hW : 2 * g.monitorRoom + (rest.map fun v => v.category).sum ≤ 8) (hdg : decode cc g.pc = .ok (.invokevirtual index, 3)) (hf : cells + mc ≤ R.cells ∧ slots + ms ≤ R.slots) :
    va_Run p l e R s m args below meth c H locs cells slots mc ms g rest (Qc (Value.ref b :: As).toArray) free := by
  obtain ⟨⟨hrc, hrs, hfr, hlo, hws, hcw⟩, hcode, hini, hy, hlen, hl, hin, hse⟩ := cw
  have hK : Back l R p e below s args y 3 8 (PreOf R mc ms Pc) (PostOf Qc mc ms free) := va_backW (hh := hh) (bytes := bytes) (maxL := maxL) (ret := ret) hM hp.1 hrc hrs hfr hlo hws hcw (fun a' U hW => word_at hW (Or.inl (by first | rfl | simp [Cond.onTables, Cond.keeps, Cond.steady])) hini)
  obtain ⟨hx, hb, hml, ho, -⟩ := S
  obtain ⟨-, ⟨cellB, hcB, hoB, hclB⟩, hPc⟩ := hp
  intro T hT X
  obtain ⟨v, vm₁, ⟨U', l2, c2, s2⟩, hW₁, X', ⟨g', mk, t, L, e1, e2, hq, h1, hL, h2, h3⟩, st⟩ := vx_callVW X hx (C := C) (hh := hh) (bytes := bytes) (maxL := maxL) (ret := ret) ho hl hin hse hcode hy hK (by rw [hT]; exact hcB) hoB hclB hg (hsize.trans hml.symm) (argsL := As) (rest := rest) (fun sig h => hn.trans (hlen sig h)) hstack hW (by rw [hb]; exact hdg)
    (fun vm₁ hW₁ => ⟨hf.1, hf.2, hPc (T.setVm vm₁) hT hW₁⟩)
  dsimp only [Pt.U, Pt.locs, Pt.cells, Pt.slots] at X' e1 e2 h1 h2 h3 st
  subst h1; subst h2; subst h3
  exact ⟨v, (T.setVm vm₁).calling g' mk (Value.ref b :: As).toArray, t, U', L, hT, X', hL, e1, e2, hq, st⟩
section
variable {y : MethodName} {bytes cc : ByteArray} {maxL nL mc ms n index : Nat} {ret : Option FieldType} {ws : List Cond} {rm : Room} {Pc : Array Value → State → Prop} {Qc : Array Value → State → Outcome → State → Prop} {XC : String → State → State → Prop} {free : Addr → Prop} {Ts : List Cond} {own C : String} {b : Addr} {As rest : List Value} {g : JFrame}
theorem vx_runVX {hh : List (Nat × Nat × Nat × Nat)} (S : CallFix p m c cc nL s args Ts own) (hM : vx_Met l y ws rm Pc Qc XC mc ms free) (cw : vx_CVW R s args own C index y bytes maxL ret hh ws rm mc ms n) (hp : PreV s H C b Pc As)
    (hg : g.method = m) (hn : As.length = n) (hsize : g.locals.size = nL) (hstack : g.stack = As.reverse ++ .ref b :: rest) (hW : 2 * g.monitorRoom + (rest.map fun v => v.category).sum ≤ 8) (hdg : decode cc g.pc = .ok (.invokevirtual index, 3)) (hf : cells + mc ≤ R.cells ∧ slots + ms ≤ R.slots) :
    vx_Run p l e R s m args below meth c H locs cells slots mc ms g rest (Qc (Value.ref b :: As).toArray) XC free := by
  obtain ⟨⟨hrc, hrs, hfr, hlo, hws, hcw⟩, hcode, hini, hy, hlen, hl, hin, hse⟩ := cw
  have hK : vx_Back l R p e below s args y 3 8 (PreOf R mc ms Pc) (PostOf Qc mc ms free) (vx_Post XC mc ms free) := vx_backW (hh := hh) (bytes := bytes) (maxL := maxL) (ret := ret) hM hp.1 hrc hrs hfr hlo hws hcw (fun a' U hW => word_at hW (Or.inl (by first | rfl | simp [Cond.onTables, Cond.keeps, Cond.steady])) hini)
  obtain ⟨hx, hb, hml, ho, -⟩ := S
  obtain ⟨-, ⟨cellB, hcB, hoB, hclB⟩, hPc⟩ := hp
  intro T hT X
  rcases vx_callVX X hx (C := C) (hh := hh) (bytes := bytes) (maxL := maxL) (ret := ret) ho hl hin hse hcode hy hK (by rw [hT]; exact hcB) hoB hclB hg (hsize.trans hml.symm) (argsL := As) (rest := rest) (fun sig h => hn.trans (hlen sig h)) hstack hW (by rw [hb]; exact hdg)
    (fun vm₁ hW₁ => ⟨hf.1, hf.2, hPc (T.setVm vm₁) hT hW₁⟩) with ⟨v, vm₁, ⟨U', l2, c2, s2⟩, hW₁, X', ⟨g', mk, t, L, e1, e2, hq, h1, hL, h2, h3⟩, st⟩ | ⟨q, vm₁, ⟨U', l2, c2, s2⟩, hW₁, X', ⟨g', mk, t, L, E, ce, e1, e2, hq, hce, hcv, hcl, h1, hL, h2, h3⟩, st⟩
  · dsimp only [Pt.U, Pt.locs, Pt.cells, Pt.slots] at X' e1 e2 h1 h2 h3 st
    subst h1; subst h2; subst h3
    exact Or.inl ⟨v, (T.setVm vm₁).calling g' mk (Value.ref b :: As).toArray, t, U', L, hT, X', hL, e1, e2, hq, st⟩
  · dsimp only [Pt.U, Pt.locs, Pt.cells, Pt.slots] at X' e1 e2 h1 h2 h3 st hcl
    subst h1; subst h2; subst h3
    exact Or.inr ⟨q, (T.setVm vm₁).calling g' mk (Value.ref b :: As).toArray, t, U', L, E, ce, hT, X', hL, e1, e2, hq, hce, hcv, vx_cls hW₁ hcl, st⟩
theorem vx_runSX {hh : List (Nat × Nat × Nat × Nat)} (S : CallFix p m c cc nL s args Ts own) (hM : vx_Met l y ws rm Pc Qc XC mc ms free) (cw : vx_CSW R s args own index y bytes maxL ret hh ws rm mc ms n) (hp : PreS s H Pc As)
    (hg : g.method = m) (hn : As.length = n) (hsize : g.locals.size = nL) (hstack : g.stack = As.reverse ++ rest) (hW : 2 * g.monitorRoom + (rest.map fun v => v.category).sum ≤ 8) (hdg : decode cc g.pc = .ok (.invokestatic index, 3)) (hf : cells + mc ≤ R.cells ∧ slots + ms ≤ R.slots) :
    vx_Run p l e R s m args below meth c H locs cells slots mc ms g rest (Qc As.toArray) XC free := by
  obtain ⟨⟨hrc, hrs, hfr, hlo, hws, hcw⟩, hcode, hini, hy, hlen, hl, hstt⟩ := cw
  have hK : vx_Back l R p e below s args y 3 8 (PreOf R mc ms Pc) (PostOf Qc mc ms free) (vx_Post XC mc ms free) := vx_backW (hh := hh) (bytes := bytes) (maxL := maxL) (ret := ret) hM hp.1 hrc hrs hfr hlo hws hcw (fun a' U hW => word_at hW (Or.inl (by first | rfl | simp [Cond.onTables, Cond.keeps, Cond.steady])) hini)
  obtain ⟨hx, hb, hml, ho, -⟩ := S
  intro T hT X
  rcases vx_callSX X hx (hh := hh) (bytes := bytes) (maxL := maxL) (ret := ret) ho hl hstt hini hcode hy hK hg (hsize.trans hml.symm) (argsL := As) (rest := rest) (fun sig h => hn.trans (hlen sig h)) hstack hW (by rw [hb]; exact hdg)
    (fun vm₁ hW₁ => ⟨hf.1, hf.2, hp.2 (T.setVm vm₁) hT hW₁⟩) with ⟨v, vm₁, ⟨U', l2, c2, s2⟩, hW₁, X', ⟨g', mk, t, L, e1, e2, hq, h1, hL, h2, h3⟩, st⟩ | ⟨q, vm₁, ⟨U', l2, c2, s2⟩, hW₁, X', ⟨g', mk, t, L, E, ce, e1, e2, hq, hce, hcv, hcl, h1, hL, h2, h3⟩, st⟩
  · dsimp only [Pt.U, Pt.locs, Pt.cells, Pt.slots] at X' e1 e2 h1 h2 h3 st
    subst h1; subst h2; subst h3
    exact Or.inl ⟨v, (T.setVm vm₁).calling g' mk As.toArray, t, U', L, hT, X', hL, e1, e2, hq, st⟩
  · dsimp only [Pt.U, Pt.locs, Pt.cells, Pt.slots] at X' e1 e2 h1 h2 h3 st hcl
    subst h1; subst h2; subst h3
    exact Or.inr ⟨q, (T.setVm vm₁).calling g' mk As.toArray, t, U', L, E, ce, hT, X', hL, e1, e2, hq, hce, hcv, vx_cls hW₁ hcl, st⟩
end
end VXH
theorem vx_ofWH {l : Launch} {y : MethodName} {ws ws' : List Cond} {rm : Room} {Pc : Array Value → State → Prop} {Qc : Array Value → State → Outcome → State → Prop} {XC : String → State → State → Prop} {mc ms : Nat} {free : Addr → Prop} {cc : ByteArray} {maxL : Nat} {ret : Option FieldType} {hh : List (Nat × Nat × Nat × Nat)}
    (hy : plainName y.cls = true) (hw : ws = Cond.codeWith y cc maxL ret hh :: ws')
    (body : ∀ p e s m args below meth c s₁, BodyLoose p l y (headSpec ws rm) cc maxL ret e s m args below meth c s₁ → c.maxLocals = maxL → Pc args s →
      W p l e (headSpec ws rm).room s m args below meth c s.heap [] 0 0 (vx_MQ below Qc XC args s mc ms free) (entryFrame m args maxL)) : vx_Met l y ws rm Pc Qc XC mc ms free := by
  refine MetFree.of_bodyS (code := cc) (maxLocals := maxL) (ret := ret) hy ?_ ?_
  · intro args s m h hn
    obtain ⟨m9, meth, c, hn9, h1, h2, h3, h4, -, h5, h6, -⟩ := Cond.codeWith_spec (atoms_spec (ws := ws) h _ (by rw [hw]; exact List.mem_cons_self))
    cases hn.symm.trans hn9
    exact ⟨meth, c, h1, h2, h3, h4, h5, h6⟩
  · intro p e s m args below meth c s₁ B hml hP _
    have hh0 : s₁.heap = s.heap := by rw [B.state]; rfl
    obtain ⟨t, a1, o, b1, b2, b3⟩ := body p e s m args below meth c s₁ B hml hP s₁ hh0 (Stand.of_body B)
    exact ⟨t, o, a1, b1, b2, b3⟩
/-! ===== END ===== -/

/-! ===== BEGIN printed: names, fields, word lists, decode rows ===== -/
def RX0 : String := "ForwardLog$Disk"
def TX0 : u_T := fun k => match k with
  | 0 => ("ForwardLog$Disk", "octets", "[I", true)
  | 1 => ("ForwardLog$Disk", "used", "I", false)
  | _ => ("ForwardLog$Disk", "synced", "I", false)
def tyX0 : Nat → FieldType := fun k => match k with
  | 0 => .array .int
  | 1 => .int
  | _ => .int
abbrev wsX00 : List Cond := u_ws RX0 TX0 3
theorem nmX0 : ∀ a, a < 3 → ∀ b, b < 3 → a ≠ b → (TX0 a).2.1 ≠ (TX0 b).2.1 := by decide +kernel
theorem tyX0_ok : ∀ k, k < 3 → parseFieldDescriptor (TX0 k).2.2.1 = some (tyX0 k) := by decide +kernel
abbrev cX0_init : ByteArray := prog_2_method_1_code
def yX0_init : MethodName := ⟨RX0, "<init>", "()V"⟩
abbrev cX0_cutTo : ByteArray := prog_2_method_2_code
def yX0_cutTo : MethodName := ⟨RX0, "cutTo", "(I)V"⟩
abbrev cX0_add : ByteArray := prog_2_method_3_code
def yX0_add : MethodName := ⟨RX0, "add", "(I)V"⟩
abbrev cX0_has : ByteArray := prog_2_method_4_code
def yX0_has : MethodName := ⟨RX0, "has", "(I)Z"⟩
abbrev cX0_octetAt : ByteArray := prog_2_method_5_code
def yX0_octetAt : MethodName := ⟨RX0, "octetAt", "(I)I"⟩
abbrev cX0_turnRound : ByteArray := prog_2_method_6_code
def yX0_turnRound : MethodName := ⟨RX0, "turnRound", "(II)I"⟩
abbrev cX0_isWhole : ByteArray := prog_2_method_7_code
def yX0_isWhole : MethodName := ⟨RX0, "isWhole", "(I)Z"⟩
abbrev cX0_sizeAt : ByteArray := prog_2_method_8_code
def yX0_sizeAt : MethodName := ⟨RX0, "sizeAt", "(I)I"⟩
abbrev cX0_passedOverAt : ByteArray := prog_2_method_9_code
def yX0_passedOverAt : MethodName := ⟨RX0, "passedOverAt", "(I)I"⟩
abbrev cX0_wholeEnd : ByteArray := prog_2_method_10_code
def yX0_wholeEnd : MethodName := ⟨RX0, "wholeEnd", "()I"⟩
abbrev cX0_nextIndex : ByteArray := prog_2_method_11_code
def yX0_nextIndex : MethodName := ⟨RX0, "nextIndex", "()I"⟩
abbrev cX0_tagBefore : ByteArray := prog_2_method_12_code
def yX0_tagBefore : MethodName := ⟨RX0, "tagBefore", "(I[I)V"⟩
def RX1 : String := "ForwardLog$Hasher"
def TX1 : u_T := fun k => match k with
  | 0 => ("ForwardLog$Hasher", "text", "[I", true)
  | 1 => ("ForwardLog$Hasher", "schedule", "[I", true)
  | 2 => ("ForwardLog$Hasher", "state", "[I", true)
  | _ => ("ForwardLog$Hasher", "filled", "I", false)
def tyX1 : Nat → FieldType := fun k => match k with
  | 0 => .array .int
  | 1 => .array .int
  | 2 => .array .int
  | _ => .int
abbrev wsX10 : List Cond := u_ws RX1 TX1 4
theorem nmX1 : ∀ a, a < 4 → ∀ b, b < 4 → a ≠ b → (TX1 a).2.1 ≠ (TX1 b).2.1 := by decide +kernel
theorem tyX1_ok : ∀ k, k < 4 → parseFieldDescriptor (TX1 k).2.2.1 = some (tyX1 k) := by decide +kernel
abbrev cX1_init : ByteArray := prog_3_method_1_code
def yX1_init : MethodName := ⟨RX1, "<init>", "()V"⟩
abbrev cX1_clear : ByteArray := prog_3_method_2_code
def yX1_clear : MethodName := ⟨RX1, "clear", "()V"⟩
abbrev cX1_put : ByteArray := prog_3_method_3_code
def yX1_put : MethodName := ⟨RX1, "put", "(I)V"⟩
abbrev cX1_hashOctet : ByteArray := prog_3_method_4_code
def yX1_hashOctet : MethodName := ⟨RX1, "hashOctet", "(I)I"⟩
abbrev cX1_makeTag : ByteArray := prog_3_method_5_code
def yX1_makeTag : MethodName := ⟨RX1, "makeTag", "(LForwardLog$KeyChain;LForwardLog$Disk;I[I)V"⟩
abbrev cX1_putKey : ByteArray := prog_3_method_6_code
def yX1_putKey : MethodName := ⟨RX1, "putKey", "(LForwardLog$KeyChain;I)V"⟩
abbrev cX1_finish : ByteArray := prog_3_method_7_code
def yX1_finish : MethodName := ⟨RX1, "finish", "()V"⟩
abbrev cX1_compress : ByteArray := prog_3_method_8_code
def yX1_compress : MethodName := ⟨RX1, "compress", "()V"⟩
abbrev cX1_expand : ByteArray := prog_3_method_9_code
def yX1_expand : MethodName := ⟨RX1, "expand", "(I)V"⟩
abbrev cX1_turned : ByteArray := prog_3_method_10_code
def yX1_turned : MethodName := ⟨RX1, "turned", "(II)I"⟩
def RX2 : String := "ForwardLog$KeyChain"
def TX2 : u_T := fun k => match k with
  | 0 => ("ForwardLog$KeyChain", "octets", "[I", true)
  | _ => ("ForwardLog$KeyChain", "index", "I", false)
def tyX2 : Nat → FieldType := fun k => match k with
  | 0 => .array .int
  | _ => .int
abbrev wsX20 : List Cond := u_ws RX2 TX2 2
theorem nmX2 : ∀ a, a < 2 → ∀ b, b < 2 → a ≠ b → (TX2 a).2.1 ≠ (TX2 b).2.1 := by decide +kernel
theorem tyX2_ok : ∀ k, k < 2 → parseFieldDescriptor (TX2 k).2.2.1 = some (tyX2 k) := by decide +kernel
abbrev cX2_init : ByteArray := prog_4_method_1_code
def yX2_init : MethodName := ⟨RX2, "<init>", "()V"⟩
abbrev cX2_start : ByteArray := prog_4_method_2_code
def yX2_start : MethodName := ⟨RX2, "start", "(IIII)V"⟩
abbrev cX2_turn : ByteArray := prog_4_method_3_code
def yX2_turn : MethodName := ⟨RX2, "turn", "(LForwardLog$Hasher;)V"⟩
def RX3 : String := "ForwardLog$Verifier"
def TX3 : u_T := fun k => match k with
  | 0 => ("ForwardLog$Verifier", "chain", "LForwardLog$KeyChain;", true)
  | 1 => ("ForwardLog$Verifier", "tagBefore", "[I", true)
  | 2 => ("ForwardLog$Verifier", "seen", "LForwardLog$Disk;", true)
  | 3 => ("ForwardLog$Verifier", "begins", "[I", true)
  | 4 => ("ForwardLog$Verifier", "indexes", "[I", true)
  | 5 => ("ForwardLog$Verifier", "hasRun", "Z", false)
  | 6 => ("ForwardLog$Verifier", "good", "I", false)
  | 7 => ("ForwardLog$Verifier", "badBegin", "I", false)
  | _ => ("ForwardLog$Verifier", "passedOver", "I", false)
def tyX3 : Nat → FieldType := fun k => match k with
  | 0 => .object "ForwardLog$KeyChain"
  | 1 => .array .int
  | 2 => .object "ForwardLog$Disk"
  | 3 => .array .int
  | 4 => .array .int
  | 5 => .boolean
  | 6 => .int
  | 7 => .int
  | _ => .int
abbrev wsX30 : List Cond := u_ws RX3 TX3 9
theorem nmX3 : ∀ a, a < 9 → ∀ b, b < 9 → a ≠ b → (TX3 a).2.1 ≠ (TX3 b).2.1 := by decide +kernel
theorem tyX3_ok : ∀ k, k < 9 → parseFieldDescriptor (TX3 k).2.2.1 = some (tyX3 k) := by decide +kernel
abbrev cX3_init : ByteArray := prog_5_method_1_code
def yX3_init : MethodName := ⟨RX3, "<init>", "()V"⟩
abbrev cX3_forget : ByteArray := prog_5_method_2_code
def yX3_forget : MethodName := ⟨RX3, "forget", "()V"⟩
abbrev cX3_goThrough : ByteArray := prog_5_method_3_code
def yX3_goThrough : MethodName := ⟨RX3, "goThrough", "(LForwardLog$Disk;LForwardLog$Hasher;IIII)I"⟩
abbrev cX3_isGood : ByteArray := prog_5_method_4_code
def yX3_isGood : MethodName := ⟨RX3, "isGood", "(ILForwardLog$Hasher;)Z"⟩
abbrev cX3_answer : ByteArray := prog_5_method_5_code
def yX3_answer : MethodName := ⟨RX3, "answer", "(I)I"⟩
abbrev cX3_partOf : ByteArray := prog_5_method_6_code
def yX3_partOf : MethodName := ⟨RX3, "partOf", "(II)I"⟩
def RX4 : String := "ForwardLog"
def TX4 : u_T := fun k => match k with
  | 0 => ("ForwardLog", "hasher", "LForwardLog$Hasher;", true)
  | 1 => ("ForwardLog", "disk", "LForwardLog$Disk;", true)
  | 2 => ("ForwardLog", "writerKey", "LForwardLog$KeyChain;", true)
  | 3 => ("ForwardLog", "lastTag", "[I", true)
  | 4 => ("ForwardLog", "buffer", "[I", true)
  | 5 => ("ForwardLog", "gapBytes", "[I", true)
  | 6 => ("ForwardLog", "verifier", "LForwardLog$Verifier;", true)
  | 7 => ("ForwardLog", "buffered", "I", false)
  | 8 => ("ForwardLog", "up", "Z", false)
  | _ => ("ForwardLog", "crashes", "I", false)
def tyX4 : Nat → FieldType := fun k => match k with
  | 0 => .object "ForwardLog$Hasher"
  | 1 => .object "ForwardLog$Disk"
  | 2 => .object "ForwardLog$KeyChain"
  | 3 => .array .int
  | 4 => .array .int
  | 5 => .array .int
  | 6 => .object "ForwardLog$Verifier"
  | 7 => .int
  | 8 => .boolean
  | _ => .int
abbrev wsX40 : List Cond := u_ws RX4 TX4 10
theorem nmX4 : ∀ a, a < 10 → ∀ b, b < 10 → a ≠ b → (TX4 a).2.1 ≠ (TX4 b).2.1 := by decide +kernel
theorem tyX4_ok : ∀ k, k < 10 → parseFieldDescriptor (TX4 k).2.2.1 = some (tyX4 k) := by decide +kernel
abbrev cX4_init : ByteArray := prog_1_method_1_code
def yX4_init : MethodName := ⟨RX4, "<init>", "()V"⟩
abbrev cX4_begin : ByteArray := prog_1_method_2_code
def yX4_begin : MethodName := ⟨RX4, "begin", "(IIII)V"⟩
abbrev cX4_feed : ByteArray := prog_1_method_3_code
def yX4_feed : MethodName := ⟨RX4, "feed", "(IIIII)I"⟩
abbrev cX4_erase : ByteArray := prog_1_method_4_code
def yX4_erase : MethodName := ⟨RX4, "erase", "()I"⟩
abbrev cX4_append : ByteArray := prog_1_method_5_code
def yX4_append : MethodName := ⟨RX4, "append", "()I"⟩
abbrev cX4_seal : ByteArray := prog_1_method_6_code
def yX4_seal : MethodName := ⟨RX4, "seal", "()I"⟩
abbrev cX4_sync : ByteArray := prog_1_method_7_code
def yX4_sync : MethodName := ⟨RX4, "sync", "()I"⟩
abbrev cX4_crash : ByteArray := prog_1_method_8_code
def yX4_crash : MethodName := ⟨RX4, "crash", "(I)I"⟩
abbrev cX4_recover : ByteArray := prog_1_method_9_code
def yX4_recover : MethodName := ⟨RX4, "recover", "()I"⟩
abbrev cX4_verify : ByteArray := prog_1_method_10_code
def yX4_verify : MethodName := ⟨RX4, "verify", "(IIII)I"⟩
abbrev cX4_told : ByteArray := prog_1_method_11_code
def yX4_told : MethodName := ⟨RX4, "told", "(I)I"⟩
abbrev cX4_record : ByteArray := prog_1_method_12_code
def yX4_record : MethodName := ⟨RX4, "record", "(II)I"⟩
abbrev cX4_bend : ByteArray := prog_1_method_13_code
def yX4_bend : MethodName := ⟨RX4, "bend", "(II)I"⟩
abbrev cX4_octet : ByteArray := prog_1_method_14_code
def yX4_octet : MethodName := ⟨RX4, "octet", "(I)I"⟩
abbrev cX4_key : ByteArray := prog_1_method_15_code
def yX4_key : MethodName := ⟨RX4, "key", "(I)I"⟩
abbrev cX4_count : ByteArray := prog_1_method_16_code
def yX4_count : MethodName := ⟨RX4, "count", "(I)I"⟩
abbrev cX4_write : ByteArray := prog_1_method_17_code
def yX4_write : MethodName := ⟨RX4, "write", "(I[II)I"⟩
abbrev cX4_recordSize : ByteArray := prog_1_method_18_code
def yX4_recordSize : MethodName := ⟨RX4, "recordSize", "(I)I"⟩
abbrev cX4_octetOfFour : ByteArray := prog_1_method_19_code
def yX4_octetOfFour : MethodName := ⟨RX4, "octetOfFour", "(IIIII)I"⟩
def RX5 : String := "ForwardLogModel"
def TX5 : u_T := fun k => match k with
  | 0 => ("ForwardLogModel", "refusal", "I", false)
  | 1 => ("ForwardLogModel", "disk", "[I", true)
  | 2 => ("ForwardLogModel", "size", "I", false)
  | 3 => ("ForwardLogModel", "synced", "I", false)
  | 4 => ("ForwardLogModel", "buffer", "[I", true)
  | 5 => ("ForwardLogModel", "filled", "I", false)
  | 6 => ("ForwardLogModel", "isUp", "Z", false)
  | 7 => ("ForwardLogModel", "index", "I", false)
  | 8 => ("ForwardLogModel", "crashes", "I", false)
  | 9 => ("ForwardLogModel", "key", "[I", true)
  | 10 => ("ForwardLogModel", "lastTag", "[I", true)
  | 11 => ("ForwardLogModel", "text", "[I", true)
  | 12 => ("ForwardLogModel", "textSize", "I", false)
  | 13 => ("ForwardLogModel", "word", "[I", true)
  | 14 => ("ForwardLogModel", "state", "[I", true)
  | 15 => ("ForwardLogModel", "digest", "[I", true)
  | 16 => ("ForwardLogModel", "way", "[I", true)
  | 17 => ("ForwardLogModel", "before", "[I", true)
  | 18 => ("ForwardLogModel", "kind", "I", false)
  | 19 => ("ForwardLogModel", "length", "I", false)
  | 20 => ("ForwardLogModel", "passed", "I", false)
  | 21 => ("ForwardLogModel", "isVerified", "Z", false)
  | 22 => ("ForwardLogModel", "badRecord", "I", false)
  | 23 => ("ForwardLogModel", "badPlace", "I", false)
  | 24 => ("ForwardLogModel", "good", "I", false)
  | 25 => ("ForwardLogModel", "goodPassed", "I", false)
  | 26 => ("ForwardLogModel", "isSealed", "Z", false)
  | 27 => ("ForwardLogModel", "copy", "[I", true)
  | 28 => ("ForwardLogModel", "from", "[I", true)
  | _ => ("ForwardLogModel", "number", "[I", true)
def tyX5 : Nat → FieldType := fun k => match k with
  | 0 => .int
  | 1 => .array .int
  | 2 => .int
  | 3 => .int
  | 4 => .array .int
  | 5 => .int
  | 6 => .boolean
  | 7 => .int
  | 8 => .int
  | 9 => .array .int
  | 10 => .array .int
  | 11 => .array .int
  | 12 => .int
  | 13 => .array .int
  | 14 => .array .int
  | 15 => .array .int
  | 16 => .array .int
  | 17 => .array .int
  | 18 => .int
  | 19 => .int
  | 20 => .int
  | 21 => .boolean
  | 22 => .int
  | 23 => .int
  | 24 => .int
  | 25 => .int
  | 26 => .boolean
  | 27 => .array .int
  | 28 => .array .int
  | _ => .array .int
abbrev wsX50 : List Cond := u_ws RX5 TX5 30
theorem nmX5 : ∀ a, a < 30 → ∀ b, b < 30 → a ≠ b → (TX5 a).2.1 ≠ (TX5 b).2.1 := by decide +kernel
theorem tyX5_ok : ∀ k, k < 30 → parseFieldDescriptor (TX5 k).2.2.1 = some (tyX5 k) := by decide +kernel
abbrev cX5_init : ByteArray := prog_7_method_1_code
def yX5_init : MethodName := ⟨RX5, "<init>", "()V"⟩
abbrev cX5_thrown : ByteArray := prog_7_method_2_code
def yX5_thrown : MethodName := ⟨RX5, "thrown", "()I"⟩
abbrev cX5_refused : ByteArray := prog_7_method_3_code
def yX5_refused : MethodName := ⟨RX5, "refused", "(I)Z"⟩
abbrev cX5_forget : ByteArray := prog_7_method_4_code
def yX5_forget : MethodName := ⟨RX5, "forget", "()V"⟩
abbrev cX5_round : ByteArray := prog_7_method_5_code
def yX5_round : MethodName := ⟨RX5, "round", "(I)I"⟩
abbrev cX5_first : ByteArray := prog_7_method_6_code
def yX5_first : MethodName := ⟨RX5, "first", "(I)I"⟩
abbrev cX5_right : ByteArray := prog_7_method_7_code
def yX5_right : MethodName := ⟨RX5, "right", "(II)I"⟩
abbrev cX5_add : ByteArray := prog_7_method_8_code
def yX5_add : MethodName := ⟨RX5, "add", "(I)V"⟩
abbrev cX5_addNumber : ByteArray := prog_7_method_9_code
def yX5_addNumber : MethodName := ⟨RX5, "addNumber", "(I)V"⟩
abbrev cX5_block : ByteArray := prog_7_method_10_code
def yX5_block : MethodName := ⟨RX5, "block", "(I)V"⟩
abbrev cX5_hash : ByteArray := prog_7_method_11_code
def yX5_hash : MethodName := ⟨RX5, "hash", "()V"⟩
abbrev cX5_step : ByteArray := prog_7_method_12_code
def yX5_step : MethodName := ⟨RX5, "step", "()V"⟩
abbrev cX5_pad : ByteArray := prog_7_method_13_code
def yX5_pad : MethodName := ⟨RX5, "pad", "(I)V"⟩
abbrev cX5_tag : ByteArray := prog_7_method_14_code
def yX5_tag : MethodName := ⟨RX5, "tag", "(II)V"⟩
abbrev cX5_clear : ByteArray := prog_7_method_15_code
def yX5_clear : MethodName := ⟨RX5, "clear", "()V"⟩
abbrev cX5_byteOf : ByteArray := prog_7_method_16_code
def yX5_byteOf : MethodName := ⟨RX5, "byteOf", "(IIIII)I"⟩
abbrev cX5_begin : ByteArray := prog_7_method_17_code
def yX5_begin : MethodName := ⟨RX5, "begin", "(IIII)V"⟩
abbrev cX5_feed : ByteArray := prog_7_method_18_code
def yX5_feed : MethodName := ⟨RX5, "feed", "(IIIII)I"⟩
abbrev cX5_erase : ByteArray := prog_7_method_19_code
def yX5_erase : MethodName := ⟨RX5, "erase", "()I"⟩
abbrev cX5_write : ByteArray := prog_7_method_20_code
def yX5_write : MethodName := ⟨RX5, "write", "(I)I"⟩
abbrev cX5_fits : ByteArray := prog_7_method_21_code
def yX5_fits : MethodName := ⟨RX5, "fits", "(I)Z"⟩
abbrev cX5_append : ByteArray := prog_7_method_22_code
def yX5_append : MethodName := ⟨RX5, "append", "()I"⟩
abbrev cX5_seal : ByteArray := prog_7_method_23_code
def yX5_seal : MethodName := ⟨RX5, "seal", "()I"⟩
abbrev cX5_sync : ByteArray := prog_7_method_24_code
def yX5_sync : MethodName := ⟨RX5, "sync", "()I"⟩
abbrev cX5_crash : ByteArray := prog_7_method_25_code
def yX5_crash : MethodName := ⟨RX5, "crash", "(I)I"⟩
abbrev cX5_look : ByteArray := prog_7_method_26_code
def yX5_look : MethodName := ⟨RX5, "look", "(I)Z"⟩
abbrev cX5_recover : ByteArray := prog_7_method_27_code
def yX5_recover : MethodName := ⟨RX5, "recover", "()I"⟩
abbrev cX5_bears : ByteArray := prog_7_method_28_code
def yX5_bears : MethodName := ⟨RX5, "bears", "(II)Z"⟩
abbrev cX5_verify : ByteArray := prog_7_method_29_code
def yX5_verify : MethodName := ⟨RX5, "verify", "(IIII)I"⟩
abbrev cX5_told : ByteArray := prog_7_method_30_code
def yX5_told : MethodName := ⟨RX5, "told", "(I)I"⟩
abbrev cX5_record : ByteArray := prog_7_method_31_code
def yX5_record : MethodName := ⟨RX5, "record", "(II)I"⟩
abbrev cX5_bend : ByteArray := prog_7_method_32_code
def yX5_bend : MethodName := ⟨RX5, "bend", "(II)I"⟩
abbrev cX5_octet : ByteArray := prog_7_method_33_code
def yX5_octet : MethodName := ⟨RX5, "octet", "(I)I"⟩
abbrev cX5_key : ByteArray := prog_7_method_34_code
def yX5_key : MethodName := ⟨RX5, "key", "(I)I"⟩
abbrev cX5_count : ByteArray := prog_7_method_35_code
def yX5_count : MethodName := ⟨RX5, "count", "(I)I"⟩
def RJ9 : String := "java/lang/Math"
def TJ9 : u_T := fun k => match k with
  | _ => ("", "", "", false)
def tyJ9 : Nat → FieldType := fun k => match k with
  | _ => .int
abbrev wsJ90 : List Cond := u_ws RJ9 TJ9 0
theorem nmJ9 : ∀ a, a < 0 → ∀ b, b < 0 → a ≠ b → (TJ9 a).2.1 ≠ (TJ9 b).2.1 := by decide +kernel
theorem tyJ9_ok : ∀ k, k < 0 → parseFieldDescriptor (TJ9 k).2.2.1 = some (tyJ9 k) := by decide +kernel
abbrev cJ9_max_7cf53 : ByteArray := prog_12_method_65_code
def yJ9_max_7cf53 : MethodName := ⟨RJ9, "max", "(II)I"⟩
abbrev cJ9_min_7cf53 : ByteArray := prog_12_method_69_code
def yJ9_min_7cf53 : MethodName := ⟨RJ9, "min", "(II)I"⟩
def RJ0 : String := "java/lang/String"
def TJ0 : u_T := fun k => match k with
  | _ => ("", "", "", false)
def tyJ0 : Nat → FieldType := fun k => match k with
  | _ => .int
abbrev wsJ00 : List Cond := u_ws RJ0 TJ0 0
theorem nmJ0 : ∀ a, a < 0 → ∀ b, b < 0 → a ≠ b → (TJ0 a).2.1 ≠ (TJ0 b).2.1 := by decide +kernel
theorem tyJ0_ok : ∀ k, k < 0 → parseFieldDescriptor (TJ0 k).2.2.1 = some (tyJ0 k) := by decide +kernel
def RL : String := "ForwardLogLaw"
abbrev cL_feed : ByteArray := method_3_code
def yL_feed : MethodName := ⟨RL, "feed", "(LForwardLog;IIIII[J)I"⟩
abbrev cL_append : ByteArray := method_4_code
def yL_append : MethodName := ⟨RL, "append", "(LForwardLog;[J)I"⟩
abbrev cL_seal : ByteArray := method_5_code
def yL_seal : MethodName := ⟨RL, "seal", "(LForwardLog;[J)I"⟩
abbrev cL_sync : ByteArray := method_6_code
def yL_sync : MethodName := ⟨RL, "sync", "(LForwardLog;[J)I"⟩
abbrev cL_crash : ByteArray := method_7_code
def yL_crash : MethodName := ⟨RL, "crash", "(LForwardLog;I[J)I"⟩
abbrev cL_recover : ByteArray := method_8_code
def yL_recover : MethodName := ⟨RL, "recover", "(LForwardLog;[J)I"⟩
abbrev cL_told : ByteArray := method_9_code
def yL_told : MethodName := ⟨RL, "told", "(LForwardLog;I[J)I"⟩
abbrev cL_record : ByteArray := method_10_code
def yL_record : MethodName := ⟨RL, "record", "(LForwardLog;II[J)I"⟩
abbrev cL_bend : ByteArray := method_11_code
def yL_bend : MethodName := ⟨RL, "bend", "(LForwardLog;II[J)I"⟩
abbrev cL_key : ByteArray := method_12_code
def yL_key : MethodName := ⟨RL, "key", "(LForwardLog;I[J)I"⟩
abbrev cL_count : ByteArray := method_13_code
def yL_count : MethodName := ⟨RL, "count", "(LForwardLog;I[J)I"⟩
abbrev cL_law : ByteArray := code
def yL_law : MethodName := ⟨RL, "law", "([I)Z"⟩
def wsX0_init : List Cond := .code yX0_init cX0_init 1 none :: ([.methodLink RX0 3 objectInit, .instanceMethod objectInit, .code objectInit ⟨#[0xb1]⟩ 1 none, .arrayClass .int, .fieldLink RX0 9 "ForwardLog$Disk" "octets" "[I", .fieldLink RX0 15 "ForwardLog$Disk" "used" "I", .fieldLink RX0 19 "ForwardLog$Disk" "synced" "I"] ++ wsX00)
def wsX0_cutTo : List Cond := .code yX0_cutTo cX0_cutTo 2 none :: ([.fieldLink RX0 15 "ForwardLog$Disk" "used" "I", .fieldLink RX0 19 "ForwardLog$Disk" "synced" "I"] ++ wsX00)
def wsX0_add : List Cond := .code yX0_add cX0_add 2 none :: ([.fieldLink RX0 15 "ForwardLog$Disk" "used" "I", .fieldLink RX0 9 "ForwardLog$Disk" "octets" "[I"] ++ wsX00)
def wsX0_has : List Cond := .code yX0_has cX0_has 2 (some .boolean) :: ([.fieldLink RX0 15 "ForwardLog$Disk" "used" "I", .fieldLink RX0 9 "ForwardLog$Disk" "octets" "[I"] ++ wsX00)
def wsX0_octetAt : List Cond := .code yX0_octetAt cX0_octetAt 2 (some .int) :: ([.fieldLink RX0 9 "ForwardLog$Disk" "octets" "[I", .methodLink RX0 22 yX0_has, .instanceMethod yX0_has, .selects RX0 yX0_has yX0_has, .initialized RX0, .code yX0_has cX0_has 2 (some .boolean), .fieldLink RX0 15 "ForwardLog$Disk" "used" "I"] ++ wsX00)
def wsX0_turnRound : List Cond := .code yX0_turnRound cX0_turnRound 3 (some .int) :: ([.fieldLink RX0 9 "ForwardLog$Disk" "octets" "[I", .methodLink RX0 22 yX0_has, .instanceMethod yX0_has, .selects RX0 yX0_has yX0_has, .initialized RX0, .code yX0_has cX0_has 2 (some .boolean), .fieldLink RX0 15 "ForwardLog$Disk" "used" "I"] ++ wsX00)
def wsX4_recordSize : List Cond := .code yX4_recordSize cX4_recordSize 1 (some .int) :: ([])
def wsX0_isWhole : List Cond := .code yX0_isWhole cX0_isWhole 4 (some .boolean) :: ([.fieldLink RX0 15 "ForwardLog$Disk" "used" "I", .methodLink RX0 26 yX0_octetAt, .instanceMethod yX0_octetAt, .selects RX0 yX0_octetAt yX0_octetAt, .initialized RX0, .code yX0_octetAt cX0_octetAt 2 (some .int), .fieldLink RX0 9 "ForwardLog$Disk" "octets" "[I", .methodLink RX0 22 yX0_has, .instanceMethod yX0_has, .selects RX0 yX0_has yX0_has, .code yX0_has cX0_has 2 (some .boolean), .static yX4_recordSize, .initialized RX4, .code yX4_recordSize cX4_recordSize 1 (some .int)] ++ wsX00)
def wsX0_sizeAt : List Cond := .code yX0_sizeAt cX0_sizeAt 2 (some .int) :: ([.methodLink RX0 26 yX0_octetAt, .instanceMethod yX0_octetAt, .selects RX0 yX0_octetAt yX0_octetAt, .initialized RX0, .code yX0_octetAt cX0_octetAt 2 (some .int), .fieldLink RX0 9 "ForwardLog$Disk" "octets" "[I", .methodLink RX0 22 yX0_has, .instanceMethod yX0_has, .selects RX0 yX0_has yX0_has, .code yX0_has cX0_has 2 (some .boolean), .fieldLink RX0 15 "ForwardLog$Disk" "used" "I", .static yX4_recordSize, .initialized RX4, .code yX4_recordSize cX4_recordSize 1 (some .int)] ++ wsX00)
def wsX0_passedOverAt : List Cond := .code yX0_passedOverAt cX0_passedOverAt 2 (some .int) :: ([.methodLink RX0 26 yX0_octetAt, .instanceMethod yX0_octetAt, .selects RX0 yX0_octetAt yX0_octetAt, .initialized RX0, .code yX0_octetAt cX0_octetAt 2 (some .int), .fieldLink RX0 9 "ForwardLog$Disk" "octets" "[I", .methodLink RX0 22 yX0_has, .instanceMethod yX0_has, .selects RX0 yX0_has yX0_has, .code yX0_has cX0_has 2 (some .boolean), .fieldLink RX0 15 "ForwardLog$Disk" "used" "I"] ++ wsX00)
def wsX0_wholeEnd : List Cond := .code yX0_wholeEnd cX0_wholeEnd 3 (some .int) :: ([.methodLink RX0 33 yX0_isWhole, .instanceMethod yX0_isWhole, .selects RX0 yX0_isWhole yX0_isWhole, .initialized RX0, .code yX0_isWhole cX0_isWhole 4 (some .boolean), .fieldLink RX0 15 "ForwardLog$Disk" "used" "I", .methodLink RX0 26 yX0_octetAt, .instanceMethod yX0_octetAt, .selects RX0 yX0_octetAt yX0_octetAt, .code yX0_octetAt cX0_octetAt 2 (some .int), .fieldLink RX0 9 "ForwardLog$Disk" "octets" "[I", .methodLink RX0 22 yX0_has, .instanceMethod yX0_has, .selects RX0 yX0_has yX0_has, .code yX0_has cX0_has 2 (some .boolean), .static yX4_recordSize, .initialized RX4, .code yX4_recordSize cX4_recordSize 1 (some .int), .methodLink RX0 36 yX0_sizeAt, .instanceMethod yX0_sizeAt, .selects RX0 yX0_sizeAt yX0_sizeAt, .code yX0_sizeAt cX0_sizeAt 2 (some .int)] ++ wsX00)
def wsX0_nextIndex_r1 : List Cond := [Cond.methodLink RX0 33 yX0_isWhole, Cond.instanceMethod yX0_isWhole, Cond.selects RX0 yX0_isWhole yX0_isWhole, Cond.initialized RX0, Cond.code yX0_isWhole cX0_isWhole 4 (some .boolean), Cond.fieldLink RX0 15 "ForwardLog$Disk" "used" "I", Cond.methodLink RX0 26 yX0_octetAt, Cond.instanceMethod yX0_octetAt, Cond.selects RX0 yX0_octetAt yX0_octetAt, Cond.code yX0_octetAt cX0_octetAt 2 (some .int), Cond.fieldLink RX0 9 "ForwardLog$Disk" "octets" "[I", Cond.methodLink RX0 22 yX0_has, Cond.instanceMethod yX0_has, Cond.selects RX0 yX0_has yX0_has, Cond.code yX0_has cX0_has 2 (some .boolean), Cond.static yX4_recordSize, Cond.initialized RX4, Cond.code yX4_recordSize cX4_recordSize 1 (some .int), Cond.methodLink RX0 39 yX0_passedOverAt, Cond.instanceMethod yX0_passedOverAt, Cond.selects RX0 yX0_passedOverAt yX0_passedOverAt, Cond.code yX0_passedOverAt cX0_passedOverAt 2 (some .int), Cond.methodLink RX0 36 yX0_sizeAt, Cond.instanceMethod yX0_sizeAt]
def wsX0_nextIndex_r2 : List Cond := [Cond.selects RX0 yX0_sizeAt yX0_sizeAt, Cond.code yX0_sizeAt cX0_sizeAt 2 (some .int)]
def wsX0_nextIndex : List Cond := .code yX0_nextIndex cX0_nextIndex 4 (some .int) :: ((wsX0_nextIndex_r1 ++ wsX0_nextIndex_r2) ++ wsX00)
def wsX0_tagBefore : List Cond := .code yX0_tagBefore cX0_tagBefore 4 none :: ([.methodLink RX0 42 Lib.Math.max.name, .static Lib.Math.max.name, .initialized "java/lang/Math", .code Lib.Math.max.name Lib.Math.max.code 2 (some .int), .methodLink RX0 26 yX0_octetAt, .instanceMethod yX0_octetAt, .selects RX0 yX0_octetAt yX0_octetAt, .initialized RX0, .code yX0_octetAt cX0_octetAt 2 (some .int), .fieldLink RX0 9 "ForwardLog$Disk" "octets" "[I", .methodLink RX0 22 yX0_has, .instanceMethod yX0_has, .selects RX0 yX0_has yX0_has, .code yX0_has cX0_has 2 (some .boolean), .fieldLink RX0 15 "ForwardLog$Disk" "used" "I"] ++ wsX00)
def wsX1_init : List Cond := .code yX1_init cX1_init 1 none :: ([.methodLink RX1 3 objectInit, .instanceMethod objectInit, .code objectInit ⟨#[0xb1]⟩ 1 none, .arrayClass .int, .fieldLink RX1 9 "ForwardLog$Hasher" "text" "[I", .fieldLink RX1 15 "ForwardLog$Hasher" "schedule" "[I", .fieldLink RX1 18 "ForwardLog$Hasher" "state" "[I", .fieldLink RX1 21 "ForwardLog$Hasher" "filled" "I"] ++ wsX10)
def wsX1_clear : List Cond := .code yX1_clear cX1_clear 1 none :: ([.fieldLink RX1 21 "ForwardLog$Hasher" "filled" "I"] ++ wsX10)
def wsX1_put : List Cond := .code yX1_put cX1_put 2 none :: ([.fieldLink RX1 21 "ForwardLog$Hasher" "filled" "I", .fieldLink RX1 9 "ForwardLog$Hasher" "text" "[I"] ++ wsX10)
def wsX1_hashOctet : List Cond := .code yX1_hashOctet cX1_hashOctet 2 (some .int) :: ([.fieldLink RX1 18 "ForwardLog$Hasher" "state" "[I"] ++ wsX10)
def wsX1_putKey : List Cond := .code yX1_putKey cX1_putKey 4 none :: ([.fieldLink RX1 53 "ForwardLog$KeyChain" "octets" "[I", .methodLink RX1 50 yX1_clear, .instanceMethod yX1_clear, .selects RX1 yX1_clear yX1_clear, .initialized RX1, .code yX1_clear cX1_clear 1 none, .fieldLink RX1 21 "ForwardLog$Hasher" "filled" "I", .methodLink RX1 34 yX1_put, .instanceMethod yX1_put, .selects RX1 yX1_put yX1_put, .code yX1_put cX1_put 2 none, .fieldLink RX1 9 "ForwardLog$Hasher" "text" "[I"] ++ wsX20 ++ wsX10)
def wsX1_turned : List Cond := .code yX1_turned cX1_turned 2 (some .int) :: ([])
def wsX1_expand : List Cond := .code yX1_expand cX1_expand 7 none :: ([.fieldLink RX1 15 "ForwardLog$Hasher" "schedule" "[I", .fieldLink RX1 9 "ForwardLog$Hasher" "text" "[I", .methodLink RX1 65 yX1_turned, .static yX1_turned, .initialized RX1, .code yX1_turned cX1_turned 2 (some .int)] ++ wsX10)
def wsX1_compress : List Cond := .code yX1_compress cX1_compress 14 none :: ([.fieldLink RX1 18 "ForwardLog$Hasher" "state" "[I", .fieldLink RX1 15 "ForwardLog$Hasher" "schedule" "[I", .methodLink RX1 65 yX1_turned, .static yX1_turned, .initialized RX1, .code yX1_turned cX1_turned 2 (some .int)] ++ wsX10)
def wsX1_finish : List Cond := .code yX1_finish cX1_finish 4 none :: ([.fieldLink RX1 21 "ForwardLog$Hasher" "filled" "I", .fieldLink RX1 18 "ForwardLog$Hasher" "state" "[I", .methodLink RX1 34 yX1_put, .instanceMethod yX1_put, .selects RX1 yX1_put yX1_put, .initialized RX1, .code yX1_put cX1_put 2 none, .fieldLink RX1 9 "ForwardLog$Hasher" "text" "[I", .methodLink RX1 59 yX1_expand, .instanceMethod yX1_expand, .selects RX1 yX1_expand yX1_expand, .code yX1_expand cX1_expand 7 none, .fieldLink RX1 15 "ForwardLog$Hasher" "schedule" "[I", .methodLink RX1 65 yX1_turned, .static yX1_turned, .code yX1_turned cX1_turned 2 (some .int), .methodLink RX1 62 yX1_compress, .instanceMethod yX1_compress, .selects RX1 yX1_compress yX1_compress, .code yX1_compress cX1_compress 14 none] ++ wsX10)
def wsX1_makeTag_r1 : List Cond := [Cond.fieldLink RX1 29 "ForwardLog$KeyChain" "index" "I", Cond.methodLink RX1 25 yX1_putKey, Cond.instanceMethod yX1_putKey, Cond.selects RX1 yX1_putKey yX1_putKey, Cond.initialized RX1, Cond.code yX1_putKey cX1_putKey 4 none, Cond.fieldLink RX1 53 "ForwardLog$KeyChain" "octets" "[I", Cond.methodLink RX1 50 yX1_clear, Cond.instanceMethod yX1_clear, Cond.selects RX1 yX1_clear yX1_clear, Cond.code yX1_clear cX1_clear 1 none, Cond.fieldLink RX1 21 "ForwardLog$Hasher" "filled" "I", Cond.methodLink RX1 34 yX1_put, Cond.instanceMethod yX1_put, Cond.selects RX1 yX1_put yX1_put, Cond.code yX1_put cX1_put 2 none, Cond.fieldLink RX1 9 "ForwardLog$Hasher" "text" "[I", Cond.methodLink RX1 38 yX0_octetAt, Cond.instanceMethod yX0_octetAt, Cond.selects RX0 yX0_octetAt yX0_octetAt, Cond.initialized RX0, Cond.code yX0_octetAt cX0_octetAt 2 (some .int), Cond.fieldLink RX0 9 "ForwardLog$Disk" "octets" "[I", Cond.methodLink RX0 22 yX0_has]
def wsX1_makeTag_r2 : List Cond := [Cond.instanceMethod yX0_has, Cond.selects RX0 yX0_has yX0_has, Cond.code yX0_has cX0_has 2 (some .boolean), Cond.fieldLink RX0 15 "ForwardLog$Disk" "used" "I", Cond.methodLink RX1 44 yX1_finish, Cond.instanceMethod yX1_finish, Cond.selects RX1 yX1_finish yX1_finish, Cond.code yX1_finish cX1_finish 4 none, Cond.fieldLink RX1 18 "ForwardLog$Hasher" "state" "[I", Cond.methodLink RX1 59 yX1_expand, Cond.instanceMethod yX1_expand, Cond.selects RX1 yX1_expand yX1_expand, Cond.code yX1_expand cX1_expand 7 none, Cond.fieldLink RX1 15 "ForwardLog$Hasher" "schedule" "[I", Cond.methodLink RX1 65 yX1_turned, Cond.static yX1_turned, Cond.code yX1_turned cX1_turned 2 (some .int), Cond.methodLink RX1 62 yX1_compress, Cond.instanceMethod yX1_compress, Cond.selects RX1 yX1_compress yX1_compress, Cond.code yX1_compress cX1_compress 14 none, Cond.methodLink RX1 47 yX1_hashOctet, Cond.instanceMethod yX1_hashOctet, Cond.selects RX1 yX1_hashOctet yX1_hashOctet]
def wsX1_makeTag_r3 : List Cond := [Cond.code yX1_hashOctet cX1_hashOctet 2 (some .int)]
def wsX1_makeTag : List Cond := .code yX1_makeTag cX1_makeTag 7 none :: ((wsX1_makeTag_r1 ++ (wsX1_makeTag_r2 ++ wsX1_makeTag_r3)) ++ wsX20 ++ wsX10 ++ wsX00)
def wsX2_init : List Cond := .code yX2_init cX2_init 1 none :: ([.methodLink RX2 3 objectInit, .instanceMethod objectInit, .code objectInit ⟨#[0xb1]⟩ 1 none, .arrayClass .int, .fieldLink RX2 9 "ForwardLog$KeyChain" "octets" "[I", .fieldLink RX2 15 "ForwardLog$KeyChain" "index" "I"] ++ wsX20)
def wsX4_octetOfFour : List Cond := .code yX4_octetOfFour cX4_octetOfFour 6 (some .int) :: ([])
def wsX2_start : List Cond := .code yX2_start cX2_start 6 none :: ([.fieldLink RX2 9 "ForwardLog$KeyChain" "octets" "[I", .fieldLink RX2 15 "ForwardLog$KeyChain" "index" "I", .static yX4_octetOfFour, .initialized RX4, .code yX4_octetOfFour cX4_octetOfFour 6 (some .int)] ++ wsX20)
def wsX2_turn_r1 : List Cond := [Cond.fieldLink RX2 9 "ForwardLog$KeyChain" "octets" "[I", Cond.fieldLink RX2 15 "ForwardLog$KeyChain" "index" "I", Cond.methodLink RX2 23 yX1_clear, Cond.instanceMethod yX1_clear, Cond.selects RX1 yX1_clear yX1_clear, Cond.initialized RX1, Cond.code yX1_clear cX1_clear 1 none, Cond.fieldLink RX1 21 "ForwardLog$Hasher" "filled" "I", Cond.methodLink RX2 28 yX1_put, Cond.instanceMethod yX1_put, Cond.selects RX1 yX1_put yX1_put, Cond.code yX1_put cX1_put 2 none, Cond.fieldLink RX1 9 "ForwardLog$Hasher" "text" "[I", Cond.methodLink RX2 32 yX1_finish, Cond.instanceMethod yX1_finish, Cond.selects RX1 yX1_finish yX1_finish, Cond.code yX1_finish cX1_finish 4 none, Cond.fieldLink RX1 18 "ForwardLog$Hasher" "state" "[I", Cond.methodLink RX1 34 yX1_put, Cond.methodLink RX1 59 yX1_expand, Cond.instanceMethod yX1_expand, Cond.selects RX1 yX1_expand yX1_expand, Cond.code yX1_expand cX1_expand 7 none, Cond.fieldLink RX1 15 "ForwardLog$Hasher" "schedule" "[I"]
def wsX2_turn_r2 : List Cond := [Cond.methodLink RX1 65 yX1_turned, Cond.static yX1_turned, Cond.code yX1_turned cX1_turned 2 (some .int), Cond.methodLink RX1 62 yX1_compress, Cond.instanceMethod yX1_compress, Cond.selects RX1 yX1_compress yX1_compress, Cond.code yX1_compress cX1_compress 14 none, Cond.methodLink RX2 35 yX1_hashOctet, Cond.instanceMethod yX1_hashOctet, Cond.selects RX1 yX1_hashOctet yX1_hashOctet, Cond.code yX1_hashOctet cX1_hashOctet 2 (some .int)]
def wsX2_turn : List Cond := .code yX2_turn cX2_turn 3 none :: ((wsX2_turn_r1 ++ wsX2_turn_r2) ++ wsX20 ++ wsX10)
def wsX3_forget : List Cond := .code yX3_forget cX3_forget 1 none :: ([.fieldLink RX3 38 "ForwardLog$Verifier" "hasRun" "Z", .fieldLink RX3 42 "ForwardLog$Verifier" "good" "I", .fieldLink RX3 46 "ForwardLog$Verifier" "badBegin" "I", .fieldLink RX3 49 "ForwardLog$Verifier" "passedOver" "I", .fieldLink RX3 25 "ForwardLog$Verifier" "seen" "LForwardLog$Disk;", .methodLink RX3 52 yX0_cutTo, .instanceMethod yX0_cutTo, .selects RX0 yX0_cutTo yX0_cutTo, .initialized RX0, .code yX0_cutTo cX0_cutTo 2 none, .fieldLink RX0 15 "ForwardLog$Disk" "used" "I", .fieldLink RX0 19 "ForwardLog$Disk" "synced" "I"] ++ wsX30 ++ wsX00)
def wsX3_init_r1 : List Cond := [Cond.methodLink RX3 3 objectInit, Cond.instanceMethod objectInit, Cond.code objectInit ⟨#[0xb1]⟩ 1 none, Cond.classLink RX3 9 RX2, Cond.instantiable RX2 2, Cond.initialized RX2, Cond.fieldLink RX3 12 "ForwardLog$Verifier" "chain" "LForwardLog$KeyChain;", Cond.arrayClass .int, Cond.fieldLink RX3 18 "ForwardLog$Verifier" "tagBefore" "[I", Cond.classLink RX3 22 RX0, Cond.instantiable RX0 3, Cond.initialized RX0, Cond.fieldLink RX3 25 "ForwardLog$Verifier" "seen" "LForwardLog$Disk;", Cond.fieldLink RX3 29 "ForwardLog$Verifier" "begins" "[I", Cond.fieldLink RX3 32 "ForwardLog$Verifier" "indexes" "[I", Cond.methodLink RX3 11 yX2_init, Cond.instanceMethod yX2_init, Cond.code yX2_init cX2_init 1 none, Cond.methodLink RX2 3 objectInit, Cond.fieldLink RX2 9 "ForwardLog$KeyChain" "octets" "[I", Cond.fieldLink RX2 15 "ForwardLog$KeyChain" "index" "I", Cond.methodLink RX3 24 yX0_init, Cond.instanceMethod yX0_init, Cond.code yX0_init cX0_init 1 none]
def wsX3_init_r2 : List Cond := [Cond.methodLink RX0 3 objectInit, Cond.fieldLink RX0 9 "ForwardLog$Disk" "octets" "[I", Cond.fieldLink RX0 15 "ForwardLog$Disk" "used" "I", Cond.fieldLink RX0 19 "ForwardLog$Disk" "synced" "I", Cond.methodLink RX3 35 yX3_forget, Cond.instanceMethod yX3_forget, Cond.selects RX3 yX3_forget yX3_forget, Cond.initialized RX3, Cond.code yX3_forget cX3_forget 1 none, Cond.fieldLink RX3 38 "ForwardLog$Verifier" "hasRun" "Z", Cond.fieldLink RX3 42 "ForwardLog$Verifier" "good" "I", Cond.fieldLink RX3 46 "ForwardLog$Verifier" "badBegin" "I", Cond.fieldLink RX3 49 "ForwardLog$Verifier" "passedOver" "I", Cond.methodLink RX3 52 yX0_cutTo, Cond.instanceMethod yX0_cutTo, Cond.selects RX0 yX0_cutTo yX0_cutTo, Cond.code yX0_cutTo cX0_cutTo 2 none]
def wsX3_init : List Cond := .code yX3_init cX3_init 1 none :: ((wsX3_init_r1 ++ wsX3_init_r2) ++ wsX20 ++ wsX30 ++ wsX00)
def wsX3_isGood_r1 : List Cond := [Cond.fieldLink RX3 25 "ForwardLog$Verifier" "seen" "LForwardLog$Disk;", Cond.fieldLink RX3 12 "ForwardLog$Verifier" "chain" "LForwardLog$KeyChain;", Cond.fieldLink RX3 18 "ForwardLog$Verifier" "tagBefore" "[I", Cond.methodLink RX3 87 yX0_isWhole, Cond.instanceMethod yX0_isWhole, Cond.selects RX0 yX0_isWhole yX0_isWhole, Cond.initialized RX0, Cond.code yX0_isWhole cX0_isWhole 4 (some .boolean), Cond.fieldLink RX0 15 "ForwardLog$Disk" "used" "I", Cond.methodLink RX0 26 yX0_octetAt, Cond.instanceMethod yX0_octetAt, Cond.selects RX0 yX0_octetAt yX0_octetAt, Cond.code yX0_octetAt cX0_octetAt 2 (some .int), Cond.fieldLink RX0 9 "ForwardLog$Disk" "octets" "[I", Cond.methodLink RX0 22 yX0_has, Cond.instanceMethod yX0_has, Cond.selects RX0 yX0_has yX0_has, Cond.code yX0_has cX0_has 2 (some .boolean), Cond.static yX4_recordSize, Cond.initialized RX4, Cond.code yX4_recordSize cX4_recordSize 1 (some .int), Cond.methodLink RX3 77 yX0_passedOverAt, Cond.instanceMethod yX0_passedOverAt, Cond.selects RX0 yX0_passedOverAt yX0_passedOverAt]
def wsX3_isGood_r2 : List Cond := [Cond.code yX0_passedOverAt cX0_passedOverAt 2 (some .int), Cond.methodLink RX3 63 yX0_octetAt, Cond.methodLink RX3 80 yX2_turn, Cond.instanceMethod yX2_turn, Cond.selects RX2 yX2_turn yX2_turn, Cond.initialized RX2, Cond.code yX2_turn cX2_turn 3 none, Cond.fieldLink RX2 9 "ForwardLog$KeyChain" "octets" "[I", Cond.fieldLink RX2 15 "ForwardLog$KeyChain" "index" "I", Cond.methodLink RX2 23 yX1_clear, Cond.instanceMethod yX1_clear, Cond.selects RX1 yX1_clear yX1_clear, Cond.initialized RX1, Cond.code yX1_clear cX1_clear 1 none, Cond.fieldLink RX1 21 "ForwardLog$Hasher" "filled" "I", Cond.methodLink RX2 28 yX1_put, Cond.instanceMethod yX1_put, Cond.selects RX1 yX1_put yX1_put, Cond.code yX1_put cX1_put 2 none, Cond.fieldLink RX1 9 "ForwardLog$Hasher" "text" "[I", Cond.methodLink RX2 32 yX1_finish, Cond.instanceMethod yX1_finish, Cond.selects RX1 yX1_finish yX1_finish, Cond.code yX1_finish cX1_finish 4 none]
def wsX3_isGood_r3 : List Cond := [Cond.fieldLink RX1 18 "ForwardLog$Hasher" "state" "[I", Cond.methodLink RX1 34 yX1_put, Cond.methodLink RX1 59 yX1_expand, Cond.instanceMethod yX1_expand, Cond.selects RX1 yX1_expand yX1_expand, Cond.code yX1_expand cX1_expand 7 none, Cond.fieldLink RX1 15 "ForwardLog$Hasher" "schedule" "[I", Cond.methodLink RX1 65 yX1_turned, Cond.static yX1_turned, Cond.code yX1_turned cX1_turned 2 (some .int), Cond.methodLink RX1 62 yX1_compress, Cond.instanceMethod yX1_compress, Cond.selects RX1 yX1_compress yX1_compress, Cond.code yX1_compress cX1_compress 14 none, Cond.methodLink RX2 35 yX1_hashOctet, Cond.instanceMethod yX1_hashOctet, Cond.selects RX1 yX1_hashOctet yX1_hashOctet, Cond.code yX1_hashOctet cX1_hashOctet 2 (some .int), Cond.methodLink RX3 91 yX0_tagBefore, Cond.instanceMethod yX0_tagBefore, Cond.selects RX0 yX0_tagBefore yX0_tagBefore, Cond.code yX0_tagBefore cX0_tagBefore 4 none, Cond.methodLink RX0 42 Lib.Math.max.name, Cond.static Lib.Math.max.name]
def wsX3_isGood_r4 : List Cond := [Cond.initialized "java/lang/Math", Cond.code Lib.Math.max.name Lib.Math.max.code 2 (some .int), Cond.methodLink RX3 94 yX1_makeTag, Cond.instanceMethod yX1_makeTag, Cond.selects RX1 yX1_makeTag yX1_makeTag, Cond.code yX1_makeTag cX1_makeTag 7 none, Cond.fieldLink RX1 29 "ForwardLog$KeyChain" "index" "I", Cond.methodLink RX1 25 yX1_putKey, Cond.instanceMethod yX1_putKey, Cond.selects RX1 yX1_putKey yX1_putKey, Cond.code yX1_putKey cX1_putKey 4 none, Cond.fieldLink RX1 53 "ForwardLog$KeyChain" "octets" "[I", Cond.methodLink RX1 50 yX1_clear, Cond.methodLink RX1 38 yX0_octetAt, Cond.methodLink RX1 44 yX1_finish, Cond.methodLink RX1 47 yX1_hashOctet, Cond.methodLink RX3 84 yX0_sizeAt, Cond.instanceMethod yX0_sizeAt, Cond.selects RX0 yX0_sizeAt yX0_sizeAt, Cond.code yX0_sizeAt cX0_sizeAt 2 (some .int), Cond.methodLink RX3 100 yX1_hashOctet]
def wsX3_isGood : List Cond := .code yX3_isGood cX3_isGood 6 (some .boolean) :: ((wsX3_isGood_r1 ++ (wsX3_isGood_r2 ++ (wsX3_isGood_r3 ++ wsX3_isGood_r4))) ++ wsX30 ++ wsX00 ++ wsX20 ++ wsX10)
def wsX3_goThrough_r1 : List Cond := [Cond.fieldLink RX3 38 "ForwardLog$Verifier" "hasRun" "Z", Cond.fieldLink RX3 12 "ForwardLog$Verifier" "chain" "LForwardLog$KeyChain;", Cond.fieldLink RX3 60 "ForwardLog$Disk" "used" "I", Cond.fieldLink RX3 25 "ForwardLog$Verifier" "seen" "LForwardLog$Disk;", Cond.fieldLink RX3 46 "ForwardLog$Verifier" "badBegin" "I", Cond.fieldLink RX3 29 "ForwardLog$Verifier" "begins" "[I", Cond.fieldLink RX3 32 "ForwardLog$Verifier" "indexes" "[I", Cond.fieldLink RX3 74 "ForwardLog$KeyChain" "index" "I", Cond.fieldLink RX3 42 "ForwardLog$Verifier" "good" "I", Cond.fieldLink RX3 49 "ForwardLog$Verifier" "passedOver" "I", Cond.methodLink RX3 35 yX3_forget, Cond.instanceMethod yX3_forget, Cond.selects RX3 yX3_forget yX3_forget, Cond.initialized RX3, Cond.code yX3_forget cX3_forget 1 none, Cond.methodLink RX3 52 yX0_cutTo, Cond.instanceMethod yX0_cutTo, Cond.selects RX0 yX0_cutTo yX0_cutTo, Cond.initialized RX0, Cond.code yX0_cutTo cX0_cutTo 2 none, Cond.fieldLink RX0 15 "ForwardLog$Disk" "used" "I", Cond.fieldLink RX0 19 "ForwardLog$Disk" "synced" "I", Cond.methodLink RX3 56 yX2_start, Cond.instanceMethod yX2_start]
def wsX3_goThrough_r2 : List Cond := [Cond.selects RX2 yX2_start yX2_start, Cond.initialized RX2, Cond.code yX2_start cX2_start 6 none, Cond.fieldLink RX2 9 "ForwardLog$KeyChain" "octets" "[I", Cond.fieldLink RX2 15 "ForwardLog$KeyChain" "index" "I", Cond.static yX4_octetOfFour, Cond.initialized RX4, Cond.code yX4_octetOfFour cX4_octetOfFour 6 (some .int), Cond.methodLink RX3 63 yX0_octetAt, Cond.instanceMethod yX0_octetAt, Cond.selects RX0 yX0_octetAt yX0_octetAt, Cond.code yX0_octetAt cX0_octetAt 2 (some .int), Cond.fieldLink RX0 9 "ForwardLog$Disk" "octets" "[I", Cond.methodLink RX0 22 yX0_has, Cond.instanceMethod yX0_has, Cond.selects RX0 yX0_has yX0_has, Cond.code yX0_has cX0_has 2 (some .boolean), Cond.methodLink RX3 67 yX0_add, Cond.instanceMethod yX0_add, Cond.selects RX0 yX0_add yX0_add, Cond.code yX0_add cX0_add 2 none, Cond.methodLink RX3 70 yX3_isGood, Cond.instanceMethod yX3_isGood, Cond.selects RX3 yX3_isGood yX3_isGood]
def wsX3_goThrough_r3 : List Cond := [Cond.code yX3_isGood cX3_isGood 6 (some .boolean), Cond.fieldLink RX3 18 "ForwardLog$Verifier" "tagBefore" "[I", Cond.methodLink RX3 87 yX0_isWhole, Cond.instanceMethod yX0_isWhole, Cond.selects RX0 yX0_isWhole yX0_isWhole, Cond.code yX0_isWhole cX0_isWhole 4 (some .boolean), Cond.methodLink RX0 26 yX0_octetAt, Cond.static yX4_recordSize, Cond.code yX4_recordSize cX4_recordSize 1 (some .int), Cond.methodLink RX3 77 yX0_passedOverAt, Cond.instanceMethod yX0_passedOverAt, Cond.selects RX0 yX0_passedOverAt yX0_passedOverAt, Cond.code yX0_passedOverAt cX0_passedOverAt 2 (some .int), Cond.methodLink RX3 80 yX2_turn, Cond.instanceMethod yX2_turn, Cond.selects RX2 yX2_turn yX2_turn, Cond.code yX2_turn cX2_turn 3 none, Cond.methodLink RX2 23 yX1_clear, Cond.instanceMethod yX1_clear, Cond.selects RX1 yX1_clear yX1_clear, Cond.initialized RX1, Cond.code yX1_clear cX1_clear 1 none, Cond.fieldLink RX1 21 "ForwardLog$Hasher" "filled" "I", Cond.methodLink RX2 28 yX1_put]
def wsX3_goThrough_r4 : List Cond := [Cond.instanceMethod yX1_put, Cond.selects RX1 yX1_put yX1_put, Cond.code yX1_put cX1_put 2 none, Cond.fieldLink RX1 9 "ForwardLog$Hasher" "text" "[I", Cond.methodLink RX2 32 yX1_finish, Cond.instanceMethod yX1_finish, Cond.selects RX1 yX1_finish yX1_finish, Cond.code yX1_finish cX1_finish 4 none, Cond.fieldLink RX1 18 "ForwardLog$Hasher" "state" "[I", Cond.methodLink RX1 34 yX1_put, Cond.methodLink RX1 59 yX1_expand, Cond.instanceMethod yX1_expand, Cond.selects RX1 yX1_expand yX1_expand, Cond.code yX1_expand cX1_expand 7 none, Cond.fieldLink RX1 15 "ForwardLog$Hasher" "schedule" "[I", Cond.methodLink RX1 65 yX1_turned, Cond.static yX1_turned, Cond.code yX1_turned cX1_turned 2 (some .int), Cond.methodLink RX1 62 yX1_compress, Cond.instanceMethod yX1_compress, Cond.selects RX1 yX1_compress yX1_compress, Cond.code yX1_compress cX1_compress 14 none, Cond.methodLink RX2 35 yX1_hashOctet, Cond.instanceMethod yX1_hashOctet]
def wsX3_goThrough_r5 : List Cond := [Cond.selects RX1 yX1_hashOctet yX1_hashOctet, Cond.code yX1_hashOctet cX1_hashOctet 2 (some .int), Cond.methodLink RX3 91 yX0_tagBefore, Cond.instanceMethod yX0_tagBefore, Cond.selects RX0 yX0_tagBefore yX0_tagBefore, Cond.code yX0_tagBefore cX0_tagBefore 4 none, Cond.methodLink RX0 42 Lib.Math.max.name, Cond.static Lib.Math.max.name, Cond.initialized "java/lang/Math", Cond.code Lib.Math.max.name Lib.Math.max.code 2 (some .int), Cond.methodLink RX3 94 yX1_makeTag, Cond.instanceMethod yX1_makeTag, Cond.selects RX1 yX1_makeTag yX1_makeTag, Cond.code yX1_makeTag cX1_makeTag 7 none, Cond.fieldLink RX1 29 "ForwardLog$KeyChain" "index" "I", Cond.methodLink RX1 25 yX1_putKey, Cond.instanceMethod yX1_putKey, Cond.selects RX1 yX1_putKey yX1_putKey, Cond.code yX1_putKey cX1_putKey 4 none, Cond.fieldLink RX1 53 "ForwardLog$KeyChain" "octets" "[I", Cond.methodLink RX1 50 yX1_clear, Cond.methodLink RX1 38 yX0_octetAt, Cond.methodLink RX1 44 yX1_finish, Cond.methodLink RX1 47 yX1_hashOctet]
def wsX3_goThrough_r6 : List Cond := [Cond.methodLink RX3 84 yX0_sizeAt, Cond.instanceMethod yX0_sizeAt, Cond.selects RX0 yX0_sizeAt yX0_sizeAt, Cond.code yX0_sizeAt cX0_sizeAt 2 (some .int), Cond.methodLink RX3 100 yX1_hashOctet]
def wsX3_goThrough : List Cond := .code yX3_goThrough cX3_goThrough 9 (some .int) :: ((wsX3_goThrough_r1 ++ (wsX3_goThrough_r2 ++ (wsX3_goThrough_r3 ++ (wsX3_goThrough_r4 ++ (wsX3_goThrough_r5 ++ wsX3_goThrough_r6))))) ++ wsX30 ++ wsX00 ++ wsX20 ++ wsX10)
def wsX3_partOf : List Cond := .code yX3_partOf cX3_partOf 5 (some .int) :: ([.fieldLink RX3 42 "ForwardLog$Verifier" "good" "I", .fieldLink RX3 29 "ForwardLog$Verifier" "begins" "[I", .fieldLink RX3 25 "ForwardLog$Verifier" "seen" "LForwardLog$Disk;", .fieldLink RX3 32 "ForwardLog$Verifier" "indexes" "[I", .methodLink RX3 63 yX0_octetAt, .instanceMethod yX0_octetAt, .selects RX0 yX0_octetAt yX0_octetAt, .initialized RX0, .code yX0_octetAt cX0_octetAt 2 (some .int), .fieldLink RX0 9 "ForwardLog$Disk" "octets" "[I", .methodLink RX0 22 yX0_has, .instanceMethod yX0_has, .selects RX0 yX0_has yX0_has, .code yX0_has cX0_has 2 (some .boolean), .fieldLink RX0 15 "ForwardLog$Disk" "used" "I"] ++ wsX30 ++ wsX00)
def wsX3_answer : List Cond := .code yX3_answer cX3_answer 2 (some .int) :: ([.fieldLink RX3 38 "ForwardLog$Verifier" "hasRun" "Z", .fieldLink RX3 46 "ForwardLog$Verifier" "badBegin" "I", .fieldLink RX3 42 "ForwardLog$Verifier" "good" "I", .fieldLink RX3 49 "ForwardLog$Verifier" "passedOver" "I", .methodLink RX3 103 yX3_partOf, .instanceMethod yX3_partOf, .selects RX3 yX3_partOf yX3_partOf, .initialized RX3, .code yX3_partOf cX3_partOf 5 (some .int), .fieldLink RX3 29 "ForwardLog$Verifier" "begins" "[I", .fieldLink RX3 25 "ForwardLog$Verifier" "seen" "LForwardLog$Disk;", .fieldLink RX3 32 "ForwardLog$Verifier" "indexes" "[I", .methodLink RX3 63 yX0_octetAt, .instanceMethod yX0_octetAt, .selects RX0 yX0_octetAt yX0_octetAt, .initialized RX0, .code yX0_octetAt cX0_octetAt 2 (some .int), .fieldLink RX0 9 "ForwardLog$Disk" "octets" "[I", .methodLink RX0 22 yX0_has, .instanceMethod yX0_has, .selects RX0 yX0_has yX0_has, .code yX0_has cX0_has 2 (some .boolean), .fieldLink RX0 15 "ForwardLog$Disk" "used" "I"] ++ wsX30 ++ wsX00)
def wsX4_init_r1 : List Cond := [Cond.methodLink RX4 1 objectInit, Cond.instanceMethod objectInit, Cond.code objectInit ⟨#[0xb1]⟩ 1 none, Cond.classLink RX4 7 RX1, Cond.instantiable RX1 4, Cond.initialized RX1, Cond.fieldLink RX4 10 "ForwardLog" "hasher" "LForwardLog$Hasher;", Cond.classLink RX4 16 RX0, Cond.instantiable RX0 3, Cond.initialized RX0, Cond.fieldLink RX4 19 "ForwardLog" "disk" "LForwardLog$Disk;", Cond.classLink RX4 23 RX2, Cond.instantiable RX2 2, Cond.initialized RX2, Cond.fieldLink RX4 26 "ForwardLog" "writerKey" "LForwardLog$KeyChain;", Cond.arrayClass .int, Cond.fieldLink RX4 30 "ForwardLog" "lastTag" "[I", Cond.fieldLink RX4 34 "ForwardLog" "buffer" "[I", Cond.fieldLink RX4 37 "ForwardLog" "gapBytes" "[I", Cond.classLink RX4 40 RX3, Cond.instantiable RX3 9, Cond.initialized RX3, Cond.fieldLink RX4 43 "ForwardLog" "verifier" "LForwardLog$Verifier;", Cond.fieldLink RX4 47 "ForwardLog" "buffered" "I"]
def wsX4_init_r2 : List Cond := [Cond.fieldLink RX4 51 "ForwardLog" "up" "Z", Cond.fieldLink RX4 55 "ForwardLog" "crashes" "I", Cond.methodLink RX4 9 yX1_init, Cond.instanceMethod yX1_init, Cond.code yX1_init cX1_init 1 none, Cond.methodLink RX1 3 objectInit, Cond.fieldLink RX1 9 "ForwardLog$Hasher" "text" "[I", Cond.fieldLink RX1 15 "ForwardLog$Hasher" "schedule" "[I", Cond.fieldLink RX1 18 "ForwardLog$Hasher" "state" "[I", Cond.fieldLink RX1 21 "ForwardLog$Hasher" "filled" "I", Cond.methodLink RX4 18 yX0_init, Cond.instanceMethod yX0_init, Cond.code yX0_init cX0_init 1 none, Cond.methodLink RX0 3 objectInit, Cond.fieldLink RX0 9 "ForwardLog$Disk" "octets" "[I", Cond.fieldLink RX0 15 "ForwardLog$Disk" "used" "I", Cond.fieldLink RX0 19 "ForwardLog$Disk" "synced" "I", Cond.methodLink RX4 25 yX2_init, Cond.instanceMethod yX2_init, Cond.code yX2_init cX2_init 1 none, Cond.methodLink RX2 3 objectInit, Cond.fieldLink RX2 9 "ForwardLog$KeyChain" "octets" "[I", Cond.fieldLink RX2 15 "ForwardLog$KeyChain" "index" "I", Cond.methodLink RX4 42 yX3_init]
def wsX4_init_r3 : List Cond := [Cond.instanceMethod yX3_init, Cond.code yX3_init cX3_init 1 none, Cond.methodLink RX3 3 objectInit, Cond.classLink RX3 9 RX2, Cond.fieldLink RX3 12 "ForwardLog$Verifier" "chain" "LForwardLog$KeyChain;", Cond.fieldLink RX3 18 "ForwardLog$Verifier" "tagBefore" "[I", Cond.classLink RX3 22 RX0, Cond.fieldLink RX3 25 "ForwardLog$Verifier" "seen" "LForwardLog$Disk;", Cond.fieldLink RX3 29 "ForwardLog$Verifier" "begins" "[I", Cond.fieldLink RX3 32 "ForwardLog$Verifier" "indexes" "[I", Cond.methodLink RX3 11 yX2_init, Cond.methodLink RX3 24 yX0_init, Cond.methodLink RX3 35 yX3_forget, Cond.instanceMethod yX3_forget, Cond.selects RX3 yX3_forget yX3_forget, Cond.code yX3_forget cX3_forget 1 none, Cond.fieldLink RX3 38 "ForwardLog$Verifier" "hasRun" "Z", Cond.fieldLink RX3 42 "ForwardLog$Verifier" "good" "I", Cond.fieldLink RX3 46 "ForwardLog$Verifier" "badBegin" "I", Cond.fieldLink RX3 49 "ForwardLog$Verifier" "passedOver" "I", Cond.methodLink RX3 52 yX0_cutTo, Cond.instanceMethod yX0_cutTo, Cond.selects RX0 yX0_cutTo yX0_cutTo, Cond.code yX0_cutTo cX0_cutTo 2 none]
def wsX4_init : List Cond := .code yX4_init cX4_init 1 none :: ((wsX4_init_r1 ++ (wsX4_init_r2 ++ wsX4_init_r3)) ++ wsX10 ++ wsX40 ++ wsX00 ++ wsX20 ++ wsX30)
def wsX4_begin_r1 : List Cond := [Cond.fieldLink RX4 19 "ForwardLog" "disk" "LForwardLog$Disk;", Cond.fieldLink RX4 26 "ForwardLog" "writerKey" "LForwardLog$KeyChain;", Cond.fieldLink RX4 30 "ForwardLog" "lastTag" "[I", Cond.fieldLink RX4 51 "ForwardLog" "up" "Z", Cond.fieldLink RX4 55 "ForwardLog" "crashes" "I", Cond.fieldLink RX4 43 "ForwardLog" "verifier" "LForwardLog$Verifier;", Cond.methodLink RX4 58 yX0_cutTo, Cond.instanceMethod yX0_cutTo, Cond.selects RX0 yX0_cutTo yX0_cutTo, Cond.initialized RX0, Cond.code yX0_cutTo cX0_cutTo 2 none, Cond.fieldLink RX0 15 "ForwardLog$Disk" "used" "I", Cond.fieldLink RX0 19 "ForwardLog$Disk" "synced" "I", Cond.methodLink RX4 62 yX2_start, Cond.instanceMethod yX2_start, Cond.selects RX2 yX2_start yX2_start, Cond.initialized RX2, Cond.code yX2_start cX2_start 6 none, Cond.fieldLink RX2 9 "ForwardLog$KeyChain" "octets" "[I", Cond.fieldLink RX2 15 "ForwardLog$KeyChain" "index" "I", Cond.static yX4_octetOfFour, Cond.initialized RX4, Cond.code yX4_octetOfFour cX4_octetOfFour 6 (some .int), Cond.methodLink RX4 66 yX0_tagBefore]
def wsX4_begin_r2 : List Cond := [Cond.instanceMethod yX0_tagBefore, Cond.selects RX0 yX0_tagBefore yX0_tagBefore, Cond.code yX0_tagBefore cX0_tagBefore 4 none, Cond.methodLink RX0 42 Lib.Math.max.name, Cond.static Lib.Math.max.name, Cond.initialized "java/lang/Math", Cond.code Lib.Math.max.name Lib.Math.max.code 2 (some .int), Cond.methodLink RX0 26 yX0_octetAt, Cond.instanceMethod yX0_octetAt, Cond.selects RX0 yX0_octetAt yX0_octetAt, Cond.code yX0_octetAt cX0_octetAt 2 (some .int), Cond.fieldLink RX0 9 "ForwardLog$Disk" "octets" "[I", Cond.methodLink RX0 22 yX0_has, Cond.instanceMethod yX0_has, Cond.selects RX0 yX0_has yX0_has, Cond.code yX0_has cX0_has 2 (some .boolean), Cond.methodLink RX4 70 yX3_forget, Cond.instanceMethod yX3_forget, Cond.selects RX3 yX3_forget yX3_forget, Cond.initialized RX3, Cond.code yX3_forget cX3_forget 1 none, Cond.fieldLink RX3 38 "ForwardLog$Verifier" "hasRun" "Z", Cond.fieldLink RX3 42 "ForwardLog$Verifier" "good" "I", Cond.fieldLink RX3 46 "ForwardLog$Verifier" "badBegin" "I"]
def wsX4_begin_r3 : List Cond := [Cond.fieldLink RX3 49 "ForwardLog$Verifier" "passedOver" "I", Cond.fieldLink RX3 25 "ForwardLog$Verifier" "seen" "LForwardLog$Disk;", Cond.methodLink RX3 52 yX0_cutTo]
def wsX4_begin : List Cond := .code yX4_begin cX4_begin 5 none :: ((wsX4_begin_r1 ++ (wsX4_begin_r2 ++ wsX4_begin_r3)) ++ wsX40 ++ wsX00 ++ wsX20 ++ wsX30)
def wsX4_feed : List Cond := .code yX4_feed cX4_feed 7 (some .int) :: ([.classLink RX4 73 "java/lang/IllegalArgumentException", .initialized "java/lang/IllegalArgumentException", .classLink RX4 80 "java/lang/IllegalStateException", .initialized "java/lang/IllegalStateException", .fieldLink RX4 47 "ForwardLog" "buffered" "I", .fieldLink RX4 34 "ForwardLog" "buffer" "[I", .methodLink RX4 85 yX4_octetOfFour, .static yX4_octetOfFour, .initialized RX4, .code yX4_octetOfFour cX4_octetOfFour 6 (some .int)] ++ wsX40 ++ (vx_atS RX4 77 "java/lang/IllegalArgumentException" ["java/lang/RuntimeException", "java/lang/Exception"]).filter goodWord ++ (vx_atS RX4 84 "java/lang/IllegalStateException" ["java/lang/RuntimeException", "java/lang/Exception"]).filter goodWord)
def wsX4_erase : List Cond := .code yX4_erase cX4_erase 2 (some .int) :: ([.fieldLink RX4 47 "ForwardLog" "buffered" "I"] ++ wsX40)
def wsX4_write_r1 : List Cond := [Cond.fieldLink RX4 19 "ForwardLog" "disk" "LForwardLog$Disk;", Cond.fieldLink RX4 95 "ForwardLog$Disk" "used" "I", Cond.fieldLink RX4 26 "ForwardLog" "writerKey" "LForwardLog$KeyChain;", Cond.fieldLink RX4 115 "ForwardLog$KeyChain" "index" "I", Cond.fieldLink RX4 10 "ForwardLog" "hasher" "LForwardLog$Hasher;", Cond.fieldLink RX4 30 "ForwardLog" "lastTag" "[I", Cond.methodLink RX4 124 yX4_recordSize, Cond.static yX4_recordSize, Cond.initialized RX4, Cond.code yX4_recordSize cX4_recordSize 1 (some .int), Cond.methodLink RX4 166 yX0_add, Cond.instanceMethod yX0_add, Cond.selects RX0 yX0_add yX0_add, Cond.initialized RX0, Cond.code yX0_add cX0_add 2 none, Cond.fieldLink RX0 15 "ForwardLog$Disk" "used" "I", Cond.fieldLink RX0 9 "ForwardLog$Disk" "octets" "[I", Cond.methodLink RX4 169 yX1_makeTag, Cond.instanceMethod yX1_makeTag, Cond.selects RX1 yX1_makeTag yX1_makeTag, Cond.initialized RX1, Cond.code yX1_makeTag cX1_makeTag 7 none, Cond.fieldLink RX1 29 "ForwardLog$KeyChain" "index" "I", Cond.methodLink RX1 25 yX1_putKey]
def wsX4_write_r2 : List Cond := [Cond.instanceMethod yX1_putKey, Cond.selects RX1 yX1_putKey yX1_putKey, Cond.code yX1_putKey cX1_putKey 4 none, Cond.fieldLink RX1 53 "ForwardLog$KeyChain" "octets" "[I", Cond.methodLink RX1 50 yX1_clear, Cond.instanceMethod yX1_clear, Cond.selects RX1 yX1_clear yX1_clear, Cond.code yX1_clear cX1_clear 1 none, Cond.fieldLink RX1 21 "ForwardLog$Hasher" "filled" "I", Cond.methodLink RX1 34 yX1_put, Cond.instanceMethod yX1_put, Cond.selects RX1 yX1_put yX1_put, Cond.code yX1_put cX1_put 2 none, Cond.fieldLink RX1 9 "ForwardLog$Hasher" "text" "[I", Cond.methodLink RX1 38 yX0_octetAt, Cond.instanceMethod yX0_octetAt, Cond.selects RX0 yX0_octetAt yX0_octetAt, Cond.code yX0_octetAt cX0_octetAt 2 (some .int), Cond.methodLink RX0 22 yX0_has, Cond.instanceMethod yX0_has, Cond.selects RX0 yX0_has yX0_has, Cond.code yX0_has cX0_has 2 (some .boolean), Cond.methodLink RX1 44 yX1_finish, Cond.instanceMethod yX1_finish]
def wsX4_write_r3 : List Cond := [Cond.selects RX1 yX1_finish yX1_finish, Cond.code yX1_finish cX1_finish 4 none, Cond.fieldLink RX1 18 "ForwardLog$Hasher" "state" "[I", Cond.methodLink RX1 59 yX1_expand, Cond.instanceMethod yX1_expand, Cond.selects RX1 yX1_expand yX1_expand, Cond.code yX1_expand cX1_expand 7 none, Cond.fieldLink RX1 15 "ForwardLog$Hasher" "schedule" "[I", Cond.methodLink RX1 65 yX1_turned, Cond.static yX1_turned, Cond.code yX1_turned cX1_turned 2 (some .int), Cond.methodLink RX1 62 yX1_compress, Cond.instanceMethod yX1_compress, Cond.selects RX1 yX1_compress yX1_compress, Cond.code yX1_compress cX1_compress 14 none, Cond.methodLink RX1 47 yX1_hashOctet, Cond.instanceMethod yX1_hashOctet, Cond.selects RX1 yX1_hashOctet yX1_hashOctet, Cond.code yX1_hashOctet cX1_hashOctet 2 (some .int), Cond.methodLink RX4 173 yX1_hashOctet, Cond.methodLink RX4 176 yX2_turn, Cond.instanceMethod yX2_turn, Cond.selects RX2 yX2_turn yX2_turn, Cond.initialized RX2]
def wsX4_write_r4 : List Cond := [Cond.code yX2_turn cX2_turn 3 none, Cond.fieldLink RX2 9 "ForwardLog$KeyChain" "octets" "[I", Cond.fieldLink RX2 15 "ForwardLog$KeyChain" "index" "I", Cond.methodLink RX2 23 yX1_clear, Cond.methodLink RX2 28 yX1_put, Cond.methodLink RX2 32 yX1_finish, Cond.methodLink RX2 35 yX1_hashOctet]
def wsX4_write : List Cond := .code yX4_write cX4_write 7 (some .int) :: ((wsX4_write_r1 ++ (wsX4_write_r2 ++ (wsX4_write_r3 ++ wsX4_write_r4))) ++ wsX40 ++ wsX00 ++ wsX20 ++ wsX10)
def wsX4_append_r1 : List Cond := [Cond.classLink RX4 80 "java/lang/IllegalStateException", Cond.initialized "java/lang/IllegalStateException", Cond.fieldLink RX4 51 "ForwardLog" "up" "Z", Cond.fieldLink RX4 34 "ForwardLog" "buffer" "[I", Cond.fieldLink RX4 47 "ForwardLog" "buffered" "I", Cond.methodLink RX4 91 yX4_write, Cond.instanceMethod yX4_write, Cond.selects RX4 yX4_write yX4_write, Cond.initialized RX4, Cond.code yX4_write cX4_write 7 (some .int), Cond.fieldLink RX4 19 "ForwardLog" "disk" "LForwardLog$Disk;", Cond.fieldLink RX4 95 "ForwardLog$Disk" "used" "I", Cond.fieldLink RX4 26 "ForwardLog" "writerKey" "LForwardLog$KeyChain;", Cond.fieldLink RX4 115 "ForwardLog$KeyChain" "index" "I", Cond.fieldLink RX4 10 "ForwardLog" "hasher" "LForwardLog$Hasher;", Cond.fieldLink RX4 30 "ForwardLog" "lastTag" "[I", Cond.methodLink RX4 124 yX4_recordSize, Cond.static yX4_recordSize, Cond.code yX4_recordSize cX4_recordSize 1 (some .int), Cond.methodLink RX4 166 yX0_add, Cond.instanceMethod yX0_add, Cond.selects RX0 yX0_add yX0_add, Cond.initialized RX0, Cond.code yX0_add cX0_add 2 none]
def wsX4_append_r2 : List Cond := [Cond.fieldLink RX0 15 "ForwardLog$Disk" "used" "I", Cond.fieldLink RX0 9 "ForwardLog$Disk" "octets" "[I", Cond.methodLink RX4 169 yX1_makeTag, Cond.instanceMethod yX1_makeTag, Cond.selects RX1 yX1_makeTag yX1_makeTag, Cond.initialized RX1, Cond.code yX1_makeTag cX1_makeTag 7 none, Cond.fieldLink RX1 29 "ForwardLog$KeyChain" "index" "I", Cond.methodLink RX1 25 yX1_putKey, Cond.instanceMethod yX1_putKey, Cond.selects RX1 yX1_putKey yX1_putKey, Cond.code yX1_putKey cX1_putKey 4 none, Cond.fieldLink RX1 53 "ForwardLog$KeyChain" "octets" "[I", Cond.methodLink RX1 50 yX1_clear, Cond.instanceMethod yX1_clear, Cond.selects RX1 yX1_clear yX1_clear, Cond.code yX1_clear cX1_clear 1 none, Cond.fieldLink RX1 21 "ForwardLog$Hasher" "filled" "I", Cond.methodLink RX1 34 yX1_put, Cond.instanceMethod yX1_put, Cond.selects RX1 yX1_put yX1_put, Cond.code yX1_put cX1_put 2 none, Cond.fieldLink RX1 9 "ForwardLog$Hasher" "text" "[I", Cond.methodLink RX1 38 yX0_octetAt]
def wsX4_append_r3 : List Cond := [Cond.instanceMethod yX0_octetAt, Cond.selects RX0 yX0_octetAt yX0_octetAt, Cond.code yX0_octetAt cX0_octetAt 2 (some .int), Cond.methodLink RX0 22 yX0_has, Cond.instanceMethod yX0_has, Cond.selects RX0 yX0_has yX0_has, Cond.code yX0_has cX0_has 2 (some .boolean), Cond.methodLink RX1 44 yX1_finish, Cond.instanceMethod yX1_finish, Cond.selects RX1 yX1_finish yX1_finish, Cond.code yX1_finish cX1_finish 4 none, Cond.fieldLink RX1 18 "ForwardLog$Hasher" "state" "[I", Cond.methodLink RX1 59 yX1_expand, Cond.instanceMethod yX1_expand, Cond.selects RX1 yX1_expand yX1_expand, Cond.code yX1_expand cX1_expand 7 none, Cond.fieldLink RX1 15 "ForwardLog$Hasher" "schedule" "[I", Cond.methodLink RX1 65 yX1_turned, Cond.static yX1_turned, Cond.code yX1_turned cX1_turned 2 (some .int), Cond.methodLink RX1 62 yX1_compress, Cond.instanceMethod yX1_compress, Cond.selects RX1 yX1_compress yX1_compress, Cond.code yX1_compress cX1_compress 14 none]
def wsX4_append_r4 : List Cond := [Cond.methodLink RX1 47 yX1_hashOctet, Cond.instanceMethod yX1_hashOctet, Cond.selects RX1 yX1_hashOctet yX1_hashOctet, Cond.code yX1_hashOctet cX1_hashOctet 2 (some .int), Cond.methodLink RX4 173 yX1_hashOctet, Cond.methodLink RX4 176 yX2_turn, Cond.instanceMethod yX2_turn, Cond.selects RX2 yX2_turn yX2_turn, Cond.initialized RX2, Cond.code yX2_turn cX2_turn 3 none, Cond.fieldLink RX2 9 "ForwardLog$KeyChain" "octets" "[I", Cond.fieldLink RX2 15 "ForwardLog$KeyChain" "index" "I", Cond.methodLink RX2 23 yX1_clear, Cond.methodLink RX2 28 yX1_put, Cond.methodLink RX2 32 yX1_finish, Cond.methodLink RX2 35 yX1_hashOctet]
def wsX4_append : List Cond := .code yX4_append cX4_append 1 (some .int) :: ((wsX4_append_r1 ++ (wsX4_append_r2 ++ (wsX4_append_r3 ++ wsX4_append_r4))) ++ wsX40 ++ wsX00 ++ wsX20 ++ wsX10 ++ (vx_atS RX4 84 "java/lang/IllegalStateException" ["java/lang/RuntimeException", "java/lang/Exception"]).filter goodWord)
def wsX4_seal_r1 : List Cond := [Cond.classLink RX4 80 "java/lang/IllegalStateException", Cond.initialized "java/lang/IllegalStateException", Cond.fieldLink RX4 51 "ForwardLog" "up" "Z", Cond.fieldLink RX4 34 "ForwardLog" "buffer" "[I", Cond.methodLink RX4 91 yX4_write, Cond.instanceMethod yX4_write, Cond.selects RX4 yX4_write yX4_write, Cond.initialized RX4, Cond.code yX4_write cX4_write 7 (some .int), Cond.fieldLink RX4 19 "ForwardLog" "disk" "LForwardLog$Disk;", Cond.fieldLink RX4 95 "ForwardLog$Disk" "used" "I", Cond.fieldLink RX4 26 "ForwardLog" "writerKey" "LForwardLog$KeyChain;", Cond.fieldLink RX4 115 "ForwardLog$KeyChain" "index" "I", Cond.fieldLink RX4 10 "ForwardLog" "hasher" "LForwardLog$Hasher;", Cond.fieldLink RX4 30 "ForwardLog" "lastTag" "[I", Cond.methodLink RX4 124 yX4_recordSize, Cond.static yX4_recordSize, Cond.code yX4_recordSize cX4_recordSize 1 (some .int), Cond.methodLink RX4 166 yX0_add, Cond.instanceMethod yX0_add, Cond.selects RX0 yX0_add yX0_add, Cond.initialized RX0, Cond.code yX0_add cX0_add 2 none, Cond.fieldLink RX0 15 "ForwardLog$Disk" "used" "I"]
def wsX4_seal_r2 : List Cond := [Cond.fieldLink RX0 9 "ForwardLog$Disk" "octets" "[I", Cond.methodLink RX4 169 yX1_makeTag, Cond.instanceMethod yX1_makeTag, Cond.selects RX1 yX1_makeTag yX1_makeTag, Cond.initialized RX1, Cond.code yX1_makeTag cX1_makeTag 7 none, Cond.fieldLink RX1 29 "ForwardLog$KeyChain" "index" "I", Cond.methodLink RX1 25 yX1_putKey, Cond.instanceMethod yX1_putKey, Cond.selects RX1 yX1_putKey yX1_putKey, Cond.code yX1_putKey cX1_putKey 4 none, Cond.fieldLink RX1 53 "ForwardLog$KeyChain" "octets" "[I", Cond.methodLink RX1 50 yX1_clear, Cond.instanceMethod yX1_clear, Cond.selects RX1 yX1_clear yX1_clear, Cond.code yX1_clear cX1_clear 1 none, Cond.fieldLink RX1 21 "ForwardLog$Hasher" "filled" "I", Cond.methodLink RX1 34 yX1_put, Cond.instanceMethod yX1_put, Cond.selects RX1 yX1_put yX1_put, Cond.code yX1_put cX1_put 2 none, Cond.fieldLink RX1 9 "ForwardLog$Hasher" "text" "[I", Cond.methodLink RX1 38 yX0_octetAt, Cond.instanceMethod yX0_octetAt]
def wsX4_seal_r3 : List Cond := [Cond.selects RX0 yX0_octetAt yX0_octetAt, Cond.code yX0_octetAt cX0_octetAt 2 (some .int), Cond.methodLink RX0 22 yX0_has, Cond.instanceMethod yX0_has, Cond.selects RX0 yX0_has yX0_has, Cond.code yX0_has cX0_has 2 (some .boolean), Cond.methodLink RX1 44 yX1_finish, Cond.instanceMethod yX1_finish, Cond.selects RX1 yX1_finish yX1_finish, Cond.code yX1_finish cX1_finish 4 none, Cond.fieldLink RX1 18 "ForwardLog$Hasher" "state" "[I", Cond.methodLink RX1 59 yX1_expand, Cond.instanceMethod yX1_expand, Cond.selects RX1 yX1_expand yX1_expand, Cond.code yX1_expand cX1_expand 7 none, Cond.fieldLink RX1 15 "ForwardLog$Hasher" "schedule" "[I", Cond.methodLink RX1 65 yX1_turned, Cond.static yX1_turned, Cond.code yX1_turned cX1_turned 2 (some .int), Cond.methodLink RX1 62 yX1_compress, Cond.instanceMethod yX1_compress, Cond.selects RX1 yX1_compress yX1_compress, Cond.code yX1_compress cX1_compress 14 none, Cond.methodLink RX1 47 yX1_hashOctet]
def wsX4_seal_r4 : List Cond := [Cond.instanceMethod yX1_hashOctet, Cond.selects RX1 yX1_hashOctet yX1_hashOctet, Cond.code yX1_hashOctet cX1_hashOctet 2 (some .int), Cond.methodLink RX4 173 yX1_hashOctet, Cond.methodLink RX4 176 yX2_turn, Cond.instanceMethod yX2_turn, Cond.selects RX2 yX2_turn yX2_turn, Cond.initialized RX2, Cond.code yX2_turn cX2_turn 3 none, Cond.fieldLink RX2 9 "ForwardLog$KeyChain" "octets" "[I", Cond.fieldLink RX2 15 "ForwardLog$KeyChain" "index" "I", Cond.methodLink RX2 23 yX1_clear, Cond.methodLink RX2 28 yX1_put, Cond.methodLink RX2 32 yX1_finish, Cond.methodLink RX2 35 yX1_hashOctet]
def wsX4_seal : List Cond := .code yX4_seal cX4_seal 1 (some .int) :: ((wsX4_seal_r1 ++ (wsX4_seal_r2 ++ (wsX4_seal_r3 ++ wsX4_seal_r4))) ++ wsX40 ++ wsX00 ++ wsX20 ++ wsX10 ++ (vx_atS RX4 84 "java/lang/IllegalStateException" ["java/lang/RuntimeException", "java/lang/Exception"]).filter goodWord)
def wsX4_sync : List Cond := .code yX4_sync cX4_sync 1 (some .int) :: ([.classLink RX4 80 "java/lang/IllegalStateException", .initialized "java/lang/IllegalStateException", .fieldLink RX4 51 "ForwardLog" "up" "Z", .fieldLink RX4 19 "ForwardLog" "disk" "LForwardLog$Disk;", .fieldLink RX4 95 "ForwardLog$Disk" "used" "I", .fieldLink RX4 98 "ForwardLog$Disk" "synced" "I"] ++ wsX40 ++ wsX00 ++ (vx_atS RX4 84 "java/lang/IllegalStateException" ["java/lang/RuntimeException", "java/lang/Exception"]).filter goodWord)
def wsX4_crash : List Cond := .code yX4_crash cX4_crash 4 (some .int) :: ([.classLink RX4 73 "java/lang/IllegalArgumentException", .initialized "java/lang/IllegalArgumentException", .fieldLink RX4 19 "ForwardLog" "disk" "LForwardLog$Disk;", .fieldLink RX4 95 "ForwardLog$Disk" "used" "I", .fieldLink RX4 98 "ForwardLog$Disk" "synced" "I", .methodLink RX4 103 Lib.Math.min.name, .static Lib.Math.min.name, .initialized "java/lang/Math", .code Lib.Math.min.name Lib.Math.min.code 2 (some .int), .fieldLink RX4 51 "ForwardLog" "up" "Z", .fieldLink RX4 55 "ForwardLog" "crashes" "I"] ++ wsX40 ++ wsX00 ++ (vx_atS RX4 77 "java/lang/IllegalArgumentException" ["java/lang/RuntimeException", "java/lang/Exception"]).filter goodWord)
def wsX4_recover_r1 : List Cond := [Cond.classLink RX4 80 "java/lang/IllegalStateException", Cond.initialized "java/lang/IllegalStateException", Cond.fieldLink RX4 51 "ForwardLog" "up" "Z", Cond.fieldLink RX4 19 "ForwardLog" "disk" "LForwardLog$Disk;", Cond.fieldLink RX4 26 "ForwardLog" "writerKey" "LForwardLog$KeyChain;", Cond.fieldLink RX4 115 "ForwardLog$KeyChain" "index" "I", Cond.methodLink RX4 121 Lib.Math.max.name, Cond.static Lib.Math.max.name, Cond.initialized "java/lang/Math", Cond.code Lib.Math.max.name Lib.Math.max.code 2 (some .int), Cond.fieldLink RX4 30 "ForwardLog" "lastTag" "[I", Cond.fieldLink RX4 37 "ForwardLog" "gapBytes" "[I", Cond.methodLink RX4 111 yX0_wholeEnd, Cond.instanceMethod yX0_wholeEnd, Cond.selects RX0 yX0_wholeEnd yX0_wholeEnd, Cond.initialized RX0, Cond.code yX0_wholeEnd cX0_wholeEnd 3 (some .int), Cond.methodLink RX0 33 yX0_isWhole, Cond.instanceMethod yX0_isWhole, Cond.selects RX0 yX0_isWhole yX0_isWhole, Cond.code yX0_isWhole cX0_isWhole 4 (some .boolean), Cond.fieldLink RX0 15 "ForwardLog$Disk" "used" "I", Cond.methodLink RX0 26 yX0_octetAt, Cond.instanceMethod yX0_octetAt]
def wsX4_recover_r2 : List Cond := [Cond.selects RX0 yX0_octetAt yX0_octetAt, Cond.code yX0_octetAt cX0_octetAt 2 (some .int), Cond.fieldLink RX0 9 "ForwardLog$Disk" "octets" "[I", Cond.methodLink RX0 22 yX0_has, Cond.instanceMethod yX0_has, Cond.selects RX0 yX0_has yX0_has, Cond.code yX0_has cX0_has 2 (some .boolean), Cond.static yX4_recordSize, Cond.initialized RX4, Cond.code yX4_recordSize cX4_recordSize 1 (some .int), Cond.methodLink RX0 36 yX0_sizeAt, Cond.instanceMethod yX0_sizeAt, Cond.selects RX0 yX0_sizeAt yX0_sizeAt, Cond.code yX0_sizeAt cX0_sizeAt 2 (some .int), Cond.methodLink RX4 118 yX0_nextIndex, Cond.instanceMethod yX0_nextIndex, Cond.selects RX0 yX0_nextIndex yX0_nextIndex, Cond.code yX0_nextIndex cX0_nextIndex 4 (some .int), Cond.methodLink RX0 39 yX0_passedOverAt, Cond.instanceMethod yX0_passedOverAt, Cond.selects RX0 yX0_passedOverAt yX0_passedOverAt, Cond.code yX0_passedOverAt cX0_passedOverAt 2 (some .int), Cond.methodLink RX4 124 yX4_recordSize, Cond.methodLink RX4 58 yX0_cutTo]
def wsX4_recover_r3 : List Cond := [Cond.instanceMethod yX0_cutTo, Cond.selects RX0 yX0_cutTo yX0_cutTo, Cond.code yX0_cutTo cX0_cutTo 2 none, Cond.fieldLink RX0 19 "ForwardLog$Disk" "synced" "I", Cond.methodLink RX4 66 yX0_tagBefore, Cond.instanceMethod yX0_tagBefore, Cond.selects RX0 yX0_tagBefore yX0_tagBefore, Cond.code yX0_tagBefore cX0_tagBefore 4 none, Cond.methodLink RX0 42 Lib.Math.max.name, Cond.methodLink RX4 91 yX4_write, Cond.instanceMethod yX4_write, Cond.selects RX4 yX4_write yX4_write, Cond.code yX4_write cX4_write 7 (some .int), Cond.fieldLink RX4 95 "ForwardLog$Disk" "used" "I", Cond.fieldLink RX4 10 "ForwardLog" "hasher" "LForwardLog$Hasher;", Cond.methodLink RX4 166 yX0_add, Cond.instanceMethod yX0_add, Cond.selects RX0 yX0_add yX0_add, Cond.code yX0_add cX0_add 2 none, Cond.methodLink RX4 169 yX1_makeTag, Cond.instanceMethod yX1_makeTag, Cond.selects RX1 yX1_makeTag yX1_makeTag, Cond.initialized RX1, Cond.code yX1_makeTag cX1_makeTag 7 none]
def wsX4_recover_r4 : List Cond := [Cond.fieldLink RX1 29 "ForwardLog$KeyChain" "index" "I", Cond.methodLink RX1 25 yX1_putKey, Cond.instanceMethod yX1_putKey, Cond.selects RX1 yX1_putKey yX1_putKey, Cond.code yX1_putKey cX1_putKey 4 none, Cond.fieldLink RX1 53 "ForwardLog$KeyChain" "octets" "[I", Cond.methodLink RX1 50 yX1_clear, Cond.instanceMethod yX1_clear, Cond.selects RX1 yX1_clear yX1_clear, Cond.code yX1_clear cX1_clear 1 none, Cond.fieldLink RX1 21 "ForwardLog$Hasher" "filled" "I", Cond.methodLink RX1 34 yX1_put, Cond.instanceMethod yX1_put, Cond.selects RX1 yX1_put yX1_put, Cond.code yX1_put cX1_put 2 none, Cond.fieldLink RX1 9 "ForwardLog$Hasher" "text" "[I", Cond.methodLink RX1 38 yX0_octetAt, Cond.methodLink RX1 44 yX1_finish, Cond.instanceMethod yX1_finish, Cond.selects RX1 yX1_finish yX1_finish, Cond.code yX1_finish cX1_finish 4 none, Cond.fieldLink RX1 18 "ForwardLog$Hasher" "state" "[I", Cond.methodLink RX1 59 yX1_expand, Cond.instanceMethod yX1_expand]
def wsX4_recover_r5 : List Cond := [Cond.selects RX1 yX1_expand yX1_expand, Cond.code yX1_expand cX1_expand 7 none, Cond.fieldLink RX1 15 "ForwardLog$Hasher" "schedule" "[I", Cond.methodLink RX1 65 yX1_turned, Cond.static yX1_turned, Cond.code yX1_turned cX1_turned 2 (some .int), Cond.methodLink RX1 62 yX1_compress, Cond.instanceMethod yX1_compress, Cond.selects RX1 yX1_compress yX1_compress, Cond.code yX1_compress cX1_compress 14 none, Cond.methodLink RX1 47 yX1_hashOctet, Cond.instanceMethod yX1_hashOctet, Cond.selects RX1 yX1_hashOctet yX1_hashOctet, Cond.code yX1_hashOctet cX1_hashOctet 2 (some .int), Cond.methodLink RX4 173 yX1_hashOctet, Cond.methodLink RX4 176 yX2_turn, Cond.instanceMethod yX2_turn, Cond.selects RX2 yX2_turn yX2_turn, Cond.initialized RX2, Cond.code yX2_turn cX2_turn 3 none, Cond.fieldLink RX2 9 "ForwardLog$KeyChain" "octets" "[I", Cond.fieldLink RX2 15 "ForwardLog$KeyChain" "index" "I", Cond.methodLink RX2 23 yX1_clear, Cond.methodLink RX2 28 yX1_put]
def wsX4_recover_r6 : List Cond := [Cond.methodLink RX2 32 yX1_finish, Cond.methodLink RX2 35 yX1_hashOctet]
def wsX4_recover : List Cond := .code yX4_recover cX4_recover 3 (some .int) :: ((wsX4_recover_r1 ++ (wsX4_recover_r2 ++ (wsX4_recover_r3 ++ (wsX4_recover_r4 ++ (wsX4_recover_r5 ++ wsX4_recover_r6))))) ++ wsX40 ++ wsX20 ++ wsX00 ++ wsX10 ++ (vx_atS RX4 84 "java/lang/IllegalStateException" ["java/lang/RuntimeException", "java/lang/Exception"]).filter goodWord)
def wsX4_verify_r1 : List Cond := [Cond.fieldLink RX4 43 "ForwardLog" "verifier" "LForwardLog$Verifier;", Cond.fieldLink RX4 19 "ForwardLog" "disk" "LForwardLog$Disk;", Cond.fieldLink RX4 10 "ForwardLog" "hasher" "LForwardLog$Hasher;", Cond.methodLink RX4 128 yX3_goThrough, Cond.instanceMethod yX3_goThrough, Cond.selects RX3 yX3_goThrough yX3_goThrough, Cond.initialized RX3, Cond.code yX3_goThrough cX3_goThrough 9 (some .int), Cond.fieldLink RX3 38 "ForwardLog$Verifier" "hasRun" "Z", Cond.fieldLink RX3 12 "ForwardLog$Verifier" "chain" "LForwardLog$KeyChain;", Cond.fieldLink RX3 60 "ForwardLog$Disk" "used" "I", Cond.fieldLink RX3 25 "ForwardLog$Verifier" "seen" "LForwardLog$Disk;", Cond.fieldLink RX3 46 "ForwardLog$Verifier" "badBegin" "I", Cond.fieldLink RX3 29 "ForwardLog$Verifier" "begins" "[I", Cond.fieldLink RX3 32 "ForwardLog$Verifier" "indexes" "[I", Cond.fieldLink RX3 74 "ForwardLog$KeyChain" "index" "I", Cond.fieldLink RX3 42 "ForwardLog$Verifier" "good" "I", Cond.fieldLink RX3 49 "ForwardLog$Verifier" "passedOver" "I", Cond.methodLink RX3 35 yX3_forget, Cond.instanceMethod yX3_forget, Cond.selects RX3 yX3_forget yX3_forget, Cond.code yX3_forget cX3_forget 1 none, Cond.methodLink RX3 52 yX0_cutTo, Cond.instanceMethod yX0_cutTo]
def wsX4_verify_r2 : List Cond := [Cond.selects RX0 yX0_cutTo yX0_cutTo, Cond.initialized RX0, Cond.code yX0_cutTo cX0_cutTo 2 none, Cond.fieldLink RX0 15 "ForwardLog$Disk" "used" "I", Cond.fieldLink RX0 19 "ForwardLog$Disk" "synced" "I", Cond.methodLink RX3 56 yX2_start, Cond.instanceMethod yX2_start, Cond.selects RX2 yX2_start yX2_start, Cond.initialized RX2, Cond.code yX2_start cX2_start 6 none, Cond.fieldLink RX2 9 "ForwardLog$KeyChain" "octets" "[I", Cond.fieldLink RX2 15 "ForwardLog$KeyChain" "index" "I", Cond.static yX4_octetOfFour, Cond.initialized RX4, Cond.code yX4_octetOfFour cX4_octetOfFour 6 (some .int), Cond.methodLink RX3 63 yX0_octetAt, Cond.instanceMethod yX0_octetAt, Cond.selects RX0 yX0_octetAt yX0_octetAt, Cond.code yX0_octetAt cX0_octetAt 2 (some .int), Cond.fieldLink RX0 9 "ForwardLog$Disk" "octets" "[I", Cond.methodLink RX0 22 yX0_has, Cond.instanceMethod yX0_has, Cond.selects RX0 yX0_has yX0_has, Cond.code yX0_has cX0_has 2 (some .boolean)]
def wsX4_verify_r3 : List Cond := [Cond.methodLink RX3 67 yX0_add, Cond.instanceMethod yX0_add, Cond.selects RX0 yX0_add yX0_add, Cond.code yX0_add cX0_add 2 none, Cond.methodLink RX3 70 yX3_isGood, Cond.instanceMethod yX3_isGood, Cond.selects RX3 yX3_isGood yX3_isGood, Cond.code yX3_isGood cX3_isGood 6 (some .boolean), Cond.fieldLink RX3 18 "ForwardLog$Verifier" "tagBefore" "[I", Cond.methodLink RX3 87 yX0_isWhole, Cond.instanceMethod yX0_isWhole, Cond.selects RX0 yX0_isWhole yX0_isWhole, Cond.code yX0_isWhole cX0_isWhole 4 (some .boolean), Cond.methodLink RX0 26 yX0_octetAt, Cond.static yX4_recordSize, Cond.code yX4_recordSize cX4_recordSize 1 (some .int), Cond.methodLink RX3 77 yX0_passedOverAt, Cond.instanceMethod yX0_passedOverAt, Cond.selects RX0 yX0_passedOverAt yX0_passedOverAt, Cond.code yX0_passedOverAt cX0_passedOverAt 2 (some .int), Cond.methodLink RX3 80 yX2_turn, Cond.instanceMethod yX2_turn, Cond.selects RX2 yX2_turn yX2_turn, Cond.code yX2_turn cX2_turn 3 none]
def wsX4_verify_r4 : List Cond := [Cond.methodLink RX2 23 yX1_clear, Cond.instanceMethod yX1_clear, Cond.selects RX1 yX1_clear yX1_clear, Cond.initialized RX1, Cond.code yX1_clear cX1_clear 1 none, Cond.fieldLink RX1 21 "ForwardLog$Hasher" "filled" "I", Cond.methodLink RX2 28 yX1_put, Cond.instanceMethod yX1_put, Cond.selects RX1 yX1_put yX1_put, Cond.code yX1_put cX1_put 2 none, Cond.fieldLink RX1 9 "ForwardLog$Hasher" "text" "[I", Cond.methodLink RX2 32 yX1_finish, Cond.instanceMethod yX1_finish, Cond.selects RX1 yX1_finish yX1_finish, Cond.code yX1_finish cX1_finish 4 none, Cond.fieldLink RX1 18 "ForwardLog$Hasher" "state" "[I", Cond.methodLink RX1 34 yX1_put, Cond.methodLink RX1 59 yX1_expand, Cond.instanceMethod yX1_expand, Cond.selects RX1 yX1_expand yX1_expand, Cond.code yX1_expand cX1_expand 7 none, Cond.fieldLink RX1 15 "ForwardLog$Hasher" "schedule" "[I", Cond.methodLink RX1 65 yX1_turned, Cond.static yX1_turned]
def wsX4_verify_r5 : List Cond := [Cond.code yX1_turned cX1_turned 2 (some .int), Cond.methodLink RX1 62 yX1_compress, Cond.instanceMethod yX1_compress, Cond.selects RX1 yX1_compress yX1_compress, Cond.code yX1_compress cX1_compress 14 none, Cond.methodLink RX2 35 yX1_hashOctet, Cond.instanceMethod yX1_hashOctet, Cond.selects RX1 yX1_hashOctet yX1_hashOctet, Cond.code yX1_hashOctet cX1_hashOctet 2 (some .int), Cond.methodLink RX3 91 yX0_tagBefore, Cond.instanceMethod yX0_tagBefore, Cond.selects RX0 yX0_tagBefore yX0_tagBefore, Cond.code yX0_tagBefore cX0_tagBefore 4 none, Cond.methodLink RX0 42 Lib.Math.max.name, Cond.static Lib.Math.max.name, Cond.initialized "java/lang/Math", Cond.code Lib.Math.max.name Lib.Math.max.code 2 (some .int), Cond.methodLink RX3 94 yX1_makeTag, Cond.instanceMethod yX1_makeTag, Cond.selects RX1 yX1_makeTag yX1_makeTag, Cond.code yX1_makeTag cX1_makeTag 7 none, Cond.fieldLink RX1 29 "ForwardLog$KeyChain" "index" "I", Cond.methodLink RX1 25 yX1_putKey, Cond.instanceMethod yX1_putKey]
def wsX4_verify_r6 : List Cond := [Cond.selects RX1 yX1_putKey yX1_putKey, Cond.code yX1_putKey cX1_putKey 4 none, Cond.fieldLink RX1 53 "ForwardLog$KeyChain" "octets" "[I", Cond.methodLink RX1 50 yX1_clear, Cond.methodLink RX1 38 yX0_octetAt, Cond.methodLink RX1 44 yX1_finish, Cond.methodLink RX1 47 yX1_hashOctet, Cond.methodLink RX3 84 yX0_sizeAt, Cond.instanceMethod yX0_sizeAt, Cond.selects RX0 yX0_sizeAt yX0_sizeAt, Cond.code yX0_sizeAt cX0_sizeAt 2 (some .int), Cond.methodLink RX3 100 yX1_hashOctet]
def wsX4_verify : List Cond := .code yX4_verify cX4_verify 5 (some .int) :: ((wsX4_verify_r1 ++ (wsX4_verify_r2 ++ (wsX4_verify_r3 ++ (wsX4_verify_r4 ++ (wsX4_verify_r5 ++ wsX4_verify_r6))))) ++ wsX40 ++ wsX30 ++ wsX00 ++ wsX20 ++ wsX10)
def wsX4_told_r1 : List Cond := [Cond.classLink RX4 73 "java/lang/IllegalArgumentException", Cond.initialized "java/lang/IllegalArgumentException", Cond.fieldLink RX4 43 "ForwardLog" "verifier" "LForwardLog$Verifier;", Cond.methodLink RX4 134 yX3_answer, Cond.instanceMethod yX3_answer, Cond.selects RX3 yX3_answer yX3_answer, Cond.initialized RX3, Cond.code yX3_answer cX3_answer 2 (some .int), Cond.fieldLink RX3 38 "ForwardLog$Verifier" "hasRun" "Z", Cond.fieldLink RX3 46 "ForwardLog$Verifier" "badBegin" "I", Cond.fieldLink RX3 42 "ForwardLog$Verifier" "good" "I", Cond.fieldLink RX3 49 "ForwardLog$Verifier" "passedOver" "I", Cond.methodLink RX3 103 yX3_partOf, Cond.instanceMethod yX3_partOf, Cond.selects RX3 yX3_partOf yX3_partOf, Cond.code yX3_partOf cX3_partOf 5 (some .int), Cond.fieldLink RX3 29 "ForwardLog$Verifier" "begins" "[I", Cond.fieldLink RX3 25 "ForwardLog$Verifier" "seen" "LForwardLog$Disk;", Cond.fieldLink RX3 32 "ForwardLog$Verifier" "indexes" "[I", Cond.methodLink RX3 63 yX0_octetAt, Cond.instanceMethod yX0_octetAt, Cond.selects RX0 yX0_octetAt yX0_octetAt, Cond.initialized RX0, Cond.code yX0_octetAt cX0_octetAt 2 (some .int)]
def wsX4_told_r2 : List Cond := [Cond.fieldLink RX0 9 "ForwardLog$Disk" "octets" "[I", Cond.methodLink RX0 22 yX0_has, Cond.instanceMethod yX0_has, Cond.selects RX0 yX0_has yX0_has, Cond.code yX0_has cX0_has 2 (some .boolean), Cond.fieldLink RX0 15 "ForwardLog$Disk" "used" "I"]
def wsX4_told : List Cond := .code yX4_told cX4_told 2 (some .int) :: ((wsX4_told_r1 ++ wsX4_told_r2) ++ wsX40 ++ wsX30 ++ wsX00 ++ (vx_atS RX4 77 "java/lang/IllegalArgumentException" ["java/lang/RuntimeException", "java/lang/Exception"]).filter goodWord)
def wsX4_record : List Cond := .code yX4_record cX4_record 3 (some .int) :: ([.classLink RX4 73 "java/lang/IllegalArgumentException", .initialized "java/lang/IllegalArgumentException", .fieldLink RX4 43 "ForwardLog" "verifier" "LForwardLog$Verifier;", .methodLink RX4 139 yX3_partOf, .instanceMethod yX3_partOf, .selects RX3 yX3_partOf yX3_partOf, .initialized RX3, .code yX3_partOf cX3_partOf 5 (some .int), .fieldLink RX3 42 "ForwardLog$Verifier" "good" "I", .fieldLink RX3 29 "ForwardLog$Verifier" "begins" "[I", .fieldLink RX3 25 "ForwardLog$Verifier" "seen" "LForwardLog$Disk;", .fieldLink RX3 32 "ForwardLog$Verifier" "indexes" "[I", .methodLink RX3 63 yX0_octetAt, .instanceMethod yX0_octetAt, .selects RX0 yX0_octetAt yX0_octetAt, .initialized RX0, .code yX0_octetAt cX0_octetAt 2 (some .int), .fieldLink RX0 9 "ForwardLog$Disk" "octets" "[I", .methodLink RX0 22 yX0_has, .instanceMethod yX0_has, .selects RX0 yX0_has yX0_has, .code yX0_has cX0_has 2 (some .boolean), .fieldLink RX0 15 "ForwardLog$Disk" "used" "I"] ++ wsX40 ++ wsX30 ++ wsX00 ++ (vx_atS RX4 77 "java/lang/IllegalArgumentException" ["java/lang/RuntimeException", "java/lang/Exception"]).filter goodWord)
def wsX4_bend : List Cond := .code yX4_bend cX4_bend 3 (some .int) :: ([.classLink RX4 146 "java/lang/IndexOutOfBoundsException", .initialized "java/lang/IndexOutOfBoundsException", .classLink RX4 73 "java/lang/IllegalArgumentException", .initialized "java/lang/IllegalArgumentException", .fieldLink RX4 19 "ForwardLog" "disk" "LForwardLog$Disk;", .methodLink RX4 142 yX0_has, .instanceMethod yX0_has, .selects RX0 yX0_has yX0_has, .initialized RX0, .code yX0_has cX0_has 2 (some .boolean), .fieldLink RX0 15 "ForwardLog$Disk" "used" "I", .fieldLink RX0 9 "ForwardLog$Disk" "octets" "[I", .methodLink RX4 153 yX0_turnRound, .instanceMethod yX0_turnRound, .selects RX0 yX0_turnRound yX0_turnRound, .code yX0_turnRound cX0_turnRound 3 (some .int), .methodLink RX0 22 yX0_has] ++ wsX40 ++ wsX00 ++ (vx_atS RX4 150 "java/lang/IndexOutOfBoundsException" ["java/lang/RuntimeException", "java/lang/Exception"]).filter goodWord ++ (vx_atS RX4 77 "java/lang/IllegalArgumentException" ["java/lang/RuntimeException", "java/lang/Exception"]).filter goodWord)
def wsX4_octet : List Cond := .code yX4_octet cX4_octet 2 (some .int) :: ([.fieldLink RX4 19 "ForwardLog" "disk" "LForwardLog$Disk;", .methodLink RX4 156 yX0_octetAt, .instanceMethod yX0_octetAt, .selects RX0 yX0_octetAt yX0_octetAt, .initialized RX0, .code yX0_octetAt cX0_octetAt 2 (some .int), .fieldLink RX0 9 "ForwardLog$Disk" "octets" "[I", .methodLink RX0 22 yX0_has, .instanceMethod yX0_has, .selects RX0 yX0_has yX0_has, .code yX0_has cX0_has 2 (some .boolean), .fieldLink RX0 15 "ForwardLog$Disk" "used" "I"] ++ wsX40 ++ wsX00)
def wsX4_key : List Cond := .code yX4_key cX4_key 2 (some .int) :: ([.classLink RX4 73 "java/lang/IllegalArgumentException", .initialized "java/lang/IllegalArgumentException", .fieldLink RX4 26 "ForwardLog" "writerKey" "LForwardLog$KeyChain;", .fieldLink RX4 161 "ForwardLog$KeyChain" "octets" "[I"] ++ wsX40 ++ wsX20 ++ (vx_atS RX4 77 "java/lang/IllegalArgumentException" ["java/lang/RuntimeException", "java/lang/Exception"]).filter goodWord)
def wsX4_count : List Cond := .code yX4_count cX4_count 2 (some .int) :: ([.classLink RX4 73 "java/lang/IllegalArgumentException", .initialized "java/lang/IllegalArgumentException", .fieldLink RX4 19 "ForwardLog" "disk" "LForwardLog$Disk;", .fieldLink RX4 95 "ForwardLog$Disk" "used" "I", .fieldLink RX4 98 "ForwardLog$Disk" "synced" "I", .fieldLink RX4 26 "ForwardLog" "writerKey" "LForwardLog$KeyChain;", .fieldLink RX4 115 "ForwardLog$KeyChain" "index" "I", .fieldLink RX4 51 "ForwardLog" "up" "Z", .fieldLink RX4 55 "ForwardLog" "crashes" "I", .fieldLink RX4 47 "ForwardLog" "buffered" "I"] ++ wsX40 ++ wsX00 ++ wsX20 ++ (vx_atS RX4 77 "java/lang/IllegalArgumentException" ["java/lang/RuntimeException", "java/lang/Exception"]).filter goodWord)
def wsX5_forget : List Cond := .code yX5_forget cX5_forget 1 none :: ([.fieldLink RX5 60 "ForwardLogModel" "isVerified" "Z", .fieldLink RX5 63 "ForwardLogModel" "badRecord" "I", .fieldLink RX5 66 "ForwardLogModel" "badPlace" "I", .fieldLink RX5 69 "ForwardLogModel" "good" "I", .fieldLink RX5 72 "ForwardLogModel" "goodPassed" "I", .fieldLink RX5 75 "ForwardLogModel" "isSealed" "Z"] ++ wsX50)
def wsX5_init_r1 : List Cond := [Cond.methodLink RX5 1 objectInit, Cond.instanceMethod objectInit, Cond.code objectInit ⟨#[0xb1]⟩ 1 none, Cond.arrayClass .int, Cond.fieldLink RX5 7 "ForwardLogModel" "disk" "[I", Cond.fieldLink RX5 13 "ForwardLogModel" "buffer" "[I", Cond.fieldLink RX5 16 "ForwardLogModel" "key" "[I", Cond.fieldLink RX5 19 "ForwardLogModel" "lastTag" "[I", Cond.fieldLink RX5 22 "ForwardLogModel" "text" "[I", Cond.fieldLink RX5 25 "ForwardLogModel" "word" "[I", Cond.fieldLink RX5 28 "ForwardLogModel" "state" "[I", Cond.fieldLink RX5 31 "ForwardLogModel" "digest" "[I", Cond.fieldLink RX5 34 "ForwardLogModel" "way" "[I", Cond.fieldLink RX5 37 "ForwardLogModel" "before" "[I", Cond.fieldLink RX5 40 "ForwardLogModel" "copy" "[I", Cond.fieldLink RX5 43 "ForwardLogModel" "from" "[I", Cond.fieldLink RX5 46 "ForwardLogModel" "number" "[I", Cond.fieldLink RX5 52 "ForwardLogModel" "isUp" "Z", Cond.methodLink RX5 49 yX5_forget, Cond.instanceMethod yX5_forget, Cond.selects RX5 yX5_forget yX5_forget, Cond.initialized RX5, Cond.code yX5_forget cX5_forget 1 none, Cond.fieldLink RX5 60 "ForwardLogModel" "isVerified" "Z"]
def wsX5_init_r2 : List Cond := [Cond.fieldLink RX5 63 "ForwardLogModel" "badRecord" "I", Cond.fieldLink RX5 66 "ForwardLogModel" "badPlace" "I", Cond.fieldLink RX5 69 "ForwardLogModel" "good" "I", Cond.fieldLink RX5 72 "ForwardLogModel" "goodPassed" "I", Cond.fieldLink RX5 75 "ForwardLogModel" "isSealed" "Z"]
def wsX5_init : List Cond := .code yX5_init cX5_init 1 none :: ((wsX5_init_r1 ++ wsX5_init_r2) ++ wsX50)
def wsX5_thrown : List Cond := .code yX5_thrown cX5_thrown 1 (some .int) :: ([.fieldLink RX5 56 "ForwardLogModel" "refusal" "I"] ++ wsX50)
def wsX5_refused : List Cond := .code yX5_refused cX5_refused 2 (some .boolean) :: ([.fieldLink RX5 56 "ForwardLogModel" "refusal" "I"] ++ wsX50)
def wsX5_round_r1 : List Cond := [Cond.constant RX5 78 (1116352408), Cond.constant RX5 79 (1899447441), Cond.constant RX5 80 (-1245643825), Cond.constant RX5 81 (-373957723), Cond.constant RX5 82 (961987163), Cond.constant RX5 83 (1508970993), Cond.constant RX5 84 (-1841331548), Cond.constant RX5 85 (-1424204075), Cond.constant RX5 86 (-670586216), Cond.constant RX5 87 (310598401), Cond.constant RX5 88 (607225278), Cond.constant RX5 89 (1426881987), Cond.constant RX5 90 (1925078388), Cond.constant RX5 91 (-2132889090), Cond.constant RX5 92 (-1680079193), Cond.constant RX5 93 (-1046744716), Cond.constant RX5 94 (-459576895), Cond.constant RX5 95 (-272742522), Cond.constant RX5 96 (264347078), Cond.constant RX5 97 (604807628), Cond.constant RX5 98 (770255983), Cond.constant RX5 99 (1249150122), Cond.constant RX5 100 (1555081692), Cond.constant RX5 101 (1996064986)]
def wsX5_round_r2 : List Cond := [Cond.constant RX5 102 (-1740746414), Cond.constant RX5 103 (-1473132947), Cond.constant RX5 104 (-1341970488), Cond.constant RX5 105 (-1084653625), Cond.constant RX5 106 (-958395405), Cond.constant RX5 107 (-710438585), Cond.constant RX5 108 (113926993), Cond.constant RX5 109 (338241895), Cond.constant RX5 110 (666307205), Cond.constant RX5 111 (773529912), Cond.constant RX5 112 (1294757372), Cond.constant RX5 113 (1396182291), Cond.constant RX5 114 (1695183700), Cond.constant RX5 115 (1986661051), Cond.constant RX5 116 (-2117940946), Cond.constant RX5 117 (-1838011259), Cond.constant RX5 118 (-1564481375), Cond.constant RX5 119 (-1474664885), Cond.constant RX5 120 (-1035236496), Cond.constant RX5 121 (-949202525), Cond.constant RX5 122 (-778901479), Cond.constant RX5 123 (-694614492), Cond.constant RX5 124 (-200395387), Cond.constant RX5 125 (275423344)]
def wsX5_round_r3 : List Cond := [Cond.constant RX5 126 (430227734), Cond.constant RX5 127 (506948616), Cond.constant RX5 128 (659060556), Cond.constant RX5 129 (883997877), Cond.constant RX5 130 (958139571), Cond.constant RX5 131 (1322822218), Cond.constant RX5 132 (1537002063), Cond.constant RX5 133 (1747873779), Cond.constant RX5 134 (1955562222), Cond.constant RX5 135 (2024104815), Cond.constant RX5 136 (-2067236844), Cond.constant RX5 137 (-1933114872), Cond.constant RX5 138 (-1866530822), Cond.constant RX5 139 (-1538233109), Cond.constant RX5 140 (-1090935817), Cond.constant RX5 141 (-965641998)]
def wsX5_round : List Cond := .code yX5_round cX5_round 1 (some .int) :: ((wsX5_round_r1 ++ (wsX5_round_r2 ++ wsX5_round_r3)))
def wsX5_first : List Cond := .code yX5_first cX5_first 1 (some .int) :: ([.constant RX5 142 (1779033703), .constant RX5 143 (-1150833019), .constant RX5 144 (1013904242), .constant RX5 145 (-1521486534), .constant RX5 146 (1359893119), .constant RX5 147 (-1694144372), .constant RX5 148 (528734635), .constant RX5 149 (1541459225)])
def wsX5_right : List Cond := .code yX5_right cX5_right 2 (some .int) :: ([])
def wsX5_add : List Cond := .code yX5_add cX5_add 2 none :: ([.fieldLink RX5 22 "ForwardLogModel" "text" "[I", .fieldLink RX5 150 "ForwardLogModel" "textSize" "I"] ++ wsX50)
def wsX5_addNumber : List Cond := .code yX5_addNumber cX5_addNumber 3 none :: ([.methodLink RX5 153 yX5_add, .instanceMethod yX5_add, .selects RX5 yX5_add yX5_add, .initialized RX5, .code yX5_add cX5_add 2 none, .fieldLink RX5 22 "ForwardLogModel" "text" "[I", .fieldLink RX5 150 "ForwardLogModel" "textSize" "I"] ++ wsX50)
def wsX5_block_r1 : List Cond := [Cond.fieldLink RX5 25 "ForwardLogModel" "word" "[I", Cond.fieldLink RX5 22 "ForwardLogModel" "text" "[I", Cond.fieldLink RX5 28 "ForwardLogModel" "state" "[I", Cond.methodLink RX5 157 yX5_right, Cond.static yX5_right, Cond.initialized RX5, Cond.code yX5_right cX5_right 2 (some .int), Cond.methodLink RX5 161 yX5_round, Cond.static yX5_round, Cond.code yX5_round cX5_round 1 (some .int), Cond.constant RX5 78 (1116352408), Cond.constant RX5 79 (1899447441), Cond.constant RX5 80 (-1245643825), Cond.constant RX5 81 (-373957723), Cond.constant RX5 82 (961987163), Cond.constant RX5 83 (1508970993), Cond.constant RX5 84 (-1841331548), Cond.constant RX5 85 (-1424204075), Cond.constant RX5 86 (-670586216), Cond.constant RX5 87 (310598401), Cond.constant RX5 88 (607225278), Cond.constant RX5 89 (1426881987), Cond.constant RX5 90 (1925078388), Cond.constant RX5 91 (-2132889090)]
def wsX5_block_r2 : List Cond := [Cond.constant RX5 92 (-1680079193), Cond.constant RX5 93 (-1046744716), Cond.constant RX5 94 (-459576895), Cond.constant RX5 95 (-272742522), Cond.constant RX5 96 (264347078), Cond.constant RX5 97 (604807628), Cond.constant RX5 98 (770255983), Cond.constant RX5 99 (1249150122), Cond.constant RX5 100 (1555081692), Cond.constant RX5 101 (1996064986), Cond.constant RX5 102 (-1740746414), Cond.constant RX5 103 (-1473132947), Cond.constant RX5 104 (-1341970488), Cond.constant RX5 105 (-1084653625), Cond.constant RX5 106 (-958395405), Cond.constant RX5 107 (-710438585), Cond.constant RX5 108 (113926993), Cond.constant RX5 109 (338241895), Cond.constant RX5 110 (666307205), Cond.constant RX5 111 (773529912), Cond.constant RX5 112 (1294757372), Cond.constant RX5 113 (1396182291), Cond.constant RX5 114 (1695183700), Cond.constant RX5 115 (1986661051)]
def wsX5_block_r3 : List Cond := [Cond.constant RX5 116 (-2117940946), Cond.constant RX5 117 (-1838011259), Cond.constant RX5 118 (-1564481375), Cond.constant RX5 119 (-1474664885), Cond.constant RX5 120 (-1035236496), Cond.constant RX5 121 (-949202525), Cond.constant RX5 122 (-778901479), Cond.constant RX5 123 (-694614492), Cond.constant RX5 124 (-200395387), Cond.constant RX5 125 (275423344), Cond.constant RX5 126 (430227734), Cond.constant RX5 127 (506948616), Cond.constant RX5 128 (659060556), Cond.constant RX5 129 (883997877), Cond.constant RX5 130 (958139571), Cond.constant RX5 131 (1322822218), Cond.constant RX5 132 (1537002063), Cond.constant RX5 133 (1747873779), Cond.constant RX5 134 (1955562222), Cond.constant RX5 135 (2024104815), Cond.constant RX5 136 (-2067236844), Cond.constant RX5 137 (-1933114872), Cond.constant RX5 138 (-1866530822), Cond.constant RX5 139 (-1538233109)]
def wsX5_block_r4 : List Cond := [Cond.constant RX5 140 (-1090935817), Cond.constant RX5 141 (-965641998)]
def wsX5_block : List Cond := .code yX5_block cX5_block 10 none :: ((wsX5_block_r1 ++ (wsX5_block_r2 ++ (wsX5_block_r3 ++ wsX5_block_r4))) ++ wsX50)
def wsX5_hash_r1 : List Cond := [Cond.fieldLink RX5 150 "ForwardLogModel" "textSize" "I", Cond.fieldLink RX5 28 "ForwardLogModel" "state" "[I", Cond.fieldLink RX5 31 "ForwardLogModel" "digest" "[I", Cond.methodLink RX5 165 yX5_first, Cond.static yX5_first, Cond.initialized RX5, Cond.code yX5_first cX5_first 1 (some .int), Cond.constant RX5 142 (1779033703), Cond.constant RX5 143 (-1150833019), Cond.constant RX5 144 (1013904242), Cond.constant RX5 145 (-1521486534), Cond.constant RX5 146 (1359893119), Cond.constant RX5 147 (-1694144372), Cond.constant RX5 148 (528734635), Cond.constant RX5 149 (1541459225), Cond.methodLink RX5 153 yX5_add, Cond.instanceMethod yX5_add, Cond.selects RX5 yX5_add yX5_add, Cond.code yX5_add cX5_add 2 none, Cond.fieldLink RX5 22 "ForwardLogModel" "text" "[I", Cond.methodLink RX5 168 yX5_addNumber, Cond.instanceMethod yX5_addNumber, Cond.selects RX5 yX5_addNumber yX5_addNumber, Cond.code yX5_addNumber cX5_addNumber 3 none]
def wsX5_hash_r2 : List Cond := [Cond.methodLink RX5 171 yX5_block, Cond.instanceMethod yX5_block, Cond.selects RX5 yX5_block yX5_block, Cond.code yX5_block cX5_block 10 none, Cond.fieldLink RX5 25 "ForwardLogModel" "word" "[I", Cond.methodLink RX5 157 yX5_right, Cond.static yX5_right, Cond.code yX5_right cX5_right 2 (some .int), Cond.methodLink RX5 161 yX5_round, Cond.static yX5_round, Cond.code yX5_round cX5_round 1 (some .int), Cond.constant RX5 78 (1116352408), Cond.constant RX5 79 (1899447441), Cond.constant RX5 80 (-1245643825), Cond.constant RX5 81 (-373957723), Cond.constant RX5 82 (961987163), Cond.constant RX5 83 (1508970993), Cond.constant RX5 84 (-1841331548), Cond.constant RX5 85 (-1424204075), Cond.constant RX5 86 (-670586216), Cond.constant RX5 87 (310598401), Cond.constant RX5 88 (607225278), Cond.constant RX5 89 (1426881987), Cond.constant RX5 90 (1925078388)]
def wsX5_hash_r3 : List Cond := [Cond.constant RX5 91 (-2132889090), Cond.constant RX5 92 (-1680079193), Cond.constant RX5 93 (-1046744716), Cond.constant RX5 94 (-459576895), Cond.constant RX5 95 (-272742522), Cond.constant RX5 96 (264347078), Cond.constant RX5 97 (604807628), Cond.constant RX5 98 (770255983), Cond.constant RX5 99 (1249150122), Cond.constant RX5 100 (1555081692), Cond.constant RX5 101 (1996064986), Cond.constant RX5 102 (-1740746414), Cond.constant RX5 103 (-1473132947), Cond.constant RX5 104 (-1341970488), Cond.constant RX5 105 (-1084653625), Cond.constant RX5 106 (-958395405), Cond.constant RX5 107 (-710438585), Cond.constant RX5 108 (113926993), Cond.constant RX5 109 (338241895), Cond.constant RX5 110 (666307205), Cond.constant RX5 111 (773529912), Cond.constant RX5 112 (1294757372), Cond.constant RX5 113 (1396182291), Cond.constant RX5 114 (1695183700)]
def wsX5_hash_r4 : List Cond := [Cond.constant RX5 115 (1986661051), Cond.constant RX5 116 (-2117940946), Cond.constant RX5 117 (-1838011259), Cond.constant RX5 118 (-1564481375), Cond.constant RX5 119 (-1474664885), Cond.constant RX5 120 (-1035236496), Cond.constant RX5 121 (-949202525), Cond.constant RX5 122 (-778901479), Cond.constant RX5 123 (-694614492), Cond.constant RX5 124 (-200395387), Cond.constant RX5 125 (275423344), Cond.constant RX5 126 (430227734), Cond.constant RX5 127 (506948616), Cond.constant RX5 128 (659060556), Cond.constant RX5 129 (883997877), Cond.constant RX5 130 (958139571), Cond.constant RX5 131 (1322822218), Cond.constant RX5 132 (1537002063), Cond.constant RX5 133 (1747873779), Cond.constant RX5 134 (1955562222), Cond.constant RX5 135 (2024104815), Cond.constant RX5 136 (-2067236844), Cond.constant RX5 137 (-1933114872), Cond.constant RX5 138 (-1866530822)]
def wsX5_hash_r5 : List Cond := [Cond.constant RX5 139 (-1538233109), Cond.constant RX5 140 (-1090935817), Cond.constant RX5 141 (-965641998)]
def wsX5_hash : List Cond := .code yX5_hash cX5_hash 3 none :: ((wsX5_hash_r1 ++ (wsX5_hash_r2 ++ (wsX5_hash_r3 ++ (wsX5_hash_r4 ++ wsX5_hash_r5)))) ++ wsX50)
def wsX5_step_r1 : List Cond := [Cond.fieldLink RX5 34 "ForwardLogModel" "way" "[I", Cond.fieldLink RX5 31 "ForwardLogModel" "digest" "[I", Cond.methodLink RX5 153 yX5_add, Cond.instanceMethod yX5_add, Cond.selects RX5 yX5_add yX5_add, Cond.initialized RX5, Cond.code yX5_add cX5_add 2 none, Cond.fieldLink RX5 22 "ForwardLogModel" "text" "[I", Cond.fieldLink RX5 150 "ForwardLogModel" "textSize" "I", Cond.methodLink RX5 174 yX5_hash, Cond.instanceMethod yX5_hash, Cond.selects RX5 yX5_hash yX5_hash, Cond.code yX5_hash cX5_hash 3 none, Cond.fieldLink RX5 28 "ForwardLogModel" "state" "[I", Cond.methodLink RX5 165 yX5_first, Cond.static yX5_first, Cond.code yX5_first cX5_first 1 (some .int), Cond.constant RX5 142 (1779033703), Cond.constant RX5 143 (-1150833019), Cond.constant RX5 144 (1013904242), Cond.constant RX5 145 (-1521486534), Cond.constant RX5 146 (1359893119), Cond.constant RX5 147 (-1694144372), Cond.constant RX5 148 (528734635)]
def wsX5_step_r2 : List Cond := [Cond.constant RX5 149 (1541459225), Cond.methodLink RX5 168 yX5_addNumber, Cond.instanceMethod yX5_addNumber, Cond.selects RX5 yX5_addNumber yX5_addNumber, Cond.code yX5_addNumber cX5_addNumber 3 none, Cond.methodLink RX5 171 yX5_block, Cond.instanceMethod yX5_block, Cond.selects RX5 yX5_block yX5_block, Cond.code yX5_block cX5_block 10 none, Cond.fieldLink RX5 25 "ForwardLogModel" "word" "[I", Cond.methodLink RX5 157 yX5_right, Cond.static yX5_right, Cond.code yX5_right cX5_right 2 (some .int), Cond.methodLink RX5 161 yX5_round, Cond.static yX5_round, Cond.code yX5_round cX5_round 1 (some .int), Cond.constant RX5 78 (1116352408), Cond.constant RX5 79 (1899447441), Cond.constant RX5 80 (-1245643825), Cond.constant RX5 81 (-373957723), Cond.constant RX5 82 (961987163), Cond.constant RX5 83 (1508970993), Cond.constant RX5 84 (-1841331548), Cond.constant RX5 85 (-1424204075)]
def wsX5_step_r3 : List Cond := [Cond.constant RX5 86 (-670586216), Cond.constant RX5 87 (310598401), Cond.constant RX5 88 (607225278), Cond.constant RX5 89 (1426881987), Cond.constant RX5 90 (1925078388), Cond.constant RX5 91 (-2132889090), Cond.constant RX5 92 (-1680079193), Cond.constant RX5 93 (-1046744716), Cond.constant RX5 94 (-459576895), Cond.constant RX5 95 (-272742522), Cond.constant RX5 96 (264347078), Cond.constant RX5 97 (604807628), Cond.constant RX5 98 (770255983), Cond.constant RX5 99 (1249150122), Cond.constant RX5 100 (1555081692), Cond.constant RX5 101 (1996064986), Cond.constant RX5 102 (-1740746414), Cond.constant RX5 103 (-1473132947), Cond.constant RX5 104 (-1341970488), Cond.constant RX5 105 (-1084653625), Cond.constant RX5 106 (-958395405), Cond.constant RX5 107 (-710438585), Cond.constant RX5 108 (113926993), Cond.constant RX5 109 (338241895)]
def wsX5_step_r4 : List Cond := [Cond.constant RX5 110 (666307205), Cond.constant RX5 111 (773529912), Cond.constant RX5 112 (1294757372), Cond.constant RX5 113 (1396182291), Cond.constant RX5 114 (1695183700), Cond.constant RX5 115 (1986661051), Cond.constant RX5 116 (-2117940946), Cond.constant RX5 117 (-1838011259), Cond.constant RX5 118 (-1564481375), Cond.constant RX5 119 (-1474664885), Cond.constant RX5 120 (-1035236496), Cond.constant RX5 121 (-949202525), Cond.constant RX5 122 (-778901479), Cond.constant RX5 123 (-694614492), Cond.constant RX5 124 (-200395387), Cond.constant RX5 125 (275423344), Cond.constant RX5 126 (430227734), Cond.constant RX5 127 (506948616), Cond.constant RX5 128 (659060556), Cond.constant RX5 129 (883997877), Cond.constant RX5 130 (958139571), Cond.constant RX5 131 (1322822218), Cond.constant RX5 132 (1537002063), Cond.constant RX5 133 (1747873779)]
def wsX5_step_r5 : List Cond := [Cond.constant RX5 134 (1955562222), Cond.constant RX5 135 (2024104815), Cond.constant RX5 136 (-2067236844), Cond.constant RX5 137 (-1933114872), Cond.constant RX5 138 (-1866530822), Cond.constant RX5 139 (-1538233109), Cond.constant RX5 140 (-1090935817), Cond.constant RX5 141 (-965641998)]
def wsX5_step : List Cond := .code yX5_step cX5_step 2 none :: ((wsX5_step_r1 ++ (wsX5_step_r2 ++ (wsX5_step_r3 ++ (wsX5_step_r4 ++ wsX5_step_r5)))) ++ wsX50)
def wsX5_pad : List Cond := .code yX5_pad cX5_pad 3 none :: ([.fieldLink RX5 34 "ForwardLogModel" "way" "[I", .methodLink RX5 153 yX5_add, .instanceMethod yX5_add, .selects RX5 yX5_add yX5_add, .initialized RX5, .code yX5_add cX5_add 2 none, .fieldLink RX5 22 "ForwardLogModel" "text" "[I", .fieldLink RX5 150 "ForwardLogModel" "textSize" "I"] ++ wsX50)
def wsX5_tag_r1 : List Cond := [Cond.fieldLink RX5 7 "ForwardLogModel" "disk" "[I", Cond.fieldLink RX5 37 "ForwardLogModel" "before" "[I", Cond.fieldLink RX5 31 "ForwardLogModel" "digest" "[I", Cond.methodLink RX5 177 yX5_pad, Cond.instanceMethod yX5_pad, Cond.selects RX5 yX5_pad yX5_pad, Cond.initialized RX5, Cond.code yX5_pad cX5_pad 3 none, Cond.fieldLink RX5 34 "ForwardLogModel" "way" "[I", Cond.methodLink RX5 153 yX5_add, Cond.instanceMethod yX5_add, Cond.selects RX5 yX5_add yX5_add, Cond.code yX5_add cX5_add 2 none, Cond.fieldLink RX5 22 "ForwardLogModel" "text" "[I", Cond.fieldLink RX5 150 "ForwardLogModel" "textSize" "I", Cond.methodLink RX5 168 yX5_addNumber, Cond.instanceMethod yX5_addNumber, Cond.selects RX5 yX5_addNumber yX5_addNumber, Cond.code yX5_addNumber cX5_addNumber 3 none, Cond.methodLink RX5 174 yX5_hash, Cond.instanceMethod yX5_hash, Cond.selects RX5 yX5_hash yX5_hash, Cond.code yX5_hash cX5_hash 3 none, Cond.fieldLink RX5 28 "ForwardLogModel" "state" "[I"]
def wsX5_tag_r2 : List Cond := [Cond.methodLink RX5 165 yX5_first, Cond.static yX5_first, Cond.code yX5_first cX5_first 1 (some .int), Cond.constant RX5 142 (1779033703), Cond.constant RX5 143 (-1150833019), Cond.constant RX5 144 (1013904242), Cond.constant RX5 145 (-1521486534), Cond.constant RX5 146 (1359893119), Cond.constant RX5 147 (-1694144372), Cond.constant RX5 148 (528734635), Cond.constant RX5 149 (1541459225), Cond.methodLink RX5 171 yX5_block, Cond.instanceMethod yX5_block, Cond.selects RX5 yX5_block yX5_block, Cond.code yX5_block cX5_block 10 none, Cond.fieldLink RX5 25 "ForwardLogModel" "word" "[I", Cond.methodLink RX5 157 yX5_right, Cond.static yX5_right, Cond.code yX5_right cX5_right 2 (some .int), Cond.methodLink RX5 161 yX5_round, Cond.static yX5_round, Cond.code yX5_round cX5_round 1 (some .int), Cond.constant RX5 78 (1116352408), Cond.constant RX5 79 (1899447441)]
def wsX5_tag_r3 : List Cond := [Cond.constant RX5 80 (-1245643825), Cond.constant RX5 81 (-373957723), Cond.constant RX5 82 (961987163), Cond.constant RX5 83 (1508970993), Cond.constant RX5 84 (-1841331548), Cond.constant RX5 85 (-1424204075), Cond.constant RX5 86 (-670586216), Cond.constant RX5 87 (310598401), Cond.constant RX5 88 (607225278), Cond.constant RX5 89 (1426881987), Cond.constant RX5 90 (1925078388), Cond.constant RX5 91 (-2132889090), Cond.constant RX5 92 (-1680079193), Cond.constant RX5 93 (-1046744716), Cond.constant RX5 94 (-459576895), Cond.constant RX5 95 (-272742522), Cond.constant RX5 96 (264347078), Cond.constant RX5 97 (604807628), Cond.constant RX5 98 (770255983), Cond.constant RX5 99 (1249150122), Cond.constant RX5 100 (1555081692), Cond.constant RX5 101 (1996064986), Cond.constant RX5 102 (-1740746414), Cond.constant RX5 103 (-1473132947)]
def wsX5_tag_r4 : List Cond := [Cond.constant RX5 104 (-1341970488), Cond.constant RX5 105 (-1084653625), Cond.constant RX5 106 (-958395405), Cond.constant RX5 107 (-710438585), Cond.constant RX5 108 (113926993), Cond.constant RX5 109 (338241895), Cond.constant RX5 110 (666307205), Cond.constant RX5 111 (773529912), Cond.constant RX5 112 (1294757372), Cond.constant RX5 113 (1396182291), Cond.constant RX5 114 (1695183700), Cond.constant RX5 115 (1986661051), Cond.constant RX5 116 (-2117940946), Cond.constant RX5 117 (-1838011259), Cond.constant RX5 118 (-1564481375), Cond.constant RX5 119 (-1474664885), Cond.constant RX5 120 (-1035236496), Cond.constant RX5 121 (-949202525), Cond.constant RX5 122 (-778901479), Cond.constant RX5 123 (-694614492), Cond.constant RX5 124 (-200395387), Cond.constant RX5 125 (275423344), Cond.constant RX5 126 (430227734), Cond.constant RX5 127 (506948616)]
def wsX5_tag_r5 : List Cond := [Cond.constant RX5 128 (659060556), Cond.constant RX5 129 (883997877), Cond.constant RX5 130 (958139571), Cond.constant RX5 131 (1322822218), Cond.constant RX5 132 (1537002063), Cond.constant RX5 133 (1747873779), Cond.constant RX5 134 (1955562222), Cond.constant RX5 135 (2024104815), Cond.constant RX5 136 (-2067236844), Cond.constant RX5 137 (-1933114872), Cond.constant RX5 138 (-1866530822), Cond.constant RX5 139 (-1538233109), Cond.constant RX5 140 (-1090935817), Cond.constant RX5 141 (-965641998)]
def wsX5_tag : List Cond := .code yX5_tag cX5_tag 4 none :: ((wsX5_tag_r1 ++ (wsX5_tag_r2 ++ (wsX5_tag_r3 ++ (wsX5_tag_r4 ++ wsX5_tag_r5)))) ++ wsX50)
def wsX5_clear : List Cond := .code yX5_clear cX5_clear 2 none :: ([.fieldLink RX5 180 "ForwardLogModel" "size" "I", .fieldLink RX5 183 "ForwardLogModel" "synced" "I", .fieldLink RX5 186 "ForwardLogModel" "index" "I", .fieldLink RX5 189 "ForwardLogModel" "crashes" "I", .fieldLink RX5 52 "ForwardLogModel" "isUp" "Z", .fieldLink RX5 19 "ForwardLogModel" "lastTag" "[I", .methodLink RX5 49 yX5_forget, .instanceMethod yX5_forget, .selects RX5 yX5_forget yX5_forget, .initialized RX5, .code yX5_forget cX5_forget 1 none, .fieldLink RX5 60 "ForwardLogModel" "isVerified" "Z", .fieldLink RX5 63 "ForwardLogModel" "badRecord" "I", .fieldLink RX5 66 "ForwardLogModel" "badPlace" "I", .fieldLink RX5 69 "ForwardLogModel" "good" "I", .fieldLink RX5 72 "ForwardLogModel" "goodPassed" "I", .fieldLink RX5 75 "ForwardLogModel" "isSealed" "Z"] ++ wsX50)
def wsX5_byteOf : List Cond := .code yX5_byteOf cX5_byteOf 6 (some .int) :: ([])
def wsX5_begin_r1 : List Cond := [Cond.fieldLink RX5 56 "ForwardLogModel" "refusal" "I", Cond.fieldLink RX5 16 "ForwardLogModel" "key" "[I", Cond.methodLink RX5 192 yX5_clear, Cond.instanceMethod yX5_clear, Cond.selects RX5 yX5_clear yX5_clear, Cond.initialized RX5, Cond.code yX5_clear cX5_clear 2 none, Cond.fieldLink RX5 180 "ForwardLogModel" "size" "I", Cond.fieldLink RX5 183 "ForwardLogModel" "synced" "I", Cond.fieldLink RX5 186 "ForwardLogModel" "index" "I", Cond.fieldLink RX5 189 "ForwardLogModel" "crashes" "I", Cond.fieldLink RX5 52 "ForwardLogModel" "isUp" "Z", Cond.fieldLink RX5 19 "ForwardLogModel" "lastTag" "[I", Cond.methodLink RX5 49 yX5_forget, Cond.instanceMethod yX5_forget, Cond.selects RX5 yX5_forget yX5_forget, Cond.code yX5_forget cX5_forget 1 none, Cond.fieldLink RX5 60 "ForwardLogModel" "isVerified" "Z", Cond.fieldLink RX5 63 "ForwardLogModel" "badRecord" "I", Cond.fieldLink RX5 66 "ForwardLogModel" "badPlace" "I", Cond.fieldLink RX5 69 "ForwardLogModel" "good" "I", Cond.fieldLink RX5 72 "ForwardLogModel" "goodPassed" "I", Cond.fieldLink RX5 75 "ForwardLogModel" "isSealed" "Z", Cond.methodLink RX5 195 yX5_byteOf]
def wsX5_begin_r2 : List Cond := [Cond.static yX5_byteOf, Cond.code yX5_byteOf cX5_byteOf 6 (some .int)]
def wsX5_begin : List Cond := .code yX5_begin cX5_begin 6 none :: ((wsX5_begin_r1 ++ wsX5_begin_r2) ++ wsX50)
def wsX5_feed : List Cond := .code yX5_feed cX5_feed 8 (some .int) :: ([.fieldLink RX5 199 "ForwardLogModel" "filled" "I", .fieldLink RX5 13 "ForwardLogModel" "buffer" "[I", .methodLink RX5 202 yX5_refused, .instanceMethod yX5_refused, .selects RX5 yX5_refused yX5_refused, .initialized RX5, .code yX5_refused cX5_refused 2 (some .boolean), .fieldLink RX5 56 "ForwardLogModel" "refusal" "I", .methodLink RX5 195 yX5_byteOf, .static yX5_byteOf, .code yX5_byteOf cX5_byteOf 6 (some .int)] ++ wsX50)
def wsX5_erase : List Cond := .code yX5_erase cX5_erase 2 (some .int) :: ([.fieldLink RX5 56 "ForwardLogModel" "refusal" "I", .fieldLink RX5 199 "ForwardLogModel" "filled" "I"] ++ wsX50)
def wsX5_write_r1 : List Cond := [Cond.fieldLink RX5 34 "ForwardLogModel" "way" "[I", Cond.fieldLink RX5 16 "ForwardLogModel" "key" "[I", Cond.fieldLink RX5 37 "ForwardLogModel" "before" "[I", Cond.fieldLink RX5 19 "ForwardLogModel" "lastTag" "[I", Cond.fieldLink RX5 186 "ForwardLogModel" "index" "I", Cond.fieldLink RX5 180 "ForwardLogModel" "size" "I", Cond.fieldLink RX5 31 "ForwardLogModel" "digest" "[I", Cond.fieldLink RX5 7 "ForwardLogModel" "disk" "[I", Cond.methodLink RX5 206 yX5_tag, Cond.instanceMethod yX5_tag, Cond.selects RX5 yX5_tag yX5_tag, Cond.initialized RX5, Cond.code yX5_tag cX5_tag 4 none, Cond.methodLink RX5 177 yX5_pad, Cond.instanceMethod yX5_pad, Cond.selects RX5 yX5_pad yX5_pad, Cond.code yX5_pad cX5_pad 3 none, Cond.methodLink RX5 153 yX5_add, Cond.instanceMethod yX5_add, Cond.selects RX5 yX5_add yX5_add, Cond.code yX5_add cX5_add 2 none, Cond.fieldLink RX5 22 "ForwardLogModel" "text" "[I", Cond.fieldLink RX5 150 "ForwardLogModel" "textSize" "I", Cond.methodLink RX5 168 yX5_addNumber]
def wsX5_write_r2 : List Cond := [Cond.instanceMethod yX5_addNumber, Cond.selects RX5 yX5_addNumber yX5_addNumber, Cond.code yX5_addNumber cX5_addNumber 3 none, Cond.methodLink RX5 174 yX5_hash, Cond.instanceMethod yX5_hash, Cond.selects RX5 yX5_hash yX5_hash, Cond.code yX5_hash cX5_hash 3 none, Cond.fieldLink RX5 28 "ForwardLogModel" "state" "[I", Cond.methodLink RX5 165 yX5_first, Cond.static yX5_first, Cond.code yX5_first cX5_first 1 (some .int), Cond.constant RX5 142 (1779033703), Cond.constant RX5 143 (-1150833019), Cond.constant RX5 144 (1013904242), Cond.constant RX5 145 (-1521486534), Cond.constant RX5 146 (1359893119), Cond.constant RX5 147 (-1694144372), Cond.constant RX5 148 (528734635), Cond.constant RX5 149 (1541459225), Cond.methodLink RX5 171 yX5_block, Cond.instanceMethod yX5_block, Cond.selects RX5 yX5_block yX5_block, Cond.code yX5_block cX5_block 10 none, Cond.fieldLink RX5 25 "ForwardLogModel" "word" "[I"]
def wsX5_write_r3 : List Cond := [Cond.methodLink RX5 157 yX5_right, Cond.static yX5_right, Cond.code yX5_right cX5_right 2 (some .int), Cond.methodLink RX5 161 yX5_round, Cond.static yX5_round, Cond.code yX5_round cX5_round 1 (some .int), Cond.constant RX5 78 (1116352408), Cond.constant RX5 79 (1899447441), Cond.constant RX5 80 (-1245643825), Cond.constant RX5 81 (-373957723), Cond.constant RX5 82 (961987163), Cond.constant RX5 83 (1508970993), Cond.constant RX5 84 (-1841331548), Cond.constant RX5 85 (-1424204075), Cond.constant RX5 86 (-670586216), Cond.constant RX5 87 (310598401), Cond.constant RX5 88 (607225278), Cond.constant RX5 89 (1426881987), Cond.constant RX5 90 (1925078388), Cond.constant RX5 91 (-2132889090), Cond.constant RX5 92 (-1680079193), Cond.constant RX5 93 (-1046744716), Cond.constant RX5 94 (-459576895), Cond.constant RX5 95 (-272742522)]
def wsX5_write_r4 : List Cond := [Cond.constant RX5 96 (264347078), Cond.constant RX5 97 (604807628), Cond.constant RX5 98 (770255983), Cond.constant RX5 99 (1249150122), Cond.constant RX5 100 (1555081692), Cond.constant RX5 101 (1996064986), Cond.constant RX5 102 (-1740746414), Cond.constant RX5 103 (-1473132947), Cond.constant RX5 104 (-1341970488), Cond.constant RX5 105 (-1084653625), Cond.constant RX5 106 (-958395405), Cond.constant RX5 107 (-710438585), Cond.constant RX5 108 (113926993), Cond.constant RX5 109 (338241895), Cond.constant RX5 110 (666307205), Cond.constant RX5 111 (773529912), Cond.constant RX5 112 (1294757372), Cond.constant RX5 113 (1396182291), Cond.constant RX5 114 (1695183700), Cond.constant RX5 115 (1986661051), Cond.constant RX5 116 (-2117940946), Cond.constant RX5 117 (-1838011259), Cond.constant RX5 118 (-1564481375), Cond.constant RX5 119 (-1474664885)]
def wsX5_write_r5 : List Cond := [Cond.constant RX5 120 (-1035236496), Cond.constant RX5 121 (-949202525), Cond.constant RX5 122 (-778901479), Cond.constant RX5 123 (-694614492), Cond.constant RX5 124 (-200395387), Cond.constant RX5 125 (275423344), Cond.constant RX5 126 (430227734), Cond.constant RX5 127 (506948616), Cond.constant RX5 128 (659060556), Cond.constant RX5 129 (883997877), Cond.constant RX5 130 (958139571), Cond.constant RX5 131 (1322822218), Cond.constant RX5 132 (1537002063), Cond.constant RX5 133 (1747873779), Cond.constant RX5 134 (1955562222), Cond.constant RX5 135 (2024104815), Cond.constant RX5 136 (-2067236844), Cond.constant RX5 137 (-1933114872), Cond.constant RX5 138 (-1866530822), Cond.constant RX5 139 (-1538233109), Cond.constant RX5 140 (-1090935817), Cond.constant RX5 141 (-965641998), Cond.methodLink RX5 210 yX5_step, Cond.instanceMethod yX5_step]
def wsX5_write_r6 : List Cond := [Cond.selects RX5 yX5_step yX5_step, Cond.code yX5_step cX5_step 2 none]
def wsX5_write : List Cond := .code yX5_write cX5_write 3 (some .int) :: ((wsX5_write_r1 ++ (wsX5_write_r2 ++ (wsX5_write_r3 ++ (wsX5_write_r4 ++ (wsX5_write_r5 ++ wsX5_write_r6))))) ++ wsX50)
def wsX5_fits : List Cond := .code yX5_fits cX5_fits 2 (some .boolean) :: ([.fieldLink RX5 180 "ForwardLogModel" "size" "I"] ++ wsX50)
def wsX5_append_r1 : List Cond := [Cond.fieldLink RX5 52 "ForwardLogModel" "isUp" "Z", Cond.fieldLink RX5 199 "ForwardLogModel" "filled" "I", Cond.fieldLink RX5 7 "ForwardLogModel" "disk" "[I", Cond.fieldLink RX5 180 "ForwardLogModel" "size" "I", Cond.fieldLink RX5 13 "ForwardLogModel" "buffer" "[I", Cond.methodLink RX5 202 yX5_refused, Cond.instanceMethod yX5_refused, Cond.selects RX5 yX5_refused yX5_refused, Cond.initialized RX5, Cond.code yX5_refused cX5_refused 2 (some .boolean), Cond.fieldLink RX5 56 "ForwardLogModel" "refusal" "I", Cond.methodLink RX5 213 yX5_fits, Cond.instanceMethod yX5_fits, Cond.selects RX5 yX5_fits yX5_fits, Cond.code yX5_fits cX5_fits 2 (some .boolean), Cond.methodLink RX5 216 yX5_write, Cond.instanceMethod yX5_write, Cond.selects RX5 yX5_write yX5_write, Cond.code yX5_write cX5_write 3 (some .int), Cond.fieldLink RX5 34 "ForwardLogModel" "way" "[I", Cond.fieldLink RX5 16 "ForwardLogModel" "key" "[I", Cond.fieldLink RX5 37 "ForwardLogModel" "before" "[I", Cond.fieldLink RX5 19 "ForwardLogModel" "lastTag" "[I", Cond.fieldLink RX5 186 "ForwardLogModel" "index" "I"]
def wsX5_append_r2 : List Cond := [Cond.fieldLink RX5 31 "ForwardLogModel" "digest" "[I", Cond.methodLink RX5 206 yX5_tag, Cond.instanceMethod yX5_tag, Cond.selects RX5 yX5_tag yX5_tag, Cond.code yX5_tag cX5_tag 4 none, Cond.methodLink RX5 177 yX5_pad, Cond.instanceMethod yX5_pad, Cond.selects RX5 yX5_pad yX5_pad, Cond.code yX5_pad cX5_pad 3 none, Cond.methodLink RX5 153 yX5_add, Cond.instanceMethod yX5_add, Cond.selects RX5 yX5_add yX5_add, Cond.code yX5_add cX5_add 2 none, Cond.fieldLink RX5 22 "ForwardLogModel" "text" "[I", Cond.fieldLink RX5 150 "ForwardLogModel" "textSize" "I", Cond.methodLink RX5 168 yX5_addNumber, Cond.instanceMethod yX5_addNumber, Cond.selects RX5 yX5_addNumber yX5_addNumber, Cond.code yX5_addNumber cX5_addNumber 3 none, Cond.methodLink RX5 174 yX5_hash, Cond.instanceMethod yX5_hash, Cond.selects RX5 yX5_hash yX5_hash, Cond.code yX5_hash cX5_hash 3 none, Cond.fieldLink RX5 28 "ForwardLogModel" "state" "[I"]
def wsX5_append_r3 : List Cond := [Cond.methodLink RX5 165 yX5_first, Cond.static yX5_first, Cond.code yX5_first cX5_first 1 (some .int), Cond.constant RX5 142 (1779033703), Cond.constant RX5 143 (-1150833019), Cond.constant RX5 144 (1013904242), Cond.constant RX5 145 (-1521486534), Cond.constant RX5 146 (1359893119), Cond.constant RX5 147 (-1694144372), Cond.constant RX5 148 (528734635), Cond.constant RX5 149 (1541459225), Cond.methodLink RX5 171 yX5_block, Cond.instanceMethod yX5_block, Cond.selects RX5 yX5_block yX5_block, Cond.code yX5_block cX5_block 10 none, Cond.fieldLink RX5 25 "ForwardLogModel" "word" "[I", Cond.methodLink RX5 157 yX5_right, Cond.static yX5_right, Cond.code yX5_right cX5_right 2 (some .int), Cond.methodLink RX5 161 yX5_round, Cond.static yX5_round, Cond.code yX5_round cX5_round 1 (some .int), Cond.constant RX5 78 (1116352408), Cond.constant RX5 79 (1899447441)]
def wsX5_append_r4 : List Cond := [Cond.constant RX5 80 (-1245643825), Cond.constant RX5 81 (-373957723), Cond.constant RX5 82 (961987163), Cond.constant RX5 83 (1508970993), Cond.constant RX5 84 (-1841331548), Cond.constant RX5 85 (-1424204075), Cond.constant RX5 86 (-670586216), Cond.constant RX5 87 (310598401), Cond.constant RX5 88 (607225278), Cond.constant RX5 89 (1426881987), Cond.constant RX5 90 (1925078388), Cond.constant RX5 91 (-2132889090), Cond.constant RX5 92 (-1680079193), Cond.constant RX5 93 (-1046744716), Cond.constant RX5 94 (-459576895), Cond.constant RX5 95 (-272742522), Cond.constant RX5 96 (264347078), Cond.constant RX5 97 (604807628), Cond.constant RX5 98 (770255983), Cond.constant RX5 99 (1249150122), Cond.constant RX5 100 (1555081692), Cond.constant RX5 101 (1996064986), Cond.constant RX5 102 (-1740746414), Cond.constant RX5 103 (-1473132947)]
def wsX5_append_r5 : List Cond := [Cond.constant RX5 104 (-1341970488), Cond.constant RX5 105 (-1084653625), Cond.constant RX5 106 (-958395405), Cond.constant RX5 107 (-710438585), Cond.constant RX5 108 (113926993), Cond.constant RX5 109 (338241895), Cond.constant RX5 110 (666307205), Cond.constant RX5 111 (773529912), Cond.constant RX5 112 (1294757372), Cond.constant RX5 113 (1396182291), Cond.constant RX5 114 (1695183700), Cond.constant RX5 115 (1986661051), Cond.constant RX5 116 (-2117940946), Cond.constant RX5 117 (-1838011259), Cond.constant RX5 118 (-1564481375), Cond.constant RX5 119 (-1474664885), Cond.constant RX5 120 (-1035236496), Cond.constant RX5 121 (-949202525), Cond.constant RX5 122 (-778901479), Cond.constant RX5 123 (-694614492), Cond.constant RX5 124 (-200395387), Cond.constant RX5 125 (275423344), Cond.constant RX5 126 (430227734), Cond.constant RX5 127 (506948616)]
def wsX5_append_r6 : List Cond := [Cond.constant RX5 128 (659060556), Cond.constant RX5 129 (883997877), Cond.constant RX5 130 (958139571), Cond.constant RX5 131 (1322822218), Cond.constant RX5 132 (1537002063), Cond.constant RX5 133 (1747873779), Cond.constant RX5 134 (1955562222), Cond.constant RX5 135 (2024104815), Cond.constant RX5 136 (-2067236844), Cond.constant RX5 137 (-1933114872), Cond.constant RX5 138 (-1866530822), Cond.constant RX5 139 (-1538233109), Cond.constant RX5 140 (-1090935817), Cond.constant RX5 141 (-965641998), Cond.methodLink RX5 210 yX5_step, Cond.instanceMethod yX5_step, Cond.selects RX5 yX5_step yX5_step, Cond.code yX5_step cX5_step 2 none]
def wsX5_append : List Cond := .code yX5_append cX5_append 2 (some .int) :: ((wsX5_append_r1 ++ (wsX5_append_r2 ++ (wsX5_append_r3 ++ (wsX5_append_r4 ++ (wsX5_append_r5 ++ wsX5_append_r6))))) ++ wsX50)
def wsX5_seal_r1 : List Cond := [Cond.fieldLink RX5 52 "ForwardLogModel" "isUp" "Z", Cond.fieldLink RX5 7 "ForwardLogModel" "disk" "[I", Cond.fieldLink RX5 180 "ForwardLogModel" "size" "I", Cond.methodLink RX5 202 yX5_refused, Cond.instanceMethod yX5_refused, Cond.selects RX5 yX5_refused yX5_refused, Cond.initialized RX5, Cond.code yX5_refused cX5_refused 2 (some .boolean), Cond.fieldLink RX5 56 "ForwardLogModel" "refusal" "I", Cond.methodLink RX5 213 yX5_fits, Cond.instanceMethod yX5_fits, Cond.selects RX5 yX5_fits yX5_fits, Cond.code yX5_fits cX5_fits 2 (some .boolean), Cond.methodLink RX5 216 yX5_write, Cond.instanceMethod yX5_write, Cond.selects RX5 yX5_write yX5_write, Cond.code yX5_write cX5_write 3 (some .int), Cond.fieldLink RX5 34 "ForwardLogModel" "way" "[I", Cond.fieldLink RX5 16 "ForwardLogModel" "key" "[I", Cond.fieldLink RX5 37 "ForwardLogModel" "before" "[I", Cond.fieldLink RX5 19 "ForwardLogModel" "lastTag" "[I", Cond.fieldLink RX5 186 "ForwardLogModel" "index" "I", Cond.fieldLink RX5 31 "ForwardLogModel" "digest" "[I", Cond.methodLink RX5 206 yX5_tag]
def wsX5_seal_r2 : List Cond := [Cond.instanceMethod yX5_tag, Cond.selects RX5 yX5_tag yX5_tag, Cond.code yX5_tag cX5_tag 4 none, Cond.methodLink RX5 177 yX5_pad, Cond.instanceMethod yX5_pad, Cond.selects RX5 yX5_pad yX5_pad, Cond.code yX5_pad cX5_pad 3 none, Cond.methodLink RX5 153 yX5_add, Cond.instanceMethod yX5_add, Cond.selects RX5 yX5_add yX5_add, Cond.code yX5_add cX5_add 2 none, Cond.fieldLink RX5 22 "ForwardLogModel" "text" "[I", Cond.fieldLink RX5 150 "ForwardLogModel" "textSize" "I", Cond.methodLink RX5 168 yX5_addNumber, Cond.instanceMethod yX5_addNumber, Cond.selects RX5 yX5_addNumber yX5_addNumber, Cond.code yX5_addNumber cX5_addNumber 3 none, Cond.methodLink RX5 174 yX5_hash, Cond.instanceMethod yX5_hash, Cond.selects RX5 yX5_hash yX5_hash, Cond.code yX5_hash cX5_hash 3 none, Cond.fieldLink RX5 28 "ForwardLogModel" "state" "[I", Cond.methodLink RX5 165 yX5_first, Cond.static yX5_first]
def wsX5_seal_r3 : List Cond := [Cond.code yX5_first cX5_first 1 (some .int), Cond.constant RX5 142 (1779033703), Cond.constant RX5 143 (-1150833019), Cond.constant RX5 144 (1013904242), Cond.constant RX5 145 (-1521486534), Cond.constant RX5 146 (1359893119), Cond.constant RX5 147 (-1694144372), Cond.constant RX5 148 (528734635), Cond.constant RX5 149 (1541459225), Cond.methodLink RX5 171 yX5_block, Cond.instanceMethod yX5_block, Cond.selects RX5 yX5_block yX5_block, Cond.code yX5_block cX5_block 10 none, Cond.fieldLink RX5 25 "ForwardLogModel" "word" "[I", Cond.methodLink RX5 157 yX5_right, Cond.static yX5_right, Cond.code yX5_right cX5_right 2 (some .int), Cond.methodLink RX5 161 yX5_round, Cond.static yX5_round, Cond.code yX5_round cX5_round 1 (some .int), Cond.constant RX5 78 (1116352408), Cond.constant RX5 79 (1899447441), Cond.constant RX5 80 (-1245643825), Cond.constant RX5 81 (-373957723)]
def wsX5_seal_r4 : List Cond := [Cond.constant RX5 82 (961987163), Cond.constant RX5 83 (1508970993), Cond.constant RX5 84 (-1841331548), Cond.constant RX5 85 (-1424204075), Cond.constant RX5 86 (-670586216), Cond.constant RX5 87 (310598401), Cond.constant RX5 88 (607225278), Cond.constant RX5 89 (1426881987), Cond.constant RX5 90 (1925078388), Cond.constant RX5 91 (-2132889090), Cond.constant RX5 92 (-1680079193), Cond.constant RX5 93 (-1046744716), Cond.constant RX5 94 (-459576895), Cond.constant RX5 95 (-272742522), Cond.constant RX5 96 (264347078), Cond.constant RX5 97 (604807628), Cond.constant RX5 98 (770255983), Cond.constant RX5 99 (1249150122), Cond.constant RX5 100 (1555081692), Cond.constant RX5 101 (1996064986), Cond.constant RX5 102 (-1740746414), Cond.constant RX5 103 (-1473132947), Cond.constant RX5 104 (-1341970488), Cond.constant RX5 105 (-1084653625)]
def wsX5_seal_r5 : List Cond := [Cond.constant RX5 106 (-958395405), Cond.constant RX5 107 (-710438585), Cond.constant RX5 108 (113926993), Cond.constant RX5 109 (338241895), Cond.constant RX5 110 (666307205), Cond.constant RX5 111 (773529912), Cond.constant RX5 112 (1294757372), Cond.constant RX5 113 (1396182291), Cond.constant RX5 114 (1695183700), Cond.constant RX5 115 (1986661051), Cond.constant RX5 116 (-2117940946), Cond.constant RX5 117 (-1838011259), Cond.constant RX5 118 (-1564481375), Cond.constant RX5 119 (-1474664885), Cond.constant RX5 120 (-1035236496), Cond.constant RX5 121 (-949202525), Cond.constant RX5 122 (-778901479), Cond.constant RX5 123 (-694614492), Cond.constant RX5 124 (-200395387), Cond.constant RX5 125 (275423344), Cond.constant RX5 126 (430227734), Cond.constant RX5 127 (506948616), Cond.constant RX5 128 (659060556), Cond.constant RX5 129 (883997877)]
def wsX5_seal_r6 : List Cond := [Cond.constant RX5 130 (958139571), Cond.constant RX5 131 (1322822218), Cond.constant RX5 132 (1537002063), Cond.constant RX5 133 (1747873779), Cond.constant RX5 134 (1955562222), Cond.constant RX5 135 (2024104815), Cond.constant RX5 136 (-2067236844), Cond.constant RX5 137 (-1933114872), Cond.constant RX5 138 (-1866530822), Cond.constant RX5 139 (-1538233109), Cond.constant RX5 140 (-1090935817), Cond.constant RX5 141 (-965641998), Cond.methodLink RX5 210 yX5_step, Cond.instanceMethod yX5_step, Cond.selects RX5 yX5_step yX5_step, Cond.code yX5_step cX5_step 2 none]
def wsX5_seal : List Cond := .code yX5_seal cX5_seal 1 (some .int) :: ((wsX5_seal_r1 ++ (wsX5_seal_r2 ++ (wsX5_seal_r3 ++ (wsX5_seal_r4 ++ (wsX5_seal_r5 ++ wsX5_seal_r6))))) ++ wsX50)
def wsX5_sync : List Cond := .code yX5_sync cX5_sync 1 (some .int) :: ([.fieldLink RX5 52 "ForwardLogModel" "isUp" "Z", .fieldLink RX5 180 "ForwardLogModel" "size" "I", .fieldLink RX5 183 "ForwardLogModel" "synced" "I", .methodLink RX5 202 yX5_refused, .instanceMethod yX5_refused, .selects RX5 yX5_refused yX5_refused, .initialized RX5, .code yX5_refused cX5_refused 2 (some .boolean), .fieldLink RX5 56 "ForwardLogModel" "refusal" "I"] ++ wsX50)
def wsX5_crash : List Cond := .code yX5_crash cX5_crash 4 (some .int) :: ([.fieldLink RX5 180 "ForwardLogModel" "size" "I", .fieldLink RX5 183 "ForwardLogModel" "synced" "I", .fieldLink RX5 52 "ForwardLogModel" "isUp" "Z", .fieldLink RX5 189 "ForwardLogModel" "crashes" "I", .methodLink RX5 202 yX5_refused, .instanceMethod yX5_refused, .selects RX5 yX5_refused yX5_refused, .initialized RX5, .code yX5_refused cX5_refused 2 (some .boolean), .fieldLink RX5 56 "ForwardLogModel" "refusal" "I"] ++ wsX50)
def wsX5_look : List Cond := .code yX5_look cX5_look 3 (some .boolean) :: ([.fieldLink RX5 180 "ForwardLogModel" "size" "I", .fieldLink RX5 7 "ForwardLogModel" "disk" "[I", .fieldLink RX5 219 "ForwardLogModel" "kind" "I", .fieldLink RX5 222 "ForwardLogModel" "length" "I", .fieldLink RX5 225 "ForwardLogModel" "passed" "I"] ++ wsX50)
def wsX5_recover_r1 : List Cond := [Cond.fieldLink RX5 52 "ForwardLogModel" "isUp" "Z", Cond.fieldLink RX5 225 "ForwardLogModel" "passed" "I", Cond.fieldLink RX5 222 "ForwardLogModel" "length" "I", Cond.fieldLink RX5 186 "ForwardLogModel" "index" "I", Cond.fieldLink RX5 180 "ForwardLogModel" "size" "I", Cond.fieldLink RX5 183 "ForwardLogModel" "synced" "I", Cond.fieldLink RX5 19 "ForwardLogModel" "lastTag" "[I", Cond.fieldLink RX5 7 "ForwardLogModel" "disk" "[I", Cond.methodLink RX5 202 yX5_refused, Cond.instanceMethod yX5_refused, Cond.selects RX5 yX5_refused yX5_refused, Cond.initialized RX5, Cond.code yX5_refused cX5_refused 2 (some .boolean), Cond.fieldLink RX5 56 "ForwardLogModel" "refusal" "I", Cond.methodLink RX5 228 yX5_look, Cond.instanceMethod yX5_look, Cond.selects RX5 yX5_look yX5_look, Cond.code yX5_look cX5_look 3 (some .boolean), Cond.fieldLink RX5 219 "ForwardLogModel" "kind" "I", Cond.methodLink RX5 216 yX5_write, Cond.instanceMethod yX5_write, Cond.selects RX5 yX5_write yX5_write, Cond.code yX5_write cX5_write 3 (some .int), Cond.fieldLink RX5 34 "ForwardLogModel" "way" "[I"]
def wsX5_recover_r2 : List Cond := [Cond.fieldLink RX5 16 "ForwardLogModel" "key" "[I", Cond.fieldLink RX5 37 "ForwardLogModel" "before" "[I", Cond.fieldLink RX5 31 "ForwardLogModel" "digest" "[I", Cond.methodLink RX5 206 yX5_tag, Cond.instanceMethod yX5_tag, Cond.selects RX5 yX5_tag yX5_tag, Cond.code yX5_tag cX5_tag 4 none, Cond.methodLink RX5 177 yX5_pad, Cond.instanceMethod yX5_pad, Cond.selects RX5 yX5_pad yX5_pad, Cond.code yX5_pad cX5_pad 3 none, Cond.methodLink RX5 153 yX5_add, Cond.instanceMethod yX5_add, Cond.selects RX5 yX5_add yX5_add, Cond.code yX5_add cX5_add 2 none, Cond.fieldLink RX5 22 "ForwardLogModel" "text" "[I", Cond.fieldLink RX5 150 "ForwardLogModel" "textSize" "I", Cond.methodLink RX5 168 yX5_addNumber, Cond.instanceMethod yX5_addNumber, Cond.selects RX5 yX5_addNumber yX5_addNumber, Cond.code yX5_addNumber cX5_addNumber 3 none, Cond.methodLink RX5 174 yX5_hash, Cond.instanceMethod yX5_hash, Cond.selects RX5 yX5_hash yX5_hash]
def wsX5_recover_r3 : List Cond := [Cond.code yX5_hash cX5_hash 3 none, Cond.fieldLink RX5 28 "ForwardLogModel" "state" "[I", Cond.methodLink RX5 165 yX5_first, Cond.static yX5_first, Cond.code yX5_first cX5_first 1 (some .int), Cond.constant RX5 142 (1779033703), Cond.constant RX5 143 (-1150833019), Cond.constant RX5 144 (1013904242), Cond.constant RX5 145 (-1521486534), Cond.constant RX5 146 (1359893119), Cond.constant RX5 147 (-1694144372), Cond.constant RX5 148 (528734635), Cond.constant RX5 149 (1541459225), Cond.methodLink RX5 171 yX5_block, Cond.instanceMethod yX5_block, Cond.selects RX5 yX5_block yX5_block, Cond.code yX5_block cX5_block 10 none, Cond.fieldLink RX5 25 "ForwardLogModel" "word" "[I", Cond.methodLink RX5 157 yX5_right, Cond.static yX5_right, Cond.code yX5_right cX5_right 2 (some .int), Cond.methodLink RX5 161 yX5_round, Cond.static yX5_round, Cond.code yX5_round cX5_round 1 (some .int)]
def wsX5_recover_r4 : List Cond := [Cond.constant RX5 78 (1116352408), Cond.constant RX5 79 (1899447441), Cond.constant RX5 80 (-1245643825), Cond.constant RX5 81 (-373957723), Cond.constant RX5 82 (961987163), Cond.constant RX5 83 (1508970993), Cond.constant RX5 84 (-1841331548), Cond.constant RX5 85 (-1424204075), Cond.constant RX5 86 (-670586216), Cond.constant RX5 87 (310598401), Cond.constant RX5 88 (607225278), Cond.constant RX5 89 (1426881987), Cond.constant RX5 90 (1925078388), Cond.constant RX5 91 (-2132889090), Cond.constant RX5 92 (-1680079193), Cond.constant RX5 93 (-1046744716), Cond.constant RX5 94 (-459576895), Cond.constant RX5 95 (-272742522), Cond.constant RX5 96 (264347078), Cond.constant RX5 97 (604807628), Cond.constant RX5 98 (770255983), Cond.constant RX5 99 (1249150122), Cond.constant RX5 100 (1555081692), Cond.constant RX5 101 (1996064986)]
def wsX5_recover_r5 : List Cond := [Cond.constant RX5 102 (-1740746414), Cond.constant RX5 103 (-1473132947), Cond.constant RX5 104 (-1341970488), Cond.constant RX5 105 (-1084653625), Cond.constant RX5 106 (-958395405), Cond.constant RX5 107 (-710438585), Cond.constant RX5 108 (113926993), Cond.constant RX5 109 (338241895), Cond.constant RX5 110 (666307205), Cond.constant RX5 111 (773529912), Cond.constant RX5 112 (1294757372), Cond.constant RX5 113 (1396182291), Cond.constant RX5 114 (1695183700), Cond.constant RX5 115 (1986661051), Cond.constant RX5 116 (-2117940946), Cond.constant RX5 117 (-1838011259), Cond.constant RX5 118 (-1564481375), Cond.constant RX5 119 (-1474664885), Cond.constant RX5 120 (-1035236496), Cond.constant RX5 121 (-949202525), Cond.constant RX5 122 (-778901479), Cond.constant RX5 123 (-694614492), Cond.constant RX5 124 (-200395387), Cond.constant RX5 125 (275423344)]
def wsX5_recover_r6 : List Cond := [Cond.constant RX5 126 (430227734), Cond.constant RX5 127 (506948616), Cond.constant RX5 128 (659060556), Cond.constant RX5 129 (883997877), Cond.constant RX5 130 (958139571), Cond.constant RX5 131 (1322822218), Cond.constant RX5 132 (1537002063), Cond.constant RX5 133 (1747873779), Cond.constant RX5 134 (1955562222), Cond.constant RX5 135 (2024104815), Cond.constant RX5 136 (-2067236844), Cond.constant RX5 137 (-1933114872), Cond.constant RX5 138 (-1866530822), Cond.constant RX5 139 (-1538233109), Cond.constant RX5 140 (-1090935817), Cond.constant RX5 141 (-965641998), Cond.methodLink RX5 210 yX5_step, Cond.instanceMethod yX5_step, Cond.selects RX5 yX5_step yX5_step, Cond.code yX5_step cX5_step 2 none]
def wsX5_recover : List Cond := .code yX5_recover cX5_recover 6 (some .int) :: ((wsX5_recover_r1 ++ (wsX5_recover_r2 ++ (wsX5_recover_r3 ++ (wsX5_recover_r4 ++ (wsX5_recover_r5 ++ wsX5_recover_r6))))) ++ wsX50)
def wsX5_bears_r1 : List Cond := [Cond.fieldLink RX5 37 "ForwardLogModel" "before" "[I", Cond.fieldLink RX5 7 "ForwardLogModel" "disk" "[I", Cond.fieldLink RX5 222 "ForwardLogModel" "length" "I", Cond.fieldLink RX5 31 "ForwardLogModel" "digest" "[I", Cond.methodLink RX5 206 yX5_tag, Cond.instanceMethod yX5_tag, Cond.selects RX5 yX5_tag yX5_tag, Cond.initialized RX5, Cond.code yX5_tag cX5_tag 4 none, Cond.methodLink RX5 177 yX5_pad, Cond.instanceMethod yX5_pad, Cond.selects RX5 yX5_pad yX5_pad, Cond.code yX5_pad cX5_pad 3 none, Cond.fieldLink RX5 34 "ForwardLogModel" "way" "[I", Cond.methodLink RX5 153 yX5_add, Cond.instanceMethod yX5_add, Cond.selects RX5 yX5_add yX5_add, Cond.code yX5_add cX5_add 2 none, Cond.fieldLink RX5 22 "ForwardLogModel" "text" "[I", Cond.fieldLink RX5 150 "ForwardLogModel" "textSize" "I", Cond.methodLink RX5 168 yX5_addNumber, Cond.instanceMethod yX5_addNumber, Cond.selects RX5 yX5_addNumber yX5_addNumber, Cond.code yX5_addNumber cX5_addNumber 3 none]
def wsX5_bears_r2 : List Cond := [Cond.methodLink RX5 174 yX5_hash, Cond.instanceMethod yX5_hash, Cond.selects RX5 yX5_hash yX5_hash, Cond.code yX5_hash cX5_hash 3 none, Cond.fieldLink RX5 28 "ForwardLogModel" "state" "[I", Cond.methodLink RX5 165 yX5_first, Cond.static yX5_first, Cond.code yX5_first cX5_first 1 (some .int), Cond.constant RX5 142 (1779033703), Cond.constant RX5 143 (-1150833019), Cond.constant RX5 144 (1013904242), Cond.constant RX5 145 (-1521486534), Cond.constant RX5 146 (1359893119), Cond.constant RX5 147 (-1694144372), Cond.constant RX5 148 (528734635), Cond.constant RX5 149 (1541459225), Cond.methodLink RX5 171 yX5_block, Cond.instanceMethod yX5_block, Cond.selects RX5 yX5_block yX5_block, Cond.code yX5_block cX5_block 10 none, Cond.fieldLink RX5 25 "ForwardLogModel" "word" "[I", Cond.methodLink RX5 157 yX5_right, Cond.static yX5_right, Cond.code yX5_right cX5_right 2 (some .int)]
def wsX5_bears_r3 : List Cond := [Cond.methodLink RX5 161 yX5_round, Cond.static yX5_round, Cond.code yX5_round cX5_round 1 (some .int), Cond.constant RX5 78 (1116352408), Cond.constant RX5 79 (1899447441), Cond.constant RX5 80 (-1245643825), Cond.constant RX5 81 (-373957723), Cond.constant RX5 82 (961987163), Cond.constant RX5 83 (1508970993), Cond.constant RX5 84 (-1841331548), Cond.constant RX5 85 (-1424204075), Cond.constant RX5 86 (-670586216), Cond.constant RX5 87 (310598401), Cond.constant RX5 88 (607225278), Cond.constant RX5 89 (1426881987), Cond.constant RX5 90 (1925078388), Cond.constant RX5 91 (-2132889090), Cond.constant RX5 92 (-1680079193), Cond.constant RX5 93 (-1046744716), Cond.constant RX5 94 (-459576895), Cond.constant RX5 95 (-272742522), Cond.constant RX5 96 (264347078), Cond.constant RX5 97 (604807628), Cond.constant RX5 98 (770255983)]
def wsX5_bears_r4 : List Cond := [Cond.constant RX5 99 (1249150122), Cond.constant RX5 100 (1555081692), Cond.constant RX5 101 (1996064986), Cond.constant RX5 102 (-1740746414), Cond.constant RX5 103 (-1473132947), Cond.constant RX5 104 (-1341970488), Cond.constant RX5 105 (-1084653625), Cond.constant RX5 106 (-958395405), Cond.constant RX5 107 (-710438585), Cond.constant RX5 108 (113926993), Cond.constant RX5 109 (338241895), Cond.constant RX5 110 (666307205), Cond.constant RX5 111 (773529912), Cond.constant RX5 112 (1294757372), Cond.constant RX5 113 (1396182291), Cond.constant RX5 114 (1695183700), Cond.constant RX5 115 (1986661051), Cond.constant RX5 116 (-2117940946), Cond.constant RX5 117 (-1838011259), Cond.constant RX5 118 (-1564481375), Cond.constant RX5 119 (-1474664885), Cond.constant RX5 120 (-1035236496), Cond.constant RX5 121 (-949202525), Cond.constant RX5 122 (-778901479)]
def wsX5_bears_r5 : List Cond := [Cond.constant RX5 123 (-694614492), Cond.constant RX5 124 (-200395387), Cond.constant RX5 125 (275423344), Cond.constant RX5 126 (430227734), Cond.constant RX5 127 (506948616), Cond.constant RX5 128 (659060556), Cond.constant RX5 129 (883997877), Cond.constant RX5 130 (958139571), Cond.constant RX5 131 (1322822218), Cond.constant RX5 132 (1537002063), Cond.constant RX5 133 (1747873779), Cond.constant RX5 134 (1955562222), Cond.constant RX5 135 (2024104815), Cond.constant RX5 136 (-2067236844), Cond.constant RX5 137 (-1933114872), Cond.constant RX5 138 (-1866530822), Cond.constant RX5 139 (-1538233109), Cond.constant RX5 140 (-1090935817), Cond.constant RX5 141 (-965641998)]
def wsX5_bears : List Cond := .code yX5_bears cX5_bears 5 (some .boolean) :: ((wsX5_bears_r1 ++ (wsX5_bears_r2 ++ (wsX5_bears_r3 ++ (wsX5_bears_r4 ++ wsX5_bears_r5)))) ++ wsX50)
def wsX5_verify_r1 : List Cond := [Cond.fieldLink RX5 56 "ForwardLogModel" "refusal" "I", Cond.fieldLink RX5 60 "ForwardLogModel" "isVerified" "Z", Cond.fieldLink RX5 34 "ForwardLogModel" "way" "[I", Cond.fieldLink RX5 37 "ForwardLogModel" "before" "[I", Cond.fieldLink RX5 180 "ForwardLogModel" "size" "I", Cond.fieldLink RX5 40 "ForwardLogModel" "copy" "[I", Cond.fieldLink RX5 7 "ForwardLogModel" "disk" "[I", Cond.fieldLink RX5 219 "ForwardLogModel" "kind" "I", Cond.fieldLink RX5 225 "ForwardLogModel" "passed" "I", Cond.fieldLink RX5 43 "ForwardLogModel" "from" "[I", Cond.fieldLink RX5 69 "ForwardLogModel" "good" "I", Cond.fieldLink RX5 46 "ForwardLogModel" "number" "[I", Cond.fieldLink RX5 72 "ForwardLogModel" "goodPassed" "I", Cond.fieldLink RX5 75 "ForwardLogModel" "isSealed" "Z", Cond.fieldLink RX5 222 "ForwardLogModel" "length" "I", Cond.fieldLink RX5 63 "ForwardLogModel" "badRecord" "I", Cond.fieldLink RX5 66 "ForwardLogModel" "badPlace" "I", Cond.methodLink RX5 49 yX5_forget, Cond.instanceMethod yX5_forget, Cond.selects RX5 yX5_forget yX5_forget, Cond.initialized RX5, Cond.code yX5_forget cX5_forget 1 none, Cond.methodLink RX5 195 yX5_byteOf, Cond.static yX5_byteOf]
def wsX5_verify_r2 : List Cond := [Cond.code yX5_byteOf cX5_byteOf 6 (some .int), Cond.methodLink RX5 228 yX5_look, Cond.instanceMethod yX5_look, Cond.selects RX5 yX5_look yX5_look, Cond.code yX5_look cX5_look 3 (some .boolean), Cond.methodLink RX5 210 yX5_step, Cond.instanceMethod yX5_step, Cond.selects RX5 yX5_step yX5_step, Cond.code yX5_step cX5_step 2 none, Cond.fieldLink RX5 31 "ForwardLogModel" "digest" "[I", Cond.methodLink RX5 153 yX5_add, Cond.instanceMethod yX5_add, Cond.selects RX5 yX5_add yX5_add, Cond.code yX5_add cX5_add 2 none, Cond.fieldLink RX5 22 "ForwardLogModel" "text" "[I", Cond.fieldLink RX5 150 "ForwardLogModel" "textSize" "I", Cond.methodLink RX5 174 yX5_hash, Cond.instanceMethod yX5_hash, Cond.selects RX5 yX5_hash yX5_hash, Cond.code yX5_hash cX5_hash 3 none, Cond.fieldLink RX5 28 "ForwardLogModel" "state" "[I", Cond.methodLink RX5 165 yX5_first, Cond.static yX5_first, Cond.code yX5_first cX5_first 1 (some .int)]
def wsX5_verify_r3 : List Cond := [Cond.constant RX5 142 (1779033703), Cond.constant RX5 143 (-1150833019), Cond.constant RX5 144 (1013904242), Cond.constant RX5 145 (-1521486534), Cond.constant RX5 146 (1359893119), Cond.constant RX5 147 (-1694144372), Cond.constant RX5 148 (528734635), Cond.constant RX5 149 (1541459225), Cond.methodLink RX5 168 yX5_addNumber, Cond.instanceMethod yX5_addNumber, Cond.selects RX5 yX5_addNumber yX5_addNumber, Cond.code yX5_addNumber cX5_addNumber 3 none, Cond.methodLink RX5 171 yX5_block, Cond.instanceMethod yX5_block, Cond.selects RX5 yX5_block yX5_block, Cond.code yX5_block cX5_block 10 none, Cond.fieldLink RX5 25 "ForwardLogModel" "word" "[I", Cond.methodLink RX5 157 yX5_right, Cond.static yX5_right, Cond.code yX5_right cX5_right 2 (some .int), Cond.methodLink RX5 161 yX5_round, Cond.static yX5_round, Cond.code yX5_round cX5_round 1 (some .int), Cond.constant RX5 78 (1116352408)]
def wsX5_verify_r4 : List Cond := [Cond.constant RX5 79 (1899447441), Cond.constant RX5 80 (-1245643825), Cond.constant RX5 81 (-373957723), Cond.constant RX5 82 (961987163), Cond.constant RX5 83 (1508970993), Cond.constant RX5 84 (-1841331548), Cond.constant RX5 85 (-1424204075), Cond.constant RX5 86 (-670586216), Cond.constant RX5 87 (310598401), Cond.constant RX5 88 (607225278), Cond.constant RX5 89 (1426881987), Cond.constant RX5 90 (1925078388), Cond.constant RX5 91 (-2132889090), Cond.constant RX5 92 (-1680079193), Cond.constant RX5 93 (-1046744716), Cond.constant RX5 94 (-459576895), Cond.constant RX5 95 (-272742522), Cond.constant RX5 96 (264347078), Cond.constant RX5 97 (604807628), Cond.constant RX5 98 (770255983), Cond.constant RX5 99 (1249150122), Cond.constant RX5 100 (1555081692), Cond.constant RX5 101 (1996064986), Cond.constant RX5 102 (-1740746414)]
def wsX5_verify_r5 : List Cond := [Cond.constant RX5 103 (-1473132947), Cond.constant RX5 104 (-1341970488), Cond.constant RX5 105 (-1084653625), Cond.constant RX5 106 (-958395405), Cond.constant RX5 107 (-710438585), Cond.constant RX5 108 (113926993), Cond.constant RX5 109 (338241895), Cond.constant RX5 110 (666307205), Cond.constant RX5 111 (773529912), Cond.constant RX5 112 (1294757372), Cond.constant RX5 113 (1396182291), Cond.constant RX5 114 (1695183700), Cond.constant RX5 115 (1986661051), Cond.constant RX5 116 (-2117940946), Cond.constant RX5 117 (-1838011259), Cond.constant RX5 118 (-1564481375), Cond.constant RX5 119 (-1474664885), Cond.constant RX5 120 (-1035236496), Cond.constant RX5 121 (-949202525), Cond.constant RX5 122 (-778901479), Cond.constant RX5 123 (-694614492), Cond.constant RX5 124 (-200395387), Cond.constant RX5 125 (275423344), Cond.constant RX5 126 (430227734)]
def wsX5_verify_r6 : List Cond := [Cond.constant RX5 127 (506948616), Cond.constant RX5 128 (659060556), Cond.constant RX5 129 (883997877), Cond.constant RX5 130 (958139571), Cond.constant RX5 131 (1322822218), Cond.constant RX5 132 (1537002063), Cond.constant RX5 133 (1747873779), Cond.constant RX5 134 (1955562222), Cond.constant RX5 135 (2024104815), Cond.constant RX5 136 (-2067236844), Cond.constant RX5 137 (-1933114872), Cond.constant RX5 138 (-1866530822), Cond.constant RX5 139 (-1538233109), Cond.constant RX5 140 (-1090935817), Cond.constant RX5 141 (-965641998), Cond.methodLink RX5 231 yX5_bears, Cond.instanceMethod yX5_bears, Cond.selects RX5 yX5_bears yX5_bears, Cond.code yX5_bears cX5_bears 5 (some .boolean), Cond.methodLink RX5 206 yX5_tag, Cond.instanceMethod yX5_tag, Cond.selects RX5 yX5_tag yX5_tag, Cond.code yX5_tag cX5_tag 4 none, Cond.methodLink RX5 177 yX5_pad]
def wsX5_verify_r7 : List Cond := [Cond.instanceMethod yX5_pad, Cond.selects RX5 yX5_pad yX5_pad, Cond.code yX5_pad cX5_pad 3 none]
def wsX5_verify : List Cond := .code yX5_verify cX5_verify 9 (some .int) :: ((wsX5_verify_r1 ++ (wsX5_verify_r2 ++ (wsX5_verify_r3 ++ (wsX5_verify_r4 ++ (wsX5_verify_r5 ++ (wsX5_verify_r6 ++ wsX5_verify_r7)))))) ++ wsX50)
def wsX5_told : List Cond := .code yX5_told cX5_told 2 (some .int) :: ([.fieldLink RX5 60 "ForwardLogModel" "isVerified" "Z", .fieldLink RX5 63 "ForwardLogModel" "badRecord" "I", .fieldLink RX5 66 "ForwardLogModel" "badPlace" "I", .fieldLink RX5 69 "ForwardLogModel" "good" "I", .fieldLink RX5 75 "ForwardLogModel" "isSealed" "Z", .fieldLink RX5 72 "ForwardLogModel" "goodPassed" "I", .methodLink RX5 202 yX5_refused, .instanceMethod yX5_refused, .selects RX5 yX5_refused yX5_refused, .initialized RX5, .code yX5_refused cX5_refused 2 (some .boolean), .fieldLink RX5 56 "ForwardLogModel" "refusal" "I"] ++ wsX50)
def wsX5_record : List Cond := .code yX5_record cX5_record 4 (some .int) :: ([.fieldLink RX5 69 "ForwardLogModel" "good" "I", .fieldLink RX5 43 "ForwardLogModel" "from" "[I", .fieldLink RX5 46 "ForwardLogModel" "number" "[I", .fieldLink RX5 40 "ForwardLogModel" "copy" "[I", .methodLink RX5 202 yX5_refused, .instanceMethod yX5_refused, .selects RX5 yX5_refused yX5_refused, .initialized RX5, .code yX5_refused cX5_refused 2 (some .boolean), .fieldLink RX5 56 "ForwardLogModel" "refusal" "I"] ++ wsX50)
def wsX5_bend : List Cond := .code yX5_bend cX5_bend 3 (some .int) :: ([.fieldLink RX5 180 "ForwardLogModel" "size" "I", .fieldLink RX5 7 "ForwardLogModel" "disk" "[I", .methodLink RX5 202 yX5_refused, .instanceMethod yX5_refused, .selects RX5 yX5_refused yX5_refused, .initialized RX5, .code yX5_refused cX5_refused 2 (some .boolean), .fieldLink RX5 56 "ForwardLogModel" "refusal" "I"] ++ wsX50)
def wsX5_octet : List Cond := .code yX5_octet cX5_octet 2 (some .int) :: ([.fieldLink RX5 56 "ForwardLogModel" "refusal" "I", .fieldLink RX5 180 "ForwardLogModel" "size" "I", .fieldLink RX5 7 "ForwardLogModel" "disk" "[I"] ++ wsX50)
def wsX5_key : List Cond := .code yX5_key cX5_key 2 (some .int) :: ([.fieldLink RX5 16 "ForwardLogModel" "key" "[I", .methodLink RX5 202 yX5_refused, .instanceMethod yX5_refused, .selects RX5 yX5_refused yX5_refused, .initialized RX5, .code yX5_refused cX5_refused 2 (some .boolean), .fieldLink RX5 56 "ForwardLogModel" "refusal" "I"] ++ wsX50)
def wsX5_count : List Cond := .code yX5_count cX5_count 2 (some .int) :: ([.fieldLink RX5 180 "ForwardLogModel" "size" "I", .fieldLink RX5 183 "ForwardLogModel" "synced" "I", .fieldLink RX5 186 "ForwardLogModel" "index" "I", .fieldLink RX5 52 "ForwardLogModel" "isUp" "Z", .fieldLink RX5 189 "ForwardLogModel" "crashes" "I", .fieldLink RX5 199 "ForwardLogModel" "filled" "I", .methodLink RX5 202 yX5_refused, .instanceMethod yX5_refused, .selects RX5 yX5_refused yX5_refused, .initialized RX5, .code yX5_refused cX5_refused 2 (some .boolean), .fieldLink RX5 56 "ForwardLogModel" "refusal" "I"] ++ wsX50)
def wsJ9_max_7cf53 : List Cond := .code yJ9_max_7cf53 cJ9_max_7cf53 2 (some .int) :: ([])
def wsJ9_min_7cf53 : List Cond := .code yJ9_min_7cf53 cJ9_min_7cf53 2 (some .int) :: ([])
def wsL_feed : List Cond := .codeWith yL_feed cL_feed 8 (some .int) [(0, 16, 19, 13), (0, 16, 23, 15)] :: ([.classLink RL 13 "java/lang/IllegalArgumentException", .classLink RL 15 "java/lang/IllegalStateException", .methodLink RL 7 yX4_feed, .instanceMethod yX4_feed, .selects RX4 yX4_feed yX4_feed, .initialized RX4, .code yX4_feed cX4_feed 7 (some .int), .classLink RX4 73 "java/lang/IllegalArgumentException", .initialized "java/lang/IllegalArgumentException", .classLink RX4 80 "java/lang/IllegalStateException", .initialized "java/lang/IllegalStateException", .fieldLink RX4 47 "ForwardLog" "buffered" "I", .fieldLink RX4 34 "ForwardLog" "buffer" "[I", .methodLink RX4 85 yX4_octetOfFour, .static yX4_octetOfFour, .code yX4_octetOfFour cX4_octetOfFour 6 (some .int)] ++ wsX40 ++ (vx_atS RX4 77 "java/lang/IllegalArgumentException" ["java/lang/RuntimeException", "java/lang/Exception"]).filter goodWord ++ (vx_atS RX4 84 "java/lang/IllegalStateException" ["java/lang/RuntimeException", "java/lang/Exception"]).filter goodWord)
def wsL_append_r1 : List Cond := [Cond.classLink RL 15 "java/lang/IllegalStateException", Cond.methodLink RL 17 yX4_append, Cond.instanceMethod yX4_append, Cond.selects RX4 yX4_append yX4_append, Cond.initialized RX4, Cond.code yX4_append cX4_append 1 (some .int), Cond.classLink RX4 80 "java/lang/IllegalStateException", Cond.initialized "java/lang/IllegalStateException", Cond.fieldLink RX4 51 "ForwardLog" "up" "Z", Cond.fieldLink RX4 34 "ForwardLog" "buffer" "[I", Cond.fieldLink RX4 47 "ForwardLog" "buffered" "I", Cond.methodLink RX4 91 yX4_write, Cond.instanceMethod yX4_write, Cond.selects RX4 yX4_write yX4_write, Cond.code yX4_write cX4_write 7 (some .int), Cond.fieldLink RX4 19 "ForwardLog" "disk" "LForwardLog$Disk;", Cond.fieldLink RX4 95 "ForwardLog$Disk" "used" "I", Cond.fieldLink RX4 26 "ForwardLog" "writerKey" "LForwardLog$KeyChain;", Cond.fieldLink RX4 115 "ForwardLog$KeyChain" "index" "I", Cond.fieldLink RX4 10 "ForwardLog" "hasher" "LForwardLog$Hasher;", Cond.fieldLink RX4 30 "ForwardLog" "lastTag" "[I", Cond.methodLink RX4 124 yX4_recordSize, Cond.static yX4_recordSize, Cond.code yX4_recordSize cX4_recordSize 1 (some .int)]
def wsL_append_r2 : List Cond := [Cond.methodLink RX4 166 yX0_add, Cond.instanceMethod yX0_add, Cond.selects RX0 yX0_add yX0_add, Cond.initialized RX0, Cond.code yX0_add cX0_add 2 none, Cond.fieldLink RX0 15 "ForwardLog$Disk" "used" "I", Cond.fieldLink RX0 9 "ForwardLog$Disk" "octets" "[I", Cond.methodLink RX4 169 yX1_makeTag, Cond.instanceMethod yX1_makeTag, Cond.selects RX1 yX1_makeTag yX1_makeTag, Cond.initialized RX1, Cond.code yX1_makeTag cX1_makeTag 7 none, Cond.fieldLink RX1 29 "ForwardLog$KeyChain" "index" "I", Cond.methodLink RX1 25 yX1_putKey, Cond.instanceMethod yX1_putKey, Cond.selects RX1 yX1_putKey yX1_putKey, Cond.code yX1_putKey cX1_putKey 4 none, Cond.fieldLink RX1 53 "ForwardLog$KeyChain" "octets" "[I", Cond.methodLink RX1 50 yX1_clear, Cond.instanceMethod yX1_clear, Cond.selects RX1 yX1_clear yX1_clear, Cond.code yX1_clear cX1_clear 1 none, Cond.fieldLink RX1 21 "ForwardLog$Hasher" "filled" "I", Cond.methodLink RX1 34 yX1_put]
def wsL_append_r3 : List Cond := [Cond.instanceMethod yX1_put, Cond.selects RX1 yX1_put yX1_put, Cond.code yX1_put cX1_put 2 none, Cond.fieldLink RX1 9 "ForwardLog$Hasher" "text" "[I", Cond.methodLink RX1 38 yX0_octetAt, Cond.instanceMethod yX0_octetAt, Cond.selects RX0 yX0_octetAt yX0_octetAt, Cond.code yX0_octetAt cX0_octetAt 2 (some .int), Cond.methodLink RX0 22 yX0_has, Cond.instanceMethod yX0_has, Cond.selects RX0 yX0_has yX0_has, Cond.code yX0_has cX0_has 2 (some .boolean), Cond.methodLink RX1 44 yX1_finish, Cond.instanceMethod yX1_finish, Cond.selects RX1 yX1_finish yX1_finish, Cond.code yX1_finish cX1_finish 4 none, Cond.fieldLink RX1 18 "ForwardLog$Hasher" "state" "[I", Cond.methodLink RX1 59 yX1_expand, Cond.instanceMethod yX1_expand, Cond.selects RX1 yX1_expand yX1_expand, Cond.code yX1_expand cX1_expand 7 none, Cond.fieldLink RX1 15 "ForwardLog$Hasher" "schedule" "[I", Cond.methodLink RX1 65 yX1_turned, Cond.static yX1_turned]
def wsL_append_r4 : List Cond := [Cond.code yX1_turned cX1_turned 2 (some .int), Cond.methodLink RX1 62 yX1_compress, Cond.instanceMethod yX1_compress, Cond.selects RX1 yX1_compress yX1_compress, Cond.code yX1_compress cX1_compress 14 none, Cond.methodLink RX1 47 yX1_hashOctet, Cond.instanceMethod yX1_hashOctet, Cond.selects RX1 yX1_hashOctet yX1_hashOctet, Cond.code yX1_hashOctet cX1_hashOctet 2 (some .int), Cond.methodLink RX4 173 yX1_hashOctet, Cond.methodLink RX4 176 yX2_turn, Cond.instanceMethod yX2_turn, Cond.selects RX2 yX2_turn yX2_turn, Cond.initialized RX2, Cond.code yX2_turn cX2_turn 3 none, Cond.fieldLink RX2 9 "ForwardLog$KeyChain" "octets" "[I", Cond.fieldLink RX2 15 "ForwardLog$KeyChain" "index" "I", Cond.methodLink RX2 23 yX1_clear, Cond.methodLink RX2 28 yX1_put, Cond.methodLink RX2 32 yX1_finish, Cond.methodLink RX2 35 yX1_hashOctet]
def wsL_append : List Cond := .codeWith yL_append cL_append 3 (some .int) [(0, 8, 11, 15)] :: ((wsL_append_r1 ++ (wsL_append_r2 ++ (wsL_append_r3 ++ wsL_append_r4))) ++ wsX40 ++ wsX00 ++ wsX20 ++ wsX10 ++ (vx_atS RX4 84 "java/lang/IllegalStateException" ["java/lang/RuntimeException", "java/lang/Exception"]).filter goodWord)
def wsL_seal_r1 : List Cond := [Cond.classLink RL 15 "java/lang/IllegalStateException", Cond.methodLink RL 21 yX4_seal, Cond.instanceMethod yX4_seal, Cond.selects RX4 yX4_seal yX4_seal, Cond.initialized RX4, Cond.code yX4_seal cX4_seal 1 (some .int), Cond.classLink RX4 80 "java/lang/IllegalStateException", Cond.initialized "java/lang/IllegalStateException", Cond.fieldLink RX4 51 "ForwardLog" "up" "Z", Cond.fieldLink RX4 34 "ForwardLog" "buffer" "[I", Cond.methodLink RX4 91 yX4_write, Cond.instanceMethod yX4_write, Cond.selects RX4 yX4_write yX4_write, Cond.code yX4_write cX4_write 7 (some .int), Cond.fieldLink RX4 19 "ForwardLog" "disk" "LForwardLog$Disk;", Cond.fieldLink RX4 95 "ForwardLog$Disk" "used" "I", Cond.fieldLink RX4 26 "ForwardLog" "writerKey" "LForwardLog$KeyChain;", Cond.fieldLink RX4 115 "ForwardLog$KeyChain" "index" "I", Cond.fieldLink RX4 10 "ForwardLog" "hasher" "LForwardLog$Hasher;", Cond.fieldLink RX4 30 "ForwardLog" "lastTag" "[I", Cond.methodLink RX4 124 yX4_recordSize, Cond.static yX4_recordSize, Cond.code yX4_recordSize cX4_recordSize 1 (some .int), Cond.methodLink RX4 166 yX0_add]
def wsL_seal_r2 : List Cond := [Cond.instanceMethod yX0_add, Cond.selects RX0 yX0_add yX0_add, Cond.initialized RX0, Cond.code yX0_add cX0_add 2 none, Cond.fieldLink RX0 15 "ForwardLog$Disk" "used" "I", Cond.fieldLink RX0 9 "ForwardLog$Disk" "octets" "[I", Cond.methodLink RX4 169 yX1_makeTag, Cond.instanceMethod yX1_makeTag, Cond.selects RX1 yX1_makeTag yX1_makeTag, Cond.initialized RX1, Cond.code yX1_makeTag cX1_makeTag 7 none, Cond.fieldLink RX1 29 "ForwardLog$KeyChain" "index" "I", Cond.methodLink RX1 25 yX1_putKey, Cond.instanceMethod yX1_putKey, Cond.selects RX1 yX1_putKey yX1_putKey, Cond.code yX1_putKey cX1_putKey 4 none, Cond.fieldLink RX1 53 "ForwardLog$KeyChain" "octets" "[I", Cond.methodLink RX1 50 yX1_clear, Cond.instanceMethod yX1_clear, Cond.selects RX1 yX1_clear yX1_clear, Cond.code yX1_clear cX1_clear 1 none, Cond.fieldLink RX1 21 "ForwardLog$Hasher" "filled" "I", Cond.methodLink RX1 34 yX1_put, Cond.instanceMethod yX1_put]
def wsL_seal_r3 : List Cond := [Cond.selects RX1 yX1_put yX1_put, Cond.code yX1_put cX1_put 2 none, Cond.fieldLink RX1 9 "ForwardLog$Hasher" "text" "[I", Cond.methodLink RX1 38 yX0_octetAt, Cond.instanceMethod yX0_octetAt, Cond.selects RX0 yX0_octetAt yX0_octetAt, Cond.code yX0_octetAt cX0_octetAt 2 (some .int), Cond.methodLink RX0 22 yX0_has, Cond.instanceMethod yX0_has, Cond.selects RX0 yX0_has yX0_has, Cond.code yX0_has cX0_has 2 (some .boolean), Cond.methodLink RX1 44 yX1_finish, Cond.instanceMethod yX1_finish, Cond.selects RX1 yX1_finish yX1_finish, Cond.code yX1_finish cX1_finish 4 none, Cond.fieldLink RX1 18 "ForwardLog$Hasher" "state" "[I", Cond.methodLink RX1 59 yX1_expand, Cond.instanceMethod yX1_expand, Cond.selects RX1 yX1_expand yX1_expand, Cond.code yX1_expand cX1_expand 7 none, Cond.fieldLink RX1 15 "ForwardLog$Hasher" "schedule" "[I", Cond.methodLink RX1 65 yX1_turned, Cond.static yX1_turned, Cond.code yX1_turned cX1_turned 2 (some .int)]
def wsL_seal_r4 : List Cond := [Cond.methodLink RX1 62 yX1_compress, Cond.instanceMethod yX1_compress, Cond.selects RX1 yX1_compress yX1_compress, Cond.code yX1_compress cX1_compress 14 none, Cond.methodLink RX1 47 yX1_hashOctet, Cond.instanceMethod yX1_hashOctet, Cond.selects RX1 yX1_hashOctet yX1_hashOctet, Cond.code yX1_hashOctet cX1_hashOctet 2 (some .int), Cond.methodLink RX4 173 yX1_hashOctet, Cond.methodLink RX4 176 yX2_turn, Cond.instanceMethod yX2_turn, Cond.selects RX2 yX2_turn yX2_turn, Cond.initialized RX2, Cond.code yX2_turn cX2_turn 3 none, Cond.fieldLink RX2 9 "ForwardLog$KeyChain" "octets" "[I", Cond.fieldLink RX2 15 "ForwardLog$KeyChain" "index" "I", Cond.methodLink RX2 23 yX1_clear, Cond.methodLink RX2 28 yX1_put, Cond.methodLink RX2 32 yX1_finish, Cond.methodLink RX2 35 yX1_hashOctet]
def wsL_seal : List Cond := .codeWith yL_seal cL_seal 3 (some .int) [(0, 8, 11, 15)] :: ((wsL_seal_r1 ++ (wsL_seal_r2 ++ (wsL_seal_r3 ++ wsL_seal_r4))) ++ wsX40 ++ wsX00 ++ wsX20 ++ wsX10 ++ (vx_atS RX4 84 "java/lang/IllegalStateException" ["java/lang/RuntimeException", "java/lang/Exception"]).filter goodWord)
def wsL_sync : List Cond := .codeWith yL_sync cL_sync 3 (some .int) [(0, 8, 11, 15)] :: ([.classLink RL 15 "java/lang/IllegalStateException", .methodLink RL 24 yX4_sync, .instanceMethod yX4_sync, .selects RX4 yX4_sync yX4_sync, .initialized RX4, .code yX4_sync cX4_sync 1 (some .int), .classLink RX4 80 "java/lang/IllegalStateException", .initialized "java/lang/IllegalStateException", .fieldLink RX4 51 "ForwardLog" "up" "Z", .fieldLink RX4 19 "ForwardLog" "disk" "LForwardLog$Disk;", .fieldLink RX4 95 "ForwardLog$Disk" "used" "I", .fieldLink RX4 98 "ForwardLog$Disk" "synced" "I"] ++ wsX40 ++ wsX00 ++ (vx_atS RX4 84 "java/lang/IllegalStateException" ["java/lang/RuntimeException", "java/lang/Exception"]).filter goodWord)
def wsL_crash : List Cond := .codeWith yL_crash cL_crash 4 (some .int) [(0, 9, 12, 13)] :: ([.classLink RL 13 "java/lang/IllegalArgumentException", .methodLink RL 27 yX4_crash, .instanceMethod yX4_crash, .selects RX4 yX4_crash yX4_crash, .initialized RX4, .code yX4_crash cX4_crash 4 (some .int), .classLink RX4 73 "java/lang/IllegalArgumentException", .initialized "java/lang/IllegalArgumentException", .fieldLink RX4 19 "ForwardLog" "disk" "LForwardLog$Disk;", .fieldLink RX4 95 "ForwardLog$Disk" "used" "I", .fieldLink RX4 98 "ForwardLog$Disk" "synced" "I", .methodLink RX4 103 Lib.Math.min.name, .static Lib.Math.min.name, .initialized "java/lang/Math", .code Lib.Math.min.name Lib.Math.min.code 2 (some .int), .fieldLink RX4 51 "ForwardLog" "up" "Z", .fieldLink RX4 55 "ForwardLog" "crashes" "I"] ++ wsX40 ++ wsX00 ++ (vx_atS RX4 77 "java/lang/IllegalArgumentException" ["java/lang/RuntimeException", "java/lang/Exception"]).filter goodWord)
def wsL_recover_r1 : List Cond := [Cond.classLink RL 15 "java/lang/IllegalStateException", Cond.methodLink RL 31 yX4_recover, Cond.instanceMethod yX4_recover, Cond.selects RX4 yX4_recover yX4_recover, Cond.initialized RX4, Cond.code yX4_recover cX4_recover 3 (some .int), Cond.classLink RX4 80 "java/lang/IllegalStateException", Cond.initialized "java/lang/IllegalStateException", Cond.fieldLink RX4 51 "ForwardLog" "up" "Z", Cond.fieldLink RX4 19 "ForwardLog" "disk" "LForwardLog$Disk;", Cond.fieldLink RX4 26 "ForwardLog" "writerKey" "LForwardLog$KeyChain;", Cond.fieldLink RX4 115 "ForwardLog$KeyChain" "index" "I", Cond.methodLink RX4 121 Lib.Math.max.name, Cond.static Lib.Math.max.name, Cond.initialized "java/lang/Math", Cond.code Lib.Math.max.name Lib.Math.max.code 2 (some .int), Cond.fieldLink RX4 30 "ForwardLog" "lastTag" "[I", Cond.fieldLink RX4 37 "ForwardLog" "gapBytes" "[I", Cond.methodLink RX4 111 yX0_wholeEnd, Cond.instanceMethod yX0_wholeEnd, Cond.selects RX0 yX0_wholeEnd yX0_wholeEnd, Cond.initialized RX0, Cond.code yX0_wholeEnd cX0_wholeEnd 3 (some .int), Cond.methodLink RX0 33 yX0_isWhole]
def wsL_recover_r2 : List Cond := [Cond.instanceMethod yX0_isWhole, Cond.selects RX0 yX0_isWhole yX0_isWhole, Cond.code yX0_isWhole cX0_isWhole 4 (some .boolean), Cond.fieldLink RX0 15 "ForwardLog$Disk" "used" "I", Cond.methodLink RX0 26 yX0_octetAt, Cond.instanceMethod yX0_octetAt, Cond.selects RX0 yX0_octetAt yX0_octetAt, Cond.code yX0_octetAt cX0_octetAt 2 (some .int), Cond.fieldLink RX0 9 "ForwardLog$Disk" "octets" "[I", Cond.methodLink RX0 22 yX0_has, Cond.instanceMethod yX0_has, Cond.selects RX0 yX0_has yX0_has, Cond.code yX0_has cX0_has 2 (some .boolean), Cond.static yX4_recordSize, Cond.code yX4_recordSize cX4_recordSize 1 (some .int), Cond.methodLink RX0 36 yX0_sizeAt, Cond.instanceMethod yX0_sizeAt, Cond.selects RX0 yX0_sizeAt yX0_sizeAt, Cond.code yX0_sizeAt cX0_sizeAt 2 (some .int), Cond.methodLink RX4 118 yX0_nextIndex, Cond.instanceMethod yX0_nextIndex, Cond.selects RX0 yX0_nextIndex yX0_nextIndex, Cond.code yX0_nextIndex cX0_nextIndex 4 (some .int), Cond.methodLink RX0 39 yX0_passedOverAt]
def wsL_recover_r3 : List Cond := [Cond.instanceMethod yX0_passedOverAt, Cond.selects RX0 yX0_passedOverAt yX0_passedOverAt, Cond.code yX0_passedOverAt cX0_passedOverAt 2 (some .int), Cond.methodLink RX4 124 yX4_recordSize, Cond.methodLink RX4 58 yX0_cutTo, Cond.instanceMethod yX0_cutTo, Cond.selects RX0 yX0_cutTo yX0_cutTo, Cond.code yX0_cutTo cX0_cutTo 2 none, Cond.fieldLink RX0 19 "ForwardLog$Disk" "synced" "I", Cond.methodLink RX4 66 yX0_tagBefore, Cond.instanceMethod yX0_tagBefore, Cond.selects RX0 yX0_tagBefore yX0_tagBefore, Cond.code yX0_tagBefore cX0_tagBefore 4 none, Cond.methodLink RX0 42 Lib.Math.max.name, Cond.methodLink RX4 91 yX4_write, Cond.instanceMethod yX4_write, Cond.selects RX4 yX4_write yX4_write, Cond.code yX4_write cX4_write 7 (some .int), Cond.fieldLink RX4 95 "ForwardLog$Disk" "used" "I", Cond.fieldLink RX4 10 "ForwardLog" "hasher" "LForwardLog$Hasher;", Cond.methodLink RX4 166 yX0_add, Cond.instanceMethod yX0_add, Cond.selects RX0 yX0_add yX0_add, Cond.code yX0_add cX0_add 2 none]
def wsL_recover_r4 : List Cond := [Cond.methodLink RX4 169 yX1_makeTag, Cond.instanceMethod yX1_makeTag, Cond.selects RX1 yX1_makeTag yX1_makeTag, Cond.initialized RX1, Cond.code yX1_makeTag cX1_makeTag 7 none, Cond.fieldLink RX1 29 "ForwardLog$KeyChain" "index" "I", Cond.methodLink RX1 25 yX1_putKey, Cond.instanceMethod yX1_putKey, Cond.selects RX1 yX1_putKey yX1_putKey, Cond.code yX1_putKey cX1_putKey 4 none, Cond.fieldLink RX1 53 "ForwardLog$KeyChain" "octets" "[I", Cond.methodLink RX1 50 yX1_clear, Cond.instanceMethod yX1_clear, Cond.selects RX1 yX1_clear yX1_clear, Cond.code yX1_clear cX1_clear 1 none, Cond.fieldLink RX1 21 "ForwardLog$Hasher" "filled" "I", Cond.methodLink RX1 34 yX1_put, Cond.instanceMethod yX1_put, Cond.selects RX1 yX1_put yX1_put, Cond.code yX1_put cX1_put 2 none, Cond.fieldLink RX1 9 "ForwardLog$Hasher" "text" "[I", Cond.methodLink RX1 38 yX0_octetAt, Cond.methodLink RX1 44 yX1_finish, Cond.instanceMethod yX1_finish]
def wsL_recover_r5 : List Cond := [Cond.selects RX1 yX1_finish yX1_finish, Cond.code yX1_finish cX1_finish 4 none, Cond.fieldLink RX1 18 "ForwardLog$Hasher" "state" "[I", Cond.methodLink RX1 59 yX1_expand, Cond.instanceMethod yX1_expand, Cond.selects RX1 yX1_expand yX1_expand, Cond.code yX1_expand cX1_expand 7 none, Cond.fieldLink RX1 15 "ForwardLog$Hasher" "schedule" "[I", Cond.methodLink RX1 65 yX1_turned, Cond.static yX1_turned, Cond.code yX1_turned cX1_turned 2 (some .int), Cond.methodLink RX1 62 yX1_compress, Cond.instanceMethod yX1_compress, Cond.selects RX1 yX1_compress yX1_compress, Cond.code yX1_compress cX1_compress 14 none, Cond.methodLink RX1 47 yX1_hashOctet, Cond.instanceMethod yX1_hashOctet, Cond.selects RX1 yX1_hashOctet yX1_hashOctet, Cond.code yX1_hashOctet cX1_hashOctet 2 (some .int), Cond.methodLink RX4 173 yX1_hashOctet, Cond.methodLink RX4 176 yX2_turn, Cond.instanceMethod yX2_turn, Cond.selects RX2 yX2_turn yX2_turn, Cond.initialized RX2]
def wsL_recover_r6 : List Cond := [Cond.code yX2_turn cX2_turn 3 none, Cond.fieldLink RX2 9 "ForwardLog$KeyChain" "octets" "[I", Cond.fieldLink RX2 15 "ForwardLog$KeyChain" "index" "I", Cond.methodLink RX2 23 yX1_clear, Cond.methodLink RX2 28 yX1_put, Cond.methodLink RX2 32 yX1_finish, Cond.methodLink RX2 35 yX1_hashOctet]
def wsL_recover : List Cond := .codeWith yL_recover cL_recover 3 (some .int) [(0, 8, 11, 15)] :: ((wsL_recover_r1 ++ (wsL_recover_r2 ++ (wsL_recover_r3 ++ (wsL_recover_r4 ++ (wsL_recover_r5 ++ wsL_recover_r6))))) ++ wsX40 ++ wsX20 ++ wsX00 ++ wsX10 ++ (vx_atS RX4 84 "java/lang/IllegalStateException" ["java/lang/RuntimeException", "java/lang/Exception"]).filter goodWord)
def wsL_told_r1 : List Cond := [Cond.classLink RL 13 "java/lang/IllegalArgumentException", Cond.methodLink RL 34 yX4_told, Cond.instanceMethod yX4_told, Cond.selects RX4 yX4_told yX4_told, Cond.initialized RX4, Cond.code yX4_told cX4_told 2 (some .int), Cond.classLink RX4 73 "java/lang/IllegalArgumentException", Cond.initialized "java/lang/IllegalArgumentException", Cond.fieldLink RX4 43 "ForwardLog" "verifier" "LForwardLog$Verifier;", Cond.methodLink RX4 134 yX3_answer, Cond.instanceMethod yX3_answer, Cond.selects RX3 yX3_answer yX3_answer, Cond.initialized RX3, Cond.code yX3_answer cX3_answer 2 (some .int), Cond.fieldLink RX3 38 "ForwardLog$Verifier" "hasRun" "Z", Cond.fieldLink RX3 46 "ForwardLog$Verifier" "badBegin" "I", Cond.fieldLink RX3 42 "ForwardLog$Verifier" "good" "I", Cond.fieldLink RX3 49 "ForwardLog$Verifier" "passedOver" "I", Cond.methodLink RX3 103 yX3_partOf, Cond.instanceMethod yX3_partOf, Cond.selects RX3 yX3_partOf yX3_partOf, Cond.code yX3_partOf cX3_partOf 5 (some .int), Cond.fieldLink RX3 29 "ForwardLog$Verifier" "begins" "[I", Cond.fieldLink RX3 25 "ForwardLog$Verifier" "seen" "LForwardLog$Disk;"]
def wsL_told_r2 : List Cond := [Cond.fieldLink RX3 32 "ForwardLog$Verifier" "indexes" "[I", Cond.methodLink RX3 63 yX0_octetAt, Cond.instanceMethod yX0_octetAt, Cond.selects RX0 yX0_octetAt yX0_octetAt, Cond.initialized RX0, Cond.code yX0_octetAt cX0_octetAt 2 (some .int), Cond.fieldLink RX0 9 "ForwardLog$Disk" "octets" "[I", Cond.methodLink RX0 22 yX0_has, Cond.instanceMethod yX0_has, Cond.selects RX0 yX0_has yX0_has, Cond.code yX0_has cX0_has 2 (some .boolean), Cond.fieldLink RX0 15 "ForwardLog$Disk" "used" "I"]
def wsL_told : List Cond := .codeWith yL_told cL_told 4 (some .int) [(0, 9, 12, 13)] :: ((wsL_told_r1 ++ wsL_told_r2) ++ wsX40 ++ wsX30 ++ wsX00 ++ (vx_atS RX4 77 "java/lang/IllegalArgumentException" ["java/lang/RuntimeException", "java/lang/Exception"]).filter goodWord)
def wsL_record_r1 : List Cond := [Cond.classLink RL 13 "java/lang/IllegalArgumentException", Cond.methodLink RL 37 yX4_record, Cond.instanceMethod yX4_record, Cond.selects RX4 yX4_record yX4_record, Cond.initialized RX4, Cond.code yX4_record cX4_record 3 (some .int), Cond.classLink RX4 73 "java/lang/IllegalArgumentException", Cond.initialized "java/lang/IllegalArgumentException", Cond.fieldLink RX4 43 "ForwardLog" "verifier" "LForwardLog$Verifier;", Cond.methodLink RX4 139 yX3_partOf, Cond.instanceMethod yX3_partOf, Cond.selects RX3 yX3_partOf yX3_partOf, Cond.initialized RX3, Cond.code yX3_partOf cX3_partOf 5 (some .int), Cond.fieldLink RX3 42 "ForwardLog$Verifier" "good" "I", Cond.fieldLink RX3 29 "ForwardLog$Verifier" "begins" "[I", Cond.fieldLink RX3 25 "ForwardLog$Verifier" "seen" "LForwardLog$Disk;", Cond.fieldLink RX3 32 "ForwardLog$Verifier" "indexes" "[I", Cond.methodLink RX3 63 yX0_octetAt, Cond.instanceMethod yX0_octetAt, Cond.selects RX0 yX0_octetAt yX0_octetAt, Cond.initialized RX0, Cond.code yX0_octetAt cX0_octetAt 2 (some .int), Cond.fieldLink RX0 9 "ForwardLog$Disk" "octets" "[I"]
def wsL_record_r2 : List Cond := [Cond.methodLink RX0 22 yX0_has, Cond.instanceMethod yX0_has, Cond.selects RX0 yX0_has yX0_has, Cond.code yX0_has cX0_has 2 (some .boolean), Cond.fieldLink RX0 15 "ForwardLog$Disk" "used" "I"]
def wsL_record : List Cond := .codeWith yL_record cL_record 5 (some .int) [(0, 10, 13, 13)] :: ((wsL_record_r1 ++ wsL_record_r2) ++ wsX40 ++ wsX30 ++ wsX00 ++ (vx_atS RX4 77 "java/lang/IllegalArgumentException" ["java/lang/RuntimeException", "java/lang/Exception"]).filter goodWord)
def wsL_bend : List Cond := .codeWith yL_bend cL_bend 5 (some .int) [(0, 10, 13, 44), (0, 10, 17, 13)] :: ([.classLink RL 44 "java/lang/IndexOutOfBoundsException", .classLink RL 13 "java/lang/IllegalArgumentException", .methodLink RL 41 yX4_bend, .instanceMethod yX4_bend, .selects RX4 yX4_bend yX4_bend, .initialized RX4, .code yX4_bend cX4_bend 3 (some .int), .classLink RX4 146 "java/lang/IndexOutOfBoundsException", .initialized "java/lang/IndexOutOfBoundsException", .classLink RX4 73 "java/lang/IllegalArgumentException", .initialized "java/lang/IllegalArgumentException", .fieldLink RX4 19 "ForwardLog" "disk" "LForwardLog$Disk;", .methodLink RX4 142 yX0_has, .instanceMethod yX0_has, .selects RX0 yX0_has yX0_has, .initialized RX0, .code yX0_has cX0_has 2 (some .boolean), .fieldLink RX0 15 "ForwardLog$Disk" "used" "I", .fieldLink RX0 9 "ForwardLog$Disk" "octets" "[I", .methodLink RX4 153 yX0_turnRound, .instanceMethod yX0_turnRound, .selects RX0 yX0_turnRound yX0_turnRound, .code yX0_turnRound cX0_turnRound 3 (some .int), .methodLink RX0 22 yX0_has] ++ wsX40 ++ wsX00 ++ (vx_atS RX4 150 "java/lang/IndexOutOfBoundsException" ["java/lang/RuntimeException", "java/lang/Exception"]).filter goodWord ++ (vx_atS RX4 77 "java/lang/IllegalArgumentException" ["java/lang/RuntimeException", "java/lang/Exception"]).filter goodWord)
def wsL_key : List Cond := .codeWith yL_key cL_key 4 (some .int) [(0, 9, 12, 13)] :: ([.classLink RL 13 "java/lang/IllegalArgumentException", .methodLink RL 46 yX4_key, .instanceMethod yX4_key, .selects RX4 yX4_key yX4_key, .initialized RX4, .code yX4_key cX4_key 2 (some .int), .classLink RX4 73 "java/lang/IllegalArgumentException", .initialized "java/lang/IllegalArgumentException", .fieldLink RX4 26 "ForwardLog" "writerKey" "LForwardLog$KeyChain;", .fieldLink RX4 161 "ForwardLog$KeyChain" "octets" "[I"] ++ wsX40 ++ wsX20 ++ (vx_atS RX4 77 "java/lang/IllegalArgumentException" ["java/lang/RuntimeException", "java/lang/Exception"]).filter goodWord)
def wsL_count : List Cond := .codeWith yL_count cL_count 4 (some .int) [(0, 9, 12, 13)] :: ([.classLink RL 13 "java/lang/IllegalArgumentException", .methodLink RL 49 yX4_count, .instanceMethod yX4_count, .selects RX4 yX4_count yX4_count, .initialized RX4, .code yX4_count cX4_count 2 (some .int), .classLink RX4 73 "java/lang/IllegalArgumentException", .initialized "java/lang/IllegalArgumentException", .fieldLink RX4 19 "ForwardLog" "disk" "LForwardLog$Disk;", .fieldLink RX4 95 "ForwardLog$Disk" "used" "I", .fieldLink RX4 98 "ForwardLog$Disk" "synced" "I", .fieldLink RX4 26 "ForwardLog" "writerKey" "LForwardLog$KeyChain;", .fieldLink RX4 115 "ForwardLog$KeyChain" "index" "I", .fieldLink RX4 51 "ForwardLog" "up" "Z", .fieldLink RX4 55 "ForwardLog" "crashes" "I", .fieldLink RX4 47 "ForwardLog" "buffered" "I"] ++ wsX40 ++ wsX00 ++ wsX20 ++ (vx_atS RX4 77 "java/lang/IllegalArgumentException" ["java/lang/RuntimeException", "java/lang/Exception"]).filter goodWord)
def wsL_law0_r1 : List Cond := [Cond.classLink RL 8 RX4, Cond.instantiable RX4 10, Cond.initialized RX4, Cond.classLink RL 53 RX5, Cond.instantiable RX5 30, Cond.initialized RX5, Cond.arrayClass .long, Cond.methodLink RL 52 yX4_init, Cond.instanceMethod yX4_init, Cond.code yX4_init cX4_init 1 none, Cond.methodLink RX4 1 objectInit, Cond.instanceMethod objectInit, Cond.code objectInit ⟨#[0xb1]⟩ 1 none, Cond.classLink RX4 7 RX1, Cond.instantiable RX1 4, Cond.initialized RX1, Cond.fieldLink RX4 10 "ForwardLog" "hasher" "LForwardLog$Hasher;", Cond.classLink RX4 16 RX0, Cond.instantiable RX0 3, Cond.initialized RX0, Cond.fieldLink RX4 19 "ForwardLog" "disk" "LForwardLog$Disk;", Cond.classLink RX4 23 RX2, Cond.instantiable RX2 2, Cond.initialized RX2]
def wsL_law0_r2 : List Cond := [Cond.fieldLink RX4 26 "ForwardLog" "writerKey" "LForwardLog$KeyChain;", Cond.arrayClass .int, Cond.fieldLink RX4 30 "ForwardLog" "lastTag" "[I", Cond.fieldLink RX4 34 "ForwardLog" "buffer" "[I", Cond.fieldLink RX4 37 "ForwardLog" "gapBytes" "[I", Cond.classLink RX4 40 RX3, Cond.instantiable RX3 9, Cond.initialized RX3, Cond.fieldLink RX4 43 "ForwardLog" "verifier" "LForwardLog$Verifier;", Cond.fieldLink RX4 47 "ForwardLog" "buffered" "I", Cond.fieldLink RX4 51 "ForwardLog" "up" "Z", Cond.fieldLink RX4 55 "ForwardLog" "crashes" "I", Cond.methodLink RX4 9 yX1_init, Cond.instanceMethod yX1_init, Cond.code yX1_init cX1_init 1 none, Cond.methodLink RX1 3 objectInit, Cond.fieldLink RX1 9 "ForwardLog$Hasher" "text" "[I", Cond.fieldLink RX1 15 "ForwardLog$Hasher" "schedule" "[I", Cond.fieldLink RX1 18 "ForwardLog$Hasher" "state" "[I", Cond.fieldLink RX1 21 "ForwardLog$Hasher" "filled" "I", Cond.methodLink RX4 18 yX0_init, Cond.instanceMethod yX0_init, Cond.code yX0_init cX0_init 1 none, Cond.methodLink RX0 3 objectInit]
def wsL_law0_r3 : List Cond := [Cond.fieldLink RX0 9 "ForwardLog$Disk" "octets" "[I", Cond.fieldLink RX0 15 "ForwardLog$Disk" "used" "I", Cond.fieldLink RX0 19 "ForwardLog$Disk" "synced" "I", Cond.methodLink RX4 25 yX2_init, Cond.instanceMethod yX2_init, Cond.code yX2_init cX2_init 1 none, Cond.methodLink RX2 3 objectInit, Cond.fieldLink RX2 9 "ForwardLog$KeyChain" "octets" "[I", Cond.fieldLink RX2 15 "ForwardLog$KeyChain" "index" "I", Cond.methodLink RX4 42 yX3_init, Cond.instanceMethod yX3_init, Cond.code yX3_init cX3_init 1 none, Cond.methodLink RX3 3 objectInit, Cond.classLink RX3 9 RX2, Cond.fieldLink RX3 12 "ForwardLog$Verifier" "chain" "LForwardLog$KeyChain;", Cond.fieldLink RX3 18 "ForwardLog$Verifier" "tagBefore" "[I", Cond.classLink RX3 22 RX0, Cond.fieldLink RX3 25 "ForwardLog$Verifier" "seen" "LForwardLog$Disk;", Cond.fieldLink RX3 29 "ForwardLog$Verifier" "begins" "[I", Cond.fieldLink RX3 32 "ForwardLog$Verifier" "indexes" "[I", Cond.methodLink RX3 11 yX2_init, Cond.methodLink RX3 24 yX0_init, Cond.methodLink RX3 35 yX3_forget, Cond.instanceMethod yX3_forget]
def wsL_law0_r4 : List Cond := [Cond.selects RX3 yX3_forget yX3_forget, Cond.code yX3_forget cX3_forget 1 none, Cond.fieldLink RX3 38 "ForwardLog$Verifier" "hasRun" "Z", Cond.fieldLink RX3 42 "ForwardLog$Verifier" "good" "I", Cond.fieldLink RX3 46 "ForwardLog$Verifier" "badBegin" "I", Cond.fieldLink RX3 49 "ForwardLog$Verifier" "passedOver" "I", Cond.methodLink RX3 52 yX0_cutTo, Cond.instanceMethod yX0_cutTo, Cond.selects RX0 yX0_cutTo yX0_cutTo, Cond.code yX0_cutTo cX0_cutTo 2 none, Cond.methodLink RL 55 yX5_init, Cond.instanceMethod yX5_init, Cond.code yX5_init cX5_init 1 none, Cond.methodLink RX5 1 objectInit, Cond.fieldLink RX5 7 "ForwardLogModel" "disk" "[I", Cond.fieldLink RX5 13 "ForwardLogModel" "buffer" "[I", Cond.fieldLink RX5 16 "ForwardLogModel" "key" "[I", Cond.fieldLink RX5 19 "ForwardLogModel" "lastTag" "[I", Cond.fieldLink RX5 22 "ForwardLogModel" "text" "[I", Cond.fieldLink RX5 25 "ForwardLogModel" "word" "[I", Cond.fieldLink RX5 28 "ForwardLogModel" "state" "[I", Cond.fieldLink RX5 31 "ForwardLogModel" "digest" "[I", Cond.fieldLink RX5 34 "ForwardLogModel" "way" "[I", Cond.fieldLink RX5 37 "ForwardLogModel" "before" "[I"]
def wsL_law0_r5 : List Cond := [Cond.fieldLink RX5 40 "ForwardLogModel" "copy" "[I", Cond.fieldLink RX5 43 "ForwardLogModel" "from" "[I", Cond.fieldLink RX5 46 "ForwardLogModel" "number" "[I", Cond.fieldLink RX5 52 "ForwardLogModel" "isUp" "Z", Cond.methodLink RX5 49 yX5_forget, Cond.instanceMethod yX5_forget, Cond.selects RX5 yX5_forget yX5_forget, Cond.code yX5_forget cX5_forget 1 none, Cond.fieldLink RX5 60 "ForwardLogModel" "isVerified" "Z", Cond.fieldLink RX5 63 "ForwardLogModel" "badRecord" "I", Cond.fieldLink RX5 66 "ForwardLogModel" "badPlace" "I", Cond.fieldLink RX5 69 "ForwardLogModel" "good" "I", Cond.fieldLink RX5 72 "ForwardLogModel" "goodPassed" "I", Cond.fieldLink RX5 75 "ForwardLogModel" "isSealed" "Z", Cond.methodLink RL 56 yX4_begin, Cond.instanceMethod yX4_begin, Cond.selects RX4 yX4_begin yX4_begin, Cond.code yX4_begin cX4_begin 5 none, Cond.methodLink RX4 58 yX0_cutTo, Cond.methodLink RX4 62 yX2_start, Cond.instanceMethod yX2_start, Cond.selects RX2 yX2_start yX2_start, Cond.code yX2_start cX2_start 6 none, Cond.static yX4_octetOfFour]
def wsL_law0_r6 : List Cond := [Cond.code yX4_octetOfFour cX4_octetOfFour 6 (some .int), Cond.methodLink RX4 66 yX0_tagBefore, Cond.instanceMethod yX0_tagBefore, Cond.selects RX0 yX0_tagBefore yX0_tagBefore, Cond.code yX0_tagBefore cX0_tagBefore 4 none, Cond.methodLink RX0 42 Lib.Math.max.name, Cond.static Lib.Math.max.name, Cond.initialized "java/lang/Math", Cond.code Lib.Math.max.name Lib.Math.max.code 2 (some .int), Cond.methodLink RX0 26 yX0_octetAt, Cond.instanceMethod yX0_octetAt, Cond.selects RX0 yX0_octetAt yX0_octetAt, Cond.code yX0_octetAt cX0_octetAt 2 (some .int), Cond.methodLink RX0 22 yX0_has, Cond.instanceMethod yX0_has, Cond.selects RX0 yX0_has yX0_has, Cond.code yX0_has cX0_has 2 (some .boolean), Cond.methodLink RX4 70 yX3_forget, Cond.methodLink RL 60 yX5_begin, Cond.instanceMethod yX5_begin, Cond.selects RX5 yX5_begin yX5_begin, Cond.code yX5_begin cX5_begin 6 none, Cond.fieldLink RX5 56 "ForwardLogModel" "refusal" "I", Cond.methodLink RX5 192 yX5_clear]
def wsL_law0_r7 : List Cond := [Cond.instanceMethod yX5_clear, Cond.selects RX5 yX5_clear yX5_clear, Cond.code yX5_clear cX5_clear 2 none, Cond.fieldLink RX5 180 "ForwardLogModel" "size" "I", Cond.fieldLink RX5 183 "ForwardLogModel" "synced" "I", Cond.fieldLink RX5 186 "ForwardLogModel" "index" "I", Cond.fieldLink RX5 189 "ForwardLogModel" "crashes" "I", Cond.methodLink RX5 195 yX5_byteOf, Cond.static yX5_byteOf, Cond.code yX5_byteOf cX5_byteOf 6 (some .int), Cond.methodLink RL 61 yL_feed, Cond.static yL_feed, Cond.initialized RL, Cond.codeWith yL_feed cL_feed 8 (some .int) [(0, 16, 19, 13), (0, 16, 23, 15)], Cond.classLink RL 13 "java/lang/IllegalArgumentException", Cond.classLink RL 15 "java/lang/IllegalStateException", Cond.methodLink RL 7 yX4_feed, Cond.instanceMethod yX4_feed, Cond.selects RX4 yX4_feed yX4_feed, Cond.code yX4_feed cX4_feed 7 (some .int), Cond.classLink RX4 73 "java/lang/IllegalArgumentException", Cond.initialized "java/lang/IllegalArgumentException", Cond.classLink RX4 80 "java/lang/IllegalStateException", Cond.initialized "java/lang/IllegalStateException"]
def wsL_law0_r8 : List Cond := [Cond.methodLink RX4 85 yX4_octetOfFour, Cond.methodLink RL 66 yX5_feed, Cond.instanceMethod yX5_feed, Cond.selects RX5 yX5_feed yX5_feed, Cond.code yX5_feed cX5_feed 8 (some .int), Cond.fieldLink RX5 199 "ForwardLogModel" "filled" "I", Cond.methodLink RX5 202 yX5_refused, Cond.instanceMethod yX5_refused, Cond.selects RX5 yX5_refused yX5_refused, Cond.code yX5_refused cX5_refused 2 (some .boolean), Cond.methodLink RL 67 yX5_thrown, Cond.instanceMethod yX5_thrown, Cond.selects RX5 yX5_thrown yX5_thrown, Cond.code yX5_thrown cX5_thrown 1 (some .int), Cond.methodLink RL 70 yX4_erase, Cond.instanceMethod yX4_erase, Cond.selects RX4 yX4_erase yX4_erase, Cond.code yX4_erase cX4_erase 2 (some .int), Cond.methodLink RL 73 yX5_erase, Cond.instanceMethod yX5_erase, Cond.selects RX5 yX5_erase yX5_erase, Cond.code yX5_erase cX5_erase 2 (some .int), Cond.methodLink RL 74 yL_append, Cond.static yL_append]
def wsL_law0_r9 : List Cond := [Cond.codeWith yL_append cL_append 3 (some .int) [(0, 8, 11, 15)], Cond.methodLink RL 17 yX4_append, Cond.instanceMethod yX4_append, Cond.selects RX4 yX4_append yX4_append, Cond.code yX4_append cX4_append 1 (some .int), Cond.methodLink RX4 91 yX4_write, Cond.instanceMethod yX4_write, Cond.selects RX4 yX4_write yX4_write, Cond.code yX4_write cX4_write 7 (some .int), Cond.fieldLink RX4 95 "ForwardLog$Disk" "used" "I", Cond.fieldLink RX4 115 "ForwardLog$KeyChain" "index" "I", Cond.methodLink RX4 124 yX4_recordSize, Cond.static yX4_recordSize, Cond.code yX4_recordSize cX4_recordSize 1 (some .int), Cond.methodLink RX4 166 yX0_add, Cond.instanceMethod yX0_add, Cond.selects RX0 yX0_add yX0_add, Cond.code yX0_add cX0_add 2 none, Cond.methodLink RX4 169 yX1_makeTag, Cond.instanceMethod yX1_makeTag, Cond.selects RX1 yX1_makeTag yX1_makeTag, Cond.code yX1_makeTag cX1_makeTag 7 none, Cond.fieldLink RX1 29 "ForwardLog$KeyChain" "index" "I", Cond.methodLink RX1 25 yX1_putKey]
def wsL_law0_r10 : List Cond := [Cond.instanceMethod yX1_putKey, Cond.selects RX1 yX1_putKey yX1_putKey, Cond.code yX1_putKey cX1_putKey 4 none, Cond.fieldLink RX1 53 "ForwardLog$KeyChain" "octets" "[I", Cond.methodLink RX1 50 yX1_clear, Cond.instanceMethod yX1_clear, Cond.selects RX1 yX1_clear yX1_clear, Cond.code yX1_clear cX1_clear 1 none, Cond.methodLink RX1 34 yX1_put, Cond.instanceMethod yX1_put, Cond.selects RX1 yX1_put yX1_put, Cond.code yX1_put cX1_put 2 none, Cond.methodLink RX1 38 yX0_octetAt, Cond.methodLink RX1 44 yX1_finish, Cond.instanceMethod yX1_finish, Cond.selects RX1 yX1_finish yX1_finish, Cond.code yX1_finish cX1_finish 4 none, Cond.methodLink RX1 59 yX1_expand, Cond.instanceMethod yX1_expand, Cond.selects RX1 yX1_expand yX1_expand, Cond.code yX1_expand cX1_expand 7 none, Cond.methodLink RX1 65 yX1_turned, Cond.static yX1_turned, Cond.code yX1_turned cX1_turned 2 (some .int)]
def wsL_law0_r11 : List Cond := [Cond.methodLink RX1 62 yX1_compress, Cond.instanceMethod yX1_compress, Cond.selects RX1 yX1_compress yX1_compress, Cond.code yX1_compress cX1_compress 14 none, Cond.methodLink RX1 47 yX1_hashOctet, Cond.instanceMethod yX1_hashOctet, Cond.selects RX1 yX1_hashOctet yX1_hashOctet, Cond.code yX1_hashOctet cX1_hashOctet 2 (some .int), Cond.methodLink RX4 173 yX1_hashOctet, Cond.methodLink RX4 176 yX2_turn, Cond.instanceMethod yX2_turn, Cond.selects RX2 yX2_turn yX2_turn, Cond.code yX2_turn cX2_turn 3 none, Cond.methodLink RX2 23 yX1_clear, Cond.methodLink RX2 28 yX1_put, Cond.methodLink RX2 32 yX1_finish, Cond.methodLink RX2 35 yX1_hashOctet, Cond.methodLink RL 77 yX5_append, Cond.instanceMethod yX5_append, Cond.selects RX5 yX5_append yX5_append, Cond.code yX5_append cX5_append 2 (some .int), Cond.methodLink RX5 213 yX5_fits, Cond.instanceMethod yX5_fits, Cond.selects RX5 yX5_fits yX5_fits]
def wsL_law0_r12 : List Cond := [Cond.code yX5_fits cX5_fits 2 (some .boolean), Cond.methodLink RX5 216 yX5_write, Cond.instanceMethod yX5_write, Cond.selects RX5 yX5_write yX5_write, Cond.code yX5_write cX5_write 3 (some .int), Cond.methodLink RX5 206 yX5_tag, Cond.instanceMethod yX5_tag, Cond.selects RX5 yX5_tag yX5_tag, Cond.code yX5_tag cX5_tag 4 none, Cond.methodLink RX5 177 yX5_pad, Cond.instanceMethod yX5_pad, Cond.selects RX5 yX5_pad yX5_pad, Cond.code yX5_pad cX5_pad 3 none, Cond.methodLink RX5 153 yX5_add, Cond.instanceMethod yX5_add, Cond.selects RX5 yX5_add yX5_add, Cond.code yX5_add cX5_add 2 none, Cond.fieldLink RX5 150 "ForwardLogModel" "textSize" "I", Cond.methodLink RX5 168 yX5_addNumber, Cond.instanceMethod yX5_addNumber, Cond.selects RX5 yX5_addNumber yX5_addNumber, Cond.code yX5_addNumber cX5_addNumber 3 none, Cond.methodLink RX5 174 yX5_hash, Cond.instanceMethod yX5_hash]
def wsL_law0_r13 : List Cond := [Cond.selects RX5 yX5_hash yX5_hash, Cond.code yX5_hash cX5_hash 3 none, Cond.methodLink RX5 165 yX5_first, Cond.static yX5_first, Cond.code yX5_first cX5_first 1 (some .int), Cond.constant RX5 142 (1779033703), Cond.constant RX5 143 (-1150833019), Cond.constant RX5 144 (1013904242), Cond.constant RX5 145 (-1521486534), Cond.constant RX5 146 (1359893119), Cond.constant RX5 147 (-1694144372), Cond.constant RX5 148 (528734635), Cond.constant RX5 149 (1541459225), Cond.methodLink RX5 171 yX5_block, Cond.instanceMethod yX5_block, Cond.selects RX5 yX5_block yX5_block, Cond.code yX5_block cX5_block 10 none, Cond.methodLink RX5 157 yX5_right, Cond.static yX5_right, Cond.code yX5_right cX5_right 2 (some .int), Cond.methodLink RX5 161 yX5_round, Cond.static yX5_round, Cond.code yX5_round cX5_round 1 (some .int), Cond.constant RX5 78 (1116352408)]
def wsL_law0_r14 : List Cond := [Cond.constant RX5 79 (1899447441), Cond.constant RX5 80 (-1245643825), Cond.constant RX5 81 (-373957723), Cond.constant RX5 82 (961987163), Cond.constant RX5 83 (1508970993), Cond.constant RX5 84 (-1841331548), Cond.constant RX5 85 (-1424204075), Cond.constant RX5 86 (-670586216), Cond.constant RX5 87 (310598401), Cond.constant RX5 88 (607225278), Cond.constant RX5 89 (1426881987), Cond.constant RX5 90 (1925078388), Cond.constant RX5 91 (-2132889090), Cond.constant RX5 92 (-1680079193), Cond.constant RX5 93 (-1046744716), Cond.constant RX5 94 (-459576895), Cond.constant RX5 95 (-272742522), Cond.constant RX5 96 (264347078), Cond.constant RX5 97 (604807628), Cond.constant RX5 98 (770255983), Cond.constant RX5 99 (1249150122), Cond.constant RX5 100 (1555081692), Cond.constant RX5 101 (1996064986), Cond.constant RX5 102 (-1740746414)]
def wsL_law0_r15 : List Cond := [Cond.constant RX5 103 (-1473132947), Cond.constant RX5 104 (-1341970488), Cond.constant RX5 105 (-1084653625), Cond.constant RX5 106 (-958395405), Cond.constant RX5 107 (-710438585), Cond.constant RX5 108 (113926993), Cond.constant RX5 109 (338241895), Cond.constant RX5 110 (666307205), Cond.constant RX5 111 (773529912), Cond.constant RX5 112 (1294757372), Cond.constant RX5 113 (1396182291), Cond.constant RX5 114 (1695183700), Cond.constant RX5 115 (1986661051), Cond.constant RX5 116 (-2117940946), Cond.constant RX5 117 (-1838011259), Cond.constant RX5 118 (-1564481375), Cond.constant RX5 119 (-1474664885), Cond.constant RX5 120 (-1035236496), Cond.constant RX5 121 (-949202525), Cond.constant RX5 122 (-778901479), Cond.constant RX5 123 (-694614492), Cond.constant RX5 124 (-200395387), Cond.constant RX5 125 (275423344), Cond.constant RX5 126 (430227734)]
def wsL_law0_r16 : List Cond := [Cond.constant RX5 127 (506948616), Cond.constant RX5 128 (659060556), Cond.constant RX5 129 (883997877), Cond.constant RX5 130 (958139571), Cond.constant RX5 131 (1322822218), Cond.constant RX5 132 (1537002063), Cond.constant RX5 133 (1747873779), Cond.constant RX5 134 (1955562222), Cond.constant RX5 135 (2024104815), Cond.constant RX5 136 (-2067236844), Cond.constant RX5 137 (-1933114872), Cond.constant RX5 138 (-1866530822), Cond.constant RX5 139 (-1538233109), Cond.constant RX5 140 (-1090935817), Cond.constant RX5 141 (-965641998), Cond.methodLink RX5 210 yX5_step, Cond.instanceMethod yX5_step, Cond.selects RX5 yX5_step yX5_step, Cond.code yX5_step cX5_step 2 none, Cond.methodLink RL 78 yL_seal, Cond.static yL_seal, Cond.codeWith yL_seal cL_seal 3 (some .int) [(0, 8, 11, 15)], Cond.methodLink RL 21 yX4_seal, Cond.instanceMethod yX4_seal]
def wsL_law0_r17 : List Cond := [Cond.selects RX4 yX4_seal yX4_seal, Cond.code yX4_seal cX4_seal 1 (some .int), Cond.methodLink RL 80 yX5_seal, Cond.instanceMethod yX5_seal, Cond.selects RX5 yX5_seal yX5_seal, Cond.code yX5_seal cX5_seal 1 (some .int), Cond.methodLink RL 81 yL_sync, Cond.static yL_sync, Cond.codeWith yL_sync cL_sync 3 (some .int) [(0, 8, 11, 15)], Cond.methodLink RL 24 yX4_sync, Cond.instanceMethod yX4_sync, Cond.selects RX4 yX4_sync yX4_sync, Cond.code yX4_sync cX4_sync 1 (some .int), Cond.fieldLink RX4 98 "ForwardLog$Disk" "synced" "I", Cond.methodLink RL 83 yX5_sync, Cond.instanceMethod yX5_sync, Cond.selects RX5 yX5_sync yX5_sync, Cond.code yX5_sync cX5_sync 1 (some .int), Cond.methodLink RL 84 yL_crash, Cond.static yL_crash, Cond.codeWith yL_crash cL_crash 4 (some .int) [(0, 9, 12, 13)], Cond.methodLink RL 27 yX4_crash, Cond.instanceMethod yX4_crash, Cond.selects RX4 yX4_crash yX4_crash]
def wsL_law0_r18 : List Cond := [Cond.code yX4_crash cX4_crash 4 (some .int), Cond.methodLink RX4 103 Lib.Math.min.name, Cond.static Lib.Math.min.name, Cond.code Lib.Math.min.name Lib.Math.min.code 2 (some .int), Cond.methodLink RL 87 yX5_crash, Cond.instanceMethod yX5_crash, Cond.selects RX5 yX5_crash yX5_crash, Cond.code yX5_crash cX5_crash 4 (some .int), Cond.methodLink RL 88 yL_recover, Cond.static yL_recover, Cond.codeWith yL_recover cL_recover 3 (some .int) [(0, 8, 11, 15)], Cond.methodLink RL 31 yX4_recover, Cond.instanceMethod yX4_recover, Cond.selects RX4 yX4_recover yX4_recover, Cond.code yX4_recover cX4_recover 3 (some .int), Cond.methodLink RX4 121 Lib.Math.max.name, Cond.methodLink RX4 111 yX0_wholeEnd, Cond.instanceMethod yX0_wholeEnd, Cond.selects RX0 yX0_wholeEnd yX0_wholeEnd, Cond.code yX0_wholeEnd cX0_wholeEnd 3 (some .int), Cond.methodLink RX0 33 yX0_isWhole, Cond.instanceMethod yX0_isWhole, Cond.selects RX0 yX0_isWhole yX0_isWhole, Cond.code yX0_isWhole cX0_isWhole 4 (some .boolean)]
def wsL_law0_r19 : List Cond := [Cond.methodLink RX0 36 yX0_sizeAt, Cond.instanceMethod yX0_sizeAt, Cond.selects RX0 yX0_sizeAt yX0_sizeAt, Cond.code yX0_sizeAt cX0_sizeAt 2 (some .int), Cond.methodLink RX4 118 yX0_nextIndex, Cond.instanceMethod yX0_nextIndex, Cond.selects RX0 yX0_nextIndex yX0_nextIndex, Cond.code yX0_nextIndex cX0_nextIndex 4 (some .int), Cond.methodLink RX0 39 yX0_passedOverAt, Cond.instanceMethod yX0_passedOverAt, Cond.selects RX0 yX0_passedOverAt yX0_passedOverAt, Cond.code yX0_passedOverAt cX0_passedOverAt 2 (some .int), Cond.methodLink RL 90 yX5_recover, Cond.instanceMethod yX5_recover, Cond.selects RX5 yX5_recover yX5_recover, Cond.code yX5_recover cX5_recover 6 (some .int), Cond.fieldLink RX5 225 "ForwardLogModel" "passed" "I", Cond.fieldLink RX5 222 "ForwardLogModel" "length" "I", Cond.methodLink RX5 228 yX5_look, Cond.instanceMethod yX5_look, Cond.selects RX5 yX5_look yX5_look, Cond.code yX5_look cX5_look 3 (some .boolean), Cond.fieldLink RX5 219 "ForwardLogModel" "kind" "I", Cond.methodLink RL 91 yX4_verify]
def wsL_law0_r20 : List Cond := [Cond.instanceMethod yX4_verify, Cond.selects RX4 yX4_verify yX4_verify, Cond.code yX4_verify cX4_verify 5 (some .int), Cond.methodLink RX4 128 yX3_goThrough, Cond.instanceMethod yX3_goThrough, Cond.selects RX3 yX3_goThrough yX3_goThrough, Cond.code yX3_goThrough cX3_goThrough 9 (some .int), Cond.fieldLink RX3 60 "ForwardLog$Disk" "used" "I", Cond.fieldLink RX3 74 "ForwardLog$KeyChain" "index" "I", Cond.methodLink RX3 56 yX2_start, Cond.methodLink RX3 63 yX0_octetAt, Cond.methodLink RX3 67 yX0_add, Cond.methodLink RX3 70 yX3_isGood, Cond.instanceMethod yX3_isGood, Cond.selects RX3 yX3_isGood yX3_isGood, Cond.code yX3_isGood cX3_isGood 6 (some .boolean), Cond.methodLink RX3 87 yX0_isWhole, Cond.methodLink RX3 77 yX0_passedOverAt, Cond.methodLink RX3 80 yX2_turn, Cond.methodLink RX3 91 yX0_tagBefore, Cond.methodLink RX3 94 yX1_makeTag, Cond.methodLink RX3 84 yX0_sizeAt, Cond.methodLink RX3 100 yX1_hashOctet, Cond.methodLink RL 95 yX5_verify]
def wsL_law0_r21 : List Cond := [Cond.instanceMethod yX5_verify, Cond.selects RX5 yX5_verify yX5_verify, Cond.code yX5_verify cX5_verify 9 (some .int), Cond.methodLink RX5 231 yX5_bears, Cond.instanceMethod yX5_bears, Cond.selects RX5 yX5_bears yX5_bears, Cond.code yX5_bears cX5_bears 5 (some .boolean), Cond.methodLink RL 96 yL_told, Cond.static yL_told, Cond.codeWith yL_told cL_told 4 (some .int) [(0, 9, 12, 13)], Cond.methodLink RL 34 yX4_told, Cond.instanceMethod yX4_told, Cond.selects RX4 yX4_told yX4_told, Cond.code yX4_told cX4_told 2 (some .int), Cond.methodLink RX4 134 yX3_answer, Cond.instanceMethod yX3_answer, Cond.selects RX3 yX3_answer yX3_answer, Cond.code yX3_answer cX3_answer 2 (some .int), Cond.methodLink RX3 103 yX3_partOf, Cond.instanceMethod yX3_partOf, Cond.selects RX3 yX3_partOf yX3_partOf, Cond.code yX3_partOf cX3_partOf 5 (some .int), Cond.methodLink RL 98 yX5_told, Cond.instanceMethod yX5_told]
def wsL_law0_r22 : List Cond := [Cond.selects RX5 yX5_told yX5_told, Cond.code yX5_told cX5_told 2 (some .int), Cond.methodLink RL 99 yL_record, Cond.static yL_record, Cond.codeWith yL_record cL_record 5 (some .int) [(0, 10, 13, 13)], Cond.methodLink RL 37 yX4_record, Cond.instanceMethod yX4_record, Cond.selects RX4 yX4_record yX4_record, Cond.code yX4_record cX4_record 3 (some .int), Cond.methodLink RX4 139 yX3_partOf, Cond.methodLink RL 102 yX5_record, Cond.instanceMethod yX5_record, Cond.selects RX5 yX5_record yX5_record, Cond.code yX5_record cX5_record 4 (some .int), Cond.methodLink RL 103 yL_bend, Cond.static yL_bend, Cond.codeWith yL_bend cL_bend 5 (some .int) [(0, 10, 13, 44), (0, 10, 17, 13)], Cond.classLink RL 44 "java/lang/IndexOutOfBoundsException", Cond.methodLink RL 41 yX4_bend, Cond.instanceMethod yX4_bend, Cond.selects RX4 yX4_bend yX4_bend, Cond.code yX4_bend cX4_bend 3 (some .int), Cond.classLink RX4 146 "java/lang/IndexOutOfBoundsException", Cond.initialized "java/lang/IndexOutOfBoundsException"]
def wsL_law0_r23 : List Cond := [Cond.methodLink RX4 142 yX0_has, Cond.methodLink RX4 153 yX0_turnRound, Cond.instanceMethod yX0_turnRound, Cond.selects RX0 yX0_turnRound yX0_turnRound, Cond.code yX0_turnRound cX0_turnRound 3 (some .int), Cond.methodLink RL 105 yX5_bend, Cond.instanceMethod yX5_bend, Cond.selects RX5 yX5_bend yX5_bend, Cond.code yX5_bend cX5_bend 3 (some .int), Cond.methodLink RL 106 yX4_octet, Cond.instanceMethod yX4_octet, Cond.selects RX4 yX4_octet yX4_octet, Cond.code yX4_octet cX4_octet 2 (some .int), Cond.methodLink RX4 156 yX0_octetAt, Cond.methodLink RL 109 yX5_octet, Cond.instanceMethod yX5_octet, Cond.selects RX5 yX5_octet yX5_octet, Cond.code yX5_octet cX5_octet 2 (some .int), Cond.methodLink RL 110 yL_key, Cond.static yL_key, Cond.codeWith yL_key cL_key 4 (some .int) [(0, 9, 12, 13)], Cond.methodLink RL 46 yX4_key, Cond.instanceMethod yX4_key, Cond.selects RX4 yX4_key yX4_key]
def wsL_law0_r24 : List Cond := [Cond.code yX4_key cX4_key 2 (some .int), Cond.fieldLink RX4 161 "ForwardLog$KeyChain" "octets" "[I", Cond.methodLink RL 112 yX5_key, Cond.instanceMethod yX5_key, Cond.selects RX5 yX5_key yX5_key, Cond.code yX5_key cX5_key 2 (some .int), Cond.methodLink RL 113 yL_count, Cond.static yL_count, Cond.codeWith yL_count cL_count 4 (some .int) [(0, 9, 12, 13)], Cond.methodLink RL 49 yX4_count, Cond.instanceMethod yX4_count, Cond.selects RX4 yX4_count yX4_count, Cond.code yX4_count cX4_count 2 (some .int), Cond.methodLink RL 115 yX5_count, Cond.instanceMethod yX5_count, Cond.selects RX5 yX5_count yX5_count, Cond.code yX5_count cX5_count 2 (some .int)]
def wsL_law0 : List Cond := (wsL_law0_r1 ++ (wsL_law0_r2 ++ (wsL_law0_r3 ++ (wsL_law0_r4 ++ (wsL_law0_r5 ++ (wsL_law0_r6 ++ (wsL_law0_r7 ++ (wsL_law0_r8 ++ (wsL_law0_r9 ++ (wsL_law0_r10 ++ (wsL_law0_r11 ++ (wsL_law0_r12 ++ (wsL_law0_r13 ++ (wsL_law0_r14 ++ (wsL_law0_r15 ++ (wsL_law0_r16 ++ (wsL_law0_r17 ++ (wsL_law0_r18 ++ (wsL_law0_r19 ++ (wsL_law0_r20 ++ (wsL_law0_r21 ++ (wsL_law0_r22 ++ (wsL_law0_r23 ++ wsL_law0_r24))))))))))))))))))))))) ++ wsX40 ++ wsX50 ++ wsX10 ++ wsX00 ++ wsX20 ++ wsX30 ++ ([] : List Cond)
def wsL_law : List Cond := wsL_law0 ++ (vx_atS RX4 77 "java/lang/IllegalArgumentException" ["java/lang/RuntimeException", "java/lang/Exception"]).filter goodWord ++ (vx_atS RX4 84 "java/lang/IllegalStateException" ["java/lang/RuntimeException", "java/lang/Exception"]).filter goodWord ++ (vx_atS RX4 150 "java/lang/IndexOutOfBoundsException" ["java/lang/RuntimeException", "java/lang/Exception"]).filter goodWord
set_option maxRecDepth 20000 in
theorem wsL_law_in0 : ∀ w ∈ wsL_law0, w ∈ lw_tbl := fun w h => (goodIn_p wsL_law0 [38, 41, 46, 66, 85, 103, 112, 116, 527, 532, 179, 184, 187, 191, 202, 195, 199, 631, 635, 638, 304, 642, 646, 627, 207, 650, 396, 401, 232, 221, 277, 281, 244, 248, 252, 259, 262, 266, 272, 240, 654, 658, 662, 666, 670, 674, 678, 682, 685, 697, 700, 703, 771, 413, 775, 420, 779, 427, 431, 783, 438, 443, 229, 289, 449, 236, 787, 791, 211, 215, 225, 795, 799, 458, 463, 467, 803, 474, 807, 484, 506, 811, 294, 815, 513, 819, 521, 823] (by decide +kernel) (by decide +kernel) w h).1
theorem wsL_law_x0 : ∀ w ∈ (vx_atS RX4 77 "java/lang/IllegalArgumentException" ["java/lang/RuntimeException", "java/lang/Exception"]).filter goodWord, w ∈ lw_tbl := by decide +kernel
theorem wsL_law_x1 : ∀ w ∈ (vx_atS RX4 84 "java/lang/IllegalStateException" ["java/lang/RuntimeException", "java/lang/Exception"]).filter goodWord, w ∈ lw_tbl := by decide +kernel
theorem wsL_law_x2 : ∀ w ∈ (vx_atS RX4 150 "java/lang/IndexOutOfBoundsException" ["java/lang/RuntimeException", "java/lang/Exception"]).filter goodWord, w ∈ lw_tbl := by decide +kernel
theorem wsL_law_in : ∀ w ∈ wsL_law, w ∈ lw_tbl := fun w h => (List.mem_append.mp h).elim (fun h => (List.mem_append.mp h).elim (fun h => (List.mem_append.mp h).elim (fun h => wsL_law_in0 w h) (fun h => wsL_law_x0 w h)) (fun h => wsL_law_x1 w h)) (fun h => wsL_law_x2 w h)
theorem inlX0 : ∀ w ∈ wsX00, w ∈ wsL_law := fun _ h => List.mem_append_left _ (List.mem_append_left _ (List.mem_append_left _ (List.mem_append_left _ (List.mem_append_left _ (List.mem_append_left _ (List.mem_append_right _ h))))))
theorem inX0 : ∀ w ∈ wsX00, w ∈ lw_tbl := fun w h => wsL_law_in w (inlX0 w h)
theorem inlX1 : ∀ w ∈ wsX10, w ∈ wsL_law := fun _ h => List.mem_append_left _ (List.mem_append_left _ (List.mem_append_left _ (List.mem_append_left _ (List.mem_append_left _ (List.mem_append_left _ (List.mem_append_left _ (List.mem_append_right _ h)))))))
theorem inX1 : ∀ w ∈ wsX10, w ∈ lw_tbl := fun w h => wsL_law_in w (inlX1 w h)
theorem inlX2 : ∀ w ∈ wsX20, w ∈ wsL_law := fun _ h => List.mem_append_left _ (List.mem_append_left _ (List.mem_append_left _ (List.mem_append_left _ (List.mem_append_left _ (List.mem_append_right _ h)))))
theorem inX2 : ∀ w ∈ wsX20, w ∈ lw_tbl := fun w h => wsL_law_in w (inlX2 w h)
theorem inlX3 : ∀ w ∈ wsX30, w ∈ wsL_law := fun _ h => List.mem_append_left _ (List.mem_append_left _ (List.mem_append_left _ (List.mem_append_left _ (List.mem_append_right _ h))))
theorem inX3 : ∀ w ∈ wsX30, w ∈ lw_tbl := fun w h => wsL_law_in w (inlX3 w h)
theorem inlX4 : ∀ w ∈ wsX40, w ∈ wsL_law := fun _ h => List.mem_append_left _ (List.mem_append_left _ (List.mem_append_left _ (List.mem_append_left _ (List.mem_append_left _ (List.mem_append_left _ (List.mem_append_left _ (List.mem_append_left _ (List.mem_append_left _ (List.mem_append_right _ h)))))))))
theorem inX4 : ∀ w ∈ wsX40, w ∈ lw_tbl := fun w h => wsL_law_in w (inlX4 w h)
theorem inlX5 : ∀ w ∈ wsX50, w ∈ wsL_law := fun _ h => List.mem_append_left _ (List.mem_append_left _ (List.mem_append_left _ (List.mem_append_left _ (List.mem_append_left _ (List.mem_append_left _ (List.mem_append_left _ (List.mem_append_left _ (List.mem_append_right _ h))))))))
theorem inX5 : ∀ w ∈ wsX50, w ∈ lw_tbl := fun w h => wsL_law_in w (inlX5 w h)
theorem inJ9 : ∀ w ∈ wsJ90, w ∈ lw_tbl := by decide +kernel
theorem inJ0 : ∀ w ∈ wsJ00, w ∈ lw_tbl := by decide +kernel
theorem dX0_init_0 : decode cX0_init 0 = .ok (.aload_n 0, 1) := by decide +kernel
theorem dX0_init_1 : decode cX0_init 1 = .ok (.invokespecial 3, 3) := by decide +kernel
theorem dX0_init_4 : decode cX0_init 4 = .ok (.aload_n 0, 1) := by decide +kernel
theorem dX0_init_5 : decode cX0_init 5 = .ok (.sipush 1200, 3) := by decide +kernel
theorem dX0_init_8 : decode cX0_init 8 = .ok (.newarray .int, 2) := by decide +kernel
theorem dX0_init_10 : decode cX0_init 10 = .ok (.putfield 9, 3) := by decide +kernel
theorem dX0_init_13 : decode cX0_init 13 = .ok (.aload_n 0, 1) := by decide +kernel
theorem dX0_init_14 : decode cX0_init 14 = .ok (.iconst 0, 1) := by decide +kernel
theorem dX0_init_15 : decode cX0_init 15 = .ok (.putfield 15, 3) := by decide +kernel
theorem dX0_init_18 : decode cX0_init 18 = .ok (.aload_n 0, 1) := by decide +kernel
theorem dX0_init_19 : decode cX0_init 19 = .ok (.iconst 0, 1) := by decide +kernel
theorem dX0_init_20 : decode cX0_init 20 = .ok (.putfield 19, 3) := by decide +kernel
theorem dX0_init_23 : decode cX0_init 23 = .ok (.return_, 1) := by decide +kernel
theorem dX0_cutTo_0 : decode cX0_cutTo 0 = .ok (.aload_n 0, 1) := by decide +kernel
theorem dX0_cutTo_1 : decode cX0_cutTo 1 = .ok (.iload_n 1, 1) := by decide +kernel
theorem dX0_cutTo_2 : decode cX0_cutTo 2 = .ok (.putfield 15, 3) := by decide +kernel
theorem dX0_cutTo_5 : decode cX0_cutTo 5 = .ok (.aload_n 0, 1) := by decide +kernel
theorem dX0_cutTo_6 : decode cX0_cutTo 6 = .ok (.iload_n 1, 1) := by decide +kernel
theorem dX0_cutTo_7 : decode cX0_cutTo 7 = .ok (.putfield 19, 3) := by decide +kernel
theorem dX0_cutTo_10 : decode cX0_cutTo 10 = .ok (.return_, 1) := by decide +kernel
theorem dX0_add_0 : decode cX0_add 0 = .ok (.aload_n 0, 1) := by decide +kernel
theorem dX0_add_1 : decode cX0_add 1 = .ok (.getfield 15, 3) := by decide +kernel
theorem dX0_add_4 : decode cX0_add 4 = .ok (.ifCond .lt 39, 3) := by decide +kernel
theorem dX0_add_7 : decode cX0_add 7 = .ok (.aload_n 0, 1) := by decide +kernel
theorem dX0_add_8 : decode cX0_add 8 = .ok (.getfield 15, 3) := by decide +kernel
theorem dX0_add_11 : decode cX0_add 11 = .ok (.aload_n 0, 1) := by decide +kernel
theorem dX0_add_12 : decode cX0_add 12 = .ok (.getfield 9, 3) := by decide +kernel
theorem dX0_add_15 : decode cX0_add 15 = .ok (.arraylength, 1) := by decide +kernel
theorem dX0_add_16 : decode cX0_add 16 = .ok (.if_icmp .ge 27, 3) := by decide +kernel
theorem dX0_add_19 : decode cX0_add 19 = .ok (.aload_n 0, 1) := by decide +kernel
theorem dX0_add_20 : decode cX0_add 20 = .ok (.getfield 9, 3) := by decide +kernel
theorem dX0_add_23 : decode cX0_add 23 = .ok (.aload_n 0, 1) := by decide +kernel
theorem dX0_add_24 : decode cX0_add 24 = .ok (.getfield 15, 3) := by decide +kernel
theorem dX0_add_27 : decode cX0_add 27 = .ok (.iload_n 1, 1) := by decide +kernel
theorem dX0_add_28 : decode cX0_add 28 = .ok (.sipush 255, 3) := by decide +kernel
theorem dX0_add_31 : decode cX0_add 31 = .ok (.iand, 1) := by decide +kernel
theorem dX0_add_32 : decode cX0_add 32 = .ok (.iastore, 1) := by decide +kernel
theorem dX0_add_33 : decode cX0_add 33 = .ok (.aload_n 0, 1) := by decide +kernel
theorem dX0_add_34 : decode cX0_add 34 = .ok (.dup, 1) := by decide +kernel
theorem dX0_add_35 : decode cX0_add 35 = .ok (.getfield 15, 3) := by decide +kernel
theorem dX0_add_38 : decode cX0_add 38 = .ok (.iconst 1, 1) := by decide +kernel
theorem dX0_add_39 : decode cX0_add 39 = .ok (.iadd, 1) := by decide +kernel
theorem dX0_add_40 : decode cX0_add 40 = .ok (.putfield 15, 3) := by decide +kernel
theorem dX0_add_43 : decode cX0_add 43 = .ok (.return_, 1) := by decide +kernel
theorem dX0_has_0 : decode cX0_has 0 = .ok (.iload_n 1, 1) := by decide +kernel
theorem dX0_has_1 : decode cX0_has 1 = .ok (.ifCond .lt 24, 3) := by decide +kernel
theorem dX0_has_4 : decode cX0_has 4 = .ok (.iload_n 1, 1) := by decide +kernel
theorem dX0_has_5 : decode cX0_has 5 = .ok (.aload_n 0, 1) := by decide +kernel
theorem dX0_has_6 : decode cX0_has 6 = .ok (.getfield 15, 3) := by decide +kernel
theorem dX0_has_9 : decode cX0_has 9 = .ok (.if_icmp .ge 16, 3) := by decide +kernel
theorem dX0_has_12 : decode cX0_has 12 = .ok (.iload_n 1, 1) := by decide +kernel
theorem dX0_has_13 : decode cX0_has 13 = .ok (.aload_n 0, 1) := by decide +kernel
theorem dX0_has_14 : decode cX0_has 14 = .ok (.getfield 9, 3) := by decide +kernel
theorem dX0_has_17 : decode cX0_has 17 = .ok (.arraylength, 1) := by decide +kernel
theorem dX0_has_18 : decode cX0_has 18 = .ok (.if_icmp .ge 7, 3) := by decide +kernel
theorem dX0_has_21 : decode cX0_has 21 = .ok (.iconst 1, 1) := by decide +kernel
theorem dX0_has_22 : decode cX0_has 22 = .ok (.goto 4, 3) := by decide +kernel
theorem dX0_has_25 : decode cX0_has 25 = .ok (.iconst 0, 1) := by decide +kernel
theorem dX0_has_26 : decode cX0_has 26 = .ok (.ireturn, 1) := by decide +kernel
set_option maxRecDepth 20000 in
theorem ggX0_octetAt_X0_has : GoodIn wsX0_octetAt wsX0_has := goodIn_r _ [6, 7, 1, 8, 9, 10] (by decide +kernel) (by decide +kernel)
set_option maxRecDepth 20000 in
theorem gX0_octetAt_X0_has : GoodIn wsX0_octetAt (wsV RX0 22 RX0 yX0_has wsX0_has) := goodIn_app (goodIn_of _ (by decide +kernel)) ggX0_octetAt_X0_has
theorem dX0_octetAt_0 : decode cX0_octetAt 0 = .ok (.aload_n 0, 1) := by decide +kernel
theorem dX0_octetAt_1 : decode cX0_octetAt 1 = .ok (.iload_n 1, 1) := by decide +kernel
theorem dX0_octetAt_2 : decode cX0_octetAt 2 = .ok (.invokevirtual 22, 3) := by decide +kernel
theorem dX0_octetAt_5 : decode cX0_octetAt 5 = .ok (.ifCond .eq 12, 3) := by decide +kernel
theorem dX0_octetAt_8 : decode cX0_octetAt 8 = .ok (.aload_n 0, 1) := by decide +kernel
theorem dX0_octetAt_9 : decode cX0_octetAt 9 = .ok (.getfield 9, 3) := by decide +kernel
theorem dX0_octetAt_12 : decode cX0_octetAt 12 = .ok (.iload_n 1, 1) := by decide +kernel
theorem dX0_octetAt_13 : decode cX0_octetAt 13 = .ok (.iaload, 1) := by decide +kernel
theorem dX0_octetAt_14 : decode cX0_octetAt 14 = .ok (.goto 4, 3) := by decide +kernel
theorem dX0_octetAt_17 : decode cX0_octetAt 17 = .ok (.iconst (-1), 1) := by decide +kernel
theorem dX0_octetAt_18 : decode cX0_octetAt 18 = .ok (.ireturn, 1) := by decide +kernel
set_option maxRecDepth 20000 in
theorem ggX0_turnRound_X0_has : GoodIn wsX0_turnRound wsX0_has := goodIn_r _ [6, 7, 1, 8, 9, 10] (by decide +kernel) (by decide +kernel)
set_option maxRecDepth 20000 in
theorem gX0_turnRound_X0_has : GoodIn wsX0_turnRound (wsV RX0 22 RX0 yX0_has wsX0_has) := goodIn_app (goodIn_of _ (by decide +kernel)) ggX0_turnRound_X0_has
theorem dX0_turnRound_0 : decode cX0_turnRound 0 = .ok (.aload_n 0, 1) := by decide +kernel
theorem dX0_turnRound_1 : decode cX0_turnRound 1 = .ok (.iload_n 1, 1) := by decide +kernel
theorem dX0_turnRound_2 : decode cX0_turnRound 2 = .ok (.invokevirtual 22, 3) := by decide +kernel
theorem dX0_turnRound_5 : decode cX0_turnRound 5 = .ok (.ifCond .ne 5, 3) := by decide +kernel
theorem dX0_turnRound_8 : decode cX0_turnRound 8 = .ok (.iconst (-1), 1) := by decide +kernel
theorem dX0_turnRound_9 : decode cX0_turnRound 9 = .ok (.ireturn, 1) := by decide +kernel
theorem dX0_turnRound_10 : decode cX0_turnRound 10 = .ok (.aload_n 0, 1) := by decide +kernel
theorem dX0_turnRound_11 : decode cX0_turnRound 11 = .ok (.getfield 9, 3) := by decide +kernel
theorem dX0_turnRound_14 : decode cX0_turnRound 14 = .ok (.iload_n 1, 1) := by decide +kernel
theorem dX0_turnRound_15 : decode cX0_turnRound 15 = .ok (.aload_n 0, 1) := by decide +kernel
theorem dX0_turnRound_16 : decode cX0_turnRound 16 = .ok (.getfield 9, 3) := by decide +kernel
theorem dX0_turnRound_19 : decode cX0_turnRound 19 = .ok (.iload_n 1, 1) := by decide +kernel
theorem dX0_turnRound_20 : decode cX0_turnRound 20 = .ok (.iaload, 1) := by decide +kernel
theorem dX0_turnRound_21 : decode cX0_turnRound 21 = .ok (.iconst 1, 1) := by decide +kernel
theorem dX0_turnRound_22 : decode cX0_turnRound 22 = .ok (.iload_n 2, 1) := by decide +kernel
theorem dX0_turnRound_23 : decode cX0_turnRound 23 = .ok (.ishl, 1) := by decide +kernel
theorem dX0_turnRound_24 : decode cX0_turnRound 24 = .ok (.ixor, 1) := by decide +kernel
theorem dX0_turnRound_25 : decode cX0_turnRound 25 = .ok (.iastore, 1) := by decide +kernel
theorem dX0_turnRound_26 : decode cX0_turnRound 26 = .ok (.aload_n 0, 1) := by decide +kernel
theorem dX0_turnRound_27 : decode cX0_turnRound 27 = .ok (.getfield 9, 3) := by decide +kernel
theorem dX0_turnRound_30 : decode cX0_turnRound 30 = .ok (.iload_n 1, 1) := by decide +kernel
theorem dX0_turnRound_31 : decode cX0_turnRound 31 = .ok (.iaload, 1) := by decide +kernel
theorem dX0_turnRound_32 : decode cX0_turnRound 32 = .ok (.ireturn, 1) := by decide +kernel
set_option maxRecDepth 20000 in
theorem ggX0_isWhole_X0_octetAt : GoodIn wsX0_isWhole wsX0_octetAt := goodIn_r _ [6, 7, 8, 9, 10, 5, 11, 1, 15, 16, 17] (by decide +kernel) (by decide +kernel)
set_option maxRecDepth 20000 in
theorem gX0_isWhole_X0_octetAt : GoodIn wsX0_isWhole (wsV RX0 26 RX0 yX0_octetAt wsX0_octetAt) := goodIn_app (goodIn_of _ (by decide +kernel)) ggX0_isWhole_X0_octetAt
set_option maxRecDepth 20000 in
theorem ggX0_isWhole_X4_recordSize : GoodIn wsX0_isWhole wsX4_recordSize := goodIn_r _ [14] (by decide +kernel) (by decide +kernel)
set_option maxRecDepth 20000 in
theorem gX0_isWhole_X4_recordSize_n30 : GoodIn wsX0_isWhole (wsX4_recordSize) := ggX0_isWhole_X4_recordSize
theorem dX0_isWhole_0 : decode cX0_isWhole 0 = .ok (.aload_n 0, 1) := by decide +kernel
theorem dX0_isWhole_1 : decode cX0_isWhole 1 = .ok (.iload_n 1, 1) := by decide +kernel
theorem dX0_isWhole_2 : decode cX0_isWhole 2 = .ok (.invokevirtual 26, 3) := by decide +kernel
theorem dX0_isWhole_5 : decode cX0_isWhole 5 = .ok (.istore_n 2, 1) := by decide +kernel
theorem dX0_isWhole_6 : decode cX0_isWhole 6 = .ok (.aload_n 0, 1) := by decide +kernel
theorem dX0_isWhole_7 : decode cX0_isWhole 7 = .ok (.iload_n 1, 1) := by decide +kernel
theorem dX0_isWhole_8 : decode cX0_isWhole 8 = .ok (.iconst 1, 1) := by decide +kernel
theorem dX0_isWhole_9 : decode cX0_isWhole 9 = .ok (.iadd, 1) := by decide +kernel
theorem dX0_isWhole_10 : decode cX0_isWhole 10 = .ok (.invokevirtual 26, 3) := by decide +kernel
theorem dX0_isWhole_13 : decode cX0_isWhole 13 = .ok (.istore_n 3, 1) := by decide +kernel
theorem dX0_isWhole_14 : decode cX0_isWhole 14 = .ok (.iload_n 2, 1) := by decide +kernel
theorem dX0_isWhole_15 : decode cX0_isWhole 15 = .ok (.iconst 1, 1) := by decide +kernel
theorem dX0_isWhole_16 : decode cX0_isWhole 16 = .ok (.if_icmp .lt 18, 3) := by decide +kernel
theorem dX0_isWhole_19 : decode cX0_isWhole 19 = .ok (.iload_n 2, 1) := by decide +kernel
theorem dX0_isWhole_20 : decode cX0_isWhole 20 = .ok (.iconst 3, 1) := by decide +kernel
theorem dX0_isWhole_21 : decode cX0_isWhole 21 = .ok (.if_icmp .gt 13, 3) := by decide +kernel
theorem dX0_isWhole_24 : decode cX0_isWhole 24 = .ok (.iload_n 3, 1) := by decide +kernel
theorem dX0_isWhole_25 : decode cX0_isWhole 25 = .ok (.ifCond .lt 9, 3) := by decide +kernel
theorem dX0_isWhole_28 : decode cX0_isWhole 28 = .ok (.iload_n 3, 1) := by decide +kernel
theorem dX0_isWhole_29 : decode cX0_isWhole 29 = .ok (.bipush 40, 2) := by decide +kernel
theorem dX0_isWhole_31 : decode cX0_isWhole 31 = .ok (.if_icmp .le 5, 3) := by decide +kernel
theorem dX0_isWhole_34 : decode cX0_isWhole 34 = .ok (.iconst 0, 1) := by decide +kernel
theorem dX0_isWhole_35 : decode cX0_isWhole 35 = .ok (.ireturn, 1) := by decide +kernel
theorem dX0_isWhole_36 : decode cX0_isWhole 36 = .ok (.iload_n 2, 1) := by decide +kernel
theorem dX0_isWhole_37 : decode cX0_isWhole 37 = .ok (.iconst 2, 1) := by decide +kernel
theorem dX0_isWhole_38 : decode cX0_isWhole 38 = .ok (.if_icmp .ne 7, 3) := by decide +kernel
theorem dX0_isWhole_41 : decode cX0_isWhole 41 = .ok (.iload_n 3, 1) := by decide +kernel
theorem dX0_isWhole_42 : decode cX0_isWhole 42 = .ok (.ifCond .ne 13, 3) := by decide +kernel
theorem dX0_isWhole_45 : decode cX0_isWhole 45 = .ok (.iload_n 2, 1) := by decide +kernel
theorem dX0_isWhole_46 : decode cX0_isWhole 46 = .ok (.iconst 3, 1) := by decide +kernel
theorem dX0_isWhole_47 : decode cX0_isWhole 47 = .ok (.if_icmp .ne 10, 3) := by decide +kernel
theorem dX0_isWhole_50 : decode cX0_isWhole 50 = .ok (.iload_n 3, 1) := by decide +kernel
theorem dX0_isWhole_51 : decode cX0_isWhole 51 = .ok (.iconst 2, 1) := by decide +kernel
theorem dX0_isWhole_52 : decode cX0_isWhole 52 = .ok (.if_icmp .eq 5, 3) := by decide +kernel
theorem dX0_isWhole_55 : decode cX0_isWhole 55 = .ok (.iconst 0, 1) := by decide +kernel
theorem dX0_isWhole_56 : decode cX0_isWhole 56 = .ok (.ireturn, 1) := by decide +kernel
theorem dX0_isWhole_57 : decode cX0_isWhole 57 = .ok (.iload_n 1, 1) := by decide +kernel
theorem dX0_isWhole_58 : decode cX0_isWhole 58 = .ok (.iload_n 3, 1) := by decide +kernel
theorem dX0_isWhole_59 : decode cX0_isWhole 59 = .ok (.invokestatic 30, 3) := by decide +kernel
theorem dX0_isWhole_62 : decode cX0_isWhole 62 = .ok (.iadd, 1) := by decide +kernel
theorem dX0_isWhole_63 : decode cX0_isWhole 63 = .ok (.aload_n 0, 1) := by decide +kernel
theorem dX0_isWhole_64 : decode cX0_isWhole 64 = .ok (.getfield 15, 3) := by decide +kernel
theorem dX0_isWhole_67 : decode cX0_isWhole 67 = .ok (.if_icmp .gt 7, 3) := by decide +kernel
theorem dX0_isWhole_70 : decode cX0_isWhole 70 = .ok (.iconst 1, 1) := by decide +kernel
theorem dX0_isWhole_71 : decode cX0_isWhole 71 = .ok (.goto 4, 3) := by decide +kernel
theorem dX0_isWhole_74 : decode cX0_isWhole 74 = .ok (.iconst 0, 1) := by decide +kernel
theorem dX0_isWhole_75 : decode cX0_isWhole 75 = .ok (.ireturn, 1) := by decide +kernel
set_option maxRecDepth 20000 in
theorem ggX0_sizeAt_X0_octetAt : GoodIn wsX0_sizeAt wsX0_octetAt := goodIn_r _ [5, 6, 7, 8, 9, 4, 10, 11, 15, 16, 17] (by decide +kernel) (by decide +kernel)
set_option maxRecDepth 20000 in
theorem gX0_sizeAt_X0_octetAt : GoodIn wsX0_sizeAt (wsV RX0 26 RX0 yX0_octetAt wsX0_octetAt) := goodIn_app (goodIn_of _ (by decide +kernel)) ggX0_sizeAt_X0_octetAt
set_option maxRecDepth 20000 in
theorem ggX0_sizeAt_X4_recordSize : GoodIn wsX0_sizeAt wsX4_recordSize := goodIn_r _ [14] (by decide +kernel) (by decide +kernel)
set_option maxRecDepth 20000 in
theorem gX0_sizeAt_X4_recordSize_n30 : GoodIn wsX0_sizeAt (wsX4_recordSize) := ggX0_sizeAt_X4_recordSize
theorem dX0_sizeAt_0 : decode cX0_sizeAt 0 = .ok (.aload_n 0, 1) := by decide +kernel
theorem dX0_sizeAt_1 : decode cX0_sizeAt 1 = .ok (.iload_n 1, 1) := by decide +kernel
theorem dX0_sizeAt_2 : decode cX0_sizeAt 2 = .ok (.iconst 1, 1) := by decide +kernel
theorem dX0_sizeAt_3 : decode cX0_sizeAt 3 = .ok (.iadd, 1) := by decide +kernel
theorem dX0_sizeAt_4 : decode cX0_sizeAt 4 = .ok (.invokevirtual 26, 3) := by decide +kernel
theorem dX0_sizeAt_7 : decode cX0_sizeAt 7 = .ok (.invokestatic 30, 3) := by decide +kernel
theorem dX0_sizeAt_10 : decode cX0_sizeAt 10 = .ok (.ireturn, 1) := by decide +kernel
set_option maxRecDepth 20000 in
theorem ggX0_passedOverAt_X0_octetAt : GoodIn wsX0_passedOverAt wsX0_octetAt := goodIn_r _ [5, 6, 7, 8, 9, 4, 10, 11, 12, 13, 14] (by decide +kernel) (by decide +kernel)
set_option maxRecDepth 20000 in
theorem gX0_passedOverAt_X0_octetAt : GoodIn wsX0_passedOverAt (wsV RX0 26 RX0 yX0_octetAt wsX0_octetAt) := goodIn_app (goodIn_of _ (by decide +kernel)) ggX0_passedOverAt_X0_octetAt
theorem dX0_passedOverAt_0 : decode cX0_passedOverAt 0 = .ok (.aload_n 0, 1) := by decide +kernel
theorem dX0_passedOverAt_1 : decode cX0_passedOverAt 1 = .ok (.iload_n 1, 1) := by decide +kernel
theorem dX0_passedOverAt_2 : decode cX0_passedOverAt 2 = .ok (.invokevirtual 26, 3) := by decide +kernel
theorem dX0_passedOverAt_5 : decode cX0_passedOverAt 5 = .ok (.iconst 3, 1) := by decide +kernel
theorem dX0_passedOverAt_6 : decode cX0_passedOverAt 6 = .ok (.if_icmp .eq 5, 3) := by decide +kernel
theorem dX0_passedOverAt_9 : decode cX0_passedOverAt 9 = .ok (.iconst 0, 1) := by decide +kernel
theorem dX0_passedOverAt_10 : decode cX0_passedOverAt 10 = .ok (.ireturn, 1) := by decide +kernel
theorem dX0_passedOverAt_11 : decode cX0_passedOverAt 11 = .ok (.aload_n 0, 1) := by decide +kernel
theorem dX0_passedOverAt_12 : decode cX0_passedOverAt 12 = .ok (.iload_n 1, 1) := by decide +kernel
theorem dX0_passedOverAt_13 : decode cX0_passedOverAt 13 = .ok (.iconst 2, 1) := by decide +kernel
theorem dX0_passedOverAt_14 : decode cX0_passedOverAt 14 = .ok (.iadd, 1) := by decide +kernel
theorem dX0_passedOverAt_15 : decode cX0_passedOverAt 15 = .ok (.invokevirtual 26, 3) := by decide +kernel
theorem dX0_passedOverAt_18 : decode cX0_passedOverAt 18 = .ok (.bipush 8, 2) := by decide +kernel
theorem dX0_passedOverAt_20 : decode cX0_passedOverAt 20 = .ok (.ishl, 1) := by decide +kernel
theorem dX0_passedOverAt_21 : decode cX0_passedOverAt 21 = .ok (.aload_n 0, 1) := by decide +kernel
theorem dX0_passedOverAt_22 : decode cX0_passedOverAt 22 = .ok (.iload_n 1, 1) := by decide +kernel
theorem dX0_passedOverAt_23 : decode cX0_passedOverAt 23 = .ok (.iconst 2, 1) := by decide +kernel
theorem dX0_passedOverAt_24 : decode cX0_passedOverAt 24 = .ok (.iadd, 1) := by decide +kernel
theorem dX0_passedOverAt_25 : decode cX0_passedOverAt 25 = .ok (.iconst 1, 1) := by decide +kernel
theorem dX0_passedOverAt_26 : decode cX0_passedOverAt 26 = .ok (.iadd, 1) := by decide +kernel
theorem dX0_passedOverAt_27 : decode cX0_passedOverAt 27 = .ok (.invokevirtual 26, 3) := by decide +kernel
theorem dX0_passedOverAt_30 : decode cX0_passedOverAt 30 = .ok (.ior, 1) := by decide +kernel
theorem dX0_passedOverAt_31 : decode cX0_passedOverAt 31 = .ok (.ireturn, 1) := by decide +kernel
set_option maxRecDepth 20000 in
theorem ggX0_wholeEnd_X0_isWhole : GoodIn wsX0_wholeEnd wsX0_isWhole := goodIn_r _ [5, 6, 7, 8, 9, 4, 10, 11, 12, 13, 14, 15, 16, 17, 18, 23, 24, 25] (by decide +kernel) (by decide +kernel)
set_option maxRecDepth 20000 in
theorem gX0_wholeEnd_X0_isWhole : GoodIn wsX0_wholeEnd (wsV RX0 33 RX0 yX0_isWhole wsX0_isWhole) := goodIn_app (goodIn_of _ (by decide +kernel)) ggX0_wholeEnd_X0_isWhole
set_option maxRecDepth 20000 in
theorem ggX0_wholeEnd_X0_sizeAt : GoodIn wsX0_wholeEnd wsX0_sizeAt := goodIn_r _ [22, 7, 8, 9, 4, 10, 11, 12, 13, 14, 15, 6, 16, 17, 18, 23, 24, 25] (by decide +kernel) (by decide +kernel)
set_option maxRecDepth 20000 in
theorem gX0_wholeEnd_X0_sizeAt : GoodIn wsX0_wholeEnd (wsV RX0 36 RX0 yX0_sizeAt wsX0_sizeAt) := goodIn_app (goodIn_of _ (by decide +kernel)) ggX0_wholeEnd_X0_sizeAt
theorem dX0_wholeEnd_0 : decode cX0_wholeEnd 0 = .ok (.iconst 0, 1) := by decide +kernel
theorem dX0_wholeEnd_1 : decode cX0_wholeEnd 1 = .ok (.istore_n 1, 1) := by decide +kernel
theorem dX0_wholeEnd_2 : decode cX0_wholeEnd 2 = .ok (.iconst 0, 1) := by decide +kernel
theorem dX0_wholeEnd_3 : decode cX0_wholeEnd 3 = .ok (.istore_n 2, 1) := by decide +kernel
theorem dX0_wholeEnd_4 : decode cX0_wholeEnd 4 = .ok (.iload_n 2, 1) := by decide +kernel
theorem dX0_wholeEnd_5 : decode cX0_wholeEnd 5 = .ok (.bipush 120, 2) := by decide +kernel
theorem dX0_wholeEnd_7 : decode cX0_wholeEnd 7 = .ok (.if_icmp .ge 25, 3) := by decide +kernel
theorem dX0_wholeEnd_10 : decode cX0_wholeEnd 10 = .ok (.aload_n 0, 1) := by decide +kernel
theorem dX0_wholeEnd_11 : decode cX0_wholeEnd 11 = .ok (.iload_n 1, 1) := by decide +kernel
theorem dX0_wholeEnd_12 : decode cX0_wholeEnd 12 = .ok (.invokevirtual 33, 3) := by decide +kernel
theorem dX0_wholeEnd_15 : decode cX0_wholeEnd 15 = .ok (.ifCond .eq 17, 3) := by decide +kernel
theorem dX0_wholeEnd_18 : decode cX0_wholeEnd 18 = .ok (.iload_n 1, 1) := by decide +kernel
theorem dX0_wholeEnd_19 : decode cX0_wholeEnd 19 = .ok (.aload_n 0, 1) := by decide +kernel
theorem dX0_wholeEnd_20 : decode cX0_wholeEnd 20 = .ok (.iload_n 1, 1) := by decide +kernel
theorem dX0_wholeEnd_21 : decode cX0_wholeEnd 21 = .ok (.invokevirtual 36, 3) := by decide +kernel
theorem dX0_wholeEnd_24 : decode cX0_wholeEnd 24 = .ok (.iadd, 1) := by decide +kernel
theorem dX0_wholeEnd_25 : decode cX0_wholeEnd 25 = .ok (.istore_n 1, 1) := by decide +kernel
theorem dX0_wholeEnd_26 : decode cX0_wholeEnd 26 = .ok (.iinc 2 1, 3) := by decide +kernel
theorem dX0_wholeEnd_29 : decode cX0_wholeEnd 29 = .ok (.goto (-25), 3) := by decide +kernel
theorem dX0_wholeEnd_32 : decode cX0_wholeEnd 32 = .ok (.iload_n 1, 1) := by decide +kernel
theorem dX0_wholeEnd_33 : decode cX0_wholeEnd 33 = .ok (.ireturn, 1) := by decide +kernel
set_option maxRecDepth 20000 in
theorem ggX0_nextIndex_X0_isWhole : GoodIn wsX0_nextIndex wsX0_isWhole := goodIn_r _ [5, 6, 7, 8, 9, 4, 10, 11, 12, 13, 14, 15, 16, 17, 18, 27, 28, 29] (by decide +kernel) (by decide +kernel)
set_option maxRecDepth 20000 in
theorem gX0_nextIndex_X0_isWhole : GoodIn wsX0_nextIndex (wsV RX0 33 RX0 yX0_isWhole wsX0_isWhole) := goodIn_app (goodIn_of _ (by decide +kernel)) ggX0_nextIndex_X0_isWhole
set_option maxRecDepth 20000 in
theorem ggX0_nextIndex_X0_passedOverAt : GoodIn wsX0_nextIndex wsX0_passedOverAt := goodIn_r _ [22, 7, 8, 9, 4, 10, 11, 12, 13, 14, 15, 6, 27, 28, 29] (by decide +kernel) (by decide +kernel)
set_option maxRecDepth 20000 in
theorem gX0_nextIndex_X0_passedOverAt : GoodIn wsX0_nextIndex (wsV RX0 39 RX0 yX0_passedOverAt wsX0_passedOverAt) := goodIn_app (goodIn_of _ (by decide +kernel)) ggX0_nextIndex_X0_passedOverAt
set_option maxRecDepth 20000 in
theorem ggX0_nextIndex_X0_sizeAt : GoodIn wsX0_nextIndex wsX0_sizeAt := goodIn_r _ [26, 7, 8, 9, 4, 10, 11, 12, 13, 14, 15, 6, 16, 17, 18, 27, 28, 29] (by decide +kernel) (by decide +kernel)
set_option maxRecDepth 20000 in
theorem gX0_nextIndex_X0_sizeAt : GoodIn wsX0_nextIndex (wsV RX0 36 RX0 yX0_sizeAt wsX0_sizeAt) := goodIn_app (goodIn_of _ (by decide +kernel)) ggX0_nextIndex_X0_sizeAt
theorem dX0_nextIndex_0 : decode cX0_nextIndex 0 = .ok (.iconst 0, 1) := by decide +kernel
theorem dX0_nextIndex_1 : decode cX0_nextIndex 1 = .ok (.istore_n 1, 1) := by decide +kernel
theorem dX0_nextIndex_2 : decode cX0_nextIndex 2 = .ok (.iconst 0, 1) := by decide +kernel
theorem dX0_nextIndex_3 : decode cX0_nextIndex 3 = .ok (.istore_n 2, 1) := by decide +kernel
theorem dX0_nextIndex_4 : decode cX0_nextIndex 4 = .ok (.iconst 0, 1) := by decide +kernel
theorem dX0_nextIndex_5 : decode cX0_nextIndex 5 = .ok (.istore_n 3, 1) := by decide +kernel
theorem dX0_nextIndex_6 : decode cX0_nextIndex 6 = .ok (.iload_n 3, 1) := by decide +kernel
theorem dX0_nextIndex_7 : decode cX0_nextIndex 7 = .ok (.bipush 120, 2) := by decide +kernel
theorem dX0_nextIndex_9 : decode cX0_nextIndex 9 = .ok (.if_icmp .ge 35, 3) := by decide +kernel
theorem dX0_nextIndex_12 : decode cX0_nextIndex 12 = .ok (.aload_n 0, 1) := by decide +kernel
theorem dX0_nextIndex_13 : decode cX0_nextIndex 13 = .ok (.iload_n 2, 1) := by decide +kernel
theorem dX0_nextIndex_14 : decode cX0_nextIndex 14 = .ok (.invokevirtual 33, 3) := by decide +kernel
theorem dX0_nextIndex_17 : decode cX0_nextIndex 17 = .ok (.ifCond .eq 27, 3) := by decide +kernel
theorem dX0_nextIndex_20 : decode cX0_nextIndex 20 = .ok (.iload_n 1, 1) := by decide +kernel
theorem dX0_nextIndex_21 : decode cX0_nextIndex 21 = .ok (.aload_n 0, 1) := by decide +kernel
theorem dX0_nextIndex_22 : decode cX0_nextIndex 22 = .ok (.iload_n 2, 1) := by decide +kernel
theorem dX0_nextIndex_23 : decode cX0_nextIndex 23 = .ok (.invokevirtual 39, 3) := by decide +kernel
theorem dX0_nextIndex_26 : decode cX0_nextIndex 26 = .ok (.iconst 1, 1) := by decide +kernel
theorem dX0_nextIndex_27 : decode cX0_nextIndex 27 = .ok (.iadd, 1) := by decide +kernel
theorem dX0_nextIndex_28 : decode cX0_nextIndex 28 = .ok (.iadd, 1) := by decide +kernel
theorem dX0_nextIndex_29 : decode cX0_nextIndex 29 = .ok (.istore_n 1, 1) := by decide +kernel
theorem dX0_nextIndex_30 : decode cX0_nextIndex 30 = .ok (.iload_n 2, 1) := by decide +kernel
theorem dX0_nextIndex_31 : decode cX0_nextIndex 31 = .ok (.aload_n 0, 1) := by decide +kernel
theorem dX0_nextIndex_32 : decode cX0_nextIndex 32 = .ok (.iload_n 2, 1) := by decide +kernel
theorem dX0_nextIndex_33 : decode cX0_nextIndex 33 = .ok (.invokevirtual 36, 3) := by decide +kernel
theorem dX0_nextIndex_36 : decode cX0_nextIndex 36 = .ok (.iadd, 1) := by decide +kernel
theorem dX0_nextIndex_37 : decode cX0_nextIndex 37 = .ok (.istore_n 2, 1) := by decide +kernel
theorem dX0_nextIndex_38 : decode cX0_nextIndex 38 = .ok (.iinc 3 1, 3) := by decide +kernel
theorem dX0_nextIndex_41 : decode cX0_nextIndex 41 = .ok (.goto (-35), 3) := by decide +kernel
theorem dX0_nextIndex_44 : decode cX0_nextIndex 44 = .ok (.iload_n 1, 1) := by decide +kernel
theorem dX0_nextIndex_45 : decode cX0_nextIndex 45 = .ok (.ireturn, 1) := by decide +kernel
set_option maxRecDepth 20000 in
theorem ggX0_tagBefore_X0_octetAt : GoodIn wsX0_tagBefore wsX0_octetAt := goodIn_r _ [9, 10, 11, 12, 13, 8, 14, 15, 16, 17, 18] (by decide +kernel) (by decide +kernel)
set_option maxRecDepth 20000 in
theorem gX0_tagBefore_X0_octetAt : GoodIn wsX0_tagBefore (wsV RX0 26 RX0 yX0_octetAt wsX0_octetAt) := goodIn_app (goodIn_of _ (by decide +kernel)) ggX0_tagBefore_X0_octetAt
theorem dX0_tagBefore_0 : decode cX0_tagBefore 0 = .ok (.iconst 0, 1) := by decide +kernel
theorem dX0_tagBefore_1 : decode cX0_tagBefore 1 = .ok (.istore_n 3, 1) := by decide +kernel
theorem dX0_tagBefore_2 : decode cX0_tagBefore 2 = .ok (.iload_n 3, 1) := by decide +kernel
theorem dX0_tagBefore_3 : decode cX0_tagBefore 3 = .ok (.bipush 8, 2) := by decide +kernel
theorem dX0_tagBefore_5 : decode cX0_tagBefore 5 = .ok (.if_icmp .ge 32, 3) := by decide +kernel
theorem dX0_tagBefore_8 : decode cX0_tagBefore 8 = .ok (.iload_n 3, 1) := by decide +kernel
theorem dX0_tagBefore_9 : decode cX0_tagBefore 9 = .ok (.aload_n 2, 1) := by decide +kernel
theorem dX0_tagBefore_10 : decode cX0_tagBefore 10 = .ok (.arraylength, 1) := by decide +kernel
theorem dX0_tagBefore_11 : decode cX0_tagBefore 11 = .ok (.if_icmp .ge 26, 3) := by decide +kernel
theorem dX0_tagBefore_14 : decode cX0_tagBefore 14 = .ok (.aload_n 2, 1) := by decide +kernel
theorem dX0_tagBefore_15 : decode cX0_tagBefore 15 = .ok (.iload_n 3, 1) := by decide +kernel
theorem dX0_tagBefore_16 : decode cX0_tagBefore 16 = .ok (.iconst 0, 1) := by decide +kernel
theorem dX0_tagBefore_17 : decode cX0_tagBefore 17 = .ok (.aload_n 0, 1) := by decide +kernel
theorem dX0_tagBefore_18 : decode cX0_tagBefore 18 = .ok (.iload_n 1, 1) := by decide +kernel
theorem dX0_tagBefore_19 : decode cX0_tagBefore 19 = .ok (.bipush 8, 2) := by decide +kernel
theorem dX0_tagBefore_21 : decode cX0_tagBefore 21 = .ok (.isub, 1) := by decide +kernel
theorem dX0_tagBefore_22 : decode cX0_tagBefore 22 = .ok (.iload_n 3, 1) := by decide +kernel
theorem dX0_tagBefore_23 : decode cX0_tagBefore 23 = .ok (.iadd, 1) := by decide +kernel
theorem dX0_tagBefore_24 : decode cX0_tagBefore 24 = .ok (.invokevirtual 26, 3) := by decide +kernel
theorem dX0_tagBefore_27 : decode cX0_tagBefore 27 = .ok (.invokestatic 42, 3) := by decide +kernel
theorem dX0_tagBefore_30 : decode cX0_tagBefore 30 = .ok (.iastore, 1) := by decide +kernel
theorem dX0_tagBefore_31 : decode cX0_tagBefore 31 = .ok (.iinc 3 1, 3) := by decide +kernel
theorem dX0_tagBefore_34 : decode cX0_tagBefore 34 = .ok (.goto (-32), 3) := by decide +kernel
theorem dX0_tagBefore_37 : decode cX0_tagBefore 37 = .ok (.return_, 1) := by decide +kernel
theorem dX1_init_0 : decode cX1_init 0 = .ok (.aload_n 0, 1) := by decide +kernel
theorem dX1_init_1 : decode cX1_init 1 = .ok (.invokespecial 3, 3) := by decide +kernel
theorem dX1_init_4 : decode cX1_init 4 = .ok (.aload_n 0, 1) := by decide +kernel
theorem dX1_init_5 : decode cX1_init 5 = .ok (.sipush 128, 3) := by decide +kernel
theorem dX1_init_8 : decode cX1_init 8 = .ok (.newarray .int, 2) := by decide +kernel
theorem dX1_init_10 : decode cX1_init 10 = .ok (.putfield 9, 3) := by decide +kernel
theorem dX1_init_13 : decode cX1_init 13 = .ok (.aload_n 0, 1) := by decide +kernel
theorem dX1_init_14 : decode cX1_init 14 = .ok (.bipush 64, 2) := by decide +kernel
theorem dX1_init_16 : decode cX1_init 16 = .ok (.newarray .int, 2) := by decide +kernel
theorem dX1_init_18 : decode cX1_init 18 = .ok (.putfield 15, 3) := by decide +kernel
theorem dX1_init_21 : decode cX1_init 21 = .ok (.aload_n 0, 1) := by decide +kernel
theorem dX1_init_22 : decode cX1_init 22 = .ok (.bipush 8, 2) := by decide +kernel
theorem dX1_init_24 : decode cX1_init 24 = .ok (.newarray .int, 2) := by decide +kernel
theorem dX1_init_26 : decode cX1_init 26 = .ok (.putfield 18, 3) := by decide +kernel
theorem dX1_init_29 : decode cX1_init 29 = .ok (.aload_n 0, 1) := by decide +kernel
theorem dX1_init_30 : decode cX1_init 30 = .ok (.iconst 0, 1) := by decide +kernel
theorem dX1_init_31 : decode cX1_init 31 = .ok (.putfield 21, 3) := by decide +kernel
theorem dX1_init_34 : decode cX1_init 34 = .ok (.return_, 1) := by decide +kernel
theorem dX1_clear_0 : decode cX1_clear 0 = .ok (.aload_n 0, 1) := by decide +kernel
theorem dX1_clear_1 : decode cX1_clear 1 = .ok (.iconst 0, 1) := by decide +kernel
theorem dX1_clear_2 : decode cX1_clear 2 = .ok (.putfield 21, 3) := by decide +kernel
theorem dX1_clear_5 : decode cX1_clear 5 = .ok (.return_, 1) := by decide +kernel
theorem dX1_put_0 : decode cX1_put 0 = .ok (.aload_n 0, 1) := by decide +kernel
theorem dX1_put_1 : decode cX1_put 1 = .ok (.getfield 21, 3) := by decide +kernel
theorem dX1_put_4 : decode cX1_put 4 = .ok (.ifCond .lt 39, 3) := by decide +kernel
theorem dX1_put_7 : decode cX1_put 7 = .ok (.aload_n 0, 1) := by decide +kernel
theorem dX1_put_8 : decode cX1_put 8 = .ok (.getfield 21, 3) := by decide +kernel
theorem dX1_put_11 : decode cX1_put 11 = .ok (.aload_n 0, 1) := by decide +kernel
theorem dX1_put_12 : decode cX1_put 12 = .ok (.getfield 9, 3) := by decide +kernel
theorem dX1_put_15 : decode cX1_put 15 = .ok (.arraylength, 1) := by decide +kernel
theorem dX1_put_16 : decode cX1_put 16 = .ok (.if_icmp .ge 27, 3) := by decide +kernel
theorem dX1_put_19 : decode cX1_put 19 = .ok (.aload_n 0, 1) := by decide +kernel
theorem dX1_put_20 : decode cX1_put 20 = .ok (.getfield 9, 3) := by decide +kernel
theorem dX1_put_23 : decode cX1_put 23 = .ok (.aload_n 0, 1) := by decide +kernel
theorem dX1_put_24 : decode cX1_put 24 = .ok (.getfield 21, 3) := by decide +kernel
theorem dX1_put_27 : decode cX1_put 27 = .ok (.iload_n 1, 1) := by decide +kernel
theorem dX1_put_28 : decode cX1_put 28 = .ok (.sipush 255, 3) := by decide +kernel
theorem dX1_put_31 : decode cX1_put 31 = .ok (.iand, 1) := by decide +kernel
theorem dX1_put_32 : decode cX1_put 32 = .ok (.iastore, 1) := by decide +kernel
theorem dX1_put_33 : decode cX1_put 33 = .ok (.aload_n 0, 1) := by decide +kernel
theorem dX1_put_34 : decode cX1_put 34 = .ok (.dup, 1) := by decide +kernel
theorem dX1_put_35 : decode cX1_put 35 = .ok (.getfield 21, 3) := by decide +kernel
theorem dX1_put_38 : decode cX1_put 38 = .ok (.iconst 1, 1) := by decide +kernel
theorem dX1_put_39 : decode cX1_put 39 = .ok (.iadd, 1) := by decide +kernel
theorem dX1_put_40 : decode cX1_put 40 = .ok (.putfield 21, 3) := by decide +kernel
theorem dX1_put_43 : decode cX1_put 43 = .ok (.return_, 1) := by decide +kernel
theorem dX1_hashOctet_0 : decode cX1_hashOctet 0 = .ok (.iload_n 1, 1) := by decide +kernel
theorem dX1_hashOctet_1 : decode cX1_hashOctet 1 = .ok (.ifCond .lt 9, 3) := by decide +kernel
theorem dX1_hashOctet_4 : decode cX1_hashOctet 4 = .ok (.iload_n 1, 1) := by decide +kernel
theorem dX1_hashOctet_5 : decode cX1_hashOctet 5 = .ok (.bipush 32, 2) := by decide +kernel
theorem dX1_hashOctet_7 : decode cX1_hashOctet 7 = .ok (.if_icmp .lt 5, 3) := by decide +kernel
theorem dX1_hashOctet_10 : decode cX1_hashOctet 10 = .ok (.iconst 0, 1) := by decide +kernel
theorem dX1_hashOctet_11 : decode cX1_hashOctet 11 = .ok (.ireturn, 1) := by decide +kernel
theorem dX1_hashOctet_12 : decode cX1_hashOctet 12 = .ok (.aload_n 0, 1) := by decide +kernel
theorem dX1_hashOctet_13 : decode cX1_hashOctet 13 = .ok (.getfield 18, 3) := by decide +kernel
theorem dX1_hashOctet_16 : decode cX1_hashOctet 16 = .ok (.iload_n 1, 1) := by decide +kernel
theorem dX1_hashOctet_17 : decode cX1_hashOctet 17 = .ok (.iconst 2, 1) := by decide +kernel
theorem dX1_hashOctet_18 : decode cX1_hashOctet 18 = .ok (.ishr, 1) := by decide +kernel
theorem dX1_hashOctet_19 : decode cX1_hashOctet 19 = .ok (.iaload, 1) := by decide +kernel
theorem dX1_hashOctet_20 : decode cX1_hashOctet 20 = .ok (.bipush 24, 2) := by decide +kernel
theorem dX1_hashOctet_22 : decode cX1_hashOctet 22 = .ok (.bipush 8, 2) := by decide +kernel
theorem dX1_hashOctet_24 : decode cX1_hashOctet 24 = .ok (.iload_n 1, 1) := by decide +kernel
theorem dX1_hashOctet_25 : decode cX1_hashOctet 25 = .ok (.iconst 3, 1) := by decide +kernel
theorem dX1_hashOctet_26 : decode cX1_hashOctet 26 = .ok (.iand, 1) := by decide +kernel
theorem dX1_hashOctet_27 : decode cX1_hashOctet 27 = .ok (.imul, 1) := by decide +kernel
theorem dX1_hashOctet_28 : decode cX1_hashOctet 28 = .ok (.isub, 1) := by decide +kernel
theorem dX1_hashOctet_29 : decode cX1_hashOctet 29 = .ok (.iushr, 1) := by decide +kernel
theorem dX1_hashOctet_30 : decode cX1_hashOctet 30 = .ok (.sipush 255, 3) := by decide +kernel
theorem dX1_hashOctet_33 : decode cX1_hashOctet 33 = .ok (.iand, 1) := by decide +kernel
theorem dX1_hashOctet_34 : decode cX1_hashOctet 34 = .ok (.ireturn, 1) := by decide +kernel
set_option maxRecDepth 20000 in
theorem ggX1_makeTag_X1_putKey : GoodIn wsX1_makeTag wsX1_putKey := goodIn_r _ [6, 7, 8, 9, 10, 5, 11, 12, 13, 14, 15, 16, 17, 50, 51, 52, 53, 54, 55] (by decide +kernel) (by decide +kernel)
set_option maxRecDepth 20000 in
theorem gX1_makeTag_X1_putKey : GoodIn wsX1_makeTag (wsV RX1 25 RX1 yX1_putKey wsX1_putKey) := goodIn_app (goodIn_of _ (by decide +kernel)) ggX1_makeTag_X1_putKey
set_option maxRecDepth 20000 in
theorem ggX1_makeTag_X1_put : GoodIn wsX1_makeTag wsX1_put := goodIn_r _ [16, 12, 17, 52, 53, 54, 55] (by decide +kernel) (by decide +kernel)
set_option maxRecDepth 20000 in
theorem gX1_makeTag_X1_put : GoodIn wsX1_makeTag (wsV RX1 34 RX1 yX1_put wsX1_put) := goodIn_app (goodIn_of _ (by decide +kernel)) ggX1_makeTag_X1_put
set_option maxRecDepth 20000 in
theorem ggX1_makeTag_X0_octetAt : GoodIn wsX1_makeTag wsX0_octetAt := goodIn_r _ [22, 23, 24, 25, 26, 21, 27, 28, 56, 57, 58] (by decide +kernel) (by decide +kernel)
set_option maxRecDepth 20000 in
theorem gX1_makeTag_X0_octetAt : GoodIn wsX1_makeTag (wsV RX1 38 RX0 yX0_octetAt wsX0_octetAt) := goodIn_app (goodIn_of _ (by decide +kernel)) ggX1_makeTag_X0_octetAt
set_option maxRecDepth 20000 in
theorem ggX1_makeTag_X1_finish : GoodIn wsX1_makeTag wsX1_finish := goodIn_r _ [32, 12, 33, 13, 14, 15, 5, 16, 17, 34, 35, 36, 37, 38, 39, 40, 41, 42, 43, 44, 45, 52, 53, 54, 55] (by decide +kernel) (by decide +kernel)
set_option maxRecDepth 20000 in
theorem gX1_makeTag_X1_finish : GoodIn wsX1_makeTag (wsV RX1 44 RX1 yX1_finish wsX1_finish) := goodIn_app (goodIn_of _ (by decide +kernel)) ggX1_makeTag_X1_finish
set_option maxRecDepth 20000 in
theorem ggX1_makeTag_X1_hashOctet : GoodIn wsX1_makeTag wsX1_hashOctet := goodIn_r _ [49, 33, 52, 53, 54, 55] (by decide +kernel) (by decide +kernel)
set_option maxRecDepth 20000 in
theorem gX1_makeTag_X1_hashOctet : GoodIn wsX1_makeTag (wsV RX1 47 RX1 yX1_hashOctet wsX1_hashOctet) := goodIn_app (goodIn_of _ (by decide +kernel)) ggX1_makeTag_X1_hashOctet
theorem dX1_makeTag_0 : decode cX1_makeTag 0 = .ok (.aload_n 0, 1) := by decide +kernel
theorem dX1_makeTag_1 : decode cX1_makeTag 1 = .ok (.aload_n 1, 1) := by decide +kernel
theorem dX1_makeTag_2 : decode cX1_makeTag 2 = .ok (.bipush 54, 2) := by decide +kernel
theorem dX1_makeTag_4 : decode cX1_makeTag 4 = .ok (.invokevirtual 25, 3) := by decide +kernel
theorem dX1_makeTag_7 : decode cX1_makeTag 7 = .ok (.bipush 24, 2) := by decide +kernel
theorem dX1_makeTag_9 : decode cX1_makeTag 9 = .ok (.istore 5, 2) := by decide +kernel
theorem dX1_makeTag_11 : decode cX1_makeTag 11 = .ok (.iload 5, 2) := by decide +kernel
theorem dX1_makeTag_13 : decode cX1_makeTag 13 = .ok (.ifCond .lt 20, 3) := by decide +kernel
theorem dX1_makeTag_16 : decode cX1_makeTag 16 = .ok (.aload_n 0, 1) := by decide +kernel
theorem dX1_makeTag_17 : decode cX1_makeTag 17 = .ok (.aload_n 1, 1) := by decide +kernel
theorem dX1_makeTag_18 : decode cX1_makeTag 18 = .ok (.getfield 29, 3) := by decide +kernel
theorem dX1_makeTag_21 : decode cX1_makeTag 21 = .ok (.iload 5, 2) := by decide +kernel
theorem dX1_makeTag_23 : decode cX1_makeTag 23 = .ok (.iushr, 1) := by decide +kernel
theorem dX1_makeTag_24 : decode cX1_makeTag 24 = .ok (.invokevirtual 34, 3) := by decide +kernel
theorem dX1_makeTag_27 : decode cX1_makeTag 27 = .ok (.iinc 5 (-8), 3) := by decide +kernel
theorem dX1_makeTag_30 : decode cX1_makeTag 30 = .ok (.goto (-19), 3) := by decide +kernel
theorem dX1_makeTag_33 : decode cX1_makeTag 33 = .ok (.aload_n 2, 1) := by decide +kernel
theorem dX1_makeTag_34 : decode cX1_makeTag 34 = .ok (.iload_n 3, 1) := by decide +kernel
theorem dX1_makeTag_35 : decode cX1_makeTag 35 = .ok (.iconst 1, 1) := by decide +kernel
theorem dX1_makeTag_36 : decode cX1_makeTag 36 = .ok (.iadd, 1) := by decide +kernel
theorem dX1_makeTag_37 : decode cX1_makeTag 37 = .ok (.invokevirtual 38, 3) := by decide +kernel
theorem dX1_makeTag_40 : decode cX1_makeTag 40 = .ok (.istore 5, 2) := by decide +kernel
theorem dX1_makeTag_42 : decode cX1_makeTag 42 = .ok (.iconst 0, 1) := by decide +kernel
theorem dX1_makeTag_43 : decode cX1_makeTag 43 = .ok (.istore 6, 2) := by decide +kernel
theorem dX1_makeTag_45 : decode cX1_makeTag 45 = .ok (.iload 6, 2) := by decide +kernel
theorem dX1_makeTag_47 : decode cX1_makeTag 47 = .ok (.iconst 2, 1) := by decide +kernel
theorem dX1_makeTag_48 : decode cX1_makeTag 48 = .ok (.iload 5, 2) := by decide +kernel
theorem dX1_makeTag_50 : decode cX1_makeTag 50 = .ok (.iadd, 1) := by decide +kernel
theorem dX1_makeTag_51 : decode cX1_makeTag 51 = .ok (.if_icmp .ge 21, 3) := by decide +kernel
theorem dX1_makeTag_54 : decode cX1_makeTag 54 = .ok (.aload_n 0, 1) := by decide +kernel
theorem dX1_makeTag_55 : decode cX1_makeTag 55 = .ok (.aload_n 2, 1) := by decide +kernel
theorem dX1_makeTag_56 : decode cX1_makeTag 56 = .ok (.iload_n 3, 1) := by decide +kernel
theorem dX1_makeTag_57 : decode cX1_makeTag 57 = .ok (.iload 6, 2) := by decide +kernel
theorem dX1_makeTag_59 : decode cX1_makeTag 59 = .ok (.iadd, 1) := by decide +kernel
theorem dX1_makeTag_60 : decode cX1_makeTag 60 = .ok (.invokevirtual 38, 3) := by decide +kernel
theorem dX1_makeTag_63 : decode cX1_makeTag 63 = .ok (.invokevirtual 34, 3) := by decide +kernel
theorem dX1_makeTag_66 : decode cX1_makeTag 66 = .ok (.iinc 6 1, 3) := by decide +kernel
theorem dX1_makeTag_69 : decode cX1_makeTag 69 = .ok (.goto (-24), 3) := by decide +kernel
theorem dX1_makeTag_72 : decode cX1_makeTag 72 = .ok (.iconst 0, 1) := by decide +kernel
theorem dX1_makeTag_73 : decode cX1_makeTag 73 = .ok (.istore 6, 2) := by decide +kernel
theorem dX1_makeTag_75 : decode cX1_makeTag 75 = .ok (.iload 6, 2) := by decide +kernel
theorem dX1_makeTag_77 : decode cX1_makeTag 77 = .ok (.bipush 8, 2) := by decide +kernel
theorem dX1_makeTag_79 : decode cX1_makeTag 79 = .ok (.if_icmp .ge 26, 3) := by decide +kernel
theorem dX1_makeTag_82 : decode cX1_makeTag 82 = .ok (.iload 6, 2) := by decide +kernel
theorem dX1_makeTag_84 : decode cX1_makeTag 84 = .ok (.aload 4, 2) := by decide +kernel
theorem dX1_makeTag_86 : decode cX1_makeTag 86 = .ok (.arraylength, 1) := by decide +kernel
theorem dX1_makeTag_87 : decode cX1_makeTag 87 = .ok (.if_icmp .ge 18, 3) := by decide +kernel
theorem dX1_makeTag_90 : decode cX1_makeTag 90 = .ok (.aload_n 0, 1) := by decide +kernel
theorem dX1_makeTag_91 : decode cX1_makeTag 91 = .ok (.aload 4, 2) := by decide +kernel
theorem dX1_makeTag_93 : decode cX1_makeTag 93 = .ok (.iload 6, 2) := by decide +kernel
theorem dX1_makeTag_95 : decode cX1_makeTag 95 = .ok (.iaload, 1) := by decide +kernel
theorem dX1_makeTag_96 : decode cX1_makeTag 96 = .ok (.invokevirtual 34, 3) := by decide +kernel
theorem dX1_makeTag_99 : decode cX1_makeTag 99 = .ok (.iinc 6 1, 3) := by decide +kernel
theorem dX1_makeTag_102 : decode cX1_makeTag 102 = .ok (.goto (-27), 3) := by decide +kernel
theorem dX1_makeTag_105 : decode cX1_makeTag 105 = .ok (.aload_n 0, 1) := by decide +kernel
theorem dX1_makeTag_106 : decode cX1_makeTag 106 = .ok (.invokevirtual 44, 3) := by decide +kernel
theorem dX1_makeTag_109 : decode cX1_makeTag 109 = .ok (.aload_n 0, 1) := by decide +kernel
theorem dX1_makeTag_110 : decode cX1_makeTag 110 = .ok (.aload_n 1, 1) := by decide +kernel
theorem dX1_makeTag_111 : decode cX1_makeTag 111 = .ok (.bipush 92, 2) := by decide +kernel
theorem dX1_makeTag_113 : decode cX1_makeTag 113 = .ok (.invokevirtual 25, 3) := by decide +kernel
theorem dX1_makeTag_116 : decode cX1_makeTag 116 = .ok (.iconst 0, 1) := by decide +kernel
theorem dX1_makeTag_117 : decode cX1_makeTag 117 = .ok (.istore 6, 2) := by decide +kernel
theorem dX1_makeTag_119 : decode cX1_makeTag 119 = .ok (.iload 6, 2) := by decide +kernel
theorem dX1_makeTag_121 : decode cX1_makeTag 121 = .ok (.bipush 32, 2) := by decide +kernel
theorem dX1_makeTag_123 : decode cX1_makeTag 123 = .ok (.if_icmp .ge 19, 3) := by decide +kernel
theorem dX1_makeTag_126 : decode cX1_makeTag 126 = .ok (.aload_n 0, 1) := by decide +kernel
theorem dX1_makeTag_127 : decode cX1_makeTag 127 = .ok (.aload_n 0, 1) := by decide +kernel
theorem dX1_makeTag_128 : decode cX1_makeTag 128 = .ok (.iload 6, 2) := by decide +kernel
theorem dX1_makeTag_130 : decode cX1_makeTag 130 = .ok (.invokevirtual 47, 3) := by decide +kernel
theorem dX1_makeTag_133 : decode cX1_makeTag 133 = .ok (.invokevirtual 34, 3) := by decide +kernel
theorem dX1_makeTag_136 : decode cX1_makeTag 136 = .ok (.iinc 6 1, 3) := by decide +kernel
theorem dX1_makeTag_139 : decode cX1_makeTag 139 = .ok (.goto (-20), 3) := by decide +kernel
theorem dX1_makeTag_142 : decode cX1_makeTag 142 = .ok (.aload_n 0, 1) := by decide +kernel
theorem dX1_makeTag_143 : decode cX1_makeTag 143 = .ok (.invokevirtual 44, 3) := by decide +kernel
theorem dX1_makeTag_146 : decode cX1_makeTag 146 = .ok (.return_, 1) := by decide +kernel
set_option maxRecDepth 20000 in
theorem ggX1_putKey_X1_clear : GoodIn wsX1_putKey wsX1_clear := goodIn_r _ [6, 7, 15, 16, 17, 18] (by decide +kernel) (by decide +kernel)
set_option maxRecDepth 20000 in
theorem gX1_putKey_X1_clear : GoodIn wsX1_putKey (wsV RX1 50 RX1 yX1_clear wsX1_clear) := goodIn_app (goodIn_of _ (by decide +kernel)) ggX1_putKey_X1_clear
set_option maxRecDepth 20000 in
theorem ggX1_putKey_X1_put : GoodIn wsX1_putKey wsX1_put := goodIn_r _ [11, 7, 12, 15, 16, 17, 18] (by decide +kernel) (by decide +kernel)
set_option maxRecDepth 20000 in
theorem gX1_putKey_X1_put : GoodIn wsX1_putKey (wsV RX1 34 RX1 yX1_put wsX1_put) := goodIn_app (goodIn_of _ (by decide +kernel)) ggX1_putKey_X1_put
theorem dX1_putKey_0 : decode cX1_putKey 0 = .ok (.aload_n 0, 1) := by decide +kernel
theorem dX1_putKey_1 : decode cX1_putKey 1 = .ok (.invokevirtual 50, 3) := by decide +kernel
theorem dX1_putKey_4 : decode cX1_putKey 4 = .ok (.iconst 0, 1) := by decide +kernel
theorem dX1_putKey_5 : decode cX1_putKey 5 = .ok (.istore_n 3, 1) := by decide +kernel
theorem dX1_putKey_6 : decode cX1_putKey 6 = .ok (.iload_n 3, 1) := by decide +kernel
theorem dX1_putKey_7 : decode cX1_putKey 7 = .ok (.bipush 64, 2) := by decide +kernel
theorem dX1_putKey_9 : decode cX1_putKey 9 = .ok (.if_icmp .ge 31, 3) := by decide +kernel
theorem dX1_putKey_12 : decode cX1_putKey 12 = .ok (.aload_n 0, 1) := by decide +kernel
theorem dX1_putKey_13 : decode cX1_putKey 13 = .ok (.iload_n 3, 1) := by decide +kernel
theorem dX1_putKey_14 : decode cX1_putKey 14 = .ok (.bipush 16, 2) := by decide +kernel
theorem dX1_putKey_16 : decode cX1_putKey 16 = .ok (.if_icmp .ge 14, 3) := by decide +kernel
theorem dX1_putKey_19 : decode cX1_putKey 19 = .ok (.aload_n 1, 1) := by decide +kernel
theorem dX1_putKey_20 : decode cX1_putKey 20 = .ok (.getfield 53, 3) := by decide +kernel
theorem dX1_putKey_23 : decode cX1_putKey 23 = .ok (.iload_n 3, 1) := by decide +kernel
theorem dX1_putKey_24 : decode cX1_putKey 24 = .ok (.iaload, 1) := by decide +kernel
theorem dX1_putKey_25 : decode cX1_putKey 25 = .ok (.iload_n 2, 1) := by decide +kernel
theorem dX1_putKey_26 : decode cX1_putKey 26 = .ok (.ixor, 1) := by decide +kernel
theorem dX1_putKey_27 : decode cX1_putKey 27 = .ok (.goto 4, 3) := by decide +kernel
theorem dX1_putKey_30 : decode cX1_putKey 30 = .ok (.iload_n 2, 1) := by decide +kernel
theorem dX1_putKey_31 : decode cX1_putKey 31 = .ok (.invokevirtual 34, 3) := by decide +kernel
theorem dX1_putKey_34 : decode cX1_putKey 34 = .ok (.iinc 3 1, 3) := by decide +kernel
theorem dX1_putKey_37 : decode cX1_putKey 37 = .ok (.goto (-31), 3) := by decide +kernel
theorem dX1_putKey_40 : decode cX1_putKey 40 = .ok (.return_, 1) := by decide +kernel
set_option maxRecDepth 20000 in
theorem ggX1_finish_X1_put : GoodIn wsX1_finish wsX1_put := goodIn_r _ [7, 1, 8, 21, 22, 23, 24] (by decide +kernel) (by decide +kernel)
set_option maxRecDepth 20000 in
theorem gX1_finish_X1_put : GoodIn wsX1_finish (wsV RX1 34 RX1 yX1_put wsX1_put) := goodIn_app (goodIn_of _ (by decide +kernel)) ggX1_finish_X1_put
set_option maxRecDepth 20000 in
theorem ggX1_finish_X1_expand : GoodIn wsX1_finish wsX1_expand := goodIn_r _ [12, 13, 8, 14, 15, 6, 16, 21, 22, 23, 24] (by decide +kernel) (by decide +kernel)
set_option maxRecDepth 20000 in
theorem gX1_finish_X1_expand : GoodIn wsX1_finish (wsV RX1 59 RX1 yX1_expand wsX1_expand) := goodIn_app (goodIn_of _ (by decide +kernel)) ggX1_finish_X1_expand
set_option maxRecDepth 20000 in
theorem ggX1_finish_X1_compress : GoodIn wsX1_finish wsX1_compress := goodIn_r _ [20, 2, 13, 14, 15, 6, 16, 21, 22, 23, 24] (by decide +kernel) (by decide +kernel)
set_option maxRecDepth 20000 in
theorem gX1_finish_X1_compress : GoodIn wsX1_finish (wsV RX1 62 RX1 yX1_compress wsX1_compress) := goodIn_app (goodIn_of _ (by decide +kernel)) ggX1_finish_X1_compress
theorem dX1_finish_0 : decode cX1_finish 0 = .ok (.aload_n 0, 1) := by decide +kernel
theorem dX1_finish_1 : decode cX1_finish 1 = .ok (.getfield 21, 3) := by decide +kernel
theorem dX1_finish_4 : decode cX1_finish 4 = .ok (.bipush 8, 2) := by decide +kernel
theorem dX1_finish_6 : decode cX1_finish 6 = .ok (.imul, 1) := by decide +kernel
theorem dX1_finish_7 : decode cX1_finish 7 = .ok (.istore_n 1, 1) := by decide +kernel
theorem dX1_finish_8 : decode cX1_finish 8 = .ok (.aload_n 0, 1) := by decide +kernel
theorem dX1_finish_9 : decode cX1_finish 9 = .ok (.sipush 128, 3) := by decide +kernel
theorem dX1_finish_12 : decode cX1_finish 12 = .ok (.invokevirtual 34, 3) := by decide +kernel
theorem dX1_finish_15 : decode cX1_finish 15 = .ok (.aload_n 0, 1) := by decide +kernel
theorem dX1_finish_16 : decode cX1_finish 16 = .ok (.getfield 21, 3) := by decide +kernel
theorem dX1_finish_19 : decode cX1_finish 19 = .ok (.bipush 8, 2) := by decide +kernel
theorem dX1_finish_21 : decode cX1_finish 21 = .ok (.iadd, 1) := by decide +kernel
theorem dX1_finish_22 : decode cX1_finish 22 = .ok (.bipush 64, 2) := by decide +kernel
theorem dX1_finish_24 : decode cX1_finish 24 = .ok (.if_icmp .gt 8, 3) := by decide +kernel
theorem dX1_finish_27 : decode cX1_finish 27 = .ok (.bipush 64, 2) := by decide +kernel
theorem dX1_finish_29 : decode cX1_finish 29 = .ok (.goto 6, 3) := by decide +kernel
theorem dX1_finish_32 : decode cX1_finish 32 = .ok (.sipush 128, 3) := by decide +kernel
theorem dX1_finish_35 : decode cX1_finish 35 = .ok (.istore_n 2, 1) := by decide +kernel
theorem dX1_finish_36 : decode cX1_finish 36 = .ok (.aload_n 0, 1) := by decide +kernel
theorem dX1_finish_37 : decode cX1_finish 37 = .ok (.getfield 21, 3) := by decide +kernel
theorem dX1_finish_40 : decode cX1_finish 40 = .ok (.istore_n 3, 1) := by decide +kernel
theorem dX1_finish_41 : decode cX1_finish 41 = .ok (.iload_n 3, 1) := by decide +kernel
theorem dX1_finish_42 : decode cX1_finish 42 = .ok (.iload_n 2, 1) := by decide +kernel
theorem dX1_finish_43 : decode cX1_finish 43 = .ok (.iconst 4, 1) := by decide +kernel
theorem dX1_finish_44 : decode cX1_finish 44 = .ok (.isub, 1) := by decide +kernel
theorem dX1_finish_45 : decode cX1_finish 45 = .ok (.if_icmp .ge 14, 3) := by decide +kernel
theorem dX1_finish_48 : decode cX1_finish 48 = .ok (.aload_n 0, 1) := by decide +kernel
theorem dX1_finish_49 : decode cX1_finish 49 = .ok (.iconst 0, 1) := by decide +kernel
theorem dX1_finish_50 : decode cX1_finish 50 = .ok (.invokevirtual 34, 3) := by decide +kernel
theorem dX1_finish_53 : decode cX1_finish 53 = .ok (.iinc 3 1, 3) := by decide +kernel
theorem dX1_finish_56 : decode cX1_finish 56 = .ok (.goto (-15), 3) := by decide +kernel
theorem dX1_finish_59 : decode cX1_finish 59 = .ok (.bipush 24, 2) := by decide +kernel
theorem dX1_finish_61 : decode cX1_finish 61 = .ok (.istore_n 3, 1) := by decide +kernel
theorem dX1_finish_62 : decode cX1_finish 62 = .ok (.iload_n 3, 1) := by decide +kernel
theorem dX1_finish_63 : decode cX1_finish 63 = .ok (.ifCond .lt 16, 3) := by decide +kernel
theorem dX1_finish_66 : decode cX1_finish 66 = .ok (.aload_n 0, 1) := by decide +kernel
theorem dX1_finish_67 : decode cX1_finish 67 = .ok (.iload_n 1, 1) := by decide +kernel
theorem dX1_finish_68 : decode cX1_finish 68 = .ok (.iload_n 3, 1) := by decide +kernel
theorem dX1_finish_69 : decode cX1_finish 69 = .ok (.iushr, 1) := by decide +kernel
theorem dX1_finish_70 : decode cX1_finish 70 = .ok (.invokevirtual 34, 3) := by decide +kernel
theorem dX1_finish_73 : decode cX1_finish 73 = .ok (.iinc 3 (-8), 3) := by decide +kernel
theorem dX1_finish_76 : decode cX1_finish 76 = .ok (.goto (-14), 3) := by decide +kernel
theorem dX1_finish_79 : decode cX1_finish 79 = .ok (.iconst 0, 1) := by decide +kernel
theorem dX1_finish_80 : decode cX1_finish 80 = .ok (.istore_n 3, 1) := by decide +kernel
theorem dX1_finish_81 : decode cX1_finish 81 = .ok (.iload_n 3, 1) := by decide +kernel
theorem dX1_finish_82 : decode cX1_finish 82 = .ok (.bipush 8, 2) := by decide +kernel
theorem dX1_finish_84 : decode cX1_finish 84 = .ok (.if_icmp .ge 20, 3) := by decide +kernel
theorem dX1_finish_87 : decode cX1_finish 87 = .ok (.aload_n 0, 1) := by decide +kernel
theorem dX1_finish_88 : decode cX1_finish 88 = .ok (.getfield 18, 3) := by decide +kernel
theorem dX1_finish_91 : decode cX1_finish 91 = .ok (.iload_n 3, 1) := by decide +kernel
theorem dX1_finish_92 : decode cX1_finish 92 = .ok (.getstatic 56, 3) := by decide +kernel
theorem dX1_finish_95 : decode cX1_finish 95 = .ok (.iload_n 3, 1) := by decide +kernel
theorem dX1_finish_96 : decode cX1_finish 96 = .ok (.iaload, 1) := by decide +kernel
theorem dX1_finish_97 : decode cX1_finish 97 = .ok (.iastore, 1) := by decide +kernel
theorem dX1_finish_98 : decode cX1_finish 98 = .ok (.iinc 3 1, 3) := by decide +kernel
theorem dX1_finish_101 : decode cX1_finish 101 = .ok (.goto (-20), 3) := by decide +kernel
theorem dX1_finish_104 : decode cX1_finish 104 = .ok (.iconst 0, 1) := by decide +kernel
theorem dX1_finish_105 : decode cX1_finish 105 = .ok (.istore_n 3, 1) := by decide +kernel
theorem dX1_finish_106 : decode cX1_finish 106 = .ok (.iload_n 3, 1) := by decide +kernel
theorem dX1_finish_107 : decode cX1_finish 107 = .ok (.bipush 64, 2) := by decide +kernel
theorem dX1_finish_109 : decode cX1_finish 109 = .ok (.iadd, 1) := by decide +kernel
theorem dX1_finish_110 : decode cX1_finish 110 = .ok (.iload_n 2, 1) := by decide +kernel
theorem dX1_finish_111 : decode cX1_finish 111 = .ok (.if_icmp .gt 18, 3) := by decide +kernel
theorem dX1_finish_114 : decode cX1_finish 114 = .ok (.aload_n 0, 1) := by decide +kernel
theorem dX1_finish_115 : decode cX1_finish 115 = .ok (.iload_n 3, 1) := by decide +kernel
theorem dX1_finish_116 : decode cX1_finish 116 = .ok (.invokevirtual 59, 3) := by decide +kernel
theorem dX1_finish_119 : decode cX1_finish 119 = .ok (.aload_n 0, 1) := by decide +kernel
theorem dX1_finish_120 : decode cX1_finish 120 = .ok (.invokevirtual 62, 3) := by decide +kernel
theorem dX1_finish_123 : decode cX1_finish 123 = .ok (.iinc 3 64, 3) := by decide +kernel
theorem dX1_finish_126 : decode cX1_finish 126 = .ok (.goto (-20), 3) := by decide +kernel
theorem dX1_finish_129 : decode cX1_finish 129 = .ok (.return_, 1) := by decide +kernel
set_option maxRecDepth 20000 in
theorem ggX1_compress_X1_turned : GoodIn wsX1_compress wsX1_turned := goodIn_r _ [6] (by decide +kernel) (by decide +kernel)
set_option maxRecDepth 20000 in
theorem gX1_compress_X1_turned : GoodIn wsX1_compress (va_wsS RX1 65 yX1_turned wsX1_turned) := goodIn_app (goodIn_of _ (by decide +kernel)) ggX1_compress_X1_turned
theorem dX1_compress_0 : decode cX1_compress 0 = .ok (.aload_n 0, 1) := by decide +kernel
theorem dX1_compress_1 : decode cX1_compress 1 = .ok (.getfield 18, 3) := by decide +kernel
theorem dX1_compress_4 : decode cX1_compress 4 = .ok (.iconst 0, 1) := by decide +kernel
theorem dX1_compress_5 : decode cX1_compress 5 = .ok (.iaload, 1) := by decide +kernel
theorem dX1_compress_6 : decode cX1_compress 6 = .ok (.istore_n 1, 1) := by decide +kernel
theorem dX1_compress_7 : decode cX1_compress 7 = .ok (.aload_n 0, 1) := by decide +kernel
theorem dX1_compress_8 : decode cX1_compress 8 = .ok (.getfield 18, 3) := by decide +kernel
theorem dX1_compress_11 : decode cX1_compress 11 = .ok (.iconst 1, 1) := by decide +kernel
theorem dX1_compress_12 : decode cX1_compress 12 = .ok (.iaload, 1) := by decide +kernel
theorem dX1_compress_13 : decode cX1_compress 13 = .ok (.istore_n 2, 1) := by decide +kernel
theorem dX1_compress_14 : decode cX1_compress 14 = .ok (.aload_n 0, 1) := by decide +kernel
theorem dX1_compress_15 : decode cX1_compress 15 = .ok (.getfield 18, 3) := by decide +kernel
theorem dX1_compress_18 : decode cX1_compress 18 = .ok (.iconst 2, 1) := by decide +kernel
theorem dX1_compress_19 : decode cX1_compress 19 = .ok (.iaload, 1) := by decide +kernel
theorem dX1_compress_20 : decode cX1_compress 20 = .ok (.istore_n 3, 1) := by decide +kernel
theorem dX1_compress_21 : decode cX1_compress 21 = .ok (.aload_n 0, 1) := by decide +kernel
theorem dX1_compress_22 : decode cX1_compress 22 = .ok (.getfield 18, 3) := by decide +kernel
theorem dX1_compress_25 : decode cX1_compress 25 = .ok (.iconst 3, 1) := by decide +kernel
theorem dX1_compress_26 : decode cX1_compress 26 = .ok (.iaload, 1) := by decide +kernel
theorem dX1_compress_27 : decode cX1_compress 27 = .ok (.istore 4, 2) := by decide +kernel
theorem dX1_compress_29 : decode cX1_compress 29 = .ok (.aload_n 0, 1) := by decide +kernel
theorem dX1_compress_30 : decode cX1_compress 30 = .ok (.getfield 18, 3) := by decide +kernel
theorem dX1_compress_33 : decode cX1_compress 33 = .ok (.iconst 4, 1) := by decide +kernel
theorem dX1_compress_34 : decode cX1_compress 34 = .ok (.iaload, 1) := by decide +kernel
theorem dX1_compress_35 : decode cX1_compress 35 = .ok (.istore 5, 2) := by decide +kernel
theorem dX1_compress_37 : decode cX1_compress 37 = .ok (.aload_n 0, 1) := by decide +kernel
theorem dX1_compress_38 : decode cX1_compress 38 = .ok (.getfield 18, 3) := by decide +kernel
theorem dX1_compress_41 : decode cX1_compress 41 = .ok (.iconst 5, 1) := by decide +kernel
theorem dX1_compress_42 : decode cX1_compress 42 = .ok (.iaload, 1) := by decide +kernel
theorem dX1_compress_43 : decode cX1_compress 43 = .ok (.istore 6, 2) := by decide +kernel
theorem dX1_compress_45 : decode cX1_compress 45 = .ok (.aload_n 0, 1) := by decide +kernel
theorem dX1_compress_46 : decode cX1_compress 46 = .ok (.getfield 18, 3) := by decide +kernel
theorem dX1_compress_49 : decode cX1_compress 49 = .ok (.bipush 6, 2) := by decide +kernel
theorem dX1_compress_51 : decode cX1_compress 51 = .ok (.iaload, 1) := by decide +kernel
theorem dX1_compress_52 : decode cX1_compress 52 = .ok (.istore 7, 2) := by decide +kernel
theorem dX1_compress_54 : decode cX1_compress 54 = .ok (.aload_n 0, 1) := by decide +kernel
theorem dX1_compress_55 : decode cX1_compress 55 = .ok (.getfield 18, 3) := by decide +kernel
theorem dX1_compress_58 : decode cX1_compress 58 = .ok (.bipush 7, 2) := by decide +kernel
theorem dX1_compress_60 : decode cX1_compress 60 = .ok (.iaload, 1) := by decide +kernel
theorem dX1_compress_61 : decode cX1_compress 61 = .ok (.istore 8, 2) := by decide +kernel
theorem dX1_compress_63 : decode cX1_compress 63 = .ok (.iconst 0, 1) := by decide +kernel
theorem dX1_compress_64 : decode cX1_compress 64 = .ok (.istore 9, 2) := by decide +kernel
theorem dX1_compress_66 : decode cX1_compress 66 = .ok (.iload 9, 2) := by decide +kernel
theorem dX1_compress_68 : decode cX1_compress 68 = .ok (.bipush 64, 2) := by decide +kernel
theorem dX1_compress_70 : decode cX1_compress 70 = .ok (.if_icmp .ge 139, 3) := by decide +kernel
theorem dX1_compress_73 : decode cX1_compress 73 = .ok (.iload 5, 2) := by decide +kernel
theorem dX1_compress_75 : decode cX1_compress 75 = .ok (.bipush 6, 2) := by decide +kernel
theorem dX1_compress_77 : decode cX1_compress 77 = .ok (.invokestatic 65, 3) := by decide +kernel
theorem dX1_compress_80 : decode cX1_compress 80 = .ok (.iload 5, 2) := by decide +kernel
theorem dX1_compress_82 : decode cX1_compress 82 = .ok (.bipush 11, 2) := by decide +kernel
theorem dX1_compress_84 : decode cX1_compress 84 = .ok (.invokestatic 65, 3) := by decide +kernel
theorem dX1_compress_87 : decode cX1_compress 87 = .ok (.ixor, 1) := by decide +kernel
theorem dX1_compress_88 : decode cX1_compress 88 = .ok (.iload 5, 2) := by decide +kernel
theorem dX1_compress_90 : decode cX1_compress 90 = .ok (.bipush 25, 2) := by decide +kernel
theorem dX1_compress_92 : decode cX1_compress 92 = .ok (.invokestatic 65, 3) := by decide +kernel
theorem dX1_compress_95 : decode cX1_compress 95 = .ok (.ixor, 1) := by decide +kernel
theorem dX1_compress_96 : decode cX1_compress 96 = .ok (.istore 10, 2) := by decide +kernel
theorem dX1_compress_98 : decode cX1_compress 98 = .ok (.iload 8, 2) := by decide +kernel
theorem dX1_compress_100 : decode cX1_compress 100 = .ok (.iload 10, 2) := by decide +kernel
theorem dX1_compress_102 : decode cX1_compress 102 = .ok (.iadd, 1) := by decide +kernel
theorem dX1_compress_103 : decode cX1_compress 103 = .ok (.iload 5, 2) := by decide +kernel
theorem dX1_compress_105 : decode cX1_compress 105 = .ok (.iload 6, 2) := by decide +kernel
theorem dX1_compress_107 : decode cX1_compress 107 = .ok (.iand, 1) := by decide +kernel
theorem dX1_compress_108 : decode cX1_compress 108 = .ok (.iload 5, 2) := by decide +kernel
theorem dX1_compress_110 : decode cX1_compress 110 = .ok (.iconst (-1), 1) := by decide +kernel
theorem dX1_compress_111 : decode cX1_compress 111 = .ok (.ixor, 1) := by decide +kernel
theorem dX1_compress_112 : decode cX1_compress 112 = .ok (.iload 7, 2) := by decide +kernel
theorem dX1_compress_114 : decode cX1_compress 114 = .ok (.iand, 1) := by decide +kernel
theorem dX1_compress_115 : decode cX1_compress 115 = .ok (.ixor, 1) := by decide +kernel
theorem dX1_compress_116 : decode cX1_compress 116 = .ok (.iadd, 1) := by decide +kernel
theorem dX1_compress_117 : decode cX1_compress 117 = .ok (.getstatic 69, 3) := by decide +kernel
theorem dX1_compress_120 : decode cX1_compress 120 = .ok (.iload 9, 2) := by decide +kernel
theorem dX1_compress_122 : decode cX1_compress 122 = .ok (.iaload, 1) := by decide +kernel
theorem dX1_compress_123 : decode cX1_compress 123 = .ok (.iadd, 1) := by decide +kernel
theorem dX1_compress_124 : decode cX1_compress 124 = .ok (.aload_n 0, 1) := by decide +kernel
theorem dX1_compress_125 : decode cX1_compress 125 = .ok (.getfield 15, 3) := by decide +kernel
theorem dX1_compress_128 : decode cX1_compress 128 = .ok (.iload 9, 2) := by decide +kernel
theorem dX1_compress_130 : decode cX1_compress 130 = .ok (.iaload, 1) := by decide +kernel
theorem dX1_compress_131 : decode cX1_compress 131 = .ok (.iadd, 1) := by decide +kernel
theorem dX1_compress_132 : decode cX1_compress 132 = .ok (.istore 11, 2) := by decide +kernel
theorem dX1_compress_134 : decode cX1_compress 134 = .ok (.iload_n 1, 1) := by decide +kernel
theorem dX1_compress_135 : decode cX1_compress 135 = .ok (.iconst 2, 1) := by decide +kernel
theorem dX1_compress_136 : decode cX1_compress 136 = .ok (.invokestatic 65, 3) := by decide +kernel
theorem dX1_compress_139 : decode cX1_compress 139 = .ok (.iload_n 1, 1) := by decide +kernel
theorem dX1_compress_140 : decode cX1_compress 140 = .ok (.bipush 13, 2) := by decide +kernel
theorem dX1_compress_142 : decode cX1_compress 142 = .ok (.invokestatic 65, 3) := by decide +kernel
theorem dX1_compress_145 : decode cX1_compress 145 = .ok (.ixor, 1) := by decide +kernel
theorem dX1_compress_146 : decode cX1_compress 146 = .ok (.iload_n 1, 1) := by decide +kernel
theorem dX1_compress_147 : decode cX1_compress 147 = .ok (.bipush 22, 2) := by decide +kernel
theorem dX1_compress_149 : decode cX1_compress 149 = .ok (.invokestatic 65, 3) := by decide +kernel
theorem dX1_compress_152 : decode cX1_compress 152 = .ok (.ixor, 1) := by decide +kernel
theorem dX1_compress_153 : decode cX1_compress 153 = .ok (.istore 12, 2) := by decide +kernel
theorem dX1_compress_155 : decode cX1_compress 155 = .ok (.iload 12, 2) := by decide +kernel
theorem dX1_compress_157 : decode cX1_compress 157 = .ok (.iload_n 1, 1) := by decide +kernel
theorem dX1_compress_158 : decode cX1_compress 158 = .ok (.iload_n 2, 1) := by decide +kernel
theorem dX1_compress_159 : decode cX1_compress 159 = .ok (.iand, 1) := by decide +kernel
theorem dX1_compress_160 : decode cX1_compress 160 = .ok (.iload_n 1, 1) := by decide +kernel
theorem dX1_compress_161 : decode cX1_compress 161 = .ok (.iload_n 3, 1) := by decide +kernel
theorem dX1_compress_162 : decode cX1_compress 162 = .ok (.iand, 1) := by decide +kernel
theorem dX1_compress_163 : decode cX1_compress 163 = .ok (.ixor, 1) := by decide +kernel
theorem dX1_compress_164 : decode cX1_compress 164 = .ok (.iload_n 2, 1) := by decide +kernel
theorem dX1_compress_165 : decode cX1_compress 165 = .ok (.iload_n 3, 1) := by decide +kernel
theorem dX1_compress_166 : decode cX1_compress 166 = .ok (.iand, 1) := by decide +kernel
theorem dX1_compress_167 : decode cX1_compress 167 = .ok (.ixor, 1) := by decide +kernel
theorem dX1_compress_168 : decode cX1_compress 168 = .ok (.iadd, 1) := by decide +kernel
theorem dX1_compress_169 : decode cX1_compress 169 = .ok (.istore 13, 2) := by decide +kernel
theorem dX1_compress_171 : decode cX1_compress 171 = .ok (.iload 7, 2) := by decide +kernel
theorem dX1_compress_173 : decode cX1_compress 173 = .ok (.istore 8, 2) := by decide +kernel
theorem dX1_compress_175 : decode cX1_compress 175 = .ok (.iload 6, 2) := by decide +kernel
theorem dX1_compress_177 : decode cX1_compress 177 = .ok (.istore 7, 2) := by decide +kernel
theorem dX1_compress_179 : decode cX1_compress 179 = .ok (.iload 5, 2) := by decide +kernel
theorem dX1_compress_181 : decode cX1_compress 181 = .ok (.istore 6, 2) := by decide +kernel
theorem dX1_compress_183 : decode cX1_compress 183 = .ok (.iload 4, 2) := by decide +kernel
theorem dX1_compress_185 : decode cX1_compress 185 = .ok (.iload 11, 2) := by decide +kernel
theorem dX1_compress_187 : decode cX1_compress 187 = .ok (.iadd, 1) := by decide +kernel
theorem dX1_compress_188 : decode cX1_compress 188 = .ok (.istore 5, 2) := by decide +kernel
theorem dX1_compress_190 : decode cX1_compress 190 = .ok (.iload_n 3, 1) := by decide +kernel
theorem dX1_compress_191 : decode cX1_compress 191 = .ok (.istore 4, 2) := by decide +kernel
theorem dX1_compress_193 : decode cX1_compress 193 = .ok (.iload_n 2, 1) := by decide +kernel
theorem dX1_compress_194 : decode cX1_compress 194 = .ok (.istore_n 3, 1) := by decide +kernel
theorem dX1_compress_195 : decode cX1_compress 195 = .ok (.iload_n 1, 1) := by decide +kernel
theorem dX1_compress_196 : decode cX1_compress 196 = .ok (.istore_n 2, 1) := by decide +kernel
theorem dX1_compress_197 : decode cX1_compress 197 = .ok (.iload 11, 2) := by decide +kernel
theorem dX1_compress_199 : decode cX1_compress 199 = .ok (.iload 13, 2) := by decide +kernel
theorem dX1_compress_201 : decode cX1_compress 201 = .ok (.iadd, 1) := by decide +kernel
theorem dX1_compress_202 : decode cX1_compress 202 = .ok (.istore_n 1, 1) := by decide +kernel
theorem dX1_compress_203 : decode cX1_compress 203 = .ok (.iinc 9 1, 3) := by decide +kernel
theorem dX1_compress_206 : decode cX1_compress 206 = .ok (.goto (-140), 3) := by decide +kernel
theorem dX1_compress_209 : decode cX1_compress 209 = .ok (.aload_n 0, 1) := by decide +kernel
theorem dX1_compress_210 : decode cX1_compress 210 = .ok (.getfield 18, 3) := by decide +kernel
theorem dX1_compress_213 : decode cX1_compress 213 = .ok (.iconst 0, 1) := by decide +kernel
theorem dX1_compress_214 : decode cX1_compress 214 = .ok (.dup2, 1) := by decide +kernel
theorem dX1_compress_215 : decode cX1_compress 215 = .ok (.iaload, 1) := by decide +kernel
theorem dX1_compress_216 : decode cX1_compress 216 = .ok (.iload_n 1, 1) := by decide +kernel
theorem dX1_compress_217 : decode cX1_compress 217 = .ok (.iadd, 1) := by decide +kernel
theorem dX1_compress_218 : decode cX1_compress 218 = .ok (.iastore, 1) := by decide +kernel
theorem dX1_compress_219 : decode cX1_compress 219 = .ok (.aload_n 0, 1) := by decide +kernel
theorem dX1_compress_220 : decode cX1_compress 220 = .ok (.getfield 18, 3) := by decide +kernel
theorem dX1_compress_223 : decode cX1_compress 223 = .ok (.iconst 1, 1) := by decide +kernel
theorem dX1_compress_224 : decode cX1_compress 224 = .ok (.dup2, 1) := by decide +kernel
theorem dX1_compress_225 : decode cX1_compress 225 = .ok (.iaload, 1) := by decide +kernel
theorem dX1_compress_226 : decode cX1_compress 226 = .ok (.iload_n 2, 1) := by decide +kernel
theorem dX1_compress_227 : decode cX1_compress 227 = .ok (.iadd, 1) := by decide +kernel
theorem dX1_compress_228 : decode cX1_compress 228 = .ok (.iastore, 1) := by decide +kernel
theorem dX1_compress_229 : decode cX1_compress 229 = .ok (.aload_n 0, 1) := by decide +kernel
theorem dX1_compress_230 : decode cX1_compress 230 = .ok (.getfield 18, 3) := by decide +kernel
theorem dX1_compress_233 : decode cX1_compress 233 = .ok (.iconst 2, 1) := by decide +kernel
theorem dX1_compress_234 : decode cX1_compress 234 = .ok (.dup2, 1) := by decide +kernel
theorem dX1_compress_235 : decode cX1_compress 235 = .ok (.iaload, 1) := by decide +kernel
theorem dX1_compress_236 : decode cX1_compress 236 = .ok (.iload_n 3, 1) := by decide +kernel
theorem dX1_compress_237 : decode cX1_compress 237 = .ok (.iadd, 1) := by decide +kernel
theorem dX1_compress_238 : decode cX1_compress 238 = .ok (.iastore, 1) := by decide +kernel
theorem dX1_compress_239 : decode cX1_compress 239 = .ok (.aload_n 0, 1) := by decide +kernel
theorem dX1_compress_240 : decode cX1_compress 240 = .ok (.getfield 18, 3) := by decide +kernel
theorem dX1_compress_243 : decode cX1_compress 243 = .ok (.iconst 3, 1) := by decide +kernel
theorem dX1_compress_244 : decode cX1_compress 244 = .ok (.dup2, 1) := by decide +kernel
theorem dX1_compress_245 : decode cX1_compress 245 = .ok (.iaload, 1) := by decide +kernel
theorem dX1_compress_246 : decode cX1_compress 246 = .ok (.iload 4, 2) := by decide +kernel
theorem dX1_compress_248 : decode cX1_compress 248 = .ok (.iadd, 1) := by decide +kernel
theorem dX1_compress_249 : decode cX1_compress 249 = .ok (.iastore, 1) := by decide +kernel
theorem dX1_compress_250 : decode cX1_compress 250 = .ok (.aload_n 0, 1) := by decide +kernel
theorem dX1_compress_251 : decode cX1_compress 251 = .ok (.getfield 18, 3) := by decide +kernel
theorem dX1_compress_254 : decode cX1_compress 254 = .ok (.iconst 4, 1) := by decide +kernel
theorem dX1_compress_255 : decode cX1_compress 255 = .ok (.dup2, 1) := by decide +kernel
theorem dX1_compress_256 : decode cX1_compress 256 = .ok (.iaload, 1) := by decide +kernel
theorem dX1_compress_257 : decode cX1_compress 257 = .ok (.iload 5, 2) := by decide +kernel
theorem dX1_compress_259 : decode cX1_compress 259 = .ok (.iadd, 1) := by decide +kernel
theorem dX1_compress_260 : decode cX1_compress 260 = .ok (.iastore, 1) := by decide +kernel
theorem dX1_compress_261 : decode cX1_compress 261 = .ok (.aload_n 0, 1) := by decide +kernel
theorem dX1_compress_262 : decode cX1_compress 262 = .ok (.getfield 18, 3) := by decide +kernel
theorem dX1_compress_265 : decode cX1_compress 265 = .ok (.iconst 5, 1) := by decide +kernel
theorem dX1_compress_266 : decode cX1_compress 266 = .ok (.dup2, 1) := by decide +kernel
theorem dX1_compress_267 : decode cX1_compress 267 = .ok (.iaload, 1) := by decide +kernel
theorem dX1_compress_268 : decode cX1_compress 268 = .ok (.iload 6, 2) := by decide +kernel
theorem dX1_compress_270 : decode cX1_compress 270 = .ok (.iadd, 1) := by decide +kernel
theorem dX1_compress_271 : decode cX1_compress 271 = .ok (.iastore, 1) := by decide +kernel
theorem dX1_compress_272 : decode cX1_compress 272 = .ok (.aload_n 0, 1) := by decide +kernel
theorem dX1_compress_273 : decode cX1_compress 273 = .ok (.getfield 18, 3) := by decide +kernel
theorem dX1_compress_276 : decode cX1_compress 276 = .ok (.bipush 6, 2) := by decide +kernel
theorem dX1_compress_278 : decode cX1_compress 278 = .ok (.dup2, 1) := by decide +kernel
theorem dX1_compress_279 : decode cX1_compress 279 = .ok (.iaload, 1) := by decide +kernel
theorem dX1_compress_280 : decode cX1_compress 280 = .ok (.iload 7, 2) := by decide +kernel
theorem dX1_compress_282 : decode cX1_compress 282 = .ok (.iadd, 1) := by decide +kernel
theorem dX1_compress_283 : decode cX1_compress 283 = .ok (.iastore, 1) := by decide +kernel
theorem dX1_compress_284 : decode cX1_compress 284 = .ok (.aload_n 0, 1) := by decide +kernel
theorem dX1_compress_285 : decode cX1_compress 285 = .ok (.getfield 18, 3) := by decide +kernel
theorem dX1_compress_288 : decode cX1_compress 288 = .ok (.bipush 7, 2) := by decide +kernel
theorem dX1_compress_290 : decode cX1_compress 290 = .ok (.dup2, 1) := by decide +kernel
theorem dX1_compress_291 : decode cX1_compress 291 = .ok (.iaload, 1) := by decide +kernel
theorem dX1_compress_292 : decode cX1_compress 292 = .ok (.iload 8, 2) := by decide +kernel
theorem dX1_compress_294 : decode cX1_compress 294 = .ok (.iadd, 1) := by decide +kernel
theorem dX1_compress_295 : decode cX1_compress 295 = .ok (.iastore, 1) := by decide +kernel
theorem dX1_compress_296 : decode cX1_compress 296 = .ok (.return_, 1) := by decide +kernel
set_option maxRecDepth 20000 in
theorem ggX1_expand_X1_turned : GoodIn wsX1_expand wsX1_turned := goodIn_r _ [6] (by decide +kernel) (by decide +kernel)
set_option maxRecDepth 20000 in
theorem gX1_expand_X1_turned : GoodIn wsX1_expand (va_wsS RX1 65 yX1_turned wsX1_turned) := goodIn_app (goodIn_of _ (by decide +kernel)) ggX1_expand_X1_turned
theorem dX1_expand_0 : decode cX1_expand 0 = .ok (.iconst 0, 1) := by decide +kernel
theorem dX1_expand_1 : decode cX1_expand 1 = .ok (.istore_n 2, 1) := by decide +kernel
theorem dX1_expand_2 : decode cX1_expand 2 = .ok (.iload_n 2, 1) := by decide +kernel
theorem dX1_expand_3 : decode cX1_expand 3 = .ok (.bipush 16, 2) := by decide +kernel
theorem dX1_expand_5 : decode cX1_expand 5 = .ok (.if_icmp .ge 63, 3) := by decide +kernel
theorem dX1_expand_8 : decode cX1_expand 8 = .ok (.iload_n 1, 1) := by decide +kernel
theorem dX1_expand_9 : decode cX1_expand 9 = .ok (.iconst 4, 1) := by decide +kernel
theorem dX1_expand_10 : decode cX1_expand 10 = .ok (.iload_n 2, 1) := by decide +kernel
theorem dX1_expand_11 : decode cX1_expand 11 = .ok (.imul, 1) := by decide +kernel
theorem dX1_expand_12 : decode cX1_expand 12 = .ok (.iadd, 1) := by decide +kernel
theorem dX1_expand_13 : decode cX1_expand 13 = .ok (.istore_n 3, 1) := by decide +kernel
theorem dX1_expand_14 : decode cX1_expand 14 = .ok (.aload_n 0, 1) := by decide +kernel
theorem dX1_expand_15 : decode cX1_expand 15 = .ok (.getfield 15, 3) := by decide +kernel
theorem dX1_expand_18 : decode cX1_expand 18 = .ok (.iload_n 2, 1) := by decide +kernel
theorem dX1_expand_19 : decode cX1_expand 19 = .ok (.aload_n 0, 1) := by decide +kernel
theorem dX1_expand_20 : decode cX1_expand 20 = .ok (.getfield 9, 3) := by decide +kernel
theorem dX1_expand_23 : decode cX1_expand 23 = .ok (.iload_n 3, 1) := by decide +kernel
theorem dX1_expand_24 : decode cX1_expand 24 = .ok (.iaload, 1) := by decide +kernel
theorem dX1_expand_25 : decode cX1_expand 25 = .ok (.bipush 24, 2) := by decide +kernel
theorem dX1_expand_27 : decode cX1_expand 27 = .ok (.ishl, 1) := by decide +kernel
theorem dX1_expand_28 : decode cX1_expand 28 = .ok (.aload_n 0, 1) := by decide +kernel
theorem dX1_expand_29 : decode cX1_expand 29 = .ok (.getfield 9, 3) := by decide +kernel
theorem dX1_expand_32 : decode cX1_expand 32 = .ok (.iload_n 3, 1) := by decide +kernel
theorem dX1_expand_33 : decode cX1_expand 33 = .ok (.iconst 1, 1) := by decide +kernel
theorem dX1_expand_34 : decode cX1_expand 34 = .ok (.iadd, 1) := by decide +kernel
theorem dX1_expand_35 : decode cX1_expand 35 = .ok (.iaload, 1) := by decide +kernel
theorem dX1_expand_36 : decode cX1_expand 36 = .ok (.bipush 16, 2) := by decide +kernel
theorem dX1_expand_38 : decode cX1_expand 38 = .ok (.ishl, 1) := by decide +kernel
theorem dX1_expand_39 : decode cX1_expand 39 = .ok (.ior, 1) := by decide +kernel
theorem dX1_expand_40 : decode cX1_expand 40 = .ok (.aload_n 0, 1) := by decide +kernel
theorem dX1_expand_41 : decode cX1_expand 41 = .ok (.getfield 9, 3) := by decide +kernel
theorem dX1_expand_44 : decode cX1_expand 44 = .ok (.iload_n 3, 1) := by decide +kernel
theorem dX1_expand_45 : decode cX1_expand 45 = .ok (.iconst 2, 1) := by decide +kernel
theorem dX1_expand_46 : decode cX1_expand 46 = .ok (.iadd, 1) := by decide +kernel
theorem dX1_expand_47 : decode cX1_expand 47 = .ok (.iaload, 1) := by decide +kernel
theorem dX1_expand_48 : decode cX1_expand 48 = .ok (.bipush 8, 2) := by decide +kernel
theorem dX1_expand_50 : decode cX1_expand 50 = .ok (.ishl, 1) := by decide +kernel
theorem dX1_expand_51 : decode cX1_expand 51 = .ok (.ior, 1) := by decide +kernel
theorem dX1_expand_52 : decode cX1_expand 52 = .ok (.aload_n 0, 1) := by decide +kernel
theorem dX1_expand_53 : decode cX1_expand 53 = .ok (.getfield 9, 3) := by decide +kernel
theorem dX1_expand_56 : decode cX1_expand 56 = .ok (.iload_n 3, 1) := by decide +kernel
theorem dX1_expand_57 : decode cX1_expand 57 = .ok (.iconst 3, 1) := by decide +kernel
theorem dX1_expand_58 : decode cX1_expand 58 = .ok (.iadd, 1) := by decide +kernel
theorem dX1_expand_59 : decode cX1_expand 59 = .ok (.iaload, 1) := by decide +kernel
theorem dX1_expand_60 : decode cX1_expand 60 = .ok (.ior, 1) := by decide +kernel
theorem dX1_expand_61 : decode cX1_expand 61 = .ok (.iastore, 1) := by decide +kernel
theorem dX1_expand_62 : decode cX1_expand 62 = .ok (.iinc 2 1, 3) := by decide +kernel
theorem dX1_expand_65 : decode cX1_expand 65 = .ok (.goto (-63), 3) := by decide +kernel
theorem dX1_expand_68 : decode cX1_expand 68 = .ok (.bipush 16, 2) := by decide +kernel
theorem dX1_expand_70 : decode cX1_expand 70 = .ok (.istore_n 2, 1) := by decide +kernel
theorem dX1_expand_71 : decode cX1_expand 71 = .ok (.iload_n 2, 1) := by decide +kernel
theorem dX1_expand_72 : decode cX1_expand 72 = .ok (.bipush 64, 2) := by decide +kernel
theorem dX1_expand_74 : decode cX1_expand 74 = .ok (.if_icmp .ge 102, 3) := by decide +kernel
theorem dX1_expand_77 : decode cX1_expand 77 = .ok (.aload_n 0, 1) := by decide +kernel
theorem dX1_expand_78 : decode cX1_expand 78 = .ok (.getfield 15, 3) := by decide +kernel
theorem dX1_expand_81 : decode cX1_expand 81 = .ok (.iload_n 2, 1) := by decide +kernel
theorem dX1_expand_82 : decode cX1_expand 82 = .ok (.bipush 15, 2) := by decide +kernel
theorem dX1_expand_84 : decode cX1_expand 84 = .ok (.isub, 1) := by decide +kernel
theorem dX1_expand_85 : decode cX1_expand 85 = .ok (.iaload, 1) := by decide +kernel
theorem dX1_expand_86 : decode cX1_expand 86 = .ok (.istore_n 3, 1) := by decide +kernel
theorem dX1_expand_87 : decode cX1_expand 87 = .ok (.aload_n 0, 1) := by decide +kernel
theorem dX1_expand_88 : decode cX1_expand 88 = .ok (.getfield 15, 3) := by decide +kernel
theorem dX1_expand_91 : decode cX1_expand 91 = .ok (.iload_n 2, 1) := by decide +kernel
theorem dX1_expand_92 : decode cX1_expand 92 = .ok (.iconst 2, 1) := by decide +kernel
theorem dX1_expand_93 : decode cX1_expand 93 = .ok (.isub, 1) := by decide +kernel
theorem dX1_expand_94 : decode cX1_expand 94 = .ok (.iaload, 1) := by decide +kernel
theorem dX1_expand_95 : decode cX1_expand 95 = .ok (.istore 4, 2) := by decide +kernel
theorem dX1_expand_97 : decode cX1_expand 97 = .ok (.iload_n 3, 1) := by decide +kernel
theorem dX1_expand_98 : decode cX1_expand 98 = .ok (.bipush 7, 2) := by decide +kernel
theorem dX1_expand_100 : decode cX1_expand 100 = .ok (.invokestatic 65, 3) := by decide +kernel
theorem dX1_expand_103 : decode cX1_expand 103 = .ok (.iload_n 3, 1) := by decide +kernel
theorem dX1_expand_104 : decode cX1_expand 104 = .ok (.bipush 18, 2) := by decide +kernel
theorem dX1_expand_106 : decode cX1_expand 106 = .ok (.invokestatic 65, 3) := by decide +kernel
theorem dX1_expand_109 : decode cX1_expand 109 = .ok (.ixor, 1) := by decide +kernel
theorem dX1_expand_110 : decode cX1_expand 110 = .ok (.iload_n 3, 1) := by decide +kernel
theorem dX1_expand_111 : decode cX1_expand 111 = .ok (.iconst 3, 1) := by decide +kernel
theorem dX1_expand_112 : decode cX1_expand 112 = .ok (.iushr, 1) := by decide +kernel
theorem dX1_expand_113 : decode cX1_expand 113 = .ok (.ixor, 1) := by decide +kernel
theorem dX1_expand_114 : decode cX1_expand 114 = .ok (.istore 5, 2) := by decide +kernel
theorem dX1_expand_116 : decode cX1_expand 116 = .ok (.iload 4, 2) := by decide +kernel
theorem dX1_expand_118 : decode cX1_expand 118 = .ok (.bipush 17, 2) := by decide +kernel
theorem dX1_expand_120 : decode cX1_expand 120 = .ok (.invokestatic 65, 3) := by decide +kernel
theorem dX1_expand_123 : decode cX1_expand 123 = .ok (.iload 4, 2) := by decide +kernel
theorem dX1_expand_125 : decode cX1_expand 125 = .ok (.bipush 19, 2) := by decide +kernel
theorem dX1_expand_127 : decode cX1_expand 127 = .ok (.invokestatic 65, 3) := by decide +kernel
theorem dX1_expand_130 : decode cX1_expand 130 = .ok (.ixor, 1) := by decide +kernel
theorem dX1_expand_131 : decode cX1_expand 131 = .ok (.iload 4, 2) := by decide +kernel
theorem dX1_expand_133 : decode cX1_expand 133 = .ok (.bipush 10, 2) := by decide +kernel
theorem dX1_expand_135 : decode cX1_expand 135 = .ok (.iushr, 1) := by decide +kernel
theorem dX1_expand_136 : decode cX1_expand 136 = .ok (.ixor, 1) := by decide +kernel
theorem dX1_expand_137 : decode cX1_expand 137 = .ok (.istore 6, 2) := by decide +kernel
theorem dX1_expand_139 : decode cX1_expand 139 = .ok (.aload_n 0, 1) := by decide +kernel
theorem dX1_expand_140 : decode cX1_expand 140 = .ok (.getfield 15, 3) := by decide +kernel
theorem dX1_expand_143 : decode cX1_expand 143 = .ok (.iload_n 2, 1) := by decide +kernel
theorem dX1_expand_144 : decode cX1_expand 144 = .ok (.aload_n 0, 1) := by decide +kernel
theorem dX1_expand_145 : decode cX1_expand 145 = .ok (.getfield 15, 3) := by decide +kernel
theorem dX1_expand_148 : decode cX1_expand 148 = .ok (.iload_n 2, 1) := by decide +kernel
theorem dX1_expand_149 : decode cX1_expand 149 = .ok (.bipush 16, 2) := by decide +kernel
theorem dX1_expand_151 : decode cX1_expand 151 = .ok (.isub, 1) := by decide +kernel
theorem dX1_expand_152 : decode cX1_expand 152 = .ok (.iaload, 1) := by decide +kernel
theorem dX1_expand_153 : decode cX1_expand 153 = .ok (.iload 5, 2) := by decide +kernel
theorem dX1_expand_155 : decode cX1_expand 155 = .ok (.iadd, 1) := by decide +kernel
theorem dX1_expand_156 : decode cX1_expand 156 = .ok (.aload_n 0, 1) := by decide +kernel
theorem dX1_expand_157 : decode cX1_expand 157 = .ok (.getfield 15, 3) := by decide +kernel
theorem dX1_expand_160 : decode cX1_expand 160 = .ok (.iload_n 2, 1) := by decide +kernel
theorem dX1_expand_161 : decode cX1_expand 161 = .ok (.bipush 7, 2) := by decide +kernel
theorem dX1_expand_163 : decode cX1_expand 163 = .ok (.isub, 1) := by decide +kernel
theorem dX1_expand_164 : decode cX1_expand 164 = .ok (.iaload, 1) := by decide +kernel
theorem dX1_expand_165 : decode cX1_expand 165 = .ok (.iadd, 1) := by decide +kernel
theorem dX1_expand_166 : decode cX1_expand 166 = .ok (.iload 6, 2) := by decide +kernel
theorem dX1_expand_168 : decode cX1_expand 168 = .ok (.iadd, 1) := by decide +kernel
theorem dX1_expand_169 : decode cX1_expand 169 = .ok (.iastore, 1) := by decide +kernel
theorem dX1_expand_170 : decode cX1_expand 170 = .ok (.iinc 2 1, 3) := by decide +kernel
theorem dX1_expand_173 : decode cX1_expand 173 = .ok (.goto (-102), 3) := by decide +kernel
theorem dX1_expand_176 : decode cX1_expand 176 = .ok (.return_, 1) := by decide +kernel
theorem dX1_turned_0 : decode cX1_turned 0 = .ok (.iload_n 0, 1) := by decide +kernel
theorem dX1_turned_1 : decode cX1_turned 1 = .ok (.iload_n 1, 1) := by decide +kernel
theorem dX1_turned_2 : decode cX1_turned 2 = .ok (.iushr, 1) := by decide +kernel
theorem dX1_turned_3 : decode cX1_turned 3 = .ok (.iload_n 0, 1) := by decide +kernel
theorem dX1_turned_4 : decode cX1_turned 4 = .ok (.bipush 32, 2) := by decide +kernel
theorem dX1_turned_6 : decode cX1_turned 6 = .ok (.iload_n 1, 1) := by decide +kernel
theorem dX1_turned_7 : decode cX1_turned 7 = .ok (.isub, 1) := by decide +kernel
theorem dX1_turned_8 : decode cX1_turned 8 = .ok (.ishl, 1) := by decide +kernel
theorem dX1_turned_9 : decode cX1_turned 9 = .ok (.ior, 1) := by decide +kernel
theorem dX1_turned_10 : decode cX1_turned 10 = .ok (.ireturn, 1) := by decide +kernel
theorem dX2_init_0 : decode cX2_init 0 = .ok (.aload_n 0, 1) := by decide +kernel
theorem dX2_init_1 : decode cX2_init 1 = .ok (.invokespecial 3, 3) := by decide +kernel
theorem dX2_init_4 : decode cX2_init 4 = .ok (.aload_n 0, 1) := by decide +kernel
theorem dX2_init_5 : decode cX2_init 5 = .ok (.bipush 16, 2) := by decide +kernel
theorem dX2_init_7 : decode cX2_init 7 = .ok (.newarray .int, 2) := by decide +kernel
theorem dX2_init_9 : decode cX2_init 9 = .ok (.putfield 9, 3) := by decide +kernel
theorem dX2_init_12 : decode cX2_init 12 = .ok (.aload_n 0, 1) := by decide +kernel
theorem dX2_init_13 : decode cX2_init 13 = .ok (.iconst 0, 1) := by decide +kernel
theorem dX2_init_14 : decode cX2_init 14 = .ok (.putfield 15, 3) := by decide +kernel
theorem dX2_init_17 : decode cX2_init 17 = .ok (.return_, 1) := by decide +kernel
set_option maxRecDepth 20000 in
theorem ggX2_start_X4_octetOfFour : GoodIn wsX2_start wsX4_octetOfFour := goodIn_r _ [5] (by decide +kernel) (by decide +kernel)
set_option maxRecDepth 20000 in
theorem gX2_start_X4_octetOfFour_n19 : GoodIn wsX2_start (wsX4_octetOfFour) := ggX2_start_X4_octetOfFour
theorem dX2_start_0 : decode cX2_start 0 = .ok (.iconst 0, 1) := by decide +kernel
theorem dX2_start_1 : decode cX2_start 1 = .ok (.istore 5, 2) := by decide +kernel
theorem dX2_start_3 : decode cX2_start 3 = .ok (.iload 5, 2) := by decide +kernel
theorem dX2_start_5 : decode cX2_start 5 = .ok (.bipush 16, 2) := by decide +kernel
theorem dX2_start_7 : decode cX2_start 7 = .ok (.if_icmp .ge 26, 3) := by decide +kernel
theorem dX2_start_10 : decode cX2_start 10 = .ok (.aload_n 0, 1) := by decide +kernel
theorem dX2_start_11 : decode cX2_start 11 = .ok (.getfield 9, 3) := by decide +kernel
theorem dX2_start_14 : decode cX2_start 14 = .ok (.iload 5, 2) := by decide +kernel
theorem dX2_start_16 : decode cX2_start 16 = .ok (.iload 5, 2) := by decide +kernel
theorem dX2_start_18 : decode cX2_start 18 = .ok (.iload_n 1, 1) := by decide +kernel
theorem dX2_start_19 : decode cX2_start 19 = .ok (.iload_n 2, 1) := by decide +kernel
theorem dX2_start_20 : decode cX2_start 20 = .ok (.iload_n 3, 1) := by decide +kernel
theorem dX2_start_21 : decode cX2_start 21 = .ok (.iload 4, 2) := by decide +kernel
theorem dX2_start_23 : decode cX2_start 23 = .ok (.invokestatic 19, 3) := by decide +kernel
theorem dX2_start_26 : decode cX2_start 26 = .ok (.iastore, 1) := by decide +kernel
theorem dX2_start_27 : decode cX2_start 27 = .ok (.iinc 5 1, 3) := by decide +kernel
theorem dX2_start_30 : decode cX2_start 30 = .ok (.goto (-27), 3) := by decide +kernel
theorem dX2_start_33 : decode cX2_start 33 = .ok (.aload_n 0, 1) := by decide +kernel
theorem dX2_start_34 : decode cX2_start 34 = .ok (.iconst 0, 1) := by decide +kernel
theorem dX2_start_35 : decode cX2_start 35 = .ok (.putfield 15, 3) := by decide +kernel
theorem dX2_start_38 : decode cX2_start 38 = .ok (.return_, 1) := by decide +kernel
set_option maxRecDepth 20000 in
theorem ggX2_turn_X1_clear : GoodIn wsX2_turn wsX1_clear := goodIn_r _ [7, 8, 38, 39, 40, 41] (by decide +kernel) (by decide +kernel)
set_option maxRecDepth 20000 in
theorem gX2_turn_X1_clear : GoodIn wsX2_turn (wsV RX2 23 RX1 yX1_clear wsX1_clear) := goodIn_app (goodIn_of _ (by decide +kernel)) ggX2_turn_X1_clear
set_option maxRecDepth 20000 in
theorem ggX2_turn_X1_put : GoodIn wsX2_turn wsX1_put := goodIn_r _ [12, 8, 13, 38, 39, 40, 41] (by decide +kernel) (by decide +kernel)
set_option maxRecDepth 20000 in
theorem gX2_turn_X1_put : GoodIn wsX2_turn (wsV RX2 28 RX1 yX1_put wsX1_put) := goodIn_app (goodIn_of _ (by decide +kernel)) ggX2_turn_X1_put
set_option maxRecDepth 20000 in
theorem ggX2_turn_X1_finish : GoodIn wsX2_turn wsX1_finish := goodIn_r _ [17, 8, 18, 19, 10, 11, 6, 12, 13, 20, 21, 22, 23, 24, 25, 26, 27, 28, 29, 30, 31, 38, 39, 40, 41] (by decide +kernel) (by decide +kernel)
set_option maxRecDepth 20000 in
theorem gX2_turn_X1_finish : GoodIn wsX2_turn (wsV RX2 32 RX1 yX1_finish wsX1_finish) := goodIn_app (goodIn_of _ (by decide +kernel)) ggX2_turn_X1_finish
set_option maxRecDepth 20000 in
theorem ggX2_turn_X1_hashOctet : GoodIn wsX2_turn wsX1_hashOctet := goodIn_r _ [35, 18, 38, 39, 40, 41] (by decide +kernel) (by decide +kernel)
set_option maxRecDepth 20000 in
theorem gX2_turn_X1_hashOctet : GoodIn wsX2_turn (wsV RX2 35 RX1 yX1_hashOctet wsX1_hashOctet) := goodIn_app (goodIn_of _ (by decide +kernel)) ggX2_turn_X1_hashOctet
theorem dX2_turn_0 : decode cX2_turn 0 = .ok (.aload_n 1, 1) := by decide +kernel
theorem dX2_turn_1 : decode cX2_turn 1 = .ok (.invokevirtual 23, 3) := by decide +kernel
theorem dX2_turn_4 : decode cX2_turn 4 = .ok (.aload_n 1, 1) := by decide +kernel
theorem dX2_turn_5 : decode cX2_turn 5 = .ok (.bipush 75, 2) := by decide +kernel
theorem dX2_turn_7 : decode cX2_turn 7 = .ok (.invokevirtual 28, 3) := by decide +kernel
theorem dX2_turn_10 : decode cX2_turn 10 = .ok (.iconst 0, 1) := by decide +kernel
theorem dX2_turn_11 : decode cX2_turn 11 = .ok (.istore_n 2, 1) := by decide +kernel
theorem dX2_turn_12 : decode cX2_turn 12 = .ok (.iload_n 2, 1) := by decide +kernel
theorem dX2_turn_13 : decode cX2_turn 13 = .ok (.bipush 16, 2) := by decide +kernel
theorem dX2_turn_15 : decode cX2_turn 15 = .ok (.if_icmp .ge 19, 3) := by decide +kernel
theorem dX2_turn_18 : decode cX2_turn 18 = .ok (.aload_n 1, 1) := by decide +kernel
theorem dX2_turn_19 : decode cX2_turn 19 = .ok (.aload_n 0, 1) := by decide +kernel
theorem dX2_turn_20 : decode cX2_turn 20 = .ok (.getfield 9, 3) := by decide +kernel
theorem dX2_turn_23 : decode cX2_turn 23 = .ok (.iload_n 2, 1) := by decide +kernel
theorem dX2_turn_24 : decode cX2_turn 24 = .ok (.iaload, 1) := by decide +kernel
theorem dX2_turn_25 : decode cX2_turn 25 = .ok (.invokevirtual 28, 3) := by decide +kernel
theorem dX2_turn_28 : decode cX2_turn 28 = .ok (.iinc 2 1, 3) := by decide +kernel
theorem dX2_turn_31 : decode cX2_turn 31 = .ok (.goto (-19), 3) := by decide +kernel
theorem dX2_turn_34 : decode cX2_turn 34 = .ok (.aload_n 1, 1) := by decide +kernel
theorem dX2_turn_35 : decode cX2_turn 35 = .ok (.invokevirtual 32, 3) := by decide +kernel
theorem dX2_turn_38 : decode cX2_turn 38 = .ok (.iconst 0, 1) := by decide +kernel
theorem dX2_turn_39 : decode cX2_turn 39 = .ok (.istore_n 2, 1) := by decide +kernel
theorem dX2_turn_40 : decode cX2_turn 40 = .ok (.iload_n 2, 1) := by decide +kernel
theorem dX2_turn_41 : decode cX2_turn 41 = .ok (.bipush 16, 2) := by decide +kernel
theorem dX2_turn_43 : decode cX2_turn 43 = .ok (.if_icmp .ge 20, 3) := by decide +kernel
theorem dX2_turn_46 : decode cX2_turn 46 = .ok (.aload_n 0, 1) := by decide +kernel
theorem dX2_turn_47 : decode cX2_turn 47 = .ok (.getfield 9, 3) := by decide +kernel
theorem dX2_turn_50 : decode cX2_turn 50 = .ok (.iload_n 2, 1) := by decide +kernel
theorem dX2_turn_51 : decode cX2_turn 51 = .ok (.aload_n 1, 1) := by decide +kernel
theorem dX2_turn_52 : decode cX2_turn 52 = .ok (.iload_n 2, 1) := by decide +kernel
theorem dX2_turn_53 : decode cX2_turn 53 = .ok (.invokevirtual 35, 3) := by decide +kernel
theorem dX2_turn_56 : decode cX2_turn 56 = .ok (.iastore, 1) := by decide +kernel
theorem dX2_turn_57 : decode cX2_turn 57 = .ok (.iinc 2 1, 3) := by decide +kernel
theorem dX2_turn_60 : decode cX2_turn 60 = .ok (.goto (-20), 3) := by decide +kernel
theorem dX2_turn_63 : decode cX2_turn 63 = .ok (.aload_n 0, 1) := by decide +kernel
theorem dX2_turn_64 : decode cX2_turn 64 = .ok (.dup, 1) := by decide +kernel
theorem dX2_turn_65 : decode cX2_turn 65 = .ok (.getfield 15, 3) := by decide +kernel
theorem dX2_turn_68 : decode cX2_turn 68 = .ok (.iconst 1, 1) := by decide +kernel
theorem dX2_turn_69 : decode cX2_turn 69 = .ok (.iadd, 1) := by decide +kernel
theorem dX2_turn_70 : decode cX2_turn 70 = .ok (.putfield 15, 3) := by decide +kernel
theorem dX2_turn_73 : decode cX2_turn 73 = .ok (.return_, 1) := by decide +kernel
set_option maxRecDepth 20000 in
theorem ggX3_init_X2_init : GoodIn wsX3_init wsX2_init := goodIn_r _ [18, 19, 2, 3, 8, 20, 21, 42, 43] (by decide +kernel) (by decide +kernel)
set_option maxRecDepth 20000 in
theorem gX3_init_X2_init : GoodIn wsX3_init (wsX2_init) := ggX3_init_X2_init
set_option maxRecDepth 20000 in
theorem ggX3_init_X0_init : GoodIn wsX3_init wsX0_init := goodIn_r _ [24, 25, 2, 3, 8, 26, 27, 28, 53, 54, 55] (by decide +kernel) (by decide +kernel)
set_option maxRecDepth 20000 in
theorem gX3_init_X0_init : GoodIn wsX3_init (wsX0_init) := ggX3_init_X0_init
set_option maxRecDepth 20000 in
theorem ggX3_init_X3_forget : GoodIn wsX3_init wsX3_forget := goodIn_r _ [33, 34, 35, 36, 37, 13, 38, 39, 40, 12, 41, 27, 28, 44, 45, 46, 47, 48, 49, 50, 51, 52, 53, 54, 55] (by decide +kernel) (by decide +kernel)
set_option maxRecDepth 20000 in
theorem gX3_init_X3_forget : GoodIn wsX3_init (wsV RX3 35 RX3 yX3_forget wsX3_forget) := goodIn_app (goodIn_of _ (by decide +kernel)) ggX3_init_X3_forget
theorem dX3_init_0 : decode cX3_init 0 = .ok (.aload_n 0, 1) := by decide +kernel
theorem dX3_init_1 : decode cX3_init 1 = .ok (.invokespecial 3, 3) := by decide +kernel
theorem dX3_init_4 : decode cX3_init 4 = .ok (.aload_n 0, 1) := by decide +kernel
theorem dX3_init_5 : decode cX3_init 5 = .ok (.new 9, 3) := by decide +kernel
theorem dX3_init_8 : decode cX3_init 8 = .ok (.dup, 1) := by decide +kernel
theorem dX3_init_9 : decode cX3_init 9 = .ok (.invokespecial 11, 3) := by decide +kernel
theorem dX3_init_12 : decode cX3_init 12 = .ok (.putfield 12, 3) := by decide +kernel
theorem dX3_init_15 : decode cX3_init 15 = .ok (.aload_n 0, 1) := by decide +kernel
theorem dX3_init_16 : decode cX3_init 16 = .ok (.bipush 8, 2) := by decide +kernel
theorem dX3_init_18 : decode cX3_init 18 = .ok (.newarray .int, 2) := by decide +kernel
theorem dX3_init_20 : decode cX3_init 20 = .ok (.putfield 18, 3) := by decide +kernel
theorem dX3_init_23 : decode cX3_init 23 = .ok (.aload_n 0, 1) := by decide +kernel
theorem dX3_init_24 : decode cX3_init 24 = .ok (.new 22, 3) := by decide +kernel
theorem dX3_init_27 : decode cX3_init 27 = .ok (.dup, 1) := by decide +kernel
theorem dX3_init_28 : decode cX3_init 28 = .ok (.invokespecial 24, 3) := by decide +kernel
theorem dX3_init_31 : decode cX3_init 31 = .ok (.putfield 25, 3) := by decide +kernel
theorem dX3_init_34 : decode cX3_init 34 = .ok (.aload_n 0, 1) := by decide +kernel
theorem dX3_init_35 : decode cX3_init 35 = .ok (.bipush 120, 2) := by decide +kernel
theorem dX3_init_37 : decode cX3_init 37 = .ok (.newarray .int, 2) := by decide +kernel
theorem dX3_init_39 : decode cX3_init 39 = .ok (.putfield 29, 3) := by decide +kernel
theorem dX3_init_42 : decode cX3_init 42 = .ok (.aload_n 0, 1) := by decide +kernel
theorem dX3_init_43 : decode cX3_init 43 = .ok (.bipush 120, 2) := by decide +kernel
theorem dX3_init_45 : decode cX3_init 45 = .ok (.newarray .int, 2) := by decide +kernel
theorem dX3_init_47 : decode cX3_init 47 = .ok (.putfield 32, 3) := by decide +kernel
theorem dX3_init_50 : decode cX3_init 50 = .ok (.aload_n 0, 1) := by decide +kernel
theorem dX3_init_51 : decode cX3_init 51 = .ok (.invokevirtual 35, 3) := by decide +kernel
theorem dX3_init_54 : decode cX3_init 54 = .ok (.return_, 1) := by decide +kernel
set_option maxRecDepth 20000 in
theorem ggX3_forget_X0_cutTo : GoodIn wsX3_forget wsX0_cutTo := goodIn_r _ [10, 11, 12, 22, 23, 24] (by decide +kernel) (by decide +kernel)
set_option maxRecDepth 20000 in
theorem gX3_forget_X0_cutTo : GoodIn wsX3_forget (wsV RX3 52 RX0 yX0_cutTo wsX0_cutTo) := goodIn_app (goodIn_of _ (by decide +kernel)) ggX3_forget_X0_cutTo
theorem dX3_forget_0 : decode cX3_forget 0 = .ok (.aload_n 0, 1) := by decide +kernel
theorem dX3_forget_1 : decode cX3_forget 1 = .ok (.iconst 0, 1) := by decide +kernel
theorem dX3_forget_2 : decode cX3_forget 2 = .ok (.putfield 38, 3) := by decide +kernel
theorem dX3_forget_5 : decode cX3_forget 5 = .ok (.aload_n 0, 1) := by decide +kernel
theorem dX3_forget_6 : decode cX3_forget 6 = .ok (.iconst 0, 1) := by decide +kernel
theorem dX3_forget_7 : decode cX3_forget 7 = .ok (.putfield 42, 3) := by decide +kernel
theorem dX3_forget_10 : decode cX3_forget 10 = .ok (.aload_n 0, 1) := by decide +kernel
theorem dX3_forget_11 : decode cX3_forget 11 = .ok (.iconst (-1), 1) := by decide +kernel
theorem dX3_forget_12 : decode cX3_forget 12 = .ok (.putfield 46, 3) := by decide +kernel
theorem dX3_forget_15 : decode cX3_forget 15 = .ok (.aload_n 0, 1) := by decide +kernel
theorem dX3_forget_16 : decode cX3_forget 16 = .ok (.iconst 0, 1) := by decide +kernel
theorem dX3_forget_17 : decode cX3_forget 17 = .ok (.putfield 49, 3) := by decide +kernel
theorem dX3_forget_20 : decode cX3_forget 20 = .ok (.aload_n 0, 1) := by decide +kernel
theorem dX3_forget_21 : decode cX3_forget 21 = .ok (.getfield 25, 3) := by decide +kernel
theorem dX3_forget_24 : decode cX3_forget 24 = .ok (.iconst 0, 1) := by decide +kernel
theorem dX3_forget_25 : decode cX3_forget 25 = .ok (.invokevirtual 52, 3) := by decide +kernel
theorem dX3_forget_28 : decode cX3_forget 28 = .ok (.return_, 1) := by decide +kernel
set_option maxRecDepth 20000 in
theorem ggX3_goThrough_X3_forget : GoodIn wsX3_goThrough wsX3_forget := goodIn_r _ [15, 1, 9, 5, 10, 4, 16, 17, 18, 19, 20, 21, 22, 126, 127, 128, 129, 130, 131, 132, 133, 134, 135, 136, 137] (by decide +kernel) (by decide +kernel)
set_option maxRecDepth 20000 in
theorem gX3_goThrough_X3_forget : GoodIn wsX3_goThrough (wsV RX3 35 RX3 yX3_forget wsX3_forget) := goodIn_app (goodIn_of _ (by decide +kernel)) ggX3_goThrough_X3_forget
set_option maxRecDepth 20000 in
theorem ggX3_goThrough_X2_start : GoodIn wsX3_goThrough wsX2_start := goodIn_r _ [27, 28, 29, 30, 31, 32, 138, 139] (by decide +kernel) (by decide +kernel)
set_option maxRecDepth 20000 in
theorem gX3_goThrough_X2_start : GoodIn wsX3_goThrough (wsV RX3 56 RX2 yX2_start wsX2_start) := goodIn_app (goodIn_of _ (by decide +kernel)) ggX3_goThrough_X2_start
set_option maxRecDepth 20000 in
theorem ggX3_goThrough_X0_octetAt : GoodIn wsX3_goThrough wsX0_octetAt := goodIn_r _ [36, 37, 38, 39, 40, 19, 41, 21, 135, 136, 137] (by decide +kernel) (by decide +kernel)
set_option maxRecDepth 20000 in
theorem gX3_goThrough_X0_octetAt : GoodIn wsX3_goThrough (wsV RX3 63 RX0 yX0_octetAt wsX0_octetAt) := goodIn_app (goodIn_of _ (by decide +kernel)) ggX3_goThrough_X0_octetAt
set_option maxRecDepth 20000 in
theorem ggX3_goThrough_X0_add : GoodIn wsX3_goThrough wsX0_add := goodIn_r _ [45, 21, 37, 135, 136, 137] (by decide +kernel) (by decide +kernel)
set_option maxRecDepth 20000 in
theorem gX3_goThrough_X0_add : GoodIn wsX3_goThrough (wsV RX3 67 RX0 yX0_add wsX0_add) := goodIn_app (goodIn_of _ (by decide +kernel)) ggX3_goThrough_X0_add
set_option maxRecDepth 20000 in
theorem ggX3_goThrough_X3_isGood : GoodIn wsX3_goThrough wsX3_isGood := goodIn_r _ [49, 4, 2, 50, 51, 52, 53, 19, 54, 21, 55, 34, 35, 36, 37, 38, 39, 40, 41, 56, 31, 57, 58, 59, 60, 61, 33, 62, 63, 64, 26, 65, 28, 29, 66, 67, 68, 69, 70, 71, 72, 73, 74, 75, 76, 77, 78, 79, 80, 81, 82, 83, 84, 85, 86, 87, 88, 89, 90, 91, 92, 93, 94, 95, 96, 97, 98, 99, 100, 101, 102, 103, 104, 105, 106, 107, 108, 109, 110, 111, 112, 113, 114, 115, 116, 117, 118, 119, 120, 121, 122, 123, 124, 125, 126, 127, 128, 129, 130, 131, 132, 133, 134, 135, 136, 137, 138, 139, 140, 141, 142, 143] (by decide +kernel) (by decide +kernel)
set_option maxRecDepth 20000 in
theorem gX3_goThrough_X3_isGood : GoodIn wsX3_goThrough (wsV RX3 70 RX3 yX3_isGood wsX3_isGood) := goodIn_app (goodIn_of _ (by decide +kernel)) ggX3_goThrough_X3_isGood
set_option maxRecDepth 20000 in
theorem ggX3_goThrough_X0_passedOverAt : GoodIn wsX3_goThrough wsX0_passedOverAt := goodIn_r _ [61, 55, 34, 35, 19, 36, 37, 38, 39, 40, 41, 21, 135, 136, 137] (by decide +kernel) (by decide +kernel)
set_option maxRecDepth 20000 in
theorem gX3_goThrough_X0_passedOverAt : GoodIn wsX3_goThrough (wsV RX3 77 RX0 yX0_passedOverAt wsX0_passedOverAt) := goodIn_app (goodIn_of _ (by decide +kernel)) ggX3_goThrough_X0_passedOverAt
set_option maxRecDepth 20000 in
theorem ggX3_goThrough_X2_turn : GoodIn wsX3_goThrough wsX2_turn := goodIn_r _ [65, 28, 29, 66, 67, 68, 69, 70, 71, 72, 73, 74, 75, 76, 77, 78, 79, 80, 81, 82, 83, 84, 85, 86, 87, 88, 89, 90, 91, 92, 93, 94, 95, 96, 97, 98, 138, 139, 140, 141, 142, 143] (by decide +kernel) (by decide +kernel)
set_option maxRecDepth 20000 in
theorem gX3_goThrough_X2_turn : GoodIn wsX3_goThrough (wsV RX3 80 RX2 yX2_turn wsX2_turn) := goodIn_app (goodIn_of _ (by decide +kernel)) ggX3_goThrough_X2_turn
set_option maxRecDepth 20000 in
theorem ggX3_goThrough_X0_sizeAt : GoodIn wsX3_goThrough wsX0_sizeAt := goodIn_r _ [124, 55, 34, 35, 19, 36, 37, 38, 39, 40, 41, 21, 56, 31, 57, 135, 136, 137] (by decide +kernel) (by decide +kernel)
set_option maxRecDepth 20000 in
theorem gX3_goThrough_X0_sizeAt : GoodIn wsX3_goThrough (wsV RX3 84 RX0 yX0_sizeAt wsX0_sizeAt) := goodIn_app (goodIn_of _ (by decide +kernel)) ggX3_goThrough_X0_sizeAt
theorem dX3_goThrough_0 : decode cX3_goThrough 0 = .ok (.aload_n 0, 1) := by decide +kernel
theorem dX3_goThrough_1 : decode cX3_goThrough 1 = .ok (.invokevirtual 35, 3) := by decide +kernel
theorem dX3_goThrough_4 : decode cX3_goThrough 4 = .ok (.aload_n 0, 1) := by decide +kernel
theorem dX3_goThrough_5 : decode cX3_goThrough 5 = .ok (.iconst 1, 1) := by decide +kernel
theorem dX3_goThrough_6 : decode cX3_goThrough 6 = .ok (.putfield 38, 3) := by decide +kernel
theorem dX3_goThrough_9 : decode cX3_goThrough 9 = .ok (.aload_n 0, 1) := by decide +kernel
theorem dX3_goThrough_10 : decode cX3_goThrough 10 = .ok (.getfield 12, 3) := by decide +kernel
theorem dX3_goThrough_13 : decode cX3_goThrough 13 = .ok (.iload_n 3, 1) := by decide +kernel
theorem dX3_goThrough_14 : decode cX3_goThrough 14 = .ok (.iload 4, 2) := by decide +kernel
theorem dX3_goThrough_16 : decode cX3_goThrough 16 = .ok (.iload 5, 2) := by decide +kernel
theorem dX3_goThrough_18 : decode cX3_goThrough 18 = .ok (.iload 6, 2) := by decide +kernel
theorem dX3_goThrough_20 : decode cX3_goThrough 20 = .ok (.invokevirtual 56, 3) := by decide +kernel
theorem dX3_goThrough_23 : decode cX3_goThrough 23 = .ok (.iconst 0, 1) := by decide +kernel
theorem dX3_goThrough_24 : decode cX3_goThrough 24 = .ok (.istore 7, 2) := by decide +kernel
theorem dX3_goThrough_26 : decode cX3_goThrough 26 = .ok (.iload 7, 2) := by decide +kernel
theorem dX3_goThrough_28 : decode cX3_goThrough 28 = .ok (.aload_n 1, 1) := by decide +kernel
theorem dX3_goThrough_29 : decode cX3_goThrough 29 = .ok (.getfield 60, 3) := by decide +kernel
theorem dX3_goThrough_32 : decode cX3_goThrough 32 = .ok (.if_icmp .ge 22, 3) := by decide +kernel
theorem dX3_goThrough_35 : decode cX3_goThrough 35 = .ok (.aload_n 0, 1) := by decide +kernel
theorem dX3_goThrough_36 : decode cX3_goThrough 36 = .ok (.getfield 25, 3) := by decide +kernel
theorem dX3_goThrough_39 : decode cX3_goThrough 39 = .ok (.aload_n 1, 1) := by decide +kernel
theorem dX3_goThrough_40 : decode cX3_goThrough 40 = .ok (.iload 7, 2) := by decide +kernel
theorem dX3_goThrough_42 : decode cX3_goThrough 42 = .ok (.invokevirtual 63, 3) := by decide +kernel
theorem dX3_goThrough_45 : decode cX3_goThrough 45 = .ok (.invokevirtual 67, 3) := by decide +kernel
theorem dX3_goThrough_48 : decode cX3_goThrough 48 = .ok (.iinc 7 1, 3) := by decide +kernel
theorem dX3_goThrough_51 : decode cX3_goThrough 51 = .ok (.goto (-25), 3) := by decide +kernel
theorem dX3_goThrough_54 : decode cX3_goThrough 54 = .ok (.iconst 0, 1) := by decide +kernel
theorem dX3_goThrough_55 : decode cX3_goThrough 55 = .ok (.istore 7, 2) := by decide +kernel
theorem dX3_goThrough_57 : decode cX3_goThrough 57 = .ok (.iconst 0, 1) := by decide +kernel
theorem dX3_goThrough_58 : decode cX3_goThrough 58 = .ok (.istore 8, 2) := by decide +kernel
theorem dX3_goThrough_60 : decode cX3_goThrough 60 = .ok (.iload 8, 2) := by decide +kernel
theorem dX3_goThrough_62 : decode cX3_goThrough 62 = .ok (.bipush 120, 2) := by decide +kernel
theorem dX3_goThrough_64 : decode cX3_goThrough 64 = .ok (.if_icmp .ge 111, 3) := by decide +kernel
theorem dX3_goThrough_67 : decode cX3_goThrough 67 = .ok (.iload 7, 2) := by decide +kernel
theorem dX3_goThrough_69 : decode cX3_goThrough 69 = .ok (.aload_n 0, 1) := by decide +kernel
theorem dX3_goThrough_70 : decode cX3_goThrough 70 = .ok (.getfield 25, 3) := by decide +kernel
theorem dX3_goThrough_73 : decode cX3_goThrough 73 = .ok (.getfield 60, 3) := by decide +kernel
theorem dX3_goThrough_76 : decode cX3_goThrough 76 = .ok (.if_icmp .ge 99, 3) := by decide +kernel
theorem dX3_goThrough_79 : decode cX3_goThrough 79 = .ok (.aload_n 0, 1) := by decide +kernel
theorem dX3_goThrough_80 : decode cX3_goThrough 80 = .ok (.iload 7, 2) := by decide +kernel
theorem dX3_goThrough_82 : decode cX3_goThrough 82 = .ok (.aload_n 2, 1) := by decide +kernel
theorem dX3_goThrough_83 : decode cX3_goThrough 83 = .ok (.invokevirtual 70, 3) := by decide +kernel
theorem dX3_goThrough_86 : decode cX3_goThrough 86 = .ok (.ifCond .ne 12, 3) := by decide +kernel
theorem dX3_goThrough_89 : decode cX3_goThrough 89 = .ok (.aload_n 0, 1) := by decide +kernel
theorem dX3_goThrough_90 : decode cX3_goThrough 90 = .ok (.iload 7, 2) := by decide +kernel
theorem dX3_goThrough_92 : decode cX3_goThrough 92 = .ok (.putfield 46, 3) := by decide +kernel
theorem dX3_goThrough_95 : decode cX3_goThrough 95 = .ok (.bipush (-3), 2) := by decide +kernel
theorem dX3_goThrough_97 : decode cX3_goThrough 97 = .ok (.ireturn, 1) := by decide +kernel
theorem dX3_goThrough_98 : decode cX3_goThrough 98 = .ok (.aload_n 0, 1) := by decide +kernel
theorem dX3_goThrough_99 : decode cX3_goThrough 99 = .ok (.getfield 29, 3) := by decide +kernel
theorem dX3_goThrough_102 : decode cX3_goThrough 102 = .ok (.iload 8, 2) := by decide +kernel
theorem dX3_goThrough_104 : decode cX3_goThrough 104 = .ok (.iload 7, 2) := by decide +kernel
theorem dX3_goThrough_106 : decode cX3_goThrough 106 = .ok (.iastore, 1) := by decide +kernel
theorem dX3_goThrough_107 : decode cX3_goThrough 107 = .ok (.aload_n 0, 1) := by decide +kernel
theorem dX3_goThrough_108 : decode cX3_goThrough 108 = .ok (.getfield 32, 3) := by decide +kernel
theorem dX3_goThrough_111 : decode cX3_goThrough 111 = .ok (.iload 8, 2) := by decide +kernel
theorem dX3_goThrough_113 : decode cX3_goThrough 113 = .ok (.aload_n 0, 1) := by decide +kernel
theorem dX3_goThrough_114 : decode cX3_goThrough 114 = .ok (.getfield 12, 3) := by decide +kernel
theorem dX3_goThrough_117 : decode cX3_goThrough 117 = .ok (.getfield 74, 3) := by decide +kernel
theorem dX3_goThrough_120 : decode cX3_goThrough 120 = .ok (.iastore, 1) := by decide +kernel
theorem dX3_goThrough_121 : decode cX3_goThrough 121 = .ok (.aload_n 0, 1) := by decide +kernel
theorem dX3_goThrough_122 : decode cX3_goThrough 122 = .ok (.iload 8, 2) := by decide +kernel
theorem dX3_goThrough_124 : decode cX3_goThrough 124 = .ok (.iconst 1, 1) := by decide +kernel
theorem dX3_goThrough_125 : decode cX3_goThrough 125 = .ok (.iadd, 1) := by decide +kernel
theorem dX3_goThrough_126 : decode cX3_goThrough 126 = .ok (.putfield 42, 3) := by decide +kernel
theorem dX3_goThrough_129 : decode cX3_goThrough 129 = .ok (.aload_n 0, 1) := by decide +kernel
theorem dX3_goThrough_130 : decode cX3_goThrough 130 = .ok (.dup, 1) := by decide +kernel
theorem dX3_goThrough_131 : decode cX3_goThrough 131 = .ok (.getfield 49, 3) := by decide +kernel
theorem dX3_goThrough_134 : decode cX3_goThrough 134 = .ok (.aload_n 0, 1) := by decide +kernel
theorem dX3_goThrough_135 : decode cX3_goThrough 135 = .ok (.getfield 25, 3) := by decide +kernel
theorem dX3_goThrough_138 : decode cX3_goThrough 138 = .ok (.iload 7, 2) := by decide +kernel
theorem dX3_goThrough_140 : decode cX3_goThrough 140 = .ok (.invokevirtual 77, 3) := by decide +kernel
theorem dX3_goThrough_143 : decode cX3_goThrough 143 = .ok (.iadd, 1) := by decide +kernel
theorem dX3_goThrough_144 : decode cX3_goThrough 144 = .ok (.putfield 49, 3) := by decide +kernel
theorem dX3_goThrough_147 : decode cX3_goThrough 147 = .ok (.aload_n 0, 1) := by decide +kernel
theorem dX3_goThrough_148 : decode cX3_goThrough 148 = .ok (.getfield 12, 3) := by decide +kernel
theorem dX3_goThrough_151 : decode cX3_goThrough 151 = .ok (.aload_n 2, 1) := by decide +kernel
theorem dX3_goThrough_152 : decode cX3_goThrough 152 = .ok (.invokevirtual 80, 3) := by decide +kernel
theorem dX3_goThrough_155 : decode cX3_goThrough 155 = .ok (.iload 7, 2) := by decide +kernel
theorem dX3_goThrough_157 : decode cX3_goThrough 157 = .ok (.aload_n 0, 1) := by decide +kernel
theorem dX3_goThrough_158 : decode cX3_goThrough 158 = .ok (.getfield 25, 3) := by decide +kernel
theorem dX3_goThrough_161 : decode cX3_goThrough 161 = .ok (.iload 7, 2) := by decide +kernel
theorem dX3_goThrough_163 : decode cX3_goThrough 163 = .ok (.invokevirtual 84, 3) := by decide +kernel
theorem dX3_goThrough_166 : decode cX3_goThrough 166 = .ok (.iadd, 1) := by decide +kernel
theorem dX3_goThrough_167 : decode cX3_goThrough 167 = .ok (.istore 7, 2) := by decide +kernel
theorem dX3_goThrough_169 : decode cX3_goThrough 169 = .ok (.iinc 8 1, 3) := by decide +kernel
theorem dX3_goThrough_172 : decode cX3_goThrough 172 = .ok (.goto (-112), 3) := by decide +kernel
theorem dX3_goThrough_175 : decode cX3_goThrough 175 = .ok (.aload_n 0, 1) := by decide +kernel
theorem dX3_goThrough_176 : decode cX3_goThrough 176 = .ok (.getfield 42, 3) := by decide +kernel
theorem dX3_goThrough_179 : decode cX3_goThrough 179 = .ok (.ireturn, 1) := by decide +kernel
set_option maxRecDepth 20000 in
theorem ggX3_isGood_X0_isWhole : GoodIn wsX3_isGood wsX0_isWhole := goodIn_r _ [8, 9, 10, 11, 12, 7, 13, 14, 15, 16, 17, 18, 19, 20, 21, 103, 104, 105] (by decide +kernel) (by decide +kernel)
set_option maxRecDepth 20000 in
theorem gX3_isGood_X0_isWhole : GoodIn wsX3_isGood (wsV RX3 87 RX0 yX0_isWhole wsX0_isWhole) := goodIn_app (goodIn_of _ (by decide +kernel)) ggX3_isGood_X0_isWhole
set_option maxRecDepth 20000 in
theorem ggX3_isGood_X0_passedOverAt : GoodIn wsX3_isGood wsX0_passedOverAt := goodIn_r _ [25, 10, 11, 12, 7, 13, 14, 15, 16, 17, 18, 9, 103, 104, 105] (by decide +kernel) (by decide +kernel)
set_option maxRecDepth 20000 in
theorem gX3_isGood_X0_passedOverAt : GoodIn wsX3_isGood (wsV RX3 77 RX0 yX0_passedOverAt wsX0_passedOverAt) := goodIn_app (goodIn_of _ (by decide +kernel)) ggX3_isGood_X0_passedOverAt
set_option maxRecDepth 20000 in
theorem ggX3_isGood_X0_octetAt : GoodIn wsX3_isGood wsX0_octetAt := goodIn_r _ [13, 14, 15, 16, 17, 7, 18, 9, 103, 104, 105] (by decide +kernel) (by decide +kernel)
set_option maxRecDepth 20000 in
theorem gX3_isGood_X0_octetAt : GoodIn wsX3_isGood (wsV RX3 63 RX0 yX0_octetAt wsX0_octetAt) := goodIn_app (goodIn_of _ (by decide +kernel)) ggX3_isGood_X0_octetAt
set_option maxRecDepth 20000 in
theorem ggX3_isGood_X2_turn : GoodIn wsX3_isGood wsX2_turn := goodIn_r _ [31, 32, 33, 34, 35, 36, 37, 38, 39, 40, 41, 42, 43, 44, 45, 46, 47, 48, 49, 50, 51, 52, 53, 54, 55, 56, 57, 58, 59, 60, 61, 62, 63, 64, 65, 66, 106, 107, 108, 109, 110, 111] (by decide +kernel) (by decide +kernel)
set_option maxRecDepth 20000 in
theorem gX3_isGood_X2_turn : GoodIn wsX3_isGood (wsV RX3 80 RX2 yX2_turn wsX2_turn) := goodIn_app (goodIn_of _ (by decide +kernel)) ggX3_isGood_X2_turn
set_option maxRecDepth 20000 in
theorem ggX3_isGood_X0_tagBefore : GoodIn wsX3_isGood wsX0_tagBefore := goodIn_r _ [70, 71, 72, 73, 74, 10, 11, 12, 7, 13, 14, 15, 16, 17, 18, 9, 103, 104, 105] (by decide +kernel) (by decide +kernel)
set_option maxRecDepth 20000 in
theorem gX3_isGood_X0_tagBefore : GoodIn wsX3_isGood (wsV RX3 91 RX0 yX0_tagBefore wsX0_tagBefore) := goodIn_app (goodIn_of _ (by decide +kernel)) ggX3_isGood_X0_tagBefore
set_option maxRecDepth 20000 in
theorem ggX3_isGood_X1_makeTag : GoodIn wsX3_isGood wsX1_makeTag := goodIn_r _ [78, 79, 80, 81, 82, 37, 83, 84, 85, 35, 36, 38, 39, 50, 41, 42, 43, 44, 86, 11, 12, 7, 13, 14, 15, 16, 17, 18, 9, 87, 46, 47, 48, 49, 51, 52, 53, 54, 55, 56, 57, 58, 59, 60, 61, 62, 88, 64, 65, 66, 106, 107, 108, 109, 110, 111, 103, 104, 105] (by decide +kernel) (by decide +kernel)
set_option maxRecDepth 20000 in
theorem gX3_isGood_X1_makeTag : GoodIn wsX3_isGood (wsV RX3 94 RX1 yX1_makeTag wsX1_makeTag) := goodIn_app (goodIn_of _ (by decide +kernel)) ggX3_isGood_X1_makeTag
set_option maxRecDepth 20000 in
theorem ggX3_isGood_X0_sizeAt : GoodIn wsX3_isGood wsX0_sizeAt := goodIn_r _ [92, 10, 11, 12, 7, 13, 14, 15, 16, 17, 18, 9, 19, 20, 21, 103, 104, 105] (by decide +kernel) (by decide +kernel)
set_option maxRecDepth 20000 in
theorem gX3_isGood_X0_sizeAt : GoodIn wsX3_isGood (wsV RX3 84 RX0 yX0_sizeAt wsX0_sizeAt) := goodIn_app (goodIn_of _ (by decide +kernel)) ggX3_isGood_X0_sizeAt
set_option maxRecDepth 20000 in
theorem ggX3_isGood_X1_hashOctet : GoodIn wsX3_isGood wsX1_hashOctet := goodIn_r _ [66, 49, 108, 109, 110, 111] (by decide +kernel) (by decide +kernel)
set_option maxRecDepth 20000 in
theorem gX3_isGood_X1_hashOctet : GoodIn wsX3_isGood (wsV RX3 100 RX1 yX1_hashOctet wsX1_hashOctet) := goodIn_app (goodIn_of _ (by decide +kernel)) ggX3_isGood_X1_hashOctet
theorem dX3_isGood_0 : decode cX3_isGood 0 = .ok (.aload_n 0, 1) := by decide +kernel
theorem dX3_isGood_1 : decode cX3_isGood 1 = .ok (.getfield 25, 3) := by decide +kernel
theorem dX3_isGood_4 : decode cX3_isGood 4 = .ok (.iload_n 1, 1) := by decide +kernel
theorem dX3_isGood_5 : decode cX3_isGood 5 = .ok (.invokevirtual 87, 3) := by decide +kernel
theorem dX3_isGood_8 : decode cX3_isGood 8 = .ok (.ifCond .ne 5, 3) := by decide +kernel
theorem dX3_isGood_11 : decode cX3_isGood 11 = .ok (.iconst 0, 1) := by decide +kernel
theorem dX3_isGood_12 : decode cX3_isGood 12 = .ok (.ireturn, 1) := by decide +kernel
theorem dX3_isGood_13 : decode cX3_isGood 13 = .ok (.aload_n 0, 1) := by decide +kernel
theorem dX3_isGood_14 : decode cX3_isGood 14 = .ok (.getfield 25, 3) := by decide +kernel
theorem dX3_isGood_17 : decode cX3_isGood 17 = .ok (.iload_n 1, 1) := by decide +kernel
theorem dX3_isGood_18 : decode cX3_isGood 18 = .ok (.invokevirtual 77, 3) := by decide +kernel
theorem dX3_isGood_21 : decode cX3_isGood 21 = .ok (.istore_n 3, 1) := by decide +kernel
theorem dX3_isGood_22 : decode cX3_isGood 22 = .ok (.aload_n 0, 1) := by decide +kernel
theorem dX3_isGood_23 : decode cX3_isGood 23 = .ok (.getfield 25, 3) := by decide +kernel
theorem dX3_isGood_26 : decode cX3_isGood 26 = .ok (.iload_n 1, 1) := by decide +kernel
theorem dX3_isGood_27 : decode cX3_isGood 27 = .ok (.invokevirtual 63, 3) := by decide +kernel
theorem dX3_isGood_30 : decode cX3_isGood 30 = .ok (.iconst 3, 1) := by decide +kernel
theorem dX3_isGood_31 : decode cX3_isGood 31 = .ok (.if_icmp .ne 17, 3) := by decide +kernel
theorem dX3_isGood_34 : decode cX3_isGood 34 = .ok (.iload_n 3, 1) := by decide +kernel
theorem dX3_isGood_35 : decode cX3_isGood 35 = .ok (.iconst 1, 1) := by decide +kernel
theorem dX3_isGood_36 : decode cX3_isGood 36 = .ok (.if_icmp .lt 10, 3) := by decide +kernel
theorem dX3_isGood_39 : decode cX3_isGood 39 = .ok (.iload_n 3, 1) := by decide +kernel
theorem dX3_isGood_40 : decode cX3_isGood 40 = .ok (.sipush 1000, 3) := by decide +kernel
theorem dX3_isGood_43 : decode cX3_isGood 43 = .ok (.if_icmp .le 5, 3) := by decide +kernel
theorem dX3_isGood_46 : decode cX3_isGood 46 = .ok (.iconst 0, 1) := by decide +kernel
theorem dX3_isGood_47 : decode cX3_isGood 47 = .ok (.ireturn, 1) := by decide +kernel
theorem dX3_isGood_48 : decode cX3_isGood 48 = .ok (.iconst 0, 1) := by decide +kernel
theorem dX3_isGood_49 : decode cX3_isGood 49 = .ok (.istore 4, 2) := by decide +kernel
theorem dX3_isGood_51 : decode cX3_isGood 51 = .ok (.iload 4, 2) := by decide +kernel
theorem dX3_isGood_53 : decode cX3_isGood 53 = .ok (.iload_n 3, 1) := by decide +kernel
theorem dX3_isGood_54 : decode cX3_isGood 54 = .ok (.if_icmp .ge 17, 3) := by decide +kernel
theorem dX3_isGood_57 : decode cX3_isGood 57 = .ok (.aload_n 0, 1) := by decide +kernel
theorem dX3_isGood_58 : decode cX3_isGood 58 = .ok (.getfield 12, 3) := by decide +kernel
theorem dX3_isGood_61 : decode cX3_isGood 61 = .ok (.aload_n 2, 1) := by decide +kernel
theorem dX3_isGood_62 : decode cX3_isGood 62 = .ok (.invokevirtual 80, 3) := by decide +kernel
theorem dX3_isGood_65 : decode cX3_isGood 65 = .ok (.iinc 4 1, 3) := by decide +kernel
theorem dX3_isGood_68 : decode cX3_isGood 68 = .ok (.goto (-17), 3) := by decide +kernel
theorem dX3_isGood_71 : decode cX3_isGood 71 = .ok (.aload_n 0, 1) := by decide +kernel
theorem dX3_isGood_72 : decode cX3_isGood 72 = .ok (.getfield 25, 3) := by decide +kernel
theorem dX3_isGood_75 : decode cX3_isGood 75 = .ok (.iload_n 1, 1) := by decide +kernel
theorem dX3_isGood_76 : decode cX3_isGood 76 = .ok (.aload_n 0, 1) := by decide +kernel
theorem dX3_isGood_77 : decode cX3_isGood 77 = .ok (.getfield 18, 3) := by decide +kernel
theorem dX3_isGood_80 : decode cX3_isGood 80 = .ok (.invokevirtual 91, 3) := by decide +kernel
theorem dX3_isGood_83 : decode cX3_isGood 83 = .ok (.aload_n 2, 1) := by decide +kernel
theorem dX3_isGood_84 : decode cX3_isGood 84 = .ok (.aload_n 0, 1) := by decide +kernel
theorem dX3_isGood_85 : decode cX3_isGood 85 = .ok (.getfield 12, 3) := by decide +kernel
theorem dX3_isGood_88 : decode cX3_isGood 88 = .ok (.aload_n 0, 1) := by decide +kernel
theorem dX3_isGood_89 : decode cX3_isGood 89 = .ok (.getfield 25, 3) := by decide +kernel
theorem dX3_isGood_92 : decode cX3_isGood 92 = .ok (.iload_n 1, 1) := by decide +kernel
theorem dX3_isGood_93 : decode cX3_isGood 93 = .ok (.aload_n 0, 1) := by decide +kernel
theorem dX3_isGood_94 : decode cX3_isGood 94 = .ok (.getfield 18, 3) := by decide +kernel
theorem dX3_isGood_97 : decode cX3_isGood 97 = .ok (.invokevirtual 94, 3) := by decide +kernel
theorem dX3_isGood_100 : decode cX3_isGood 100 = .ok (.iload_n 1, 1) := by decide +kernel
theorem dX3_isGood_101 : decode cX3_isGood 101 = .ok (.aload_n 0, 1) := by decide +kernel
theorem dX3_isGood_102 : decode cX3_isGood 102 = .ok (.getfield 25, 3) := by decide +kernel
theorem dX3_isGood_105 : decode cX3_isGood 105 = .ok (.iload_n 1, 1) := by decide +kernel
theorem dX3_isGood_106 : decode cX3_isGood 106 = .ok (.invokevirtual 84, 3) := by decide +kernel
theorem dX3_isGood_109 : decode cX3_isGood 109 = .ok (.iadd, 1) := by decide +kernel
theorem dX3_isGood_110 : decode cX3_isGood 110 = .ok (.bipush 8, 2) := by decide +kernel
theorem dX3_isGood_112 : decode cX3_isGood 112 = .ok (.isub, 1) := by decide +kernel
theorem dX3_isGood_113 : decode cX3_isGood 113 = .ok (.istore 4, 2) := by decide +kernel
theorem dX3_isGood_115 : decode cX3_isGood 115 = .ok (.iconst 0, 1) := by decide +kernel
theorem dX3_isGood_116 : decode cX3_isGood 116 = .ok (.istore 5, 2) := by decide +kernel
theorem dX3_isGood_118 : decode cX3_isGood 118 = .ok (.iload 5, 2) := by decide +kernel
theorem dX3_isGood_120 : decode cX3_isGood 120 = .ok (.bipush 8, 2) := by decide +kernel
theorem dX3_isGood_122 : decode cX3_isGood 122 = .ok (.if_icmp .ge 32, 3) := by decide +kernel
theorem dX3_isGood_125 : decode cX3_isGood 125 = .ok (.aload_n 0, 1) := by decide +kernel
theorem dX3_isGood_126 : decode cX3_isGood 126 = .ok (.getfield 25, 3) := by decide +kernel
theorem dX3_isGood_129 : decode cX3_isGood 129 = .ok (.iload 4, 2) := by decide +kernel
theorem dX3_isGood_131 : decode cX3_isGood 131 = .ok (.iload 5, 2) := by decide +kernel
theorem dX3_isGood_133 : decode cX3_isGood 133 = .ok (.iadd, 1) := by decide +kernel
theorem dX3_isGood_134 : decode cX3_isGood 134 = .ok (.invokevirtual 63, 3) := by decide +kernel
theorem dX3_isGood_137 : decode cX3_isGood 137 = .ok (.aload_n 2, 1) := by decide +kernel
theorem dX3_isGood_138 : decode cX3_isGood 138 = .ok (.iload 5, 2) := by decide +kernel
theorem dX3_isGood_140 : decode cX3_isGood 140 = .ok (.invokevirtual 100, 3) := by decide +kernel
theorem dX3_isGood_143 : decode cX3_isGood 143 = .ok (.if_icmp .eq 5, 3) := by decide +kernel
theorem dX3_isGood_146 : decode cX3_isGood 146 = .ok (.iconst 0, 1) := by decide +kernel
theorem dX3_isGood_147 : decode cX3_isGood 147 = .ok (.ireturn, 1) := by decide +kernel
theorem dX3_isGood_148 : decode cX3_isGood 148 = .ok (.iinc 5 1, 3) := by decide +kernel
theorem dX3_isGood_151 : decode cX3_isGood 151 = .ok (.goto (-33), 3) := by decide +kernel
theorem dX3_isGood_154 : decode cX3_isGood 154 = .ok (.iconst 1, 1) := by decide +kernel
theorem dX3_isGood_155 : decode cX3_isGood 155 = .ok (.ireturn, 1) := by decide +kernel
set_option maxRecDepth 20000 in
theorem ggX3_answer_X3_partOf : GoodIn wsX3_answer wsX3_partOf := goodIn_r _ [9, 3, 10, 11, 12, 13, 14, 15, 16, 17, 18, 19, 20, 21, 22, 23, 24, 25, 26, 27, 28, 29, 30, 31, 32, 33, 34, 35] (by decide +kernel) (by decide +kernel)
set_option maxRecDepth 20000 in
theorem gX3_answer_X3_partOf : GoodIn wsX3_answer (wsV RX3 103 RX3 yX3_partOf wsX3_partOf) := goodIn_app (goodIn_of _ (by decide +kernel)) ggX3_answer_X3_partOf
theorem dX3_answer_0 : decode cX3_answer 0 = .ok (.aload_n 0, 1) := by decide +kernel
theorem dX3_answer_1 : decode cX3_answer 1 = .ok (.getfield 38, 3) := by decide +kernel
theorem dX3_answer_4 : decode cX3_answer 4 = .ok (.ifCond .ne 5, 3) := by decide +kernel
theorem dX3_answer_7 : decode cX3_answer 7 = .ok (.iconst (-1), 1) := by decide +kernel
theorem dX3_answer_8 : decode cX3_answer 8 = .ok (.ireturn, 1) := by decide +kernel
theorem dX3_answer_9 : decode cX3_answer 9 = .ok (.iload_n 1, 1) := by decide +kernel
theorem dX3_answer_10 : decode cX3_answer 10 = .ok (.tableswitch 78 0 3 #[30, 47, 52, 57], 30) := by decide +kernel
theorem dX3_answer_40 : decode cX3_answer 40 = .ok (.aload_n 0, 1) := by decide +kernel
theorem dX3_answer_41 : decode cX3_answer 41 = .ok (.getfield 46, 3) := by decide +kernel
theorem dX3_answer_44 : decode cX3_answer 44 = .ok (.iconst (-1), 1) := by decide +kernel
theorem dX3_answer_45 : decode cX3_answer 45 = .ok (.if_icmp .ne 7, 3) := by decide +kernel
theorem dX3_answer_48 : decode cX3_answer 48 = .ok (.iconst (-1), 1) := by decide +kernel
theorem dX3_answer_49 : decode cX3_answer 49 = .ok (.goto 7, 3) := by decide +kernel
theorem dX3_answer_52 : decode cX3_answer 52 = .ok (.aload_n 0, 1) := by decide +kernel
theorem dX3_answer_53 : decode cX3_answer 53 = .ok (.getfield 42, 3) := by decide +kernel
theorem dX3_answer_56 : decode cX3_answer 56 = .ok (.ireturn, 1) := by decide +kernel
theorem dX3_answer_57 : decode cX3_answer 57 = .ok (.aload_n 0, 1) := by decide +kernel
theorem dX3_answer_58 : decode cX3_answer 58 = .ok (.getfield 46, 3) := by decide +kernel
theorem dX3_answer_61 : decode cX3_answer 61 = .ok (.ireturn, 1) := by decide +kernel
theorem dX3_answer_62 : decode cX3_answer 62 = .ok (.aload_n 0, 1) := by decide +kernel
theorem dX3_answer_63 : decode cX3_answer 63 = .ok (.getfield 42, 3) := by decide +kernel
theorem dX3_answer_66 : decode cX3_answer 66 = .ok (.ireturn, 1) := by decide +kernel
theorem dX3_answer_67 : decode cX3_answer 67 = .ok (.aload_n 0, 1) := by decide +kernel
theorem dX3_answer_68 : decode cX3_answer 68 = .ok (.aload_n 0, 1) := by decide +kernel
theorem dX3_answer_69 : decode cX3_answer 69 = .ok (.getfield 42, 3) := by decide +kernel
theorem dX3_answer_72 : decode cX3_answer 72 = .ok (.iconst 1, 1) := by decide +kernel
theorem dX3_answer_73 : decode cX3_answer 73 = .ok (.isub, 1) := by decide +kernel
theorem dX3_answer_74 : decode cX3_answer 74 = .ok (.iconst 0, 1) := by decide +kernel
theorem dX3_answer_75 : decode cX3_answer 75 = .ok (.invokevirtual 103, 3) := by decide +kernel
theorem dX3_answer_78 : decode cX3_answer 78 = .ok (.iconst 2, 1) := by decide +kernel
theorem dX3_answer_79 : decode cX3_answer 79 = .ok (.if_icmp .ne 7, 3) := by decide +kernel
theorem dX3_answer_82 : decode cX3_answer 82 = .ok (.iconst 1, 1) := by decide +kernel
theorem dX3_answer_83 : decode cX3_answer 83 = .ok (.goto 4, 3) := by decide +kernel
theorem dX3_answer_86 : decode cX3_answer 86 = .ok (.iconst 0, 1) := by decide +kernel
theorem dX3_answer_87 : decode cX3_answer 87 = .ok (.ireturn, 1) := by decide +kernel
theorem dX3_answer_88 : decode cX3_answer 88 = .ok (.aload_n 0, 1) := by decide +kernel
theorem dX3_answer_89 : decode cX3_answer 89 = .ok (.getfield 49, 3) := by decide +kernel
theorem dX3_answer_92 : decode cX3_answer 92 = .ok (.ireturn, 1) := by decide +kernel
set_option maxRecDepth 20000 in
theorem ggX3_partOf_X0_octetAt : GoodIn wsX3_partOf wsX0_octetAt := goodIn_r _ [9, 10, 11, 12, 13, 8, 14, 15, 25, 26, 27] (by decide +kernel) (by decide +kernel)
set_option maxRecDepth 20000 in
theorem gX3_partOf_X0_octetAt : GoodIn wsX3_partOf (wsV RX3 63 RX0 yX0_octetAt wsX0_octetAt) := goodIn_app (goodIn_of _ (by decide +kernel)) ggX3_partOf_X0_octetAt
theorem dX3_partOf_0 : decode cX3_partOf 0 = .ok (.iload_n 1, 1) := by decide +kernel
theorem dX3_partOf_1 : decode cX3_partOf 1 = .ok (.ifCond .lt 17, 3) := by decide +kernel
theorem dX3_partOf_4 : decode cX3_partOf 4 = .ok (.iload_n 1, 1) := by decide +kernel
theorem dX3_partOf_5 : decode cX3_partOf 5 = .ok (.aload_n 0, 1) := by decide +kernel
theorem dX3_partOf_6 : decode cX3_partOf 6 = .ok (.getfield 42, 3) := by decide +kernel
theorem dX3_partOf_9 : decode cX3_partOf 9 = .ok (.if_icmp .ge 9, 3) := by decide +kernel
theorem dX3_partOf_12 : decode cX3_partOf 12 = .ok (.iload_n 1, 1) := by decide +kernel
theorem dX3_partOf_13 : decode cX3_partOf 13 = .ok (.bipush 120, 2) := by decide +kernel
theorem dX3_partOf_15 : decode cX3_partOf 15 = .ok (.if_icmp .lt 5, 3) := by decide +kernel
theorem dX3_partOf_18 : decode cX3_partOf 18 = .ok (.iconst (-1), 1) := by decide +kernel
theorem dX3_partOf_19 : decode cX3_partOf 19 = .ok (.ireturn, 1) := by decide +kernel
theorem dX3_partOf_20 : decode cX3_partOf 20 = .ok (.aload_n 0, 1) := by decide +kernel
theorem dX3_partOf_21 : decode cX3_partOf 21 = .ok (.getfield 29, 3) := by decide +kernel
theorem dX3_partOf_24 : decode cX3_partOf 24 = .ok (.iload_n 1, 1) := by decide +kernel
theorem dX3_partOf_25 : decode cX3_partOf 25 = .ok (.iaload, 1) := by decide +kernel
theorem dX3_partOf_26 : decode cX3_partOf 26 = .ok (.istore_n 3, 1) := by decide +kernel
theorem dX3_partOf_27 : decode cX3_partOf 27 = .ok (.iload_n 2, 1) := by decide +kernel
theorem dX3_partOf_28 : decode cX3_partOf 28 = .ok (.ifCond .ne 12, 3) := by decide +kernel
theorem dX3_partOf_31 : decode cX3_partOf 31 = .ok (.aload_n 0, 1) := by decide +kernel
theorem dX3_partOf_32 : decode cX3_partOf 32 = .ok (.getfield 25, 3) := by decide +kernel
theorem dX3_partOf_35 : decode cX3_partOf 35 = .ok (.iload_n 3, 1) := by decide +kernel
theorem dX3_partOf_36 : decode cX3_partOf 36 = .ok (.invokevirtual 63, 3) := by decide +kernel
theorem dX3_partOf_39 : decode cX3_partOf 39 = .ok (.ireturn, 1) := by decide +kernel
theorem dX3_partOf_40 : decode cX3_partOf 40 = .ok (.iload_n 2, 1) := by decide +kernel
theorem dX3_partOf_41 : decode cX3_partOf 41 = .ok (.iconst 1, 1) := by decide +kernel
theorem dX3_partOf_42 : decode cX3_partOf 42 = .ok (.if_icmp .ne 10, 3) := by decide +kernel
theorem dX3_partOf_45 : decode cX3_partOf 45 = .ok (.aload_n 0, 1) := by decide +kernel
theorem dX3_partOf_46 : decode cX3_partOf 46 = .ok (.getfield 32, 3) := by decide +kernel
theorem dX3_partOf_49 : decode cX3_partOf 49 = .ok (.iload_n 1, 1) := by decide +kernel
theorem dX3_partOf_50 : decode cX3_partOf 50 = .ok (.iaload, 1) := by decide +kernel
theorem dX3_partOf_51 : decode cX3_partOf 51 = .ok (.ireturn, 1) := by decide +kernel
theorem dX3_partOf_52 : decode cX3_partOf 52 = .ok (.aload_n 0, 1) := by decide +kernel
theorem dX3_partOf_53 : decode cX3_partOf 53 = .ok (.getfield 25, 3) := by decide +kernel
theorem dX3_partOf_56 : decode cX3_partOf 56 = .ok (.iload_n 3, 1) := by decide +kernel
theorem dX3_partOf_57 : decode cX3_partOf 57 = .ok (.iconst 1, 1) := by decide +kernel
theorem dX3_partOf_58 : decode cX3_partOf 58 = .ok (.iadd, 1) := by decide +kernel
theorem dX3_partOf_59 : decode cX3_partOf 59 = .ok (.invokevirtual 63, 3) := by decide +kernel
theorem dX3_partOf_62 : decode cX3_partOf 62 = .ok (.istore 4, 2) := by decide +kernel
theorem dX3_partOf_64 : decode cX3_partOf 64 = .ok (.iload_n 2, 1) := by decide +kernel
theorem dX3_partOf_65 : decode cX3_partOf 65 = .ok (.iconst 2, 1) := by decide +kernel
theorem dX3_partOf_66 : decode cX3_partOf 66 = .ok (.if_icmp .ne 6, 3) := by decide +kernel
theorem dX3_partOf_69 : decode cX3_partOf 69 = .ok (.iload 4, 2) := by decide +kernel
theorem dX3_partOf_71 : decode cX3_partOf 71 = .ok (.ireturn, 1) := by decide +kernel
theorem dX3_partOf_72 : decode cX3_partOf 72 = .ok (.iload_n 2, 1) := by decide +kernel
theorem dX3_partOf_73 : decode cX3_partOf 73 = .ok (.iconst 3, 1) := by decide +kernel
theorem dX3_partOf_74 : decode cX3_partOf 74 = .ok (.isub, 1) := by decide +kernel
theorem dX3_partOf_75 : decode cX3_partOf 75 = .ok (.iload 4, 2) := by decide +kernel
theorem dX3_partOf_77 : decode cX3_partOf 77 = .ok (.if_icmp .ge 18, 3) := by decide +kernel
theorem dX3_partOf_80 : decode cX3_partOf 80 = .ok (.aload_n 0, 1) := by decide +kernel
theorem dX3_partOf_81 : decode cX3_partOf 81 = .ok (.getfield 25, 3) := by decide +kernel
theorem dX3_partOf_84 : decode cX3_partOf 84 = .ok (.iload_n 3, 1) := by decide +kernel
theorem dX3_partOf_85 : decode cX3_partOf 85 = .ok (.iload_n 2, 1) := by decide +kernel
theorem dX3_partOf_86 : decode cX3_partOf 86 = .ok (.iadd, 1) := by decide +kernel
theorem dX3_partOf_87 : decode cX3_partOf 87 = .ok (.iconst 1, 1) := by decide +kernel
theorem dX3_partOf_88 : decode cX3_partOf 88 = .ok (.isub, 1) := by decide +kernel
theorem dX3_partOf_89 : decode cX3_partOf 89 = .ok (.invokevirtual 63, 3) := by decide +kernel
theorem dX3_partOf_92 : decode cX3_partOf 92 = .ok (.goto 4, 3) := by decide +kernel
theorem dX3_partOf_95 : decode cX3_partOf 95 = .ok (.iconst (-1), 1) := by decide +kernel
theorem dX3_partOf_96 : decode cX3_partOf 96 = .ok (.ireturn, 1) := by decide +kernel
set_option maxRecDepth 20000 in
theorem ggX4_init_X1_init : GoodIn wsX4_init wsX1_init := goodIn_r _ [29, 30, 2, 3, 16, 31, 32, 33, 34, 73, 74, 75, 76] (by decide +kernel) (by decide +kernel)
set_option maxRecDepth 20000 in
theorem gX4_init_X1_init : GoodIn wsX4_init (wsX1_init) := ggX4_init_X1_init
set_option maxRecDepth 20000 in
theorem ggX4_init_X0_init : GoodIn wsX4_init wsX0_init := goodIn_r _ [37, 38, 2, 3, 16, 39, 40, 41, 87, 88, 89] (by decide +kernel) (by decide +kernel)
set_option maxRecDepth 20000 in
theorem gX4_init_X0_init : GoodIn wsX4_init (wsX0_init) := ggX4_init_X0_init
set_option maxRecDepth 20000 in
theorem ggX4_init_X2_init : GoodIn wsX4_init wsX2_init := goodIn_r _ [44, 45, 2, 3, 16, 46, 47, 90, 91] (by decide +kernel) (by decide +kernel)
set_option maxRecDepth 20000 in
theorem gX4_init_X2_init : GoodIn wsX4_init (wsX2_init) := ggX4_init_X2_init
set_option maxRecDepth 20000 in
theorem ggX4_init_X3_init : GoodIn wsX4_init wsX3_init := goodIn_r _ [50, 51, 2, 3, 52, 13, 14, 53, 16, 54, 55, 9, 10, 56, 57, 58, 59, 43, 44, 45, 46, 47, 60, 36, 37, 38, 39, 40, 41, 61, 62, 63, 22, 64, 65, 66, 67, 68, 69, 70, 71, 72, 90, 91, 92, 93, 94, 95, 96, 97, 98, 99, 100, 87, 88, 89] (by decide +kernel) (by decide +kernel)
set_option maxRecDepth 20000 in
theorem gX4_init_X3_init : GoodIn wsX4_init (wsX3_init) := ggX4_init_X3_init
theorem dX4_init_0 : decode cX4_init 0 = .ok (.aload_n 0, 1) := by decide +kernel
theorem dX4_init_1 : decode cX4_init 1 = .ok (.invokespecial 1, 3) := by decide +kernel
theorem dX4_init_4 : decode cX4_init 4 = .ok (.aload_n 0, 1) := by decide +kernel
theorem dX4_init_5 : decode cX4_init 5 = .ok (.new 7, 3) := by decide +kernel
theorem dX4_init_8 : decode cX4_init 8 = .ok (.dup, 1) := by decide +kernel
theorem dX4_init_9 : decode cX4_init 9 = .ok (.invokespecial 9, 3) := by decide +kernel
theorem dX4_init_12 : decode cX4_init 12 = .ok (.putfield 10, 3) := by decide +kernel
theorem dX4_init_15 : decode cX4_init 15 = .ok (.aload_n 0, 1) := by decide +kernel
theorem dX4_init_16 : decode cX4_init 16 = .ok (.new 16, 3) := by decide +kernel
theorem dX4_init_19 : decode cX4_init 19 = .ok (.dup, 1) := by decide +kernel
theorem dX4_init_20 : decode cX4_init 20 = .ok (.invokespecial 18, 3) := by decide +kernel
theorem dX4_init_23 : decode cX4_init 23 = .ok (.putfield 19, 3) := by decide +kernel
theorem dX4_init_26 : decode cX4_init 26 = .ok (.aload_n 0, 1) := by decide +kernel
theorem dX4_init_27 : decode cX4_init 27 = .ok (.new 23, 3) := by decide +kernel
theorem dX4_init_30 : decode cX4_init 30 = .ok (.dup, 1) := by decide +kernel
theorem dX4_init_31 : decode cX4_init 31 = .ok (.invokespecial 25, 3) := by decide +kernel
theorem dX4_init_34 : decode cX4_init 34 = .ok (.putfield 26, 3) := by decide +kernel
theorem dX4_init_37 : decode cX4_init 37 = .ok (.aload_n 0, 1) := by decide +kernel
theorem dX4_init_38 : decode cX4_init 38 = .ok (.bipush 8, 2) := by decide +kernel
theorem dX4_init_40 : decode cX4_init 40 = .ok (.newarray .int, 2) := by decide +kernel
theorem dX4_init_42 : decode cX4_init 42 = .ok (.putfield 30, 3) := by decide +kernel
theorem dX4_init_45 : decode cX4_init 45 = .ok (.aload_n 0, 1) := by decide +kernel
theorem dX4_init_46 : decode cX4_init 46 = .ok (.bipush 40, 2) := by decide +kernel
theorem dX4_init_48 : decode cX4_init 48 = .ok (.newarray .int, 2) := by decide +kernel
theorem dX4_init_50 : decode cX4_init 50 = .ok (.putfield 34, 3) := by decide +kernel
theorem dX4_init_53 : decode cX4_init 53 = .ok (.aload_n 0, 1) := by decide +kernel
theorem dX4_init_54 : decode cX4_init 54 = .ok (.iconst 2, 1) := by decide +kernel
theorem dX4_init_55 : decode cX4_init 55 = .ok (.newarray .int, 2) := by decide +kernel
theorem dX4_init_57 : decode cX4_init 57 = .ok (.putfield 37, 3) := by decide +kernel
theorem dX4_init_60 : decode cX4_init 60 = .ok (.aload_n 0, 1) := by decide +kernel
theorem dX4_init_61 : decode cX4_init 61 = .ok (.new 40, 3) := by decide +kernel
theorem dX4_init_64 : decode cX4_init 64 = .ok (.dup, 1) := by decide +kernel
theorem dX4_init_65 : decode cX4_init 65 = .ok (.invokespecial 42, 3) := by decide +kernel
theorem dX4_init_68 : decode cX4_init 68 = .ok (.putfield 43, 3) := by decide +kernel
theorem dX4_init_71 : decode cX4_init 71 = .ok (.aload_n 0, 1) := by decide +kernel
theorem dX4_init_72 : decode cX4_init 72 = .ok (.iconst 0, 1) := by decide +kernel
theorem dX4_init_73 : decode cX4_init 73 = .ok (.putfield 47, 3) := by decide +kernel
theorem dX4_init_76 : decode cX4_init 76 = .ok (.aload_n 0, 1) := by decide +kernel
theorem dX4_init_77 : decode cX4_init 77 = .ok (.iconst 1, 1) := by decide +kernel
theorem dX4_init_78 : decode cX4_init 78 = .ok (.putfield 51, 3) := by decide +kernel
theorem dX4_init_81 : decode cX4_init 81 = .ok (.aload_n 0, 1) := by decide +kernel
theorem dX4_init_82 : decode cX4_init 82 = .ok (.iconst 0, 1) := by decide +kernel
theorem dX4_init_83 : decode cX4_init 83 = .ok (.putfield 55, 3) := by decide +kernel
theorem dX4_init_86 : decode cX4_init 86 = .ok (.return_, 1) := by decide +kernel
set_option maxRecDepth 20000 in
theorem ggX4_begin_X0_cutTo : GoodIn wsX4_begin wsX0_cutTo := goodIn_r _ [11, 12, 13, 62, 63, 64] (by decide +kernel) (by decide +kernel)
set_option maxRecDepth 20000 in
theorem gX4_begin_X0_cutTo : GoodIn wsX4_begin (wsV RX4 58 RX0 yX0_cutTo wsX0_cutTo) := goodIn_app (goodIn_of _ (by decide +kernel)) ggX4_begin_X0_cutTo
set_option maxRecDepth 20000 in
theorem ggX4_begin_X2_start : GoodIn wsX4_begin wsX2_start := goodIn_r _ [18, 19, 20, 21, 22, 23, 65, 66] (by decide +kernel) (by decide +kernel)
set_option maxRecDepth 20000 in
theorem gX4_begin_X2_start : GoodIn wsX4_begin (wsV RX4 62 RX2 yX2_start wsX2_start) := goodIn_app (goodIn_of _ (by decide +kernel)) ggX4_begin_X2_start
set_option maxRecDepth 20000 in
theorem ggX4_begin_X0_tagBefore : GoodIn wsX4_begin wsX0_tagBefore := goodIn_r _ [27, 28, 29, 30, 31, 32, 33, 34, 10, 35, 36, 37, 38, 39, 40, 12, 62, 63, 64] (by decide +kernel) (by decide +kernel)
set_option maxRecDepth 20000 in
theorem gX4_begin_X0_tagBefore : GoodIn wsX4_begin (wsV RX4 66 RX0 yX0_tagBefore wsX0_tagBefore) := goodIn_app (goodIn_of _ (by decide +kernel)) ggX4_begin_X0_tagBefore
set_option maxRecDepth 20000 in
theorem ggX4_begin_X3_forget : GoodIn wsX4_begin wsX3_forget := goodIn_r _ [45, 46, 47, 48, 49, 50, 51, 8, 9, 10, 11, 12, 13, 67, 68, 69, 70, 71, 72, 73, 74, 75, 62, 63, 64] (by decide +kernel) (by decide +kernel)
set_option maxRecDepth 20000 in
theorem gX4_begin_X3_forget : GoodIn wsX4_begin (wsV RX4 70 RX3 yX3_forget wsX3_forget) := goodIn_app (goodIn_of _ (by decide +kernel)) ggX4_begin_X3_forget
theorem dX4_begin_0 : decode cX4_begin 0 = .ok (.aload_n 0, 1) := by decide +kernel
theorem dX4_begin_1 : decode cX4_begin 1 = .ok (.getfield 19, 3) := by decide +kernel
theorem dX4_begin_4 : decode cX4_begin 4 = .ok (.iconst 0, 1) := by decide +kernel
theorem dX4_begin_5 : decode cX4_begin 5 = .ok (.invokevirtual 58, 3) := by decide +kernel
theorem dX4_begin_8 : decode cX4_begin 8 = .ok (.aload_n 0, 1) := by decide +kernel
theorem dX4_begin_9 : decode cX4_begin 9 = .ok (.getfield 26, 3) := by decide +kernel
theorem dX4_begin_12 : decode cX4_begin 12 = .ok (.iload_n 1, 1) := by decide +kernel
theorem dX4_begin_13 : decode cX4_begin 13 = .ok (.iload_n 2, 1) := by decide +kernel
theorem dX4_begin_14 : decode cX4_begin 14 = .ok (.iload_n 3, 1) := by decide +kernel
theorem dX4_begin_15 : decode cX4_begin 15 = .ok (.iload 4, 2) := by decide +kernel
theorem dX4_begin_17 : decode cX4_begin 17 = .ok (.invokevirtual 62, 3) := by decide +kernel
theorem dX4_begin_20 : decode cX4_begin 20 = .ok (.aload_n 0, 1) := by decide +kernel
theorem dX4_begin_21 : decode cX4_begin 21 = .ok (.getfield 19, 3) := by decide +kernel
theorem dX4_begin_24 : decode cX4_begin 24 = .ok (.iconst 0, 1) := by decide +kernel
theorem dX4_begin_25 : decode cX4_begin 25 = .ok (.aload_n 0, 1) := by decide +kernel
theorem dX4_begin_26 : decode cX4_begin 26 = .ok (.getfield 30, 3) := by decide +kernel
theorem dX4_begin_29 : decode cX4_begin 29 = .ok (.invokevirtual 66, 3) := by decide +kernel
theorem dX4_begin_32 : decode cX4_begin 32 = .ok (.aload_n 0, 1) := by decide +kernel
theorem dX4_begin_33 : decode cX4_begin 33 = .ok (.iconst 1, 1) := by decide +kernel
theorem dX4_begin_34 : decode cX4_begin 34 = .ok (.putfield 51, 3) := by decide +kernel
theorem dX4_begin_37 : decode cX4_begin 37 = .ok (.aload_n 0, 1) := by decide +kernel
theorem dX4_begin_38 : decode cX4_begin 38 = .ok (.iconst 0, 1) := by decide +kernel
theorem dX4_begin_39 : decode cX4_begin 39 = .ok (.putfield 55, 3) := by decide +kernel
theorem dX4_begin_42 : decode cX4_begin 42 = .ok (.aload_n 0, 1) := by decide +kernel
theorem dX4_begin_43 : decode cX4_begin 43 = .ok (.getfield 43, 3) := by decide +kernel
theorem dX4_begin_46 : decode cX4_begin 46 = .ok (.invokevirtual 70, 3) := by decide +kernel
theorem dX4_begin_49 : decode cX4_begin 49 = .ok (.return_, 1) := by decide +kernel
set_option maxRecDepth 20000 in
theorem ggX4_feed_X4_octetOfFour : GoodIn wsX4_feed wsX4_octetOfFour := goodIn_r _ [10] (by decide +kernel) (by decide +kernel)
set_option maxRecDepth 20000 in
theorem gX4_feed_X4_octetOfFour : GoodIn wsX4_feed (va_wsS RX4 85 yX4_octetOfFour wsX4_octetOfFour) := goodIn_app (goodIn_of _ (by decide +kernel)) ggX4_feed_X4_octetOfFour
theorem dX4_feed_0 : decode cX4_feed 0 = .ok (.iload_n 1, 1) := by decide +kernel
theorem dX4_feed_1 : decode cX4_feed 1 = .ok (.ifCond .lt 9, 3) := by decide +kernel
theorem dX4_feed_4 : decode cX4_feed 4 = .ok (.iload_n 1, 1) := by decide +kernel
theorem dX4_feed_5 : decode cX4_feed 5 = .ok (.bipush 16, 2) := by decide +kernel
theorem dX4_feed_7 : decode cX4_feed 7 = .ok (.if_icmp .le 13, 3) := by decide +kernel
theorem dX4_feed_10 : decode cX4_feed 10 = .ok (.new 73, 3) := by decide +kernel
theorem dX4_feed_13 : decode cX4_feed 13 = .ok (.dup, 1) := by decide +kernel
theorem dX4_feed_14 : decode cX4_feed 14 = .ok (.ldc 75, 2) := by decide +kernel
theorem dX4_feed_16 : decode cX4_feed 16 = .ok (.invokespecial 77, 3) := by decide +kernel
theorem dX4_feed_19 : decode cX4_feed 19 = .ok (.athrow, 1) := by decide +kernel
theorem dX4_feed_20 : decode cX4_feed 20 = .ok (.aload_n 0, 1) := by decide +kernel
theorem dX4_feed_21 : decode cX4_feed 21 = .ok (.getfield 47, 3) := by decide +kernel
theorem dX4_feed_24 : decode cX4_feed 24 = .ok (.iload_n 1, 1) := by decide +kernel
theorem dX4_feed_25 : decode cX4_feed 25 = .ok (.iadd, 1) := by decide +kernel
theorem dX4_feed_26 : decode cX4_feed 26 = .ok (.bipush 40, 2) := by decide +kernel
theorem dX4_feed_28 : decode cX4_feed 28 = .ok (.if_icmp .le 13, 3) := by decide +kernel
theorem dX4_feed_31 : decode cX4_feed 31 = .ok (.new 80, 3) := by decide +kernel
theorem dX4_feed_34 : decode cX4_feed 34 = .ok (.dup, 1) := by decide +kernel
theorem dX4_feed_35 : decode cX4_feed 35 = .ok (.ldc 82, 2) := by decide +kernel
theorem dX4_feed_37 : decode cX4_feed 37 = .ok (.invokespecial 84, 3) := by decide +kernel
theorem dX4_feed_40 : decode cX4_feed 40 = .ok (.athrow, 1) := by decide +kernel
theorem dX4_feed_41 : decode cX4_feed 41 = .ok (.iconst 0, 1) := by decide +kernel
theorem dX4_feed_42 : decode cX4_feed 42 = .ok (.istore 6, 2) := by decide +kernel
theorem dX4_feed_44 : decode cX4_feed 44 = .ok (.iload 6, 2) := by decide +kernel
theorem dX4_feed_46 : decode cX4_feed 46 = .ok (.iload_n 1, 1) := by decide +kernel
theorem dX4_feed_47 : decode cX4_feed 47 = .ok (.if_icmp .ge 48, 3) := by decide +kernel
theorem dX4_feed_50 : decode cX4_feed 50 = .ok (.aload_n 0, 1) := by decide +kernel
theorem dX4_feed_51 : decode cX4_feed 51 = .ok (.getfield 47, 3) := by decide +kernel
theorem dX4_feed_54 : decode cX4_feed 54 = .ok (.bipush 40, 2) := by decide +kernel
theorem dX4_feed_56 : decode cX4_feed 56 = .ok (.if_icmp .ge 39, 3) := by decide +kernel
theorem dX4_feed_59 : decode cX4_feed 59 = .ok (.aload_n 0, 1) := by decide +kernel
theorem dX4_feed_60 : decode cX4_feed 60 = .ok (.getfield 34, 3) := by decide +kernel
theorem dX4_feed_63 : decode cX4_feed 63 = .ok (.aload_n 0, 1) := by decide +kernel
theorem dX4_feed_64 : decode cX4_feed 64 = .ok (.getfield 47, 3) := by decide +kernel
theorem dX4_feed_67 : decode cX4_feed 67 = .ok (.iload 6, 2) := by decide +kernel
theorem dX4_feed_69 : decode cX4_feed 69 = .ok (.iload_n 2, 1) := by decide +kernel
theorem dX4_feed_70 : decode cX4_feed 70 = .ok (.iload_n 3, 1) := by decide +kernel
theorem dX4_feed_71 : decode cX4_feed 71 = .ok (.iload 4, 2) := by decide +kernel
theorem dX4_feed_73 : decode cX4_feed 73 = .ok (.iload 5, 2) := by decide +kernel
theorem dX4_feed_75 : decode cX4_feed 75 = .ok (.invokestatic 85, 3) := by decide +kernel
theorem dX4_feed_78 : decode cX4_feed 78 = .ok (.iastore, 1) := by decide +kernel
theorem dX4_feed_79 : decode cX4_feed 79 = .ok (.aload_n 0, 1) := by decide +kernel
theorem dX4_feed_80 : decode cX4_feed 80 = .ok (.dup, 1) := by decide +kernel
theorem dX4_feed_81 : decode cX4_feed 81 = .ok (.getfield 47, 3) := by decide +kernel
theorem dX4_feed_84 : decode cX4_feed 84 = .ok (.iconst 1, 1) := by decide +kernel
theorem dX4_feed_85 : decode cX4_feed 85 = .ok (.iadd, 1) := by decide +kernel
theorem dX4_feed_86 : decode cX4_feed 86 = .ok (.putfield 47, 3) := by decide +kernel
theorem dX4_feed_89 : decode cX4_feed 89 = .ok (.iinc 6 1, 3) := by decide +kernel
theorem dX4_feed_92 : decode cX4_feed 92 = .ok (.goto (-48), 3) := by decide +kernel
theorem dX4_feed_95 : decode cX4_feed 95 = .ok (.aload_n 0, 1) := by decide +kernel
theorem dX4_feed_96 : decode cX4_feed 96 = .ok (.getfield 47, 3) := by decide +kernel
theorem dX4_feed_99 : decode cX4_feed 99 = .ok (.ireturn, 1) := by decide +kernel
theorem dX4_erase_0 : decode cX4_erase 0 = .ok (.aload_n 0, 1) := by decide +kernel
theorem dX4_erase_1 : decode cX4_erase 1 = .ok (.getfield 47, 3) := by decide +kernel
theorem dX4_erase_4 : decode cX4_erase 4 = .ok (.istore_n 1, 1) := by decide +kernel
theorem dX4_erase_5 : decode cX4_erase 5 = .ok (.aload_n 0, 1) := by decide +kernel
theorem dX4_erase_6 : decode cX4_erase 6 = .ok (.iconst 0, 1) := by decide +kernel
theorem dX4_erase_7 : decode cX4_erase 7 = .ok (.putfield 47, 3) := by decide +kernel
theorem dX4_erase_10 : decode cX4_erase 10 = .ok (.iload_n 1, 1) := by decide +kernel
theorem dX4_erase_11 : decode cX4_erase 11 = .ok (.ireturn, 1) := by decide +kernel
set_option maxRecDepth 20000 in
theorem ggX4_append_X4_write : GoodIn wsX4_append wsX4_write := goodIn_r _ [10, 11, 12, 13, 14, 15, 16, 17, 18, 9, 19, 20, 21, 22, 23, 24, 25, 26, 27, 28, 29, 30, 31, 32, 33, 34, 35, 36, 37, 38, 39, 40, 41, 42, 43, 44, 45, 46, 47, 48, 49, 50, 51, 52, 53, 54, 55, 56, 57, 58, 59, 60, 61, 62, 63, 64, 65, 66, 67, 68, 69, 70, 71, 72, 73, 74, 75, 76, 77, 78, 79, 80, 81, 82, 83, 84, 85, 86, 87, 88, 89, 90, 91, 92, 93, 94, 95, 96, 97, 98, 99, 100, 101, 102, 103, 104, 105, 106, 107] (by decide +kernel) (by decide +kernel)
set_option maxRecDepth 20000 in
theorem gX4_append_X4_write : GoodIn wsX4_append (wsV RX4 91 RX4 yX4_write wsX4_write) := goodIn_app (goodIn_of _ (by decide +kernel)) ggX4_append_X4_write
theorem dX4_append_0 : decode cX4_append 0 = .ok (.aload_n 0, 1) := by decide +kernel
theorem dX4_append_1 : decode cX4_append 1 = .ok (.getfield 51, 3) := by decide +kernel
theorem dX4_append_4 : decode cX4_append 4 = .ok (.ifCond .ne 13, 3) := by decide +kernel
theorem dX4_append_7 : decode cX4_append 7 = .ok (.new 80, 3) := by decide +kernel
theorem dX4_append_10 : decode cX4_append 10 = .ok (.dup, 1) := by decide +kernel
theorem dX4_append_11 : decode cX4_append 11 = .ok (.ldc 89, 2) := by decide +kernel
theorem dX4_append_13 : decode cX4_append 13 = .ok (.invokespecial 84, 3) := by decide +kernel
theorem dX4_append_16 : decode cX4_append 16 = .ok (.athrow, 1) := by decide +kernel
theorem dX4_append_17 : decode cX4_append 17 = .ok (.aload_n 0, 1) := by decide +kernel
theorem dX4_append_18 : decode cX4_append 18 = .ok (.iconst 1, 1) := by decide +kernel
theorem dX4_append_19 : decode cX4_append 19 = .ok (.aload_n 0, 1) := by decide +kernel
theorem dX4_append_20 : decode cX4_append 20 = .ok (.getfield 34, 3) := by decide +kernel
theorem dX4_append_23 : decode cX4_append 23 = .ok (.aload_n 0, 1) := by decide +kernel
theorem dX4_append_24 : decode cX4_append 24 = .ok (.getfield 47, 3) := by decide +kernel
theorem dX4_append_27 : decode cX4_append 27 = .ok (.invokevirtual 91, 3) := by decide +kernel
theorem dX4_append_30 : decode cX4_append 30 = .ok (.ireturn, 1) := by decide +kernel
set_option maxRecDepth 20000 in
theorem ggX4_seal_X4_write : GoodIn wsX4_seal wsX4_write := goodIn_r _ [9, 10, 11, 12, 13, 14, 15, 16, 17, 8, 18, 19, 20, 21, 22, 23, 24, 25, 26, 27, 28, 29, 30, 31, 32, 33, 34, 35, 36, 37, 38, 39, 40, 41, 42, 43, 44, 45, 46, 47, 48, 49, 50, 51, 52, 53, 54, 55, 56, 57, 58, 59, 60, 61, 62, 63, 64, 65, 66, 67, 68, 69, 70, 71, 72, 73, 74, 75, 76, 77, 78, 79, 80, 81, 82, 83, 84, 85, 86, 87, 88, 89, 90, 91, 92, 93, 94, 95, 96, 97, 98, 99, 100, 101, 102, 103, 104, 105, 106] (by decide +kernel) (by decide +kernel)
set_option maxRecDepth 20000 in
theorem gX4_seal_X4_write : GoodIn wsX4_seal (wsV RX4 91 RX4 yX4_write wsX4_write) := goodIn_app (goodIn_of _ (by decide +kernel)) ggX4_seal_X4_write
theorem dX4_seal_0 : decode cX4_seal 0 = .ok (.aload_n 0, 1) := by decide +kernel
theorem dX4_seal_1 : decode cX4_seal 1 = .ok (.getfield 51, 3) := by decide +kernel
theorem dX4_seal_4 : decode cX4_seal 4 = .ok (.ifCond .ne 13, 3) := by decide +kernel
theorem dX4_seal_7 : decode cX4_seal 7 = .ok (.new 80, 3) := by decide +kernel
theorem dX4_seal_10 : decode cX4_seal 10 = .ok (.dup, 1) := by decide +kernel
theorem dX4_seal_11 : decode cX4_seal 11 = .ok (.ldc 89, 2) := by decide +kernel
theorem dX4_seal_13 : decode cX4_seal 13 = .ok (.invokespecial 84, 3) := by decide +kernel
theorem dX4_seal_16 : decode cX4_seal 16 = .ok (.athrow, 1) := by decide +kernel
theorem dX4_seal_17 : decode cX4_seal 17 = .ok (.aload_n 0, 1) := by decide +kernel
theorem dX4_seal_18 : decode cX4_seal 18 = .ok (.iconst 2, 1) := by decide +kernel
theorem dX4_seal_19 : decode cX4_seal 19 = .ok (.aload_n 0, 1) := by decide +kernel
theorem dX4_seal_20 : decode cX4_seal 20 = .ok (.getfield 34, 3) := by decide +kernel
theorem dX4_seal_23 : decode cX4_seal 23 = .ok (.iconst 0, 1) := by decide +kernel
theorem dX4_seal_24 : decode cX4_seal 24 = .ok (.invokevirtual 91, 3) := by decide +kernel
theorem dX4_seal_27 : decode cX4_seal 27 = .ok (.ireturn, 1) := by decide +kernel
theorem dX4_sync_0 : decode cX4_sync 0 = .ok (.aload_n 0, 1) := by decide +kernel
theorem dX4_sync_1 : decode cX4_sync 1 = .ok (.getfield 51, 3) := by decide +kernel
theorem dX4_sync_4 : decode cX4_sync 4 = .ok (.ifCond .ne 13, 3) := by decide +kernel
theorem dX4_sync_7 : decode cX4_sync 7 = .ok (.new 80, 3) := by decide +kernel
theorem dX4_sync_10 : decode cX4_sync 10 = .ok (.dup, 1) := by decide +kernel
theorem dX4_sync_11 : decode cX4_sync 11 = .ok (.ldc 89, 2) := by decide +kernel
theorem dX4_sync_13 : decode cX4_sync 13 = .ok (.invokespecial 84, 3) := by decide +kernel
theorem dX4_sync_16 : decode cX4_sync 16 = .ok (.athrow, 1) := by decide +kernel
theorem dX4_sync_17 : decode cX4_sync 17 = .ok (.aload_n 0, 1) := by decide +kernel
theorem dX4_sync_18 : decode cX4_sync 18 = .ok (.getfield 19, 3) := by decide +kernel
theorem dX4_sync_21 : decode cX4_sync 21 = .ok (.aload_n 0, 1) := by decide +kernel
theorem dX4_sync_22 : decode cX4_sync 22 = .ok (.getfield 19, 3) := by decide +kernel
theorem dX4_sync_25 : decode cX4_sync 25 = .ok (.getfield 95, 3) := by decide +kernel
theorem dX4_sync_28 : decode cX4_sync 28 = .ok (.putfield 98, 3) := by decide +kernel
theorem dX4_sync_31 : decode cX4_sync 31 = .ok (.aload_n 0, 1) := by decide +kernel
theorem dX4_sync_32 : decode cX4_sync 32 = .ok (.getfield 19, 3) := by decide +kernel
theorem dX4_sync_35 : decode cX4_sync 35 = .ok (.getfield 98, 3) := by decide +kernel
theorem dX4_sync_38 : decode cX4_sync 38 = .ok (.ireturn, 1) := by decide +kernel
theorem dX4_crash_0 : decode cX4_crash 0 = .ok (.iload_n 1, 1) := by decide +kernel
theorem dX4_crash_1 : decode cX4_crash 1 = .ok (.ifCond .ge 13, 3) := by decide +kernel
theorem dX4_crash_4 : decode cX4_crash 4 = .ok (.new 73, 3) := by decide +kernel
theorem dX4_crash_7 : decode cX4_crash 7 = .ok (.dup, 1) := by decide +kernel
theorem dX4_crash_8 : decode cX4_crash 8 = .ok (.ldc 101, 2) := by decide +kernel
theorem dX4_crash_10 : decode cX4_crash 10 = .ok (.invokespecial 77, 3) := by decide +kernel
theorem dX4_crash_13 : decode cX4_crash 13 = .ok (.athrow, 1) := by decide +kernel
theorem dX4_crash_14 : decode cX4_crash 14 = .ok (.aload_n 0, 1) := by decide +kernel
theorem dX4_crash_15 : decode cX4_crash 15 = .ok (.getfield 19, 3) := by decide +kernel
theorem dX4_crash_18 : decode cX4_crash 18 = .ok (.getfield 95, 3) := by decide +kernel
theorem dX4_crash_21 : decode cX4_crash 21 = .ok (.aload_n 0, 1) := by decide +kernel
theorem dX4_crash_22 : decode cX4_crash 22 = .ok (.getfield 19, 3) := by decide +kernel
theorem dX4_crash_25 : decode cX4_crash 25 = .ok (.getfield 98, 3) := by decide +kernel
theorem dX4_crash_28 : decode cX4_crash 28 = .ok (.isub, 1) := by decide +kernel
theorem dX4_crash_29 : decode cX4_crash 29 = .ok (.istore_n 2, 1) := by decide +kernel
theorem dX4_crash_30 : decode cX4_crash 30 = .ok (.iload_n 1, 1) := by decide +kernel
theorem dX4_crash_31 : decode cX4_crash 31 = .ok (.iload_n 2, 1) := by decide +kernel
theorem dX4_crash_32 : decode cX4_crash 32 = .ok (.invokestatic 103, 3) := by decide +kernel
theorem dX4_crash_35 : decode cX4_crash 35 = .ok (.istore_n 3, 1) := by decide +kernel
theorem dX4_crash_36 : decode cX4_crash 36 = .ok (.aload_n 0, 1) := by decide +kernel
theorem dX4_crash_37 : decode cX4_crash 37 = .ok (.getfield 19, 3) := by decide +kernel
theorem dX4_crash_40 : decode cX4_crash 40 = .ok (.aload_n 0, 1) := by decide +kernel
theorem dX4_crash_41 : decode cX4_crash 41 = .ok (.getfield 19, 3) := by decide +kernel
theorem dX4_crash_44 : decode cX4_crash 44 = .ok (.getfield 98, 3) := by decide +kernel
theorem dX4_crash_47 : decode cX4_crash 47 = .ok (.iload_n 3, 1) := by decide +kernel
theorem dX4_crash_48 : decode cX4_crash 48 = .ok (.iadd, 1) := by decide +kernel
theorem dX4_crash_49 : decode cX4_crash 49 = .ok (.putfield 95, 3) := by decide +kernel
theorem dX4_crash_52 : decode cX4_crash 52 = .ok (.aload_n 0, 1) := by decide +kernel
theorem dX4_crash_53 : decode cX4_crash 53 = .ok (.iconst 0, 1) := by decide +kernel
theorem dX4_crash_54 : decode cX4_crash 54 = .ok (.putfield 51, 3) := by decide +kernel
theorem dX4_crash_57 : decode cX4_crash 57 = .ok (.aload_n 0, 1) := by decide +kernel
theorem dX4_crash_58 : decode cX4_crash 58 = .ok (.dup, 1) := by decide +kernel
theorem dX4_crash_59 : decode cX4_crash 59 = .ok (.getfield 55, 3) := by decide +kernel
theorem dX4_crash_62 : decode cX4_crash 62 = .ok (.iconst 1, 1) := by decide +kernel
theorem dX4_crash_63 : decode cX4_crash 63 = .ok (.iadd, 1) := by decide +kernel
theorem dX4_crash_64 : decode cX4_crash 64 = .ok (.putfield 55, 3) := by decide +kernel
theorem dX4_crash_67 : decode cX4_crash 67 = .ok (.iload_n 2, 1) := by decide +kernel
theorem dX4_crash_68 : decode cX4_crash 68 = .ok (.iload_n 3, 1) := by decide +kernel
theorem dX4_crash_69 : decode cX4_crash 69 = .ok (.isub, 1) := by decide +kernel
theorem dX4_crash_70 : decode cX4_crash 70 = .ok (.ireturn, 1) := by decide +kernel
set_option maxRecDepth 20000 in
theorem ggX4_recover_X0_wholeEnd : GoodIn wsX4_recover wsX0_wholeEnd := goodIn_r _ [17, 18, 19, 20, 16, 21, 22, 23, 24, 25, 26, 27, 28, 29, 30, 31, 32, 33, 34, 35, 36, 37, 38, 135, 136, 137] (by decide +kernel) (by decide +kernel)
set_option maxRecDepth 20000 in
theorem gX4_recover_X0_wholeEnd : GoodIn wsX4_recover (wsV RX4 111 RX0 yX0_wholeEnd wsX0_wholeEnd) := goodIn_app (goodIn_of _ (by decide +kernel)) ggX4_recover_X0_wholeEnd
set_option maxRecDepth 20000 in
theorem ggX4_recover_X0_nextIndex : GoodIn wsX4_recover wsX0_nextIndex := goodIn_r _ [42, 18, 19, 20, 16, 21, 22, 23, 24, 25, 26, 27, 28, 29, 30, 31, 32, 33, 34, 43, 44, 45, 46, 35, 36, 37, 38, 135, 136, 137] (by decide +kernel) (by decide +kernel)
set_option maxRecDepth 20000 in
theorem gX4_recover_X0_nextIndex : GoodIn wsX4_recover (wsV RX4 118 RX0 yX0_nextIndex wsX0_nextIndex) := goodIn_app (goodIn_of _ (by decide +kernel)) ggX4_recover_X0_nextIndex
set_option maxRecDepth 20000 in
theorem ggX4_recover_X4_recordSize : GoodIn wsX4_recover wsX4_recordSize := goodIn_r _ [34] (by decide +kernel) (by decide +kernel)
set_option maxRecDepth 20000 in
theorem gX4_recover_X4_recordSize : GoodIn wsX4_recover (va_wsS RX4 124 yX4_recordSize wsX4_recordSize) := goodIn_app (goodIn_of _ (by decide +kernel)) ggX4_recover_X4_recordSize
set_option maxRecDepth 20000 in
theorem ggX4_recover_X0_cutTo : GoodIn wsX4_recover wsX0_cutTo := goodIn_r _ [51, 22, 52, 135, 136, 137] (by decide +kernel) (by decide +kernel)
set_option maxRecDepth 20000 in
theorem gX4_recover_X0_cutTo : GoodIn wsX4_recover (wsV RX4 58 RX0 yX0_cutTo wsX0_cutTo) := goodIn_app (goodIn_of _ (by decide +kernel)) ggX4_recover_X0_cutTo
set_option maxRecDepth 20000 in
theorem ggX4_recover_X0_tagBefore : GoodIn wsX4_recover wsX0_tagBefore := goodIn_r _ [56, 57, 8, 9, 10, 23, 24, 25, 16, 26, 27, 28, 29, 30, 31, 22, 135, 136, 137] (by decide +kernel) (by decide +kernel)
set_option maxRecDepth 20000 in
theorem gX4_recover_X0_tagBefore : GoodIn wsX4_recover (wsV RX4 66 RX0 yX0_tagBefore wsX0_tagBefore) := goodIn_app (goodIn_of _ (by decide +kernel)) ggX4_recover_X0_tagBefore
set_option maxRecDepth 20000 in
theorem ggX4_recover_X4_write : GoodIn wsX4_recover wsX4_write := goodIn_r _ [61, 4, 62, 5, 6, 63, 11, 47, 32, 33, 34, 64, 65, 66, 16, 67, 22, 27, 68, 69, 70, 71, 72, 73, 74, 75, 76, 77, 78, 79, 80, 81, 82, 83, 84, 85, 86, 87, 88, 89, 24, 25, 26, 28, 29, 30, 31, 90, 91, 92, 93, 94, 95, 96, 97, 98, 99, 100, 101, 102, 103, 104, 105, 106, 107, 108, 109, 110, 111, 112, 113, 114, 115, 116, 117, 118, 119, 120, 121, 122, 123, 124, 125, 126, 127, 128, 129, 130, 131, 132, 135, 136, 137, 133, 134, 138, 139, 140, 141] (by decide +kernel) (by decide +kernel)
set_option maxRecDepth 20000 in
theorem gX4_recover_X4_write : GoodIn wsX4_recover (wsV RX4 91 RX4 yX4_write wsX4_write) := goodIn_app (goodIn_of _ (by decide +kernel)) ggX4_recover_X4_write
theorem dX4_recover_0 : decode cX4_recover 0 = .ok (.aload_n 0, 1) := by decide +kernel
theorem dX4_recover_1 : decode cX4_recover 1 = .ok (.getfield 51, 3) := by decide +kernel
theorem dX4_recover_4 : decode cX4_recover 4 = .ok (.ifCond .eq 13, 3) := by decide +kernel
theorem dX4_recover_7 : decode cX4_recover 7 = .ok (.new 80, 3) := by decide +kernel
theorem dX4_recover_10 : decode cX4_recover 10 = .ok (.dup, 1) := by decide +kernel
theorem dX4_recover_11 : decode cX4_recover 11 = .ok (.ldc 109, 2) := by decide +kernel
theorem dX4_recover_13 : decode cX4_recover 13 = .ok (.invokespecial 84, 3) := by decide +kernel
theorem dX4_recover_16 : decode cX4_recover 16 = .ok (.athrow, 1) := by decide +kernel
theorem dX4_recover_17 : decode cX4_recover 17 = .ok (.aload_n 0, 1) := by decide +kernel
theorem dX4_recover_18 : decode cX4_recover 18 = .ok (.getfield 19, 3) := by decide +kernel
theorem dX4_recover_21 : decode cX4_recover 21 = .ok (.invokevirtual 111, 3) := by decide +kernel
theorem dX4_recover_24 : decode cX4_recover 24 = .ok (.istore_n 1, 1) := by decide +kernel
theorem dX4_recover_25 : decode cX4_recover 25 = .ok (.iconst 0, 1) := by decide +kernel
theorem dX4_recover_26 : decode cX4_recover 26 = .ok (.aload_n 0, 1) := by decide +kernel
theorem dX4_recover_27 : decode cX4_recover 27 = .ok (.getfield 26, 3) := by decide +kernel
theorem dX4_recover_30 : decode cX4_recover 30 = .ok (.getfield 115, 3) := by decide +kernel
theorem dX4_recover_33 : decode cX4_recover 33 = .ok (.aload_n 0, 1) := by decide +kernel
theorem dX4_recover_34 : decode cX4_recover 34 = .ok (.getfield 19, 3) := by decide +kernel
theorem dX4_recover_37 : decode cX4_recover 37 = .ok (.invokevirtual 118, 3) := by decide +kernel
theorem dX4_recover_40 : decode cX4_recover 40 = .ok (.isub, 1) := by decide +kernel
theorem dX4_recover_41 : decode cX4_recover 41 = .ok (.invokestatic 121, 3) := by decide +kernel
theorem dX4_recover_44 : decode cX4_recover 44 = .ok (.istore_n 2, 1) := by decide +kernel
theorem dX4_recover_45 : decode cX4_recover 45 = .ok (.iload_n 2, 1) := by decide +kernel
theorem dX4_recover_46 : decode cX4_recover 46 = .ok (.ifCond .le 18, 3) := by decide +kernel
theorem dX4_recover_49 : decode cX4_recover 49 = .ok (.iload_n 1, 1) := by decide +kernel
theorem dX4_recover_50 : decode cX4_recover 50 = .ok (.iconst 2, 1) := by decide +kernel
theorem dX4_recover_51 : decode cX4_recover 51 = .ok (.invokestatic 124, 3) := by decide +kernel
theorem dX4_recover_54 : decode cX4_recover 54 = .ok (.iadd, 1) := by decide +kernel
theorem dX4_recover_55 : decode cX4_recover 55 = .ok (.sipush 1200, 3) := by decide +kernel
theorem dX4_recover_58 : decode cX4_recover 58 = .ok (.if_icmp .le 6, 3) := by decide +kernel
theorem dX4_recover_61 : decode cX4_recover 61 = .ok (.bipush (-2), 2) := by decide +kernel
theorem dX4_recover_63 : decode cX4_recover 63 = .ok (.ireturn, 1) := by decide +kernel
theorem dX4_recover_64 : decode cX4_recover 64 = .ok (.aload_n 0, 1) := by decide +kernel
theorem dX4_recover_65 : decode cX4_recover 65 = .ok (.getfield 19, 3) := by decide +kernel
theorem dX4_recover_68 : decode cX4_recover 68 = .ok (.iload_n 1, 1) := by decide +kernel
theorem dX4_recover_69 : decode cX4_recover 69 = .ok (.invokevirtual 58, 3) := by decide +kernel
theorem dX4_recover_72 : decode cX4_recover 72 = .ok (.aload_n 0, 1) := by decide +kernel
theorem dX4_recover_73 : decode cX4_recover 73 = .ok (.getfield 19, 3) := by decide +kernel
theorem dX4_recover_76 : decode cX4_recover 76 = .ok (.iload_n 1, 1) := by decide +kernel
theorem dX4_recover_77 : decode cX4_recover 77 = .ok (.aload_n 0, 1) := by decide +kernel
theorem dX4_recover_78 : decode cX4_recover 78 = .ok (.getfield 30, 3) := by decide +kernel
theorem dX4_recover_81 : decode cX4_recover 81 = .ok (.invokevirtual 66, 3) := by decide +kernel
theorem dX4_recover_84 : decode cX4_recover 84 = .ok (.aload_n 0, 1) := by decide +kernel
theorem dX4_recover_85 : decode cX4_recover 85 = .ok (.iconst 1, 1) := by decide +kernel
theorem dX4_recover_86 : decode cX4_recover 86 = .ok (.putfield 51, 3) := by decide +kernel
theorem dX4_recover_89 : decode cX4_recover 89 = .ok (.iload_n 2, 1) := by decide +kernel
theorem dX4_recover_90 : decode cX4_recover 90 = .ok (.ifCond .le 39, 3) := by decide +kernel
theorem dX4_recover_93 : decode cX4_recover 93 = .ok (.aload_n 0, 1) := by decide +kernel
theorem dX4_recover_94 : decode cX4_recover 94 = .ok (.getfield 37, 3) := by decide +kernel
theorem dX4_recover_97 : decode cX4_recover 97 = .ok (.iconst 0, 1) := by decide +kernel
theorem dX4_recover_98 : decode cX4_recover 98 = .ok (.iload_n 2, 1) := by decide +kernel
theorem dX4_recover_99 : decode cX4_recover 99 = .ok (.bipush 8, 2) := by decide +kernel
theorem dX4_recover_101 : decode cX4_recover 101 = .ok (.iushr, 1) := by decide +kernel
theorem dX4_recover_102 : decode cX4_recover 102 = .ok (.sipush 255, 3) := by decide +kernel
theorem dX4_recover_105 : decode cX4_recover 105 = .ok (.iand, 1) := by decide +kernel
theorem dX4_recover_106 : decode cX4_recover 106 = .ok (.iastore, 1) := by decide +kernel
theorem dX4_recover_107 : decode cX4_recover 107 = .ok (.aload_n 0, 1) := by decide +kernel
theorem dX4_recover_108 : decode cX4_recover 108 = .ok (.getfield 37, 3) := by decide +kernel
theorem dX4_recover_111 : decode cX4_recover 111 = .ok (.iconst 1, 1) := by decide +kernel
theorem dX4_recover_112 : decode cX4_recover 112 = .ok (.iload_n 2, 1) := by decide +kernel
theorem dX4_recover_113 : decode cX4_recover 113 = .ok (.sipush 255, 3) := by decide +kernel
theorem dX4_recover_116 : decode cX4_recover 116 = .ok (.iand, 1) := by decide +kernel
theorem dX4_recover_117 : decode cX4_recover 117 = .ok (.iastore, 1) := by decide +kernel
theorem dX4_recover_118 : decode cX4_recover 118 = .ok (.aload_n 0, 1) := by decide +kernel
theorem dX4_recover_119 : decode cX4_recover 119 = .ok (.iconst 3, 1) := by decide +kernel
theorem dX4_recover_120 : decode cX4_recover 120 = .ok (.aload_n 0, 1) := by decide +kernel
theorem dX4_recover_121 : decode cX4_recover 121 = .ok (.getfield 37, 3) := by decide +kernel
theorem dX4_recover_124 : decode cX4_recover 124 = .ok (.iconst 2, 1) := by decide +kernel
theorem dX4_recover_125 : decode cX4_recover 125 = .ok (.invokevirtual 91, 3) := by decide +kernel
theorem dX4_recover_128 : decode cX4_recover 128 = .ok (.pop, 1) := by decide +kernel
theorem dX4_recover_129 : decode cX4_recover 129 = .ok (.iload_n 2, 1) := by decide +kernel
theorem dX4_recover_130 : decode cX4_recover 130 = .ok (.ireturn, 1) := by decide +kernel
set_option maxRecDepth 20000 in
theorem ggX4_verify_X3_goThrough : GoodIn wsX4_verify wsX3_goThrough := goodIn_r _ [8, 9, 10, 11, 12, 13, 14, 15, 16, 17, 18, 19, 20, 21, 7, 22, 23, 24, 25, 26, 27, 28, 29, 30, 31, 32, 33, 34, 35, 36, 37, 38, 39, 40, 41, 42, 43, 44, 45, 46, 47, 48, 49, 50, 51, 52, 53, 54, 55, 56, 57, 58, 59, 60, 61, 62, 63, 64, 65, 66, 67, 68, 69, 70, 71, 72, 73, 74, 75, 76, 77, 78, 79, 80, 81, 82, 83, 84, 85, 86, 87, 88, 89, 90, 91, 92, 93, 94, 95, 96, 97, 98, 99, 100, 101, 102, 103, 104, 105, 106, 107, 108, 109, 110, 111, 112, 113, 114, 115, 116, 117, 118, 119, 120, 121, 122, 123, 124, 125, 126, 127, 128, 129, 130, 131, 132, 143, 144, 145, 146, 147, 148, 149, 150, 151, 152, 153, 154, 155, 156, 157, 158, 159, 160] (by decide +kernel) (by decide +kernel)
set_option maxRecDepth 20000 in
theorem gX4_verify_X3_goThrough : GoodIn wsX4_verify (wsV RX4 128 RX3 yX3_goThrough wsX3_goThrough) := goodIn_app (goodIn_of _ (by decide +kernel)) ggX4_verify_X3_goThrough
theorem dX4_verify_0 : decode cX4_verify 0 = .ok (.aload_n 0, 1) := by decide +kernel
theorem dX4_verify_1 : decode cX4_verify 1 = .ok (.getfield 43, 3) := by decide +kernel
theorem dX4_verify_4 : decode cX4_verify 4 = .ok (.aload_n 0, 1) := by decide +kernel
theorem dX4_verify_5 : decode cX4_verify 5 = .ok (.getfield 19, 3) := by decide +kernel
theorem dX4_verify_8 : decode cX4_verify 8 = .ok (.aload_n 0, 1) := by decide +kernel
theorem dX4_verify_9 : decode cX4_verify 9 = .ok (.getfield 10, 3) := by decide +kernel
theorem dX4_verify_12 : decode cX4_verify 12 = .ok (.iload_n 1, 1) := by decide +kernel
theorem dX4_verify_13 : decode cX4_verify 13 = .ok (.iload_n 2, 1) := by decide +kernel
theorem dX4_verify_14 : decode cX4_verify 14 = .ok (.iload_n 3, 1) := by decide +kernel
theorem dX4_verify_15 : decode cX4_verify 15 = .ok (.iload 4, 2) := by decide +kernel
theorem dX4_verify_17 : decode cX4_verify 17 = .ok (.invokevirtual 128, 3) := by decide +kernel
theorem dX4_verify_20 : decode cX4_verify 20 = .ok (.ireturn, 1) := by decide +kernel
set_option maxRecDepth 20000 in
theorem ggX4_told_X3_answer : GoodIn wsX4_told wsX3_answer := goodIn_r _ [8, 9, 10, 11, 12, 13, 14, 15, 7, 16, 17, 18, 19, 20, 21, 22, 23, 24, 25, 26, 27, 28, 29, 30, 41, 42, 43, 44, 45, 46, 47, 48, 49, 50, 51, 52] (by decide +kernel) (by decide +kernel)
set_option maxRecDepth 20000 in
theorem gX4_told_X3_answer : GoodIn wsX4_told (wsV RX4 134 RX3 yX3_answer wsX3_answer) := goodIn_app (goodIn_of _ (by decide +kernel)) ggX4_told_X3_answer
theorem dX4_told_0 : decode cX4_told 0 = .ok (.iload_n 1, 1) := by decide +kernel
theorem dX4_told_1 : decode cX4_told 1 = .ok (.ifCond .lt 8, 3) := by decide +kernel
theorem dX4_told_4 : decode cX4_told 4 = .ok (.iload_n 1, 1) := by decide +kernel
theorem dX4_told_5 : decode cX4_told 5 = .ok (.iconst 4, 1) := by decide +kernel
theorem dX4_told_6 : decode cX4_told 6 = .ok (.if_icmp .le 13, 3) := by decide +kernel
theorem dX4_told_9 : decode cX4_told 9 = .ok (.new 73, 3) := by decide +kernel
theorem dX4_told_12 : decode cX4_told 12 = .ok (.dup, 1) := by decide +kernel
theorem dX4_told_13 : decode cX4_told 13 = .ok (.ldc 132, 2) := by decide +kernel
theorem dX4_told_15 : decode cX4_told 15 = .ok (.invokespecial 77, 3) := by decide +kernel
theorem dX4_told_18 : decode cX4_told 18 = .ok (.athrow, 1) := by decide +kernel
theorem dX4_told_19 : decode cX4_told 19 = .ok (.aload_n 0, 1) := by decide +kernel
theorem dX4_told_20 : decode cX4_told 20 = .ok (.getfield 43, 3) := by decide +kernel
theorem dX4_told_23 : decode cX4_told 23 = .ok (.iload_n 1, 1) := by decide +kernel
theorem dX4_told_24 : decode cX4_told 24 = .ok (.invokevirtual 134, 3) := by decide +kernel
theorem dX4_told_27 : decode cX4_told 27 = .ok (.ireturn, 1) := by decide +kernel
set_option maxRecDepth 20000 in
theorem ggX4_record_X3_partOf : GoodIn wsX4_record wsX3_partOf := goodIn_r _ [8, 9, 10, 11, 12, 13, 14, 15, 16, 17, 18, 19, 20, 21, 22, 23, 34, 35, 36, 37, 38, 39, 40, 41, 42, 43, 44, 45] (by decide +kernel) (by decide +kernel)
set_option maxRecDepth 20000 in
theorem gX4_record_X3_partOf : GoodIn wsX4_record (wsV RX4 139 RX3 yX3_partOf wsX3_partOf) := goodIn_app (goodIn_of _ (by decide +kernel)) ggX4_record_X3_partOf
theorem dX4_record_0 : decode cX4_record 0 = .ok (.iload_n 2, 1) := by decide +kernel
theorem dX4_record_1 : decode cX4_record 1 = .ok (.ifCond .lt 9, 3) := by decide +kernel
theorem dX4_record_4 : decode cX4_record 4 = .ok (.iload_n 2, 1) := by decide +kernel
theorem dX4_record_5 : decode cX4_record 5 = .ok (.bipush 42, 2) := by decide +kernel
theorem dX4_record_7 : decode cX4_record 7 = .ok (.if_icmp .le 13, 3) := by decide +kernel
theorem dX4_record_10 : decode cX4_record 10 = .ok (.new 73, 3) := by decide +kernel
theorem dX4_record_13 : decode cX4_record 13 = .ok (.dup, 1) := by decide +kernel
theorem dX4_record_14 : decode cX4_record 14 = .ok (.ldc 137, 2) := by decide +kernel
theorem dX4_record_16 : decode cX4_record 16 = .ok (.invokespecial 77, 3) := by decide +kernel
theorem dX4_record_19 : decode cX4_record 19 = .ok (.athrow, 1) := by decide +kernel
theorem dX4_record_20 : decode cX4_record 20 = .ok (.aload_n 0, 1) := by decide +kernel
theorem dX4_record_21 : decode cX4_record 21 = .ok (.getfield 43, 3) := by decide +kernel
theorem dX4_record_24 : decode cX4_record 24 = .ok (.iload_n 1, 1) := by decide +kernel
theorem dX4_record_25 : decode cX4_record 25 = .ok (.iload_n 2, 1) := by decide +kernel
theorem dX4_record_26 : decode cX4_record 26 = .ok (.invokevirtual 139, 3) := by decide +kernel
theorem dX4_record_29 : decode cX4_record 29 = .ok (.ireturn, 1) := by decide +kernel
set_option maxRecDepth 20000 in
theorem ggX4_bend_X0_has : GoodIn wsX4_bend wsX0_has := goodIn_r _ [10, 11, 12, 28, 29, 30] (by decide +kernel) (by decide +kernel)
set_option maxRecDepth 20000 in
theorem gX4_bend_X0_has : GoodIn wsX4_bend (wsV RX4 142 RX0 yX0_has wsX0_has) := goodIn_app (goodIn_of _ (by decide +kernel)) ggX4_bend_X0_has
set_option maxRecDepth 20000 in
theorem ggX4_bend_X0_turnRound : GoodIn wsX4_bend wsX0_turnRound := goodIn_r _ [16, 12, 17, 7, 8, 9, 10, 11, 28, 29, 30] (by decide +kernel) (by decide +kernel)
set_option maxRecDepth 20000 in
theorem gX4_bend_X0_turnRound : GoodIn wsX4_bend (wsV RX4 153 RX0 yX0_turnRound wsX0_turnRound) := goodIn_app (goodIn_of _ (by decide +kernel)) ggX4_bend_X0_turnRound
theorem dX4_bend_0 : decode cX4_bend 0 = .ok (.aload_n 0, 1) := by decide +kernel
theorem dX4_bend_1 : decode cX4_bend 1 = .ok (.getfield 19, 3) := by decide +kernel
theorem dX4_bend_4 : decode cX4_bend 4 = .ok (.iload_n 1, 1) := by decide +kernel
theorem dX4_bend_5 : decode cX4_bend 5 = .ok (.invokevirtual 142, 3) := by decide +kernel
theorem dX4_bend_8 : decode cX4_bend 8 = .ok (.ifCond .ne 13, 3) := by decide +kernel
theorem dX4_bend_11 : decode cX4_bend 11 = .ok (.new 146, 3) := by decide +kernel
theorem dX4_bend_14 : decode cX4_bend 14 = .ok (.dup, 1) := by decide +kernel
theorem dX4_bend_15 : decode cX4_bend 15 = .ok (.ldc 148, 2) := by decide +kernel
theorem dX4_bend_17 : decode cX4_bend 17 = .ok (.invokespecial 150, 3) := by decide +kernel
theorem dX4_bend_20 : decode cX4_bend 20 = .ok (.athrow, 1) := by decide +kernel
theorem dX4_bend_21 : decode cX4_bend 21 = .ok (.iload_n 2, 1) := by decide +kernel
theorem dX4_bend_22 : decode cX4_bend 22 = .ok (.ifCond .lt 9, 3) := by decide +kernel
theorem dX4_bend_25 : decode cX4_bend 25 = .ok (.iload_n 2, 1) := by decide +kernel
theorem dX4_bend_26 : decode cX4_bend 26 = .ok (.bipush 7, 2) := by decide +kernel
theorem dX4_bend_28 : decode cX4_bend 28 = .ok (.if_icmp .le 13, 3) := by decide +kernel
theorem dX4_bend_31 : decode cX4_bend 31 = .ok (.new 73, 3) := by decide +kernel
theorem dX4_bend_34 : decode cX4_bend 34 = .ok (.dup, 1) := by decide +kernel
theorem dX4_bend_35 : decode cX4_bend 35 = .ok (.ldc 151, 2) := by decide +kernel
theorem dX4_bend_37 : decode cX4_bend 37 = .ok (.invokespecial 77, 3) := by decide +kernel
theorem dX4_bend_40 : decode cX4_bend 40 = .ok (.athrow, 1) := by decide +kernel
theorem dX4_bend_41 : decode cX4_bend 41 = .ok (.aload_n 0, 1) := by decide +kernel
theorem dX4_bend_42 : decode cX4_bend 42 = .ok (.getfield 19, 3) := by decide +kernel
theorem dX4_bend_45 : decode cX4_bend 45 = .ok (.iload_n 1, 1) := by decide +kernel
theorem dX4_bend_46 : decode cX4_bend 46 = .ok (.iload_n 2, 1) := by decide +kernel
theorem dX4_bend_47 : decode cX4_bend 47 = .ok (.invokevirtual 153, 3) := by decide +kernel
theorem dX4_bend_50 : decode cX4_bend 50 = .ok (.ireturn, 1) := by decide +kernel
set_option maxRecDepth 20000 in
theorem ggX4_octet_X0_octetAt : GoodIn wsX4_octet wsX0_octetAt := goodIn_r _ [6, 7, 8, 9, 10, 5, 11, 12, 23, 24, 25] (by decide +kernel) (by decide +kernel)
set_option maxRecDepth 20000 in
theorem gX4_octet_X0_octetAt : GoodIn wsX4_octet (wsV RX4 156 RX0 yX0_octetAt wsX0_octetAt) := goodIn_app (goodIn_of _ (by decide +kernel)) ggX4_octet_X0_octetAt
theorem dX4_octet_0 : decode cX4_octet 0 = .ok (.aload_n 0, 1) := by decide +kernel
theorem dX4_octet_1 : decode cX4_octet 1 = .ok (.getfield 19, 3) := by decide +kernel
theorem dX4_octet_4 : decode cX4_octet 4 = .ok (.iload_n 1, 1) := by decide +kernel
theorem dX4_octet_5 : decode cX4_octet 5 = .ok (.invokevirtual 156, 3) := by decide +kernel
theorem dX4_octet_8 : decode cX4_octet 8 = .ok (.ireturn, 1) := by decide +kernel
theorem dX4_key_0 : decode cX4_key 0 = .ok (.iload_n 1, 1) := by decide +kernel
theorem dX4_key_1 : decode cX4_key 1 = .ok (.ifCond .lt 9, 3) := by decide +kernel
theorem dX4_key_4 : decode cX4_key 4 = .ok (.iload_n 1, 1) := by decide +kernel
theorem dX4_key_5 : decode cX4_key 5 = .ok (.bipush 16, 2) := by decide +kernel
theorem dX4_key_7 : decode cX4_key 7 = .ok (.if_icmp .lt 13, 3) := by decide +kernel
theorem dX4_key_10 : decode cX4_key 10 = .ok (.new 73, 3) := by decide +kernel
theorem dX4_key_13 : decode cX4_key 13 = .ok (.dup, 1) := by decide +kernel
theorem dX4_key_14 : decode cX4_key 14 = .ok (.ldc 159, 2) := by decide +kernel
theorem dX4_key_16 : decode cX4_key 16 = .ok (.invokespecial 77, 3) := by decide +kernel
theorem dX4_key_19 : decode cX4_key 19 = .ok (.athrow, 1) := by decide +kernel
theorem dX4_key_20 : decode cX4_key 20 = .ok (.aload_n 0, 1) := by decide +kernel
theorem dX4_key_21 : decode cX4_key 21 = .ok (.getfield 26, 3) := by decide +kernel
theorem dX4_key_24 : decode cX4_key 24 = .ok (.getfield 161, 3) := by decide +kernel
theorem dX4_key_27 : decode cX4_key 27 = .ok (.iload_n 1, 1) := by decide +kernel
theorem dX4_key_28 : decode cX4_key 28 = .ok (.iaload, 1) := by decide +kernel
theorem dX4_key_29 : decode cX4_key 29 = .ok (.ireturn, 1) := by decide +kernel
theorem dX4_count_0 : decode cX4_count 0 = .ok (.iload_n 1, 1) := by decide +kernel
theorem dX4_count_1 : decode cX4_count 1 = .ok (.tableswitch 86 0 5 #[39, 47, 55, 63, 76, 81], 39) := by decide +kernel
theorem dX4_count_40 : decode cX4_count 40 = .ok (.aload_n 0, 1) := by decide +kernel
theorem dX4_count_41 : decode cX4_count 41 = .ok (.getfield 19, 3) := by decide +kernel
theorem dX4_count_44 : decode cX4_count 44 = .ok (.getfield 95, 3) := by decide +kernel
theorem dX4_count_47 : decode cX4_count 47 = .ok (.ireturn, 1) := by decide +kernel
theorem dX4_count_48 : decode cX4_count 48 = .ok (.aload_n 0, 1) := by decide +kernel
theorem dX4_count_49 : decode cX4_count 49 = .ok (.getfield 19, 3) := by decide +kernel
theorem dX4_count_52 : decode cX4_count 52 = .ok (.getfield 98, 3) := by decide +kernel
theorem dX4_count_55 : decode cX4_count 55 = .ok (.ireturn, 1) := by decide +kernel
theorem dX4_count_56 : decode cX4_count 56 = .ok (.aload_n 0, 1) := by decide +kernel
theorem dX4_count_57 : decode cX4_count 57 = .ok (.getfield 26, 3) := by decide +kernel
theorem dX4_count_60 : decode cX4_count 60 = .ok (.getfield 115, 3) := by decide +kernel
theorem dX4_count_63 : decode cX4_count 63 = .ok (.ireturn, 1) := by decide +kernel
theorem dX4_count_64 : decode cX4_count 64 = .ok (.aload_n 0, 1) := by decide +kernel
theorem dX4_count_65 : decode cX4_count 65 = .ok (.getfield 51, 3) := by decide +kernel
theorem dX4_count_68 : decode cX4_count 68 = .ok (.ifCond .eq 7, 3) := by decide +kernel
theorem dX4_count_71 : decode cX4_count 71 = .ok (.iconst 1, 1) := by decide +kernel
theorem dX4_count_72 : decode cX4_count 72 = .ok (.goto 4, 3) := by decide +kernel
theorem dX4_count_75 : decode cX4_count 75 = .ok (.iconst 0, 1) := by decide +kernel
theorem dX4_count_76 : decode cX4_count 76 = .ok (.ireturn, 1) := by decide +kernel
theorem dX4_count_77 : decode cX4_count 77 = .ok (.aload_n 0, 1) := by decide +kernel
theorem dX4_count_78 : decode cX4_count 78 = .ok (.getfield 55, 3) := by decide +kernel
theorem dX4_count_81 : decode cX4_count 81 = .ok (.ireturn, 1) := by decide +kernel
theorem dX4_count_82 : decode cX4_count 82 = .ok (.aload_n 0, 1) := by decide +kernel
theorem dX4_count_83 : decode cX4_count 83 = .ok (.getfield 47, 3) := by decide +kernel
theorem dX4_count_86 : decode cX4_count 86 = .ok (.ireturn, 1) := by decide +kernel
theorem dX4_count_87 : decode cX4_count 87 = .ok (.new 73, 3) := by decide +kernel
theorem dX4_count_90 : decode cX4_count 90 = .ok (.dup, 1) := by decide +kernel
theorem dX4_count_91 : decode cX4_count 91 = .ok (.ldc 164, 2) := by decide +kernel
theorem dX4_count_93 : decode cX4_count 93 = .ok (.invokespecial 77, 3) := by decide +kernel
theorem dX4_count_96 : decode cX4_count 96 = .ok (.athrow, 1) := by decide +kernel
set_option maxRecDepth 20000 in
theorem ggX4_write_X4_recordSize : GoodIn wsX4_write wsX4_recordSize := goodIn_r _ [10] (by decide +kernel) (by decide +kernel)
set_option maxRecDepth 20000 in
theorem gX4_write_X4_recordSize : GoodIn wsX4_write (va_wsS RX4 124 yX4_recordSize wsX4_recordSize) := goodIn_app (goodIn_of _ (by decide +kernel)) ggX4_write_X4_recordSize
set_option maxRecDepth 20000 in
theorem ggX4_write_X0_add : GoodIn wsX4_write wsX0_add := goodIn_r _ [15, 16, 17, 90, 91, 92] (by decide +kernel) (by decide +kernel)
set_option maxRecDepth 20000 in
theorem gX4_write_X0_add : GoodIn wsX4_write (wsV RX4 166 RX0 yX0_add wsX0_add) := goodIn_app (goodIn_of _ (by decide +kernel)) ggX4_write_X0_add
set_option maxRecDepth 20000 in
theorem ggX4_write_X1_makeTag : GoodIn wsX4_write wsX1_makeTag := goodIn_r _ [22, 23, 24, 25, 26, 21, 27, 28, 29, 30, 31, 32, 33, 34, 35, 36, 37, 38, 39, 40, 41, 14, 42, 17, 43, 44, 45, 46, 16, 47, 48, 49, 50, 51, 52, 53, 54, 55, 56, 57, 58, 59, 60, 61, 62, 63, 64, 65, 66, 67, 93, 94, 95, 96, 97, 98, 90, 91, 92] (by decide +kernel) (by decide +kernel)
set_option maxRecDepth 20000 in
theorem gX4_write_X1_makeTag : GoodIn wsX4_write (wsV RX4 169 RX1 yX1_makeTag wsX1_makeTag) := goodIn_app (goodIn_of _ (by decide +kernel)) ggX4_write_X1_makeTag
set_option maxRecDepth 20000 in
theorem ggX4_write_X1_hashOctet : GoodIn wsX4_write wsX1_hashOctet := goodIn_r _ [67, 51, 95, 96, 97, 98] (by decide +kernel) (by decide +kernel)
set_option maxRecDepth 20000 in
theorem gX4_write_X1_hashOctet : GoodIn wsX4_write (wsV RX4 173 RX1 yX1_hashOctet wsX1_hashOctet) := goodIn_app (goodIn_of _ (by decide +kernel)) ggX4_write_X1_hashOctet
set_option maxRecDepth 20000 in
theorem ggX4_write_X2_turn : GoodIn wsX4_write wsX2_turn := goodIn_r _ [73, 74, 75, 76, 30, 31, 21, 32, 33, 77, 35, 36, 37, 38, 78, 48, 49, 50, 51, 34, 52, 53, 54, 55, 56, 57, 58, 59, 60, 61, 62, 63, 79, 65, 66, 67, 93, 94, 95, 96, 97, 98] (by decide +kernel) (by decide +kernel)
set_option maxRecDepth 20000 in
theorem gX4_write_X2_turn : GoodIn wsX4_write (wsV RX4 176 RX2 yX2_turn wsX2_turn) := goodIn_app (goodIn_of _ (by decide +kernel)) ggX4_write_X2_turn
theorem dX4_write_0 : decode cX4_write 0 = .ok (.aload_n 0, 1) := by decide +kernel
theorem dX4_write_1 : decode cX4_write 1 = .ok (.getfield 19, 3) := by decide +kernel
theorem dX4_write_4 : decode cX4_write 4 = .ok (.getfield 95, 3) := by decide +kernel
theorem dX4_write_7 : decode cX4_write 7 = .ok (.istore 4, 2) := by decide +kernel
theorem dX4_write_9 : decode cX4_write 9 = .ok (.iload 4, 2) := by decide +kernel
theorem dX4_write_11 : decode cX4_write 11 = .ok (.iload_n 3, 1) := by decide +kernel
theorem dX4_write_12 : decode cX4_write 12 = .ok (.invokestatic 124, 3) := by decide +kernel
theorem dX4_write_15 : decode cX4_write 15 = .ok (.iadd, 1) := by decide +kernel
theorem dX4_write_16 : decode cX4_write 16 = .ok (.sipush 1200, 3) := by decide +kernel
theorem dX4_write_19 : decode cX4_write 19 = .ok (.if_icmp .le 6, 3) := by decide +kernel
theorem dX4_write_22 : decode cX4_write 22 = .ok (.bipush (-2), 2) := by decide +kernel
theorem dX4_write_24 : decode cX4_write 24 = .ok (.ireturn, 1) := by decide +kernel
theorem dX4_write_25 : decode cX4_write 25 = .ok (.aload_n 0, 1) := by decide +kernel
theorem dX4_write_26 : decode cX4_write 26 = .ok (.getfield 26, 3) := by decide +kernel
theorem dX4_write_29 : decode cX4_write 29 = .ok (.getfield 115, 3) := by decide +kernel
theorem dX4_write_32 : decode cX4_write 32 = .ok (.istore 5, 2) := by decide +kernel
theorem dX4_write_34 : decode cX4_write 34 = .ok (.aload_n 0, 1) := by decide +kernel
theorem dX4_write_35 : decode cX4_write 35 = .ok (.getfield 19, 3) := by decide +kernel
theorem dX4_write_38 : decode cX4_write 38 = .ok (.iload_n 1, 1) := by decide +kernel
theorem dX4_write_39 : decode cX4_write 39 = .ok (.invokevirtual 166, 3) := by decide +kernel
theorem dX4_write_42 : decode cX4_write 42 = .ok (.aload_n 0, 1) := by decide +kernel
theorem dX4_write_43 : decode cX4_write 43 = .ok (.getfield 19, 3) := by decide +kernel
theorem dX4_write_46 : decode cX4_write 46 = .ok (.iload_n 3, 1) := by decide +kernel
theorem dX4_write_47 : decode cX4_write 47 = .ok (.invokevirtual 166, 3) := by decide +kernel
theorem dX4_write_50 : decode cX4_write 50 = .ok (.iconst 0, 1) := by decide +kernel
theorem dX4_write_51 : decode cX4_write 51 = .ok (.istore 6, 2) := by decide +kernel
theorem dX4_write_53 : decode cX4_write 53 = .ok (.iload 6, 2) := by decide +kernel
theorem dX4_write_55 : decode cX4_write 55 = .ok (.iload_n 3, 1) := by decide +kernel
theorem dX4_write_56 : decode cX4_write 56 = .ok (.if_icmp .ge 27, 3) := by decide +kernel
theorem dX4_write_59 : decode cX4_write 59 = .ok (.iload 6, 2) := by decide +kernel
theorem dX4_write_61 : decode cX4_write 61 = .ok (.aload_n 2, 1) := by decide +kernel
theorem dX4_write_62 : decode cX4_write 62 = .ok (.arraylength, 1) := by decide +kernel
theorem dX4_write_63 : decode cX4_write 63 = .ok (.if_icmp .ge 20, 3) := by decide +kernel
theorem dX4_write_66 : decode cX4_write 66 = .ok (.aload_n 0, 1) := by decide +kernel
theorem dX4_write_67 : decode cX4_write 67 = .ok (.getfield 19, 3) := by decide +kernel
theorem dX4_write_70 : decode cX4_write 70 = .ok (.aload_n 2, 1) := by decide +kernel
theorem dX4_write_71 : decode cX4_write 71 = .ok (.iload 6, 2) := by decide +kernel
theorem dX4_write_73 : decode cX4_write 73 = .ok (.iaload, 1) := by decide +kernel
theorem dX4_write_74 : decode cX4_write 74 = .ok (.invokevirtual 166, 3) := by decide +kernel
theorem dX4_write_77 : decode cX4_write 77 = .ok (.iinc 6 1, 3) := by decide +kernel
theorem dX4_write_80 : decode cX4_write 80 = .ok (.goto (-27), 3) := by decide +kernel
theorem dX4_write_83 : decode cX4_write 83 = .ok (.aload_n 0, 1) := by decide +kernel
theorem dX4_write_84 : decode cX4_write 84 = .ok (.getfield 10, 3) := by decide +kernel
theorem dX4_write_87 : decode cX4_write 87 = .ok (.aload_n 0, 1) := by decide +kernel
theorem dX4_write_88 : decode cX4_write 88 = .ok (.getfield 26, 3) := by decide +kernel
theorem dX4_write_91 : decode cX4_write 91 = .ok (.aload_n 0, 1) := by decide +kernel
theorem dX4_write_92 : decode cX4_write 92 = .ok (.getfield 19, 3) := by decide +kernel
theorem dX4_write_95 : decode cX4_write 95 = .ok (.iload 4, 2) := by decide +kernel
theorem dX4_write_97 : decode cX4_write 97 = .ok (.aload_n 0, 1) := by decide +kernel
theorem dX4_write_98 : decode cX4_write 98 = .ok (.getfield 30, 3) := by decide +kernel
theorem dX4_write_101 : decode cX4_write 101 = .ok (.invokevirtual 169, 3) := by decide +kernel
theorem dX4_write_104 : decode cX4_write 104 = .ok (.iconst 0, 1) := by decide +kernel
theorem dX4_write_105 : decode cX4_write 105 = .ok (.istore 6, 2) := by decide +kernel
theorem dX4_write_107 : decode cX4_write 107 = .ok (.iload 6, 2) := by decide +kernel
theorem dX4_write_109 : decode cX4_write 109 = .ok (.bipush 8, 2) := by decide +kernel
theorem dX4_write_111 : decode cX4_write 111 = .ok (.if_icmp .ge 39, 3) := by decide +kernel
theorem dX4_write_114 : decode cX4_write 114 = .ok (.aload_n 0, 1) := by decide +kernel
theorem dX4_write_115 : decode cX4_write 115 = .ok (.getfield 30, 3) := by decide +kernel
theorem dX4_write_118 : decode cX4_write 118 = .ok (.iload 6, 2) := by decide +kernel
theorem dX4_write_120 : decode cX4_write 120 = .ok (.aload_n 0, 1) := by decide +kernel
theorem dX4_write_121 : decode cX4_write 121 = .ok (.getfield 10, 3) := by decide +kernel
theorem dX4_write_124 : decode cX4_write 124 = .ok (.iload 6, 2) := by decide +kernel
theorem dX4_write_126 : decode cX4_write 126 = .ok (.invokevirtual 173, 3) := by decide +kernel
theorem dX4_write_129 : decode cX4_write 129 = .ok (.iastore, 1) := by decide +kernel
theorem dX4_write_130 : decode cX4_write 130 = .ok (.aload_n 0, 1) := by decide +kernel
theorem dX4_write_131 : decode cX4_write 131 = .ok (.getfield 19, 3) := by decide +kernel
theorem dX4_write_134 : decode cX4_write 134 = .ok (.aload_n 0, 1) := by decide +kernel
theorem dX4_write_135 : decode cX4_write 135 = .ok (.getfield 30, 3) := by decide +kernel
theorem dX4_write_138 : decode cX4_write 138 = .ok (.iload 6, 2) := by decide +kernel
theorem dX4_write_140 : decode cX4_write 140 = .ok (.iaload, 1) := by decide +kernel
theorem dX4_write_141 : decode cX4_write 141 = .ok (.invokevirtual 166, 3) := by decide +kernel
theorem dX4_write_144 : decode cX4_write 144 = .ok (.iinc 6 1, 3) := by decide +kernel
theorem dX4_write_147 : decode cX4_write 147 = .ok (.goto (-40), 3) := by decide +kernel
theorem dX4_write_150 : decode cX4_write 150 = .ok (.aload_n 0, 1) := by decide +kernel
theorem dX4_write_151 : decode cX4_write 151 = .ok (.getfield 26, 3) := by decide +kernel
theorem dX4_write_154 : decode cX4_write 154 = .ok (.aload_n 0, 1) := by decide +kernel
theorem dX4_write_155 : decode cX4_write 155 = .ok (.getfield 10, 3) := by decide +kernel
theorem dX4_write_158 : decode cX4_write 158 = .ok (.invokevirtual 176, 3) := by decide +kernel
theorem dX4_write_161 : decode cX4_write 161 = .ok (.iload 5, 2) := by decide +kernel
theorem dX4_write_163 : decode cX4_write 163 = .ok (.ireturn, 1) := by decide +kernel
theorem dX4_recordSize_0 : decode cX4_recordSize 0 = .ok (.iconst 2, 1) := by decide +kernel
theorem dX4_recordSize_1 : decode cX4_recordSize 1 = .ok (.iload_n 0, 1) := by decide +kernel
theorem dX4_recordSize_2 : decode cX4_recordSize 2 = .ok (.iadd, 1) := by decide +kernel
theorem dX4_recordSize_3 : decode cX4_recordSize 3 = .ok (.bipush 8, 2) := by decide +kernel
theorem dX4_recordSize_5 : decode cX4_recordSize 5 = .ok (.iadd, 1) := by decide +kernel
theorem dX4_recordSize_6 : decode cX4_recordSize 6 = .ok (.ireturn, 1) := by decide +kernel
theorem dX4_octetOfFour_0 : decode cX4_octetOfFour 0 = .ok (.iload_n 0, 1) := by decide +kernel
theorem dX4_octetOfFour_1 : decode cX4_octetOfFour 1 = .ok (.iconst 4, 1) := by decide +kernel
theorem dX4_octetOfFour_2 : decode cX4_octetOfFour 2 = .ok (.if_icmp .ge 7, 3) := by decide +kernel
theorem dX4_octetOfFour_5 : decode cX4_octetOfFour 5 = .ok (.iload_n 1, 1) := by decide +kernel
theorem dX4_octetOfFour_6 : decode cX4_octetOfFour 6 = .ok (.goto 25, 3) := by decide +kernel
theorem dX4_octetOfFour_9 : decode cX4_octetOfFour 9 = .ok (.iload_n 0, 1) := by decide +kernel
theorem dX4_octetOfFour_10 : decode cX4_octetOfFour 10 = .ok (.bipush 8, 2) := by decide +kernel
theorem dX4_octetOfFour_12 : decode cX4_octetOfFour 12 = .ok (.if_icmp .ge 7, 3) := by decide +kernel
theorem dX4_octetOfFour_15 : decode cX4_octetOfFour 15 = .ok (.iload_n 2, 1) := by decide +kernel
theorem dX4_octetOfFour_16 : decode cX4_octetOfFour 16 = .ok (.goto 15, 3) := by decide +kernel
theorem dX4_octetOfFour_19 : decode cX4_octetOfFour 19 = .ok (.iload_n 0, 1) := by decide +kernel
theorem dX4_octetOfFour_20 : decode cX4_octetOfFour 20 = .ok (.bipush 12, 2) := by decide +kernel
theorem dX4_octetOfFour_22 : decode cX4_octetOfFour 22 = .ok (.if_icmp .ge 7, 3) := by decide +kernel
theorem dX4_octetOfFour_25 : decode cX4_octetOfFour 25 = .ok (.iload_n 3, 1) := by decide +kernel
theorem dX4_octetOfFour_26 : decode cX4_octetOfFour 26 = .ok (.goto 5, 3) := by decide +kernel
theorem dX4_octetOfFour_29 : decode cX4_octetOfFour 29 = .ok (.iload 4, 2) := by decide +kernel
theorem dX4_octetOfFour_31 : decode cX4_octetOfFour 31 = .ok (.istore 5, 2) := by decide +kernel
theorem dX4_octetOfFour_33 : decode cX4_octetOfFour 33 = .ok (.iload 5, 2) := by decide +kernel
theorem dX4_octetOfFour_35 : decode cX4_octetOfFour 35 = .ok (.bipush 24, 2) := by decide +kernel
theorem dX4_octetOfFour_37 : decode cX4_octetOfFour 37 = .ok (.bipush 8, 2) := by decide +kernel
theorem dX4_octetOfFour_39 : decode cX4_octetOfFour 39 = .ok (.iload_n 0, 1) := by decide +kernel
theorem dX4_octetOfFour_40 : decode cX4_octetOfFour 40 = .ok (.iconst 3, 1) := by decide +kernel
theorem dX4_octetOfFour_41 : decode cX4_octetOfFour 41 = .ok (.iand, 1) := by decide +kernel
theorem dX4_octetOfFour_42 : decode cX4_octetOfFour 42 = .ok (.imul, 1) := by decide +kernel
theorem dX4_octetOfFour_43 : decode cX4_octetOfFour 43 = .ok (.isub, 1) := by decide +kernel
theorem dX4_octetOfFour_44 : decode cX4_octetOfFour 44 = .ok (.iushr, 1) := by decide +kernel
theorem dX4_octetOfFour_45 : decode cX4_octetOfFour 45 = .ok (.sipush 255, 3) := by decide +kernel
theorem dX4_octetOfFour_48 : decode cX4_octetOfFour 48 = .ok (.iand, 1) := by decide +kernel
theorem dX4_octetOfFour_49 : decode cX4_octetOfFour 49 = .ok (.ireturn, 1) := by decide +kernel
set_option maxRecDepth 20000 in
theorem ggX5_init_X5_forget : GoodIn wsX5_init wsX5_forget := goodIn_r _ [23, 24, 25, 26, 27, 28, 29, 30, 31, 32, 33, 34, 35, 36, 37, 38, 39, 40, 41, 42, 43, 44, 45, 46, 47, 48, 49, 50, 51, 52, 53, 54, 55, 56, 57, 58, 59] (by decide +kernel) (by decide +kernel)
set_option maxRecDepth 20000 in
theorem gX5_init_X5_forget : GoodIn wsX5_init (wsV RX5 49 RX5 yX5_forget wsX5_forget) := goodIn_app (goodIn_of _ (by decide +kernel)) ggX5_init_X5_forget
theorem dX5_init_0 : decode cX5_init 0 = .ok (.aload_n 0, 1) := by decide +kernel
theorem dX5_init_1 : decode cX5_init 1 = .ok (.invokespecial 1, 3) := by decide +kernel
theorem dX5_init_4 : decode cX5_init 4 = .ok (.aload_n 0, 1) := by decide +kernel
theorem dX5_init_5 : decode cX5_init 5 = .ok (.sipush 1200, 3) := by decide +kernel
theorem dX5_init_8 : decode cX5_init 8 = .ok (.newarray .int, 2) := by decide +kernel
theorem dX5_init_10 : decode cX5_init 10 = .ok (.putfield 7, 3) := by decide +kernel
theorem dX5_init_13 : decode cX5_init 13 = .ok (.aload_n 0, 1) := by decide +kernel
theorem dX5_init_14 : decode cX5_init 14 = .ok (.bipush 40, 2) := by decide +kernel
theorem dX5_init_16 : decode cX5_init 16 = .ok (.newarray .int, 2) := by decide +kernel
theorem dX5_init_18 : decode cX5_init 18 = .ok (.putfield 13, 3) := by decide +kernel
theorem dX5_init_21 : decode cX5_init 21 = .ok (.aload_n 0, 1) := by decide +kernel
theorem dX5_init_22 : decode cX5_init 22 = .ok (.bipush 16, 2) := by decide +kernel
theorem dX5_init_24 : decode cX5_init 24 = .ok (.newarray .int, 2) := by decide +kernel
theorem dX5_init_26 : decode cX5_init 26 = .ok (.putfield 16, 3) := by decide +kernel
theorem dX5_init_29 : decode cX5_init 29 = .ok (.aload_n 0, 1) := by decide +kernel
theorem dX5_init_30 : decode cX5_init 30 = .ok (.bipush 8, 2) := by decide +kernel
theorem dX5_init_32 : decode cX5_init 32 = .ok (.newarray .int, 2) := by decide +kernel
theorem dX5_init_34 : decode cX5_init 34 = .ok (.putfield 19, 3) := by decide +kernel
theorem dX5_init_37 : decode cX5_init 37 = .ok (.aload_n 0, 1) := by decide +kernel
theorem dX5_init_38 : decode cX5_init 38 = .ok (.sipush 192, 3) := by decide +kernel
theorem dX5_init_41 : decode cX5_init 41 = .ok (.newarray .int, 2) := by decide +kernel
theorem dX5_init_43 : decode cX5_init 43 = .ok (.putfield 22, 3) := by decide +kernel
theorem dX5_init_46 : decode cX5_init 46 = .ok (.aload_n 0, 1) := by decide +kernel
theorem dX5_init_47 : decode cX5_init 47 = .ok (.bipush 64, 2) := by decide +kernel
theorem dX5_init_49 : decode cX5_init 49 = .ok (.newarray .int, 2) := by decide +kernel
theorem dX5_init_51 : decode cX5_init 51 = .ok (.putfield 25, 3) := by decide +kernel
theorem dX5_init_54 : decode cX5_init 54 = .ok (.aload_n 0, 1) := by decide +kernel
theorem dX5_init_55 : decode cX5_init 55 = .ok (.bipush 16, 2) := by decide +kernel
theorem dX5_init_57 : decode cX5_init 57 = .ok (.newarray .int, 2) := by decide +kernel
theorem dX5_init_59 : decode cX5_init 59 = .ok (.putfield 28, 3) := by decide +kernel
theorem dX5_init_62 : decode cX5_init 62 = .ok (.aload_n 0, 1) := by decide +kernel
theorem dX5_init_63 : decode cX5_init 63 = .ok (.bipush 32, 2) := by decide +kernel
theorem dX5_init_65 : decode cX5_init 65 = .ok (.newarray .int, 2) := by decide +kernel
theorem dX5_init_67 : decode cX5_init 67 = .ok (.putfield 31, 3) := by decide +kernel
theorem dX5_init_70 : decode cX5_init 70 = .ok (.aload_n 0, 1) := by decide +kernel
theorem dX5_init_71 : decode cX5_init 71 = .ok (.bipush 16, 2) := by decide +kernel
theorem dX5_init_73 : decode cX5_init 73 = .ok (.newarray .int, 2) := by decide +kernel
theorem dX5_init_75 : decode cX5_init 75 = .ok (.putfield 34, 3) := by decide +kernel
theorem dX5_init_78 : decode cX5_init 78 = .ok (.aload_n 0, 1) := by decide +kernel
theorem dX5_init_79 : decode cX5_init 79 = .ok (.bipush 8, 2) := by decide +kernel
theorem dX5_init_81 : decode cX5_init 81 = .ok (.newarray .int, 2) := by decide +kernel
theorem dX5_init_83 : decode cX5_init 83 = .ok (.putfield 37, 3) := by decide +kernel
theorem dX5_init_86 : decode cX5_init 86 = .ok (.aload_n 0, 1) := by decide +kernel
theorem dX5_init_87 : decode cX5_init 87 = .ok (.sipush 1200, 3) := by decide +kernel
theorem dX5_init_90 : decode cX5_init 90 = .ok (.newarray .int, 2) := by decide +kernel
theorem dX5_init_92 : decode cX5_init 92 = .ok (.putfield 40, 3) := by decide +kernel
theorem dX5_init_95 : decode cX5_init 95 = .ok (.aload_n 0, 1) := by decide +kernel
theorem dX5_init_96 : decode cX5_init 96 = .ok (.sipush 128, 3) := by decide +kernel
theorem dX5_init_99 : decode cX5_init 99 = .ok (.newarray .int, 2) := by decide +kernel
theorem dX5_init_101 : decode cX5_init 101 = .ok (.putfield 43, 3) := by decide +kernel
theorem dX5_init_104 : decode cX5_init 104 = .ok (.aload_n 0, 1) := by decide +kernel
theorem dX5_init_105 : decode cX5_init 105 = .ok (.sipush 128, 3) := by decide +kernel
theorem dX5_init_108 : decode cX5_init 108 = .ok (.newarray .int, 2) := by decide +kernel
theorem dX5_init_110 : decode cX5_init 110 = .ok (.putfield 46, 3) := by decide +kernel
theorem dX5_init_113 : decode cX5_init 113 = .ok (.aload_n 0, 1) := by decide +kernel
theorem dX5_init_114 : decode cX5_init 114 = .ok (.invokevirtual 49, 3) := by decide +kernel
theorem dX5_init_117 : decode cX5_init 117 = .ok (.aload_n 0, 1) := by decide +kernel
theorem dX5_init_118 : decode cX5_init 118 = .ok (.iconst 1, 1) := by decide +kernel
theorem dX5_init_119 : decode cX5_init 119 = .ok (.putfield 52, 3) := by decide +kernel
theorem dX5_init_122 : decode cX5_init 122 = .ok (.return_, 1) := by decide +kernel
theorem dX5_thrown_0 : decode cX5_thrown 0 = .ok (.aload_n 0, 1) := by decide +kernel
theorem dX5_thrown_1 : decode cX5_thrown 1 = .ok (.getfield 56, 3) := by decide +kernel
theorem dX5_thrown_4 : decode cX5_thrown 4 = .ok (.ireturn, 1) := by decide +kernel
theorem dX5_refused_0 : decode cX5_refused 0 = .ok (.aload_n 0, 1) := by decide +kernel
theorem dX5_refused_1 : decode cX5_refused 1 = .ok (.iload_n 1, 1) := by decide +kernel
theorem dX5_refused_2 : decode cX5_refused 2 = .ok (.putfield 56, 3) := by decide +kernel
theorem dX5_refused_5 : decode cX5_refused 5 = .ok (.iload_n 1, 1) := by decide +kernel
theorem dX5_refused_6 : decode cX5_refused 6 = .ok (.ifCond .le 7, 3) := by decide +kernel
theorem dX5_refused_9 : decode cX5_refused 9 = .ok (.iconst 1, 1) := by decide +kernel
theorem dX5_refused_10 : decode cX5_refused 10 = .ok (.goto 4, 3) := by decide +kernel
theorem dX5_refused_13 : decode cX5_refused 13 = .ok (.iconst 0, 1) := by decide +kernel
theorem dX5_refused_14 : decode cX5_refused 14 = .ok (.ireturn, 1) := by decide +kernel
theorem dX5_forget_0 : decode cX5_forget 0 = .ok (.aload_n 0, 1) := by decide +kernel
theorem dX5_forget_1 : decode cX5_forget 1 = .ok (.iconst 0, 1) := by decide +kernel
theorem dX5_forget_2 : decode cX5_forget 2 = .ok (.putfield 60, 3) := by decide +kernel
theorem dX5_forget_5 : decode cX5_forget 5 = .ok (.aload_n 0, 1) := by decide +kernel
theorem dX5_forget_6 : decode cX5_forget 6 = .ok (.iconst (-1), 1) := by decide +kernel
theorem dX5_forget_7 : decode cX5_forget 7 = .ok (.putfield 63, 3) := by decide +kernel
theorem dX5_forget_10 : decode cX5_forget 10 = .ok (.aload_n 0, 1) := by decide +kernel
theorem dX5_forget_11 : decode cX5_forget 11 = .ok (.iconst (-1), 1) := by decide +kernel
theorem dX5_forget_12 : decode cX5_forget 12 = .ok (.putfield 66, 3) := by decide +kernel
theorem dX5_forget_15 : decode cX5_forget 15 = .ok (.aload_n 0, 1) := by decide +kernel
theorem dX5_forget_16 : decode cX5_forget 16 = .ok (.iconst 0, 1) := by decide +kernel
theorem dX5_forget_17 : decode cX5_forget 17 = .ok (.putfield 69, 3) := by decide +kernel
theorem dX5_forget_20 : decode cX5_forget 20 = .ok (.aload_n 0, 1) := by decide +kernel
theorem dX5_forget_21 : decode cX5_forget 21 = .ok (.iconst 0, 1) := by decide +kernel
theorem dX5_forget_22 : decode cX5_forget 22 = .ok (.putfield 72, 3) := by decide +kernel
theorem dX5_forget_25 : decode cX5_forget 25 = .ok (.aload_n 0, 1) := by decide +kernel
theorem dX5_forget_26 : decode cX5_forget 26 = .ok (.iconst 0, 1) := by decide +kernel
theorem dX5_forget_27 : decode cX5_forget 27 = .ok (.putfield 75, 3) := by decide +kernel
theorem dX5_forget_30 : decode cX5_forget 30 = .ok (.return_, 1) := by decide +kernel
theorem dX5_round_0 : decode cX5_round 0 = .ok (.iload_n 0, 1) := by decide +kernel
theorem dX5_round_1 : decode cX5_round 1 = .ok (.tableswitch 456 0 62 #[267, 270, 273, 276, 279, 282, 285, 288, 291, 294, 297, 300, 303, 306, 309, 312, 315, 318, 321, 324, 327, 330, 333, 336, 339, 342, 345, 348, 351, 354, 357, 360, 363, 366, 369, 372, 375, 378, 381, 384, 387, 390, 393, 396, 399, 402, 405, 408, 411, 414, 417, 420, 423, 426, 429, 432, 435, 438, 441, 444, 447, 450, 453], 267) := by decide +kernel
theorem dX5_round_268 : decode cX5_round 268 = .ok (.ldc 78, 2) := by decide +kernel
theorem dX5_round_270 : decode cX5_round 270 = .ok (.ireturn, 1) := by decide +kernel
theorem dX5_round_271 : decode cX5_round 271 = .ok (.ldc 79, 2) := by decide +kernel
theorem dX5_round_273 : decode cX5_round 273 = .ok (.ireturn, 1) := by decide +kernel
theorem dX5_round_274 : decode cX5_round 274 = .ok (.ldc 80, 2) := by decide +kernel
theorem dX5_round_276 : decode cX5_round 276 = .ok (.ireturn, 1) := by decide +kernel
theorem dX5_round_277 : decode cX5_round 277 = .ok (.ldc 81, 2) := by decide +kernel
theorem dX5_round_279 : decode cX5_round 279 = .ok (.ireturn, 1) := by decide +kernel
theorem dX5_round_280 : decode cX5_round 280 = .ok (.ldc 82, 2) := by decide +kernel
theorem dX5_round_282 : decode cX5_round 282 = .ok (.ireturn, 1) := by decide +kernel
theorem dX5_round_283 : decode cX5_round 283 = .ok (.ldc 83, 2) := by decide +kernel
theorem dX5_round_285 : decode cX5_round 285 = .ok (.ireturn, 1) := by decide +kernel
theorem dX5_round_286 : decode cX5_round 286 = .ok (.ldc 84, 2) := by decide +kernel
theorem dX5_round_288 : decode cX5_round 288 = .ok (.ireturn, 1) := by decide +kernel
theorem dX5_round_289 : decode cX5_round 289 = .ok (.ldc 85, 2) := by decide +kernel
theorem dX5_round_291 : decode cX5_round 291 = .ok (.ireturn, 1) := by decide +kernel
theorem dX5_round_292 : decode cX5_round 292 = .ok (.ldc 86, 2) := by decide +kernel
theorem dX5_round_294 : decode cX5_round 294 = .ok (.ireturn, 1) := by decide +kernel
theorem dX5_round_295 : decode cX5_round 295 = .ok (.ldc 87, 2) := by decide +kernel
theorem dX5_round_297 : decode cX5_round 297 = .ok (.ireturn, 1) := by decide +kernel
theorem dX5_round_298 : decode cX5_round 298 = .ok (.ldc 88, 2) := by decide +kernel
theorem dX5_round_300 : decode cX5_round 300 = .ok (.ireturn, 1) := by decide +kernel
theorem dX5_round_301 : decode cX5_round 301 = .ok (.ldc 89, 2) := by decide +kernel
theorem dX5_round_303 : decode cX5_round 303 = .ok (.ireturn, 1) := by decide +kernel
theorem dX5_round_304 : decode cX5_round 304 = .ok (.ldc 90, 2) := by decide +kernel
theorem dX5_round_306 : decode cX5_round 306 = .ok (.ireturn, 1) := by decide +kernel
theorem dX5_round_307 : decode cX5_round 307 = .ok (.ldc 91, 2) := by decide +kernel
theorem dX5_round_309 : decode cX5_round 309 = .ok (.ireturn, 1) := by decide +kernel
theorem dX5_round_310 : decode cX5_round 310 = .ok (.ldc 92, 2) := by decide +kernel
theorem dX5_round_312 : decode cX5_round 312 = .ok (.ireturn, 1) := by decide +kernel
theorem dX5_round_313 : decode cX5_round 313 = .ok (.ldc 93, 2) := by decide +kernel
theorem dX5_round_315 : decode cX5_round 315 = .ok (.ireturn, 1) := by decide +kernel
theorem dX5_round_316 : decode cX5_round 316 = .ok (.ldc 94, 2) := by decide +kernel
theorem dX5_round_318 : decode cX5_round 318 = .ok (.ireturn, 1) := by decide +kernel
theorem dX5_round_319 : decode cX5_round 319 = .ok (.ldc 95, 2) := by decide +kernel
theorem dX5_round_321 : decode cX5_round 321 = .ok (.ireturn, 1) := by decide +kernel
theorem dX5_round_322 : decode cX5_round 322 = .ok (.ldc 96, 2) := by decide +kernel
theorem dX5_round_324 : decode cX5_round 324 = .ok (.ireturn, 1) := by decide +kernel
theorem dX5_round_325 : decode cX5_round 325 = .ok (.ldc 97, 2) := by decide +kernel
theorem dX5_round_327 : decode cX5_round 327 = .ok (.ireturn, 1) := by decide +kernel
theorem dX5_round_328 : decode cX5_round 328 = .ok (.ldc 98, 2) := by decide +kernel
theorem dX5_round_330 : decode cX5_round 330 = .ok (.ireturn, 1) := by decide +kernel
theorem dX5_round_331 : decode cX5_round 331 = .ok (.ldc 99, 2) := by decide +kernel
theorem dX5_round_333 : decode cX5_round 333 = .ok (.ireturn, 1) := by decide +kernel
theorem dX5_round_334 : decode cX5_round 334 = .ok (.ldc 100, 2) := by decide +kernel
theorem dX5_round_336 : decode cX5_round 336 = .ok (.ireturn, 1) := by decide +kernel
theorem dX5_round_337 : decode cX5_round 337 = .ok (.ldc 101, 2) := by decide +kernel
theorem dX5_round_339 : decode cX5_round 339 = .ok (.ireturn, 1) := by decide +kernel
theorem dX5_round_340 : decode cX5_round 340 = .ok (.ldc 102, 2) := by decide +kernel
theorem dX5_round_342 : decode cX5_round 342 = .ok (.ireturn, 1) := by decide +kernel
theorem dX5_round_343 : decode cX5_round 343 = .ok (.ldc 103, 2) := by decide +kernel
theorem dX5_round_345 : decode cX5_round 345 = .ok (.ireturn, 1) := by decide +kernel
theorem dX5_round_346 : decode cX5_round 346 = .ok (.ldc 104, 2) := by decide +kernel
theorem dX5_round_348 : decode cX5_round 348 = .ok (.ireturn, 1) := by decide +kernel
theorem dX5_round_349 : decode cX5_round 349 = .ok (.ldc 105, 2) := by decide +kernel
theorem dX5_round_351 : decode cX5_round 351 = .ok (.ireturn, 1) := by decide +kernel
theorem dX5_round_352 : decode cX5_round 352 = .ok (.ldc 106, 2) := by decide +kernel
theorem dX5_round_354 : decode cX5_round 354 = .ok (.ireturn, 1) := by decide +kernel
theorem dX5_round_355 : decode cX5_round 355 = .ok (.ldc 107, 2) := by decide +kernel
theorem dX5_round_357 : decode cX5_round 357 = .ok (.ireturn, 1) := by decide +kernel
theorem dX5_round_358 : decode cX5_round 358 = .ok (.ldc 108, 2) := by decide +kernel
theorem dX5_round_360 : decode cX5_round 360 = .ok (.ireturn, 1) := by decide +kernel
theorem dX5_round_361 : decode cX5_round 361 = .ok (.ldc 109, 2) := by decide +kernel
theorem dX5_round_363 : decode cX5_round 363 = .ok (.ireturn, 1) := by decide +kernel
theorem dX5_round_364 : decode cX5_round 364 = .ok (.ldc 110, 2) := by decide +kernel
theorem dX5_round_366 : decode cX5_round 366 = .ok (.ireturn, 1) := by decide +kernel
theorem dX5_round_367 : decode cX5_round 367 = .ok (.ldc 111, 2) := by decide +kernel
theorem dX5_round_369 : decode cX5_round 369 = .ok (.ireturn, 1) := by decide +kernel
theorem dX5_round_370 : decode cX5_round 370 = .ok (.ldc 112, 2) := by decide +kernel
theorem dX5_round_372 : decode cX5_round 372 = .ok (.ireturn, 1) := by decide +kernel
theorem dX5_round_373 : decode cX5_round 373 = .ok (.ldc 113, 2) := by decide +kernel
theorem dX5_round_375 : decode cX5_round 375 = .ok (.ireturn, 1) := by decide +kernel
theorem dX5_round_376 : decode cX5_round 376 = .ok (.ldc 114, 2) := by decide +kernel
theorem dX5_round_378 : decode cX5_round 378 = .ok (.ireturn, 1) := by decide +kernel
theorem dX5_round_379 : decode cX5_round 379 = .ok (.ldc 115, 2) := by decide +kernel
theorem dX5_round_381 : decode cX5_round 381 = .ok (.ireturn, 1) := by decide +kernel
theorem dX5_round_382 : decode cX5_round 382 = .ok (.ldc 116, 2) := by decide +kernel
theorem dX5_round_384 : decode cX5_round 384 = .ok (.ireturn, 1) := by decide +kernel
theorem dX5_round_385 : decode cX5_round 385 = .ok (.ldc 117, 2) := by decide +kernel
theorem dX5_round_387 : decode cX5_round 387 = .ok (.ireturn, 1) := by decide +kernel
theorem dX5_round_388 : decode cX5_round 388 = .ok (.ldc 118, 2) := by decide +kernel
theorem dX5_round_390 : decode cX5_round 390 = .ok (.ireturn, 1) := by decide +kernel
theorem dX5_round_391 : decode cX5_round 391 = .ok (.ldc 119, 2) := by decide +kernel
theorem dX5_round_393 : decode cX5_round 393 = .ok (.ireturn, 1) := by decide +kernel
theorem dX5_round_394 : decode cX5_round 394 = .ok (.ldc 120, 2) := by decide +kernel
theorem dX5_round_396 : decode cX5_round 396 = .ok (.ireturn, 1) := by decide +kernel
theorem dX5_round_397 : decode cX5_round 397 = .ok (.ldc 121, 2) := by decide +kernel
theorem dX5_round_399 : decode cX5_round 399 = .ok (.ireturn, 1) := by decide +kernel
theorem dX5_round_400 : decode cX5_round 400 = .ok (.ldc 122, 2) := by decide +kernel
theorem dX5_round_402 : decode cX5_round 402 = .ok (.ireturn, 1) := by decide +kernel
theorem dX5_round_403 : decode cX5_round 403 = .ok (.ldc 123, 2) := by decide +kernel
theorem dX5_round_405 : decode cX5_round 405 = .ok (.ireturn, 1) := by decide +kernel
theorem dX5_round_406 : decode cX5_round 406 = .ok (.ldc 124, 2) := by decide +kernel
theorem dX5_round_408 : decode cX5_round 408 = .ok (.ireturn, 1) := by decide +kernel
theorem dX5_round_409 : decode cX5_round 409 = .ok (.ldc 125, 2) := by decide +kernel
theorem dX5_round_411 : decode cX5_round 411 = .ok (.ireturn, 1) := by decide +kernel
theorem dX5_round_412 : decode cX5_round 412 = .ok (.ldc 126, 2) := by decide +kernel
theorem dX5_round_414 : decode cX5_round 414 = .ok (.ireturn, 1) := by decide +kernel
theorem dX5_round_415 : decode cX5_round 415 = .ok (.ldc 127, 2) := by decide +kernel
theorem dX5_round_417 : decode cX5_round 417 = .ok (.ireturn, 1) := by decide +kernel
theorem dX5_round_418 : decode cX5_round 418 = .ok (.ldc 128, 2) := by decide +kernel
theorem dX5_round_420 : decode cX5_round 420 = .ok (.ireturn, 1) := by decide +kernel
theorem dX5_round_421 : decode cX5_round 421 = .ok (.ldc 129, 2) := by decide +kernel
theorem dX5_round_423 : decode cX5_round 423 = .ok (.ireturn, 1) := by decide +kernel
theorem dX5_round_424 : decode cX5_round 424 = .ok (.ldc 130, 2) := by decide +kernel
theorem dX5_round_426 : decode cX5_round 426 = .ok (.ireturn, 1) := by decide +kernel
theorem dX5_round_427 : decode cX5_round 427 = .ok (.ldc 131, 2) := by decide +kernel
theorem dX5_round_429 : decode cX5_round 429 = .ok (.ireturn, 1) := by decide +kernel
theorem dX5_round_430 : decode cX5_round 430 = .ok (.ldc 132, 2) := by decide +kernel
theorem dX5_round_432 : decode cX5_round 432 = .ok (.ireturn, 1) := by decide +kernel
theorem dX5_round_433 : decode cX5_round 433 = .ok (.ldc 133, 2) := by decide +kernel
theorem dX5_round_435 : decode cX5_round 435 = .ok (.ireturn, 1) := by decide +kernel
theorem dX5_round_436 : decode cX5_round 436 = .ok (.ldc 134, 2) := by decide +kernel
theorem dX5_round_438 : decode cX5_round 438 = .ok (.ireturn, 1) := by decide +kernel
theorem dX5_round_439 : decode cX5_round 439 = .ok (.ldc 135, 2) := by decide +kernel
theorem dX5_round_441 : decode cX5_round 441 = .ok (.ireturn, 1) := by decide +kernel
theorem dX5_round_442 : decode cX5_round 442 = .ok (.ldc 136, 2) := by decide +kernel
theorem dX5_round_444 : decode cX5_round 444 = .ok (.ireturn, 1) := by decide +kernel
theorem dX5_round_445 : decode cX5_round 445 = .ok (.ldc 137, 2) := by decide +kernel
theorem dX5_round_447 : decode cX5_round 447 = .ok (.ireturn, 1) := by decide +kernel
theorem dX5_round_448 : decode cX5_round 448 = .ok (.ldc 138, 2) := by decide +kernel
theorem dX5_round_450 : decode cX5_round 450 = .ok (.ireturn, 1) := by decide +kernel
theorem dX5_round_451 : decode cX5_round 451 = .ok (.ldc 139, 2) := by decide +kernel
theorem dX5_round_453 : decode cX5_round 453 = .ok (.ireturn, 1) := by decide +kernel
theorem dX5_round_454 : decode cX5_round 454 = .ok (.ldc 140, 2) := by decide +kernel
theorem dX5_round_456 : decode cX5_round 456 = .ok (.ireturn, 1) := by decide +kernel
theorem dX5_round_457 : decode cX5_round 457 = .ok (.ldc 141, 2) := by decide +kernel
theorem dX5_round_459 : decode cX5_round 459 = .ok (.ireturn, 1) := by decide +kernel
theorem dX5_first_0 : decode cX5_first 0 = .ok (.iload_n 0, 1) := by decide +kernel
theorem dX5_first_1 : decode cX5_first 1 = .ok (.tableswitch 64 0 6 #[43, 46, 49, 52, 55, 58, 61], 43) := by decide +kernel
theorem dX5_first_44 : decode cX5_first 44 = .ok (.ldc 142, 2) := by decide +kernel
theorem dX5_first_46 : decode cX5_first 46 = .ok (.ireturn, 1) := by decide +kernel
theorem dX5_first_47 : decode cX5_first 47 = .ok (.ldc 143, 2) := by decide +kernel
theorem dX5_first_49 : decode cX5_first 49 = .ok (.ireturn, 1) := by decide +kernel
theorem dX5_first_50 : decode cX5_first 50 = .ok (.ldc 144, 2) := by decide +kernel
theorem dX5_first_52 : decode cX5_first 52 = .ok (.ireturn, 1) := by decide +kernel
theorem dX5_first_53 : decode cX5_first 53 = .ok (.ldc 145, 2) := by decide +kernel
theorem dX5_first_55 : decode cX5_first 55 = .ok (.ireturn, 1) := by decide +kernel
theorem dX5_first_56 : decode cX5_first 56 = .ok (.ldc 146, 2) := by decide +kernel
theorem dX5_first_58 : decode cX5_first 58 = .ok (.ireturn, 1) := by decide +kernel
theorem dX5_first_59 : decode cX5_first 59 = .ok (.ldc 147, 2) := by decide +kernel
theorem dX5_first_61 : decode cX5_first 61 = .ok (.ireturn, 1) := by decide +kernel
theorem dX5_first_62 : decode cX5_first 62 = .ok (.ldc 148, 2) := by decide +kernel
theorem dX5_first_64 : decode cX5_first 64 = .ok (.ireturn, 1) := by decide +kernel
theorem dX5_first_65 : decode cX5_first 65 = .ok (.ldc 149, 2) := by decide +kernel
theorem dX5_first_67 : decode cX5_first 67 = .ok (.ireturn, 1) := by decide +kernel
theorem dX5_right_0 : decode cX5_right 0 = .ok (.iload_n 0, 1) := by decide +kernel
theorem dX5_right_1 : decode cX5_right 1 = .ok (.iload_n 1, 1) := by decide +kernel
theorem dX5_right_2 : decode cX5_right 2 = .ok (.iushr, 1) := by decide +kernel
theorem dX5_right_3 : decode cX5_right 3 = .ok (.iload_n 0, 1) := by decide +kernel
theorem dX5_right_4 : decode cX5_right 4 = .ok (.bipush 32, 2) := by decide +kernel
theorem dX5_right_6 : decode cX5_right 6 = .ok (.iload_n 1, 1) := by decide +kernel
theorem dX5_right_7 : decode cX5_right 7 = .ok (.isub, 1) := by decide +kernel
theorem dX5_right_8 : decode cX5_right 8 = .ok (.ishl, 1) := by decide +kernel
theorem dX5_right_9 : decode cX5_right 9 = .ok (.ior, 1) := by decide +kernel
theorem dX5_right_10 : decode cX5_right 10 = .ok (.ireturn, 1) := by decide +kernel
theorem dX5_add_0 : decode cX5_add 0 = .ok (.aload_n 0, 1) := by decide +kernel
theorem dX5_add_1 : decode cX5_add 1 = .ok (.getfield 22, 3) := by decide +kernel
theorem dX5_add_4 : decode cX5_add 4 = .ok (.aload_n 0, 1) := by decide +kernel
theorem dX5_add_5 : decode cX5_add 5 = .ok (.getfield 150, 3) := by decide +kernel
theorem dX5_add_8 : decode cX5_add 8 = .ok (.iload_n 1, 1) := by decide +kernel
theorem dX5_add_9 : decode cX5_add 9 = .ok (.sipush 255, 3) := by decide +kernel
theorem dX5_add_12 : decode cX5_add 12 = .ok (.iand, 1) := by decide +kernel
theorem dX5_add_13 : decode cX5_add 13 = .ok (.iastore, 1) := by decide +kernel
theorem dX5_add_14 : decode cX5_add 14 = .ok (.aload_n 0, 1) := by decide +kernel
theorem dX5_add_15 : decode cX5_add 15 = .ok (.dup, 1) := by decide +kernel
theorem dX5_add_16 : decode cX5_add 16 = .ok (.getfield 150, 3) := by decide +kernel
theorem dX5_add_19 : decode cX5_add 19 = .ok (.iconst 1, 1) := by decide +kernel
theorem dX5_add_20 : decode cX5_add 20 = .ok (.iadd, 1) := by decide +kernel
theorem dX5_add_21 : decode cX5_add 21 = .ok (.putfield 150, 3) := by decide +kernel
theorem dX5_add_24 : decode cX5_add 24 = .ok (.return_, 1) := by decide +kernel
set_option maxRecDepth 20000 in
theorem ggX5_addNumber_X5_add : GoodIn wsX5_addNumber wsX5_add := goodIn_r _ [5, 6, 7, 8, 9, 10, 11, 12, 13, 14, 15, 16, 17, 18, 19, 20, 21, 22, 23, 24, 25, 26, 27, 28, 29, 30, 31, 32, 33, 34, 35, 36, 37] (by decide +kernel) (by decide +kernel)
set_option maxRecDepth 20000 in
theorem gX5_addNumber_X5_add : GoodIn wsX5_addNumber (wsV RX5 153 RX5 yX5_add wsX5_add) := goodIn_app (goodIn_of _ (by decide +kernel)) ggX5_addNumber_X5_add
theorem dX5_addNumber_0 : decode cX5_addNumber 0 = .ok (.bipush 24, 2) := by decide +kernel
theorem dX5_addNumber_2 : decode cX5_addNumber 2 = .ok (.istore_n 2, 1) := by decide +kernel
theorem dX5_addNumber_3 : decode cX5_addNumber 3 = .ok (.iload_n 2, 1) := by decide +kernel
theorem dX5_addNumber_4 : decode cX5_addNumber 4 = .ok (.ifCond .lt 18, 3) := by decide +kernel
theorem dX5_addNumber_7 : decode cX5_addNumber 7 = .ok (.aload_n 0, 1) := by decide +kernel
theorem dX5_addNumber_8 : decode cX5_addNumber 8 = .ok (.iload_n 1, 1) := by decide +kernel
theorem dX5_addNumber_9 : decode cX5_addNumber 9 = .ok (.iload_n 2, 1) := by decide +kernel
theorem dX5_addNumber_10 : decode cX5_addNumber 10 = .ok (.ishr, 1) := by decide +kernel
theorem dX5_addNumber_11 : decode cX5_addNumber 11 = .ok (.invokevirtual 153, 3) := by decide +kernel
theorem dX5_addNumber_14 : decode cX5_addNumber 14 = .ok (.iload_n 2, 1) := by decide +kernel
theorem dX5_addNumber_15 : decode cX5_addNumber 15 = .ok (.bipush 8, 2) := by decide +kernel
theorem dX5_addNumber_17 : decode cX5_addNumber 17 = .ok (.isub, 1) := by decide +kernel
theorem dX5_addNumber_18 : decode cX5_addNumber 18 = .ok (.istore_n 2, 1) := by decide +kernel
theorem dX5_addNumber_19 : decode cX5_addNumber 19 = .ok (.goto (-16), 3) := by decide +kernel
theorem dX5_addNumber_22 : decode cX5_addNumber 22 = .ok (.return_, 1) := by decide +kernel
set_option maxRecDepth 20000 in
theorem ggX5_block_X5_right : GoodIn wsX5_block wsX5_right := goodIn_r _ [7] (by decide +kernel) (by decide +kernel)
set_option maxRecDepth 20000 in
theorem gX5_block_X5_right : GoodIn wsX5_block (va_wsS RX5 157 yX5_right wsX5_right) := goodIn_app (goodIn_of _ (by decide +kernel)) ggX5_block_X5_right
set_option maxRecDepth 20000 in
theorem ggX5_block_X5_round : GoodIn wsX5_block wsX5_round := goodIn_r _ [10, 11, 12, 13, 14, 15, 16, 17, 18, 19, 20, 21, 22, 23, 24, 25, 26, 27, 28, 29, 30, 31, 32, 33, 34, 35, 36, 37, 38, 39, 40, 41, 42, 43, 44, 45, 46, 47, 48, 49, 50, 51, 52, 53, 54, 55, 56, 57, 58, 59, 60, 61, 62, 63, 64, 65, 66, 67, 68, 69, 70, 71, 72, 73, 74] (by decide +kernel) (by decide +kernel)
set_option maxRecDepth 20000 in
theorem gX5_block_X5_round : GoodIn wsX5_block (va_wsS RX5 161 yX5_round wsX5_round) := goodIn_app (goodIn_of _ (by decide +kernel)) ggX5_block_X5_round
theorem dX5_block_0 : decode cX5_block 0 = .ok (.iconst 0, 1) := by decide +kernel
theorem dX5_block_1 : decode cX5_block 1 = .ok (.istore_n 2, 1) := by decide +kernel
theorem dX5_block_2 : decode cX5_block 2 = .ok (.iload_n 2, 1) := by decide +kernel
theorem dX5_block_3 : decode cX5_block 3 = .ok (.bipush 64, 2) := by decide +kernel
theorem dX5_block_5 : decode cX5_block 5 = .ok (.if_icmp .ge 159, 3) := by decide +kernel
theorem dX5_block_8 : decode cX5_block 8 = .ok (.iload_n 2, 1) := by decide +kernel
theorem dX5_block_9 : decode cX5_block 9 = .ok (.bipush 16, 2) := by decide +kernel
theorem dX5_block_11 : decode cX5_block 11 = .ok (.if_icmp .ge 54, 3) := by decide +kernel
theorem dX5_block_14 : decode cX5_block 14 = .ok (.aload_n 0, 1) := by decide +kernel
theorem dX5_block_15 : decode cX5_block 15 = .ok (.getfield 25, 3) := by decide +kernel
theorem dX5_block_18 : decode cX5_block 18 = .ok (.iload_n 2, 1) := by decide +kernel
theorem dX5_block_19 : decode cX5_block 19 = .ok (.iconst 0, 1) := by decide +kernel
theorem dX5_block_20 : decode cX5_block 20 = .ok (.iastore, 1) := by decide +kernel
theorem dX5_block_21 : decode cX5_block 21 = .ok (.iconst 0, 1) := by decide +kernel
theorem dX5_block_22 : decode cX5_block 22 = .ok (.istore_n 3, 1) := by decide +kernel
theorem dX5_block_23 : decode cX5_block 23 = .ok (.iload_n 3, 1) := by decide +kernel
theorem dX5_block_24 : decode cX5_block 24 = .ok (.iconst 4, 1) := by decide +kernel
theorem dX5_block_25 : decode cX5_block 25 = .ok (.if_icmp .ge 37, 3) := by decide +kernel
theorem dX5_block_28 : decode cX5_block 28 = .ok (.aload_n 0, 1) := by decide +kernel
theorem dX5_block_29 : decode cX5_block 29 = .ok (.getfield 25, 3) := by decide +kernel
theorem dX5_block_32 : decode cX5_block 32 = .ok (.iload_n 2, 1) := by decide +kernel
theorem dX5_block_33 : decode cX5_block 33 = .ok (.aload_n 0, 1) := by decide +kernel
theorem dX5_block_34 : decode cX5_block 34 = .ok (.getfield 25, 3) := by decide +kernel
theorem dX5_block_37 : decode cX5_block 37 = .ok (.iload_n 2, 1) := by decide +kernel
theorem dX5_block_38 : decode cX5_block 38 = .ok (.iaload, 1) := by decide +kernel
theorem dX5_block_39 : decode cX5_block 39 = .ok (.bipush 8, 2) := by decide +kernel
theorem dX5_block_41 : decode cX5_block 41 = .ok (.ishl, 1) := by decide +kernel
theorem dX5_block_42 : decode cX5_block 42 = .ok (.aload_n 0, 1) := by decide +kernel
theorem dX5_block_43 : decode cX5_block 43 = .ok (.getfield 22, 3) := by decide +kernel
theorem dX5_block_46 : decode cX5_block 46 = .ok (.iload_n 1, 1) := by decide +kernel
theorem dX5_block_47 : decode cX5_block 47 = .ok (.iconst 4, 1) := by decide +kernel
theorem dX5_block_48 : decode cX5_block 48 = .ok (.iload_n 2, 1) := by decide +kernel
theorem dX5_block_49 : decode cX5_block 49 = .ok (.imul, 1) := by decide +kernel
theorem dX5_block_50 : decode cX5_block 50 = .ok (.iadd, 1) := by decide +kernel
theorem dX5_block_51 : decode cX5_block 51 = .ok (.iload_n 3, 1) := by decide +kernel
theorem dX5_block_52 : decode cX5_block 52 = .ok (.iadd, 1) := by decide +kernel
theorem dX5_block_53 : decode cX5_block 53 = .ok (.iaload, 1) := by decide +kernel
theorem dX5_block_54 : decode cX5_block 54 = .ok (.ior, 1) := by decide +kernel
theorem dX5_block_55 : decode cX5_block 55 = .ok (.iastore, 1) := by decide +kernel
theorem dX5_block_56 : decode cX5_block 56 = .ok (.iinc 3 1, 3) := by decide +kernel
theorem dX5_block_59 : decode cX5_block 59 = .ok (.goto (-36), 3) := by decide +kernel
theorem dX5_block_62 : decode cX5_block 62 = .ok (.goto 96, 3) := by decide +kernel
theorem dX5_block_65 : decode cX5_block 65 = .ok (.aload_n 0, 1) := by decide +kernel
theorem dX5_block_66 : decode cX5_block 66 = .ok (.getfield 25, 3) := by decide +kernel
theorem dX5_block_69 : decode cX5_block 69 = .ok (.iload_n 2, 1) := by decide +kernel
theorem dX5_block_70 : decode cX5_block 70 = .ok (.bipush 15, 2) := by decide +kernel
theorem dX5_block_72 : decode cX5_block 72 = .ok (.isub, 1) := by decide +kernel
theorem dX5_block_73 : decode cX5_block 73 = .ok (.iaload, 1) := by decide +kernel
theorem dX5_block_74 : decode cX5_block 74 = .ok (.istore_n 3, 1) := by decide +kernel
theorem dX5_block_75 : decode cX5_block 75 = .ok (.aload_n 0, 1) := by decide +kernel
theorem dX5_block_76 : decode cX5_block 76 = .ok (.getfield 25, 3) := by decide +kernel
theorem dX5_block_79 : decode cX5_block 79 = .ok (.iload_n 2, 1) := by decide +kernel
theorem dX5_block_80 : decode cX5_block 80 = .ok (.iconst 2, 1) := by decide +kernel
theorem dX5_block_81 : decode cX5_block 81 = .ok (.isub, 1) := by decide +kernel
theorem dX5_block_82 : decode cX5_block 82 = .ok (.iaload, 1) := by decide +kernel
theorem dX5_block_83 : decode cX5_block 83 = .ok (.istore 4, 2) := by decide +kernel
theorem dX5_block_85 : decode cX5_block 85 = .ok (.iload_n 3, 1) := by decide +kernel
theorem dX5_block_86 : decode cX5_block 86 = .ok (.bipush 7, 2) := by decide +kernel
theorem dX5_block_88 : decode cX5_block 88 = .ok (.invokestatic 157, 3) := by decide +kernel
theorem dX5_block_91 : decode cX5_block 91 = .ok (.iload_n 3, 1) := by decide +kernel
theorem dX5_block_92 : decode cX5_block 92 = .ok (.bipush 18, 2) := by decide +kernel
theorem dX5_block_94 : decode cX5_block 94 = .ok (.invokestatic 157, 3) := by decide +kernel
theorem dX5_block_97 : decode cX5_block 97 = .ok (.ixor, 1) := by decide +kernel
theorem dX5_block_98 : decode cX5_block 98 = .ok (.iload_n 3, 1) := by decide +kernel
theorem dX5_block_99 : decode cX5_block 99 = .ok (.iconst 3, 1) := by decide +kernel
theorem dX5_block_100 : decode cX5_block 100 = .ok (.iushr, 1) := by decide +kernel
theorem dX5_block_101 : decode cX5_block 101 = .ok (.ixor, 1) := by decide +kernel
theorem dX5_block_102 : decode cX5_block 102 = .ok (.istore 5, 2) := by decide +kernel
theorem dX5_block_104 : decode cX5_block 104 = .ok (.iload 4, 2) := by decide +kernel
theorem dX5_block_106 : decode cX5_block 106 = .ok (.bipush 17, 2) := by decide +kernel
theorem dX5_block_108 : decode cX5_block 108 = .ok (.invokestatic 157, 3) := by decide +kernel
theorem dX5_block_111 : decode cX5_block 111 = .ok (.iload 4, 2) := by decide +kernel
theorem dX5_block_113 : decode cX5_block 113 = .ok (.bipush 19, 2) := by decide +kernel
theorem dX5_block_115 : decode cX5_block 115 = .ok (.invokestatic 157, 3) := by decide +kernel
theorem dX5_block_118 : decode cX5_block 118 = .ok (.ixor, 1) := by decide +kernel
theorem dX5_block_119 : decode cX5_block 119 = .ok (.iload 4, 2) := by decide +kernel
theorem dX5_block_121 : decode cX5_block 121 = .ok (.bipush 10, 2) := by decide +kernel
theorem dX5_block_123 : decode cX5_block 123 = .ok (.iushr, 1) := by decide +kernel
theorem dX5_block_124 : decode cX5_block 124 = .ok (.ixor, 1) := by decide +kernel
theorem dX5_block_125 : decode cX5_block 125 = .ok (.istore 6, 2) := by decide +kernel
theorem dX5_block_127 : decode cX5_block 127 = .ok (.aload_n 0, 1) := by decide +kernel
theorem dX5_block_128 : decode cX5_block 128 = .ok (.getfield 25, 3) := by decide +kernel
theorem dX5_block_131 : decode cX5_block 131 = .ok (.iload_n 2, 1) := by decide +kernel
theorem dX5_block_132 : decode cX5_block 132 = .ok (.aload_n 0, 1) := by decide +kernel
theorem dX5_block_133 : decode cX5_block 133 = .ok (.getfield 25, 3) := by decide +kernel
theorem dX5_block_136 : decode cX5_block 136 = .ok (.iload_n 2, 1) := by decide +kernel
theorem dX5_block_137 : decode cX5_block 137 = .ok (.bipush 16, 2) := by decide +kernel
theorem dX5_block_139 : decode cX5_block 139 = .ok (.isub, 1) := by decide +kernel
theorem dX5_block_140 : decode cX5_block 140 = .ok (.iaload, 1) := by decide +kernel
theorem dX5_block_141 : decode cX5_block 141 = .ok (.iload 5, 2) := by decide +kernel
theorem dX5_block_143 : decode cX5_block 143 = .ok (.iadd, 1) := by decide +kernel
theorem dX5_block_144 : decode cX5_block 144 = .ok (.aload_n 0, 1) := by decide +kernel
theorem dX5_block_145 : decode cX5_block 145 = .ok (.getfield 25, 3) := by decide +kernel
theorem dX5_block_148 : decode cX5_block 148 = .ok (.iload_n 2, 1) := by decide +kernel
theorem dX5_block_149 : decode cX5_block 149 = .ok (.bipush 7, 2) := by decide +kernel
theorem dX5_block_151 : decode cX5_block 151 = .ok (.isub, 1) := by decide +kernel
theorem dX5_block_152 : decode cX5_block 152 = .ok (.iaload, 1) := by decide +kernel
theorem dX5_block_153 : decode cX5_block 153 = .ok (.iadd, 1) := by decide +kernel
theorem dX5_block_154 : decode cX5_block 154 = .ok (.iload 6, 2) := by decide +kernel
theorem dX5_block_156 : decode cX5_block 156 = .ok (.iadd, 1) := by decide +kernel
theorem dX5_block_157 : decode cX5_block 157 = .ok (.iastore, 1) := by decide +kernel
theorem dX5_block_158 : decode cX5_block 158 = .ok (.iinc 2 1, 3) := by decide +kernel
theorem dX5_block_161 : decode cX5_block 161 = .ok (.goto (-159), 3) := by decide +kernel
theorem dX5_block_164 : decode cX5_block 164 = .ok (.iconst 0, 1) := by decide +kernel
theorem dX5_block_165 : decode cX5_block 165 = .ok (.istore_n 2, 1) := by decide +kernel
theorem dX5_block_166 : decode cX5_block 166 = .ok (.iload_n 2, 1) := by decide +kernel
theorem dX5_block_167 : decode cX5_block 167 = .ok (.bipush 8, 2) := by decide +kernel
theorem dX5_block_169 : decode cX5_block 169 = .ok (.if_icmp .ge 24, 3) := by decide +kernel
theorem dX5_block_172 : decode cX5_block 172 = .ok (.aload_n 0, 1) := by decide +kernel
theorem dX5_block_173 : decode cX5_block 173 = .ok (.getfield 28, 3) := by decide +kernel
theorem dX5_block_176 : decode cX5_block 176 = .ok (.bipush 8, 2) := by decide +kernel
theorem dX5_block_178 : decode cX5_block 178 = .ok (.iload_n 2, 1) := by decide +kernel
theorem dX5_block_179 : decode cX5_block 179 = .ok (.iadd, 1) := by decide +kernel
theorem dX5_block_180 : decode cX5_block 180 = .ok (.aload_n 0, 1) := by decide +kernel
theorem dX5_block_181 : decode cX5_block 181 = .ok (.getfield 28, 3) := by decide +kernel
theorem dX5_block_184 : decode cX5_block 184 = .ok (.iload_n 2, 1) := by decide +kernel
theorem dX5_block_185 : decode cX5_block 185 = .ok (.iaload, 1) := by decide +kernel
theorem dX5_block_186 : decode cX5_block 186 = .ok (.iastore, 1) := by decide +kernel
theorem dX5_block_187 : decode cX5_block 187 = .ok (.iinc 2 1, 3) := by decide +kernel
theorem dX5_block_190 : decode cX5_block 190 = .ok (.goto (-24), 3) := by decide +kernel
theorem dX5_block_193 : decode cX5_block 193 = .ok (.iconst 0, 1) := by decide +kernel
theorem dX5_block_194 : decode cX5_block 194 = .ok (.istore_n 2, 1) := by decide +kernel
theorem dX5_block_195 : decode cX5_block 195 = .ok (.iload_n 2, 1) := by decide +kernel
theorem dX5_block_196 : decode cX5_block 196 = .ok (.bipush 64, 2) := by decide +kernel
theorem dX5_block_198 : decode cX5_block 198 = .ok (.if_icmp .ge 222, 3) := by decide +kernel
theorem dX5_block_201 : decode cX5_block 201 = .ok (.aload_n 0, 1) := by decide +kernel
theorem dX5_block_202 : decode cX5_block 202 = .ok (.getfield 28, 3) := by decide +kernel
theorem dX5_block_205 : decode cX5_block 205 = .ok (.bipush 8, 2) := by decide +kernel
theorem dX5_block_207 : decode cX5_block 207 = .ok (.iaload, 1) := by decide +kernel
theorem dX5_block_208 : decode cX5_block 208 = .ok (.istore_n 3, 1) := by decide +kernel
theorem dX5_block_209 : decode cX5_block 209 = .ok (.aload_n 0, 1) := by decide +kernel
theorem dX5_block_210 : decode cX5_block 210 = .ok (.getfield 28, 3) := by decide +kernel
theorem dX5_block_213 : decode cX5_block 213 = .ok (.bipush 12, 2) := by decide +kernel
theorem dX5_block_215 : decode cX5_block 215 = .ok (.iaload, 1) := by decide +kernel
theorem dX5_block_216 : decode cX5_block 216 = .ok (.istore 4, 2) := by decide +kernel
theorem dX5_block_218 : decode cX5_block 218 = .ok (.iload 4, 2) := by decide +kernel
theorem dX5_block_220 : decode cX5_block 220 = .ok (.aload_n 0, 1) := by decide +kernel
theorem dX5_block_221 : decode cX5_block 221 = .ok (.getfield 28, 3) := by decide +kernel
theorem dX5_block_224 : decode cX5_block 224 = .ok (.bipush 13, 2) := by decide +kernel
theorem dX5_block_226 : decode cX5_block 226 = .ok (.iaload, 1) := by decide +kernel
theorem dX5_block_227 : decode cX5_block 227 = .ok (.iand, 1) := by decide +kernel
theorem dX5_block_228 : decode cX5_block 228 = .ok (.iload 4, 2) := by decide +kernel
theorem dX5_block_230 : decode cX5_block 230 = .ok (.iconst (-1), 1) := by decide +kernel
theorem dX5_block_231 : decode cX5_block 231 = .ok (.ixor, 1) := by decide +kernel
theorem dX5_block_232 : decode cX5_block 232 = .ok (.aload_n 0, 1) := by decide +kernel
theorem dX5_block_233 : decode cX5_block 233 = .ok (.getfield 28, 3) := by decide +kernel
theorem dX5_block_236 : decode cX5_block 236 = .ok (.bipush 14, 2) := by decide +kernel
theorem dX5_block_238 : decode cX5_block 238 = .ok (.iaload, 1) := by decide +kernel
theorem dX5_block_239 : decode cX5_block 239 = .ok (.iand, 1) := by decide +kernel
theorem dX5_block_240 : decode cX5_block 240 = .ok (.ixor, 1) := by decide +kernel
theorem dX5_block_241 : decode cX5_block 241 = .ok (.istore 5, 2) := by decide +kernel
theorem dX5_block_243 : decode cX5_block 243 = .ok (.iload_n 3, 1) := by decide +kernel
theorem dX5_block_244 : decode cX5_block 244 = .ok (.aload_n 0, 1) := by decide +kernel
theorem dX5_block_245 : decode cX5_block 245 = .ok (.getfield 28, 3) := by decide +kernel
theorem dX5_block_248 : decode cX5_block 248 = .ok (.bipush 9, 2) := by decide +kernel
theorem dX5_block_250 : decode cX5_block 250 = .ok (.iaload, 1) := by decide +kernel
theorem dX5_block_251 : decode cX5_block 251 = .ok (.iand, 1) := by decide +kernel
theorem dX5_block_252 : decode cX5_block 252 = .ok (.iload_n 3, 1) := by decide +kernel
theorem dX5_block_253 : decode cX5_block 253 = .ok (.aload_n 0, 1) := by decide +kernel
theorem dX5_block_254 : decode cX5_block 254 = .ok (.getfield 28, 3) := by decide +kernel
theorem dX5_block_257 : decode cX5_block 257 = .ok (.bipush 10, 2) := by decide +kernel
theorem dX5_block_259 : decode cX5_block 259 = .ok (.iaload, 1) := by decide +kernel
theorem dX5_block_260 : decode cX5_block 260 = .ok (.iand, 1) := by decide +kernel
theorem dX5_block_261 : decode cX5_block 261 = .ok (.ixor, 1) := by decide +kernel
theorem dX5_block_262 : decode cX5_block 262 = .ok (.aload_n 0, 1) := by decide +kernel
theorem dX5_block_263 : decode cX5_block 263 = .ok (.getfield 28, 3) := by decide +kernel
theorem dX5_block_266 : decode cX5_block 266 = .ok (.bipush 9, 2) := by decide +kernel
theorem dX5_block_268 : decode cX5_block 268 = .ok (.iaload, 1) := by decide +kernel
theorem dX5_block_269 : decode cX5_block 269 = .ok (.aload_n 0, 1) := by decide +kernel
theorem dX5_block_270 : decode cX5_block 270 = .ok (.getfield 28, 3) := by decide +kernel
theorem dX5_block_273 : decode cX5_block 273 = .ok (.bipush 10, 2) := by decide +kernel
theorem dX5_block_275 : decode cX5_block 275 = .ok (.iaload, 1) := by decide +kernel
theorem dX5_block_276 : decode cX5_block 276 = .ok (.iand, 1) := by decide +kernel
theorem dX5_block_277 : decode cX5_block 277 = .ok (.ixor, 1) := by decide +kernel
theorem dX5_block_278 : decode cX5_block 278 = .ok (.istore 6, 2) := by decide +kernel
theorem dX5_block_280 : decode cX5_block 280 = .ok (.aload_n 0, 1) := by decide +kernel
theorem dX5_block_281 : decode cX5_block 281 = .ok (.getfield 28, 3) := by decide +kernel
theorem dX5_block_284 : decode cX5_block 284 = .ok (.bipush 15, 2) := by decide +kernel
theorem dX5_block_286 : decode cX5_block 286 = .ok (.iaload, 1) := by decide +kernel
theorem dX5_block_287 : decode cX5_block 287 = .ok (.iload 4, 2) := by decide +kernel
theorem dX5_block_289 : decode cX5_block 289 = .ok (.bipush 6, 2) := by decide +kernel
theorem dX5_block_291 : decode cX5_block 291 = .ok (.invokestatic 157, 3) := by decide +kernel
theorem dX5_block_294 : decode cX5_block 294 = .ok (.iload 4, 2) := by decide +kernel
theorem dX5_block_296 : decode cX5_block 296 = .ok (.bipush 11, 2) := by decide +kernel
theorem dX5_block_298 : decode cX5_block 298 = .ok (.invokestatic 157, 3) := by decide +kernel
theorem dX5_block_301 : decode cX5_block 301 = .ok (.ixor, 1) := by decide +kernel
theorem dX5_block_302 : decode cX5_block 302 = .ok (.iload 4, 2) := by decide +kernel
theorem dX5_block_304 : decode cX5_block 304 = .ok (.bipush 25, 2) := by decide +kernel
theorem dX5_block_306 : decode cX5_block 306 = .ok (.invokestatic 157, 3) := by decide +kernel
theorem dX5_block_309 : decode cX5_block 309 = .ok (.ixor, 1) := by decide +kernel
theorem dX5_block_310 : decode cX5_block 310 = .ok (.iadd, 1) := by decide +kernel
theorem dX5_block_311 : decode cX5_block 311 = .ok (.iload 5, 2) := by decide +kernel
theorem dX5_block_313 : decode cX5_block 313 = .ok (.iadd, 1) := by decide +kernel
theorem dX5_block_314 : decode cX5_block 314 = .ok (.iload_n 2, 1) := by decide +kernel
theorem dX5_block_315 : decode cX5_block 315 = .ok (.invokestatic 161, 3) := by decide +kernel
theorem dX5_block_318 : decode cX5_block 318 = .ok (.iadd, 1) := by decide +kernel
theorem dX5_block_319 : decode cX5_block 319 = .ok (.aload_n 0, 1) := by decide +kernel
theorem dX5_block_320 : decode cX5_block 320 = .ok (.getfield 25, 3) := by decide +kernel
theorem dX5_block_323 : decode cX5_block 323 = .ok (.iload_n 2, 1) := by decide +kernel
theorem dX5_block_324 : decode cX5_block 324 = .ok (.iaload, 1) := by decide +kernel
theorem dX5_block_325 : decode cX5_block 325 = .ok (.iadd, 1) := by decide +kernel
theorem dX5_block_326 : decode cX5_block 326 = .ok (.istore 7, 2) := by decide +kernel
theorem dX5_block_328 : decode cX5_block 328 = .ok (.iload_n 3, 1) := by decide +kernel
theorem dX5_block_329 : decode cX5_block 329 = .ok (.iconst 2, 1) := by decide +kernel
theorem dX5_block_330 : decode cX5_block 330 = .ok (.invokestatic 157, 3) := by decide +kernel
theorem dX5_block_333 : decode cX5_block 333 = .ok (.iload_n 3, 1) := by decide +kernel
theorem dX5_block_334 : decode cX5_block 334 = .ok (.bipush 13, 2) := by decide +kernel
theorem dX5_block_336 : decode cX5_block 336 = .ok (.invokestatic 157, 3) := by decide +kernel
theorem dX5_block_339 : decode cX5_block 339 = .ok (.ixor, 1) := by decide +kernel
theorem dX5_block_340 : decode cX5_block 340 = .ok (.iload_n 3, 1) := by decide +kernel
theorem dX5_block_341 : decode cX5_block 341 = .ok (.bipush 22, 2) := by decide +kernel
theorem dX5_block_343 : decode cX5_block 343 = .ok (.invokestatic 157, 3) := by decide +kernel
theorem dX5_block_346 : decode cX5_block 346 = .ok (.ixor, 1) := by decide +kernel
theorem dX5_block_347 : decode cX5_block 347 = .ok (.iload 6, 2) := by decide +kernel
theorem dX5_block_349 : decode cX5_block 349 = .ok (.iadd, 1) := by decide +kernel
theorem dX5_block_350 : decode cX5_block 350 = .ok (.istore 8, 2) := by decide +kernel
theorem dX5_block_352 : decode cX5_block 352 = .ok (.bipush 15, 2) := by decide +kernel
theorem dX5_block_354 : decode cX5_block 354 = .ok (.istore 9, 2) := by decide +kernel
theorem dX5_block_356 : decode cX5_block 356 = .ok (.iload 9, 2) := by decide +kernel
theorem dX5_block_358 : decode cX5_block 358 = .ok (.bipush 8, 2) := by decide +kernel
theorem dX5_block_360 : decode cX5_block 360 = .ok (.if_icmp .le 25, 3) := by decide +kernel
theorem dX5_block_363 : decode cX5_block 363 = .ok (.aload_n 0, 1) := by decide +kernel
theorem dX5_block_364 : decode cX5_block 364 = .ok (.getfield 28, 3) := by decide +kernel
theorem dX5_block_367 : decode cX5_block 367 = .ok (.iload 9, 2) := by decide +kernel
theorem dX5_block_369 : decode cX5_block 369 = .ok (.aload_n 0, 1) := by decide +kernel
theorem dX5_block_370 : decode cX5_block 370 = .ok (.getfield 28, 3) := by decide +kernel
theorem dX5_block_373 : decode cX5_block 373 = .ok (.iload 9, 2) := by decide +kernel
theorem dX5_block_375 : decode cX5_block 375 = .ok (.iconst 1, 1) := by decide +kernel
theorem dX5_block_376 : decode cX5_block 376 = .ok (.isub, 1) := by decide +kernel
theorem dX5_block_377 : decode cX5_block 377 = .ok (.iaload, 1) := by decide +kernel
theorem dX5_block_378 : decode cX5_block 378 = .ok (.iastore, 1) := by decide +kernel
theorem dX5_block_379 : decode cX5_block 379 = .ok (.iinc 9 (-1), 3) := by decide +kernel
theorem dX5_block_382 : decode cX5_block 382 = .ok (.goto (-26), 3) := by decide +kernel
theorem dX5_block_385 : decode cX5_block 385 = .ok (.aload_n 0, 1) := by decide +kernel
theorem dX5_block_386 : decode cX5_block 386 = .ok (.getfield 28, 3) := by decide +kernel
theorem dX5_block_389 : decode cX5_block 389 = .ok (.bipush 12, 2) := by decide +kernel
theorem dX5_block_391 : decode cX5_block 391 = .ok (.aload_n 0, 1) := by decide +kernel
theorem dX5_block_392 : decode cX5_block 392 = .ok (.getfield 28, 3) := by decide +kernel
theorem dX5_block_395 : decode cX5_block 395 = .ok (.bipush 12, 2) := by decide +kernel
theorem dX5_block_397 : decode cX5_block 397 = .ok (.iaload, 1) := by decide +kernel
theorem dX5_block_398 : decode cX5_block 398 = .ok (.iload 7, 2) := by decide +kernel
theorem dX5_block_400 : decode cX5_block 400 = .ok (.iadd, 1) := by decide +kernel
theorem dX5_block_401 : decode cX5_block 401 = .ok (.iastore, 1) := by decide +kernel
theorem dX5_block_402 : decode cX5_block 402 = .ok (.aload_n 0, 1) := by decide +kernel
theorem dX5_block_403 : decode cX5_block 403 = .ok (.getfield 28, 3) := by decide +kernel
theorem dX5_block_406 : decode cX5_block 406 = .ok (.bipush 8, 2) := by decide +kernel
theorem dX5_block_408 : decode cX5_block 408 = .ok (.iload 7, 2) := by decide +kernel
theorem dX5_block_410 : decode cX5_block 410 = .ok (.iload 8, 2) := by decide +kernel
theorem dX5_block_412 : decode cX5_block 412 = .ok (.iadd, 1) := by decide +kernel
theorem dX5_block_413 : decode cX5_block 413 = .ok (.iastore, 1) := by decide +kernel
theorem dX5_block_414 : decode cX5_block 414 = .ok (.iinc 2 1, 3) := by decide +kernel
theorem dX5_block_417 : decode cX5_block 417 = .ok (.goto (-222), 3) := by decide +kernel
theorem dX5_block_420 : decode cX5_block 420 = .ok (.iconst 0, 1) := by decide +kernel
theorem dX5_block_421 : decode cX5_block 421 = .ok (.istore_n 2, 1) := by decide +kernel
theorem dX5_block_422 : decode cX5_block 422 = .ok (.iload_n 2, 1) := by decide +kernel
theorem dX5_block_423 : decode cX5_block 423 = .ok (.bipush 8, 2) := by decide +kernel
theorem dX5_block_425 : decode cX5_block 425 = .ok (.if_icmp .ge 31, 3) := by decide +kernel
theorem dX5_block_428 : decode cX5_block 428 = .ok (.aload_n 0, 1) := by decide +kernel
theorem dX5_block_429 : decode cX5_block 429 = .ok (.getfield 28, 3) := by decide +kernel
theorem dX5_block_432 : decode cX5_block 432 = .ok (.iload_n 2, 1) := by decide +kernel
theorem dX5_block_433 : decode cX5_block 433 = .ok (.aload_n 0, 1) := by decide +kernel
theorem dX5_block_434 : decode cX5_block 434 = .ok (.getfield 28, 3) := by decide +kernel
theorem dX5_block_437 : decode cX5_block 437 = .ok (.iload_n 2, 1) := by decide +kernel
theorem dX5_block_438 : decode cX5_block 438 = .ok (.iaload, 1) := by decide +kernel
theorem dX5_block_439 : decode cX5_block 439 = .ok (.aload_n 0, 1) := by decide +kernel
theorem dX5_block_440 : decode cX5_block 440 = .ok (.getfield 28, 3) := by decide +kernel
theorem dX5_block_443 : decode cX5_block 443 = .ok (.bipush 8, 2) := by decide +kernel
theorem dX5_block_445 : decode cX5_block 445 = .ok (.iload_n 2, 1) := by decide +kernel
theorem dX5_block_446 : decode cX5_block 446 = .ok (.iadd, 1) := by decide +kernel
theorem dX5_block_447 : decode cX5_block 447 = .ok (.iaload, 1) := by decide +kernel
theorem dX5_block_448 : decode cX5_block 448 = .ok (.iadd, 1) := by decide +kernel
theorem dX5_block_449 : decode cX5_block 449 = .ok (.iastore, 1) := by decide +kernel
theorem dX5_block_450 : decode cX5_block 450 = .ok (.iinc 2 1, 3) := by decide +kernel
theorem dX5_block_453 : decode cX5_block 453 = .ok (.goto (-31), 3) := by decide +kernel
theorem dX5_block_456 : decode cX5_block 456 = .ok (.return_, 1) := by decide +kernel
set_option maxRecDepth 20000 in
theorem ggX5_hash_X5_first : GoodIn wsX5_hash wsX5_first := goodIn_r _ [7, 8, 9, 10, 11, 12, 13, 14, 15] (by decide +kernel) (by decide +kernel)
set_option maxRecDepth 20000 in
theorem gX5_hash_X5_first : GoodIn wsX5_hash (va_wsS RX5 165 yX5_first wsX5_first) := goodIn_app (goodIn_of _ (by decide +kernel)) ggX5_hash_X5_first
set_option maxRecDepth 20000 in
theorem ggX5_hash_X5_add : GoodIn wsX5_hash wsX5_add := goodIn_r _ [19, 20, 1, 100, 101, 102, 103, 104, 105, 106, 107, 108, 109, 110, 111, 112, 113, 114, 115, 116, 117, 118, 119, 120, 121, 122, 123, 124, 125, 126, 127, 128, 129] (by decide +kernel) (by decide +kernel)
set_option maxRecDepth 20000 in
theorem gX5_hash_X5_add : GoodIn wsX5_hash (wsV RX5 153 RX5 yX5_add wsX5_add) := goodIn_app (goodIn_of _ (by decide +kernel)) ggX5_hash_X5_add
set_option maxRecDepth 20000 in
theorem ggX5_hash_X5_addNumber : GoodIn wsX5_hash wsX5_addNumber := goodIn_r _ [24, 16, 17, 18, 6, 19, 20, 1, 100, 101, 102, 103, 104, 105, 106, 107, 108, 109, 110, 111, 112, 113, 114, 115, 116, 117, 118, 119, 120, 121, 122, 123, 124, 125, 126, 127, 128, 129] (by decide +kernel) (by decide +kernel)
set_option maxRecDepth 20000 in
theorem gX5_hash_X5_addNumber : GoodIn wsX5_hash (wsV RX5 168 RX5 yX5_addNumber wsX5_addNumber) := goodIn_app (goodIn_of _ (by decide +kernel)) ggX5_hash_X5_addNumber
set_option maxRecDepth 20000 in
theorem ggX5_hash_X5_block : GoodIn wsX5_hash wsX5_block := goodIn_r _ [28, 29, 20, 2, 30, 31, 6, 32, 33, 34, 35, 36, 37, 38, 39, 40, 41, 42, 43, 44, 45, 46, 47, 48, 49, 50, 51, 52, 53, 54, 55, 56, 57, 58, 59, 60, 61, 62, 63, 64, 65, 66, 67, 68, 69, 70, 71, 72, 73, 74, 75, 76, 77, 78, 79, 80, 81, 82, 83, 84, 85, 86, 87, 88, 89, 90, 91, 92, 93, 94, 95, 96, 97, 98, 99, 100, 101, 102, 103, 104, 105, 106, 107, 108, 109, 110, 111, 112, 113, 114, 115, 116, 117, 118, 119, 120, 121, 122, 123, 124, 125, 126, 127, 128, 129] (by decide +kernel) (by decide +kernel)
set_option maxRecDepth 20000 in
theorem gX5_hash_X5_block : GoodIn wsX5_hash (wsV RX5 171 RX5 yX5_block wsX5_block) := goodIn_app (goodIn_of _ (by decide +kernel)) ggX5_hash_X5_block
theorem dX5_hash_0 : decode cX5_hash 0 = .ok (.bipush 8, 2) := by decide +kernel
theorem dX5_hash_2 : decode cX5_hash 2 = .ok (.aload_n 0, 1) := by decide +kernel
theorem dX5_hash_3 : decode cX5_hash 3 = .ok (.getfield 150, 3) := by decide +kernel
theorem dX5_hash_6 : decode cX5_hash 6 = .ok (.imul, 1) := by decide +kernel
theorem dX5_hash_7 : decode cX5_hash 7 = .ok (.istore_n 1, 1) := by decide +kernel
theorem dX5_hash_8 : decode cX5_hash 8 = .ok (.iconst 0, 1) := by decide +kernel
theorem dX5_hash_9 : decode cX5_hash 9 = .ok (.istore_n 2, 1) := by decide +kernel
theorem dX5_hash_10 : decode cX5_hash 10 = .ok (.iload_n 2, 1) := by decide +kernel
theorem dX5_hash_11 : decode cX5_hash 11 = .ok (.bipush 8, 2) := by decide +kernel
theorem dX5_hash_13 : decode cX5_hash 13 = .ok (.if_icmp .ge 19, 3) := by decide +kernel
theorem dX5_hash_16 : decode cX5_hash 16 = .ok (.aload_n 0, 1) := by decide +kernel
theorem dX5_hash_17 : decode cX5_hash 17 = .ok (.getfield 28, 3) := by decide +kernel
theorem dX5_hash_20 : decode cX5_hash 20 = .ok (.iload_n 2, 1) := by decide +kernel
theorem dX5_hash_21 : decode cX5_hash 21 = .ok (.iload_n 2, 1) := by decide +kernel
theorem dX5_hash_22 : decode cX5_hash 22 = .ok (.invokestatic 165, 3) := by decide +kernel
theorem dX5_hash_25 : decode cX5_hash 25 = .ok (.iastore, 1) := by decide +kernel
theorem dX5_hash_26 : decode cX5_hash 26 = .ok (.iinc 2 1, 3) := by decide +kernel
theorem dX5_hash_29 : decode cX5_hash 29 = .ok (.goto (-19), 3) := by decide +kernel
theorem dX5_hash_32 : decode cX5_hash 32 = .ok (.aload_n 0, 1) := by decide +kernel
theorem dX5_hash_33 : decode cX5_hash 33 = .ok (.sipush 128, 3) := by decide +kernel
theorem dX5_hash_36 : decode cX5_hash 36 = .ok (.invokevirtual 153, 3) := by decide +kernel
theorem dX5_hash_39 : decode cX5_hash 39 = .ok (.aload_n 0, 1) := by decide +kernel
theorem dX5_hash_40 : decode cX5_hash 40 = .ok (.getfield 150, 3) := by decide +kernel
theorem dX5_hash_43 : decode cX5_hash 43 = .ok (.bipush 64, 2) := by decide +kernel
theorem dX5_hash_45 : decode cX5_hash 45 = .ok (.irem, 1) := by decide +kernel
theorem dX5_hash_46 : decode cX5_hash 46 = .ok (.bipush 56, 2) := by decide +kernel
theorem dX5_hash_48 : decode cX5_hash 48 = .ok (.if_icmp .eq 11, 3) := by decide +kernel
theorem dX5_hash_51 : decode cX5_hash 51 = .ok (.aload_n 0, 1) := by decide +kernel
theorem dX5_hash_52 : decode cX5_hash 52 = .ok (.iconst 0, 1) := by decide +kernel
theorem dX5_hash_53 : decode cX5_hash 53 = .ok (.invokevirtual 153, 3) := by decide +kernel
theorem dX5_hash_56 : decode cX5_hash 56 = .ok (.goto (-17), 3) := by decide +kernel
theorem dX5_hash_59 : decode cX5_hash 59 = .ok (.aload_n 0, 1) := by decide +kernel
theorem dX5_hash_60 : decode cX5_hash 60 = .ok (.iconst 0, 1) := by decide +kernel
theorem dX5_hash_61 : decode cX5_hash 61 = .ok (.invokevirtual 168, 3) := by decide +kernel
theorem dX5_hash_64 : decode cX5_hash 64 = .ok (.aload_n 0, 1) := by decide +kernel
theorem dX5_hash_65 : decode cX5_hash 65 = .ok (.iload_n 1, 1) := by decide +kernel
theorem dX5_hash_66 : decode cX5_hash 66 = .ok (.invokevirtual 168, 3) := by decide +kernel
theorem dX5_hash_69 : decode cX5_hash 69 = .ok (.iconst 0, 1) := by decide +kernel
theorem dX5_hash_70 : decode cX5_hash 70 = .ok (.istore_n 2, 1) := by decide +kernel
theorem dX5_hash_71 : decode cX5_hash 71 = .ok (.iload_n 2, 1) := by decide +kernel
theorem dX5_hash_72 : decode cX5_hash 72 = .ok (.aload_n 0, 1) := by decide +kernel
theorem dX5_hash_73 : decode cX5_hash 73 = .ok (.getfield 150, 3) := by decide +kernel
theorem dX5_hash_76 : decode cX5_hash 76 = .ok (.if_icmp .ge 16, 3) := by decide +kernel
theorem dX5_hash_79 : decode cX5_hash 79 = .ok (.aload_n 0, 1) := by decide +kernel
theorem dX5_hash_80 : decode cX5_hash 80 = .ok (.iload_n 2, 1) := by decide +kernel
theorem dX5_hash_81 : decode cX5_hash 81 = .ok (.invokevirtual 171, 3) := by decide +kernel
theorem dX5_hash_84 : decode cX5_hash 84 = .ok (.iload_n 2, 1) := by decide +kernel
theorem dX5_hash_85 : decode cX5_hash 85 = .ok (.bipush 64, 2) := by decide +kernel
theorem dX5_hash_87 : decode cX5_hash 87 = .ok (.iadd, 1) := by decide +kernel
theorem dX5_hash_88 : decode cX5_hash 88 = .ok (.istore_n 2, 1) := by decide +kernel
theorem dX5_hash_89 : decode cX5_hash 89 = .ok (.goto (-18), 3) := by decide +kernel
theorem dX5_hash_92 : decode cX5_hash 92 = .ok (.iconst 0, 1) := by decide +kernel
theorem dX5_hash_93 : decode cX5_hash 93 = .ok (.istore_n 2, 1) := by decide +kernel
theorem dX5_hash_94 : decode cX5_hash 94 = .ok (.iload_n 2, 1) := by decide +kernel
theorem dX5_hash_95 : decode cX5_hash 95 = .ok (.bipush 32, 2) := by decide +kernel
theorem dX5_hash_97 : decode cX5_hash 97 = .ok (.if_icmp .ge 37, 3) := by decide +kernel
theorem dX5_hash_100 : decode cX5_hash 100 = .ok (.aload_n 0, 1) := by decide +kernel
theorem dX5_hash_101 : decode cX5_hash 101 = .ok (.getfield 31, 3) := by decide +kernel
theorem dX5_hash_104 : decode cX5_hash 104 = .ok (.iload_n 2, 1) := by decide +kernel
theorem dX5_hash_105 : decode cX5_hash 105 = .ok (.aload_n 0, 1) := by decide +kernel
theorem dX5_hash_106 : decode cX5_hash 106 = .ok (.getfield 28, 3) := by decide +kernel
theorem dX5_hash_109 : decode cX5_hash 109 = .ok (.iload_n 2, 1) := by decide +kernel
theorem dX5_hash_110 : decode cX5_hash 110 = .ok (.iconst 4, 1) := by decide +kernel
theorem dX5_hash_111 : decode cX5_hash 111 = .ok (.idiv, 1) := by decide +kernel
theorem dX5_hash_112 : decode cX5_hash 112 = .ok (.iaload, 1) := by decide +kernel
theorem dX5_hash_113 : decode cX5_hash 113 = .ok (.bipush 24, 2) := by decide +kernel
theorem dX5_hash_115 : decode cX5_hash 115 = .ok (.bipush 8, 2) := by decide +kernel
theorem dX5_hash_117 : decode cX5_hash 117 = .ok (.iload_n 2, 1) := by decide +kernel
theorem dX5_hash_118 : decode cX5_hash 118 = .ok (.iconst 4, 1) := by decide +kernel
theorem dX5_hash_119 : decode cX5_hash 119 = .ok (.irem, 1) := by decide +kernel
theorem dX5_hash_120 : decode cX5_hash 120 = .ok (.imul, 1) := by decide +kernel
theorem dX5_hash_121 : decode cX5_hash 121 = .ok (.isub, 1) := by decide +kernel
theorem dX5_hash_122 : decode cX5_hash 122 = .ok (.ishr, 1) := by decide +kernel
theorem dX5_hash_123 : decode cX5_hash 123 = .ok (.sipush 255, 3) := by decide +kernel
theorem dX5_hash_126 : decode cX5_hash 126 = .ok (.iand, 1) := by decide +kernel
theorem dX5_hash_127 : decode cX5_hash 127 = .ok (.iastore, 1) := by decide +kernel
theorem dX5_hash_128 : decode cX5_hash 128 = .ok (.iinc 2 1, 3) := by decide +kernel
theorem dX5_hash_131 : decode cX5_hash 131 = .ok (.goto (-37), 3) := by decide +kernel
theorem dX5_hash_134 : decode cX5_hash 134 = .ok (.aload_n 0, 1) := by decide +kernel
theorem dX5_hash_135 : decode cX5_hash 135 = .ok (.iconst 0, 1) := by decide +kernel
theorem dX5_hash_136 : decode cX5_hash 136 = .ok (.putfield 150, 3) := by decide +kernel
theorem dX5_hash_139 : decode cX5_hash 139 = .ok (.return_, 1) := by decide +kernel
set_option maxRecDepth 20000 in
theorem ggX5_step_X5_add : GoodIn wsX5_step wsX5_add := goodIn_r _ [7, 8, 9, 105, 106, 107, 108, 109, 110, 111, 112, 113, 114, 115, 116, 117, 118, 119, 120, 121, 122, 123, 124, 125, 126, 127, 128, 129, 130, 131, 132, 133, 134] (by decide +kernel) (by decide +kernel)
set_option maxRecDepth 20000 in
theorem gX5_step_X5_add : GoodIn wsX5_step (wsV RX5 153 RX5 yX5_add wsX5_add) := goodIn_app (goodIn_of _ (by decide +kernel)) ggX5_step_X5_add
set_option maxRecDepth 20000 in
theorem ggX5_step_X5_hash : GoodIn wsX5_step wsX5_hash := goodIn_r _ [13, 9, 14, 2, 15, 16, 6, 17, 18, 19, 20, 21, 22, 23, 24, 25, 3, 4, 5, 7, 8, 26, 27, 28, 29, 30, 31, 32, 33, 34, 35, 36, 37, 38, 39, 40, 41, 42, 43, 44, 45, 46, 47, 48, 49, 50, 51, 52, 53, 54, 55, 56, 57, 58, 59, 60, 61, 62, 63, 64, 65, 66, 67, 68, 69, 70, 71, 72, 73, 74, 75, 76, 77, 78, 79, 80, 81, 82, 83, 84, 85, 86, 87, 88, 89, 90, 91, 92, 93, 94, 95, 96, 97, 98, 99, 100, 101, 102, 103, 104, 105, 106, 107, 108, 109, 110, 111, 112, 113, 114, 115, 116, 117, 118, 119, 120, 121, 122, 123, 124, 125, 126, 127, 128, 129, 130, 131, 132, 133, 134] (by decide +kernel) (by decide +kernel)
set_option maxRecDepth 20000 in
theorem gX5_step_X5_hash : GoodIn wsX5_step (wsV RX5 174 RX5 yX5_hash wsX5_hash) := goodIn_app (goodIn_of _ (by decide +kernel)) ggX5_step_X5_hash
theorem dX5_step_0 : decode cX5_step 0 = .ok (.aload_n 0, 1) := by decide +kernel
theorem dX5_step_1 : decode cX5_step 1 = .ok (.bipush 75, 2) := by decide +kernel
theorem dX5_step_3 : decode cX5_step 3 = .ok (.invokevirtual 153, 3) := by decide +kernel
theorem dX5_step_6 : decode cX5_step 6 = .ok (.iconst 0, 1) := by decide +kernel
theorem dX5_step_7 : decode cX5_step 7 = .ok (.istore_n 1, 1) := by decide +kernel
theorem dX5_step_8 : decode cX5_step 8 = .ok (.iload_n 1, 1) := by decide +kernel
theorem dX5_step_9 : decode cX5_step 9 = .ok (.bipush 16, 2) := by decide +kernel
theorem dX5_step_11 : decode cX5_step 11 = .ok (.if_icmp .ge 19, 3) := by decide +kernel
theorem dX5_step_14 : decode cX5_step 14 = .ok (.aload_n 0, 1) := by decide +kernel
theorem dX5_step_15 : decode cX5_step 15 = .ok (.aload_n 0, 1) := by decide +kernel
theorem dX5_step_16 : decode cX5_step 16 = .ok (.getfield 34, 3) := by decide +kernel
theorem dX5_step_19 : decode cX5_step 19 = .ok (.iload_n 1, 1) := by decide +kernel
theorem dX5_step_20 : decode cX5_step 20 = .ok (.iaload, 1) := by decide +kernel
theorem dX5_step_21 : decode cX5_step 21 = .ok (.invokevirtual 153, 3) := by decide +kernel
theorem dX5_step_24 : decode cX5_step 24 = .ok (.iinc 1 1, 3) := by decide +kernel
theorem dX5_step_27 : decode cX5_step 27 = .ok (.goto (-19), 3) := by decide +kernel
theorem dX5_step_30 : decode cX5_step 30 = .ok (.aload_n 0, 1) := by decide +kernel
theorem dX5_step_31 : decode cX5_step 31 = .ok (.invokevirtual 174, 3) := by decide +kernel
theorem dX5_step_34 : decode cX5_step 34 = .ok (.iconst 0, 1) := by decide +kernel
theorem dX5_step_35 : decode cX5_step 35 = .ok (.istore_n 1, 1) := by decide +kernel
theorem dX5_step_36 : decode cX5_step 36 = .ok (.iload_n 1, 1) := by decide +kernel
theorem dX5_step_37 : decode cX5_step 37 = .ok (.bipush 16, 2) := by decide +kernel
theorem dX5_step_39 : decode cX5_step 39 = .ok (.if_icmp .ge 21, 3) := by decide +kernel
theorem dX5_step_42 : decode cX5_step 42 = .ok (.aload_n 0, 1) := by decide +kernel
theorem dX5_step_43 : decode cX5_step 43 = .ok (.getfield 34, 3) := by decide +kernel
theorem dX5_step_46 : decode cX5_step 46 = .ok (.iload_n 1, 1) := by decide +kernel
theorem dX5_step_47 : decode cX5_step 47 = .ok (.aload_n 0, 1) := by decide +kernel
theorem dX5_step_48 : decode cX5_step 48 = .ok (.getfield 31, 3) := by decide +kernel
theorem dX5_step_51 : decode cX5_step 51 = .ok (.iload_n 1, 1) := by decide +kernel
theorem dX5_step_52 : decode cX5_step 52 = .ok (.iaload, 1) := by decide +kernel
theorem dX5_step_53 : decode cX5_step 53 = .ok (.iastore, 1) := by decide +kernel
theorem dX5_step_54 : decode cX5_step 54 = .ok (.iinc 1 1, 3) := by decide +kernel
theorem dX5_step_57 : decode cX5_step 57 = .ok (.goto (-21), 3) := by decide +kernel
theorem dX5_step_60 : decode cX5_step 60 = .ok (.return_, 1) := by decide +kernel
set_option maxRecDepth 20000 in
theorem ggX5_pad_X5_add : GoodIn wsX5_pad wsX5_add := goodIn_r _ [6, 7, 8, 9, 10, 11, 12, 13, 14, 15, 16, 17, 18, 19, 20, 21, 22, 23, 24, 25, 26, 27, 28, 29, 30, 31, 32, 33, 34, 35, 36, 37, 38] (by decide +kernel) (by decide +kernel)
set_option maxRecDepth 20000 in
theorem gX5_pad_X5_add : GoodIn wsX5_pad (wsV RX5 153 RX5 yX5_add wsX5_add) := goodIn_app (goodIn_of _ (by decide +kernel)) ggX5_pad_X5_add
theorem dX5_pad_0 : decode cX5_pad 0 = .ok (.iconst 0, 1) := by decide +kernel
theorem dX5_pad_1 : decode cX5_pad 1 = .ok (.istore_n 2, 1) := by decide +kernel
theorem dX5_pad_2 : decode cX5_pad 2 = .ok (.iload_n 2, 1) := by decide +kernel
theorem dX5_pad_3 : decode cX5_pad 3 = .ok (.bipush 64, 2) := by decide +kernel
theorem dX5_pad_5 : decode cX5_pad 5 = .ok (.if_icmp .ge 31, 3) := by decide +kernel
theorem dX5_pad_8 : decode cX5_pad 8 = .ok (.aload_n 0, 1) := by decide +kernel
theorem dX5_pad_9 : decode cX5_pad 9 = .ok (.iload_n 2, 1) := by decide +kernel
theorem dX5_pad_10 : decode cX5_pad 10 = .ok (.bipush 16, 2) := by decide +kernel
theorem dX5_pad_12 : decode cX5_pad 12 = .ok (.if_icmp .ge 12, 3) := by decide +kernel
theorem dX5_pad_15 : decode cX5_pad 15 = .ok (.aload_n 0, 1) := by decide +kernel
theorem dX5_pad_16 : decode cX5_pad 16 = .ok (.getfield 34, 3) := by decide +kernel
theorem dX5_pad_19 : decode cX5_pad 19 = .ok (.iload_n 2, 1) := by decide +kernel
theorem dX5_pad_20 : decode cX5_pad 20 = .ok (.iaload, 1) := by decide +kernel
theorem dX5_pad_21 : decode cX5_pad 21 = .ok (.goto 4, 3) := by decide +kernel
theorem dX5_pad_24 : decode cX5_pad 24 = .ok (.iconst 0, 1) := by decide +kernel
theorem dX5_pad_25 : decode cX5_pad 25 = .ok (.iload_n 1, 1) := by decide +kernel
theorem dX5_pad_26 : decode cX5_pad 26 = .ok (.ixor, 1) := by decide +kernel
theorem dX5_pad_27 : decode cX5_pad 27 = .ok (.invokevirtual 153, 3) := by decide +kernel
theorem dX5_pad_30 : decode cX5_pad 30 = .ok (.iinc 2 1, 3) := by decide +kernel
theorem dX5_pad_33 : decode cX5_pad 33 = .ok (.goto (-31), 3) := by decide +kernel
theorem dX5_pad_36 : decode cX5_pad 36 = .ok (.return_, 1) := by decide +kernel
set_option maxRecDepth 20000 in
theorem ggX5_tag_X5_pad : GoodIn wsX5_tag wsX5_pad := goodIn_r _ [8, 9, 10, 11, 12, 7, 13, 14, 15, 111, 112, 113, 114, 115, 116, 117, 118, 119, 120, 121, 122, 123, 124, 125, 126, 127, 128, 129, 130, 131, 132, 133, 134, 135, 136, 137, 138, 139, 140] (by decide +kernel) (by decide +kernel)
set_option maxRecDepth 20000 in
theorem gX5_tag_X5_pad : GoodIn wsX5_tag (wsV RX5 177 RX5 yX5_pad wsX5_pad) := goodIn_app (goodIn_of _ (by decide +kernel)) ggX5_tag_X5_pad
set_option maxRecDepth 20000 in
theorem ggX5_tag_X5_addNumber : GoodIn wsX5_tag wsX5_addNumber := goodIn_r _ [19, 10, 11, 12, 7, 13, 14, 15, 111, 112, 113, 114, 115, 116, 117, 118, 119, 120, 121, 122, 123, 124, 125, 126, 127, 128, 129, 130, 131, 132, 133, 134, 135, 136, 137, 138, 139, 140] (by decide +kernel) (by decide +kernel)
set_option maxRecDepth 20000 in
theorem gX5_tag_X5_addNumber : GoodIn wsX5_tag (wsV RX5 168 RX5 yX5_addNumber wsX5_addNumber) := goodIn_app (goodIn_of _ (by decide +kernel)) ggX5_tag_X5_addNumber
set_option maxRecDepth 20000 in
theorem ggX5_tag_X5_add : GoodIn wsX5_tag wsX5_add := goodIn_r _ [13, 14, 15, 111, 112, 113, 114, 115, 116, 117, 118, 119, 120, 121, 122, 123, 124, 125, 126, 127, 128, 129, 130, 131, 132, 133, 134, 135, 136, 137, 138, 139, 140] (by decide +kernel) (by decide +kernel)
set_option maxRecDepth 20000 in
theorem gX5_tag_X5_add : GoodIn wsX5_tag (wsV RX5 153 RX5 yX5_add wsX5_add) := goodIn_app (goodIn_of _ (by decide +kernel)) ggX5_tag_X5_add
set_option maxRecDepth 20000 in
theorem ggX5_tag_X5_hash : GoodIn wsX5_tag wsX5_hash := goodIn_r _ [23, 15, 24, 3, 25, 26, 7, 27, 28, 29, 30, 31, 32, 33, 34, 35, 10, 11, 12, 13, 14, 16, 17, 18, 19, 36, 37, 38, 39, 40, 41, 42, 43, 44, 45, 46, 47, 48, 49, 50, 51, 52, 53, 54, 55, 56, 57, 58, 59, 60, 61, 62, 63, 64, 65, 66, 67, 68, 69, 70, 71, 72, 73, 74, 75, 76, 77, 78, 79, 80, 81, 82, 83, 84, 85, 86, 87, 88, 89, 90, 91, 92, 93, 94, 95, 96, 97, 98, 99, 100, 101, 102, 103, 104, 105, 106, 107, 108, 109, 110, 111, 112, 113, 114, 115, 116, 117, 118, 119, 120, 121, 122, 123, 124, 125, 126, 127, 128, 129, 130, 131, 132, 133, 134, 135, 136, 137, 138, 139, 140] (by decide +kernel) (by decide +kernel)
set_option maxRecDepth 20000 in
theorem gX5_tag_X5_hash : GoodIn wsX5_tag (wsV RX5 174 RX5 yX5_hash wsX5_hash) := goodIn_app (goodIn_of _ (by decide +kernel)) ggX5_tag_X5_hash
theorem dX5_tag_0 : decode cX5_tag 0 = .ok (.aload_n 0, 1) := by decide +kernel
theorem dX5_tag_1 : decode cX5_tag 1 = .ok (.bipush 54, 2) := by decide +kernel
theorem dX5_tag_3 : decode cX5_tag 3 = .ok (.invokevirtual 177, 3) := by decide +kernel
theorem dX5_tag_6 : decode cX5_tag 6 = .ok (.aload_n 0, 1) := by decide +kernel
theorem dX5_tag_7 : decode cX5_tag 7 = .ok (.iload_n 1, 1) := by decide +kernel
theorem dX5_tag_8 : decode cX5_tag 8 = .ok (.invokevirtual 168, 3) := by decide +kernel
theorem dX5_tag_11 : decode cX5_tag 11 = .ok (.iconst 0, 1) := by decide +kernel
theorem dX5_tag_12 : decode cX5_tag 12 = .ok (.istore_n 3, 1) := by decide +kernel
theorem dX5_tag_13 : decode cX5_tag 13 = .ok (.iload_n 3, 1) := by decide +kernel
theorem dX5_tag_14 : decode cX5_tag 14 = .ok (.iconst 2, 1) := by decide +kernel
theorem dX5_tag_15 : decode cX5_tag 15 = .ok (.aload_n 0, 1) := by decide +kernel
theorem dX5_tag_16 : decode cX5_tag 16 = .ok (.getfield 7, 3) := by decide +kernel
theorem dX5_tag_19 : decode cX5_tag 19 = .ok (.iload_n 2, 1) := by decide +kernel
theorem dX5_tag_20 : decode cX5_tag 20 = .ok (.iconst 1, 1) := by decide +kernel
theorem dX5_tag_21 : decode cX5_tag 21 = .ok (.iadd, 1) := by decide +kernel
theorem dX5_tag_22 : decode cX5_tag 22 = .ok (.iaload, 1) := by decide +kernel
theorem dX5_tag_23 : decode cX5_tag 23 = .ok (.iadd, 1) := by decide +kernel
theorem dX5_tag_24 : decode cX5_tag 24 = .ok (.if_icmp .ge 21, 3) := by decide +kernel
theorem dX5_tag_27 : decode cX5_tag 27 = .ok (.aload_n 0, 1) := by decide +kernel
theorem dX5_tag_28 : decode cX5_tag 28 = .ok (.aload_n 0, 1) := by decide +kernel
theorem dX5_tag_29 : decode cX5_tag 29 = .ok (.getfield 7, 3) := by decide +kernel
theorem dX5_tag_32 : decode cX5_tag 32 = .ok (.iload_n 2, 1) := by decide +kernel
theorem dX5_tag_33 : decode cX5_tag 33 = .ok (.iload_n 3, 1) := by decide +kernel
theorem dX5_tag_34 : decode cX5_tag 34 = .ok (.iadd, 1) := by decide +kernel
theorem dX5_tag_35 : decode cX5_tag 35 = .ok (.iaload, 1) := by decide +kernel
theorem dX5_tag_36 : decode cX5_tag 36 = .ok (.invokevirtual 153, 3) := by decide +kernel
theorem dX5_tag_39 : decode cX5_tag 39 = .ok (.iinc 3 1, 3) := by decide +kernel
theorem dX5_tag_42 : decode cX5_tag 42 = .ok (.goto (-29), 3) := by decide +kernel
theorem dX5_tag_45 : decode cX5_tag 45 = .ok (.iconst 0, 1) := by decide +kernel
theorem dX5_tag_46 : decode cX5_tag 46 = .ok (.istore_n 3, 1) := by decide +kernel
theorem dX5_tag_47 : decode cX5_tag 47 = .ok (.iload_n 3, 1) := by decide +kernel
theorem dX5_tag_48 : decode cX5_tag 48 = .ok (.bipush 8, 2) := by decide +kernel
theorem dX5_tag_50 : decode cX5_tag 50 = .ok (.if_icmp .ge 19, 3) := by decide +kernel
theorem dX5_tag_53 : decode cX5_tag 53 = .ok (.aload_n 0, 1) := by decide +kernel
theorem dX5_tag_54 : decode cX5_tag 54 = .ok (.aload_n 0, 1) := by decide +kernel
theorem dX5_tag_55 : decode cX5_tag 55 = .ok (.getfield 37, 3) := by decide +kernel
theorem dX5_tag_58 : decode cX5_tag 58 = .ok (.iload_n 3, 1) := by decide +kernel
theorem dX5_tag_59 : decode cX5_tag 59 = .ok (.iaload, 1) := by decide +kernel
theorem dX5_tag_60 : decode cX5_tag 60 = .ok (.invokevirtual 153, 3) := by decide +kernel
theorem dX5_tag_63 : decode cX5_tag 63 = .ok (.iinc 3 1, 3) := by decide +kernel
theorem dX5_tag_66 : decode cX5_tag 66 = .ok (.goto (-19), 3) := by decide +kernel
theorem dX5_tag_69 : decode cX5_tag 69 = .ok (.aload_n 0, 1) := by decide +kernel
theorem dX5_tag_70 : decode cX5_tag 70 = .ok (.invokevirtual 174, 3) := by decide +kernel
theorem dX5_tag_73 : decode cX5_tag 73 = .ok (.aload_n 0, 1) := by decide +kernel
theorem dX5_tag_74 : decode cX5_tag 74 = .ok (.bipush 92, 2) := by decide +kernel
theorem dX5_tag_76 : decode cX5_tag 76 = .ok (.invokevirtual 177, 3) := by decide +kernel
theorem dX5_tag_79 : decode cX5_tag 79 = .ok (.iconst 0, 1) := by decide +kernel
theorem dX5_tag_80 : decode cX5_tag 80 = .ok (.istore_n 3, 1) := by decide +kernel
theorem dX5_tag_81 : decode cX5_tag 81 = .ok (.iload_n 3, 1) := by decide +kernel
theorem dX5_tag_82 : decode cX5_tag 82 = .ok (.bipush 32, 2) := by decide +kernel
theorem dX5_tag_84 : decode cX5_tag 84 = .ok (.if_icmp .ge 19, 3) := by decide +kernel
theorem dX5_tag_87 : decode cX5_tag 87 = .ok (.aload_n 0, 1) := by decide +kernel
theorem dX5_tag_88 : decode cX5_tag 88 = .ok (.aload_n 0, 1) := by decide +kernel
theorem dX5_tag_89 : decode cX5_tag 89 = .ok (.getfield 31, 3) := by decide +kernel
theorem dX5_tag_92 : decode cX5_tag 92 = .ok (.iload_n 3, 1) := by decide +kernel
theorem dX5_tag_93 : decode cX5_tag 93 = .ok (.iaload, 1) := by decide +kernel
theorem dX5_tag_94 : decode cX5_tag 94 = .ok (.invokevirtual 153, 3) := by decide +kernel
theorem dX5_tag_97 : decode cX5_tag 97 = .ok (.iinc 3 1, 3) := by decide +kernel
theorem dX5_tag_100 : decode cX5_tag 100 = .ok (.goto (-19), 3) := by decide +kernel
theorem dX5_tag_103 : decode cX5_tag 103 = .ok (.aload_n 0, 1) := by decide +kernel
theorem dX5_tag_104 : decode cX5_tag 104 = .ok (.invokevirtual 174, 3) := by decide +kernel
theorem dX5_tag_107 : decode cX5_tag 107 = .ok (.return_, 1) := by decide +kernel
set_option maxRecDepth 20000 in
theorem ggX5_clear_X5_forget : GoodIn wsX5_clear wsX5_forget := goodIn_r _ [11, 12, 13, 14, 15, 16, 17, 18, 19, 20, 21, 22, 23, 24, 25, 26, 27, 28, 29, 30, 31, 32, 33, 34, 35, 36, 37, 38, 39, 40, 41, 42, 43, 44, 45, 46, 47] (by decide +kernel) (by decide +kernel)
set_option maxRecDepth 20000 in
theorem gX5_clear_X5_forget : GoodIn wsX5_clear (wsV RX5 49 RX5 yX5_forget wsX5_forget) := goodIn_app (goodIn_of _ (by decide +kernel)) ggX5_clear_X5_forget
theorem dX5_clear_0 : decode cX5_clear 0 = .ok (.aload_n 0, 1) := by decide +kernel
theorem dX5_clear_1 : decode cX5_clear 1 = .ok (.iconst 0, 1) := by decide +kernel
theorem dX5_clear_2 : decode cX5_clear 2 = .ok (.putfield 180, 3) := by decide +kernel
theorem dX5_clear_5 : decode cX5_clear 5 = .ok (.aload_n 0, 1) := by decide +kernel
theorem dX5_clear_6 : decode cX5_clear 6 = .ok (.iconst 0, 1) := by decide +kernel
theorem dX5_clear_7 : decode cX5_clear 7 = .ok (.putfield 183, 3) := by decide +kernel
theorem dX5_clear_10 : decode cX5_clear 10 = .ok (.aload_n 0, 1) := by decide +kernel
theorem dX5_clear_11 : decode cX5_clear 11 = .ok (.iconst 0, 1) := by decide +kernel
theorem dX5_clear_12 : decode cX5_clear 12 = .ok (.putfield 186, 3) := by decide +kernel
theorem dX5_clear_15 : decode cX5_clear 15 = .ok (.aload_n 0, 1) := by decide +kernel
theorem dX5_clear_16 : decode cX5_clear 16 = .ok (.iconst 0, 1) := by decide +kernel
theorem dX5_clear_17 : decode cX5_clear 17 = .ok (.putfield 189, 3) := by decide +kernel
theorem dX5_clear_20 : decode cX5_clear 20 = .ok (.aload_n 0, 1) := by decide +kernel
theorem dX5_clear_21 : decode cX5_clear 21 = .ok (.iconst 1, 1) := by decide +kernel
theorem dX5_clear_22 : decode cX5_clear 22 = .ok (.putfield 52, 3) := by decide +kernel
theorem dX5_clear_25 : decode cX5_clear 25 = .ok (.iconst 0, 1) := by decide +kernel
theorem dX5_clear_26 : decode cX5_clear 26 = .ok (.istore_n 1, 1) := by decide +kernel
theorem dX5_clear_27 : decode cX5_clear 27 = .ok (.iload_n 1, 1) := by decide +kernel
theorem dX5_clear_28 : decode cX5_clear 28 = .ok (.bipush 8, 2) := by decide +kernel
theorem dX5_clear_30 : decode cX5_clear 30 = .ok (.if_icmp .ge 16, 3) := by decide +kernel
theorem dX5_clear_33 : decode cX5_clear 33 = .ok (.aload_n 0, 1) := by decide +kernel
theorem dX5_clear_34 : decode cX5_clear 34 = .ok (.getfield 19, 3) := by decide +kernel
theorem dX5_clear_37 : decode cX5_clear 37 = .ok (.iload_n 1, 1) := by decide +kernel
theorem dX5_clear_38 : decode cX5_clear 38 = .ok (.iconst 0, 1) := by decide +kernel
theorem dX5_clear_39 : decode cX5_clear 39 = .ok (.iastore, 1) := by decide +kernel
theorem dX5_clear_40 : decode cX5_clear 40 = .ok (.iinc 1 1, 3) := by decide +kernel
theorem dX5_clear_43 : decode cX5_clear 43 = .ok (.goto (-16), 3) := by decide +kernel
theorem dX5_clear_46 : decode cX5_clear 46 = .ok (.aload_n 0, 1) := by decide +kernel
theorem dX5_clear_47 : decode cX5_clear 47 = .ok (.invokevirtual 49, 3) := by decide +kernel
theorem dX5_clear_50 : decode cX5_clear 50 = .ok (.return_, 1) := by decide +kernel
theorem dX5_byteOf_0 : decode cX5_byteOf 0 = .ok (.iload_n 0, 1) := by decide +kernel
theorem dX5_byteOf_1 : decode cX5_byteOf 1 = .ok (.iconst 4, 1) := by decide +kernel
theorem dX5_byteOf_2 : decode cX5_byteOf 2 = .ok (.if_icmp .ge 7, 3) := by decide +kernel
theorem dX5_byteOf_5 : decode cX5_byteOf 5 = .ok (.iload_n 1, 1) := by decide +kernel
theorem dX5_byteOf_6 : decode cX5_byteOf 6 = .ok (.goto 25, 3) := by decide +kernel
theorem dX5_byteOf_9 : decode cX5_byteOf 9 = .ok (.iload_n 0, 1) := by decide +kernel
theorem dX5_byteOf_10 : decode cX5_byteOf 10 = .ok (.bipush 8, 2) := by decide +kernel
theorem dX5_byteOf_12 : decode cX5_byteOf 12 = .ok (.if_icmp .ge 7, 3) := by decide +kernel
theorem dX5_byteOf_15 : decode cX5_byteOf 15 = .ok (.iload_n 2, 1) := by decide +kernel
theorem dX5_byteOf_16 : decode cX5_byteOf 16 = .ok (.goto 15, 3) := by decide +kernel
theorem dX5_byteOf_19 : decode cX5_byteOf 19 = .ok (.iload_n 0, 1) := by decide +kernel
theorem dX5_byteOf_20 : decode cX5_byteOf 20 = .ok (.bipush 12, 2) := by decide +kernel
theorem dX5_byteOf_22 : decode cX5_byteOf 22 = .ok (.if_icmp .ge 7, 3) := by decide +kernel
theorem dX5_byteOf_25 : decode cX5_byteOf 25 = .ok (.iload_n 3, 1) := by decide +kernel
theorem dX5_byteOf_26 : decode cX5_byteOf 26 = .ok (.goto 5, 3) := by decide +kernel
theorem dX5_byteOf_29 : decode cX5_byteOf 29 = .ok (.iload 4, 2) := by decide +kernel
theorem dX5_byteOf_31 : decode cX5_byteOf 31 = .ok (.istore 5, 2) := by decide +kernel
theorem dX5_byteOf_33 : decode cX5_byteOf 33 = .ok (.iload 5, 2) := by decide +kernel
theorem dX5_byteOf_35 : decode cX5_byteOf 35 = .ok (.bipush 24, 2) := by decide +kernel
theorem dX5_byteOf_37 : decode cX5_byteOf 37 = .ok (.bipush 8, 2) := by decide +kernel
theorem dX5_byteOf_39 : decode cX5_byteOf 39 = .ok (.iload_n 0, 1) := by decide +kernel
theorem dX5_byteOf_40 : decode cX5_byteOf 40 = .ok (.iconst 4, 1) := by decide +kernel
theorem dX5_byteOf_41 : decode cX5_byteOf 41 = .ok (.irem, 1) := by decide +kernel
theorem dX5_byteOf_42 : decode cX5_byteOf 42 = .ok (.imul, 1) := by decide +kernel
theorem dX5_byteOf_43 : decode cX5_byteOf 43 = .ok (.isub, 1) := by decide +kernel
theorem dX5_byteOf_44 : decode cX5_byteOf 44 = .ok (.ishr, 1) := by decide +kernel
theorem dX5_byteOf_45 : decode cX5_byteOf 45 = .ok (.sipush 255, 3) := by decide +kernel
theorem dX5_byteOf_48 : decode cX5_byteOf 48 = .ok (.iand, 1) := by decide +kernel
theorem dX5_byteOf_49 : decode cX5_byteOf 49 = .ok (.ireturn, 1) := by decide +kernel
set_option maxRecDepth 20000 in
theorem ggX5_begin_X5_clear : GoodIn wsX5_begin wsX5_clear := goodIn_r _ [7, 8, 9, 10, 11, 12, 13, 14, 15, 16, 6, 17, 18, 19, 20, 21, 22, 23, 27, 28, 29, 30, 31, 32, 33, 34, 35, 36, 37, 38, 39, 40, 41, 42, 43, 44, 45, 46, 47, 48, 49, 50, 51, 52, 53, 54, 55, 56] (by decide +kernel) (by decide +kernel)
set_option maxRecDepth 20000 in
theorem gX5_begin_X5_clear : GoodIn wsX5_begin (wsV RX5 192 RX5 yX5_clear wsX5_clear) := goodIn_app (goodIn_of _ (by decide +kernel)) ggX5_begin_X5_clear
set_option maxRecDepth 20000 in
theorem ggX5_begin_X5_byteOf : GoodIn wsX5_begin wsX5_byteOf := goodIn_r _ [26] (by decide +kernel) (by decide +kernel)
set_option maxRecDepth 20000 in
theorem gX5_begin_X5_byteOf : GoodIn wsX5_begin (va_wsS RX5 195 yX5_byteOf wsX5_byteOf) := goodIn_app (goodIn_of _ (by decide +kernel)) ggX5_begin_X5_byteOf
theorem dX5_begin_0 : decode cX5_begin 0 = .ok (.aload_n 0, 1) := by decide +kernel
theorem dX5_begin_1 : decode cX5_begin 1 = .ok (.iconst 0, 1) := by decide +kernel
theorem dX5_begin_2 : decode cX5_begin 2 = .ok (.putfield 56, 3) := by decide +kernel
theorem dX5_begin_5 : decode cX5_begin 5 = .ok (.aload_n 0, 1) := by decide +kernel
theorem dX5_begin_6 : decode cX5_begin 6 = .ok (.invokevirtual 192, 3) := by decide +kernel
theorem dX5_begin_9 : decode cX5_begin 9 = .ok (.iconst 0, 1) := by decide +kernel
theorem dX5_begin_10 : decode cX5_begin 10 = .ok (.istore 5, 2) := by decide +kernel
theorem dX5_begin_12 : decode cX5_begin 12 = .ok (.iload 5, 2) := by decide +kernel
theorem dX5_begin_14 : decode cX5_begin 14 = .ok (.bipush 16, 2) := by decide +kernel
theorem dX5_begin_16 : decode cX5_begin 16 = .ok (.if_icmp .ge 26, 3) := by decide +kernel
theorem dX5_begin_19 : decode cX5_begin 19 = .ok (.aload_n 0, 1) := by decide +kernel
theorem dX5_begin_20 : decode cX5_begin 20 = .ok (.getfield 16, 3) := by decide +kernel
theorem dX5_begin_23 : decode cX5_begin 23 = .ok (.iload 5, 2) := by decide +kernel
theorem dX5_begin_25 : decode cX5_begin 25 = .ok (.iload 5, 2) := by decide +kernel
theorem dX5_begin_27 : decode cX5_begin 27 = .ok (.iload_n 1, 1) := by decide +kernel
theorem dX5_begin_28 : decode cX5_begin 28 = .ok (.iload_n 2, 1) := by decide +kernel
theorem dX5_begin_29 : decode cX5_begin 29 = .ok (.iload_n 3, 1) := by decide +kernel
theorem dX5_begin_30 : decode cX5_begin 30 = .ok (.iload 4, 2) := by decide +kernel
theorem dX5_begin_32 : decode cX5_begin 32 = .ok (.invokestatic 195, 3) := by decide +kernel
theorem dX5_begin_35 : decode cX5_begin 35 = .ok (.iastore, 1) := by decide +kernel
theorem dX5_begin_36 : decode cX5_begin 36 = .ok (.iinc 5 1, 3) := by decide +kernel
theorem dX5_begin_39 : decode cX5_begin 39 = .ok (.goto (-27), 3) := by decide +kernel
theorem dX5_begin_42 : decode cX5_begin 42 = .ok (.return_, 1) := by decide +kernel
set_option maxRecDepth 20000 in
theorem ggX5_feed_X5_refused : GoodIn wsX5_feed wsX5_refused := goodIn_r _ [7, 8, 12, 13, 14, 15, 16, 17, 18, 19, 20, 21, 22, 23, 24, 25, 26, 27, 28, 29, 30, 31, 32, 33, 34, 35, 36, 37, 38, 39, 40, 41] (by decide +kernel) (by decide +kernel)
set_option maxRecDepth 20000 in
theorem gX5_feed_X5_refused : GoodIn wsX5_feed (wsV RX5 202 RX5 yX5_refused wsX5_refused) := goodIn_app (goodIn_of _ (by decide +kernel)) ggX5_feed_X5_refused
set_option maxRecDepth 20000 in
theorem ggX5_feed_X5_byteOf : GoodIn wsX5_feed wsX5_byteOf := goodIn_r _ [11] (by decide +kernel) (by decide +kernel)
set_option maxRecDepth 20000 in
theorem gX5_feed_X5_byteOf : GoodIn wsX5_feed (va_wsS RX5 195 yX5_byteOf wsX5_byteOf) := goodIn_app (goodIn_of _ (by decide +kernel)) ggX5_feed_X5_byteOf
theorem dX5_feed_0 : decode cX5_feed 0 = .ok (.iload_n 1, 1) := by decide +kernel
theorem dX5_feed_1 : decode cX5_feed 1 = .ok (.ifCond .lt 13, 3) := by decide +kernel
theorem dX5_feed_4 : decode cX5_feed 4 = .ok (.iload_n 1, 1) := by decide +kernel
theorem dX5_feed_5 : decode cX5_feed 5 = .ok (.bipush 16, 2) := by decide +kernel
theorem dX5_feed_7 : decode cX5_feed 7 = .ok (.if_icmp .gt 7, 3) := by decide +kernel
theorem dX5_feed_10 : decode cX5_feed 10 = .ok (.iconst 1, 1) := by decide +kernel
theorem dX5_feed_11 : decode cX5_feed 11 = .ok (.goto 4, 3) := by decide +kernel
theorem dX5_feed_14 : decode cX5_feed 14 = .ok (.iconst 0, 1) := by decide +kernel
theorem dX5_feed_15 : decode cX5_feed 15 = .ok (.istore 6, 2) := by decide +kernel
theorem dX5_feed_17 : decode cX5_feed 17 = .ok (.aload_n 0, 1) := by decide +kernel
theorem dX5_feed_18 : decode cX5_feed 18 = .ok (.iload 6, 2) := by decide +kernel
theorem dX5_feed_20 : decode cX5_feed 20 = .ok (.ifCond .ne 7, 3) := by decide +kernel
theorem dX5_feed_23 : decode cX5_feed 23 = .ok (.iconst 1, 1) := by decide +kernel
theorem dX5_feed_24 : decode cX5_feed 24 = .ok (.goto 19, 3) := by decide +kernel
theorem dX5_feed_27 : decode cX5_feed 27 = .ok (.aload_n 0, 1) := by decide +kernel
theorem dX5_feed_28 : decode cX5_feed 28 = .ok (.getfield 199, 3) := by decide +kernel
theorem dX5_feed_31 : decode cX5_feed 31 = .ok (.iload_n 1, 1) := by decide +kernel
theorem dX5_feed_32 : decode cX5_feed 32 = .ok (.iadd, 1) := by decide +kernel
theorem dX5_feed_33 : decode cX5_feed 33 = .ok (.bipush 40, 2) := by decide +kernel
theorem dX5_feed_35 : decode cX5_feed 35 = .ok (.if_icmp .le 7, 3) := by decide +kernel
theorem dX5_feed_38 : decode cX5_feed 38 = .ok (.iconst 2, 1) := by decide +kernel
theorem dX5_feed_39 : decode cX5_feed 39 = .ok (.goto 4, 3) := by decide +kernel
theorem dX5_feed_42 : decode cX5_feed 42 = .ok (.iconst 0, 1) := by decide +kernel
theorem dX5_feed_43 : decode cX5_feed 43 = .ok (.invokevirtual 202, 3) := by decide +kernel
theorem dX5_feed_46 : decode cX5_feed 46 = .ok (.ifCond .eq 5, 3) := by decide +kernel
theorem dX5_feed_49 : decode cX5_feed 49 = .ok (.iconst 0, 1) := by decide +kernel
theorem dX5_feed_50 : decode cX5_feed 50 = .ok (.ireturn, 1) := by decide +kernel
theorem dX5_feed_51 : decode cX5_feed 51 = .ok (.iconst 0, 1) := by decide +kernel
theorem dX5_feed_52 : decode cX5_feed 52 = .ok (.istore 7, 2) := by decide +kernel
theorem dX5_feed_54 : decode cX5_feed 54 = .ok (.iload 7, 2) := by decide +kernel
theorem dX5_feed_56 : decode cX5_feed 56 = .ok (.iload_n 1, 1) := by decide +kernel
theorem dX5_feed_57 : decode cX5_feed 57 = .ok (.if_icmp .ge 39, 3) := by decide +kernel
theorem dX5_feed_60 : decode cX5_feed 60 = .ok (.aload_n 0, 1) := by decide +kernel
theorem dX5_feed_61 : decode cX5_feed 61 = .ok (.getfield 13, 3) := by decide +kernel
theorem dX5_feed_64 : decode cX5_feed 64 = .ok (.aload_n 0, 1) := by decide +kernel
theorem dX5_feed_65 : decode cX5_feed 65 = .ok (.getfield 199, 3) := by decide +kernel
theorem dX5_feed_68 : decode cX5_feed 68 = .ok (.iload 7, 2) := by decide +kernel
theorem dX5_feed_70 : decode cX5_feed 70 = .ok (.iload_n 2, 1) := by decide +kernel
theorem dX5_feed_71 : decode cX5_feed 71 = .ok (.iload_n 3, 1) := by decide +kernel
theorem dX5_feed_72 : decode cX5_feed 72 = .ok (.iload 4, 2) := by decide +kernel
theorem dX5_feed_74 : decode cX5_feed 74 = .ok (.iload 5, 2) := by decide +kernel
theorem dX5_feed_76 : decode cX5_feed 76 = .ok (.invokestatic 195, 3) := by decide +kernel
theorem dX5_feed_79 : decode cX5_feed 79 = .ok (.iastore, 1) := by decide +kernel
theorem dX5_feed_80 : decode cX5_feed 80 = .ok (.aload_n 0, 1) := by decide +kernel
theorem dX5_feed_81 : decode cX5_feed 81 = .ok (.dup, 1) := by decide +kernel
theorem dX5_feed_82 : decode cX5_feed 82 = .ok (.getfield 199, 3) := by decide +kernel
theorem dX5_feed_85 : decode cX5_feed 85 = .ok (.iconst 1, 1) := by decide +kernel
theorem dX5_feed_86 : decode cX5_feed 86 = .ok (.iadd, 1) := by decide +kernel
theorem dX5_feed_87 : decode cX5_feed 87 = .ok (.putfield 199, 3) := by decide +kernel
theorem dX5_feed_90 : decode cX5_feed 90 = .ok (.iinc 7 1, 3) := by decide +kernel
theorem dX5_feed_93 : decode cX5_feed 93 = .ok (.goto (-39), 3) := by decide +kernel
theorem dX5_feed_96 : decode cX5_feed 96 = .ok (.aload_n 0, 1) := by decide +kernel
theorem dX5_feed_97 : decode cX5_feed 97 = .ok (.getfield 199, 3) := by decide +kernel
theorem dX5_feed_100 : decode cX5_feed 100 = .ok (.ireturn, 1) := by decide +kernel
theorem dX5_erase_0 : decode cX5_erase 0 = .ok (.aload_n 0, 1) := by decide +kernel
theorem dX5_erase_1 : decode cX5_erase 1 = .ok (.iconst 0, 1) := by decide +kernel
theorem dX5_erase_2 : decode cX5_erase 2 = .ok (.putfield 56, 3) := by decide +kernel
theorem dX5_erase_5 : decode cX5_erase 5 = .ok (.aload_n 0, 1) := by decide +kernel
theorem dX5_erase_6 : decode cX5_erase 6 = .ok (.getfield 199, 3) := by decide +kernel
theorem dX5_erase_9 : decode cX5_erase 9 = .ok (.istore_n 1, 1) := by decide +kernel
theorem dX5_erase_10 : decode cX5_erase 10 = .ok (.aload_n 0, 1) := by decide +kernel
theorem dX5_erase_11 : decode cX5_erase 11 = .ok (.iconst 0, 1) := by decide +kernel
theorem dX5_erase_12 : decode cX5_erase 12 = .ok (.putfield 199, 3) := by decide +kernel
theorem dX5_erase_15 : decode cX5_erase 15 = .ok (.iload_n 1, 1) := by decide +kernel
theorem dX5_erase_16 : decode cX5_erase 16 = .ok (.ireturn, 1) := by decide +kernel
set_option maxRecDepth 20000 in
theorem ggX5_write_X5_tag : GoodIn wsX5_write wsX5_tag := goodIn_r _ [13, 8, 3, 7, 14, 15, 16, 12, 17, 1, 18, 19, 20, 21, 22, 23, 24, 25, 26, 27, 28, 29, 30, 31, 32, 33, 34, 35, 36, 37, 38, 39, 40, 41, 42, 43, 44, 45, 46, 47, 48, 49, 50, 51, 52, 53, 54, 55, 56, 57, 58, 59, 60, 61, 62, 63, 64, 65, 66, 67, 68, 69, 70, 71, 72, 73, 74, 75, 76, 77, 78, 79, 80, 81, 82, 83, 84, 85, 86, 87, 88, 89, 90, 91, 92, 93, 94, 95, 96, 97, 98, 99, 100, 101, 102, 103, 104, 105, 106, 107, 108, 109, 110, 111, 112, 113, 114, 115, 116, 117, 118, 123, 124, 125, 126, 127, 128, 129, 130, 131, 132, 133, 134, 135, 136, 137, 138, 139, 140, 141, 142, 143, 144, 145, 146, 147, 148, 149, 150, 151, 152] (by decide +kernel) (by decide +kernel)
set_option maxRecDepth 20000 in
theorem gX5_write_X5_tag : GoodIn wsX5_write (wsV RX5 206 RX5 yX5_tag wsX5_tag) := goodIn_app (goodIn_of _ (by decide +kernel)) ggX5_write_X5_tag
set_option maxRecDepth 20000 in
theorem ggX5_write_X5_step : GoodIn wsX5_write wsX5_step := goodIn_r _ [122, 1, 7, 18, 19, 20, 12, 21, 22, 23, 28, 29, 30, 31, 32, 33, 34, 35, 36, 37, 38, 39, 40, 41, 42, 43, 24, 25, 26, 27, 44, 45, 46, 47, 48, 49, 50, 51, 52, 53, 54, 55, 56, 57, 58, 59, 60, 61, 62, 63, 64, 65, 66, 67, 68, 69, 70, 71, 72, 73, 74, 75, 76, 77, 78, 79, 80, 81, 82, 83, 84, 85, 86, 87, 88, 89, 90, 91, 92, 93, 94, 95, 96, 97, 98, 99, 100, 101, 102, 103, 104, 105, 106, 107, 108, 109, 110, 111, 112, 113, 114, 115, 116, 117, 118, 123, 124, 125, 126, 127, 128, 129, 130, 131, 132, 133, 134, 135, 136, 137, 138, 139, 140, 141, 142, 143, 144, 145, 146, 147, 148, 149, 150, 151, 152] (by decide +kernel) (by decide +kernel)
set_option maxRecDepth 20000 in
theorem gX5_write_X5_step : GoodIn wsX5_write (wsV RX5 210 RX5 yX5_step wsX5_step) := goodIn_app (goodIn_of _ (by decide +kernel)) ggX5_write_X5_step
theorem dX5_write_0 : decode cX5_write 0 = .ok (.iconst 0, 1) := by decide +kernel
theorem dX5_write_1 : decode cX5_write 1 = .ok (.istore_n 2, 1) := by decide +kernel
theorem dX5_write_2 : decode cX5_write 2 = .ok (.iload_n 2, 1) := by decide +kernel
theorem dX5_write_3 : decode cX5_write 3 = .ok (.bipush 16, 2) := by decide +kernel
theorem dX5_write_5 : decode cX5_write 5 = .ok (.if_icmp .ge 21, 3) := by decide +kernel
theorem dX5_write_8 : decode cX5_write 8 = .ok (.aload_n 0, 1) := by decide +kernel
theorem dX5_write_9 : decode cX5_write 9 = .ok (.getfield 34, 3) := by decide +kernel
theorem dX5_write_12 : decode cX5_write 12 = .ok (.iload_n 2, 1) := by decide +kernel
theorem dX5_write_13 : decode cX5_write 13 = .ok (.aload_n 0, 1) := by decide +kernel
theorem dX5_write_14 : decode cX5_write 14 = .ok (.getfield 16, 3) := by decide +kernel
theorem dX5_write_17 : decode cX5_write 17 = .ok (.iload_n 2, 1) := by decide +kernel
theorem dX5_write_18 : decode cX5_write 18 = .ok (.iaload, 1) := by decide +kernel
theorem dX5_write_19 : decode cX5_write 19 = .ok (.iastore, 1) := by decide +kernel
theorem dX5_write_20 : decode cX5_write 20 = .ok (.iinc 2 1, 3) := by decide +kernel
theorem dX5_write_23 : decode cX5_write 23 = .ok (.goto (-21), 3) := by decide +kernel
theorem dX5_write_26 : decode cX5_write 26 = .ok (.iconst 0, 1) := by decide +kernel
theorem dX5_write_27 : decode cX5_write 27 = .ok (.istore_n 2, 1) := by decide +kernel
theorem dX5_write_28 : decode cX5_write 28 = .ok (.iload_n 2, 1) := by decide +kernel
theorem dX5_write_29 : decode cX5_write 29 = .ok (.bipush 8, 2) := by decide +kernel
theorem dX5_write_31 : decode cX5_write 31 = .ok (.if_icmp .ge 21, 3) := by decide +kernel
theorem dX5_write_34 : decode cX5_write 34 = .ok (.aload_n 0, 1) := by decide +kernel
theorem dX5_write_35 : decode cX5_write 35 = .ok (.getfield 37, 3) := by decide +kernel
theorem dX5_write_38 : decode cX5_write 38 = .ok (.iload_n 2, 1) := by decide +kernel
theorem dX5_write_39 : decode cX5_write 39 = .ok (.aload_n 0, 1) := by decide +kernel
theorem dX5_write_40 : decode cX5_write 40 = .ok (.getfield 19, 3) := by decide +kernel
theorem dX5_write_43 : decode cX5_write 43 = .ok (.iload_n 2, 1) := by decide +kernel
theorem dX5_write_44 : decode cX5_write 44 = .ok (.iaload, 1) := by decide +kernel
theorem dX5_write_45 : decode cX5_write 45 = .ok (.iastore, 1) := by decide +kernel
theorem dX5_write_46 : decode cX5_write 46 = .ok (.iinc 2 1, 3) := by decide +kernel
theorem dX5_write_49 : decode cX5_write 49 = .ok (.goto (-21), 3) := by decide +kernel
theorem dX5_write_52 : decode cX5_write 52 = .ok (.aload_n 0, 1) := by decide +kernel
theorem dX5_write_53 : decode cX5_write 53 = .ok (.aload_n 0, 1) := by decide +kernel
theorem dX5_write_54 : decode cX5_write 54 = .ok (.getfield 186, 3) := by decide +kernel
theorem dX5_write_57 : decode cX5_write 57 = .ok (.aload_n 0, 1) := by decide +kernel
theorem dX5_write_58 : decode cX5_write 58 = .ok (.getfield 180, 3) := by decide +kernel
theorem dX5_write_61 : decode cX5_write 61 = .ok (.invokevirtual 206, 3) := by decide +kernel
theorem dX5_write_64 : decode cX5_write 64 = .ok (.iconst 0, 1) := by decide +kernel
theorem dX5_write_65 : decode cX5_write 65 = .ok (.istore_n 2, 1) := by decide +kernel
theorem dX5_write_66 : decode cX5_write 66 = .ok (.iload_n 2, 1) := by decide +kernel
theorem dX5_write_67 : decode cX5_write 67 = .ok (.bipush 8, 2) := by decide +kernel
theorem dX5_write_69 : decode cX5_write 69 = .ok (.if_icmp .ge 42, 3) := by decide +kernel
theorem dX5_write_72 : decode cX5_write 72 = .ok (.aload_n 0, 1) := by decide +kernel
theorem dX5_write_73 : decode cX5_write 73 = .ok (.getfield 19, 3) := by decide +kernel
theorem dX5_write_76 : decode cX5_write 76 = .ok (.iload_n 2, 1) := by decide +kernel
theorem dX5_write_77 : decode cX5_write 77 = .ok (.aload_n 0, 1) := by decide +kernel
theorem dX5_write_78 : decode cX5_write 78 = .ok (.getfield 31, 3) := by decide +kernel
theorem dX5_write_81 : decode cX5_write 81 = .ok (.iload_n 2, 1) := by decide +kernel
theorem dX5_write_82 : decode cX5_write 82 = .ok (.iaload, 1) := by decide +kernel
theorem dX5_write_83 : decode cX5_write 83 = .ok (.iastore, 1) := by decide +kernel
theorem dX5_write_84 : decode cX5_write 84 = .ok (.aload_n 0, 1) := by decide +kernel
theorem dX5_write_85 : decode cX5_write 85 = .ok (.getfield 7, 3) := by decide +kernel
theorem dX5_write_88 : decode cX5_write 88 = .ok (.aload_n 0, 1) := by decide +kernel
theorem dX5_write_89 : decode cX5_write 89 = .ok (.getfield 180, 3) := by decide +kernel
theorem dX5_write_92 : decode cX5_write 92 = .ok (.iconst 2, 1) := by decide +kernel
theorem dX5_write_93 : decode cX5_write 93 = .ok (.iadd, 1) := by decide +kernel
theorem dX5_write_94 : decode cX5_write 94 = .ok (.iload_n 1, 1) := by decide +kernel
theorem dX5_write_95 : decode cX5_write 95 = .ok (.iadd, 1) := by decide +kernel
theorem dX5_write_96 : decode cX5_write 96 = .ok (.iload_n 2, 1) := by decide +kernel
theorem dX5_write_97 : decode cX5_write 97 = .ok (.iadd, 1) := by decide +kernel
theorem dX5_write_98 : decode cX5_write 98 = .ok (.aload_n 0, 1) := by decide +kernel
theorem dX5_write_99 : decode cX5_write 99 = .ok (.getfield 31, 3) := by decide +kernel
theorem dX5_write_102 : decode cX5_write 102 = .ok (.iload_n 2, 1) := by decide +kernel
theorem dX5_write_103 : decode cX5_write 103 = .ok (.iaload, 1) := by decide +kernel
theorem dX5_write_104 : decode cX5_write 104 = .ok (.iastore, 1) := by decide +kernel
theorem dX5_write_105 : decode cX5_write 105 = .ok (.iinc 2 1, 3) := by decide +kernel
theorem dX5_write_108 : decode cX5_write 108 = .ok (.goto (-42), 3) := by decide +kernel
theorem dX5_write_111 : decode cX5_write 111 = .ok (.aload_n 0, 1) := by decide +kernel
theorem dX5_write_112 : decode cX5_write 112 = .ok (.aload_n 0, 1) := by decide +kernel
theorem dX5_write_113 : decode cX5_write 113 = .ok (.getfield 180, 3) := by decide +kernel
theorem dX5_write_116 : decode cX5_write 116 = .ok (.bipush 10, 2) := by decide +kernel
theorem dX5_write_118 : decode cX5_write 118 = .ok (.iadd, 1) := by decide +kernel
theorem dX5_write_119 : decode cX5_write 119 = .ok (.iload_n 1, 1) := by decide +kernel
theorem dX5_write_120 : decode cX5_write 120 = .ok (.iadd, 1) := by decide +kernel
theorem dX5_write_121 : decode cX5_write 121 = .ok (.putfield 180, 3) := by decide +kernel
theorem dX5_write_124 : decode cX5_write 124 = .ok (.aload_n 0, 1) := by decide +kernel
theorem dX5_write_125 : decode cX5_write 125 = .ok (.invokevirtual 210, 3) := by decide +kernel
theorem dX5_write_128 : decode cX5_write 128 = .ok (.iconst 0, 1) := by decide +kernel
theorem dX5_write_129 : decode cX5_write 129 = .ok (.istore_n 2, 1) := by decide +kernel
theorem dX5_write_130 : decode cX5_write 130 = .ok (.iload_n 2, 1) := by decide +kernel
theorem dX5_write_131 : decode cX5_write 131 = .ok (.bipush 16, 2) := by decide +kernel
theorem dX5_write_133 : decode cX5_write 133 = .ok (.if_icmp .ge 21, 3) := by decide +kernel
theorem dX5_write_136 : decode cX5_write 136 = .ok (.aload_n 0, 1) := by decide +kernel
theorem dX5_write_137 : decode cX5_write 137 = .ok (.getfield 16, 3) := by decide +kernel
theorem dX5_write_140 : decode cX5_write 140 = .ok (.iload_n 2, 1) := by decide +kernel
theorem dX5_write_141 : decode cX5_write 141 = .ok (.aload_n 0, 1) := by decide +kernel
theorem dX5_write_142 : decode cX5_write 142 = .ok (.getfield 34, 3) := by decide +kernel
theorem dX5_write_145 : decode cX5_write 145 = .ok (.iload_n 2, 1) := by decide +kernel
theorem dX5_write_146 : decode cX5_write 146 = .ok (.iaload, 1) := by decide +kernel
theorem dX5_write_147 : decode cX5_write 147 = .ok (.iastore, 1) := by decide +kernel
theorem dX5_write_148 : decode cX5_write 148 = .ok (.iinc 2 1, 3) := by decide +kernel
theorem dX5_write_151 : decode cX5_write 151 = .ok (.goto (-21), 3) := by decide +kernel
theorem dX5_write_154 : decode cX5_write 154 = .ok (.aload_n 0, 1) := by decide +kernel
theorem dX5_write_155 : decode cX5_write 155 = .ok (.dup, 1) := by decide +kernel
theorem dX5_write_156 : decode cX5_write 156 = .ok (.getfield 186, 3) := by decide +kernel
theorem dX5_write_159 : decode cX5_write 159 = .ok (.iconst 1, 1) := by decide +kernel
theorem dX5_write_160 : decode cX5_write 160 = .ok (.iadd, 1) := by decide +kernel
theorem dX5_write_161 : decode cX5_write 161 = .ok (.putfield 186, 3) := by decide +kernel
theorem dX5_write_164 : decode cX5_write 164 = .ok (.aload_n 0, 1) := by decide +kernel
theorem dX5_write_165 : decode cX5_write 165 = .ok (.getfield 186, 3) := by decide +kernel
theorem dX5_write_168 : decode cX5_write 168 = .ok (.iconst 1, 1) := by decide +kernel
theorem dX5_write_169 : decode cX5_write 169 = .ok (.isub, 1) := by decide +kernel
theorem dX5_write_170 : decode cX5_write 170 = .ok (.ireturn, 1) := by decide +kernel
theorem dX5_fits_0 : decode cX5_fits 0 = .ok (.aload_n 0, 1) := by decide +kernel
theorem dX5_fits_1 : decode cX5_fits 1 = .ok (.getfield 180, 3) := by decide +kernel
theorem dX5_fits_4 : decode cX5_fits 4 = .ok (.bipush 10, 2) := by decide +kernel
theorem dX5_fits_6 : decode cX5_fits 6 = .ok (.iadd, 1) := by decide +kernel
theorem dX5_fits_7 : decode cX5_fits 7 = .ok (.iload_n 1, 1) := by decide +kernel
theorem dX5_fits_8 : decode cX5_fits 8 = .ok (.iadd, 1) := by decide +kernel
theorem dX5_fits_9 : decode cX5_fits 9 = .ok (.sipush 1200, 3) := by decide +kernel
theorem dX5_fits_12 : decode cX5_fits 12 = .ok (.if_icmp .gt 7, 3) := by decide +kernel
theorem dX5_fits_15 : decode cX5_fits 15 = .ok (.iconst 1, 1) := by decide +kernel
theorem dX5_fits_16 : decode cX5_fits 16 = .ok (.goto 4, 3) := by decide +kernel
theorem dX5_fits_19 : decode cX5_fits 19 = .ok (.iconst 0, 1) := by decide +kernel
theorem dX5_fits_20 : decode cX5_fits 20 = .ok (.ireturn, 1) := by decide +kernel
set_option maxRecDepth 20000 in
theorem ggX5_append_X5_refused : GoodIn wsX5_append wsX5_refused := goodIn_r _ [10, 11, 139, 140, 141, 142, 143, 144, 145, 146, 147, 148, 149, 150, 151, 152, 153, 154, 155, 156, 157, 158, 159, 160, 161, 162, 163, 164, 165, 166, 167, 168] (by decide +kernel) (by decide +kernel)
set_option maxRecDepth 20000 in
theorem gX5_append_X5_refused : GoodIn wsX5_append (wsV RX5 202 RX5 yX5_refused wsX5_refused) := goodIn_app (goodIn_of _ (by decide +kernel)) ggX5_append_X5_refused
set_option maxRecDepth 20000 in
theorem ggX5_append_X5_fits : GoodIn wsX5_append wsX5_fits := goodIn_r _ [15, 4, 139, 140, 141, 142, 143, 144, 145, 146, 147, 148, 149, 150, 151, 152, 153, 154, 155, 156, 157, 158, 159, 160, 161, 162, 163, 164, 165, 166, 167, 168] (by decide +kernel) (by decide +kernel)
set_option maxRecDepth 20000 in
theorem gX5_append_X5_fits : GoodIn wsX5_append (wsV RX5 213 RX5 yX5_fits wsX5_fits) := goodIn_app (goodIn_of _ (by decide +kernel)) ggX5_append_X5_fits
set_option maxRecDepth 20000 in
theorem ggX5_append_X5_write : GoodIn wsX5_append wsX5_write := goodIn_r _ [19, 20, 21, 22, 23, 24, 4, 25, 3, 26, 27, 28, 9, 29, 30, 31, 32, 33, 34, 35, 36, 37, 38, 39, 40, 41, 42, 43, 44, 45, 46, 47, 48, 49, 50, 51, 52, 53, 54, 55, 56, 57, 58, 59, 60, 61, 62, 63, 64, 65, 66, 67, 68, 69, 70, 71, 72, 73, 74, 75, 76, 77, 78, 79, 80, 81, 82, 83, 84, 85, 86, 87, 88, 89, 90, 91, 92, 93, 94, 95, 96, 97, 98, 99, 100, 101, 102, 103, 104, 105, 106, 107, 108, 109, 110, 111, 112, 113, 114, 115, 116, 117, 118, 119, 120, 121, 122, 123, 124, 125, 126, 127, 128, 129, 130, 131, 132, 133, 134, 135, 136, 137, 138, 139, 140, 141, 142, 143, 144, 145, 146, 147, 148, 149, 150, 151, 152, 153, 154, 155, 156, 157, 158, 159, 160, 161, 162, 163, 164, 165, 166, 167, 168] (by decide +kernel) (by decide +kernel)
set_option maxRecDepth 20000 in
theorem gX5_append_X5_write : GoodIn wsX5_append (wsV RX5 216 RX5 yX5_write wsX5_write) := goodIn_app (goodIn_of _ (by decide +kernel)) ggX5_append_X5_write
theorem dX5_append_0 : decode cX5_append 0 = .ok (.aload_n 0, 1) := by decide +kernel
theorem dX5_append_1 : decode cX5_append 1 = .ok (.aload_n 0, 1) := by decide +kernel
theorem dX5_append_2 : decode cX5_append 2 = .ok (.getfield 52, 3) := by decide +kernel
theorem dX5_append_5 : decode cX5_append 5 = .ok (.ifCond .eq 7, 3) := by decide +kernel
theorem dX5_append_8 : decode cX5_append 8 = .ok (.iconst 0, 1) := by decide +kernel
theorem dX5_append_9 : decode cX5_append 9 = .ok (.goto 4, 3) := by decide +kernel
theorem dX5_append_12 : decode cX5_append 12 = .ok (.iconst 1, 1) := by decide +kernel
theorem dX5_append_13 : decode cX5_append 13 = .ok (.invokevirtual 202, 3) := by decide +kernel
theorem dX5_append_16 : decode cX5_append 16 = .ok (.ifCond .eq 5, 3) := by decide +kernel
theorem dX5_append_19 : decode cX5_append 19 = .ok (.iconst 0, 1) := by decide +kernel
theorem dX5_append_20 : decode cX5_append 20 = .ok (.ireturn, 1) := by decide +kernel
theorem dX5_append_21 : decode cX5_append 21 = .ok (.aload_n 0, 1) := by decide +kernel
theorem dX5_append_22 : decode cX5_append 22 = .ok (.aload_n 0, 1) := by decide +kernel
theorem dX5_append_23 : decode cX5_append 23 = .ok (.getfield 199, 3) := by decide +kernel
theorem dX5_append_26 : decode cX5_append 26 = .ok (.invokevirtual 213, 3) := by decide +kernel
theorem dX5_append_29 : decode cX5_append 29 = .ok (.ifCond .ne 6, 3) := by decide +kernel
theorem dX5_append_32 : decode cX5_append 32 = .ok (.bipush (-2), 2) := by decide +kernel
theorem dX5_append_34 : decode cX5_append 34 = .ok (.ireturn, 1) := by decide +kernel
theorem dX5_append_35 : decode cX5_append 35 = .ok (.aload_n 0, 1) := by decide +kernel
theorem dX5_append_36 : decode cX5_append 36 = .ok (.getfield 7, 3) := by decide +kernel
theorem dX5_append_39 : decode cX5_append 39 = .ok (.aload_n 0, 1) := by decide +kernel
theorem dX5_append_40 : decode cX5_append 40 = .ok (.getfield 180, 3) := by decide +kernel
theorem dX5_append_43 : decode cX5_append 43 = .ok (.iconst 1, 1) := by decide +kernel
theorem dX5_append_44 : decode cX5_append 44 = .ok (.iastore, 1) := by decide +kernel
theorem dX5_append_45 : decode cX5_append 45 = .ok (.aload_n 0, 1) := by decide +kernel
theorem dX5_append_46 : decode cX5_append 46 = .ok (.getfield 7, 3) := by decide +kernel
theorem dX5_append_49 : decode cX5_append 49 = .ok (.aload_n 0, 1) := by decide +kernel
theorem dX5_append_50 : decode cX5_append 50 = .ok (.getfield 180, 3) := by decide +kernel
theorem dX5_append_53 : decode cX5_append 53 = .ok (.iconst 1, 1) := by decide +kernel
theorem dX5_append_54 : decode cX5_append 54 = .ok (.iadd, 1) := by decide +kernel
theorem dX5_append_55 : decode cX5_append 55 = .ok (.aload_n 0, 1) := by decide +kernel
theorem dX5_append_56 : decode cX5_append 56 = .ok (.getfield 199, 3) := by decide +kernel
theorem dX5_append_59 : decode cX5_append 59 = .ok (.iastore, 1) := by decide +kernel
theorem dX5_append_60 : decode cX5_append 60 = .ok (.iconst 0, 1) := by decide +kernel
theorem dX5_append_61 : decode cX5_append 61 = .ok (.istore_n 1, 1) := by decide +kernel
theorem dX5_append_62 : decode cX5_append 62 = .ok (.iload_n 1, 1) := by decide +kernel
theorem dX5_append_63 : decode cX5_append 63 = .ok (.aload_n 0, 1) := by decide +kernel
theorem dX5_append_64 : decode cX5_append 64 = .ok (.getfield 199, 3) := by decide +kernel
theorem dX5_append_67 : decode cX5_append 67 = .ok (.if_icmp .ge 28, 3) := by decide +kernel
theorem dX5_append_70 : decode cX5_append 70 = .ok (.aload_n 0, 1) := by decide +kernel
theorem dX5_append_71 : decode cX5_append 71 = .ok (.getfield 7, 3) := by decide +kernel
theorem dX5_append_74 : decode cX5_append 74 = .ok (.aload_n 0, 1) := by decide +kernel
theorem dX5_append_75 : decode cX5_append 75 = .ok (.getfield 180, 3) := by decide +kernel
theorem dX5_append_78 : decode cX5_append 78 = .ok (.iconst 2, 1) := by decide +kernel
theorem dX5_append_79 : decode cX5_append 79 = .ok (.iadd, 1) := by decide +kernel
theorem dX5_append_80 : decode cX5_append 80 = .ok (.iload_n 1, 1) := by decide +kernel
theorem dX5_append_81 : decode cX5_append 81 = .ok (.iadd, 1) := by decide +kernel
theorem dX5_append_82 : decode cX5_append 82 = .ok (.aload_n 0, 1) := by decide +kernel
theorem dX5_append_83 : decode cX5_append 83 = .ok (.getfield 13, 3) := by decide +kernel
theorem dX5_append_86 : decode cX5_append 86 = .ok (.iload_n 1, 1) := by decide +kernel
theorem dX5_append_87 : decode cX5_append 87 = .ok (.iaload, 1) := by decide +kernel
theorem dX5_append_88 : decode cX5_append 88 = .ok (.iastore, 1) := by decide +kernel
theorem dX5_append_89 : decode cX5_append 89 = .ok (.iinc 1 1, 3) := by decide +kernel
theorem dX5_append_92 : decode cX5_append 92 = .ok (.goto (-30), 3) := by decide +kernel
theorem dX5_append_95 : decode cX5_append 95 = .ok (.aload_n 0, 1) := by decide +kernel
theorem dX5_append_96 : decode cX5_append 96 = .ok (.aload_n 0, 1) := by decide +kernel
theorem dX5_append_97 : decode cX5_append 97 = .ok (.getfield 199, 3) := by decide +kernel
theorem dX5_append_100 : decode cX5_append 100 = .ok (.invokevirtual 216, 3) := by decide +kernel
theorem dX5_append_103 : decode cX5_append 103 = .ok (.ireturn, 1) := by decide +kernel
set_option maxRecDepth 20000 in
theorem ggX5_seal_X5_refused : GoodIn wsX5_seal wsX5_refused := goodIn_r _ [8, 9, 137, 138, 139, 140, 141, 142, 143, 144, 145, 146, 147, 148, 149, 150, 151, 152, 153, 154, 155, 156, 157, 158, 159, 160, 161, 162, 163, 164, 165, 166] (by decide +kernel) (by decide +kernel)
set_option maxRecDepth 20000 in
theorem gX5_seal_X5_refused : GoodIn wsX5_seal (wsV RX5 202 RX5 yX5_refused wsX5_refused) := goodIn_app (goodIn_of _ (by decide +kernel)) ggX5_seal_X5_refused
set_option maxRecDepth 20000 in
theorem ggX5_seal_X5_fits : GoodIn wsX5_seal wsX5_fits := goodIn_r _ [13, 3, 137, 138, 139, 140, 141, 142, 143, 144, 145, 146, 147, 148, 149, 150, 151, 152, 153, 154, 155, 156, 157, 158, 159, 160, 161, 162, 163, 164, 165, 166] (by decide +kernel) (by decide +kernel)
set_option maxRecDepth 20000 in
theorem gX5_seal_X5_fits : GoodIn wsX5_seal (wsV RX5 213 RX5 yX5_fits wsX5_fits) := goodIn_app (goodIn_of _ (by decide +kernel)) ggX5_seal_X5_fits
set_option maxRecDepth 20000 in
theorem ggX5_seal_X5_write : GoodIn wsX5_seal wsX5_write := goodIn_r _ [17, 18, 19, 20, 21, 22, 3, 23, 2, 24, 25, 26, 7, 27, 28, 29, 30, 31, 32, 33, 34, 35, 36, 37, 38, 39, 40, 41, 42, 43, 44, 45, 46, 47, 48, 49, 50, 51, 52, 53, 54, 55, 56, 57, 58, 59, 60, 61, 62, 63, 64, 65, 66, 67, 68, 69, 70, 71, 72, 73, 74, 75, 76, 77, 78, 79, 80, 81, 82, 83, 84, 85, 86, 87, 88, 89, 90, 91, 92, 93, 94, 95, 96, 97, 98, 99, 100, 101, 102, 103, 104, 105, 106, 107, 108, 109, 110, 111, 112, 113, 114, 115, 116, 117, 118, 119, 120, 121, 122, 123, 124, 125, 126, 127, 128, 129, 130, 131, 132, 133, 134, 135, 136, 137, 138, 139, 140, 141, 142, 143, 144, 145, 146, 147, 148, 149, 150, 151, 152, 153, 154, 155, 156, 157, 158, 159, 160, 161, 162, 163, 164, 165, 166] (by decide +kernel) (by decide +kernel)
set_option maxRecDepth 20000 in
theorem gX5_seal_X5_write : GoodIn wsX5_seal (wsV RX5 216 RX5 yX5_write wsX5_write) := goodIn_app (goodIn_of _ (by decide +kernel)) ggX5_seal_X5_write
theorem dX5_seal_0 : decode cX5_seal 0 = .ok (.aload_n 0, 1) := by decide +kernel
theorem dX5_seal_1 : decode cX5_seal 1 = .ok (.aload_n 0, 1) := by decide +kernel
theorem dX5_seal_2 : decode cX5_seal 2 = .ok (.getfield 52, 3) := by decide +kernel
theorem dX5_seal_5 : decode cX5_seal 5 = .ok (.ifCond .eq 7, 3) := by decide +kernel
theorem dX5_seal_8 : decode cX5_seal 8 = .ok (.iconst 0, 1) := by decide +kernel
theorem dX5_seal_9 : decode cX5_seal 9 = .ok (.goto 4, 3) := by decide +kernel
theorem dX5_seal_12 : decode cX5_seal 12 = .ok (.iconst 1, 1) := by decide +kernel
theorem dX5_seal_13 : decode cX5_seal 13 = .ok (.invokevirtual 202, 3) := by decide +kernel
theorem dX5_seal_16 : decode cX5_seal 16 = .ok (.ifCond .eq 5, 3) := by decide +kernel
theorem dX5_seal_19 : decode cX5_seal 19 = .ok (.iconst 0, 1) := by decide +kernel
theorem dX5_seal_20 : decode cX5_seal 20 = .ok (.ireturn, 1) := by decide +kernel
theorem dX5_seal_21 : decode cX5_seal 21 = .ok (.aload_n 0, 1) := by decide +kernel
theorem dX5_seal_22 : decode cX5_seal 22 = .ok (.iconst 0, 1) := by decide +kernel
theorem dX5_seal_23 : decode cX5_seal 23 = .ok (.invokevirtual 213, 3) := by decide +kernel
theorem dX5_seal_26 : decode cX5_seal 26 = .ok (.ifCond .ne 6, 3) := by decide +kernel
theorem dX5_seal_29 : decode cX5_seal 29 = .ok (.bipush (-2), 2) := by decide +kernel
theorem dX5_seal_31 : decode cX5_seal 31 = .ok (.ireturn, 1) := by decide +kernel
theorem dX5_seal_32 : decode cX5_seal 32 = .ok (.aload_n 0, 1) := by decide +kernel
theorem dX5_seal_33 : decode cX5_seal 33 = .ok (.getfield 7, 3) := by decide +kernel
theorem dX5_seal_36 : decode cX5_seal 36 = .ok (.aload_n 0, 1) := by decide +kernel
theorem dX5_seal_37 : decode cX5_seal 37 = .ok (.getfield 180, 3) := by decide +kernel
theorem dX5_seal_40 : decode cX5_seal 40 = .ok (.iconst 2, 1) := by decide +kernel
theorem dX5_seal_41 : decode cX5_seal 41 = .ok (.iastore, 1) := by decide +kernel
theorem dX5_seal_42 : decode cX5_seal 42 = .ok (.aload_n 0, 1) := by decide +kernel
theorem dX5_seal_43 : decode cX5_seal 43 = .ok (.getfield 7, 3) := by decide +kernel
theorem dX5_seal_46 : decode cX5_seal 46 = .ok (.aload_n 0, 1) := by decide +kernel
theorem dX5_seal_47 : decode cX5_seal 47 = .ok (.getfield 180, 3) := by decide +kernel
theorem dX5_seal_50 : decode cX5_seal 50 = .ok (.iconst 1, 1) := by decide +kernel
theorem dX5_seal_51 : decode cX5_seal 51 = .ok (.iadd, 1) := by decide +kernel
theorem dX5_seal_52 : decode cX5_seal 52 = .ok (.iconst 0, 1) := by decide +kernel
theorem dX5_seal_53 : decode cX5_seal 53 = .ok (.iastore, 1) := by decide +kernel
theorem dX5_seal_54 : decode cX5_seal 54 = .ok (.aload_n 0, 1) := by decide +kernel
theorem dX5_seal_55 : decode cX5_seal 55 = .ok (.iconst 0, 1) := by decide +kernel
theorem dX5_seal_56 : decode cX5_seal 56 = .ok (.invokevirtual 216, 3) := by decide +kernel
theorem dX5_seal_59 : decode cX5_seal 59 = .ok (.ireturn, 1) := by decide +kernel
set_option maxRecDepth 20000 in
theorem ggX5_sync_X5_refused : GoodIn wsX5_sync wsX5_refused := goodIn_r _ [8, 9, 10, 11, 12, 13, 14, 15, 16, 17, 18, 19, 20, 21, 22, 23, 24, 25, 26, 27, 28, 29, 30, 31, 32, 33, 34, 35, 36, 37, 38, 39] (by decide +kernel) (by decide +kernel)
set_option maxRecDepth 20000 in
theorem gX5_sync_X5_refused : GoodIn wsX5_sync (wsV RX5 202 RX5 yX5_refused wsX5_refused) := goodIn_app (goodIn_of _ (by decide +kernel)) ggX5_sync_X5_refused
theorem dX5_sync_0 : decode cX5_sync 0 = .ok (.aload_n 0, 1) := by decide +kernel
theorem dX5_sync_1 : decode cX5_sync 1 = .ok (.aload_n 0, 1) := by decide +kernel
theorem dX5_sync_2 : decode cX5_sync 2 = .ok (.getfield 52, 3) := by decide +kernel
theorem dX5_sync_5 : decode cX5_sync 5 = .ok (.ifCond .eq 7, 3) := by decide +kernel
theorem dX5_sync_8 : decode cX5_sync 8 = .ok (.iconst 0, 1) := by decide +kernel
theorem dX5_sync_9 : decode cX5_sync 9 = .ok (.goto 4, 3) := by decide +kernel
theorem dX5_sync_12 : decode cX5_sync 12 = .ok (.iconst 1, 1) := by decide +kernel
theorem dX5_sync_13 : decode cX5_sync 13 = .ok (.invokevirtual 202, 3) := by decide +kernel
theorem dX5_sync_16 : decode cX5_sync 16 = .ok (.ifCond .eq 5, 3) := by decide +kernel
theorem dX5_sync_19 : decode cX5_sync 19 = .ok (.iconst 0, 1) := by decide +kernel
theorem dX5_sync_20 : decode cX5_sync 20 = .ok (.ireturn, 1) := by decide +kernel
theorem dX5_sync_21 : decode cX5_sync 21 = .ok (.aload_n 0, 1) := by decide +kernel
theorem dX5_sync_22 : decode cX5_sync 22 = .ok (.aload_n 0, 1) := by decide +kernel
theorem dX5_sync_23 : decode cX5_sync 23 = .ok (.getfield 180, 3) := by decide +kernel
theorem dX5_sync_26 : decode cX5_sync 26 = .ok (.putfield 183, 3) := by decide +kernel
theorem dX5_sync_29 : decode cX5_sync 29 = .ok (.aload_n 0, 1) := by decide +kernel
theorem dX5_sync_30 : decode cX5_sync 30 = .ok (.getfield 183, 3) := by decide +kernel
theorem dX5_sync_33 : decode cX5_sync 33 = .ok (.ireturn, 1) := by decide +kernel
set_option maxRecDepth 20000 in
theorem ggX5_crash_X5_refused : GoodIn wsX5_crash wsX5_refused := goodIn_r _ [9, 10, 11, 12, 13, 14, 15, 16, 17, 18, 19, 20, 21, 22, 23, 24, 25, 26, 27, 28, 29, 30, 31, 32, 33, 34, 35, 36, 37, 38, 39, 40] (by decide +kernel) (by decide +kernel)
set_option maxRecDepth 20000 in
theorem gX5_crash_X5_refused : GoodIn wsX5_crash (wsV RX5 202 RX5 yX5_refused wsX5_refused) := goodIn_app (goodIn_of _ (by decide +kernel)) ggX5_crash_X5_refused
theorem dX5_crash_0 : decode cX5_crash 0 = .ok (.aload_n 0, 1) := by decide +kernel
theorem dX5_crash_1 : decode cX5_crash 1 = .ok (.iload_n 1, 1) := by decide +kernel
theorem dX5_crash_2 : decode cX5_crash 2 = .ok (.ifCond .ge 7, 3) := by decide +kernel
theorem dX5_crash_5 : decode cX5_crash 5 = .ok (.iconst 1, 1) := by decide +kernel
theorem dX5_crash_6 : decode cX5_crash 6 = .ok (.goto 4, 3) := by decide +kernel
theorem dX5_crash_9 : decode cX5_crash 9 = .ok (.iconst 0, 1) := by decide +kernel
theorem dX5_crash_10 : decode cX5_crash 10 = .ok (.invokevirtual 202, 3) := by decide +kernel
theorem dX5_crash_13 : decode cX5_crash 13 = .ok (.ifCond .eq 5, 3) := by decide +kernel
theorem dX5_crash_16 : decode cX5_crash 16 = .ok (.iconst 0, 1) := by decide +kernel
theorem dX5_crash_17 : decode cX5_crash 17 = .ok (.ireturn, 1) := by decide +kernel
theorem dX5_crash_18 : decode cX5_crash 18 = .ok (.aload_n 0, 1) := by decide +kernel
theorem dX5_crash_19 : decode cX5_crash 19 = .ok (.getfield 180, 3) := by decide +kernel
theorem dX5_crash_22 : decode cX5_crash 22 = .ok (.aload_n 0, 1) := by decide +kernel
theorem dX5_crash_23 : decode cX5_crash 23 = .ok (.getfield 183, 3) := by decide +kernel
theorem dX5_crash_26 : decode cX5_crash 26 = .ok (.isub, 1) := by decide +kernel
theorem dX5_crash_27 : decode cX5_crash 27 = .ok (.istore_n 2, 1) := by decide +kernel
theorem dX5_crash_28 : decode cX5_crash 28 = .ok (.iload_n 1, 1) := by decide +kernel
theorem dX5_crash_29 : decode cX5_crash 29 = .ok (.iload_n 2, 1) := by decide +kernel
theorem dX5_crash_30 : decode cX5_crash 30 = .ok (.if_icmp .ge 9, 3) := by decide +kernel
theorem dX5_crash_33 : decode cX5_crash 33 = .ok (.iload_n 2, 1) := by decide +kernel
theorem dX5_crash_34 : decode cX5_crash 34 = .ok (.iload_n 1, 1) := by decide +kernel
theorem dX5_crash_35 : decode cX5_crash 35 = .ok (.isub, 1) := by decide +kernel
theorem dX5_crash_36 : decode cX5_crash 36 = .ok (.goto 4, 3) := by decide +kernel
theorem dX5_crash_39 : decode cX5_crash 39 = .ok (.iconst 0, 1) := by decide +kernel
theorem dX5_crash_40 : decode cX5_crash 40 = .ok (.istore_n 3, 1) := by decide +kernel
theorem dX5_crash_41 : decode cX5_crash 41 = .ok (.aload_n 0, 1) := by decide +kernel
theorem dX5_crash_42 : decode cX5_crash 42 = .ok (.aload_n 0, 1) := by decide +kernel
theorem dX5_crash_43 : decode cX5_crash 43 = .ok (.getfield 180, 3) := by decide +kernel
theorem dX5_crash_46 : decode cX5_crash 46 = .ok (.iload_n 3, 1) := by decide +kernel
theorem dX5_crash_47 : decode cX5_crash 47 = .ok (.isub, 1) := by decide +kernel
theorem dX5_crash_48 : decode cX5_crash 48 = .ok (.putfield 180, 3) := by decide +kernel
theorem dX5_crash_51 : decode cX5_crash 51 = .ok (.aload_n 0, 1) := by decide +kernel
theorem dX5_crash_52 : decode cX5_crash 52 = .ok (.iconst 0, 1) := by decide +kernel
theorem dX5_crash_53 : decode cX5_crash 53 = .ok (.putfield 52, 3) := by decide +kernel
theorem dX5_crash_56 : decode cX5_crash 56 = .ok (.aload_n 0, 1) := by decide +kernel
theorem dX5_crash_57 : decode cX5_crash 57 = .ok (.dup, 1) := by decide +kernel
theorem dX5_crash_58 : decode cX5_crash 58 = .ok (.getfield 189, 3) := by decide +kernel
theorem dX5_crash_61 : decode cX5_crash 61 = .ok (.iconst 1, 1) := by decide +kernel
theorem dX5_crash_62 : decode cX5_crash 62 = .ok (.iadd, 1) := by decide +kernel
theorem dX5_crash_63 : decode cX5_crash 63 = .ok (.putfield 189, 3) := by decide +kernel
theorem dX5_crash_66 : decode cX5_crash 66 = .ok (.iload_n 3, 1) := by decide +kernel
theorem dX5_crash_67 : decode cX5_crash 67 = .ok (.ireturn, 1) := by decide +kernel
theorem dX5_look_0 : decode cX5_look 0 = .ok (.iload_n 1, 1) := by decide +kernel
theorem dX5_look_1 : decode cX5_look 1 = .ok (.iconst 2, 1) := by decide +kernel
theorem dX5_look_2 : decode cX5_look 2 = .ok (.iadd, 1) := by decide +kernel
theorem dX5_look_3 : decode cX5_look 3 = .ok (.aload_n 0, 1) := by decide +kernel
theorem dX5_look_4 : decode cX5_look 4 = .ok (.getfield 180, 3) := by decide +kernel
theorem dX5_look_7 : decode cX5_look 7 = .ok (.if_icmp .le 5, 3) := by decide +kernel
theorem dX5_look_10 : decode cX5_look 10 = .ok (.iconst 0, 1) := by decide +kernel
theorem dX5_look_11 : decode cX5_look 11 = .ok (.ireturn, 1) := by decide +kernel
theorem dX5_look_12 : decode cX5_look 12 = .ok (.aload_n 0, 1) := by decide +kernel
theorem dX5_look_13 : decode cX5_look 13 = .ok (.aload_n 0, 1) := by decide +kernel
theorem dX5_look_14 : decode cX5_look 14 = .ok (.getfield 7, 3) := by decide +kernel
theorem dX5_look_17 : decode cX5_look 17 = .ok (.iload_n 1, 1) := by decide +kernel
theorem dX5_look_18 : decode cX5_look 18 = .ok (.iaload, 1) := by decide +kernel
theorem dX5_look_19 : decode cX5_look 19 = .ok (.putfield 219, 3) := by decide +kernel
theorem dX5_look_22 : decode cX5_look 22 = .ok (.aload_n 0, 1) := by decide +kernel
theorem dX5_look_23 : decode cX5_look 23 = .ok (.aload_n 0, 1) := by decide +kernel
theorem dX5_look_24 : decode cX5_look 24 = .ok (.getfield 7, 3) := by decide +kernel
theorem dX5_look_27 : decode cX5_look 27 = .ok (.iload_n 1, 1) := by decide +kernel
theorem dX5_look_28 : decode cX5_look 28 = .ok (.iconst 1, 1) := by decide +kernel
theorem dX5_look_29 : decode cX5_look 29 = .ok (.iadd, 1) := by decide +kernel
theorem dX5_look_30 : decode cX5_look 30 = .ok (.iaload, 1) := by decide +kernel
theorem dX5_look_31 : decode cX5_look 31 = .ok (.putfield 222, 3) := by decide +kernel
theorem dX5_look_34 : decode cX5_look 34 = .ok (.aload_n 0, 1) := by decide +kernel
theorem dX5_look_35 : decode cX5_look 35 = .ok (.iconst 0, 1) := by decide +kernel
theorem dX5_look_36 : decode cX5_look 36 = .ok (.putfield 225, 3) := by decide +kernel
theorem dX5_look_39 : decode cX5_look 39 = .ok (.aload_n 0, 1) := by decide +kernel
theorem dX5_look_40 : decode cX5_look 40 = .ok (.getfield 219, 3) := by decide +kernel
theorem dX5_look_43 : decode cX5_look 43 = .ok (.iconst 1, 1) := by decide +kernel
theorem dX5_look_44 : decode cX5_look 44 = .ok (.if_icmp .ne 12, 3) := by decide +kernel
theorem dX5_look_47 : decode cX5_look 47 = .ok (.aload_n 0, 1) := by decide +kernel
theorem dX5_look_48 : decode cX5_look 48 = .ok (.getfield 222, 3) := by decide +kernel
theorem dX5_look_51 : decode cX5_look 51 = .ok (.bipush 40, 2) := by decide +kernel
theorem dX5_look_53 : decode cX5_look 53 = .ok (.if_icmp .le 34, 3) := by decide +kernel
theorem dX5_look_56 : decode cX5_look 56 = .ok (.aload_n 0, 1) := by decide +kernel
theorem dX5_look_57 : decode cX5_look 57 = .ok (.getfield 219, 3) := by decide +kernel
theorem dX5_look_60 : decode cX5_look 60 = .ok (.iconst 2, 1) := by decide +kernel
theorem dX5_look_61 : decode cX5_look 61 = .ok (.if_icmp .ne 10, 3) := by decide +kernel
theorem dX5_look_64 : decode cX5_look 64 = .ok (.aload_n 0, 1) := by decide +kernel
theorem dX5_look_65 : decode cX5_look 65 = .ok (.getfield 222, 3) := by decide +kernel
theorem dX5_look_68 : decode cX5_look 68 = .ok (.ifCond .eq 19, 3) := by decide +kernel
theorem dX5_look_71 : decode cX5_look 71 = .ok (.aload_n 0, 1) := by decide +kernel
theorem dX5_look_72 : decode cX5_look 72 = .ok (.getfield 219, 3) := by decide +kernel
theorem dX5_look_75 : decode cX5_look 75 = .ok (.iconst 3, 1) := by decide +kernel
theorem dX5_look_76 : decode cX5_look 76 = .ok (.if_icmp .ne 15, 3) := by decide +kernel
theorem dX5_look_79 : decode cX5_look 79 = .ok (.aload_n 0, 1) := by decide +kernel
theorem dX5_look_80 : decode cX5_look 80 = .ok (.getfield 222, 3) := by decide +kernel
theorem dX5_look_83 : decode cX5_look 83 = .ok (.iconst 2, 1) := by decide +kernel
theorem dX5_look_84 : decode cX5_look 84 = .ok (.if_icmp .ne 7, 3) := by decide +kernel
theorem dX5_look_87 : decode cX5_look 87 = .ok (.iconst 1, 1) := by decide +kernel
theorem dX5_look_88 : decode cX5_look 88 = .ok (.goto 4, 3) := by decide +kernel
theorem dX5_look_91 : decode cX5_look 91 = .ok (.iconst 0, 1) := by decide +kernel
theorem dX5_look_92 : decode cX5_look 92 = .ok (.istore_n 2, 1) := by decide +kernel
theorem dX5_look_93 : decode cX5_look 93 = .ok (.iload_n 2, 1) := by decide +kernel
theorem dX5_look_94 : decode cX5_look 94 = .ok (.ifCond .eq 19, 3) := by decide +kernel
theorem dX5_look_97 : decode cX5_look 97 = .ok (.iload_n 1, 1) := by decide +kernel
theorem dX5_look_98 : decode cX5_look 98 = .ok (.bipush 10, 2) := by decide +kernel
theorem dX5_look_100 : decode cX5_look 100 = .ok (.iadd, 1) := by decide +kernel
theorem dX5_look_101 : decode cX5_look 101 = .ok (.aload_n 0, 1) := by decide +kernel
theorem dX5_look_102 : decode cX5_look 102 = .ok (.getfield 222, 3) := by decide +kernel
theorem dX5_look_105 : decode cX5_look 105 = .ok (.iadd, 1) := by decide +kernel
theorem dX5_look_106 : decode cX5_look 106 = .ok (.aload_n 0, 1) := by decide +kernel
theorem dX5_look_107 : decode cX5_look 107 = .ok (.getfield 180, 3) := by decide +kernel
theorem dX5_look_110 : decode cX5_look 110 = .ok (.if_icmp .le 5, 3) := by decide +kernel
theorem dX5_look_113 : decode cX5_look 113 = .ok (.iconst 0, 1) := by decide +kernel
theorem dX5_look_114 : decode cX5_look 114 = .ok (.ireturn, 1) := by decide +kernel
theorem dX5_look_115 : decode cX5_look 115 = .ok (.aload_n 0, 1) := by decide +kernel
theorem dX5_look_116 : decode cX5_look 116 = .ok (.getfield 219, 3) := by decide +kernel
theorem dX5_look_119 : decode cX5_look 119 = .ok (.iconst 3, 1) := by decide +kernel
theorem dX5_look_120 : decode cX5_look 120 = .ok (.if_icmp .ne 28, 3) := by decide +kernel
theorem dX5_look_123 : decode cX5_look 123 = .ok (.aload_n 0, 1) := by decide +kernel
theorem dX5_look_124 : decode cX5_look 124 = .ok (.sipush 256, 3) := by decide +kernel
theorem dX5_look_127 : decode cX5_look 127 = .ok (.aload_n 0, 1) := by decide +kernel
theorem dX5_look_128 : decode cX5_look 128 = .ok (.getfield 7, 3) := by decide +kernel
theorem dX5_look_131 : decode cX5_look 131 = .ok (.iload_n 1, 1) := by decide +kernel
theorem dX5_look_132 : decode cX5_look 132 = .ok (.iconst 2, 1) := by decide +kernel
theorem dX5_look_133 : decode cX5_look 133 = .ok (.iadd, 1) := by decide +kernel
theorem dX5_look_134 : decode cX5_look 134 = .ok (.iaload, 1) := by decide +kernel
theorem dX5_look_135 : decode cX5_look 135 = .ok (.imul, 1) := by decide +kernel
theorem dX5_look_136 : decode cX5_look 136 = .ok (.aload_n 0, 1) := by decide +kernel
theorem dX5_look_137 : decode cX5_look 137 = .ok (.getfield 7, 3) := by decide +kernel
theorem dX5_look_140 : decode cX5_look 140 = .ok (.iload_n 1, 1) := by decide +kernel
theorem dX5_look_141 : decode cX5_look 141 = .ok (.iconst 3, 1) := by decide +kernel
theorem dX5_look_142 : decode cX5_look 142 = .ok (.iadd, 1) := by decide +kernel
theorem dX5_look_143 : decode cX5_look 143 = .ok (.iaload, 1) := by decide +kernel
theorem dX5_look_144 : decode cX5_look 144 = .ok (.iadd, 1) := by decide +kernel
theorem dX5_look_145 : decode cX5_look 145 = .ok (.putfield 225, 3) := by decide +kernel
theorem dX5_look_148 : decode cX5_look 148 = .ok (.iconst 1, 1) := by decide +kernel
theorem dX5_look_149 : decode cX5_look 149 = .ok (.ireturn, 1) := by decide +kernel
set_option maxRecDepth 20000 in
theorem ggX5_recover_X5_refused : GoodIn wsX5_recover wsX5_refused := goodIn_r _ [13, 14, 141, 142, 143, 144, 145, 146, 147, 148, 149, 150, 151, 152, 153, 154, 155, 156, 157, 158, 159, 160, 161, 162, 163, 164, 165, 166, 167, 168, 169, 170] (by decide +kernel) (by decide +kernel)
set_option maxRecDepth 20000 in
theorem gX5_recover_X5_refused : GoodIn wsX5_recover (wsV RX5 202 RX5 yX5_refused wsX5_refused) := goodIn_app (goodIn_of _ (by decide +kernel)) ggX5_recover_X5_refused
set_option maxRecDepth 20000 in
theorem ggX5_recover_X5_look : GoodIn wsX5_recover wsX5_look := goodIn_r _ [18, 5, 8, 19, 3, 2, 141, 142, 143, 144, 145, 146, 147, 148, 149, 150, 151, 152, 153, 154, 155, 156, 157, 158, 159, 160, 161, 162, 163, 164, 165, 166, 167, 168, 169, 170] (by decide +kernel) (by decide +kernel)
set_option maxRecDepth 20000 in
theorem gX5_recover_X5_look : GoodIn wsX5_recover (wsV RX5 228 RX5 yX5_look wsX5_look) := goodIn_app (goodIn_of _ (by decide +kernel)) ggX5_recover_X5_look
set_option maxRecDepth 20000 in
theorem ggX5_recover_X5_write : GoodIn wsX5_recover wsX5_write := goodIn_r _ [23, 24, 25, 26, 7, 4, 5, 27, 8, 28, 29, 30, 12, 31, 32, 33, 34, 35, 36, 37, 38, 39, 40, 41, 42, 43, 44, 45, 46, 47, 48, 49, 50, 51, 52, 53, 54, 55, 56, 57, 58, 59, 60, 61, 62, 63, 64, 65, 66, 67, 68, 69, 70, 71, 72, 73, 74, 75, 76, 77, 78, 79, 80, 81, 82, 83, 84, 85, 86, 87, 88, 89, 90, 91, 92, 93, 94, 95, 96, 97, 98, 99, 100, 101, 102, 103, 104, 105, 106, 107, 108, 109, 110, 111, 112, 113, 114, 115, 116, 117, 118, 119, 120, 121, 122, 123, 124, 125, 126, 127, 128, 129, 130, 131, 132, 133, 134, 135, 136, 137, 138, 139, 140, 141, 142, 143, 144, 145, 146, 147, 148, 149, 150, 151, 152, 153, 154, 155, 156, 157, 158, 159, 160, 161, 162, 163, 164, 165, 166, 167, 168, 169, 170] (by decide +kernel) (by decide +kernel)
set_option maxRecDepth 20000 in
theorem gX5_recover_X5_write : GoodIn wsX5_recover (wsV RX5 216 RX5 yX5_write wsX5_write) := goodIn_app (goodIn_of _ (by decide +kernel)) ggX5_recover_X5_write
theorem dX5_recover_0 : decode cX5_recover 0 = .ok (.aload_n 0, 1) := by decide +kernel
theorem dX5_recover_1 : decode cX5_recover 1 = .ok (.aload_n 0, 1) := by decide +kernel
theorem dX5_recover_2 : decode cX5_recover 2 = .ok (.getfield 52, 3) := by decide +kernel
theorem dX5_recover_5 : decode cX5_recover 5 = .ok (.ifCond .eq 7, 3) := by decide +kernel
theorem dX5_recover_8 : decode cX5_recover 8 = .ok (.iconst 1, 1) := by decide +kernel
theorem dX5_recover_9 : decode cX5_recover 9 = .ok (.goto 4, 3) := by decide +kernel
theorem dX5_recover_12 : decode cX5_recover 12 = .ok (.iconst 0, 1) := by decide +kernel
theorem dX5_recover_13 : decode cX5_recover 13 = .ok (.invokevirtual 202, 3) := by decide +kernel
theorem dX5_recover_16 : decode cX5_recover 16 = .ok (.ifCond .eq 5, 3) := by decide +kernel
theorem dX5_recover_19 : decode cX5_recover 19 = .ok (.iconst 0, 1) := by decide +kernel
theorem dX5_recover_20 : decode cX5_recover 20 = .ok (.ireturn, 1) := by decide +kernel
theorem dX5_recover_21 : decode cX5_recover 21 = .ok (.iconst 0, 1) := by decide +kernel
theorem dX5_recover_22 : decode cX5_recover 22 = .ok (.istore_n 1, 1) := by decide +kernel
theorem dX5_recover_23 : decode cX5_recover 23 = .ok (.iconst 0, 1) := by decide +kernel
theorem dX5_recover_24 : decode cX5_recover 24 = .ok (.istore_n 2, 1) := by decide +kernel
theorem dX5_recover_25 : decode cX5_recover 25 = .ok (.iconst (-1), 1) := by decide +kernel
theorem dX5_recover_26 : decode cX5_recover 26 = .ok (.istore_n 3, 1) := by decide +kernel
theorem dX5_recover_27 : decode cX5_recover 27 = .ok (.aload_n 0, 1) := by decide +kernel
theorem dX5_recover_28 : decode cX5_recover 28 = .ok (.iload_n 1, 1) := by decide +kernel
theorem dX5_recover_29 : decode cX5_recover 29 = .ok (.invokevirtual 228, 3) := by decide +kernel
theorem dX5_recover_32 : decode cX5_recover 32 = .ok (.ifCond .eq 34, 3) := by decide +kernel
theorem dX5_recover_35 : decode cX5_recover 35 = .ok (.iload_n 2, 1) := by decide +kernel
theorem dX5_recover_36 : decode cX5_recover 36 = .ok (.aload_n 0, 1) := by decide +kernel
theorem dX5_recover_37 : decode cX5_recover 37 = .ok (.getfield 225, 3) := by decide +kernel
theorem dX5_recover_40 : decode cX5_recover 40 = .ok (.iadd, 1) := by decide +kernel
theorem dX5_recover_41 : decode cX5_recover 41 = .ok (.iconst 1, 1) := by decide +kernel
theorem dX5_recover_42 : decode cX5_recover 42 = .ok (.iadd, 1) := by decide +kernel
theorem dX5_recover_43 : decode cX5_recover 43 = .ok (.istore_n 2, 1) := by decide +kernel
theorem dX5_recover_44 : decode cX5_recover 44 = .ok (.iload_n 1, 1) := by decide +kernel
theorem dX5_recover_45 : decode cX5_recover 45 = .ok (.iconst 2, 1) := by decide +kernel
theorem dX5_recover_46 : decode cX5_recover 46 = .ok (.iadd, 1) := by decide +kernel
theorem dX5_recover_47 : decode cX5_recover 47 = .ok (.aload_n 0, 1) := by decide +kernel
theorem dX5_recover_48 : decode cX5_recover 48 = .ok (.getfield 222, 3) := by decide +kernel
theorem dX5_recover_51 : decode cX5_recover 51 = .ok (.iadd, 1) := by decide +kernel
theorem dX5_recover_52 : decode cX5_recover 52 = .ok (.istore_n 3, 1) := by decide +kernel
theorem dX5_recover_53 : decode cX5_recover 53 = .ok (.iload_n 1, 1) := by decide +kernel
theorem dX5_recover_54 : decode cX5_recover 54 = .ok (.bipush 10, 2) := by decide +kernel
theorem dX5_recover_56 : decode cX5_recover 56 = .ok (.iadd, 1) := by decide +kernel
theorem dX5_recover_57 : decode cX5_recover 57 = .ok (.aload_n 0, 1) := by decide +kernel
theorem dX5_recover_58 : decode cX5_recover 58 = .ok (.getfield 222, 3) := by decide +kernel
theorem dX5_recover_61 : decode cX5_recover 61 = .ok (.iadd, 1) := by decide +kernel
theorem dX5_recover_62 : decode cX5_recover 62 = .ok (.istore_n 1, 1) := by decide +kernel
theorem dX5_recover_63 : decode cX5_recover 63 = .ok (.goto (-36), 3) := by decide +kernel
theorem dX5_recover_66 : decode cX5_recover 66 = .ok (.iload_n 2, 1) := by decide +kernel
theorem dX5_recover_67 : decode cX5_recover 67 = .ok (.aload_n 0, 1) := by decide +kernel
theorem dX5_recover_68 : decode cX5_recover 68 = .ok (.getfield 186, 3) := by decide +kernel
theorem dX5_recover_71 : decode cX5_recover 71 = .ok (.if_icmp .ge 12, 3) := by decide +kernel
theorem dX5_recover_74 : decode cX5_recover 74 = .ok (.aload_n 0, 1) := by decide +kernel
theorem dX5_recover_75 : decode cX5_recover 75 = .ok (.getfield 186, 3) := by decide +kernel
theorem dX5_recover_78 : decode cX5_recover 78 = .ok (.iload_n 2, 1) := by decide +kernel
theorem dX5_recover_79 : decode cX5_recover 79 = .ok (.isub, 1) := by decide +kernel
theorem dX5_recover_80 : decode cX5_recover 80 = .ok (.goto 4, 3) := by decide +kernel
theorem dX5_recover_83 : decode cX5_recover 83 = .ok (.iconst 0, 1) := by decide +kernel
theorem dX5_recover_84 : decode cX5_recover 84 = .ok (.istore 4, 2) := by decide +kernel
theorem dX5_recover_86 : decode cX5_recover 86 = .ok (.iload 4, 2) := by decide +kernel
theorem dX5_recover_88 : decode cX5_recover 88 = .ok (.ifCond .le 16, 3) := by decide +kernel
theorem dX5_recover_91 : decode cX5_recover 91 = .ok (.iload_n 1, 1) := by decide +kernel
theorem dX5_recover_92 : decode cX5_recover 92 = .ok (.bipush 12, 2) := by decide +kernel
theorem dX5_recover_94 : decode cX5_recover 94 = .ok (.iadd, 1) := by decide +kernel
theorem dX5_recover_95 : decode cX5_recover 95 = .ok (.sipush 1200, 3) := by decide +kernel
theorem dX5_recover_98 : decode cX5_recover 98 = .ok (.if_icmp .le 6, 3) := by decide +kernel
theorem dX5_recover_101 : decode cX5_recover 101 = .ok (.bipush (-2), 2) := by decide +kernel
theorem dX5_recover_103 : decode cX5_recover 103 = .ok (.ireturn, 1) := by decide +kernel
theorem dX5_recover_104 : decode cX5_recover 104 = .ok (.aload_n 0, 1) := by decide +kernel
theorem dX5_recover_105 : decode cX5_recover 105 = .ok (.iload_n 1, 1) := by decide +kernel
theorem dX5_recover_106 : decode cX5_recover 106 = .ok (.putfield 180, 3) := by decide +kernel
theorem dX5_recover_109 : decode cX5_recover 109 = .ok (.aload_n 0, 1) := by decide +kernel
theorem dX5_recover_110 : decode cX5_recover 110 = .ok (.iload_n 1, 1) := by decide +kernel
theorem dX5_recover_111 : decode cX5_recover 111 = .ok (.putfield 183, 3) := by decide +kernel
theorem dX5_recover_114 : decode cX5_recover 114 = .ok (.aload_n 0, 1) := by decide +kernel
theorem dX5_recover_115 : decode cX5_recover 115 = .ok (.iconst 1, 1) := by decide +kernel
theorem dX5_recover_116 : decode cX5_recover 116 = .ok (.putfield 52, 3) := by decide +kernel
theorem dX5_recover_119 : decode cX5_recover 119 = .ok (.iconst 0, 1) := by decide +kernel
theorem dX5_recover_120 : decode cX5_recover 120 = .ok (.istore 5, 2) := by decide +kernel
theorem dX5_recover_122 : decode cX5_recover 122 = .ok (.iload 5, 2) := by decide +kernel
theorem dX5_recover_124 : decode cX5_recover 124 = .ok (.bipush 8, 2) := by decide +kernel
theorem dX5_recover_126 : decode cX5_recover 126 = .ok (.if_icmp .ge 33, 3) := by decide +kernel
theorem dX5_recover_129 : decode cX5_recover 129 = .ok (.aload_n 0, 1) := by decide +kernel
theorem dX5_recover_130 : decode cX5_recover 130 = .ok (.getfield 19, 3) := by decide +kernel
theorem dX5_recover_133 : decode cX5_recover 133 = .ok (.iload 5, 2) := by decide +kernel
theorem dX5_recover_135 : decode cX5_recover 135 = .ok (.iload_n 3, 1) := by decide +kernel
theorem dX5_recover_136 : decode cX5_recover 136 = .ok (.ifCond .ge 7, 3) := by decide +kernel
theorem dX5_recover_139 : decode cX5_recover 139 = .ok (.iconst 0, 1) := by decide +kernel
theorem dX5_recover_140 : decode cX5_recover 140 = .ok (.goto 12, 3) := by decide +kernel
theorem dX5_recover_143 : decode cX5_recover 143 = .ok (.aload_n 0, 1) := by decide +kernel
theorem dX5_recover_144 : decode cX5_recover 144 = .ok (.getfield 7, 3) := by decide +kernel
theorem dX5_recover_147 : decode cX5_recover 147 = .ok (.iload_n 3, 1) := by decide +kernel
theorem dX5_recover_148 : decode cX5_recover 148 = .ok (.iload 5, 2) := by decide +kernel
theorem dX5_recover_150 : decode cX5_recover 150 = .ok (.iadd, 1) := by decide +kernel
theorem dX5_recover_151 : decode cX5_recover 151 = .ok (.iaload, 1) := by decide +kernel
theorem dX5_recover_152 : decode cX5_recover 152 = .ok (.iastore, 1) := by decide +kernel
theorem dX5_recover_153 : decode cX5_recover 153 = .ok (.iinc 5 1, 3) := by decide +kernel
theorem dX5_recover_156 : decode cX5_recover 156 = .ok (.goto (-34), 3) := by decide +kernel
theorem dX5_recover_159 : decode cX5_recover 159 = .ok (.iload 4, 2) := by decide +kernel
theorem dX5_recover_161 : decode cX5_recover 161 = .ok (.ifCond .le 66, 3) := by decide +kernel
theorem dX5_recover_164 : decode cX5_recover 164 = .ok (.aload_n 0, 1) := by decide +kernel
theorem dX5_recover_165 : decode cX5_recover 165 = .ok (.getfield 7, 3) := by decide +kernel
theorem dX5_recover_168 : decode cX5_recover 168 = .ok (.aload_n 0, 1) := by decide +kernel
theorem dX5_recover_169 : decode cX5_recover 169 = .ok (.getfield 180, 3) := by decide +kernel
theorem dX5_recover_172 : decode cX5_recover 172 = .ok (.iconst 3, 1) := by decide +kernel
theorem dX5_recover_173 : decode cX5_recover 173 = .ok (.iastore, 1) := by decide +kernel
theorem dX5_recover_174 : decode cX5_recover 174 = .ok (.aload_n 0, 1) := by decide +kernel
theorem dX5_recover_175 : decode cX5_recover 175 = .ok (.getfield 7, 3) := by decide +kernel
theorem dX5_recover_178 : decode cX5_recover 178 = .ok (.aload_n 0, 1) := by decide +kernel
theorem dX5_recover_179 : decode cX5_recover 179 = .ok (.getfield 180, 3) := by decide +kernel
theorem dX5_recover_182 : decode cX5_recover 182 = .ok (.iconst 1, 1) := by decide +kernel
theorem dX5_recover_183 : decode cX5_recover 183 = .ok (.iadd, 1) := by decide +kernel
theorem dX5_recover_184 : decode cX5_recover 184 = .ok (.iconst 2, 1) := by decide +kernel
theorem dX5_recover_185 : decode cX5_recover 185 = .ok (.iastore, 1) := by decide +kernel
theorem dX5_recover_186 : decode cX5_recover 186 = .ok (.aload_n 0, 1) := by decide +kernel
theorem dX5_recover_187 : decode cX5_recover 187 = .ok (.getfield 7, 3) := by decide +kernel
theorem dX5_recover_190 : decode cX5_recover 190 = .ok (.aload_n 0, 1) := by decide +kernel
theorem dX5_recover_191 : decode cX5_recover 191 = .ok (.getfield 180, 3) := by decide +kernel
theorem dX5_recover_194 : decode cX5_recover 194 = .ok (.iconst 2, 1) := by decide +kernel
theorem dX5_recover_195 : decode cX5_recover 195 = .ok (.iadd, 1) := by decide +kernel
theorem dX5_recover_196 : decode cX5_recover 196 = .ok (.iload 4, 2) := by decide +kernel
theorem dX5_recover_198 : decode cX5_recover 198 = .ok (.sipush 256, 3) := by decide +kernel
theorem dX5_recover_201 : decode cX5_recover 201 = .ok (.idiv, 1) := by decide +kernel
theorem dX5_recover_202 : decode cX5_recover 202 = .ok (.iastore, 1) := by decide +kernel
theorem dX5_recover_203 : decode cX5_recover 203 = .ok (.aload_n 0, 1) := by decide +kernel
theorem dX5_recover_204 : decode cX5_recover 204 = .ok (.getfield 7, 3) := by decide +kernel
theorem dX5_recover_207 : decode cX5_recover 207 = .ok (.aload_n 0, 1) := by decide +kernel
theorem dX5_recover_208 : decode cX5_recover 208 = .ok (.getfield 180, 3) := by decide +kernel
theorem dX5_recover_211 : decode cX5_recover 211 = .ok (.iconst 3, 1) := by decide +kernel
theorem dX5_recover_212 : decode cX5_recover 212 = .ok (.iadd, 1) := by decide +kernel
theorem dX5_recover_213 : decode cX5_recover 213 = .ok (.iload 4, 2) := by decide +kernel
theorem dX5_recover_215 : decode cX5_recover 215 = .ok (.sipush 256, 3) := by decide +kernel
theorem dX5_recover_218 : decode cX5_recover 218 = .ok (.irem, 1) := by decide +kernel
theorem dX5_recover_219 : decode cX5_recover 219 = .ok (.iastore, 1) := by decide +kernel
theorem dX5_recover_220 : decode cX5_recover 220 = .ok (.aload_n 0, 1) := by decide +kernel
theorem dX5_recover_221 : decode cX5_recover 221 = .ok (.iconst 2, 1) := by decide +kernel
theorem dX5_recover_222 : decode cX5_recover 222 = .ok (.invokevirtual 216, 3) := by decide +kernel
theorem dX5_recover_225 : decode cX5_recover 225 = .ok (.istore 5, 2) := by decide +kernel
theorem dX5_recover_227 : decode cX5_recover 227 = .ok (.iload 4, 2) := by decide +kernel
theorem dX5_recover_229 : decode cX5_recover 229 = .ok (.ireturn, 1) := by decide +kernel
set_option maxRecDepth 20000 in
theorem ggX5_bears_X5_tag : GoodIn wsX5_bears wsX5_tag := goodIn_r _ [9, 2, 1, 4, 10, 11, 12, 8, 13, 14, 15, 16, 17, 18, 19, 20, 21, 22, 23, 24, 25, 26, 27, 28, 29, 30, 31, 32, 33, 34, 35, 36, 37, 38, 39, 40, 41, 42, 43, 44, 45, 46, 47, 48, 49, 50, 51, 52, 53, 54, 55, 56, 57, 58, 59, 60, 61, 62, 63, 64, 65, 66, 67, 68, 69, 70, 71, 72, 73, 74, 75, 76, 77, 78, 79, 80, 81, 82, 83, 84, 85, 86, 87, 88, 89, 90, 91, 92, 93, 94, 95, 96, 97, 98, 99, 100, 101, 102, 103, 104, 105, 106, 107, 108, 109, 110, 111, 112, 113, 114, 115, 116, 117, 118, 119, 120, 121, 122, 123, 124, 125, 126, 127, 128, 129, 130, 131, 132, 133, 134, 135, 136, 137, 138, 139, 140, 141, 142, 143, 144, 145] (by decide +kernel) (by decide +kernel)
set_option maxRecDepth 20000 in
theorem gX5_bears_X5_tag : GoodIn wsX5_bears (wsV RX5 206 RX5 yX5_tag wsX5_tag) := goodIn_app (goodIn_of _ (by decide +kernel)) ggX5_bears_X5_tag
theorem dX5_bears_0 : decode cX5_bears 0 = .ok (.aload_n 0, 1) := by decide +kernel
theorem dX5_bears_1 : decode cX5_bears 1 = .ok (.iload_n 2, 1) := by decide +kernel
theorem dX5_bears_2 : decode cX5_bears 2 = .ok (.iload_n 1, 1) := by decide +kernel
theorem dX5_bears_3 : decode cX5_bears 3 = .ok (.invokevirtual 206, 3) := by decide +kernel
theorem dX5_bears_6 : decode cX5_bears 6 = .ok (.iconst 1, 1) := by decide +kernel
theorem dX5_bears_7 : decode cX5_bears 7 = .ok (.istore_n 3, 1) := by decide +kernel
theorem dX5_bears_8 : decode cX5_bears 8 = .ok (.iconst 0, 1) := by decide +kernel
theorem dX5_bears_9 : decode cX5_bears 9 = .ok (.istore 4, 2) := by decide +kernel
theorem dX5_bears_11 : decode cX5_bears 11 = .ok (.iload 4, 2) := by decide +kernel
theorem dX5_bears_13 : decode cX5_bears 13 = .ok (.bipush 8, 2) := by decide +kernel
theorem dX5_bears_15 : decode cX5_bears 15 = .ok (.if_icmp .ge 59, 3) := by decide +kernel
theorem dX5_bears_18 : decode cX5_bears 18 = .ok (.aload_n 0, 1) := by decide +kernel
theorem dX5_bears_19 : decode cX5_bears 19 = .ok (.getfield 37, 3) := by decide +kernel
theorem dX5_bears_22 : decode cX5_bears 22 = .ok (.iload 4, 2) := by decide +kernel
theorem dX5_bears_24 : decode cX5_bears 24 = .ok (.aload_n 0, 1) := by decide +kernel
theorem dX5_bears_25 : decode cX5_bears 25 = .ok (.getfield 7, 3) := by decide +kernel
theorem dX5_bears_28 : decode cX5_bears 28 = .ok (.iload_n 1, 1) := by decide +kernel
theorem dX5_bears_29 : decode cX5_bears 29 = .ok (.iconst 2, 1) := by decide +kernel
theorem dX5_bears_30 : decode cX5_bears 30 = .ok (.iadd, 1) := by decide +kernel
theorem dX5_bears_31 : decode cX5_bears 31 = .ok (.aload_n 0, 1) := by decide +kernel
theorem dX5_bears_32 : decode cX5_bears 32 = .ok (.getfield 222, 3) := by decide +kernel
theorem dX5_bears_35 : decode cX5_bears 35 = .ok (.iadd, 1) := by decide +kernel
theorem dX5_bears_36 : decode cX5_bears 36 = .ok (.iload 4, 2) := by decide +kernel
theorem dX5_bears_38 : decode cX5_bears 38 = .ok (.iadd, 1) := by decide +kernel
theorem dX5_bears_39 : decode cX5_bears 39 = .ok (.iaload, 1) := by decide +kernel
theorem dX5_bears_40 : decode cX5_bears 40 = .ok (.iastore, 1) := by decide +kernel
theorem dX5_bears_41 : decode cX5_bears 41 = .ok (.iload_n 3, 1) := by decide +kernel
theorem dX5_bears_42 : decode cX5_bears 42 = .ok (.ifCond .eq 24, 3) := by decide +kernel
theorem dX5_bears_45 : decode cX5_bears 45 = .ok (.aload_n 0, 1) := by decide +kernel
theorem dX5_bears_46 : decode cX5_bears 46 = .ok (.getfield 37, 3) := by decide +kernel
theorem dX5_bears_49 : decode cX5_bears 49 = .ok (.iload 4, 2) := by decide +kernel
theorem dX5_bears_51 : decode cX5_bears 51 = .ok (.iaload, 1) := by decide +kernel
theorem dX5_bears_52 : decode cX5_bears 52 = .ok (.aload_n 0, 1) := by decide +kernel
theorem dX5_bears_53 : decode cX5_bears 53 = .ok (.getfield 31, 3) := by decide +kernel
theorem dX5_bears_56 : decode cX5_bears 56 = .ok (.iload 4, 2) := by decide +kernel
theorem dX5_bears_58 : decode cX5_bears 58 = .ok (.iaload, 1) := by decide +kernel
theorem dX5_bears_59 : decode cX5_bears 59 = .ok (.if_icmp .ne 7, 3) := by decide +kernel
theorem dX5_bears_62 : decode cX5_bears 62 = .ok (.iconst 1, 1) := by decide +kernel
theorem dX5_bears_63 : decode cX5_bears 63 = .ok (.goto 4, 3) := by decide +kernel
theorem dX5_bears_66 : decode cX5_bears 66 = .ok (.iconst 0, 1) := by decide +kernel
theorem dX5_bears_67 : decode cX5_bears 67 = .ok (.istore_n 3, 1) := by decide +kernel
theorem dX5_bears_68 : decode cX5_bears 68 = .ok (.iinc 4 1, 3) := by decide +kernel
theorem dX5_bears_71 : decode cX5_bears 71 = .ok (.goto (-60), 3) := by decide +kernel
theorem dX5_bears_74 : decode cX5_bears 74 = .ok (.iload_n 3, 1) := by decide +kernel
theorem dX5_bears_75 : decode cX5_bears 75 = .ok (.ireturn, 1) := by decide +kernel
set_option maxRecDepth 20000 in
theorem ggX5_verify_X5_forget : GoodIn wsX5_verify wsX5_forget := goodIn_r _ [22, 2, 16, 17, 11, 13, 14, 148, 149, 150, 151, 152, 153, 154, 155, 156, 157, 158, 159, 160, 161, 162, 163, 164, 165, 166, 167, 168, 169, 170, 171, 172, 173, 174, 175, 176, 177] (by decide +kernel) (by decide +kernel)
set_option maxRecDepth 20000 in
theorem gX5_verify_X5_forget : GoodIn wsX5_verify (wsV RX5 49 RX5 yX5_forget wsX5_forget) := goodIn_app (goodIn_of _ (by decide +kernel)) ggX5_verify_X5_forget
set_option maxRecDepth 20000 in
theorem ggX5_verify_X5_byteOf : GoodIn wsX5_verify wsX5_byteOf := goodIn_r _ [25] (by decide +kernel) (by decide +kernel)
set_option maxRecDepth 20000 in
theorem gX5_verify_X5_byteOf : GoodIn wsX5_verify (va_wsS RX5 195 yX5_byteOf wsX5_byteOf) := goodIn_app (goodIn_of _ (by decide +kernel)) ggX5_verify_X5_byteOf
set_option maxRecDepth 20000 in
theorem ggX5_verify_X5_look : GoodIn wsX5_verify wsX5_look := goodIn_r _ [29, 5, 7, 8, 15, 9, 148, 149, 150, 151, 152, 153, 154, 155, 156, 157, 158, 159, 160, 161, 162, 163, 164, 165, 166, 167, 168, 169, 170, 171, 172, 173, 174, 175, 176, 177] (by decide +kernel) (by decide +kernel)
set_option maxRecDepth 20000 in
theorem gX5_verify_X5_look : GoodIn wsX5_verify (wsV RX5 228 RX5 yX5_look wsX5_look) := goodIn_app (goodIn_of _ (by decide +kernel)) ggX5_verify_X5_look
set_option maxRecDepth 20000 in
theorem ggX5_verify_X5_step : GoodIn wsX5_verify wsX5_step := goodIn_r _ [33, 3, 34, 35, 36, 37, 21, 38, 39, 40, 41, 42, 43, 44, 45, 46, 47, 48, 49, 50, 51, 52, 53, 54, 55, 56, 57, 58, 59, 60, 61, 62, 63, 64, 65, 66, 67, 68, 69, 70, 71, 72, 73, 74, 75, 76, 77, 78, 79, 80, 81, 82, 83, 84, 85, 86, 87, 88, 89, 90, 91, 92, 93, 94, 95, 96, 97, 98, 99, 100, 101, 102, 103, 104, 105, 106, 107, 108, 109, 110, 111, 112, 113, 114, 115, 116, 117, 118, 119, 120, 121, 122, 123, 124, 125, 126, 127, 128, 129, 130, 131, 132, 133, 134, 135, 148, 149, 150, 151, 152, 153, 154, 155, 156, 157, 158, 159, 160, 161, 162, 163, 164, 165, 166, 167, 168, 169, 170, 171, 172, 173, 174, 175, 176, 177] (by decide +kernel) (by decide +kernel)
set_option maxRecDepth 20000 in
theorem gX5_verify_X5_step : GoodIn wsX5_verify (wsV RX5 210 RX5 yX5_step wsX5_step) := goodIn_app (goodIn_of _ (by decide +kernel)) ggX5_verify_X5_step
set_option maxRecDepth 20000 in
theorem ggX5_verify_X5_bears : GoodIn wsX5_verify wsX5_bears := goodIn_r _ [139, 4, 7, 15, 34, 140, 141, 142, 21, 143, 144, 145, 146, 147, 3, 35, 36, 37, 38, 39, 40, 57, 58, 59, 60, 41, 42, 43, 44, 45, 46, 47, 48, 49, 50, 51, 52, 53, 54, 55, 56, 61, 62, 63, 64, 65, 66, 67, 68, 69, 70, 71, 72, 73, 74, 75, 76, 77, 78, 79, 80, 81, 82, 83, 84, 85, 86, 87, 88, 89, 90, 91, 92, 93, 94, 95, 96, 97, 98, 99, 100, 101, 102, 103, 104, 105, 106, 107, 108, 109, 110, 111, 112, 113, 114, 115, 116, 117, 118, 119, 120, 121, 122, 123, 124, 125, 126, 127, 128, 129, 130, 131, 132, 133, 134, 135, 148, 149, 150, 151, 152, 153, 154, 155, 156, 157, 158, 159, 160, 161, 162, 163, 164, 165, 166, 167, 168, 169, 170, 171, 172, 173, 174, 175, 176, 177] (by decide +kernel) (by decide +kernel)
set_option maxRecDepth 20000 in
theorem gX5_verify_X5_bears : GoodIn wsX5_verify (wsV RX5 231 RX5 yX5_bears wsX5_bears) := goodIn_app (goodIn_of _ (by decide +kernel)) ggX5_verify_X5_bears
theorem dX5_verify_0 : decode cX5_verify 0 = .ok (.aload_n 0, 1) := by decide +kernel
theorem dX5_verify_1 : decode cX5_verify 1 = .ok (.iconst 0, 1) := by decide +kernel
theorem dX5_verify_2 : decode cX5_verify 2 = .ok (.putfield 56, 3) := by decide +kernel
theorem dX5_verify_5 : decode cX5_verify 5 = .ok (.aload_n 0, 1) := by decide +kernel
theorem dX5_verify_6 : decode cX5_verify 6 = .ok (.invokevirtual 49, 3) := by decide +kernel
theorem dX5_verify_9 : decode cX5_verify 9 = .ok (.aload_n 0, 1) := by decide +kernel
theorem dX5_verify_10 : decode cX5_verify 10 = .ok (.iconst 1, 1) := by decide +kernel
theorem dX5_verify_11 : decode cX5_verify 11 = .ok (.putfield 60, 3) := by decide +kernel
theorem dX5_verify_14 : decode cX5_verify 14 = .ok (.iconst 0, 1) := by decide +kernel
theorem dX5_verify_15 : decode cX5_verify 15 = .ok (.istore 5, 2) := by decide +kernel
theorem dX5_verify_17 : decode cX5_verify 17 = .ok (.iload 5, 2) := by decide +kernel
theorem dX5_verify_19 : decode cX5_verify 19 = .ok (.bipush 16, 2) := by decide +kernel
theorem dX5_verify_21 : decode cX5_verify 21 = .ok (.if_icmp .ge 26, 3) := by decide +kernel
theorem dX5_verify_24 : decode cX5_verify 24 = .ok (.aload_n 0, 1) := by decide +kernel
theorem dX5_verify_25 : decode cX5_verify 25 = .ok (.getfield 34, 3) := by decide +kernel
theorem dX5_verify_28 : decode cX5_verify 28 = .ok (.iload 5, 2) := by decide +kernel
theorem dX5_verify_30 : decode cX5_verify 30 = .ok (.iload 5, 2) := by decide +kernel
theorem dX5_verify_32 : decode cX5_verify 32 = .ok (.iload_n 1, 1) := by decide +kernel
theorem dX5_verify_33 : decode cX5_verify 33 = .ok (.iload_n 2, 1) := by decide +kernel
theorem dX5_verify_34 : decode cX5_verify 34 = .ok (.iload_n 3, 1) := by decide +kernel
theorem dX5_verify_35 : decode cX5_verify 35 = .ok (.iload 4, 2) := by decide +kernel
theorem dX5_verify_37 : decode cX5_verify 37 = .ok (.invokestatic 195, 3) := by decide +kernel
theorem dX5_verify_40 : decode cX5_verify 40 = .ok (.iastore, 1) := by decide +kernel
theorem dX5_verify_41 : decode cX5_verify 41 = .ok (.iinc 5 1, 3) := by decide +kernel
theorem dX5_verify_44 : decode cX5_verify 44 = .ok (.goto (-27), 3) := by decide +kernel
theorem dX5_verify_47 : decode cX5_verify 47 = .ok (.iconst 0, 1) := by decide +kernel
theorem dX5_verify_48 : decode cX5_verify 48 = .ok (.istore 5, 2) := by decide +kernel
theorem dX5_verify_50 : decode cX5_verify 50 = .ok (.iload 5, 2) := by decide +kernel
theorem dX5_verify_52 : decode cX5_verify 52 = .ok (.bipush 8, 2) := by decide +kernel
theorem dX5_verify_54 : decode cX5_verify 54 = .ok (.if_icmp .ge 17, 3) := by decide +kernel
theorem dX5_verify_57 : decode cX5_verify 57 = .ok (.aload_n 0, 1) := by decide +kernel
theorem dX5_verify_58 : decode cX5_verify 58 = .ok (.getfield 37, 3) := by decide +kernel
theorem dX5_verify_61 : decode cX5_verify 61 = .ok (.iload 5, 2) := by decide +kernel
theorem dX5_verify_63 : decode cX5_verify 63 = .ok (.iconst 0, 1) := by decide +kernel
theorem dX5_verify_64 : decode cX5_verify 64 = .ok (.iastore, 1) := by decide +kernel
theorem dX5_verify_65 : decode cX5_verify 65 = .ok (.iinc 5 1, 3) := by decide +kernel
theorem dX5_verify_68 : decode cX5_verify 68 = .ok (.goto (-18), 3) := by decide +kernel
theorem dX5_verify_71 : decode cX5_verify 71 = .ok (.iconst 0, 1) := by decide +kernel
theorem dX5_verify_72 : decode cX5_verify 72 = .ok (.istore 5, 2) := by decide +kernel
theorem dX5_verify_74 : decode cX5_verify 74 = .ok (.iload 5, 2) := by decide +kernel
theorem dX5_verify_76 : decode cX5_verify 76 = .ok (.aload_n 0, 1) := by decide +kernel
theorem dX5_verify_77 : decode cX5_verify 77 = .ok (.getfield 180, 3) := by decide +kernel
theorem dX5_verify_80 : decode cX5_verify 80 = .ok (.if_icmp .ge 23, 3) := by decide +kernel
theorem dX5_verify_83 : decode cX5_verify 83 = .ok (.aload_n 0, 1) := by decide +kernel
theorem dX5_verify_84 : decode cX5_verify 84 = .ok (.getfield 40, 3) := by decide +kernel
theorem dX5_verify_87 : decode cX5_verify 87 = .ok (.iload 5, 2) := by decide +kernel
theorem dX5_verify_89 : decode cX5_verify 89 = .ok (.aload_n 0, 1) := by decide +kernel
theorem dX5_verify_90 : decode cX5_verify 90 = .ok (.getfield 7, 3) := by decide +kernel
theorem dX5_verify_93 : decode cX5_verify 93 = .ok (.iload 5, 2) := by decide +kernel
theorem dX5_verify_95 : decode cX5_verify 95 = .ok (.iaload, 1) := by decide +kernel
theorem dX5_verify_96 : decode cX5_verify 96 = .ok (.iastore, 1) := by decide +kernel
theorem dX5_verify_97 : decode cX5_verify 97 = .ok (.iinc 5 1, 3) := by decide +kernel
theorem dX5_verify_100 : decode cX5_verify 100 = .ok (.goto (-26), 3) := by decide +kernel
theorem dX5_verify_103 : decode cX5_verify 103 = .ok (.iconst 0, 1) := by decide +kernel
theorem dX5_verify_104 : decode cX5_verify 104 = .ok (.istore 5, 2) := by decide +kernel
theorem dX5_verify_106 : decode cX5_verify 106 = .ok (.iconst 0, 1) := by decide +kernel
theorem dX5_verify_107 : decode cX5_verify 107 = .ok (.istore 6, 2) := by decide +kernel
theorem dX5_verify_109 : decode cX5_verify 109 = .ok (.iconst 1, 1) := by decide +kernel
theorem dX5_verify_110 : decode cX5_verify 110 = .ok (.istore 7, 2) := by decide +kernel
theorem dX5_verify_112 : decode cX5_verify 112 = .ok (.iload 7, 2) := by decide +kernel
theorem dX5_verify_114 : decode cX5_verify 114 = .ok (.ifCond .eq 189, 3) := by decide +kernel
theorem dX5_verify_117 : decode cX5_verify 117 = .ok (.iload 5, 2) := by decide +kernel
theorem dX5_verify_119 : decode cX5_verify 119 = .ok (.aload_n 0, 1) := by decide +kernel
theorem dX5_verify_120 : decode cX5_verify 120 = .ok (.getfield 180, 3) := by decide +kernel
theorem dX5_verify_123 : decode cX5_verify 123 = .ok (.if_icmp .ge 180, 3) := by decide +kernel
theorem dX5_verify_126 : decode cX5_verify 126 = .ok (.aload_n 0, 1) := by decide +kernel
theorem dX5_verify_127 : decode cX5_verify 127 = .ok (.iload 5, 2) := by decide +kernel
theorem dX5_verify_129 : decode cX5_verify 129 = .ok (.invokevirtual 228, 3) := by decide +kernel
theorem dX5_verify_132 : decode cX5_verify 132 = .ok (.ifCond .eq 33, 3) := by decide +kernel
theorem dX5_verify_135 : decode cX5_verify 135 = .ok (.aload_n 0, 1) := by decide +kernel
theorem dX5_verify_136 : decode cX5_verify 136 = .ok (.getfield 219, 3) := by decide +kernel
theorem dX5_verify_139 : decode cX5_verify 139 = .ok (.iconst 3, 1) := by decide +kernel
theorem dX5_verify_140 : decode cX5_verify 140 = .ok (.if_icmp .ne 21, 3) := by decide +kernel
theorem dX5_verify_143 : decode cX5_verify 143 = .ok (.aload_n 0, 1) := by decide +kernel
theorem dX5_verify_144 : decode cX5_verify 144 = .ok (.getfield 225, 3) := by decide +kernel
theorem dX5_verify_147 : decode cX5_verify 147 = .ok (.iconst 1, 1) := by decide +kernel
theorem dX5_verify_148 : decode cX5_verify 148 = .ok (.if_icmp .lt 17, 3) := by decide +kernel
theorem dX5_verify_151 : decode cX5_verify 151 = .ok (.aload_n 0, 1) := by decide +kernel
theorem dX5_verify_152 : decode cX5_verify 152 = .ok (.getfield 225, 3) := by decide +kernel
theorem dX5_verify_155 : decode cX5_verify 155 = .ok (.sipush 1000, 3) := by decide +kernel
theorem dX5_verify_158 : decode cX5_verify 158 = .ok (.if_icmp .gt 7, 3) := by decide +kernel
theorem dX5_verify_161 : decode cX5_verify 161 = .ok (.iconst 1, 1) := by decide +kernel
theorem dX5_verify_162 : decode cX5_verify 162 = .ok (.goto 4, 3) := by decide +kernel
theorem dX5_verify_165 : decode cX5_verify 165 = .ok (.iconst 0, 1) := by decide +kernel
theorem dX5_verify_166 : decode cX5_verify 166 = .ok (.istore 7, 2) := by decide +kernel
theorem dX5_verify_168 : decode cX5_verify 168 = .ok (.iload 7, 2) := by decide +kernel
theorem dX5_verify_170 : decode cX5_verify 170 = .ok (.ifCond .eq 44, 3) := by decide +kernel
theorem dX5_verify_173 : decode cX5_verify 173 = .ok (.iconst 0, 1) := by decide +kernel
theorem dX5_verify_174 : decode cX5_verify 174 = .ok (.istore 8, 2) := by decide +kernel
theorem dX5_verify_176 : decode cX5_verify 176 = .ok (.iload 8, 2) := by decide +kernel
theorem dX5_verify_178 : decode cX5_verify 178 = .ok (.aload_n 0, 1) := by decide +kernel
theorem dX5_verify_179 : decode cX5_verify 179 = .ok (.getfield 225, 3) := by decide +kernel
theorem dX5_verify_182 : decode cX5_verify 182 = .ok (.if_icmp .ge 13, 3) := by decide +kernel
theorem dX5_verify_185 : decode cX5_verify 185 = .ok (.aload_n 0, 1) := by decide +kernel
theorem dX5_verify_186 : decode cX5_verify 186 = .ok (.invokevirtual 210, 3) := by decide +kernel
theorem dX5_verify_189 : decode cX5_verify 189 = .ok (.iinc 8 1, 3) := by decide +kernel
theorem dX5_verify_192 : decode cX5_verify 192 = .ok (.goto (-16), 3) := by decide +kernel
theorem dX5_verify_195 : decode cX5_verify 195 = .ok (.iload 6, 2) := by decide +kernel
theorem dX5_verify_197 : decode cX5_verify 197 = .ok (.aload_n 0, 1) := by decide +kernel
theorem dX5_verify_198 : decode cX5_verify 198 = .ok (.getfield 225, 3) := by decide +kernel
theorem dX5_verify_201 : decode cX5_verify 201 = .ok (.iadd, 1) := by decide +kernel
theorem dX5_verify_202 : decode cX5_verify 202 = .ok (.istore 6, 2) := by decide +kernel
theorem dX5_verify_204 : decode cX5_verify 204 = .ok (.aload_n 0, 1) := by decide +kernel
theorem dX5_verify_205 : decode cX5_verify 205 = .ok (.iload 5, 2) := by decide +kernel
theorem dX5_verify_207 : decode cX5_verify 207 = .ok (.iload 6, 2) := by decide +kernel
theorem dX5_verify_209 : decode cX5_verify 209 = .ok (.invokevirtual 231, 3) := by decide +kernel
theorem dX5_verify_212 : decode cX5_verify 212 = .ok (.istore 7, 2) := by decide +kernel
theorem dX5_verify_214 : decode cX5_verify 214 = .ok (.iload 7, 2) := by decide +kernel
theorem dX5_verify_216 : decode cX5_verify 216 = .ok (.ifCond .eq (-104), 3) := by decide +kernel
theorem dX5_verify_219 : decode cX5_verify 219 = .ok (.aload_n 0, 1) := by decide +kernel
theorem dX5_verify_220 : decode cX5_verify 220 = .ok (.getfield 43, 3) := by decide +kernel
theorem dX5_verify_223 : decode cX5_verify 223 = .ok (.aload_n 0, 1) := by decide +kernel
theorem dX5_verify_224 : decode cX5_verify 224 = .ok (.getfield 69, 3) := by decide +kernel
theorem dX5_verify_227 : decode cX5_verify 227 = .ok (.iload 5, 2) := by decide +kernel
theorem dX5_verify_229 : decode cX5_verify 229 = .ok (.iastore, 1) := by decide +kernel
theorem dX5_verify_230 : decode cX5_verify 230 = .ok (.aload_n 0, 1) := by decide +kernel
theorem dX5_verify_231 : decode cX5_verify 231 = .ok (.getfield 46, 3) := by decide +kernel
theorem dX5_verify_234 : decode cX5_verify 234 = .ok (.aload_n 0, 1) := by decide +kernel
theorem dX5_verify_235 : decode cX5_verify 235 = .ok (.getfield 69, 3) := by decide +kernel
theorem dX5_verify_238 : decode cX5_verify 238 = .ok (.iload 6, 2) := by decide +kernel
theorem dX5_verify_240 : decode cX5_verify 240 = .ok (.iastore, 1) := by decide +kernel
theorem dX5_verify_241 : decode cX5_verify 241 = .ok (.aload_n 0, 1) := by decide +kernel
theorem dX5_verify_242 : decode cX5_verify 242 = .ok (.dup, 1) := by decide +kernel
theorem dX5_verify_243 : decode cX5_verify 243 = .ok (.getfield 69, 3) := by decide +kernel
theorem dX5_verify_246 : decode cX5_verify 246 = .ok (.iconst 1, 1) := by decide +kernel
theorem dX5_verify_247 : decode cX5_verify 247 = .ok (.iadd, 1) := by decide +kernel
theorem dX5_verify_248 : decode cX5_verify 248 = .ok (.putfield 69, 3) := by decide +kernel
theorem dX5_verify_251 : decode cX5_verify 251 = .ok (.aload_n 0, 1) := by decide +kernel
theorem dX5_verify_252 : decode cX5_verify 252 = .ok (.aload_n 0, 1) := by decide +kernel
theorem dX5_verify_253 : decode cX5_verify 253 = .ok (.getfield 72, 3) := by decide +kernel
theorem dX5_verify_256 : decode cX5_verify 256 = .ok (.aload_n 0, 1) := by decide +kernel
theorem dX5_verify_257 : decode cX5_verify 257 = .ok (.getfield 225, 3) := by decide +kernel
theorem dX5_verify_260 : decode cX5_verify 260 = .ok (.iadd, 1) := by decide +kernel
theorem dX5_verify_261 : decode cX5_verify 261 = .ok (.putfield 72, 3) := by decide +kernel
theorem dX5_verify_264 : decode cX5_verify 264 = .ok (.aload_n 0, 1) := by decide +kernel
theorem dX5_verify_265 : decode cX5_verify 265 = .ok (.aload_n 0, 1) := by decide +kernel
theorem dX5_verify_266 : decode cX5_verify 266 = .ok (.getfield 219, 3) := by decide +kernel
theorem dX5_verify_269 : decode cX5_verify 269 = .ok (.iconst 2, 1) := by decide +kernel
theorem dX5_verify_270 : decode cX5_verify 270 = .ok (.if_icmp .ne 7, 3) := by decide +kernel
theorem dX5_verify_273 : decode cX5_verify 273 = .ok (.iconst 1, 1) := by decide +kernel
theorem dX5_verify_274 : decode cX5_verify 274 = .ok (.goto 4, 3) := by decide +kernel
theorem dX5_verify_277 : decode cX5_verify 277 = .ok (.iconst 0, 1) := by decide +kernel
theorem dX5_verify_278 : decode cX5_verify 278 = .ok (.putfield 75, 3) := by decide +kernel
theorem dX5_verify_281 : decode cX5_verify 281 = .ok (.iload 5, 2) := by decide +kernel
theorem dX5_verify_283 : decode cX5_verify 283 = .ok (.bipush 10, 2) := by decide +kernel
theorem dX5_verify_285 : decode cX5_verify 285 = .ok (.iadd, 1) := by decide +kernel
theorem dX5_verify_286 : decode cX5_verify 286 = .ok (.aload_n 0, 1) := by decide +kernel
theorem dX5_verify_287 : decode cX5_verify 287 = .ok (.getfield 222, 3) := by decide +kernel
theorem dX5_verify_290 : decode cX5_verify 290 = .ok (.iadd, 1) := by decide +kernel
theorem dX5_verify_291 : decode cX5_verify 291 = .ok (.istore 5, 2) := by decide +kernel
theorem dX5_verify_293 : decode cX5_verify 293 = .ok (.iinc 6 1, 3) := by decide +kernel
theorem dX5_verify_296 : decode cX5_verify 296 = .ok (.aload_n 0, 1) := by decide +kernel
theorem dX5_verify_297 : decode cX5_verify 297 = .ok (.invokevirtual 210, 3) := by decide +kernel
theorem dX5_verify_300 : decode cX5_verify 300 = .ok (.goto (-188), 3) := by decide +kernel
theorem dX5_verify_303 : decode cX5_verify 303 = .ok (.iload 7, 2) := by decide +kernel
theorem dX5_verify_305 : decode cX5_verify 305 = .ok (.ifCond .ne 20, 3) := by decide +kernel
theorem dX5_verify_308 : decode cX5_verify 308 = .ok (.aload_n 0, 1) := by decide +kernel
theorem dX5_verify_309 : decode cX5_verify 309 = .ok (.aload_n 0, 1) := by decide +kernel
theorem dX5_verify_310 : decode cX5_verify 310 = .ok (.getfield 69, 3) := by decide +kernel
theorem dX5_verify_313 : decode cX5_verify 313 = .ok (.putfield 63, 3) := by decide +kernel
theorem dX5_verify_316 : decode cX5_verify 316 = .ok (.aload_n 0, 1) := by decide +kernel
theorem dX5_verify_317 : decode cX5_verify 317 = .ok (.iload 5, 2) := by decide +kernel
theorem dX5_verify_319 : decode cX5_verify 319 = .ok (.putfield 66, 3) := by decide +kernel
theorem dX5_verify_322 : decode cX5_verify 322 = .ok (.bipush (-3), 2) := by decide +kernel
theorem dX5_verify_324 : decode cX5_verify 324 = .ok (.ireturn, 1) := by decide +kernel
theorem dX5_verify_325 : decode cX5_verify 325 = .ok (.aload_n 0, 1) := by decide +kernel
theorem dX5_verify_326 : decode cX5_verify 326 = .ok (.getfield 69, 3) := by decide +kernel
theorem dX5_verify_329 : decode cX5_verify 329 = .ok (.ireturn, 1) := by decide +kernel
set_option maxRecDepth 20000 in
theorem ggX5_told_X5_refused : GoodIn wsX5_told wsX5_refused := goodIn_r _ [11, 12, 13, 14, 15, 16, 17, 18, 19, 20, 21, 22, 23, 24, 25, 26, 27, 28, 29, 30, 31, 32, 33, 34, 35, 36, 37, 38, 39, 40, 41, 42] (by decide +kernel) (by decide +kernel)
set_option maxRecDepth 20000 in
theorem gX5_told_X5_refused : GoodIn wsX5_told (wsV RX5 202 RX5 yX5_refused wsX5_refused) := goodIn_app (goodIn_of _ (by decide +kernel)) ggX5_told_X5_refused
theorem dX5_told_0 : decode cX5_told 0 = .ok (.aload_n 0, 1) := by decide +kernel
theorem dX5_told_1 : decode cX5_told 1 = .ok (.iload_n 1, 1) := by decide +kernel
theorem dX5_told_2 : decode cX5_told 2 = .ok (.ifCond .lt 12, 3) := by decide +kernel
theorem dX5_told_5 : decode cX5_told 5 = .ok (.iload_n 1, 1) := by decide +kernel
theorem dX5_told_6 : decode cX5_told 6 = .ok (.iconst 4, 1) := by decide +kernel
theorem dX5_told_7 : decode cX5_told 7 = .ok (.if_icmp .gt 7, 3) := by decide +kernel
theorem dX5_told_10 : decode cX5_told 10 = .ok (.iconst 0, 1) := by decide +kernel
theorem dX5_told_11 : decode cX5_told 11 = .ok (.goto 4, 3) := by decide +kernel
theorem dX5_told_14 : decode cX5_told 14 = .ok (.iconst 1, 1) := by decide +kernel
theorem dX5_told_15 : decode cX5_told 15 = .ok (.invokevirtual 202, 3) := by decide +kernel
theorem dX5_told_18 : decode cX5_told 18 = .ok (.ifCond .eq 5, 3) := by decide +kernel
theorem dX5_told_21 : decode cX5_told 21 = .ok (.iconst 0, 1) := by decide +kernel
theorem dX5_told_22 : decode cX5_told 22 = .ok (.ireturn, 1) := by decide +kernel
theorem dX5_told_23 : decode cX5_told 23 = .ok (.aload_n 0, 1) := by decide +kernel
theorem dX5_told_24 : decode cX5_told 24 = .ok (.getfield 60, 3) := by decide +kernel
theorem dX5_told_27 : decode cX5_told 27 = .ok (.ifCond .ne 5, 3) := by decide +kernel
theorem dX5_told_30 : decode cX5_told 30 = .ok (.iconst (-1), 1) := by decide +kernel
theorem dX5_told_31 : decode cX5_told 31 = .ok (.ireturn, 1) := by decide +kernel
theorem dX5_told_32 : decode cX5_told 32 = .ok (.iload_n 1, 1) := by decide +kernel
theorem dX5_told_33 : decode cX5_told 33 = .ok (.tableswitch 59 0 3 #[31, 36, 41, 46], 31) := by decide +kernel
theorem dX5_told_64 : decode cX5_told 64 = .ok (.aload_n 0, 1) := by decide +kernel
theorem dX5_told_65 : decode cX5_told 65 = .ok (.getfield 63, 3) := by decide +kernel
theorem dX5_told_68 : decode cX5_told 68 = .ok (.ireturn, 1) := by decide +kernel
theorem dX5_told_69 : decode cX5_told 69 = .ok (.aload_n 0, 1) := by decide +kernel
theorem dX5_told_70 : decode cX5_told 70 = .ok (.getfield 66, 3) := by decide +kernel
theorem dX5_told_73 : decode cX5_told 73 = .ok (.ireturn, 1) := by decide +kernel
theorem dX5_told_74 : decode cX5_told 74 = .ok (.aload_n 0, 1) := by decide +kernel
theorem dX5_told_75 : decode cX5_told 75 = .ok (.getfield 69, 3) := by decide +kernel
theorem dX5_told_78 : decode cX5_told 78 = .ok (.ireturn, 1) := by decide +kernel
theorem dX5_told_79 : decode cX5_told 79 = .ok (.aload_n 0, 1) := by decide +kernel
theorem dX5_told_80 : decode cX5_told 80 = .ok (.getfield 75, 3) := by decide +kernel
theorem dX5_told_83 : decode cX5_told 83 = .ok (.ifCond .eq 7, 3) := by decide +kernel
theorem dX5_told_86 : decode cX5_told 86 = .ok (.iconst 1, 1) := by decide +kernel
theorem dX5_told_87 : decode cX5_told 87 = .ok (.goto 4, 3) := by decide +kernel
theorem dX5_told_90 : decode cX5_told 90 = .ok (.iconst 0, 1) := by decide +kernel
theorem dX5_told_91 : decode cX5_told 91 = .ok (.ireturn, 1) := by decide +kernel
theorem dX5_told_92 : decode cX5_told 92 = .ok (.aload_n 0, 1) := by decide +kernel
theorem dX5_told_93 : decode cX5_told 93 = .ok (.getfield 72, 3) := by decide +kernel
theorem dX5_told_96 : decode cX5_told 96 = .ok (.ireturn, 1) := by decide +kernel
set_option maxRecDepth 20000 in
theorem ggX5_record_X5_refused : GoodIn wsX5_record wsX5_refused := goodIn_r _ [9, 10, 11, 12, 13, 14, 15, 16, 17, 18, 19, 20, 21, 22, 23, 24, 25, 26, 27, 28, 29, 30, 31, 32, 33, 34, 35, 36, 37, 38, 39, 40] (by decide +kernel) (by decide +kernel)
set_option maxRecDepth 20000 in
theorem gX5_record_X5_refused : GoodIn wsX5_record (wsV RX5 202 RX5 yX5_refused wsX5_refused) := goodIn_app (goodIn_of _ (by decide +kernel)) ggX5_record_X5_refused
theorem dX5_record_0 : decode cX5_record 0 = .ok (.aload_n 0, 1) := by decide +kernel
theorem dX5_record_1 : decode cX5_record 1 = .ok (.iload_n 2, 1) := by decide +kernel
theorem dX5_record_2 : decode cX5_record 2 = .ok (.ifCond .lt 13, 3) := by decide +kernel
theorem dX5_record_5 : decode cX5_record 5 = .ok (.iload_n 2, 1) := by decide +kernel
theorem dX5_record_6 : decode cX5_record 6 = .ok (.bipush 42, 2) := by decide +kernel
theorem dX5_record_8 : decode cX5_record 8 = .ok (.if_icmp .gt 7, 3) := by decide +kernel
theorem dX5_record_11 : decode cX5_record 11 = .ok (.iconst 0, 1) := by decide +kernel
theorem dX5_record_12 : decode cX5_record 12 = .ok (.goto 4, 3) := by decide +kernel
theorem dX5_record_15 : decode cX5_record 15 = .ok (.iconst 1, 1) := by decide +kernel
theorem dX5_record_16 : decode cX5_record 16 = .ok (.invokevirtual 202, 3) := by decide +kernel
theorem dX5_record_19 : decode cX5_record 19 = .ok (.ifCond .eq 5, 3) := by decide +kernel
theorem dX5_record_22 : decode cX5_record 22 = .ok (.iconst 0, 1) := by decide +kernel
theorem dX5_record_23 : decode cX5_record 23 = .ok (.ireturn, 1) := by decide +kernel
theorem dX5_record_24 : decode cX5_record 24 = .ok (.iload_n 1, 1) := by decide +kernel
theorem dX5_record_25 : decode cX5_record 25 = .ok (.ifCond .lt 11, 3) := by decide +kernel
theorem dX5_record_28 : decode cX5_record 28 = .ok (.iload_n 1, 1) := by decide +kernel
theorem dX5_record_29 : decode cX5_record 29 = .ok (.aload_n 0, 1) := by decide +kernel
theorem dX5_record_30 : decode cX5_record 30 = .ok (.getfield 69, 3) := by decide +kernel
theorem dX5_record_33 : decode cX5_record 33 = .ok (.if_icmp .lt 5, 3) := by decide +kernel
theorem dX5_record_36 : decode cX5_record 36 = .ok (.iconst (-1), 1) := by decide +kernel
theorem dX5_record_37 : decode cX5_record 37 = .ok (.ireturn, 1) := by decide +kernel
theorem dX5_record_38 : decode cX5_record 38 = .ok (.aload_n 0, 1) := by decide +kernel
theorem dX5_record_39 : decode cX5_record 39 = .ok (.getfield 43, 3) := by decide +kernel
theorem dX5_record_42 : decode cX5_record 42 = .ok (.iload_n 1, 1) := by decide +kernel
theorem dX5_record_43 : decode cX5_record 43 = .ok (.iaload, 1) := by decide +kernel
theorem dX5_record_44 : decode cX5_record 44 = .ok (.istore_n 3, 1) := by decide +kernel
theorem dX5_record_45 : decode cX5_record 45 = .ok (.iload_n 2, 1) := by decide +kernel
theorem dX5_record_46 : decode cX5_record 46 = .ok (.iconst 1, 1) := by decide +kernel
theorem dX5_record_47 : decode cX5_record 47 = .ok (.if_icmp .ne 10, 3) := by decide +kernel
theorem dX5_record_50 : decode cX5_record 50 = .ok (.aload_n 0, 1) := by decide +kernel
theorem dX5_record_51 : decode cX5_record 51 = .ok (.getfield 46, 3) := by decide +kernel
theorem dX5_record_54 : decode cX5_record 54 = .ok (.iload_n 1, 1) := by decide +kernel
theorem dX5_record_55 : decode cX5_record 55 = .ok (.iaload, 1) := by decide +kernel
theorem dX5_record_56 : decode cX5_record 56 = .ok (.ireturn, 1) := by decide +kernel
theorem dX5_record_57 : decode cX5_record 57 = .ok (.iload_n 2, 1) := by decide +kernel
theorem dX5_record_58 : decode cX5_record 58 = .ok (.iconst 3, 1) := by decide +kernel
theorem dX5_record_59 : decode cX5_record 59 = .ok (.if_icmp .ge 20, 3) := by decide +kernel
theorem dX5_record_62 : decode cX5_record 62 = .ok (.aload_n 0, 1) := by decide +kernel
theorem dX5_record_63 : decode cX5_record 63 = .ok (.getfield 40, 3) := by decide +kernel
theorem dX5_record_66 : decode cX5_record 66 = .ok (.iload_n 2, 1) := by decide +kernel
theorem dX5_record_67 : decode cX5_record 67 = .ok (.ifCond .ne 7, 3) := by decide +kernel
theorem dX5_record_70 : decode cX5_record 70 = .ok (.iload_n 3, 1) := by decide +kernel
theorem dX5_record_71 : decode cX5_record 71 = .ok (.goto 6, 3) := by decide +kernel
theorem dX5_record_74 : decode cX5_record 74 = .ok (.iload_n 3, 1) := by decide +kernel
theorem dX5_record_75 : decode cX5_record 75 = .ok (.iconst 1, 1) := by decide +kernel
theorem dX5_record_76 : decode cX5_record 76 = .ok (.iadd, 1) := by decide +kernel
theorem dX5_record_77 : decode cX5_record 77 = .ok (.iaload, 1) := by decide +kernel
theorem dX5_record_78 : decode cX5_record 78 = .ok (.ireturn, 1) := by decide +kernel
theorem dX5_record_79 : decode cX5_record 79 = .ok (.iload_n 2, 1) := by decide +kernel
theorem dX5_record_80 : decode cX5_record 80 = .ok (.iconst 3, 1) := by decide +kernel
theorem dX5_record_81 : decode cX5_record 81 = .ok (.isub, 1) := by decide +kernel
theorem dX5_record_82 : decode cX5_record 82 = .ok (.aload_n 0, 1) := by decide +kernel
theorem dX5_record_83 : decode cX5_record 83 = .ok (.getfield 40, 3) := by decide +kernel
theorem dX5_record_86 : decode cX5_record 86 = .ok (.iload_n 3, 1) := by decide +kernel
theorem dX5_record_87 : decode cX5_record 87 = .ok (.iconst 1, 1) := by decide +kernel
theorem dX5_record_88 : decode cX5_record 88 = .ok (.iadd, 1) := by decide +kernel
theorem dX5_record_89 : decode cX5_record 89 = .ok (.iaload, 1) := by decide +kernel
theorem dX5_record_90 : decode cX5_record 90 = .ok (.if_icmp .ge 16, 3) := by decide +kernel
theorem dX5_record_93 : decode cX5_record 93 = .ok (.aload_n 0, 1) := by decide +kernel
theorem dX5_record_94 : decode cX5_record 94 = .ok (.getfield 40, 3) := by decide +kernel
theorem dX5_record_97 : decode cX5_record 97 = .ok (.iload_n 3, 1) := by decide +kernel
theorem dX5_record_98 : decode cX5_record 98 = .ok (.iload_n 2, 1) := by decide +kernel
theorem dX5_record_99 : decode cX5_record 99 = .ok (.iadd, 1) := by decide +kernel
theorem dX5_record_100 : decode cX5_record 100 = .ok (.iconst 1, 1) := by decide +kernel
theorem dX5_record_101 : decode cX5_record 101 = .ok (.isub, 1) := by decide +kernel
theorem dX5_record_102 : decode cX5_record 102 = .ok (.iaload, 1) := by decide +kernel
theorem dX5_record_103 : decode cX5_record 103 = .ok (.goto 4, 3) := by decide +kernel
theorem dX5_record_106 : decode cX5_record 106 = .ok (.iconst (-1), 1) := by decide +kernel
theorem dX5_record_107 : decode cX5_record 107 = .ok (.ireturn, 1) := by decide +kernel
set_option maxRecDepth 20000 in
theorem ggX5_bend_X5_refused : GoodIn wsX5_bend wsX5_refused := goodIn_r _ [7, 8, 9, 10, 11, 12, 13, 14, 15, 16, 17, 18, 19, 20, 21, 22, 23, 24, 25, 26, 27, 28, 29, 30, 31, 32, 33, 34, 35, 36, 37, 38] (by decide +kernel) (by decide +kernel)
set_option maxRecDepth 20000 in
theorem gX5_bend_X5_refused : GoodIn wsX5_bend (wsV RX5 202 RX5 yX5_refused wsX5_refused) := goodIn_app (goodIn_of _ (by decide +kernel)) ggX5_bend_X5_refused
theorem dX5_bend_0 : decode cX5_bend 0 = .ok (.aload_n 0, 1) := by decide +kernel
theorem dX5_bend_1 : decode cX5_bend 1 = .ok (.iload_n 1, 1) := by decide +kernel
theorem dX5_bend_2 : decode cX5_bend 2 = .ok (.ifCond .lt 11, 3) := by decide +kernel
theorem dX5_bend_5 : decode cX5_bend 5 = .ok (.iload_n 1, 1) := by decide +kernel
theorem dX5_bend_6 : decode cX5_bend 6 = .ok (.aload_n 0, 1) := by decide +kernel
theorem dX5_bend_7 : decode cX5_bend 7 = .ok (.getfield 180, 3) := by decide +kernel
theorem dX5_bend_10 : decode cX5_bend 10 = .ok (.if_icmp .lt 7, 3) := by decide +kernel
theorem dX5_bend_13 : decode cX5_bend 13 = .ok (.iconst 1, 1) := by decide +kernel
theorem dX5_bend_14 : decode cX5_bend 14 = .ok (.goto 18, 3) := by decide +kernel
theorem dX5_bend_17 : decode cX5_bend 17 = .ok (.iload_n 2, 1) := by decide +kernel
theorem dX5_bend_18 : decode cX5_bend 18 = .ok (.ifCond .lt 9, 3) := by decide +kernel
theorem dX5_bend_21 : decode cX5_bend 21 = .ok (.iload_n 2, 1) := by decide +kernel
theorem dX5_bend_22 : decode cX5_bend 22 = .ok (.bipush 7, 2) := by decide +kernel
theorem dX5_bend_24 : decode cX5_bend 24 = .ok (.if_icmp .le 7, 3) := by decide +kernel
theorem dX5_bend_27 : decode cX5_bend 27 = .ok (.iconst 2, 1) := by decide +kernel
theorem dX5_bend_28 : decode cX5_bend 28 = .ok (.goto 4, 3) := by decide +kernel
theorem dX5_bend_31 : decode cX5_bend 31 = .ok (.iconst 0, 1) := by decide +kernel
theorem dX5_bend_32 : decode cX5_bend 32 = .ok (.invokevirtual 202, 3) := by decide +kernel
theorem dX5_bend_35 : decode cX5_bend 35 = .ok (.ifCond .eq 5, 3) := by decide +kernel
theorem dX5_bend_38 : decode cX5_bend 38 = .ok (.iconst 0, 1) := by decide +kernel
theorem dX5_bend_39 : decode cX5_bend 39 = .ok (.ireturn, 1) := by decide +kernel
theorem dX5_bend_40 : decode cX5_bend 40 = .ok (.aload_n 0, 1) := by decide +kernel
theorem dX5_bend_41 : decode cX5_bend 41 = .ok (.getfield 7, 3) := by decide +kernel
theorem dX5_bend_44 : decode cX5_bend 44 = .ok (.iload_n 1, 1) := by decide +kernel
theorem dX5_bend_45 : decode cX5_bend 45 = .ok (.aload_n 0, 1) := by decide +kernel
theorem dX5_bend_46 : decode cX5_bend 46 = .ok (.getfield 7, 3) := by decide +kernel
theorem dX5_bend_49 : decode cX5_bend 49 = .ok (.iload_n 1, 1) := by decide +kernel
theorem dX5_bend_50 : decode cX5_bend 50 = .ok (.iaload, 1) := by decide +kernel
theorem dX5_bend_51 : decode cX5_bend 51 = .ok (.iconst 1, 1) := by decide +kernel
theorem dX5_bend_52 : decode cX5_bend 52 = .ok (.iload_n 2, 1) := by decide +kernel
theorem dX5_bend_53 : decode cX5_bend 53 = .ok (.ishl, 1) := by decide +kernel
theorem dX5_bend_54 : decode cX5_bend 54 = .ok (.ixor, 1) := by decide +kernel
theorem dX5_bend_55 : decode cX5_bend 55 = .ok (.iastore, 1) := by decide +kernel
theorem dX5_bend_56 : decode cX5_bend 56 = .ok (.aload_n 0, 1) := by decide +kernel
theorem dX5_bend_57 : decode cX5_bend 57 = .ok (.getfield 7, 3) := by decide +kernel
theorem dX5_bend_60 : decode cX5_bend 60 = .ok (.iload_n 1, 1) := by decide +kernel
theorem dX5_bend_61 : decode cX5_bend 61 = .ok (.iaload, 1) := by decide +kernel
theorem dX5_bend_62 : decode cX5_bend 62 = .ok (.ireturn, 1) := by decide +kernel
theorem dX5_octet_0 : decode cX5_octet 0 = .ok (.aload_n 0, 1) := by decide +kernel
theorem dX5_octet_1 : decode cX5_octet 1 = .ok (.iconst 0, 1) := by decide +kernel
theorem dX5_octet_2 : decode cX5_octet 2 = .ok (.putfield 56, 3) := by decide +kernel
theorem dX5_octet_5 : decode cX5_octet 5 = .ok (.iload_n 1, 1) := by decide +kernel
theorem dX5_octet_6 : decode cX5_octet 6 = .ok (.ifCond .lt 20, 3) := by decide +kernel
theorem dX5_octet_9 : decode cX5_octet 9 = .ok (.iload_n 1, 1) := by decide +kernel
theorem dX5_octet_10 : decode cX5_octet 10 = .ok (.aload_n 0, 1) := by decide +kernel
theorem dX5_octet_11 : decode cX5_octet 11 = .ok (.getfield 180, 3) := by decide +kernel
theorem dX5_octet_14 : decode cX5_octet 14 = .ok (.if_icmp .ge 12, 3) := by decide +kernel
theorem dX5_octet_17 : decode cX5_octet 17 = .ok (.aload_n 0, 1) := by decide +kernel
theorem dX5_octet_18 : decode cX5_octet 18 = .ok (.getfield 7, 3) := by decide +kernel
theorem dX5_octet_21 : decode cX5_octet 21 = .ok (.iload_n 1, 1) := by decide +kernel
theorem dX5_octet_22 : decode cX5_octet 22 = .ok (.iaload, 1) := by decide +kernel
theorem dX5_octet_23 : decode cX5_octet 23 = .ok (.goto 4, 3) := by decide +kernel
theorem dX5_octet_26 : decode cX5_octet 26 = .ok (.iconst (-1), 1) := by decide +kernel
theorem dX5_octet_27 : decode cX5_octet 27 = .ok (.ireturn, 1) := by decide +kernel
set_option maxRecDepth 20000 in
theorem ggX5_key_X5_refused : GoodIn wsX5_key wsX5_refused := goodIn_r _ [6, 7, 8, 9, 10, 11, 12, 13, 14, 15, 16, 17, 18, 19, 20, 21, 22, 23, 24, 25, 26, 27, 28, 29, 30, 31, 32, 33, 34, 35, 36, 37] (by decide +kernel) (by decide +kernel)
set_option maxRecDepth 20000 in
theorem gX5_key_X5_refused : GoodIn wsX5_key (wsV RX5 202 RX5 yX5_refused wsX5_refused) := goodIn_app (goodIn_of _ (by decide +kernel)) ggX5_key_X5_refused
theorem dX5_key_0 : decode cX5_key 0 = .ok (.aload_n 0, 1) := by decide +kernel
theorem dX5_key_1 : decode cX5_key 1 = .ok (.iload_n 1, 1) := by decide +kernel
theorem dX5_key_2 : decode cX5_key 2 = .ok (.ifCond .lt 13, 3) := by decide +kernel
theorem dX5_key_5 : decode cX5_key 5 = .ok (.iload_n 1, 1) := by decide +kernel
theorem dX5_key_6 : decode cX5_key 6 = .ok (.bipush 15, 2) := by decide +kernel
theorem dX5_key_8 : decode cX5_key 8 = .ok (.if_icmp .gt 7, 3) := by decide +kernel
theorem dX5_key_11 : decode cX5_key 11 = .ok (.iconst 0, 1) := by decide +kernel
theorem dX5_key_12 : decode cX5_key 12 = .ok (.goto 4, 3) := by decide +kernel
theorem dX5_key_15 : decode cX5_key 15 = .ok (.iconst 1, 1) := by decide +kernel
theorem dX5_key_16 : decode cX5_key 16 = .ok (.invokevirtual 202, 3) := by decide +kernel
theorem dX5_key_19 : decode cX5_key 19 = .ok (.ifCond .eq 5, 3) := by decide +kernel
theorem dX5_key_22 : decode cX5_key 22 = .ok (.iconst 0, 1) := by decide +kernel
theorem dX5_key_23 : decode cX5_key 23 = .ok (.ireturn, 1) := by decide +kernel
theorem dX5_key_24 : decode cX5_key 24 = .ok (.aload_n 0, 1) := by decide +kernel
theorem dX5_key_25 : decode cX5_key 25 = .ok (.getfield 16, 3) := by decide +kernel
theorem dX5_key_28 : decode cX5_key 28 = .ok (.iload_n 1, 1) := by decide +kernel
theorem dX5_key_29 : decode cX5_key 29 = .ok (.iaload, 1) := by decide +kernel
theorem dX5_key_30 : decode cX5_key 30 = .ok (.ireturn, 1) := by decide +kernel
set_option maxRecDepth 20000 in
theorem ggX5_count_X5_refused : GoodIn wsX5_count wsX5_refused := goodIn_r _ [11, 12, 13, 14, 15, 16, 17, 18, 19, 20, 21, 22, 23, 24, 25, 26, 27, 28, 29, 30, 31, 32, 33, 34, 35, 36, 37, 38, 39, 40, 41, 42] (by decide +kernel) (by decide +kernel)
set_option maxRecDepth 20000 in
theorem gX5_count_X5_refused : GoodIn wsX5_count (wsV RX5 202 RX5 yX5_refused wsX5_refused) := goodIn_app (goodIn_of _ (by decide +kernel)) ggX5_count_X5_refused
theorem dX5_count_0 : decode cX5_count 0 = .ok (.aload_n 0, 1) := by decide +kernel
theorem dX5_count_1 : decode cX5_count 1 = .ok (.iload_n 1, 1) := by decide +kernel
theorem dX5_count_2 : decode cX5_count 2 = .ok (.ifCond .lt 12, 3) := by decide +kernel
theorem dX5_count_5 : decode cX5_count 5 = .ok (.iload_n 1, 1) := by decide +kernel
theorem dX5_count_6 : decode cX5_count 6 = .ok (.iconst 5, 1) := by decide +kernel
theorem dX5_count_7 : decode cX5_count 7 = .ok (.if_icmp .gt 7, 3) := by decide +kernel
theorem dX5_count_10 : decode cX5_count 10 = .ok (.iconst 0, 1) := by decide +kernel
theorem dX5_count_11 : decode cX5_count 11 = .ok (.goto 4, 3) := by decide +kernel
theorem dX5_count_14 : decode cX5_count 14 = .ok (.iconst 1, 1) := by decide +kernel
theorem dX5_count_15 : decode cX5_count 15 = .ok (.invokevirtual 202, 3) := by decide +kernel
theorem dX5_count_18 : decode cX5_count 18 = .ok (.ifCond .eq 5, 3) := by decide +kernel
theorem dX5_count_21 : decode cX5_count 21 = .ok (.iconst 0, 1) := by decide +kernel
theorem dX5_count_22 : decode cX5_count 22 = .ok (.ireturn, 1) := by decide +kernel
theorem dX5_count_23 : decode cX5_count 23 = .ok (.iload_n 1, 1) := by decide +kernel
theorem dX5_count_24 : decode cX5_count 24 = .ok (.tableswitch 69 0 4 #[36, 41, 46, 51, 64], 36) := by decide +kernel
theorem dX5_count_60 : decode cX5_count 60 = .ok (.aload_n 0, 1) := by decide +kernel
theorem dX5_count_61 : decode cX5_count 61 = .ok (.getfield 180, 3) := by decide +kernel
theorem dX5_count_64 : decode cX5_count 64 = .ok (.ireturn, 1) := by decide +kernel
theorem dX5_count_65 : decode cX5_count 65 = .ok (.aload_n 0, 1) := by decide +kernel
theorem dX5_count_66 : decode cX5_count 66 = .ok (.getfield 183, 3) := by decide +kernel
theorem dX5_count_69 : decode cX5_count 69 = .ok (.ireturn, 1) := by decide +kernel
theorem dX5_count_70 : decode cX5_count 70 = .ok (.aload_n 0, 1) := by decide +kernel
theorem dX5_count_71 : decode cX5_count 71 = .ok (.getfield 186, 3) := by decide +kernel
theorem dX5_count_74 : decode cX5_count 74 = .ok (.ireturn, 1) := by decide +kernel
theorem dX5_count_75 : decode cX5_count 75 = .ok (.aload_n 0, 1) := by decide +kernel
theorem dX5_count_76 : decode cX5_count 76 = .ok (.getfield 52, 3) := by decide +kernel
theorem dX5_count_79 : decode cX5_count 79 = .ok (.ifCond .eq 7, 3) := by decide +kernel
theorem dX5_count_82 : decode cX5_count 82 = .ok (.iconst 1, 1) := by decide +kernel
theorem dX5_count_83 : decode cX5_count 83 = .ok (.goto 4, 3) := by decide +kernel
theorem dX5_count_86 : decode cX5_count 86 = .ok (.iconst 0, 1) := by decide +kernel
theorem dX5_count_87 : decode cX5_count 87 = .ok (.ireturn, 1) := by decide +kernel
theorem dX5_count_88 : decode cX5_count 88 = .ok (.aload_n 0, 1) := by decide +kernel
theorem dX5_count_89 : decode cX5_count 89 = .ok (.getfield 189, 3) := by decide +kernel
theorem dX5_count_92 : decode cX5_count 92 = .ok (.ireturn, 1) := by decide +kernel
theorem dX5_count_93 : decode cX5_count 93 = .ok (.aload_n 0, 1) := by decide +kernel
theorem dX5_count_94 : decode cX5_count 94 = .ok (.getfield 199, 3) := by decide +kernel
theorem dX5_count_97 : decode cX5_count 97 = .ok (.ireturn, 1) := by decide +kernel
theorem dJ9_max_7cf53_0 : decode cJ9_max_7cf53 0 = .ok (.iload_n 0, 1) := by decide +kernel
theorem dJ9_max_7cf53_1 : decode cJ9_max_7cf53 1 = .ok (.iload_n 1, 1) := by decide +kernel
theorem dJ9_max_7cf53_2 : decode cJ9_max_7cf53 2 = .ok (.if_icmp .lt 7, 3) := by decide +kernel
theorem dJ9_max_7cf53_5 : decode cJ9_max_7cf53 5 = .ok (.iload_n 0, 1) := by decide +kernel
theorem dJ9_max_7cf53_6 : decode cJ9_max_7cf53 6 = .ok (.goto 4, 3) := by decide +kernel
theorem dJ9_max_7cf53_9 : decode cJ9_max_7cf53 9 = .ok (.iload_n 1, 1) := by decide +kernel
theorem dJ9_max_7cf53_10 : decode cJ9_max_7cf53 10 = .ok (.ireturn, 1) := by decide +kernel
theorem dJ9_min_7cf53_0 : decode cJ9_min_7cf53 0 = .ok (.iload_n 0, 1) := by decide +kernel
theorem dJ9_min_7cf53_1 : decode cJ9_min_7cf53 1 = .ok (.iload_n 1, 1) := by decide +kernel
theorem dJ9_min_7cf53_2 : decode cJ9_min_7cf53 2 = .ok (.if_icmp .gt 7, 3) := by decide +kernel
theorem dJ9_min_7cf53_5 : decode cJ9_min_7cf53 5 = .ok (.iload_n 0, 1) := by decide +kernel
theorem dJ9_min_7cf53_6 : decode cJ9_min_7cf53 6 = .ok (.goto 4, 3) := by decide +kernel
theorem dJ9_min_7cf53_9 : decode cJ9_min_7cf53 9 = .ok (.iload_n 1, 1) := by decide +kernel
theorem dJ9_min_7cf53_10 : decode cJ9_min_7cf53 10 = .ok (.ireturn, 1) := by decide +kernel
set_option maxRecDepth 20000 in
theorem ggL_feed_X4_feed : GoodIn wsL_feed wsX4_feed := goodIn_ca (goodIn_ca (goodIn_r _ [7, 8, 9, 10, 11, 12, 13, 14, 15, 6, 16, 17, 18, 19, 20, 21, 22, 23, 24, 25, 26] (by decide +kernel) (by decide +kernel)) (goodIn_sub (fun _ h => List.mem_cons_of_mem _ (List.mem_append_left _ (List.mem_append_right _ h))) (by decide +kernel))) (goodIn_sub (fun _ h => List.mem_cons_of_mem _ (List.mem_append_right _ h)) (by decide +kernel))
set_option maxRecDepth 20000 in
theorem gL_feed_X4_feed : GoodIn wsL_feed (wsV RL 7 RX4 yX4_feed wsX4_feed) := goodIn_app (goodIn_of _ (by decide +kernel)) ggL_feed_X4_feed
theorem dL_feed_0 : decode cL_feed 0 = .ok (.aload 6, 2) := by decide +kernel
theorem dL_feed_2 : decode cL_feed 2 = .ok (.iconst 0, 1) := by decide +kernel
theorem dL_feed_3 : decode cL_feed 3 = .ok (.aload_n 0, 1) := by decide +kernel
theorem dL_feed_4 : decode cL_feed 4 = .ok (.iload_n 1, 1) := by decide +kernel
theorem dL_feed_5 : decode cL_feed 5 = .ok (.iload_n 2, 1) := by decide +kernel
theorem dL_feed_6 : decode cL_feed 6 = .ok (.iload_n 3, 1) := by decide +kernel
theorem dL_feed_7 : decode cL_feed 7 = .ok (.iload 4, 2) := by decide +kernel
theorem dL_feed_9 : decode cL_feed 9 = .ok (.iload 5, 2) := by decide +kernel
theorem dL_feed_11 : decode cL_feed 11 = .ok (.invokevirtual 7, 3) := by decide +kernel
theorem dL_feed_14 : decode cL_feed 14 = .ok (.i2l, 1) := by decide +kernel
theorem dL_feed_15 : decode cL_feed 15 = .ok (.lastore, 1) := by decide +kernel
theorem dL_feed_16 : decode cL_feed 16 = .ok (.goto 11, 3) := by decide +kernel
theorem dL_feed_19 : decode cL_feed 19 = .ok (.astore 7, 2) := by decide +kernel
theorem dL_feed_21 : decode cL_feed 21 = .ok (.iconst 1, 1) := by decide +kernel
theorem dL_feed_22 : decode cL_feed 22 = .ok (.ireturn, 1) := by decide +kernel
theorem dL_feed_23 : decode cL_feed 23 = .ok (.astore 7, 2) := by decide +kernel
theorem dL_feed_25 : decode cL_feed 25 = .ok (.iconst 2, 1) := by decide +kernel
theorem dL_feed_26 : decode cL_feed 26 = .ok (.ireturn, 1) := by decide +kernel
theorem dL_feed_27 : decode cL_feed 27 = .ok (.iconst 0, 1) := by decide +kernel
theorem dL_feed_28 : decode cL_feed 28 = .ok (.ireturn, 1) := by decide +kernel
set_option maxRecDepth 20000 in
theorem ggL_append_X4_append : GoodIn wsL_append wsX4_append := goodIn_ca (goodIn_r _ [6, 7, 8, 9, 10, 11, 12, 13, 14, 5, 15, 16, 17, 18, 19, 20, 21, 22, 23, 24, 25, 26, 27, 28, 29, 30, 31, 32, 33, 34, 35, 36, 37, 38, 39, 40, 41, 42, 43, 44, 45, 46, 47, 48, 49, 50, 51, 52, 53, 54, 55, 56, 57, 58, 59, 60, 61, 62, 63, 64, 65, 66, 67, 68, 69, 70, 71, 72, 73, 74, 75, 76, 77, 78, 79, 80, 81, 82, 83, 84, 85, 86, 87, 88, 89, 90, 91, 92, 93, 94, 95, 96, 97, 98, 99, 100, 101, 102, 103, 104, 105, 106, 107, 108, 109, 110, 111, 112] (by decide +kernel) (by decide +kernel)) (goodIn_sub (fun _ h => List.mem_cons_of_mem _ (List.mem_append_right _ h)) (by decide +kernel))
set_option maxRecDepth 20000 in
theorem gL_append_X4_append : GoodIn wsL_append (wsV RL 17 RX4 yX4_append wsX4_append) := goodIn_app (goodIn_of _ (by decide +kernel)) ggL_append_X4_append
theorem dL_append_0 : decode cL_append 0 = .ok (.aload_n 1, 1) := by decide +kernel
theorem dL_append_1 : decode cL_append 1 = .ok (.iconst 0, 1) := by decide +kernel
theorem dL_append_2 : decode cL_append 2 = .ok (.aload_n 0, 1) := by decide +kernel
theorem dL_append_3 : decode cL_append 3 = .ok (.invokevirtual 17, 3) := by decide +kernel
theorem dL_append_6 : decode cL_append 6 = .ok (.i2l, 1) := by decide +kernel
theorem dL_append_7 : decode cL_append 7 = .ok (.lastore, 1) := by decide +kernel
theorem dL_append_8 : decode cL_append 8 = .ok (.goto 6, 3) := by decide +kernel
theorem dL_append_11 : decode cL_append 11 = .ok (.astore_n 2, 1) := by decide +kernel
theorem dL_append_12 : decode cL_append 12 = .ok (.iconst 1, 1) := by decide +kernel
theorem dL_append_13 : decode cL_append 13 = .ok (.ireturn, 1) := by decide +kernel
theorem dL_append_14 : decode cL_append 14 = .ok (.iconst 0, 1) := by decide +kernel
theorem dL_append_15 : decode cL_append 15 = .ok (.ireturn, 1) := by decide +kernel
set_option maxRecDepth 20000 in
theorem ggL_seal_X4_seal : GoodIn wsL_seal wsX4_seal := goodIn_ca (goodIn_r _ [6, 7, 8, 9, 10, 11, 12, 13, 5, 14, 15, 16, 17, 18, 19, 20, 21, 22, 23, 24, 25, 26, 27, 28, 29, 30, 31, 32, 33, 34, 35, 36, 37, 38, 39, 40, 41, 42, 43, 44, 45, 46, 47, 48, 49, 50, 51, 52, 53, 54, 55, 56, 57, 58, 59, 60, 61, 62, 63, 64, 65, 66, 67, 68, 69, 70, 71, 72, 73, 74, 75, 76, 77, 78, 79, 80, 81, 82, 83, 84, 85, 86, 87, 88, 89, 90, 91, 92, 93, 94, 95, 96, 97, 98, 99, 100, 101, 102, 103, 104, 105, 106, 107, 108, 109, 110, 111] (by decide +kernel) (by decide +kernel)) (goodIn_sub (fun _ h => List.mem_cons_of_mem _ (List.mem_append_right _ h)) (by decide +kernel))
set_option maxRecDepth 20000 in
theorem gL_seal_X4_seal : GoodIn wsL_seal (wsV RL 21 RX4 yX4_seal wsX4_seal) := goodIn_app (goodIn_of _ (by decide +kernel)) ggL_seal_X4_seal
theorem dL_seal_0 : decode cL_seal 0 = .ok (.aload_n 1, 1) := by decide +kernel
theorem dL_seal_1 : decode cL_seal 1 = .ok (.iconst 0, 1) := by decide +kernel
theorem dL_seal_2 : decode cL_seal 2 = .ok (.aload_n 0, 1) := by decide +kernel
theorem dL_seal_3 : decode cL_seal 3 = .ok (.invokevirtual 21, 3) := by decide +kernel
theorem dL_seal_6 : decode cL_seal 6 = .ok (.i2l, 1) := by decide +kernel
theorem dL_seal_7 : decode cL_seal 7 = .ok (.lastore, 1) := by decide +kernel
theorem dL_seal_8 : decode cL_seal 8 = .ok (.goto 6, 3) := by decide +kernel
theorem dL_seal_11 : decode cL_seal 11 = .ok (.astore_n 2, 1) := by decide +kernel
theorem dL_seal_12 : decode cL_seal 12 = .ok (.iconst 1, 1) := by decide +kernel
theorem dL_seal_13 : decode cL_seal 13 = .ok (.ireturn, 1) := by decide +kernel
theorem dL_seal_14 : decode cL_seal 14 = .ok (.iconst 0, 1) := by decide +kernel
theorem dL_seal_15 : decode cL_seal 15 = .ok (.ireturn, 1) := by decide +kernel
set_option maxRecDepth 20000 in
theorem ggL_sync_X4_sync : GoodIn wsL_sync wsX4_sync := goodIn_ca (goodIn_r _ [6, 7, 8, 9, 10, 11, 12, 13, 14, 15, 16, 17, 18, 19, 20, 21, 22, 23, 24, 25] (by decide +kernel) (by decide +kernel)) (goodIn_sub (fun _ h => List.mem_cons_of_mem _ (List.mem_append_right _ h)) (by decide +kernel))
set_option maxRecDepth 20000 in
theorem gL_sync_X4_sync : GoodIn wsL_sync (wsV RL 24 RX4 yX4_sync wsX4_sync) := goodIn_app (goodIn_of _ (by decide +kernel)) ggL_sync_X4_sync
theorem dL_sync_0 : decode cL_sync 0 = .ok (.aload_n 1, 1) := by decide +kernel
theorem dL_sync_1 : decode cL_sync 1 = .ok (.iconst 0, 1) := by decide +kernel
theorem dL_sync_2 : decode cL_sync 2 = .ok (.aload_n 0, 1) := by decide +kernel
theorem dL_sync_3 : decode cL_sync 3 = .ok (.invokevirtual 24, 3) := by decide +kernel
theorem dL_sync_6 : decode cL_sync 6 = .ok (.i2l, 1) := by decide +kernel
theorem dL_sync_7 : decode cL_sync 7 = .ok (.lastore, 1) := by decide +kernel
theorem dL_sync_8 : decode cL_sync 8 = .ok (.goto 6, 3) := by decide +kernel
theorem dL_sync_11 : decode cL_sync 11 = .ok (.astore_n 2, 1) := by decide +kernel
theorem dL_sync_12 : decode cL_sync 12 = .ok (.iconst 1, 1) := by decide +kernel
theorem dL_sync_13 : decode cL_sync 13 = .ok (.ireturn, 1) := by decide +kernel
theorem dL_sync_14 : decode cL_sync 14 = .ok (.iconst 0, 1) := by decide +kernel
theorem dL_sync_15 : decode cL_sync 15 = .ok (.ireturn, 1) := by decide +kernel
set_option maxRecDepth 20000 in
theorem ggL_crash_X4_crash : GoodIn wsL_crash wsX4_crash := goodIn_ca (goodIn_r _ [6, 7, 8, 9, 10, 11, 12, 13, 14, 15, 16, 17, 18, 19, 20, 21, 22, 23, 24, 25, 26, 27, 28, 29, 30] (by decide +kernel) (by decide +kernel)) (goodIn_sub (fun _ h => List.mem_cons_of_mem _ (List.mem_append_right _ h)) (by decide +kernel))
set_option maxRecDepth 20000 in
theorem gL_crash_X4_crash : GoodIn wsL_crash (wsV RL 27 RX4 yX4_crash wsX4_crash) := goodIn_app (goodIn_of _ (by decide +kernel)) ggL_crash_X4_crash
theorem dL_crash_0 : decode cL_crash 0 = .ok (.aload_n 2, 1) := by decide +kernel
theorem dL_crash_1 : decode cL_crash 1 = .ok (.iconst 0, 1) := by decide +kernel
theorem dL_crash_2 : decode cL_crash 2 = .ok (.aload_n 0, 1) := by decide +kernel
theorem dL_crash_3 : decode cL_crash 3 = .ok (.iload_n 1, 1) := by decide +kernel
theorem dL_crash_4 : decode cL_crash 4 = .ok (.invokevirtual 27, 3) := by decide +kernel
theorem dL_crash_7 : decode cL_crash 7 = .ok (.i2l, 1) := by decide +kernel
theorem dL_crash_8 : decode cL_crash 8 = .ok (.lastore, 1) := by decide +kernel
theorem dL_crash_9 : decode cL_crash 9 = .ok (.goto 6, 3) := by decide +kernel
theorem dL_crash_12 : decode cL_crash 12 = .ok (.astore_n 3, 1) := by decide +kernel
theorem dL_crash_13 : decode cL_crash 13 = .ok (.iconst 1, 1) := by decide +kernel
theorem dL_crash_14 : decode cL_crash 14 = .ok (.ireturn, 1) := by decide +kernel
theorem dL_crash_15 : decode cL_crash 15 = .ok (.iconst 0, 1) := by decide +kernel
theorem dL_crash_16 : decode cL_crash 16 = .ok (.ireturn, 1) := by decide +kernel
set_option maxRecDepth 20000 in
theorem ggL_recover_X4_recover : GoodIn wsL_recover wsX4_recover := goodIn_ca (goodIn_r _ [6, 7, 8, 9, 10, 11, 12, 13, 14, 15, 16, 17, 18, 19, 20, 21, 22, 23, 24, 25, 26, 27, 28, 29, 30, 31, 32, 33, 34, 35, 36, 37, 38, 5, 39, 40, 41, 42, 43, 44, 45, 46, 47, 48, 49, 50, 51, 52, 53, 54, 55, 56, 57, 58, 59, 60, 61, 62, 63, 64, 65, 66, 67, 68, 69, 70, 71, 72, 73, 74, 75, 76, 77, 78, 79, 80, 81, 82, 83, 84, 85, 86, 87, 88, 89, 90, 91, 92, 93, 94, 95, 96, 97, 98, 99, 100, 101, 102, 103, 104, 105, 106, 107, 108, 109, 110, 111, 112, 113, 114, 115, 116, 117, 118, 119, 120, 121, 122, 123, 124, 125, 126, 127, 128, 129, 130, 131, 132, 133, 134, 135, 136, 137, 138, 139, 140, 141, 142, 143, 144, 145, 146] (by decide +kernel) (by decide +kernel)) (goodIn_sub (fun _ h => List.mem_cons_of_mem _ (List.mem_append_right _ h)) (by decide +kernel))
set_option maxRecDepth 20000 in
theorem gL_recover_X4_recover : GoodIn wsL_recover (wsV RL 31 RX4 yX4_recover wsX4_recover) := goodIn_app (goodIn_of _ (by decide +kernel)) ggL_recover_X4_recover
theorem dL_recover_0 : decode cL_recover 0 = .ok (.aload_n 1, 1) := by decide +kernel
theorem dL_recover_1 : decode cL_recover 1 = .ok (.iconst 0, 1) := by decide +kernel
theorem dL_recover_2 : decode cL_recover 2 = .ok (.aload_n 0, 1) := by decide +kernel
theorem dL_recover_3 : decode cL_recover 3 = .ok (.invokevirtual 31, 3) := by decide +kernel
theorem dL_recover_6 : decode cL_recover 6 = .ok (.i2l, 1) := by decide +kernel
theorem dL_recover_7 : decode cL_recover 7 = .ok (.lastore, 1) := by decide +kernel
theorem dL_recover_8 : decode cL_recover 8 = .ok (.goto 6, 3) := by decide +kernel
theorem dL_recover_11 : decode cL_recover 11 = .ok (.astore_n 2, 1) := by decide +kernel
theorem dL_recover_12 : decode cL_recover 12 = .ok (.iconst 1, 1) := by decide +kernel
theorem dL_recover_13 : decode cL_recover 13 = .ok (.ireturn, 1) := by decide +kernel
theorem dL_recover_14 : decode cL_recover 14 = .ok (.iconst 0, 1) := by decide +kernel
theorem dL_recover_15 : decode cL_recover 15 = .ok (.ireturn, 1) := by decide +kernel
set_option maxRecDepth 20000 in
theorem ggL_told_X4_told : GoodIn wsL_told wsX4_told := goodIn_ca (goodIn_r _ [6, 7, 8, 9, 10, 11, 12, 13, 14, 15, 16, 17, 18, 19, 20, 21, 22, 23, 24, 25, 26, 27, 28, 29, 30, 31, 32, 33, 34, 35, 36, 37, 38, 39, 40, 41, 42, 43, 44, 45, 46, 47, 48, 49, 50, 51, 52, 53, 54, 55, 56, 57, 58] (by decide +kernel) (by decide +kernel)) (goodIn_sub (fun _ h => List.mem_cons_of_mem _ (List.mem_append_right _ h)) (by decide +kernel))
set_option maxRecDepth 20000 in
theorem gL_told_X4_told : GoodIn wsL_told (wsV RL 34 RX4 yX4_told wsX4_told) := goodIn_app (goodIn_of _ (by decide +kernel)) ggL_told_X4_told
theorem dL_told_0 : decode cL_told 0 = .ok (.aload_n 2, 1) := by decide +kernel
theorem dL_told_1 : decode cL_told 1 = .ok (.iconst 0, 1) := by decide +kernel
theorem dL_told_2 : decode cL_told 2 = .ok (.aload_n 0, 1) := by decide +kernel
theorem dL_told_3 : decode cL_told 3 = .ok (.iload_n 1, 1) := by decide +kernel
theorem dL_told_4 : decode cL_told 4 = .ok (.invokevirtual 34, 3) := by decide +kernel
theorem dL_told_7 : decode cL_told 7 = .ok (.i2l, 1) := by decide +kernel
theorem dL_told_8 : decode cL_told 8 = .ok (.lastore, 1) := by decide +kernel
theorem dL_told_9 : decode cL_told 9 = .ok (.goto 6, 3) := by decide +kernel
theorem dL_told_12 : decode cL_told 12 = .ok (.astore_n 3, 1) := by decide +kernel
theorem dL_told_13 : decode cL_told 13 = .ok (.iconst 1, 1) := by decide +kernel
theorem dL_told_14 : decode cL_told 14 = .ok (.ireturn, 1) := by decide +kernel
theorem dL_told_15 : decode cL_told 15 = .ok (.iconst 0, 1) := by decide +kernel
theorem dL_told_16 : decode cL_told 16 = .ok (.ireturn, 1) := by decide +kernel
set_option maxRecDepth 20000 in
theorem ggL_record_X4_record : GoodIn wsL_record wsX4_record := goodIn_ca (goodIn_r _ [6, 7, 8, 9, 10, 11, 12, 13, 14, 15, 16, 17, 18, 19, 20, 21, 22, 23, 24, 25, 26, 27, 28, 29, 30, 31, 32, 33, 34, 35, 36, 37, 38, 39, 40, 41, 42, 43, 44, 45, 46, 47, 48, 49, 50, 51] (by decide +kernel) (by decide +kernel)) (goodIn_sub (fun _ h => List.mem_cons_of_mem _ (List.mem_append_right _ h)) (by decide +kernel))
set_option maxRecDepth 20000 in
theorem gL_record_X4_record : GoodIn wsL_record (wsV RL 37 RX4 yX4_record wsX4_record) := goodIn_app (goodIn_of _ (by decide +kernel)) ggL_record_X4_record
theorem dL_record_0 : decode cL_record 0 = .ok (.aload_n 3, 1) := by decide +kernel
theorem dL_record_1 : decode cL_record 1 = .ok (.iconst 0, 1) := by decide +kernel
theorem dL_record_2 : decode cL_record 2 = .ok (.aload_n 0, 1) := by decide +kernel
theorem dL_record_3 : decode cL_record 3 = .ok (.iload_n 1, 1) := by decide +kernel
theorem dL_record_4 : decode cL_record 4 = .ok (.iload_n 2, 1) := by decide +kernel
theorem dL_record_5 : decode cL_record 5 = .ok (.invokevirtual 37, 3) := by decide +kernel
theorem dL_record_8 : decode cL_record 8 = .ok (.i2l, 1) := by decide +kernel
theorem dL_record_9 : decode cL_record 9 = .ok (.lastore, 1) := by decide +kernel
theorem dL_record_10 : decode cL_record 10 = .ok (.goto 7, 3) := by decide +kernel
theorem dL_record_13 : decode cL_record 13 = .ok (.astore 4, 2) := by decide +kernel
theorem dL_record_15 : decode cL_record 15 = .ok (.iconst 1, 1) := by decide +kernel
theorem dL_record_16 : decode cL_record 16 = .ok (.ireturn, 1) := by decide +kernel
theorem dL_record_17 : decode cL_record 17 = .ok (.iconst 0, 1) := by decide +kernel
theorem dL_record_18 : decode cL_record 18 = .ok (.ireturn, 1) := by decide +kernel
set_option maxRecDepth 20000 in
theorem ggL_bend_X4_bend : GoodIn wsL_bend wsX4_bend := goodIn_ca (goodIn_ca (goodIn_r _ [7, 8, 9, 10, 11, 12, 13, 14, 15, 16, 17, 18, 19, 20, 21, 22, 23, 24, 25, 26, 27, 28, 29, 30, 31, 32, 33, 34, 35, 36, 37] (by decide +kernel) (by decide +kernel)) (goodIn_sub (fun _ h => List.mem_cons_of_mem _ (List.mem_append_left _ (List.mem_append_right _ h))) (by decide +kernel))) (goodIn_sub (fun _ h => List.mem_cons_of_mem _ (List.mem_append_right _ h)) (by decide +kernel))
set_option maxRecDepth 20000 in
theorem gL_bend_X4_bend : GoodIn wsL_bend (wsV RL 41 RX4 yX4_bend wsX4_bend) := goodIn_app (goodIn_of _ (by decide +kernel)) ggL_bend_X4_bend
theorem dL_bend_0 : decode cL_bend 0 = .ok (.aload_n 3, 1) := by decide +kernel
theorem dL_bend_1 : decode cL_bend 1 = .ok (.iconst 0, 1) := by decide +kernel
theorem dL_bend_2 : decode cL_bend 2 = .ok (.aload_n 0, 1) := by decide +kernel
theorem dL_bend_3 : decode cL_bend 3 = .ok (.iload_n 1, 1) := by decide +kernel
theorem dL_bend_4 : decode cL_bend 4 = .ok (.iload_n 2, 1) := by decide +kernel
theorem dL_bend_5 : decode cL_bend 5 = .ok (.invokevirtual 41, 3) := by decide +kernel
theorem dL_bend_8 : decode cL_bend 8 = .ok (.i2l, 1) := by decide +kernel
theorem dL_bend_9 : decode cL_bend 9 = .ok (.lastore, 1) := by decide +kernel
theorem dL_bend_10 : decode cL_bend 10 = .ok (.goto 11, 3) := by decide +kernel
theorem dL_bend_13 : decode cL_bend 13 = .ok (.astore 4, 2) := by decide +kernel
theorem dL_bend_15 : decode cL_bend 15 = .ok (.iconst 1, 1) := by decide +kernel
theorem dL_bend_16 : decode cL_bend 16 = .ok (.ireturn, 1) := by decide +kernel
theorem dL_bend_17 : decode cL_bend 17 = .ok (.astore 4, 2) := by decide +kernel
theorem dL_bend_19 : decode cL_bend 19 = .ok (.iconst 2, 1) := by decide +kernel
theorem dL_bend_20 : decode cL_bend 20 = .ok (.ireturn, 1) := by decide +kernel
theorem dL_bend_21 : decode cL_bend 21 = .ok (.iconst 0, 1) := by decide +kernel
theorem dL_bend_22 : decode cL_bend 22 = .ok (.ireturn, 1) := by decide +kernel
set_option maxRecDepth 20000 in
theorem ggL_key_X4_key : GoodIn wsL_key wsX4_key := goodIn_ca (goodIn_r _ [6, 7, 8, 9, 10, 11, 12, 13, 14, 15, 16, 17, 18, 19, 20, 21, 22] (by decide +kernel) (by decide +kernel)) (goodIn_sub (fun _ h => List.mem_cons_of_mem _ (List.mem_append_right _ h)) (by decide +kernel))
set_option maxRecDepth 20000 in
theorem gL_key_X4_key : GoodIn wsL_key (wsV RL 46 RX4 yX4_key wsX4_key) := goodIn_app (goodIn_of _ (by decide +kernel)) ggL_key_X4_key
theorem dL_key_0 : decode cL_key 0 = .ok (.aload_n 2, 1) := by decide +kernel
theorem dL_key_1 : decode cL_key 1 = .ok (.iconst 0, 1) := by decide +kernel
theorem dL_key_2 : decode cL_key 2 = .ok (.aload_n 0, 1) := by decide +kernel
theorem dL_key_3 : decode cL_key 3 = .ok (.iload_n 1, 1) := by decide +kernel
theorem dL_key_4 : decode cL_key 4 = .ok (.invokevirtual 46, 3) := by decide +kernel
theorem dL_key_7 : decode cL_key 7 = .ok (.i2l, 1) := by decide +kernel
theorem dL_key_8 : decode cL_key 8 = .ok (.lastore, 1) := by decide +kernel
theorem dL_key_9 : decode cL_key 9 = .ok (.goto 6, 3) := by decide +kernel
theorem dL_key_12 : decode cL_key 12 = .ok (.astore_n 3, 1) := by decide +kernel
theorem dL_key_13 : decode cL_key 13 = .ok (.iconst 1, 1) := by decide +kernel
theorem dL_key_14 : decode cL_key 14 = .ok (.ireturn, 1) := by decide +kernel
theorem dL_key_15 : decode cL_key 15 = .ok (.iconst 0, 1) := by decide +kernel
theorem dL_key_16 : decode cL_key 16 = .ok (.ireturn, 1) := by decide +kernel
set_option maxRecDepth 20000 in
theorem ggL_count_X4_count : GoodIn wsL_count wsX4_count := goodIn_ca (goodIn_r _ [6, 7, 8, 9, 10, 11, 12, 13, 14, 15, 16, 17, 18, 19, 20, 21, 22, 23, 24, 25, 26, 27, 28, 29, 30, 31] (by decide +kernel) (by decide +kernel)) (goodIn_sub (fun _ h => List.mem_cons_of_mem _ (List.mem_append_right _ h)) (by decide +kernel))
set_option maxRecDepth 20000 in
theorem gL_count_X4_count : GoodIn wsL_count (wsV RL 49 RX4 yX4_count wsX4_count) := goodIn_app (goodIn_of _ (by decide +kernel)) ggL_count_X4_count
theorem dL_count_0 : decode cL_count 0 = .ok (.aload_n 2, 1) := by decide +kernel
theorem dL_count_1 : decode cL_count 1 = .ok (.iconst 0, 1) := by decide +kernel
theorem dL_count_2 : decode cL_count 2 = .ok (.aload_n 0, 1) := by decide +kernel
theorem dL_count_3 : decode cL_count 3 = .ok (.iload_n 1, 1) := by decide +kernel
theorem dL_count_4 : decode cL_count 4 = .ok (.invokevirtual 49, 3) := by decide +kernel
theorem dL_count_7 : decode cL_count 7 = .ok (.i2l, 1) := by decide +kernel
theorem dL_count_8 : decode cL_count 8 = .ok (.lastore, 1) := by decide +kernel
theorem dL_count_9 : decode cL_count 9 = .ok (.goto 6, 3) := by decide +kernel
theorem dL_count_12 : decode cL_count 12 = .ok (.astore_n 3, 1) := by decide +kernel
theorem dL_count_13 : decode cL_count 13 = .ok (.iconst 1, 1) := by decide +kernel
theorem dL_count_14 : decode cL_count 14 = .ok (.ireturn, 1) := by decide +kernel
theorem dL_count_15 : decode cL_count 15 = .ok (.iconst 0, 1) := by decide +kernel
theorem dL_count_16 : decode cL_count 16 = .ok (.ireturn, 1) := by decide +kernel
set_option maxRecDepth 20000 in
theorem ggL_law_X4_init : GoodIn wsL_law wsX4_init := goodIn_r _ [9, 10, 11, 12, 13, 14, 15, 16, 17, 18, 19, 20, 21, 22, 23, 24, 25, 26, 27, 28, 29, 30, 31, 32, 33, 34, 35, 36, 37, 38, 39, 40, 41, 42, 43, 44, 45, 46, 47, 48, 49, 50, 51, 52, 53, 54, 55, 56, 57, 58, 59, 60, 61, 62, 63, 64, 65, 66, 67, 68, 69, 70, 71, 72, 73, 74, 75, 76, 77, 78, 79, 80, 81, 609, 610, 611, 612, 569, 570, 571, 572, 573, 574, 575, 576, 577, 578, 613, 614, 615, 616, 617, 618, 619, 620, 621, 622, 623, 624, 625, 626] (by decide +kernel) (by decide +kernel)
set_option maxRecDepth 20000 in
theorem gL_law_X4_init : GoodIn wsL_law (wsX4_init) := ggL_law_X4_init
set_option maxRecDepth 20000 in
theorem ggL_law_X5_init : GoodIn wsL_law wsX5_init := goodIn_r _ [84, 85, 11, 12, 25, 86, 87, 88, 89, 90, 91, 92, 93, 94, 95, 96, 97, 98, 99, 100, 101, 102, 5, 103, 104, 105, 106, 107, 108, 109, 579, 580, 581, 582, 583, 584, 585, 586, 587, 588, 589, 590, 591, 592, 593, 594, 595, 596, 597, 598, 599, 600, 601, 602, 603, 604, 605, 606, 607, 608] (by decide +kernel) (by decide +kernel)
set_option maxRecDepth 20000 in
theorem gL_law_X5_init : GoodIn wsL_law (wsX5_init) := ggL_law_X5_init
set_option maxRecDepth 20000 in
theorem ggL_law_X4_begin : GoodIn wsL_law wsX4_begin := goodIn_r _ [113, 20, 24, 26, 34, 35, 32, 114, 79, 80, 19, 81, 49, 50, 115, 116, 117, 23, 118, 55, 56, 119, 2, 120, 121, 122, 123, 124, 125, 126, 127, 128, 129, 130, 131, 132, 48, 133, 134, 135, 136, 137, 71, 72, 31, 73, 74, 75, 76, 77, 65, 78, 569, 570, 571, 572, 573, 574, 575, 576, 577, 578, 613, 614, 615, 616, 617, 618, 619, 620, 621, 622, 623, 624, 625, 626] (by decide +kernel) (by decide +kernel)
set_option maxRecDepth 20000 in
theorem gL_law_X4_begin : GoodIn wsL_law (wsV RL 56 RX4 yX4_begin wsX4_begin) := goodIn_app (goodIn_of _ (by decide +kernel)) ggL_law_X4_begin
set_option maxRecDepth 20000 in
theorem ggL_law_X5_begin : GoodIn wsL_law wsX5_begin := goodIn_r _ [141, 142, 88, 143, 144, 145, 5, 146, 147, 148, 149, 150, 99, 89, 100, 101, 102, 103, 104, 105, 106, 107, 108, 109, 151, 152, 153, 579, 580, 581, 582, 583, 584, 585, 586, 587, 588, 589, 590, 591, 592, 593, 594, 595, 596, 597, 598, 599, 600, 601, 602, 603, 604, 605, 606, 607, 608] (by decide +kernel) (by decide +kernel)
set_option maxRecDepth 20000 in
theorem gL_law_X5_begin : GoodIn wsL_law (wsV RL 60 RX5 yX5_begin wsX5_begin) := goodIn_app (goodIn_of _ (by decide +kernel)) ggL_law_X5_begin
set_option maxRecDepth 20000 in
theorem ggL_law_L_feed : GoodIn wsL_law wsL_feed := goodIn_ca (goodIn_ca (goodIn_r _ [157, 158, 159, 160, 161, 162, 2, 163, 164, 165, 166, 167, 33, 27, 168, 119, 120, 569, 570, 571, 572, 573, 574, 575, 576, 577, 578] (by decide +kernel) (by decide +kernel)) (goodIn_sub (fun _ h => List.mem_append_left _ (List.mem_append_left _ (List.mem_append_right _ h))) (by decide +kernel))) (goodIn_sub (fun _ h => List.mem_append_left _ (List.mem_append_right _ h)) (by decide +kernel))
set_option maxRecDepth 20000 in
theorem gL_law_L_feed : GoodIn wsL_law (va_wsS RL 61 yL_feed wsL_feed) := goodIn_app (goodIn_of _ (by decide +kernel)) ggL_law_L_feed
set_option maxRecDepth 20000 in
theorem ggL_law_X5_feed : GoodIn wsL_law wsX5_feed := goodIn_r _ [172, 173, 87, 174, 175, 176, 5, 177, 142, 151, 152, 153, 579, 580, 581, 582, 583, 584, 585, 586, 587, 588, 589, 590, 591, 592, 593, 594, 595, 596, 597, 598, 599, 600, 601, 602, 603, 604, 605, 606, 607, 608] (by decide +kernel) (by decide +kernel)
set_option maxRecDepth 20000 in
theorem gL_law_X5_feed : GoodIn wsL_law (wsV RL 66 RX5 yX5_feed wsX5_feed) := goodIn_app (goodIn_of _ (by decide +kernel)) ggL_law_X5_feed
set_option maxRecDepth 20000 in
theorem ggL_law_X5_thrown : GoodIn wsL_law wsX5_thrown := goodIn_r _ [181, 142, 579, 580, 581, 582, 583, 584, 585, 586, 587, 588, 589, 590, 591, 592, 593, 594, 595, 596, 597, 598, 599, 600, 601, 602, 603, 604, 605, 606, 607, 608] (by decide +kernel) (by decide +kernel)
set_option maxRecDepth 20000 in
theorem gL_law_X5_thrown : GoodIn wsL_law (wsV RL 67 RX5 yX5_thrown wsX5_thrown) := goodIn_app (goodIn_of _ (by decide +kernel)) ggL_law_X5_thrown
set_option maxRecDepth 20000 in
theorem ggL_law_X4_erase : GoodIn wsL_law wsX4_erase := goodIn_r _ [185, 33, 569, 570, 571, 572, 573, 574, 575, 576, 577, 578] (by decide +kernel) (by decide +kernel)
set_option maxRecDepth 20000 in
theorem gL_law_X4_erase : GoodIn wsL_law (wsV RL 70 RX4 yX4_erase wsX4_erase) := goodIn_app (goodIn_of _ (by decide +kernel)) ggL_law_X4_erase
set_option maxRecDepth 20000 in
theorem ggL_law_X5_erase : GoodIn wsL_law wsX5_erase := goodIn_r _ [189, 142, 173, 579, 580, 581, 582, 583, 584, 585, 586, 587, 588, 589, 590, 591, 592, 593, 594, 595, 596, 597, 598, 599, 600, 601, 602, 603, 604, 605, 606, 607, 608] (by decide +kernel) (by decide +kernel)
set_option maxRecDepth 20000 in
theorem gL_law_X5_erase : GoodIn wsL_law (wsV RL 73 RX5 yX5_erase wsX5_erase) := goodIn_app (goodIn_of _ (by decide +kernel)) ggL_law_X5_erase
set_option maxRecDepth 20000 in
theorem ggL_law_L_append : GoodIn wsL_law wsL_append := goodIn_ca (goodIn_r _ [192, 159, 193, 194, 195, 2, 196, 166, 167, 34, 27, 33, 197, 198, 199, 200, 20, 201, 24, 202, 16, 26, 203, 204, 205, 206, 207, 208, 19, 209, 49, 48, 210, 211, 212, 15, 213, 214, 215, 216, 217, 218, 219, 220, 221, 222, 223, 43, 224, 225, 226, 227, 40, 228, 130, 131, 132, 133, 134, 135, 136, 229, 230, 231, 232, 42, 233, 234, 235, 236, 41, 237, 238, 239, 240, 241, 242, 243, 244, 245, 246, 247, 248, 249, 250, 251, 23, 252, 55, 56, 253, 254, 255, 256, 569, 570, 571, 572, 573, 574, 575, 576, 577, 578, 613, 614, 615, 616, 617, 609, 610, 611, 612] (by decide +kernel) (by decide +kernel)) (goodIn_sub (fun _ h => List.mem_append_left _ (List.mem_append_right _ h)) (by decide +kernel))
set_option maxRecDepth 20000 in
theorem gL_law_L_append : GoodIn wsL_law (va_wsS RL 74 yL_append wsL_append) := goodIn_app (goodIn_of _ (by decide +kernel)) ggL_law_L_append
set_option maxRecDepth 20000 in
theorem ggL_law_X5_append : GoodIn wsL_law wsX5_append := goodIn_r _ [260, 99, 173, 86, 147, 87, 174, 175, 176, 5, 177, 142, 261, 262, 263, 264, 265, 266, 267, 268, 94, 88, 95, 89, 149, 93, 269, 270, 271, 272, 273, 274, 275, 276, 277, 278, 279, 280, 90, 281, 282, 283, 284, 285, 286, 287, 288, 289, 92, 290, 291, 292, 293, 294, 295, 296, 297, 298, 299, 300, 301, 302, 303, 304, 91, 305, 306, 307, 308, 309, 310, 311, 312, 313, 314, 315, 316, 317, 318, 319, 320, 321, 322, 323, 324, 325, 326, 327, 328, 329, 330, 331, 332, 333, 334, 335, 336, 337, 338, 339, 340, 341, 342, 343, 344, 345, 346, 347, 348, 349, 350, 351, 352, 353, 354, 355, 356, 357, 358, 359, 360, 361, 362, 363, 364, 365, 366, 367, 368, 369, 370, 371, 372, 373, 374, 375, 376, 377, 378, 579, 580, 581, 582, 583, 584, 585, 586, 587, 588, 589, 590, 591, 592, 593, 594, 595, 596, 597, 598, 599, 600, 601, 602, 603, 604, 605, 606, 607, 608] (by decide +kernel) (by decide +kernel)
set_option maxRecDepth 20000 in
theorem gL_law_X5_append : GoodIn wsL_law (wsV RL 77 RX5 yX5_append wsX5_append) := goodIn_app (goodIn_of _ (by decide +kernel)) ggL_law_X5_append
set_option maxRecDepth 20000 in
theorem ggL_law_L_seal : GoodIn wsL_law wsL_seal := goodIn_ca (goodIn_r _ [381, 159, 382, 383, 384, 2, 385, 166, 167, 34, 27, 197, 198, 199, 200, 20, 201, 24, 202, 16, 26, 203, 204, 205, 206, 207, 208, 19, 209, 49, 48, 210, 211, 212, 15, 213, 214, 215, 216, 217, 218, 219, 220, 221, 222, 223, 43, 224, 225, 226, 227, 40, 228, 130, 131, 132, 133, 134, 135, 136, 229, 230, 231, 232, 42, 233, 234, 235, 236, 41, 237, 238, 239, 240, 241, 242, 243, 244, 245, 246, 247, 248, 249, 250, 251, 23, 252, 55, 56, 253, 254, 255, 256, 569, 570, 571, 572, 573, 574, 575, 576, 577, 578, 613, 614, 615, 616, 617, 609, 610, 611, 612] (by decide +kernel) (by decide +kernel)) (goodIn_sub (fun _ h => List.mem_append_left _ (List.mem_append_right _ h)) (by decide +kernel))
set_option maxRecDepth 20000 in
theorem gL_law_L_seal : GoodIn wsL_law (va_wsS RL 78 yL_seal wsL_seal) := goodIn_app (goodIn_of _ (by decide +kernel)) ggL_law_L_seal
set_option maxRecDepth 20000 in
theorem ggL_law_X5_seal : GoodIn wsL_law wsX5_seal := goodIn_r _ [389, 99, 86, 147, 174, 175, 176, 5, 177, 142, 261, 262, 263, 264, 265, 266, 267, 268, 94, 88, 95, 89, 149, 93, 269, 270, 271, 272, 273, 274, 275, 276, 277, 278, 279, 280, 90, 281, 282, 283, 284, 285, 286, 287, 288, 289, 92, 290, 291, 292, 293, 294, 295, 296, 297, 298, 299, 300, 301, 302, 303, 304, 91, 305, 306, 307, 308, 309, 310, 311, 312, 313, 314, 315, 316, 317, 318, 319, 320, 321, 322, 323, 324, 325, 326, 327, 328, 329, 330, 331, 332, 333, 334, 335, 336, 337, 338, 339, 340, 341, 342, 343, 344, 345, 346, 347, 348, 349, 350, 351, 352, 353, 354, 355, 356, 357, 358, 359, 360, 361, 362, 363, 364, 365, 366, 367, 368, 369, 370, 371, 372, 373, 374, 375, 376, 377, 378, 579, 580, 581, 582, 583, 584, 585, 586, 587, 588, 589, 590, 591, 592, 593, 594, 595, 596, 597, 598, 599, 600, 601, 602, 603, 604, 605, 606, 607, 608] (by decide +kernel) (by decide +kernel)
set_option maxRecDepth 20000 in
theorem gL_law_X5_seal : GoodIn wsL_law (wsV RL 80 RX5 yX5_seal wsX5_seal) := goodIn_app (goodIn_of _ (by decide +kernel)) ggL_law_X5_seal
set_option maxRecDepth 20000 in
theorem ggL_law_L_sync : GoodIn wsL_law wsL_sync := goodIn_ca (goodIn_r _ [392, 159, 393, 394, 395, 2, 396, 166, 167, 34, 20, 201, 397, 569, 570, 571, 572, 573, 574, 575, 576, 577, 578, 613, 614, 615] (by decide +kernel) (by decide +kernel)) (goodIn_sub (fun _ h => List.mem_append_left _ (List.mem_append_right _ h)) (by decide +kernel))
set_option maxRecDepth 20000 in
theorem gL_law_L_sync : GoodIn wsL_law (va_wsS RL 81 yL_sync wsL_sync) := goodIn_app (goodIn_of _ (by decide +kernel)) ggL_law_L_sync
set_option maxRecDepth 20000 in
theorem ggL_law_X5_sync : GoodIn wsL_law wsX5_sync := goodIn_r _ [401, 99, 147, 148, 174, 175, 176, 5, 177, 142, 579, 580, 581, 582, 583, 584, 585, 586, 587, 588, 589, 590, 591, 592, 593, 594, 595, 596, 597, 598, 599, 600, 601, 602, 603, 604, 605, 606, 607, 608] (by decide +kernel) (by decide +kernel)
set_option maxRecDepth 20000 in
theorem gL_law_X5_sync : GoodIn wsL_law (wsV RL 83 RX5 yX5_sync wsX5_sync) := goodIn_app (goodIn_of _ (by decide +kernel)) ggL_law_X5_sync
set_option maxRecDepth 20000 in
theorem ggL_law_L_crash : GoodIn wsL_law wsL_crash := goodIn_ca (goodIn_r _ [404, 158, 405, 406, 407, 2, 408, 164, 165, 20, 201, 397, 409, 410, 127, 411, 34, 35, 569, 570, 571, 572, 573, 574, 575, 576, 577, 578, 613, 614, 615] (by decide +kernel) (by decide +kernel)) (goodIn_sub (fun _ h => List.mem_append_left _ (List.mem_append_left _ (List.mem_append_right _ h))) (by decide +kernel))
set_option maxRecDepth 20000 in
theorem gL_law_L_crash : GoodIn wsL_law (va_wsS RL 84 yL_crash wsL_crash) := goodIn_app (goodIn_of _ (by decide +kernel)) ggL_law_L_crash
set_option maxRecDepth 20000 in
theorem ggL_law_X5_crash : GoodIn wsL_law wsX5_crash := goodIn_r _ [415, 147, 148, 99, 150, 174, 175, 176, 5, 177, 142, 579, 580, 581, 582, 583, 584, 585, 586, 587, 588, 589, 590, 591, 592, 593, 594, 595, 596, 597, 598, 599, 600, 601, 602, 603, 604, 605, 606, 607, 608] (by decide +kernel) (by decide +kernel)
set_option maxRecDepth 20000 in
theorem gL_law_X5_crash : GoodIn wsL_law (wsV RL 87 RX5 yX5_crash wsX5_crash) := goodIn_app (goodIn_of _ (by decide +kernel)) ggL_law_X5_crash
set_option maxRecDepth 20000 in
theorem ggL_law_L_recover : GoodIn wsL_law wsL_recover := goodIn_ca (goodIn_r _ [418, 159, 419, 420, 421, 2, 422, 166, 167, 34, 20, 24, 202, 423, 126, 127, 128, 26, 28, 424, 425, 426, 19, 427, 428, 429, 430, 431, 49, 129, 130, 131, 132, 48, 133, 134, 135, 136, 204, 205, 432, 433, 434, 435, 436, 437, 438, 439, 440, 441, 442, 443, 203, 114, 79, 80, 81, 50, 121, 122, 123, 124, 125, 197, 198, 199, 200, 201, 16, 206, 207, 208, 209, 210, 211, 212, 15, 213, 214, 215, 216, 217, 218, 219, 220, 221, 222, 223, 43, 224, 225, 226, 227, 40, 228, 229, 230, 231, 232, 42, 233, 234, 235, 236, 41, 237, 238, 239, 240, 241, 242, 243, 244, 245, 246, 247, 248, 249, 250, 251, 23, 252, 55, 56, 253, 254, 255, 256, 569, 570, 571, 572, 573, 574, 575, 576, 577, 578, 616, 617, 613, 614, 615, 609, 610, 611, 612] (by decide +kernel) (by decide +kernel)) (goodIn_sub (fun _ h => List.mem_append_left _ (List.mem_append_right _ h)) (by decide +kernel))
set_option maxRecDepth 20000 in
theorem gL_law_L_recover : GoodIn wsL_law (va_wsS RL 88 yL_recover wsL_recover) := goodIn_app (goodIn_of _ (by decide +kernel)) ggL_law_L_recover
set_option maxRecDepth 20000 in
theorem ggL_law_X5_recover : GoodIn wsL_law wsX5_recover := goodIn_r _ [447, 99, 448, 449, 149, 147, 148, 89, 86, 174, 175, 176, 5, 177, 142, 450, 451, 452, 453, 454, 265, 266, 267, 268, 94, 88, 95, 93, 269, 270, 271, 272, 273, 274, 275, 276, 277, 278, 279, 280, 90, 281, 282, 283, 284, 285, 286, 287, 288, 289, 92, 290, 291, 292, 293, 294, 295, 296, 297, 298, 299, 300, 301, 302, 303, 304, 91, 305, 306, 307, 308, 309, 310, 311, 312, 313, 314, 315, 316, 317, 318, 319, 320, 321, 322, 323, 324, 325, 326, 327, 328, 329, 330, 331, 332, 333, 334, 335, 336, 337, 338, 339, 340, 341, 342, 343, 344, 345, 346, 347, 348, 349, 350, 351, 352, 353, 354, 355, 356, 357, 358, 359, 360, 361, 362, 363, 364, 365, 366, 367, 368, 369, 370, 371, 372, 373, 374, 375, 376, 377, 378, 579, 580, 581, 582, 583, 584, 585, 586, 587, 588, 589, 590, 591, 592, 593, 594, 595, 596, 597, 598, 599, 600, 601, 602, 603, 604, 605, 606, 607, 608] (by decide +kernel) (by decide +kernel)
set_option maxRecDepth 20000 in
theorem gL_law_X5_recover : GoodIn wsL_law (wsV RL 90 RX5 yX5_recover wsX5_recover) := goodIn_app (goodIn_of _ (by decide +kernel)) ggL_law_X5_recover
set_option maxRecDepth 20000 in
theorem ggL_law_X4_verify : GoodIn wsL_law wsX4_verify := goodIn_r _ [458, 32, 20, 16, 459, 460, 461, 31, 462, 74, 62, 463, 65, 76, 66, 67, 464, 75, 77, 70, 71, 72, 73, 78, 79, 80, 19, 81, 49, 50, 465, 116, 117, 23, 118, 55, 56, 119, 2, 120, 466, 130, 131, 132, 48, 133, 134, 135, 136, 467, 207, 208, 209, 468, 469, 470, 471, 63, 472, 429, 430, 431, 129, 204, 205, 473, 441, 442, 443, 474, 250, 251, 252, 253, 221, 222, 15, 223, 43, 254, 225, 226, 227, 40, 255, 230, 231, 232, 42, 224, 233, 234, 235, 236, 41, 237, 238, 239, 240, 241, 242, 243, 256, 245, 246, 247, 475, 122, 123, 124, 125, 126, 127, 128, 476, 211, 212, 213, 214, 215, 216, 217, 218, 219, 220, 228, 229, 244, 477, 433, 434, 435, 478, 569, 570, 571, 572, 573, 574, 575, 576, 577, 578, 618, 619, 620, 621, 622, 623, 624, 625, 626, 613, 614, 615, 616, 617, 609, 610, 611, 612] (by decide +kernel) (by decide +kernel)
set_option maxRecDepth 20000 in
theorem gL_law_X4_verify : GoodIn wsL_law (wsV RL 91 RX4 yX4_verify wsX4_verify) := goodIn_app (goodIn_of _ (by decide +kernel)) ggL_law_X4_verify
set_option maxRecDepth 20000 in
theorem ggL_law_X5_verify : GoodIn wsL_law wsX5_verify := goodIn_r _ [482, 142, 104, 94, 95, 147, 96, 86, 454, 448, 97, 107, 98, 108, 109, 449, 105, 106, 100, 101, 102, 5, 103, 151, 152, 153, 450, 451, 452, 453, 375, 376, 377, 378, 93, 277, 278, 279, 280, 90, 281, 286, 287, 288, 289, 92, 290, 291, 292, 293, 294, 295, 296, 297, 298, 299, 300, 282, 283, 284, 285, 301, 302, 303, 304, 91, 305, 306, 307, 308, 309, 310, 311, 312, 313, 314, 315, 316, 317, 318, 319, 320, 321, 322, 323, 324, 325, 326, 327, 328, 329, 330, 331, 332, 333, 334, 335, 336, 337, 338, 339, 340, 341, 342, 343, 344, 345, 346, 347, 348, 349, 350, 351, 352, 353, 354, 355, 356, 357, 358, 359, 360, 361, 362, 363, 364, 365, 366, 367, 368, 369, 370, 371, 372, 373, 374, 483, 484, 485, 486, 269, 270, 271, 272, 273, 274, 275, 276, 579, 580, 581, 582, 583, 584, 585, 586, 587, 588, 589, 590, 591, 592, 593, 594, 595, 596, 597, 598, 599, 600, 601, 602, 603, 604, 605, 606, 607, 608] (by decide +kernel) (by decide +kernel)
set_option maxRecDepth 20000 in
theorem gL_law_X5_verify : GoodIn wsL_law (wsV RL 95 RX5 yX5_verify wsX5_verify) := goodIn_app (goodIn_of _ (by decide +kernel)) ggL_law_X5_verify
set_option maxRecDepth 20000 in
theorem ggL_law_L_told : GoodIn wsL_law wsL_told := goodIn_ca (goodIn_r _ [489, 158, 490, 491, 492, 2, 493, 164, 165, 32, 494, 495, 496, 31, 497, 74, 76, 75, 77, 498, 499, 500, 501, 66, 65, 67, 466, 130, 131, 19, 132, 48, 133, 134, 135, 136, 49, 569, 570, 571, 572, 573, 574, 575, 576, 577, 578, 618, 619, 620, 621, 622, 623, 624, 625, 626, 613, 614, 615] (by decide +kernel) (by decide +kernel)) (goodIn_sub (fun _ h => List.mem_append_left _ (List.mem_append_left _ (List.mem_append_right _ h))) (by decide +kernel))
set_option maxRecDepth 20000 in
theorem gL_law_L_told : GoodIn wsL_law (va_wsS RL 96 yL_told wsL_told) := goodIn_app (goodIn_of _ (by decide +kernel)) ggL_law_L_told
set_option maxRecDepth 20000 in
theorem ggL_law_X5_told : GoodIn wsL_law wsX5_told := goodIn_r _ [505, 104, 105, 106, 107, 109, 108, 174, 175, 176, 5, 177, 142, 579, 580, 581, 582, 583, 584, 585, 586, 587, 588, 589, 590, 591, 592, 593, 594, 595, 596, 597, 598, 599, 600, 601, 602, 603, 604, 605, 606, 607, 608] (by decide +kernel) (by decide +kernel)
set_option maxRecDepth 20000 in
theorem gL_law_X5_told : GoodIn wsL_law (wsV RL 98 RX5 yX5_told wsX5_told) := goodIn_app (goodIn_of _ (by decide +kernel)) ggL_law_X5_told
set_option maxRecDepth 20000 in
theorem ggL_law_L_record : GoodIn wsL_law wsL_record := goodIn_ca (goodIn_r _ [508, 158, 509, 510, 511, 2, 512, 164, 165, 32, 513, 499, 500, 31, 501, 75, 66, 65, 67, 466, 130, 131, 19, 132, 48, 133, 134, 135, 136, 49, 569, 570, 571, 572, 573, 574, 575, 576, 577, 578, 618, 619, 620, 621, 622, 623, 624, 625, 626, 613, 614, 615] (by decide +kernel) (by decide +kernel)) (goodIn_sub (fun _ h => List.mem_append_left _ (List.mem_append_left _ (List.mem_append_right _ h))) (by decide +kernel))
set_option maxRecDepth 20000 in
theorem gL_law_L_record : GoodIn wsL_law (va_wsS RL 99 yL_record wsL_record) := goodIn_app (goodIn_of _ (by decide +kernel)) ggL_law_L_record
set_option maxRecDepth 20000 in
theorem ggL_law_X5_record : GoodIn wsL_law wsX5_record := goodIn_r _ [517, 107, 97, 98, 96, 174, 175, 176, 5, 177, 142, 579, 580, 581, 582, 583, 584, 585, 586, 587, 588, 589, 590, 591, 592, 593, 594, 595, 596, 597, 598, 599, 600, 601, 602, 603, 604, 605, 606, 607, 608] (by decide +kernel) (by decide +kernel)
set_option maxRecDepth 20000 in
theorem gL_law_X5_record : GoodIn wsL_law (wsV RL 102 RX5 yX5_record wsX5_record) := goodIn_app (goodIn_of _ (by decide +kernel)) ggL_law_X5_record
set_option maxRecDepth 20000 in
theorem ggL_law_L_bend : GoodIn wsL_law wsL_bend := goodIn_ca (goodIn_ca (goodIn_r _ [520, 521, 158, 522, 523, 524, 2, 525, 526, 527, 164, 165, 20, 528, 134, 135, 19, 136, 49, 48, 529, 530, 531, 532, 133, 569, 570, 571, 572, 573, 574, 575, 576, 577, 578, 613, 614, 615] (by decide +kernel) (by decide +kernel)) (goodIn_sub (fun _ h => List.mem_append_right _ h) (by decide +kernel))) (goodIn_sub (fun _ h => List.mem_append_left _ (List.mem_append_left _ (List.mem_append_right _ h))) (by decide +kernel))
set_option maxRecDepth 20000 in
theorem gL_law_L_bend : GoodIn wsL_law (va_wsS RL 103 yL_bend wsL_bend) := goodIn_app (goodIn_of _ (by decide +kernel)) ggL_law_L_bend
set_option maxRecDepth 20000 in
theorem ggL_law_X5_bend : GoodIn wsL_law wsX5_bend := goodIn_r _ [536, 147, 86, 174, 175, 176, 5, 177, 142, 579, 580, 581, 582, 583, 584, 585, 586, 587, 588, 589, 590, 591, 592, 593, 594, 595, 596, 597, 598, 599, 600, 601, 602, 603, 604, 605, 606, 607, 608] (by decide +kernel) (by decide +kernel)
set_option maxRecDepth 20000 in
theorem gL_law_X5_bend : GoodIn wsL_law (wsV RL 105 RX5 yX5_bend wsX5_bend) := goodIn_app (goodIn_of _ (by decide +kernel)) ggL_law_X5_bend
set_option maxRecDepth 20000 in
theorem ggL_law_X4_octet : GoodIn wsL_law wsX4_octet := goodIn_r _ [540, 20, 541, 130, 131, 19, 132, 48, 133, 134, 135, 136, 49, 569, 570, 571, 572, 573, 574, 575, 576, 577, 578, 613, 614, 615] (by decide +kernel) (by decide +kernel)
set_option maxRecDepth 20000 in
theorem gL_law_X4_octet : GoodIn wsL_law (wsV RL 106 RX4 yX4_octet wsX4_octet) := goodIn_app (goodIn_of _ (by decide +kernel)) ggL_law_X4_octet
set_option maxRecDepth 20000 in
theorem ggL_law_X5_octet : GoodIn wsL_law wsX5_octet := goodIn_r _ [545, 142, 147, 86, 579, 580, 581, 582, 583, 584, 585, 586, 587, 588, 589, 590, 591, 592, 593, 594, 595, 596, 597, 598, 599, 600, 601, 602, 603, 604, 605, 606, 607, 608] (by decide +kernel) (by decide +kernel)
set_option maxRecDepth 20000 in
theorem gL_law_X5_octet : GoodIn wsL_law (wsV RL 109 RX5 yX5_octet wsX5_octet) := goodIn_app (goodIn_of _ (by decide +kernel)) ggL_law_X5_octet
set_option maxRecDepth 20000 in
theorem ggL_law_L_key : GoodIn wsL_law wsL_key := goodIn_ca (goodIn_r _ [548, 158, 549, 550, 551, 2, 552, 164, 165, 24, 553, 569, 570, 571, 572, 573, 574, 575, 576, 577, 578, 616, 617] (by decide +kernel) (by decide +kernel)) (goodIn_sub (fun _ h => List.mem_append_left _ (List.mem_append_left _ (List.mem_append_right _ h))) (by decide +kernel))
set_option maxRecDepth 20000 in
theorem gL_law_L_key : GoodIn wsL_law (va_wsS RL 110 yL_key wsL_key) := goodIn_app (goodIn_of _ (by decide +kernel)) ggL_law_L_key
set_option maxRecDepth 20000 in
theorem ggL_law_X5_key : GoodIn wsL_law wsX5_key := goodIn_r _ [557, 88, 174, 175, 176, 5, 177, 142, 579, 580, 581, 582, 583, 584, 585, 586, 587, 588, 589, 590, 591, 592, 593, 594, 595, 596, 597, 598, 599, 600, 601, 602, 603, 604, 605, 606, 607, 608] (by decide +kernel) (by decide +kernel)
set_option maxRecDepth 20000 in
theorem gL_law_X5_key : GoodIn wsL_law (wsV RL 112 RX5 yX5_key wsX5_key) := goodIn_app (goodIn_of _ (by decide +kernel)) ggL_law_X5_key
set_option maxRecDepth 20000 in
theorem ggL_law_L_count : GoodIn wsL_law wsL_count := goodIn_ca (goodIn_r _ [560, 158, 561, 562, 563, 2, 564, 164, 165, 20, 201, 397, 24, 202, 34, 35, 33, 569, 570, 571, 572, 573, 574, 575, 576, 577, 578, 613, 614, 615, 616, 617] (by decide +kernel) (by decide +kernel)) (goodIn_sub (fun _ h => List.mem_append_left _ (List.mem_append_left _ (List.mem_append_right _ h))) (by decide +kernel))
set_option maxRecDepth 20000 in
theorem gL_law_L_count : GoodIn wsL_law (va_wsS RL 113 yL_count wsL_count) := goodIn_app (goodIn_of _ (by decide +kernel)) ggL_law_L_count
set_option maxRecDepth 20000 in
theorem ggL_law_X5_count : GoodIn wsL_law wsX5_count := goodIn_r _ [568, 147, 148, 149, 99, 150, 173, 174, 175, 176, 5, 177, 142, 579, 580, 581, 582, 583, 584, 585, 586, 587, 588, 589, 590, 591, 592, 593, 594, 595, 596, 597, 598, 599, 600, 601, 602, 603, 604, 605, 606, 607, 608] (by decide +kernel) (by decide +kernel)
set_option maxRecDepth 20000 in
theorem gL_law_X5_count : GoodIn wsL_law (wsV RL 115 RX5 yX5_count wsX5_count) := goodIn_app (goodIn_of _ (by decide +kernel)) ggL_law_X5_count
theorem dL_law_0 : decode cL_law 0 = .ok (.new 8, 3) := by decide +kernel
theorem dL_law_3 : decode cL_law 3 = .ok (.dup, 1) := by decide +kernel
theorem dL_law_4 : decode cL_law 4 = .ok (.invokespecial 52, 3) := by decide +kernel
theorem dL_law_7 : decode cL_law 7 = .ok (.astore_n 1, 1) := by decide +kernel
theorem dL_law_8 : decode cL_law 8 = .ok (.new 53, 3) := by decide +kernel
theorem dL_law_11 : decode cL_law 11 = .ok (.dup, 1) := by decide +kernel
theorem dL_law_12 : decode cL_law 12 = .ok (.invokespecial 55, 3) := by decide +kernel
theorem dL_law_15 : decode cL_law 15 = .ok (.astore_n 2, 1) := by decide +kernel
theorem dL_law_16 : decode cL_law 16 = .ok (.iconst 1, 1) := by decide +kernel
theorem dL_law_17 : decode cL_law 17 = .ok (.newarray .long, 2) := by decide +kernel
theorem dL_law_19 : decode cL_law 19 = .ok (.astore_n 3, 1) := by decide +kernel
theorem dL_law_20 : decode cL_law 20 = .ok (.iconst 0, 1) := by decide +kernel
theorem dL_law_21 : decode cL_law 21 = .ok (.istore 4, 2) := by decide +kernel
theorem dL_law_23 : decode cL_law 23 = .ok (.iload 4, 2) := by decide +kernel
theorem dL_law_25 : decode cL_law 25 = .ok (.aload_n 0, 1) := by decide +kernel
theorem dL_law_26 : decode cL_law 26 = .ok (.arraylength, 1) := by decide +kernel
theorem dL_law_27 : decode cL_law 27 = .ok (.bipush 6, 2) := by decide +kernel
theorem dL_law_29 : decode cL_law 29 = .ok (.isub, 1) := by decide +kernel
theorem dL_law_30 : decode cL_law 30 = .ok (.if_icmp .gt 890, 3) := by decide +kernel
theorem dL_law_33 : decode cL_law 33 = .ok (.aload_n 0, 1) := by decide +kernel
theorem dL_law_34 : decode cL_law 34 = .ok (.iload 4, 2) := by decide +kernel
theorem dL_law_36 : decode cL_law 36 = .ok (.iaload, 1) := by decide +kernel
theorem dL_law_37 : decode cL_law 37 = .ok (.bipush 15, 2) := by decide +kernel
theorem dL_law_39 : decode cL_law 39 = .ok (.iand, 1) := by decide +kernel
theorem dL_law_40 : decode cL_law 40 = .ok (.tableswitch 874 0 14 #[76, 135, 239, 252, 296, 340, 384, 440, 484, 545, 601, 669, 737, 762, 818], 76) := by decide +kernel
theorem dL_law_116 : decode cL_law 116 = .ok (.aload_n 1, 1) := by decide +kernel
theorem dL_law_117 : decode cL_law 117 = .ok (.aload_n 0, 1) := by decide +kernel
theorem dL_law_118 : decode cL_law 118 = .ok (.iload 4, 2) := by decide +kernel
theorem dL_law_120 : decode cL_law 120 = .ok (.iconst 1, 1) := by decide +kernel
theorem dL_law_121 : decode cL_law 121 = .ok (.iadd, 1) := by decide +kernel
theorem dL_law_122 : decode cL_law 122 = .ok (.iaload, 1) := by decide +kernel
theorem dL_law_123 : decode cL_law 123 = .ok (.aload_n 0, 1) := by decide +kernel
theorem dL_law_124 : decode cL_law 124 = .ok (.iload 4, 2) := by decide +kernel
theorem dL_law_126 : decode cL_law 126 = .ok (.iconst 2, 1) := by decide +kernel
theorem dL_law_127 : decode cL_law 127 = .ok (.iadd, 1) := by decide +kernel
theorem dL_law_128 : decode cL_law 128 = .ok (.iaload, 1) := by decide +kernel
theorem dL_law_129 : decode cL_law 129 = .ok (.aload_n 0, 1) := by decide +kernel
theorem dL_law_130 : decode cL_law 130 = .ok (.iload 4, 2) := by decide +kernel
theorem dL_law_132 : decode cL_law 132 = .ok (.iconst 3, 1) := by decide +kernel
theorem dL_law_133 : decode cL_law 133 = .ok (.iadd, 1) := by decide +kernel
theorem dL_law_134 : decode cL_law 134 = .ok (.iaload, 1) := by decide +kernel
theorem dL_law_135 : decode cL_law 135 = .ok (.aload_n 0, 1) := by decide +kernel
theorem dL_law_136 : decode cL_law 136 = .ok (.iload 4, 2) := by decide +kernel
theorem dL_law_138 : decode cL_law 138 = .ok (.iconst 4, 1) := by decide +kernel
theorem dL_law_139 : decode cL_law 139 = .ok (.iadd, 1) := by decide +kernel
theorem dL_law_140 : decode cL_law 140 = .ok (.iaload, 1) := by decide +kernel
theorem dL_law_141 : decode cL_law 141 = .ok (.invokevirtual 56, 3) := by decide +kernel
theorem dL_law_144 : decode cL_law 144 = .ok (.aload_n 2, 1) := by decide +kernel
theorem dL_law_145 : decode cL_law 145 = .ok (.aload_n 0, 1) := by decide +kernel
theorem dL_law_146 : decode cL_law 146 = .ok (.iload 4, 2) := by decide +kernel
theorem dL_law_148 : decode cL_law 148 = .ok (.iconst 1, 1) := by decide +kernel
theorem dL_law_149 : decode cL_law 149 = .ok (.iadd, 1) := by decide +kernel
theorem dL_law_150 : decode cL_law 150 = .ok (.iaload, 1) := by decide +kernel
theorem dL_law_151 : decode cL_law 151 = .ok (.aload_n 0, 1) := by decide +kernel
theorem dL_law_152 : decode cL_law 152 = .ok (.iload 4, 2) := by decide +kernel
theorem dL_law_154 : decode cL_law 154 = .ok (.iconst 2, 1) := by decide +kernel
theorem dL_law_155 : decode cL_law 155 = .ok (.iadd, 1) := by decide +kernel
theorem dL_law_156 : decode cL_law 156 = .ok (.iaload, 1) := by decide +kernel
theorem dL_law_157 : decode cL_law 157 = .ok (.aload_n 0, 1) := by decide +kernel
theorem dL_law_158 : decode cL_law 158 = .ok (.iload 4, 2) := by decide +kernel
theorem dL_law_160 : decode cL_law 160 = .ok (.iconst 3, 1) := by decide +kernel
theorem dL_law_161 : decode cL_law 161 = .ok (.iadd, 1) := by decide +kernel
theorem dL_law_162 : decode cL_law 162 = .ok (.iaload, 1) := by decide +kernel
theorem dL_law_163 : decode cL_law 163 = .ok (.aload_n 0, 1) := by decide +kernel
theorem dL_law_164 : decode cL_law 164 = .ok (.iload 4, 2) := by decide +kernel
theorem dL_law_166 : decode cL_law 166 = .ok (.iconst 4, 1) := by decide +kernel
theorem dL_law_167 : decode cL_law 167 = .ok (.iadd, 1) := by decide +kernel
theorem dL_law_168 : decode cL_law 168 = .ok (.iaload, 1) := by decide +kernel
theorem dL_law_169 : decode cL_law 169 = .ok (.invokevirtual 60, 3) := by decide +kernel
theorem dL_law_172 : decode cL_law 172 = .ok (.goto 742, 3) := by decide +kernel
theorem dL_law_175 : decode cL_law 175 = .ok (.aload_n 1, 1) := by decide +kernel
theorem dL_law_176 : decode cL_law 176 = .ok (.aload_n 0, 1) := by decide +kernel
theorem dL_law_177 : decode cL_law 177 = .ok (.iload 4, 2) := by decide +kernel
theorem dL_law_179 : decode cL_law 179 = .ok (.iconst 1, 1) := by decide +kernel
theorem dL_law_180 : decode cL_law 180 = .ok (.iadd, 1) := by decide +kernel
theorem dL_law_181 : decode cL_law 181 = .ok (.iaload, 1) := by decide +kernel
theorem dL_law_182 : decode cL_law 182 = .ok (.aload_n 0, 1) := by decide +kernel
theorem dL_law_183 : decode cL_law 183 = .ok (.iload 4, 2) := by decide +kernel
theorem dL_law_185 : decode cL_law 185 = .ok (.iconst 2, 1) := by decide +kernel
theorem dL_law_186 : decode cL_law 186 = .ok (.iadd, 1) := by decide +kernel
theorem dL_law_187 : decode cL_law 187 = .ok (.iaload, 1) := by decide +kernel
theorem dL_law_188 : decode cL_law 188 = .ok (.aload_n 0, 1) := by decide +kernel
theorem dL_law_189 : decode cL_law 189 = .ok (.iload 4, 2) := by decide +kernel
theorem dL_law_191 : decode cL_law 191 = .ok (.iconst 3, 1) := by decide +kernel
theorem dL_law_192 : decode cL_law 192 = .ok (.iadd, 1) := by decide +kernel
theorem dL_law_193 : decode cL_law 193 = .ok (.iaload, 1) := by decide +kernel
theorem dL_law_194 : decode cL_law 194 = .ok (.aload_n 0, 1) := by decide +kernel
theorem dL_law_195 : decode cL_law 195 = .ok (.iload 4, 2) := by decide +kernel
theorem dL_law_197 : decode cL_law 197 = .ok (.iconst 4, 1) := by decide +kernel
theorem dL_law_198 : decode cL_law 198 = .ok (.iadd, 1) := by decide +kernel
theorem dL_law_199 : decode cL_law 199 = .ok (.iaload, 1) := by decide +kernel
theorem dL_law_200 : decode cL_law 200 = .ok (.aload_n 0, 1) := by decide +kernel
theorem dL_law_201 : decode cL_law 201 = .ok (.iload 4, 2) := by decide +kernel
theorem dL_law_203 : decode cL_law 203 = .ok (.iconst 5, 1) := by decide +kernel
theorem dL_law_204 : decode cL_law 204 = .ok (.iadd, 1) := by decide +kernel
theorem dL_law_205 : decode cL_law 205 = .ok (.iaload, 1) := by decide +kernel
theorem dL_law_206 : decode cL_law 206 = .ok (.aload_n 3, 1) := by decide +kernel
theorem dL_law_207 : decode cL_law 207 = .ok (.invokestatic 61, 3) := by decide +kernel
theorem dL_law_210 : decode cL_law 210 = .ok (.istore 5, 2) := by decide +kernel
theorem dL_law_212 : decode cL_law 212 = .ok (.aload_n 2, 1) := by decide +kernel
theorem dL_law_213 : decode cL_law 213 = .ok (.aload_n 0, 1) := by decide +kernel
theorem dL_law_214 : decode cL_law 214 = .ok (.iload 4, 2) := by decide +kernel
theorem dL_law_216 : decode cL_law 216 = .ok (.iconst 1, 1) := by decide +kernel
theorem dL_law_217 : decode cL_law 217 = .ok (.iadd, 1) := by decide +kernel
theorem dL_law_218 : decode cL_law 218 = .ok (.iaload, 1) := by decide +kernel
theorem dL_law_219 : decode cL_law 219 = .ok (.aload_n 0, 1) := by decide +kernel
theorem dL_law_220 : decode cL_law 220 = .ok (.iload 4, 2) := by decide +kernel
theorem dL_law_222 : decode cL_law 222 = .ok (.iconst 2, 1) := by decide +kernel
theorem dL_law_223 : decode cL_law 223 = .ok (.iadd, 1) := by decide +kernel
theorem dL_law_224 : decode cL_law 224 = .ok (.iaload, 1) := by decide +kernel
theorem dL_law_225 : decode cL_law 225 = .ok (.aload_n 0, 1) := by decide +kernel
theorem dL_law_226 : decode cL_law 226 = .ok (.iload 4, 2) := by decide +kernel
theorem dL_law_228 : decode cL_law 228 = .ok (.iconst 3, 1) := by decide +kernel
theorem dL_law_229 : decode cL_law 229 = .ok (.iadd, 1) := by decide +kernel
theorem dL_law_230 : decode cL_law 230 = .ok (.iaload, 1) := by decide +kernel
theorem dL_law_231 : decode cL_law 231 = .ok (.aload_n 0, 1) := by decide +kernel
theorem dL_law_232 : decode cL_law 232 = .ok (.iload 4, 2) := by decide +kernel
theorem dL_law_234 : decode cL_law 234 = .ok (.iconst 4, 1) := by decide +kernel
theorem dL_law_235 : decode cL_law 235 = .ok (.iadd, 1) := by decide +kernel
theorem dL_law_236 : decode cL_law 236 = .ok (.iaload, 1) := by decide +kernel
theorem dL_law_237 : decode cL_law 237 = .ok (.aload_n 0, 1) := by decide +kernel
theorem dL_law_238 : decode cL_law 238 = .ok (.iload 4, 2) := by decide +kernel
theorem dL_law_240 : decode cL_law 240 = .ok (.iconst 5, 1) := by decide +kernel
theorem dL_law_241 : decode cL_law 241 = .ok (.iadd, 1) := by decide +kernel
theorem dL_law_242 : decode cL_law 242 = .ok (.iaload, 1) := by decide +kernel
theorem dL_law_243 : decode cL_law 243 = .ok (.invokevirtual 66, 3) := by decide +kernel
theorem dL_law_246 : decode cL_law 246 = .ok (.istore 6, 2) := by decide +kernel
theorem dL_law_248 : decode cL_law 248 = .ok (.aload_n 2, 1) := by decide +kernel
theorem dL_law_249 : decode cL_law 249 = .ok (.invokevirtual 67, 3) := by decide +kernel
theorem dL_law_252 : decode cL_law 252 = .ok (.iload 5, 2) := by decide +kernel
theorem dL_law_254 : decode cL_law 254 = .ok (.if_icmp .eq 5, 3) := by decide +kernel
theorem dL_law_257 : decode cL_law 257 = .ok (.iconst 0, 1) := by decide +kernel
theorem dL_law_258 : decode cL_law 258 = .ok (.ireturn, 1) := by decide +kernel
theorem dL_law_259 : decode cL_law 259 = .ok (.iload 5, 2) := by decide +kernel
theorem dL_law_261 : decode cL_law 261 = .ok (.ifCond .ne 15, 3) := by decide +kernel
theorem dL_law_264 : decode cL_law 264 = .ok (.aload_n 3, 1) := by decide +kernel
theorem dL_law_265 : decode cL_law 265 = .ok (.iconst 0, 1) := by decide +kernel
theorem dL_law_266 : decode cL_law 266 = .ok (.laload, 1) := by decide +kernel
theorem dL_law_267 : decode cL_law 267 = .ok (.iload 6, 2) := by decide +kernel
theorem dL_law_269 : decode cL_law 269 = .ok (.i2l, 1) := by decide +kernel
theorem dL_law_270 : decode cL_law 270 = .ok (.lcmp, 1) := by decide +kernel
theorem dL_law_271 : decode cL_law 271 = .ok (.ifCond .eq 5, 3) := by decide +kernel
theorem dL_law_274 : decode cL_law 274 = .ok (.iconst 0, 1) := by decide +kernel
theorem dL_law_275 : decode cL_law 275 = .ok (.ireturn, 1) := by decide +kernel
theorem dL_law_276 : decode cL_law 276 = .ok (.goto 638, 3) := by decide +kernel
theorem dL_law_279 : decode cL_law 279 = .ok (.aload_n 1, 1) := by decide +kernel
theorem dL_law_280 : decode cL_law 280 = .ok (.invokevirtual 70, 3) := by decide +kernel
theorem dL_law_283 : decode cL_law 283 = .ok (.aload_n 2, 1) := by decide +kernel
theorem dL_law_284 : decode cL_law 284 = .ok (.invokevirtual 73, 3) := by decide +kernel
theorem dL_law_287 : decode cL_law 287 = .ok (.if_icmp .eq 627, 3) := by decide +kernel
theorem dL_law_290 : decode cL_law 290 = .ok (.iconst 0, 1) := by decide +kernel
theorem dL_law_291 : decode cL_law 291 = .ok (.ireturn, 1) := by decide +kernel
theorem dL_law_292 : decode cL_law 292 = .ok (.aload_n 1, 1) := by decide +kernel
theorem dL_law_293 : decode cL_law 293 = .ok (.aload_n 3, 1) := by decide +kernel
theorem dL_law_294 : decode cL_law 294 = .ok (.invokestatic 74, 3) := by decide +kernel
theorem dL_law_297 : decode cL_law 297 = .ok (.istore 5, 2) := by decide +kernel
theorem dL_law_299 : decode cL_law 299 = .ok (.aload_n 2, 1) := by decide +kernel
theorem dL_law_300 : decode cL_law 300 = .ok (.invokevirtual 77, 3) := by decide +kernel
theorem dL_law_303 : decode cL_law 303 = .ok (.istore 6, 2) := by decide +kernel
theorem dL_law_305 : decode cL_law 305 = .ok (.aload_n 2, 1) := by decide +kernel
theorem dL_law_306 : decode cL_law 306 = .ok (.invokevirtual 67, 3) := by decide +kernel
theorem dL_law_309 : decode cL_law 309 = .ok (.iload 5, 2) := by decide +kernel
theorem dL_law_311 : decode cL_law 311 = .ok (.if_icmp .eq 5, 3) := by decide +kernel
theorem dL_law_314 : decode cL_law 314 = .ok (.iconst 0, 1) := by decide +kernel
theorem dL_law_315 : decode cL_law 315 = .ok (.ireturn, 1) := by decide +kernel
theorem dL_law_316 : decode cL_law 316 = .ok (.iload 5, 2) := by decide +kernel
theorem dL_law_318 : decode cL_law 318 = .ok (.ifCond .ne 15, 3) := by decide +kernel
theorem dL_law_321 : decode cL_law 321 = .ok (.aload_n 3, 1) := by decide +kernel
theorem dL_law_322 : decode cL_law 322 = .ok (.iconst 0, 1) := by decide +kernel
theorem dL_law_323 : decode cL_law 323 = .ok (.laload, 1) := by decide +kernel
theorem dL_law_324 : decode cL_law 324 = .ok (.iload 6, 2) := by decide +kernel
theorem dL_law_326 : decode cL_law 326 = .ok (.i2l, 1) := by decide +kernel
theorem dL_law_327 : decode cL_law 327 = .ok (.lcmp, 1) := by decide +kernel
theorem dL_law_328 : decode cL_law 328 = .ok (.ifCond .eq 5, 3) := by decide +kernel
theorem dL_law_331 : decode cL_law 331 = .ok (.iconst 0, 1) := by decide +kernel
theorem dL_law_332 : decode cL_law 332 = .ok (.ireturn, 1) := by decide +kernel
theorem dL_law_333 : decode cL_law 333 = .ok (.goto 581, 3) := by decide +kernel
theorem dL_law_336 : decode cL_law 336 = .ok (.aload_n 1, 1) := by decide +kernel
theorem dL_law_337 : decode cL_law 337 = .ok (.aload_n 3, 1) := by decide +kernel
theorem dL_law_338 : decode cL_law 338 = .ok (.invokestatic 78, 3) := by decide +kernel
theorem dL_law_341 : decode cL_law 341 = .ok (.istore 5, 2) := by decide +kernel
theorem dL_law_343 : decode cL_law 343 = .ok (.aload_n 2, 1) := by decide +kernel
theorem dL_law_344 : decode cL_law 344 = .ok (.invokevirtual 80, 3) := by decide +kernel
theorem dL_law_347 : decode cL_law 347 = .ok (.istore 6, 2) := by decide +kernel
theorem dL_law_349 : decode cL_law 349 = .ok (.aload_n 2, 1) := by decide +kernel
theorem dL_law_350 : decode cL_law 350 = .ok (.invokevirtual 67, 3) := by decide +kernel
theorem dL_law_353 : decode cL_law 353 = .ok (.iload 5, 2) := by decide +kernel
theorem dL_law_355 : decode cL_law 355 = .ok (.if_icmp .eq 5, 3) := by decide +kernel
theorem dL_law_358 : decode cL_law 358 = .ok (.iconst 0, 1) := by decide +kernel
theorem dL_law_359 : decode cL_law 359 = .ok (.ireturn, 1) := by decide +kernel
theorem dL_law_360 : decode cL_law 360 = .ok (.iload 5, 2) := by decide +kernel
theorem dL_law_362 : decode cL_law 362 = .ok (.ifCond .ne 15, 3) := by decide +kernel
theorem dL_law_365 : decode cL_law 365 = .ok (.aload_n 3, 1) := by decide +kernel
theorem dL_law_366 : decode cL_law 366 = .ok (.iconst 0, 1) := by decide +kernel
theorem dL_law_367 : decode cL_law 367 = .ok (.laload, 1) := by decide +kernel
theorem dL_law_368 : decode cL_law 368 = .ok (.iload 6, 2) := by decide +kernel
theorem dL_law_370 : decode cL_law 370 = .ok (.i2l, 1) := by decide +kernel
theorem dL_law_371 : decode cL_law 371 = .ok (.lcmp, 1) := by decide +kernel
theorem dL_law_372 : decode cL_law 372 = .ok (.ifCond .eq 5, 3) := by decide +kernel
theorem dL_law_375 : decode cL_law 375 = .ok (.iconst 0, 1) := by decide +kernel
theorem dL_law_376 : decode cL_law 376 = .ok (.ireturn, 1) := by decide +kernel
theorem dL_law_377 : decode cL_law 377 = .ok (.goto 537, 3) := by decide +kernel
theorem dL_law_380 : decode cL_law 380 = .ok (.aload_n 1, 1) := by decide +kernel
theorem dL_law_381 : decode cL_law 381 = .ok (.aload_n 3, 1) := by decide +kernel
theorem dL_law_382 : decode cL_law 382 = .ok (.invokestatic 81, 3) := by decide +kernel
theorem dL_law_385 : decode cL_law 385 = .ok (.istore 5, 2) := by decide +kernel
theorem dL_law_387 : decode cL_law 387 = .ok (.aload_n 2, 1) := by decide +kernel
theorem dL_law_388 : decode cL_law 388 = .ok (.invokevirtual 83, 3) := by decide +kernel
theorem dL_law_391 : decode cL_law 391 = .ok (.istore 6, 2) := by decide +kernel
theorem dL_law_393 : decode cL_law 393 = .ok (.aload_n 2, 1) := by decide +kernel
theorem dL_law_394 : decode cL_law 394 = .ok (.invokevirtual 67, 3) := by decide +kernel
theorem dL_law_397 : decode cL_law 397 = .ok (.iload 5, 2) := by decide +kernel
theorem dL_law_399 : decode cL_law 399 = .ok (.if_icmp .eq 5, 3) := by decide +kernel
theorem dL_law_402 : decode cL_law 402 = .ok (.iconst 0, 1) := by decide +kernel
theorem dL_law_403 : decode cL_law 403 = .ok (.ireturn, 1) := by decide +kernel
theorem dL_law_404 : decode cL_law 404 = .ok (.iload 5, 2) := by decide +kernel
theorem dL_law_406 : decode cL_law 406 = .ok (.ifCond .ne 15, 3) := by decide +kernel
theorem dL_law_409 : decode cL_law 409 = .ok (.aload_n 3, 1) := by decide +kernel
theorem dL_law_410 : decode cL_law 410 = .ok (.iconst 0, 1) := by decide +kernel
theorem dL_law_411 : decode cL_law 411 = .ok (.laload, 1) := by decide +kernel
theorem dL_law_412 : decode cL_law 412 = .ok (.iload 6, 2) := by decide +kernel
theorem dL_law_414 : decode cL_law 414 = .ok (.i2l, 1) := by decide +kernel
theorem dL_law_415 : decode cL_law 415 = .ok (.lcmp, 1) := by decide +kernel
theorem dL_law_416 : decode cL_law 416 = .ok (.ifCond .eq 5, 3) := by decide +kernel
theorem dL_law_419 : decode cL_law 419 = .ok (.iconst 0, 1) := by decide +kernel
theorem dL_law_420 : decode cL_law 420 = .ok (.ireturn, 1) := by decide +kernel
theorem dL_law_421 : decode cL_law 421 = .ok (.goto 493, 3) := by decide +kernel
theorem dL_law_424 : decode cL_law 424 = .ok (.aload_n 1, 1) := by decide +kernel
theorem dL_law_425 : decode cL_law 425 = .ok (.aload_n 0, 1) := by decide +kernel
theorem dL_law_426 : decode cL_law 426 = .ok (.iload 4, 2) := by decide +kernel
theorem dL_law_428 : decode cL_law 428 = .ok (.iconst 1, 1) := by decide +kernel
theorem dL_law_429 : decode cL_law 429 = .ok (.iadd, 1) := by decide +kernel
theorem dL_law_430 : decode cL_law 430 = .ok (.iaload, 1) := by decide +kernel
theorem dL_law_431 : decode cL_law 431 = .ok (.aload_n 3, 1) := by decide +kernel
theorem dL_law_432 : decode cL_law 432 = .ok (.invokestatic 84, 3) := by decide +kernel
theorem dL_law_435 : decode cL_law 435 = .ok (.istore 5, 2) := by decide +kernel
theorem dL_law_437 : decode cL_law 437 = .ok (.aload_n 2, 1) := by decide +kernel
theorem dL_law_438 : decode cL_law 438 = .ok (.aload_n 0, 1) := by decide +kernel
theorem dL_law_439 : decode cL_law 439 = .ok (.iload 4, 2) := by decide +kernel
theorem dL_law_441 : decode cL_law 441 = .ok (.iconst 1, 1) := by decide +kernel
theorem dL_law_442 : decode cL_law 442 = .ok (.iadd, 1) := by decide +kernel
theorem dL_law_443 : decode cL_law 443 = .ok (.iaload, 1) := by decide +kernel
theorem dL_law_444 : decode cL_law 444 = .ok (.invokevirtual 87, 3) := by decide +kernel
theorem dL_law_447 : decode cL_law 447 = .ok (.istore 6, 2) := by decide +kernel
theorem dL_law_449 : decode cL_law 449 = .ok (.aload_n 2, 1) := by decide +kernel
theorem dL_law_450 : decode cL_law 450 = .ok (.invokevirtual 67, 3) := by decide +kernel
theorem dL_law_453 : decode cL_law 453 = .ok (.iload 5, 2) := by decide +kernel
theorem dL_law_455 : decode cL_law 455 = .ok (.if_icmp .eq 5, 3) := by decide +kernel
theorem dL_law_458 : decode cL_law 458 = .ok (.iconst 0, 1) := by decide +kernel
theorem dL_law_459 : decode cL_law 459 = .ok (.ireturn, 1) := by decide +kernel
theorem dL_law_460 : decode cL_law 460 = .ok (.iload 5, 2) := by decide +kernel
theorem dL_law_462 : decode cL_law 462 = .ok (.ifCond .ne 15, 3) := by decide +kernel
theorem dL_law_465 : decode cL_law 465 = .ok (.aload_n 3, 1) := by decide +kernel
theorem dL_law_466 : decode cL_law 466 = .ok (.iconst 0, 1) := by decide +kernel
theorem dL_law_467 : decode cL_law 467 = .ok (.laload, 1) := by decide +kernel
theorem dL_law_468 : decode cL_law 468 = .ok (.iload 6, 2) := by decide +kernel
theorem dL_law_470 : decode cL_law 470 = .ok (.i2l, 1) := by decide +kernel
theorem dL_law_471 : decode cL_law 471 = .ok (.lcmp, 1) := by decide +kernel
theorem dL_law_472 : decode cL_law 472 = .ok (.ifCond .eq 5, 3) := by decide +kernel
theorem dL_law_475 : decode cL_law 475 = .ok (.iconst 0, 1) := by decide +kernel
theorem dL_law_476 : decode cL_law 476 = .ok (.ireturn, 1) := by decide +kernel
theorem dL_law_477 : decode cL_law 477 = .ok (.goto 437, 3) := by decide +kernel
theorem dL_law_480 : decode cL_law 480 = .ok (.aload_n 1, 1) := by decide +kernel
theorem dL_law_481 : decode cL_law 481 = .ok (.aload_n 3, 1) := by decide +kernel
theorem dL_law_482 : decode cL_law 482 = .ok (.invokestatic 88, 3) := by decide +kernel
theorem dL_law_485 : decode cL_law 485 = .ok (.istore 5, 2) := by decide +kernel
theorem dL_law_487 : decode cL_law 487 = .ok (.aload_n 2, 1) := by decide +kernel
theorem dL_law_488 : decode cL_law 488 = .ok (.invokevirtual 90, 3) := by decide +kernel
theorem dL_law_491 : decode cL_law 491 = .ok (.istore 6, 2) := by decide +kernel
theorem dL_law_493 : decode cL_law 493 = .ok (.aload_n 2, 1) := by decide +kernel
theorem dL_law_494 : decode cL_law 494 = .ok (.invokevirtual 67, 3) := by decide +kernel
theorem dL_law_497 : decode cL_law 497 = .ok (.iload 5, 2) := by decide +kernel
theorem dL_law_499 : decode cL_law 499 = .ok (.if_icmp .eq 5, 3) := by decide +kernel
theorem dL_law_502 : decode cL_law 502 = .ok (.iconst 0, 1) := by decide +kernel
theorem dL_law_503 : decode cL_law 503 = .ok (.ireturn, 1) := by decide +kernel
theorem dL_law_504 : decode cL_law 504 = .ok (.iload 5, 2) := by decide +kernel
theorem dL_law_506 : decode cL_law 506 = .ok (.ifCond .ne 15, 3) := by decide +kernel
theorem dL_law_509 : decode cL_law 509 = .ok (.aload_n 3, 1) := by decide +kernel
theorem dL_law_510 : decode cL_law 510 = .ok (.iconst 0, 1) := by decide +kernel
theorem dL_law_511 : decode cL_law 511 = .ok (.laload, 1) := by decide +kernel
theorem dL_law_512 : decode cL_law 512 = .ok (.iload 6, 2) := by decide +kernel
theorem dL_law_514 : decode cL_law 514 = .ok (.i2l, 1) := by decide +kernel
theorem dL_law_515 : decode cL_law 515 = .ok (.lcmp, 1) := by decide +kernel
theorem dL_law_516 : decode cL_law 516 = .ok (.ifCond .eq 5, 3) := by decide +kernel
theorem dL_law_519 : decode cL_law 519 = .ok (.iconst 0, 1) := by decide +kernel
theorem dL_law_520 : decode cL_law 520 = .ok (.ireturn, 1) := by decide +kernel
theorem dL_law_521 : decode cL_law 521 = .ok (.goto 393, 3) := by decide +kernel
theorem dL_law_524 : decode cL_law 524 = .ok (.aload_n 1, 1) := by decide +kernel
theorem dL_law_525 : decode cL_law 525 = .ok (.aload_n 0, 1) := by decide +kernel
theorem dL_law_526 : decode cL_law 526 = .ok (.iload 4, 2) := by decide +kernel
theorem dL_law_528 : decode cL_law 528 = .ok (.iconst 1, 1) := by decide +kernel
theorem dL_law_529 : decode cL_law 529 = .ok (.iadd, 1) := by decide +kernel
theorem dL_law_530 : decode cL_law 530 = .ok (.iaload, 1) := by decide +kernel
theorem dL_law_531 : decode cL_law 531 = .ok (.aload_n 0, 1) := by decide +kernel
theorem dL_law_532 : decode cL_law 532 = .ok (.iload 4, 2) := by decide +kernel
theorem dL_law_534 : decode cL_law 534 = .ok (.iconst 2, 1) := by decide +kernel
theorem dL_law_535 : decode cL_law 535 = .ok (.iadd, 1) := by decide +kernel
theorem dL_law_536 : decode cL_law 536 = .ok (.iaload, 1) := by decide +kernel
theorem dL_law_537 : decode cL_law 537 = .ok (.aload_n 0, 1) := by decide +kernel
theorem dL_law_538 : decode cL_law 538 = .ok (.iload 4, 2) := by decide +kernel
theorem dL_law_540 : decode cL_law 540 = .ok (.iconst 3, 1) := by decide +kernel
theorem dL_law_541 : decode cL_law 541 = .ok (.iadd, 1) := by decide +kernel
theorem dL_law_542 : decode cL_law 542 = .ok (.iaload, 1) := by decide +kernel
theorem dL_law_543 : decode cL_law 543 = .ok (.aload_n 0, 1) := by decide +kernel
theorem dL_law_544 : decode cL_law 544 = .ok (.iload 4, 2) := by decide +kernel
theorem dL_law_546 : decode cL_law 546 = .ok (.iconst 4, 1) := by decide +kernel
theorem dL_law_547 : decode cL_law 547 = .ok (.iadd, 1) := by decide +kernel
theorem dL_law_548 : decode cL_law 548 = .ok (.iaload, 1) := by decide +kernel
theorem dL_law_549 : decode cL_law 549 = .ok (.invokevirtual 91, 3) := by decide +kernel
theorem dL_law_552 : decode cL_law 552 = .ok (.aload_n 2, 1) := by decide +kernel
theorem dL_law_553 : decode cL_law 553 = .ok (.aload_n 0, 1) := by decide +kernel
theorem dL_law_554 : decode cL_law 554 = .ok (.iload 4, 2) := by decide +kernel
theorem dL_law_556 : decode cL_law 556 = .ok (.iconst 1, 1) := by decide +kernel
theorem dL_law_557 : decode cL_law 557 = .ok (.iadd, 1) := by decide +kernel
theorem dL_law_558 : decode cL_law 558 = .ok (.iaload, 1) := by decide +kernel
theorem dL_law_559 : decode cL_law 559 = .ok (.aload_n 0, 1) := by decide +kernel
theorem dL_law_560 : decode cL_law 560 = .ok (.iload 4, 2) := by decide +kernel
theorem dL_law_562 : decode cL_law 562 = .ok (.iconst 2, 1) := by decide +kernel
theorem dL_law_563 : decode cL_law 563 = .ok (.iadd, 1) := by decide +kernel
theorem dL_law_564 : decode cL_law 564 = .ok (.iaload, 1) := by decide +kernel
theorem dL_law_565 : decode cL_law 565 = .ok (.aload_n 0, 1) := by decide +kernel
theorem dL_law_566 : decode cL_law 566 = .ok (.iload 4, 2) := by decide +kernel
theorem dL_law_568 : decode cL_law 568 = .ok (.iconst 3, 1) := by decide +kernel
theorem dL_law_569 : decode cL_law 569 = .ok (.iadd, 1) := by decide +kernel
theorem dL_law_570 : decode cL_law 570 = .ok (.iaload, 1) := by decide +kernel
theorem dL_law_571 : decode cL_law 571 = .ok (.aload_n 0, 1) := by decide +kernel
theorem dL_law_572 : decode cL_law 572 = .ok (.iload 4, 2) := by decide +kernel
theorem dL_law_574 : decode cL_law 574 = .ok (.iconst 4, 1) := by decide +kernel
theorem dL_law_575 : decode cL_law 575 = .ok (.iadd, 1) := by decide +kernel
theorem dL_law_576 : decode cL_law 576 = .ok (.iaload, 1) := by decide +kernel
theorem dL_law_577 : decode cL_law 577 = .ok (.invokevirtual 95, 3) := by decide +kernel
theorem dL_law_580 : decode cL_law 580 = .ok (.if_icmp .eq 334, 3) := by decide +kernel
theorem dL_law_583 : decode cL_law 583 = .ok (.iconst 0, 1) := by decide +kernel
theorem dL_law_584 : decode cL_law 584 = .ok (.ireturn, 1) := by decide +kernel
theorem dL_law_585 : decode cL_law 585 = .ok (.aload_n 1, 1) := by decide +kernel
theorem dL_law_586 : decode cL_law 586 = .ok (.aload_n 0, 1) := by decide +kernel
theorem dL_law_587 : decode cL_law 587 = .ok (.iload 4, 2) := by decide +kernel
theorem dL_law_589 : decode cL_law 589 = .ok (.iconst 1, 1) := by decide +kernel
theorem dL_law_590 : decode cL_law 590 = .ok (.iadd, 1) := by decide +kernel
theorem dL_law_591 : decode cL_law 591 = .ok (.iaload, 1) := by decide +kernel
theorem dL_law_592 : decode cL_law 592 = .ok (.aload_n 3, 1) := by decide +kernel
theorem dL_law_593 : decode cL_law 593 = .ok (.invokestatic 96, 3) := by decide +kernel
theorem dL_law_596 : decode cL_law 596 = .ok (.istore 5, 2) := by decide +kernel
theorem dL_law_598 : decode cL_law 598 = .ok (.aload_n 2, 1) := by decide +kernel
theorem dL_law_599 : decode cL_law 599 = .ok (.aload_n 0, 1) := by decide +kernel
theorem dL_law_600 : decode cL_law 600 = .ok (.iload 4, 2) := by decide +kernel
theorem dL_law_602 : decode cL_law 602 = .ok (.iconst 1, 1) := by decide +kernel
theorem dL_law_603 : decode cL_law 603 = .ok (.iadd, 1) := by decide +kernel
theorem dL_law_604 : decode cL_law 604 = .ok (.iaload, 1) := by decide +kernel
theorem dL_law_605 : decode cL_law 605 = .ok (.invokevirtual 98, 3) := by decide +kernel
theorem dL_law_608 : decode cL_law 608 = .ok (.istore 6, 2) := by decide +kernel
theorem dL_law_610 : decode cL_law 610 = .ok (.aload_n 2, 1) := by decide +kernel
theorem dL_law_611 : decode cL_law 611 = .ok (.invokevirtual 67, 3) := by decide +kernel
theorem dL_law_614 : decode cL_law 614 = .ok (.iload 5, 2) := by decide +kernel
theorem dL_law_616 : decode cL_law 616 = .ok (.if_icmp .eq 5, 3) := by decide +kernel
theorem dL_law_619 : decode cL_law 619 = .ok (.iconst 0, 1) := by decide +kernel
theorem dL_law_620 : decode cL_law 620 = .ok (.ireturn, 1) := by decide +kernel
theorem dL_law_621 : decode cL_law 621 = .ok (.iload 5, 2) := by decide +kernel
theorem dL_law_623 : decode cL_law 623 = .ok (.ifCond .ne 15, 3) := by decide +kernel
theorem dL_law_626 : decode cL_law 626 = .ok (.aload_n 3, 1) := by decide +kernel
theorem dL_law_627 : decode cL_law 627 = .ok (.iconst 0, 1) := by decide +kernel
theorem dL_law_628 : decode cL_law 628 = .ok (.laload, 1) := by decide +kernel
theorem dL_law_629 : decode cL_law 629 = .ok (.iload 6, 2) := by decide +kernel
theorem dL_law_631 : decode cL_law 631 = .ok (.i2l, 1) := by decide +kernel
theorem dL_law_632 : decode cL_law 632 = .ok (.lcmp, 1) := by decide +kernel
theorem dL_law_633 : decode cL_law 633 = .ok (.ifCond .eq 5, 3) := by decide +kernel
theorem dL_law_636 : decode cL_law 636 = .ok (.iconst 0, 1) := by decide +kernel
theorem dL_law_637 : decode cL_law 637 = .ok (.ireturn, 1) := by decide +kernel
theorem dL_law_638 : decode cL_law 638 = .ok (.goto 276, 3) := by decide +kernel
theorem dL_law_641 : decode cL_law 641 = .ok (.aload_n 1, 1) := by decide +kernel
theorem dL_law_642 : decode cL_law 642 = .ok (.aload_n 0, 1) := by decide +kernel
theorem dL_law_643 : decode cL_law 643 = .ok (.iload 4, 2) := by decide +kernel
theorem dL_law_645 : decode cL_law 645 = .ok (.iconst 1, 1) := by decide +kernel
theorem dL_law_646 : decode cL_law 646 = .ok (.iadd, 1) := by decide +kernel
theorem dL_law_647 : decode cL_law 647 = .ok (.iaload, 1) := by decide +kernel
theorem dL_law_648 : decode cL_law 648 = .ok (.aload_n 0, 1) := by decide +kernel
theorem dL_law_649 : decode cL_law 649 = .ok (.iload 4, 2) := by decide +kernel
theorem dL_law_651 : decode cL_law 651 = .ok (.iconst 2, 1) := by decide +kernel
theorem dL_law_652 : decode cL_law 652 = .ok (.iadd, 1) := by decide +kernel
theorem dL_law_653 : decode cL_law 653 = .ok (.iaload, 1) := by decide +kernel
theorem dL_law_654 : decode cL_law 654 = .ok (.aload_n 3, 1) := by decide +kernel
theorem dL_law_655 : decode cL_law 655 = .ok (.invokestatic 99, 3) := by decide +kernel
theorem dL_law_658 : decode cL_law 658 = .ok (.istore 5, 2) := by decide +kernel
theorem dL_law_660 : decode cL_law 660 = .ok (.aload_n 2, 1) := by decide +kernel
theorem dL_law_661 : decode cL_law 661 = .ok (.aload_n 0, 1) := by decide +kernel
theorem dL_law_662 : decode cL_law 662 = .ok (.iload 4, 2) := by decide +kernel
theorem dL_law_664 : decode cL_law 664 = .ok (.iconst 1, 1) := by decide +kernel
theorem dL_law_665 : decode cL_law 665 = .ok (.iadd, 1) := by decide +kernel
theorem dL_law_666 : decode cL_law 666 = .ok (.iaload, 1) := by decide +kernel
theorem dL_law_667 : decode cL_law 667 = .ok (.aload_n 0, 1) := by decide +kernel
theorem dL_law_668 : decode cL_law 668 = .ok (.iload 4, 2) := by decide +kernel
theorem dL_law_670 : decode cL_law 670 = .ok (.iconst 2, 1) := by decide +kernel
theorem dL_law_671 : decode cL_law 671 = .ok (.iadd, 1) := by decide +kernel
theorem dL_law_672 : decode cL_law 672 = .ok (.iaload, 1) := by decide +kernel
theorem dL_law_673 : decode cL_law 673 = .ok (.invokevirtual 102, 3) := by decide +kernel
theorem dL_law_676 : decode cL_law 676 = .ok (.istore 6, 2) := by decide +kernel
theorem dL_law_678 : decode cL_law 678 = .ok (.aload_n 2, 1) := by decide +kernel
theorem dL_law_679 : decode cL_law 679 = .ok (.invokevirtual 67, 3) := by decide +kernel
theorem dL_law_682 : decode cL_law 682 = .ok (.iload 5, 2) := by decide +kernel
theorem dL_law_684 : decode cL_law 684 = .ok (.if_icmp .eq 5, 3) := by decide +kernel
theorem dL_law_687 : decode cL_law 687 = .ok (.iconst 0, 1) := by decide +kernel
theorem dL_law_688 : decode cL_law 688 = .ok (.ireturn, 1) := by decide +kernel
theorem dL_law_689 : decode cL_law 689 = .ok (.iload 5, 2) := by decide +kernel
theorem dL_law_691 : decode cL_law 691 = .ok (.ifCond .ne 15, 3) := by decide +kernel
theorem dL_law_694 : decode cL_law 694 = .ok (.aload_n 3, 1) := by decide +kernel
theorem dL_law_695 : decode cL_law 695 = .ok (.iconst 0, 1) := by decide +kernel
theorem dL_law_696 : decode cL_law 696 = .ok (.laload, 1) := by decide +kernel
theorem dL_law_697 : decode cL_law 697 = .ok (.iload 6, 2) := by decide +kernel
theorem dL_law_699 : decode cL_law 699 = .ok (.i2l, 1) := by decide +kernel
theorem dL_law_700 : decode cL_law 700 = .ok (.lcmp, 1) := by decide +kernel
theorem dL_law_701 : decode cL_law 701 = .ok (.ifCond .eq 5, 3) := by decide +kernel
theorem dL_law_704 : decode cL_law 704 = .ok (.iconst 0, 1) := by decide +kernel
theorem dL_law_705 : decode cL_law 705 = .ok (.ireturn, 1) := by decide +kernel
theorem dL_law_706 : decode cL_law 706 = .ok (.goto 208, 3) := by decide +kernel
theorem dL_law_709 : decode cL_law 709 = .ok (.aload_n 1, 1) := by decide +kernel
theorem dL_law_710 : decode cL_law 710 = .ok (.aload_n 0, 1) := by decide +kernel
theorem dL_law_711 : decode cL_law 711 = .ok (.iload 4, 2) := by decide +kernel
theorem dL_law_713 : decode cL_law 713 = .ok (.iconst 1, 1) := by decide +kernel
theorem dL_law_714 : decode cL_law 714 = .ok (.iadd, 1) := by decide +kernel
theorem dL_law_715 : decode cL_law 715 = .ok (.iaload, 1) := by decide +kernel
theorem dL_law_716 : decode cL_law 716 = .ok (.aload_n 0, 1) := by decide +kernel
theorem dL_law_717 : decode cL_law 717 = .ok (.iload 4, 2) := by decide +kernel
theorem dL_law_719 : decode cL_law 719 = .ok (.iconst 2, 1) := by decide +kernel
theorem dL_law_720 : decode cL_law 720 = .ok (.iadd, 1) := by decide +kernel
theorem dL_law_721 : decode cL_law 721 = .ok (.iaload, 1) := by decide +kernel
theorem dL_law_722 : decode cL_law 722 = .ok (.aload_n 3, 1) := by decide +kernel
theorem dL_law_723 : decode cL_law 723 = .ok (.invokestatic 103, 3) := by decide +kernel
theorem dL_law_726 : decode cL_law 726 = .ok (.istore 5, 2) := by decide +kernel
theorem dL_law_728 : decode cL_law 728 = .ok (.aload_n 2, 1) := by decide +kernel
theorem dL_law_729 : decode cL_law 729 = .ok (.aload_n 0, 1) := by decide +kernel
theorem dL_law_730 : decode cL_law 730 = .ok (.iload 4, 2) := by decide +kernel
theorem dL_law_732 : decode cL_law 732 = .ok (.iconst 1, 1) := by decide +kernel
theorem dL_law_733 : decode cL_law 733 = .ok (.iadd, 1) := by decide +kernel
theorem dL_law_734 : decode cL_law 734 = .ok (.iaload, 1) := by decide +kernel
theorem dL_law_735 : decode cL_law 735 = .ok (.aload_n 0, 1) := by decide +kernel
theorem dL_law_736 : decode cL_law 736 = .ok (.iload 4, 2) := by decide +kernel
theorem dL_law_738 : decode cL_law 738 = .ok (.iconst 2, 1) := by decide +kernel
theorem dL_law_739 : decode cL_law 739 = .ok (.iadd, 1) := by decide +kernel
theorem dL_law_740 : decode cL_law 740 = .ok (.iaload, 1) := by decide +kernel
theorem dL_law_741 : decode cL_law 741 = .ok (.invokevirtual 105, 3) := by decide +kernel
theorem dL_law_744 : decode cL_law 744 = .ok (.istore 6, 2) := by decide +kernel
theorem dL_law_746 : decode cL_law 746 = .ok (.aload_n 2, 1) := by decide +kernel
theorem dL_law_747 : decode cL_law 747 = .ok (.invokevirtual 67, 3) := by decide +kernel
theorem dL_law_750 : decode cL_law 750 = .ok (.iload 5, 2) := by decide +kernel
theorem dL_law_752 : decode cL_law 752 = .ok (.if_icmp .eq 5, 3) := by decide +kernel
theorem dL_law_755 : decode cL_law 755 = .ok (.iconst 0, 1) := by decide +kernel
theorem dL_law_756 : decode cL_law 756 = .ok (.ireturn, 1) := by decide +kernel
theorem dL_law_757 : decode cL_law 757 = .ok (.iload 5, 2) := by decide +kernel
theorem dL_law_759 : decode cL_law 759 = .ok (.ifCond .ne 15, 3) := by decide +kernel
theorem dL_law_762 : decode cL_law 762 = .ok (.aload_n 3, 1) := by decide +kernel
theorem dL_law_763 : decode cL_law 763 = .ok (.iconst 0, 1) := by decide +kernel
theorem dL_law_764 : decode cL_law 764 = .ok (.laload, 1) := by decide +kernel
theorem dL_law_765 : decode cL_law 765 = .ok (.iload 6, 2) := by decide +kernel
theorem dL_law_767 : decode cL_law 767 = .ok (.i2l, 1) := by decide +kernel
theorem dL_law_768 : decode cL_law 768 = .ok (.lcmp, 1) := by decide +kernel
theorem dL_law_769 : decode cL_law 769 = .ok (.ifCond .eq 5, 3) := by decide +kernel
theorem dL_law_772 : decode cL_law 772 = .ok (.iconst 0, 1) := by decide +kernel
theorem dL_law_773 : decode cL_law 773 = .ok (.ireturn, 1) := by decide +kernel
theorem dL_law_774 : decode cL_law 774 = .ok (.goto 140, 3) := by decide +kernel
theorem dL_law_777 : decode cL_law 777 = .ok (.aload_n 1, 1) := by decide +kernel
theorem dL_law_778 : decode cL_law 778 = .ok (.aload_n 0, 1) := by decide +kernel
theorem dL_law_779 : decode cL_law 779 = .ok (.iload 4, 2) := by decide +kernel
theorem dL_law_781 : decode cL_law 781 = .ok (.iconst 1, 1) := by decide +kernel
theorem dL_law_782 : decode cL_law 782 = .ok (.iadd, 1) := by decide +kernel
theorem dL_law_783 : decode cL_law 783 = .ok (.iaload, 1) := by decide +kernel
theorem dL_law_784 : decode cL_law 784 = .ok (.invokevirtual 106, 3) := by decide +kernel
theorem dL_law_787 : decode cL_law 787 = .ok (.aload_n 2, 1) := by decide +kernel
theorem dL_law_788 : decode cL_law 788 = .ok (.aload_n 0, 1) := by decide +kernel
theorem dL_law_789 : decode cL_law 789 = .ok (.iload 4, 2) := by decide +kernel
theorem dL_law_791 : decode cL_law 791 = .ok (.iconst 1, 1) := by decide +kernel
theorem dL_law_792 : decode cL_law 792 = .ok (.iadd, 1) := by decide +kernel
theorem dL_law_793 : decode cL_law 793 = .ok (.iaload, 1) := by decide +kernel
theorem dL_law_794 : decode cL_law 794 = .ok (.invokevirtual 109, 3) := by decide +kernel
theorem dL_law_797 : decode cL_law 797 = .ok (.if_icmp .eq 117, 3) := by decide +kernel
theorem dL_law_800 : decode cL_law 800 = .ok (.iconst 0, 1) := by decide +kernel
theorem dL_law_801 : decode cL_law 801 = .ok (.ireturn, 1) := by decide +kernel
theorem dL_law_802 : decode cL_law 802 = .ok (.aload_n 1, 1) := by decide +kernel
theorem dL_law_803 : decode cL_law 803 = .ok (.aload_n 0, 1) := by decide +kernel
theorem dL_law_804 : decode cL_law 804 = .ok (.iload 4, 2) := by decide +kernel
theorem dL_law_806 : decode cL_law 806 = .ok (.iconst 1, 1) := by decide +kernel
theorem dL_law_807 : decode cL_law 807 = .ok (.iadd, 1) := by decide +kernel
theorem dL_law_808 : decode cL_law 808 = .ok (.iaload, 1) := by decide +kernel
theorem dL_law_809 : decode cL_law 809 = .ok (.aload_n 3, 1) := by decide +kernel
theorem dL_law_810 : decode cL_law 810 = .ok (.invokestatic 110, 3) := by decide +kernel
theorem dL_law_813 : decode cL_law 813 = .ok (.istore 5, 2) := by decide +kernel
theorem dL_law_815 : decode cL_law 815 = .ok (.aload_n 2, 1) := by decide +kernel
theorem dL_law_816 : decode cL_law 816 = .ok (.aload_n 0, 1) := by decide +kernel
theorem dL_law_817 : decode cL_law 817 = .ok (.iload 4, 2) := by decide +kernel
theorem dL_law_819 : decode cL_law 819 = .ok (.iconst 1, 1) := by decide +kernel
theorem dL_law_820 : decode cL_law 820 = .ok (.iadd, 1) := by decide +kernel
theorem dL_law_821 : decode cL_law 821 = .ok (.iaload, 1) := by decide +kernel
theorem dL_law_822 : decode cL_law 822 = .ok (.invokevirtual 112, 3) := by decide +kernel
theorem dL_law_825 : decode cL_law 825 = .ok (.istore 6, 2) := by decide +kernel
theorem dL_law_827 : decode cL_law 827 = .ok (.aload_n 2, 1) := by decide +kernel
theorem dL_law_828 : decode cL_law 828 = .ok (.invokevirtual 67, 3) := by decide +kernel
theorem dL_law_831 : decode cL_law 831 = .ok (.iload 5, 2) := by decide +kernel
theorem dL_law_833 : decode cL_law 833 = .ok (.if_icmp .eq 5, 3) := by decide +kernel
theorem dL_law_836 : decode cL_law 836 = .ok (.iconst 0, 1) := by decide +kernel
theorem dL_law_837 : decode cL_law 837 = .ok (.ireturn, 1) := by decide +kernel
theorem dL_law_838 : decode cL_law 838 = .ok (.iload 5, 2) := by decide +kernel
theorem dL_law_840 : decode cL_law 840 = .ok (.ifCond .ne 15, 3) := by decide +kernel
theorem dL_law_843 : decode cL_law 843 = .ok (.aload_n 3, 1) := by decide +kernel
theorem dL_law_844 : decode cL_law 844 = .ok (.iconst 0, 1) := by decide +kernel
theorem dL_law_845 : decode cL_law 845 = .ok (.laload, 1) := by decide +kernel
theorem dL_law_846 : decode cL_law 846 = .ok (.iload 6, 2) := by decide +kernel
theorem dL_law_848 : decode cL_law 848 = .ok (.i2l, 1) := by decide +kernel
theorem dL_law_849 : decode cL_law 849 = .ok (.lcmp, 1) := by decide +kernel
theorem dL_law_850 : decode cL_law 850 = .ok (.ifCond .eq 5, 3) := by decide +kernel
theorem dL_law_853 : decode cL_law 853 = .ok (.iconst 0, 1) := by decide +kernel
theorem dL_law_854 : decode cL_law 854 = .ok (.ireturn, 1) := by decide +kernel
theorem dL_law_855 : decode cL_law 855 = .ok (.goto 59, 3) := by decide +kernel
theorem dL_law_858 : decode cL_law 858 = .ok (.aload_n 1, 1) := by decide +kernel
theorem dL_law_859 : decode cL_law 859 = .ok (.aload_n 0, 1) := by decide +kernel
theorem dL_law_860 : decode cL_law 860 = .ok (.iload 4, 2) := by decide +kernel
theorem dL_law_862 : decode cL_law 862 = .ok (.iconst 1, 1) := by decide +kernel
theorem dL_law_863 : decode cL_law 863 = .ok (.iadd, 1) := by decide +kernel
theorem dL_law_864 : decode cL_law 864 = .ok (.iaload, 1) := by decide +kernel
theorem dL_law_865 : decode cL_law 865 = .ok (.aload_n 3, 1) := by decide +kernel
theorem dL_law_866 : decode cL_law 866 = .ok (.invokestatic 113, 3) := by decide +kernel
theorem dL_law_869 : decode cL_law 869 = .ok (.istore 5, 2) := by decide +kernel
theorem dL_law_871 : decode cL_law 871 = .ok (.aload_n 2, 1) := by decide +kernel
theorem dL_law_872 : decode cL_law 872 = .ok (.aload_n 0, 1) := by decide +kernel
theorem dL_law_873 : decode cL_law 873 = .ok (.iload 4, 2) := by decide +kernel
theorem dL_law_875 : decode cL_law 875 = .ok (.iconst 1, 1) := by decide +kernel
theorem dL_law_876 : decode cL_law 876 = .ok (.iadd, 1) := by decide +kernel
theorem dL_law_877 : decode cL_law 877 = .ok (.iaload, 1) := by decide +kernel
theorem dL_law_878 : decode cL_law 878 = .ok (.invokevirtual 115, 3) := by decide +kernel
theorem dL_law_881 : decode cL_law 881 = .ok (.istore 6, 2) := by decide +kernel
theorem dL_law_883 : decode cL_law 883 = .ok (.aload_n 2, 1) := by decide +kernel
theorem dL_law_884 : decode cL_law 884 = .ok (.invokevirtual 67, 3) := by decide +kernel
theorem dL_law_887 : decode cL_law 887 = .ok (.iload 5, 2) := by decide +kernel
theorem dL_law_889 : decode cL_law 889 = .ok (.if_icmp .eq 5, 3) := by decide +kernel
theorem dL_law_892 : decode cL_law 892 = .ok (.iconst 0, 1) := by decide +kernel
theorem dL_law_893 : decode cL_law 893 = .ok (.ireturn, 1) := by decide +kernel
theorem dL_law_894 : decode cL_law 894 = .ok (.iload 5, 2) := by decide +kernel
theorem dL_law_896 : decode cL_law 896 = .ok (.ifCond .ne 15, 3) := by decide +kernel
theorem dL_law_899 : decode cL_law 899 = .ok (.aload_n 3, 1) := by decide +kernel
theorem dL_law_900 : decode cL_law 900 = .ok (.iconst 0, 1) := by decide +kernel
theorem dL_law_901 : decode cL_law 901 = .ok (.laload, 1) := by decide +kernel
theorem dL_law_902 : decode cL_law 902 = .ok (.iload 6, 2) := by decide +kernel
theorem dL_law_904 : decode cL_law 904 = .ok (.i2l, 1) := by decide +kernel
theorem dL_law_905 : decode cL_law 905 = .ok (.lcmp, 1) := by decide +kernel
theorem dL_law_906 : decode cL_law 906 = .ok (.ifCond .eq 5, 3) := by decide +kernel
theorem dL_law_909 : decode cL_law 909 = .ok (.iconst 0, 1) := by decide +kernel
theorem dL_law_910 : decode cL_law 910 = .ok (.ireturn, 1) := by decide +kernel
theorem dL_law_911 : decode cL_law 911 = .ok (.goto 3, 3) := by decide +kernel
theorem dL_law_914 : decode cL_law 914 = .ok (.iinc 4 6, 3) := by decide +kernel
theorem dL_law_917 : decode cL_law 917 = .ok (.goto (-894), 3) := by decide +kernel
theorem dL_law_920 : decode cL_law 920 = .ok (.iconst 1, 1) := by decide +kernel
theorem dL_law_921 : decode cL_law 921 = .ok (.ireturn, 1) := by decide +kernel
abbrev vwCl : List vw_C := [(RX0, TX0, 3), (RX1, TX1, 4), (RX2, TX2, 2), (RX3, TX3, 9), (RX4, TX4, 10), (RX5, TX5, 30)]
