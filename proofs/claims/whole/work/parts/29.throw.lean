/-! ===== methods that throw, and bodies that catch ===== -/
def nmX : List String := ["java/lang/RuntimeException", "java/lang/Exception"]
def eIA : String := "java/lang/IllegalArgumentException"
def eIS : String := "java/lang/IllegalStateException"
def eIB : String := "java/lang/IndexOutOfBoundsException"
theorem hat_IA {args : Array Value} {s : State} (hts : ∀ w ∈ wsA, w.before args s = true) (h : fX s) : ∀ w ∈ vx_atS RX4 77 eIA nmX, w.before args s = true :=
  vx_hat (B := [.castable eIA eIA, .declares (Bundle.initS "java/lang/RuntimeException"), .declares (Bundle.initS "java/lang/Exception"), .declares (Bundle.initS Bundle.tN)]) (fun w hw => hts w (in_wx_0 w hw)) (by decide +kernel) (vx_c (va_Nw.use rfl h.1) (vx_c (va_Nw.use rfl h.2.2.2.2.2.1) (vx_c (va_Nw.use rfl h.2.2.2.2.2.2.1) (vx_c (va_Nw.use rfl h.2.2.2.2.2.2.2) vx_n))))
theorem hat_IS {args : Array Value} {s : State} (hts : ∀ w ∈ wsA, w.before args s = true) (h : fX s) : ∀ w ∈ vx_atS RX4 84 eIS nmX, w.before args s = true :=
  vx_hat (B := [.castable eIS eIS, .declares (Bundle.initS "java/lang/RuntimeException"), .declares (Bundle.initS "java/lang/Exception"), .declares (Bundle.initS Bundle.tN)]) (fun w hw => hts w (in_wx_1 w hw)) (by decide +kernel) (vx_c (va_Nw.use rfl h.2.1) (vx_c (va_Nw.use rfl h.2.2.2.2.2.1) (vx_c (va_Nw.use rfl h.2.2.2.2.2.2.1) (vx_c (va_Nw.use rfl h.2.2.2.2.2.2.2) vx_n))))
theorem hat_IB {args : Array Value} {s : State} (hts : ∀ w ∈ wsA, w.before args s = true) (h : fX s) : ∀ w ∈ vx_atS RX4 150 eIB nmX, w.before args s = true :=
  vx_hat (B := [.castable eIB eIB, .declares (Bundle.initS "java/lang/RuntimeException"), .declares (Bundle.initS "java/lang/Exception"), .declares (Bundle.initS Bundle.tN)]) (fun w hw => hts w (in_wx_2 w hw)) (by decide +kernel) (vx_c (va_Nw.use rfl h.2.2.1) (vx_c (va_Nw.use rfl h.2.2.2.2.2.1) (vx_c (va_Nw.use rfl h.2.2.2.2.2.2.1) (vx_c (va_Nw.use rfl h.2.2.2.2.2.2.2) vx_n))))
theorem hg_IA : ∀ w ∈ Cond.classLink RX4 73 eIA :: Cond.initialized eIA :: vx_atS RX4 77 eIA nmX, vx_ot w = true := by decide +kernel
theorem hg_IS : ∀ w ∈ Cond.classLink RX4 80 eIS :: Cond.initialized eIS :: vx_atS RX4 84 eIS nmX, vx_ot w = true := by decide +kernel
theorem hg_IB : ∀ w ∈ Cond.classLink RX4 146 eIB :: Cond.initialized eIB :: vx_atS RX4 150 eIB nmX, vx_ot w = true := by decide +kernel
/-- a contract: it throws E, and the world stays -/
def fMX (l : Launch) (y : MethodName) (wsy : List Cond) (rm : Room) (G : fG) (av : List Value) (wc : va_W) (E : String) : Prop :=
  ∀ sz : Nat, vx_Met l y wsy rm (fP G av wc sz) (fun _ _ _ _ => False) (fun E' st t => E' = E ∧ fB G (va_A wc sz) wc t ∧ va_F (va_A wc sz) st t) 1 6 (va_A wc sz)
theorem fX_start {l : Launch} {y : MethodName} {wsy : List Cond} {cc : ByteArray} {maxL : Nat} {ty : FieldType} {rm : Room} {G : fG} {av : List Value} {wc : va_W} {E : String}
    (hfl : l.stackTraces = false) (hy : plainName y.cls = true) (hw : wsy = Cond.code y cc maxL (some ty) :: wsA) (hav : (lg_sl av).length ≤ maxL) (hown : y.cls = RX4) (hcls : Bundle.fit E = true) (hr1 : 5 < rm.frames) (hr2 : 90 ≤ rm.locals) (hr3 : 1 ≤ rm.cells) (hr4 : 6 ≤ rm.slots)
    (body : ∀ (p : Program) (e : Env) (s : State) (m : MethodId) (args : Array Value) (below : List Frame) (meth : Method) (c : Code) (A : Nat → Prop) (Q : State → Prop) (ls : Array Slot),
      p.tables.exec = Jvm.exec → c.code = cc → c.maxLocals = maxL → s.vm.findClass y.cls = some m.cls → (∀ w ∈ wsA, w.before args s = true) → meth.name = y.name → fK G s → va_P G.1 vwCl wc s.heap → va_D A wc → fE G A s s.heap → (∀ q : Nat, s.heap.size ≤ q → A q) → va_S A s.heap s.heap [] → lv_has ls maxL (lv_args 0 av) →
      (∀ (pc ik is ic : Nat) (text : String) (H : Heap) (locs : List Loc) (ls : Array Slot), Cond.classLink RX4 ik E ∈ wsA → Cond.initialized E ∈ wsA → (∀ w ∈ vx_atS RX4 ic E nmX, w.before args s = true) → (∀ w ∈ Cond.classLink RX4 ik E :: Cond.initialized E :: vx_atS RX4 ic E nmX, vx_ot w = true) → (is, text) ∈ fTx → ls.size = maxL →
        decode cc pc = .ok (.new ik, 3) → decode cc (pc + 3) = .ok (.dup, 1) → decode cc (pc + 4) = .ok (.ldc is, 2) → decode cc (pc + 6) = .ok (.invokespecial ic, 3) → decode cc (pc + 9) = .ok (.athrow, 1) → va_P G.1 vwCl wc H → va_D A wc → va_S A s.heap H locs → W p l e rm s m args below meth c H locs 0 0 Q (F0 m pc ls [])) →
      W p l e rm s m args below meth c s.heap [] 0 0 Q (F0 m 0 ls [])) : fMX l y wsy rm G av wc E := by
  intro sz
  refine vx_ofW (cc := cc) (maxL := maxL) (ret := some ty) hy hw ?_
  intro p e s m args below meth c s₁ B hml htab hv
  obtain ⟨rfl, hsz, hP, hK, hD0, hE⟩ := hv
  subst hsz
  have hownc : s.vm.findClass RX4 = some m.cls := by rw [← hown]; exact findClass_of_methodNamed B.named
  have hts : ∀ w ∈ wsA, w.before av.toArray s = true := fun w h => atoms_spec (ws := wsy) B.pre w (by rw [hw]; exact List.mem_cons_of_mem _ h)
  rw [lg_entry_eq]
  refine body p e s m _ below meth c (va_A wc s.heap.size) _ _ B.exec B.bytes hml (findClass_of_methodNamed B.named) hts (name_of_methodNamed B.named B.method).1 hK hP (hD0.self) hE (fun q h => Or.inr h) va_S.rf (lv_entry av hav) ?_
  intro pc ik is ic text H locs ls hk hini hat hgood htx hls d0 d3 d4 d6 d9 hP1 hD1 hS1
  obtain ⟨sa, hstr⟩ := hE.2.2.2.2.2.2.1 (is, text) htx
  exact vx_throwS (names := nmX) (sa := sa) (text := text) (A := va_A wc s.heap.size) B.exec B.bytes hfl hownc hcls (by decide +kernel) (hts _ hk) (hts _ hini) hstr hat hgood hE.2.2.2.2.1 hE.2.2.2.2.2.1 hS1 (hls.trans hml.symm) d0 d3 d4 d6 d9 (fun x hx => absurd (htab x hx) id) hr1 (Nat.le_trans (by decide) hr2) hr3 hr4 B.notSynchronized
    (fun t hvm hz hk9 => ⟨rfl, ⟨hP1.kept (fun k q hq => hk9 q.1 ((hP1 k q hq).lt)), hD1⟩, ⟨Nat.le_trans hS1.1 hz, fun q h1 h2 => (hk9 q (Nat.lt_of_lt_of_le h1 hS1.1)).trans (hS1.2.1 q h1 h2)⟩⟩) hS1.2.2 (Nat.le_refl _) (Nat.le_refl _)
/-- a body with a table: its contract is said as any other's -/
theorem f_ofWH {l : Launch} {y : MethodName} {ws ws' : List Cond} {rm : Room} {Pc : Array Value → State → Prop} {Qc : Array Value → State → Outcome → State → Prop} {mc ms : Nat} {free : Addr → Prop} {cc : ByteArray} {maxL : Nat} {ret : Option FieldType} {hh : List (Nat × Nat × Nat × Nat)}
    (hy : plainName y.cls = true) (hw : ws = Cond.codeWith y cc maxL ret hh :: ws')
    (body : ∀ p e s m args below meth c s₁, BodyLoose p l y (headSpec ws rm) cc maxL ret e s m args below meth c s₁ → c.maxLocals = maxL → Pc args s →
      W p l e (headSpec ws rm).room s m args below meth c s.heap [] 0 0 (MQ below Qc args s mc ms free) (entryFrame m args maxL)) : Met l y ws rm Pc Qc mc ms free := by
  refine MetFree.of_bodyS (code := cc) (maxLocals := maxL) (ret := ret) hy ?_ ?_
  · intro args s m h hn
    obtain ⟨m9, meth, c, hn9, h1, h2, h3, h4, -, h5, h6, -⟩ := Cond.codeWith_spec (atoms_spec (ws := ws) h _ (by rw [hw]; exact List.mem_cons_self))
    cases hn.symm.trans hn9
    exact ⟨meth, c, h1, h2, h3, h4, h5, h6⟩
  · intro p e s m args below meth c s₁ B hml hP _
    have hh0 : s₁.heap = s.heap := by rw [B.state]; rfl
    obtain ⟨t, a1, o, b1, b2, b3⟩ := body p e s m args below meth c s₁ B hml hP s₁ hh0 (Stand.of_body B)
    exact ⟨t, o, a1, b1, b2, ⟨b3.1, b3.2⟩⟩
theorem fH_start {l : Launch} {y : MethodName} {wsy : List Cond} {cc : ByteArray} {maxL : Nat} {hh : List (Nat × Nat × Nat × Nat)} {rm : Room} {G : fG} {av : List Value} {wc : va_W} {S : Type} {post : Int32 → S → Prop} {w1 : S → va_W} {mc ms : Nat}
    (hy : plainName y.cls = true) (hw : wsy = Cond.codeWith y cc maxL (some .int) hh :: wsA) (hav : (lg_sl av).length ≤ maxL)
    (body : ∀ (p : Program) (e : Env) (s : State) (m : MethodId) (args : Array Value) (below : List Frame) (meth : Method) (c : Code) (A : Nat → Prop) (Q : State → Prop) (ls : Array Slot),
      p.tables.exec = Jvm.exec → c.code = cc → c.maxLocals = maxL → s.vm.findClass y.cls = some m.cls → (∀ w ∈ wsA, w.before args s = true) → c.exceptionTable.toList = tableOf hh → fK G s → va_P G.1 vwCl wc s.heap → va_D A wc → fE G A s s.heap → (∀ q : Nat, s.heap.size ≤ q → A q) → va_S A s.heap s.heap [] → lv_has ls maxL (lv_args 0 av) →
      (∀ (v : Int32) (u : S) (H : Heap) (locs : List Loc) (pc : Nat) (ls : Array Slot), narrow .int (.int v) = .int v → post v u → va_P G.1 vwCl (w1 u) H → va_D A (w1 u) → va_S A s.heap H locs → decode cc pc = .ok (.ireturn, 1) → W p l e rm s m args below meth c H locs mc ms Q (F0 m pc ls [.int v])) →
      W p l e rm s m args below meth c s.heap [] 0 0 Q (F0 m 0 ls [])) : fMI l y wsy rm G av wc post w1 mc ms := by
  intro sz
  refine f_ofWH (cc := cc) (maxL := maxL) (ret := some .int) hy hw ?_
  intro p e s m args below meth c s₁ B hml hv
  obtain ⟨rfl, hsz, hP, hK, hD0, hE⟩ := hv
  subst hsz
  have hr := B.returns
  have hcw : (Cond.codeWith y cc maxL (some .int) hh).before av.toArray s = true := atoms_spec (ws := wsy) B.pre _ (by rw [hw]; exact List.mem_cons_self)
  rw [lg_entry_eq]
  exact body p e s m _ below meth c (va_A wc s.heap.size) _ _ B.exec B.bytes hml (findClass_of_methodNamed B.named) (fun w h => atoms_spec (ws := wsy) B.pre w (by rw [hw]; exact List.mem_cons_of_mem _ h)) (vx_table (x := y) B hcw) hK hP (hD0.self) hE (fun q h => Or.inr h) va_S.rf (lv_entry av hav)
    (fun v u H locs pc ls hn hp hP1 hD1 hS1 hdg => W.zret B.exec B.bytes hr hn (fun t ht hW => ⟨⟨v, u, rfl, hp, ⟨by rw [ht]; exact hP1, hD1⟩⟩, hS1.F ht⟩) hS1.2.2 hdg B.notSynchronized)
section FT
variable {p : Program} {l : Launch} {e : Env} {R : Room} {s : State} {m : MethodId} {args : Array Value} {below : List Frame} {meth : Method} {c : Code} {H : Heap} {locs : List Loc} {cells slots : Nat} {Q : State → Prop}
variable {cc : ByteArray} {pc : Nat} {ls : Array Slot} {rest st0 : List Value} {A : Nat → Prop} {G : fG} {ws wc wr : va_W} {y : MethodName} {wsy Ts : List Cond} {rm : Room} {b nL maxL mc ms n index ci : Nat} {As av : List Value} {own C : String} {bytes : ByteArray} {ret : Option FieldType} {S : Type} {w1 ws1 : S → va_W}
/-- a call that throws: the world is as it was -/
theorem fcX {T : u_T} {N : Nat} {fs : List Value} {E : String} (F : CallFix p m c cc nL s args Ts own) (hK : fK G s) (hE : fE G A s s.heap) (hP : va_P G.1 vwCl ws H) (hD : va_D A ws) (hS : va_S A s.heap H locs) (hA : ∀ q : Nat, s.heap.size ≤ q → A q) (hsz : ls.size = nL)
    (hM : fMX l y wsy rm G (.ref b :: As) wc E) (cw : CallW R s args own C index y bytes maxL ret wsy rm 1 6 n) (q0 : Nat) (hq : ws[q0]? = some (b, .inr (ci, fs))) (hc : vwCl[ci]? = some (C, T, N)) (hn0 : As.length = n) (hst : st0 = As.reverse ++ .ref b :: rest) (hW : (rest.map fun v => v.category).sum ≤ 8) (hdg : decode cc pc = .ok (.invokevirtual index, 3)) (hf : cells + 1 ≤ R.cells ∧ slots + 6 ≤ R.slots)
    (iC iR is : List Nat) (hnC : va_nd iC = true) (hC : iC.map (fun i => ws[i]?) = wc.map some) (hR : iR.map (fun i => ws[i]?) = wr.map some) (hn : va_nd iR = true) (hdis : ∀ i ∈ iR, i ∉ iC) (hnd : va_nd is = true) (hs : is.map (fun i => (wr ++ wc)[i]?) = ws.map some)
    (kk : ∀ (q9 : Nat) (ce : Cell) (H1 : Heap) (locs1 : List Loc), H1[q9]? = some ce → ce.vm = .none → s.vm.findClass E = some ce.cls → va_P G.1 vwCl ws H1 → va_D A ws → va_S A s.heap H1 locs1 → vx_W p l e R s m args below meth c H1 locs1 (cells + 1) (slots + 6) Q (F0 m pc ls rest) q9) : W p l e R s m args below meth c H locs cells slots Q (F0 m pc ls st0) := by
  have hF := va_free (wc := wc) hD hS hA iC hC
  have hr := vx_runV (e := e) (below := below) (meth := meth) (locs := locs) (cells := cells) (slots := slots) (g := F0 m pc ls st0) F (hM H.size) cw ⟨fP_blind, va_recv hK hP hc hq, f_pre hK hE hP hD hS hA iC hnC hC⟩ rfl hn0 hsz hst (lv_room (pc := pc) (ls := ls) (m := m) (rest := st0) hW) hdg hf
  intro T9 hT X
  rcases hr T9 hT X with ⟨v, st₀, t, T', L, h0, X', hL, e1, e2, hq9, st⟩ | ⟨q, st₀, t, T', L, E', ce, h0, X', hL, e1, e2, ⟨rfl, ⟨hP1, hD1⟩, hFr⟩, hce, hcv, hcl, st⟩
  · exact hq9.elim
  · obtain ⟨k1, k2, k3⟩ := vx_keep h0 e1 hS (fun q _ h => hF q h) hF hL hFr
    rw [← e1] at hP1 hce
    obtain ⟨hP2, hD2⟩ := va_join (wr := wr) hP hD iC iR hC hR hn hdis k2 hF hP1 hD1
    obtain ⟨t2, a1, b1⟩ := kk q ce T'.heap (locs ++ L) hce hcv hcl (f_subm hP2 is hs) (hD2.sub is hnd hs) k3 T' rfl X'
    exact ⟨t2, st.trans a1, b1⟩
/-- a call of a static method with a table -/
theorem fcHI {post : Int32 → S → Prop} {hh : List (Nat × Nat × Nat × Nat)} (F : CallFix p m c cc nL s args Ts own) (hK : fK G s) (hE : fE G A s s.heap) (hP : va_P G.1 vwCl ws H) (hD : va_D A ws) (hS : va_S A s.heap H locs) (hA : ∀ q : Nat, s.heap.size ≤ q → A q) (hsz : ls.size = nL)
    (hM : fMI l y wsy rm G As wc post w1 mc ms) (cw : vx_CSW R s args own index y bytes maxL ret hh wsy rm mc ms n) (hn0 : As.length = n) (hst : st0 = As.reverse ++ rest) (hW : (rest.map fun v => v.category).sum ≤ 8) (hdg : decode cc pc = .ok (.invokestatic index, 3)) (hf : cells + mc ≤ R.cells ∧ slots + ms ≤ R.slots)
    (iC iR is : List Nat) (hnC : va_nd iC = true) (hC : iC.map (fun i => ws[i]?) = wc.map some) (hR : iR.map (fun i => ws[i]?) = wr.map some) (hn : va_nd iR = true) (hdis : ∀ i ∈ iR, i ∉ iC) (hnd : va_nd is = true) (hs : ∀ u : S, is.map (fun i => (wr ++ w1 u)[i]?) = (ws1 u).map some)
    (kk : ∀ (r : Int32) (u : S) (H1 : Heap) (locs1 : List Loc), post r u → va_P G.1 vwCl (ws1 u) H1 → va_D A (ws1 u) → va_S A s.heap H1 locs1 → W p l e R s m args below meth c H1 locs1 (cells + mc) (slots + ms) Q (F0 m (pc + 3) ls (.int r :: rest))) : W p l e R s m args below meth c H locs cells slots Q (F0 m pc ls st0) :=
  f_goI (vx_runSW F (hM H.size) cw ⟨fP_blind, f_pre hK hE hP hD hS hA iC hnC hC⟩ rfl hn0 hsz hst (lv_room (pc := pc) (ls := ls) (m := m) (rest := st0) hW) hdg hf) hP hD hS hA iC iR is hC hR hn hdis hnd hs kk
/-- the law's one long -/
theorem f_last {a : Nat} {f : Nat → Int64} {x : Int64} (hexec : p.tables.exec = Jvm.exec) (hb : c.code = cc) (hK : fK G s) (hP : va_P G.1 vwCl ws H) (hD : va_D A ws) (hS : va_S A s.heap H locs) (q0 : Nat) (ha : ws[q0]? = some (a, .inl (G.2.2.1, 1, .inr (.inl f)))) (hdg : decode cc pc = .ok (.lastore, 1))
    (kk : ∀ (H1 : Heap) (locs1 : List Loc), va_P G.1 vwCl (ws.set q0 (a, .inl (G.2.2.1, 1, .inr (.inl (vp_updL f 0 x))))) H1 → va_D A (ws.set q0 (a, .inl (G.2.2.1, 1, .inr (.inl (vp_updL f 0 x))))) → va_S A s.heap H1 locs1 → W p l e R s m args below meth c H1 locs1 cells slots Q (F0 m (pc + 1) ls rest)) : W p l e R s m args below meth c H locs cells slots Q (F0 m pc ls (.long x :: .int (nI 0) :: .ref a :: rest)) := by
  refine va_last hexec hb hK hP hD hS q0 1 ha rfl (vp_in_nI (by decide) (by decide)) hdg ?_
  rw [nI_clamp (show (0 : Nat) < 2 ^ 31 by decide)]
  exact kk
theorem f_lald {a : Nat} {f : Nat → Int64} (hexec : p.tables.exec = Jvm.exec) (hb : c.code = cc) (hK : fK G s) (hP : va_P G.1 vwCl ws H) (q0 : Nat) (ha : ws[q0]? = some (a, .inl (G.2.2.1, 1, .inr (.inl f)))) (hdg : decode cc pc = .ok (.laload, 1))
    (kk : W p l e R s m args below meth c H locs cells slots Q (F0 m (pc + 1) ls (.long (f 0) :: rest))) : W p l e R s m args below meth c H locs cells slots Q (F0 m pc ls (.int (nI 0) :: .ref a :: rest)) := by
  refine va_lald hexec hb hK hP q0 1 ha rfl (vp_in_nI (by decide) (by decide)) hdg ?_
  rw [nI_clamp (show (0 : Nat) < 2 ^ 31 by decide)]
  exact kk
end FT
