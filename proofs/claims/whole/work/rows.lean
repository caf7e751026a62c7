section
-- ===== PART A: goes FIRST, ahead of the names: the tables' words, and 'selects' of the private methods out of them =====
/-- a private method of a class that the tables say can be made, by its rows of tables_1 -/
def lw_okq (q : MethodName × Nat) : Prop := (q.1.cls ≠ "java/lang/invoke/MethodHandle" ∧ q.1.cls ≠ "java/lang/invoke/VarHandle") ∧ Cond.instantiable q.1.cls q.2 ∈ tables_1 ∧ Cond.privateMethod q.1 ∈ tables_1 ∧ Cond.instanceMethod q.1 ∈ tables_1
theorem lw_p0 : lw_okq (⟨"SiftedGraphs", "nodesOfAll", "()I"⟩, 6) := ⟨⟨by decide +kernel, by decide +kernel⟩, List.mem_of_getElem? (i := 14) (by decide +kernel), List.mem_of_getElem? (i := 109) (by decide +kernel), List.mem_of_getElem? (i := 110) (by decide +kernel)⟩
theorem lw_p1 : lw_okq (⟨"SiftedGraphs$NodeCounter", "goDown", "()V"⟩, 5) := ⟨⟨by decide +kernel, by decide +kernel⟩, List.mem_of_getElem? (i := 64) (by decide +kernel), List.mem_of_getElem? (i := 133) (by decide +kernel), List.mem_of_getElem? (i := 134) (by decide +kernel)⟩
theorem lw_p2 : lw_okq (⟨"SiftedGraphs$NodeCounter", "branch", "(I)I"⟩, 5) := ⟨⟨by decide +kernel, by decide +kernel⟩, List.mem_of_getElem? (i := 64) (by decide +kernel), List.mem_of_getElem? (i := 137) (by decide +kernel), List.mem_of_getElem? (i := 138) (by decide +kernel)⟩
theorem lw_p3 : lw_okq (⟨"java/lang/Throwable", "fillInStackTrace", "(I)Ljava/lang/Throwable;"⟩, 6) := ⟨⟨by decide +kernel, by decide +kernel⟩, List.mem_of_getElem? (i := 202) (by decide +kernel), List.mem_of_getElem? (i := 200) (by decide +kernel), List.mem_of_getElem? (i := 201) (by decide +kernel)⟩
theorem lw_p4 : lw_okq (⟨"SiftedGraphs", "look", "(I)J"⟩, 6) := ⟨⟨by decide +kernel, by decide +kernel⟩, List.mem_of_getElem? (i := 14) (by decide +kernel), List.mem_of_getElem? (i := 243) (by decide +kernel), List.mem_of_getElem? (i := 244) (by decide +kernel)⟩
theorem lw_p5 : lw_okq (⟨"SiftedGraphs$FormulaReader", "beginFormula", "()V"⟩, 6) := ⟨⟨by decide +kernel, by decide +kernel⟩, List.mem_of_getElem? (i := 37) (by decide +kernel), List.mem_of_getElem? (i := 317) (by decide +kernel), List.mem_of_getElem? (i := 318) (by decide +kernel)⟩
theorem lw_p6 : lw_okq (⟨"SiftedGraphs$FormulaReader", "beginFactor", "()V"⟩, 6) := ⟨⟨by decide +kernel, by decide +kernel⟩, List.mem_of_getElem? (i := 37) (by decide +kernel), List.mem_of_getElem? (i := 322) (by decide +kernel), List.mem_of_getElem? (i := 323) (by decide +kernel)⟩
theorem lw_p7 : lw_okq (⟨"SiftedGraphs$FormulaReader", "takeInOperand", "(CLSiftedGraphs$Registers;)Z"⟩, 6) := ⟨⟨by decide +kernel, by decide +kernel⟩, List.mem_of_getElem? (i := 37) (by decide +kernel), List.mem_of_getElem? (i := 326) (by decide +kernel), List.mem_of_getElem? (i := 327) (by decide +kernel)⟩
theorem lw_p8 : lw_okq (⟨"SiftedGraphs$FormulaReader", "openParenthesis", "()Z"⟩, 6) := ⟨⟨by decide +kernel, by decide +kernel⟩, List.mem_of_getElem? (i := 37) (by decide +kernel), List.mem_of_getElem? (i := 330) (by decide +kernel), List.mem_of_getElem? (i := 331) (by decide +kernel)⟩
theorem lw_p9 : lw_okq (⟨"SiftedGraphs$FormulaReader", "endFactor", "(J)V"⟩, 6) := ⟨⟨by decide +kernel, by decide +kernel⟩, List.mem_of_getElem? (i := 37) (by decide +kernel), List.mem_of_getElem? (i := 334) (by decide +kernel), List.mem_of_getElem? (i := 335) (by decide +kernel)⟩
theorem lw_p10 : lw_okq (⟨"SiftedGraphs$FormulaReader", "takeBehindOperand", "(C)Z"⟩, 6) := ⟨⟨by decide +kernel, by decide +kernel⟩, List.mem_of_getElem? (i := 37) (by decide +kernel), List.mem_of_getElem? (i := 341) (by decide +kernel), List.mem_of_getElem? (i := 342) (by decide +kernel)⟩
theorem lw_p11 : lw_okq (⟨"SiftedGraphs$FormulaReader", "closeParenthesis", "()Z"⟩, 6) := ⟨⟨by decide +kernel, by decide +kernel⟩, List.mem_of_getElem? (i := 37) (by decide +kernel), List.mem_of_getElem? (i := 349) (by decide +kernel), List.mem_of_getElem? (i := 350) (by decide +kernel)⟩
theorem lw_p12 : lw_okq (⟨"SiftedGraphs", "exchange", "(I)V"⟩, 6) := ⟨⟨by decide +kernel, by decide +kernel⟩, List.mem_of_getElem? (i := 14) (by decide +kernel), List.mem_of_getElem? (i := 446) (by decide +kernel), List.mem_of_getElem? (i := 447) (by decide +kernel)⟩
theorem lw_p13 : lw_okq (⟨"SiftedGraphs", "levelOf", "(I)I"⟩, 6) := ⟨⟨by decide +kernel, by decide +kernel⟩, List.mem_of_getElem? (i := 14) (by decide +kernel), List.mem_of_getElem? (i := 457) (by decide +kernel), List.mem_of_getElem? (i := 458) (by decide +kernel)⟩
theorem lw_p14 : lw_okq (⟨"SiftedGraphs", "raise", "(II)V"⟩, 6) := ⟨⟨by decide +kernel, by decide +kernel⟩, List.mem_of_getElem? (i := 14) (by decide +kernel), List.mem_of_getElem? (i := 461) (by decide +kernel), List.mem_of_getElem? (i := 462) (by decide +kernel)⟩
theorem lw_p15 : lw_okq (⟨"SiftedGraphsModel", "put", "(IJ)V"⟩, 13) := ⟨⟨by decide +kernel, by decide +kernel⟩, List.mem_of_getElem? (i := 465) (by decide +kernel), List.mem_of_getElem? (i := 529) (by decide +kernel), List.mem_of_getElem? (i := 530) (by decide +kernel)⟩
def lw_privs_1 : List (MethodName × Nat) := [(⟨"SiftedGraphs", "nodesOfAll", "()I"⟩, 6), (⟨"SiftedGraphs$NodeCounter", "goDown", "()V"⟩, 5), (⟨"SiftedGraphs$NodeCounter", "branch", "(I)I"⟩, 5), (⟨"java/lang/Throwable", "fillInStackTrace", "(I)Ljava/lang/Throwable;"⟩, 6), (⟨"SiftedGraphs", "look", "(I)J"⟩, 6), (⟨"SiftedGraphs$FormulaReader", "beginFormula", "()V"⟩, 6), (⟨"SiftedGraphs$FormulaReader", "beginFactor", "()V"⟩, 6), (⟨"SiftedGraphs$FormulaReader", "takeInOperand", "(CLSiftedGraphs$Registers;)Z"⟩, 6), (⟨"SiftedGraphs$FormulaReader", "openParenthesis", "()Z"⟩, 6), (⟨"SiftedGraphs$FormulaReader", "endFactor", "(J)V"⟩, 6), (⟨"SiftedGraphs$FormulaReader", "takeBehindOperand", "(C)Z"⟩, 6), (⟨"SiftedGraphs$FormulaReader", "closeParenthesis", "()Z"⟩, 6), (⟨"SiftedGraphs", "exchange", "(I)V"⟩, 6), (⟨"SiftedGraphs", "levelOf", "(I)I"⟩, 6), (⟨"SiftedGraphs", "raise", "(II)V"⟩, 6), (⟨"SiftedGraphsModel", "put", "(IJ)V"⟩, 13)]
theorem lw_r1 : ∀ q ∈ lw_privs_1, lw_okq q := List.forall_mem_cons.mpr ⟨lw_p0, List.forall_mem_cons.mpr ⟨lw_p1, List.forall_mem_cons.mpr ⟨lw_p2, List.forall_mem_cons.mpr ⟨lw_p3, List.forall_mem_cons.mpr ⟨lw_p4, List.forall_mem_cons.mpr ⟨lw_p5, List.forall_mem_cons.mpr ⟨lw_p6, List.forall_mem_cons.mpr ⟨lw_p7, List.forall_mem_cons.mpr ⟨lw_p8, List.forall_mem_cons.mpr ⟨lw_p9, List.forall_mem_cons.mpr ⟨lw_p10, List.forall_mem_cons.mpr ⟨lw_p11, List.forall_mem_cons.mpr ⟨lw_p12, List.forall_mem_cons.mpr ⟨lw_p13, List.forall_mem_cons.mpr ⟨lw_p14, List.forall_mem_cons.mpr ⟨lw_p15, fun _ h => absurd h List.not_mem_nil⟩⟩⟩⟩⟩⟩⟩⟩⟩⟩⟩⟩⟩⟩⟩⟩
theorem lw_p16 : lw_okq (⟨"SiftedGraphsModel", "begin", "(II)I"⟩, 13) := ⟨⟨by decide +kernel, by decide +kernel⟩, List.mem_of_getElem? (i := 465) (by decide +kernel), List.mem_of_getElem? (i := 571) (by decide +kernel), List.mem_of_getElem? (i := 572) (by decide +kernel)⟩
theorem lw_p17 : lw_okq (⟨"SiftedGraphsModel", "later", "(I)V"⟩, 13) := ⟨⟨by decide +kernel, by decide +kernel⟩, List.mem_of_getElem? (i := 465) (by decide +kernel), List.mem_of_getElem? (i := 575) (by decide +kernel), List.mem_of_getElem? (i := 576) (by decide +kernel)⟩
theorem lw_p18 : lw_okq (⟨"SiftedGraphsModel", "push", "(J)V"⟩, 13) := ⟨⟨by decide +kernel, by decide +kernel⟩, List.mem_of_getElem? (i := 465) (by decide +kernel), List.mem_of_getElem? (i := 579) (by decide +kernel), List.mem_of_getElem? (i := 580) (by decide +kernel)⟩
theorem lw_p19 : lw_okq (⟨"SiftedGraphsModel", "reduce", "(I)V"⟩, 13) := ⟨⟨by decide +kernel, by decide +kernel⟩, List.mem_of_getElem? (i := 465) (by decide +kernel), List.mem_of_getElem? (i := 583) (by decide +kernel), List.mem_of_getElem? (i := 584) (by decide +kernel)⟩
theorem lw_p20 : lw_okq (⟨"SiftedGraphsModel", "lack", "(I)I"⟩, 13) := ⟨⟨by decide +kernel, by decide +kernel⟩, List.mem_of_getElem? (i := 465) (by decide +kernel), List.mem_of_getElem? (i := 602) (by decide +kernel), List.mem_of_getElem? (i := 603) (by decide +kernel)⟩
theorem lw_p21 : lw_okq (⟨"SiftedGraphsModel", "findAll", "(JI)V"⟩, 13) := ⟨⟨by decide +kernel, by decide +kernel⟩, List.mem_of_getElem? (i := 465) (by decide +kernel), List.mem_of_getElem? (i := 621) (by decide +kernel), List.mem_of_getElem? (i := 622) (by decide +kernel)⟩
theorem lw_p22 : lw_okq (⟨"SiftedGraphsModel", "find", "(J)V"⟩, 13) := ⟨⟨by decide +kernel, by decide +kernel⟩, List.mem_of_getElem? (i := 465) (by decide +kernel), List.mem_of_getElem? (i := 625) (by decide +kernel), List.mem_of_getElem? (i := 626) (by decide +kernel)⟩
theorem lw_p23 : lw_okq (⟨"SiftedGraphsModel", "all", "()I"⟩, 13) := ⟨⟨by decide +kernel, by decide +kernel⟩, List.mem_of_getElem? (i := 465) (by decide +kernel), List.mem_of_getElem? (i := 633) (by decide +kernel), List.mem_of_getElem? (i := 634) (by decide +kernel)⟩
theorem lw_p24 : lw_okq (⟨"SiftedGraphsModel", "widthOf", "(I)I"⟩, 13) := ⟨⟨by decide +kernel, by decide +kernel⟩, List.mem_of_getElem? (i := 465) (by decide +kernel), List.mem_of_getElem? (i := 637) (by decide +kernel), List.mem_of_getElem? (i := 638) (by decide +kernel)⟩
theorem lw_p25 : lw_okq (⟨"SiftedGraphsModel", "arrange", "(II)V"⟩, 13) := ⟨⟨by decide +kernel, by decide +kernel⟩, List.mem_of_getElem? (i := 465) (by decide +kernel), List.mem_of_getElem? (i := 657) (by decide +kernel), List.mem_of_getElem? (i := 658) (by decide +kernel)⟩
def lw_privs_2 : List (MethodName × Nat) := [(⟨"SiftedGraphsModel", "begin", "(II)I"⟩, 13), (⟨"SiftedGraphsModel", "later", "(I)V"⟩, 13), (⟨"SiftedGraphsModel", "push", "(J)V"⟩, 13), (⟨"SiftedGraphsModel", "reduce", "(I)V"⟩, 13), (⟨"SiftedGraphsModel", "lack", "(I)I"⟩, 13), (⟨"SiftedGraphsModel", "findAll", "(JI)V"⟩, 13), (⟨"SiftedGraphsModel", "find", "(J)V"⟩, 13), (⟨"SiftedGraphsModel", "all", "()I"⟩, 13), (⟨"SiftedGraphsModel", "widthOf", "(I)I"⟩, 13), (⟨"SiftedGraphsModel", "arrange", "(II)V"⟩, 13)]
theorem lw_r2 : ∀ q ∈ lw_privs_2, lw_okq q := List.forall_mem_cons.mpr ⟨lw_p16, List.forall_mem_cons.mpr ⟨lw_p17, List.forall_mem_cons.mpr ⟨lw_p18, List.forall_mem_cons.mpr ⟨lw_p19, List.forall_mem_cons.mpr ⟨lw_p20, List.forall_mem_cons.mpr ⟨lw_p21, List.forall_mem_cons.mpr ⟨lw_p22, List.forall_mem_cons.mpr ⟨lw_p23, List.forall_mem_cons.mpr ⟨lw_p24, List.forall_mem_cons.mpr ⟨lw_p25, fun _ h => absurd h List.not_mem_nil⟩⟩⟩⟩⟩⟩⟩⟩⟩⟩
def lw_privs : List (MethodName × Nat) := lw_privs_1 ++ (lw_privs_2)
def lw_tbl : List Cond := k2_sels lw_privs ++ tables_1
theorem lw_privs_ok : ∀ q ∈ lw_privs, lw_okq q := by
  show ∀ q ∈ lw_privs_1 ++ (lw_privs_2), lw_okq q
  exact List.forall_mem_append.mpr ⟨lw_r1, lw_r2⟩
end
section
/-! ===== BEGIN words of one list among another's, by their places ===== -/
theorem goodIn_r {big : List Cond} (ws : List Cond) (ps : List Nat) (hp : ws = ps.filterMap (fun i => big[i]?)) (h : ws.all goodWord = true) : GoodIn big ws := by
  intro w hw
  have h1 := List.all_eq_true.mp h w hw
  rw [hp] at hw
  obtain ⟨i, -, hi⟩ := List.mem_filterMap.mp hw
  have hm : w ∈ big := by first | exact List.mem_of_getElem? hi | exact List.getElem?_mem hi
  exact ⟨hm, good_of_word h1⟩
theorem goodIn_app {big a b : List Cond} (ha : GoodIn big a) (hb : GoodIn big b) : GoodIn big (a ++ b) := fun w h => (List.mem_append.mp h).elim (ha w) (hb w)
theorem goodIn_ca {big a b : List Cond} {c : Cond} (ha : GoodIn big (c :: a)) (hb : GoodIn big b) : GoodIn big (c :: (a ++ b)) := fun w h => (List.mem_cons.mp h).elim (fun e => ha w (List.mem_cons.mpr (Or.inl e))) (fun h => (List.mem_append.mp h).elim (fun h => ha w (List.mem_cons.mpr (Or.inr h))) (hb w))
theorem goodIn_sub {big ws : List Cond} (hm : ∀ w ∈ ws, w ∈ big) (h : ws.all goodWord = true) : GoodIn big ws := fun w hw => ⟨hm w hw, good_of_word (List.all_eq_true.mp h w hw)⟩
/-! ===== END ===== -/

/-! ===== BEGIN exceptions that leave a method, and their catching by the caller (launches without stack traces) ===== -/
section VXA
/-! The laws vx_back, vx_callV, vx_callS, vx_callSW, vx_throw0, vx_throwS follow proofs of the library, with one case more: JvmDerived/Free/Laws.lean (Back.of_free), Shelf42/LK1.lean (callV, callS), Shelf/KitTraced.lean (throwNew0V, throwNewS). -/
/-- where a method has thrown q: the class by its name, the cell, what was written, the world -/
def vx_T (XC : String → State → State → Prop) (st : State) (q : Addr) (t : State) (mc ms : Nat) (free : Addr → Prop) : Prop :=
  ∃ (E : String) (ce : Cell) (L : List Loc), XC E st t ∧ t.heap[q]? = some ce ∧ ce.vm = .none ∧ st.vm.findClass E = some ce.cls ∧ st.WarmedH t.vm ∧ st.sameButNew ({ t with vm := st.vm } : State) L mc ms ∧ ∀ z ∈ L, free z.base
def vx_Q (Qc : Array Value → State → Outcome → State → Prop) (XC : String → State → State → Prop) (mc ms : Nat) (free : Addr → Prop) : Array Value → State → Outcome → State → Prop := fun a st o t =>
  (Qc a st o t ∧ ∃ L, FrameEnd st o t L mc ms ∧ ∀ q ∈ L, free q.base) ∨ ∃ q, o = .threw q ∧ vx_T XC st q t mc ms free
/-- a callee that returns or throws -/
def vx_Met (l : Launch) (y : MethodName) (ws : List Cond) (rm : Room) (Pc : Array Value → State → Prop) (Qc : Array Value → State → Outcome → State → Prop) (XC : String → State → State → Prop) (mc ms : Nat) (free : Addr → Prop) : Prop :=
  MetFree l y (headSpec ws rm) Pc (fun _ _ _ _ _ => True) (vx_Q Qc XC mc ms free)
def vx_Post (XC : String → State → State → Prop) (mc ms : Nat) (free : Addr → Prop) : Pt → Array Value → Addr → Pt → Prop := fun A a q B =>
  ∃ (g : JFrame) (mk : MethodId) (t : State) (L : List Loc) (E : String) (ce : Cell), B.U.heap = t.heap ∧ B.U.vm = t.vm ∧ XC E (A.U.calling g mk a) t ∧ t.heap[q]? = some ce ∧ ce.vm = .none ∧ A.U.vm.findClass E = some ce.cls ∧ B.locs = A.locs ++ L ∧ (∀ z ∈ L, free z.base) ∧ B.cells = A.cells + mc ∧ B.slots = A.slots + ms
def vx_Back (l : Launch) (R : Room) (p : Program) (e : Env) (below : List Frame) (s : State) (sargs : Array Value) (y : MethodName) (len W9 : Nat)
    (Pre : Pt → Array Value → Prop) (Post : Pt → Array Value → Option Value → Pt → Prop) (PostX : Pt → Array Value → Addr → Pt → Prop) : Prop :=
  ∀ (m : MethodId) (meth : Method) (c : Code) (A : Pt) (g : JFrame) (ig : Instr) (mk : MethodId) (a : Array Value),
    Stand p l e R s m sargs below meth c A.U A.locs A.cells A.slots → g.method = m → g.locals.size = c.maxLocals → decode c.code g.pc = .ok (ig, len) →
    2 * g.monitorRoom + (g.stack.map fun v => v.category).sum ≤ W9 → A.U.methodNamed? y = some mk → Pre A a →
    (∃ (v : Option Value) (B : Pt), Stand p l e R s m sargs below meth c B.U B.locs B.cells B.slots ∧ Post A a v B ∧
      Steps p.tables e below (doInvoke e (A.U.setTop g) [] mk a).1 (B.U.setTop { g with pc := g.pc + len, stack := v.toList ++ g.stack })) ∨
    (∃ (q : Addr) (B : Pt), Stand p l e R s m sargs below meth c B.U B.locs B.cells B.slots ∧ PostX A a q B ∧
      Steps p.tables e below (doInvoke e (A.U.setTop g) [] mk a).1 ((B.U.setTop g).pushFrame (.throwing q)))
section Payer
variable {l : Launch} {R : Room} {p : Program} {e : Env} {below : List Frame} {s : State} {sargs : Array Value} {y : MethodName} {len W9 : Nat}
theorem vx_back {ws : List Cond} {rm : Room} {Pc : Array Value → State → Prop} {Qc : Array Value → State → Outcome → State → Prop} {XC : String → State → State → Prop} {mc ms : Nat} {free : Addr → Prop} {bytes : ByteArray} {maxL : Nat} {ret : Option FieldType}
    (hM : vx_Met l y ws rm Pc Qc XC mc ms free) (hblind : FrameBlind Pc) (hrc : rm.cells = mc) (hrs : rm.slots = ms)
    (hframes : rm.frames + 1 ≤ R.frames) (hlocals : W9 + (maxL + 11) + rm.locals ≤ R.locals)
    (hws : ∀ w ∈ ws, ∀ a' U, s.WarmedH U.vm → w.before a' U = true) (hcode : Cond.code y bytes maxL ret ∈ ws) (hinit : ∀ a' U, s.WarmedH U.vm → (Cond.initialized y.cls).before a' U = true) :
    vx_Back l R p e below s sargs y len W9 (PreOf R mc ms Pc) (PostOf Qc mc ms free) (vx_Post XC mc ms free) := by
  intro m meth c A g ig mk a X hg hsize hdg hW hn hp
  have h1 : (headSpec ws rm).pre.before a A.U = true := atoms_intro fun w hw => hws w hw _ _ X.warmed
  have h2 : (Cond.code y bytes maxL ret).before a A.U = true := hws _ hcode _ _ X.warmed
  have h3 : (Cond.initialized y.cls).before a A.U = true := hinit _ _ X.warmed
  have h4 : A.cells + (headSpec ws rm).room.cells ≤ R.cells := by rw [show (headSpec ws rm).room.cells = mc from hrc]; exact hp.1
  have h5 : A.slots + (headSpec ws rm).room.slots ≤ R.slots := by rw [show (headSpec ws rm).room.slots = ms from hrs]; exact hp.2.1
  have hPc : Pc a (A.U.calling g mk a) := hblind _ _ _ _ hp.2.2
  obtain ⟨U, Ls, c0, s0⟩ := A
  dsimp only [Pt.U, Pt.locs, Pt.cells, Pt.slots] at h1 h2 h3 h4 h5 X hn hPc ⊢
  obtain ⟨methY, cY, hmY, hcY, -, hlY, -, -, -, -⟩ := Cond.code_spec hn h2
  obtain ⟨kY, hkY, -⟩ := className_of_methodNamed hn
  have hinitY : kY.init = .initialized := Cond.initialized_spec (findClass_of_methodNamed hn) hkY h3
  have h : At U g.method c below := by rw [hg]; exact X.here
  have hlocals9 : W9 + (maxL + 11) + (headSpec ws rm).room.locals ≤ R.locals := hlocals
  have happ : (headSpec ws rm).appliesLoose y e.platform (U.calling g mk a) = true :=
    Spec.appliesLoose_calling (g := g) h hdg hn hkY hinitY
      (X.room_calling (g := g) (R' := (headSpec ws rm).room) hsize hmY hcY hframes (by rw [hlY]; omega) h4 h5) h1
  obtain ⟨mid, hmid⟩ := h.above
  have hfr : (U.setTop g).frames = (.java g :: mid) ++ below := by rw [State.frames_setTop' g h.top, hmid]; rfl
  obtain ⟨o, s₂, hsteps, -, hend, hq⟩ := Steps.callFree hM p X.admits X.cas X.clock (acts := []) hfr happ hPc trivial
  have hq' : vx_Q Qc XC mc ms free a (U.calling g mk a) o s₂ := hq
  rw [State.frames_setTop' g h.top] at hend
  obtain ⟨g₀, hg0⟩ := Option.isSome_iff_exists.mp h.top
  obtain ⟨r, hr⟩ := State.topJava?_eq_some.mp hg0
  have hr' : (({ U with heap := s₂.heap, slotsUsed := s₂.slotsUsed } : State).setVm s₂.vm).frames = .java g₀ :: r := hr
  rcases hq' with ⟨hqc, L, hfe, hL⟩ | ⟨q, rfl, E, ce, L, hx, hce, hcv, hcl, hW₂, hsm, hL⟩
  · obtain ⟨⟨v, rfl⟩, hW₂, e2, q2, q3, q4, q5, q6⟩ := id hfe
    have e3 : s₂ = ({ (U.calling g mk a).setFrames s₂.frames with heap := s₂.heap, slotsUsed := s₂.slotsUsed } : State).setVm s₂.vm := by
      have : s₂ = ({ s₂ with vm := (U.calling g mk a).vm } : State).setVm s₂.vm := rfl
      rw [e2] at this
      exact this
    obtain ⟨c₂, i₂, len₂, hc₂, hd₂, hf₂⟩ := hend
    have hW' : U.WarmedH s₂.vm := hW₂
    have hcc : c₂ = c := by
      have h1 : s₂.code? g.method = U.code? g.method := by
        rw [State.code?_eq, State.code?_eq, hW'.alike.method?]
      exact Option.some.inj (hc₂.symm.trans (h1.trans h.code))
    subst hcc
    have hlen : len₂ = len := by rw [hdg] at hd₂; cases hd₂; rfl
    subst hlen
    have hs₂ : s₂ = (({ U with heap := s₂.heap, slotsUsed := s₂.slotsUsed } : State).setVm s₂.vm).setTop { g with pc := g.pc + len₂, stack := v.toList ++ g.stack } := by
      refine e3.trans ?_
      rw [hf₂, State.calling_eq h.top, State.setFrames_setFrames, State.setTop_of_frames _ hr', hr]
      rfl
    have hsame : U.sameButNew ({ U with heap := s₂.heap, slotsUsed := s₂.slotsUsed } : State) L mc ms := by
      refine ⟨?_, q2, q3, q4, q5, q6⟩
      obtain ⟨t, ht, -⟩ := State.frames_cons hr
      show ({ U with heap := s₂.heap, slotsUsed := s₂.slotsUsed } : State) = { U.setFrames U.frames with heap := s₂.heap, slotsUsed := s₂.slotsUsed }
      rw [State.setFrames_self ht]
    subst hg
    refine Or.inl ⟨v, ⟨(({ U with heap := s₂.heap, slotsUsed := s₂.slotsUsed } : State).setVm s₂.vm), Ls ++ L, c0 + mc, s0 + ms⟩,
      ⟨X.admits, X.cas, X.clock, X.frames, X.room, X.hears, X.method, X.code, (X.here.setHeapUsed s₂.heap s₂.slotsUsed).setVm hW'.alike, X.tail, State.WarmedH.trans X.warmed hW', X.limits, X.bytes, X.same.trans (hsame.setVm s.vm)⟩,
      ⟨g, mk, s₂, L, rfl, rfl, hqc, rfl, hL, rfl, rfl⟩, ?_⟩
    show Steps p.tables e below _ ((({ U with heap := s₂.heap, slotsUsed := s₂.slotsUsed } : State).setVm s₂.vm).setTop { g with pc := g.pc + len₂, stack := v.toList ++ g.stack })
    rw [← hs₂]
    exact hsteps
  · obtain ⟨e2, q2, q3, q4, q5, q6⟩ := id hsm
    have e3 : s₂ = ({ (U.calling g mk a).setFrames s₂.frames with heap := s₂.heap, slotsUsed := s₂.slotsUsed } : State).setVm s₂.vm := by
      have : s₂ = ({ s₂ with vm := (U.calling g mk a).vm } : State).setVm s₂.vm := rfl
      rw [e2] at this
      exact this
    have hf₂ : s₂.frames = .throwing q :: .java g :: U.frames.tail := hend
    have hW' : U.WarmedH s₂.vm := hW₂
    have hs₂ : s₂ = ((({ U with heap := s₂.heap, slotsUsed := s₂.slotsUsed } : State).setVm s₂.vm).setTop g).pushFrame (.throwing q) := by
      refine e3.trans ?_
      rw [hf₂, State.calling_eq h.top, State.setFrames_setFrames, State.pushFrame, State.frames_setTop _ hr', State.setTop_of_frames _ hr', State.setFrames_setFrames, hr]
      rfl
    have hsame : U.sameButNew ({ U with heap := s₂.heap, slotsUsed := s₂.slotsUsed } : State) L mc ms := by
      refine ⟨?_, q2, q3, q4, q5, q6⟩
      obtain ⟨t, ht, -⟩ := State.frames_cons hr
      show ({ U with heap := s₂.heap, slotsUsed := s₂.slotsUsed } : State) = { U.setFrames U.frames with heap := s₂.heap, slotsUsed := s₂.slotsUsed }
      rw [State.setFrames_self ht]
    subst hg
    refine Or.inr ⟨q, ⟨(({ U with heap := s₂.heap, slotsUsed := s₂.slotsUsed } : State).setVm s₂.vm), Ls ++ L, c0 + mc, s0 + ms⟩,
      ⟨X.admits, X.cas, X.clock, X.frames, X.room, X.hears, X.method, X.code, (X.here.setHeapUsed s₂.heap s₂.slotsUsed).setVm hW'.alike, X.tail, State.WarmedH.trans X.warmed hW', X.limits, X.bytes, X.same.trans (hsame.setVm s.vm)⟩,
      ⟨g, mk, s₂, L, E, ce, rfl, rfl, hx, hce, hcv, hcl, rfl, hL, rfl, rfl⟩, ?_⟩
    show Steps p.tables e below _ (((({ U with heap := s₂.heap, slotsUsed := s₂.slotsUsed } : State).setVm s₂.vm).setTop g).pushFrame (.throwing q))
    rw [← hs₂]
    exact hsteps
end Payer
section Calls
variable {p : Program} {l : Launch} {e : Env} {R : Room} {s : State} {m : MethodId} {args : Array Value} {below : List Frame} {meth : Method} {c : Code} {T : State} {locs : List Loc} {cells slots : Nat}
theorem vx_callV (X : Stand p l e R s m args below meth c T locs cells slots) (hexec : p.tables.exec = Jvm.exec) {own C : String} {index : Nat} {y : MethodName} {bytes : ByteArray} {maxL : Nat} {ret : Option FieldType}
    (hown : s.vm.findClass own = some m.cls) (hlink : (Cond.methodLink own index y).before args s = true) (hinst : (Cond.instanceMethod y).before args s = true) (hsel : (Cond.selects C y y).before args s = true)
    (hcode : (Cond.code y bytes maxL ret).before args s = true) (hy : y.cls ≠ "java/lang/invoke/MethodHandle" ∧ y.cls ≠ "java/lang/invoke/VarHandle")
    {W9 : Nat} {Pre : Pt → Array Value → Prop} {Post : Pt → Array Value → Option Value → Pt → Prop} {PostX : Pt → Array Value → Addr → Pt → Prop} (hK : vx_Back l R p e below s args y 3 W9 Pre Post PostX)
    {b : Addr} {cellB : Cell} (hcell : T.heap[b]? = some cellB) (hobj : cellB.vm.isStatics = false) (hcls : s.vm.findClass C = some cellB.cls)
    {g : JFrame} (hg : g.method = m) (hsize : g.locals.size = c.maxLocals) {argsL rest : List Value} (hlen : ∀ sig, parseMethodDescriptor y.desc = some sig → argsL.length = sig.parameters.length)
    (hstack : g.stack = argsL.reverse ++ .ref b :: rest) (hW : 2 * g.monitorRoom + (rest.map fun v => v.category).sum ≤ W9) (hdg : decode c.code g.pc = .ok (.invokevirtual index, 3))
    (hpre : ∀ vm₁, s.WarmedH vm₁ → Pre ⟨T.setVm vm₁, locs, cells, slots⟩ (Value.ref b :: argsL).toArray) :
    (∃ (v : Option Value) (vm₁ : Vm) (B : Pt), s.WarmedH vm₁ ∧ Stand p l e R s m args below meth c B.U B.locs B.cells B.slots ∧ Post ⟨T.setVm vm₁, locs, cells, slots⟩ (Value.ref b :: argsL).toArray v B ∧
      ∀ target, Steps p.tables e below (B.U.setTop { g with pc := g.pc + 3, stack := v.toList ++ rest }) target → Steps p.tables e below (T.setTop g) target) ∨
    (∃ (q : Addr) (vm₁ : Vm) (B : Pt), s.WarmedH vm₁ ∧ Stand p l e R s m args below meth c B.U B.locs B.cells B.slots ∧ PostX ⟨T.setVm vm₁, locs, cells, slots⟩ (Value.ref b :: argsL).toArray q B ∧
      Steps p.tables e below (T.setTop g) ((B.U.setTop { g with stack := rest }).pushFrame (.throwing q))) := by
  obtain ⟨mk, methM, hnamed, hmethM, hstM, habM⟩ := Cond.instanceMethod_spec hinst
  obtain ⟨methM', cM, hmethM', -, -, -, -, -, -, hsigM⟩ := Cond.code_spec hnamed hcode
  cases hmethM.symm.trans hmethM'
  obtain ⟨c2, r2, m2, q1, q2, q3, q4, kP, hkP, hkPi⟩ := Cond.selects_spec hsel
  cases hcls.symm.trans q1
  cases (State.methodFound?_of_named hnamed hy).symm.trans q2
  cases hnamed.symm.trans q3
  have hselP : selectMethod e.platform s.vm cellB.cls mk = .method mk := by rw [Launch.admits_selectMethod X.admits]; exact q4
  obtain ⟨vm₁, X₁, hstep₁⟩ := X.invokevirtual hexec hown hlink hnamed hmethM hstM hkP hkPi hy (a := b) (cell := cellB) hcell
    (fun z h => by rw [h] at hobj; cases hobj) hselP hmethM habM hkP hkPi (g := g) hg (argsL := argsL) (rest := rest) (hlen _ hsigM) hstack hdg
  rcases hK m meth c ⟨T.setVm vm₁, locs, cells, slots⟩ { g with stack := rest } (.invokevirtual index) mk (Value.ref b :: argsL).toArray X₁ hg hsize hdg hW (X₁.named hnamed) (hpre vm₁ X₁.warmed) with ⟨v, B, X', hpost, hsteps⟩ | ⟨q, B, X', hpost, hsteps⟩
  · exact Or.inl ⟨v, vm₁, B, X₁.warmed, X', hpost, fun target h => hstep₁ _ fun acts => by rw [doInvoke_state]; exact hsteps.trans h⟩
  · exact Or.inr ⟨q, vm₁, B, X₁.warmed, X', hpost, hstep₁ _ fun acts => by rw [doInvoke_state]; exact hsteps⟩
theorem vx_callS (X : Stand p l e R s m args below meth c T locs cells slots) (hexec : p.tables.exec = Jvm.exec) {own : String} {index : Nat} {y : MethodName} {bytes : ByteArray} {maxL : Nat} {ret : Option FieldType}
    (hown : s.vm.findClass own = some m.cls) (hlink : (Cond.methodLink own index y).before args s = true) (hstat : (Cond.static y).before args s = true) (hinit : (Cond.initialized y.cls).before args s = true)
    (hcode : (Cond.code y bytes maxL ret).before args s = true) (hy : y.cls ≠ "java/lang/invoke/MethodHandle" ∧ y.cls ≠ "java/lang/invoke/VarHandle")
    {W9 : Nat} {Pre : Pt → Array Value → Prop} {Post : Pt → Array Value → Option Value → Pt → Prop} {PostX : Pt → Array Value → Addr → Pt → Prop} (hK : vx_Back l R p e below s args y 3 W9 Pre Post PostX)
    {g : JFrame} (hg : g.method = m) (hsize : g.locals.size = c.maxLocals) {argsL rest : List Value} (hlen : ∀ sig, parseMethodDescriptor y.desc = some sig → argsL.length = sig.parameters.length)
    (hstack : g.stack = argsL.reverse ++ rest) (hW : 2 * g.monitorRoom + (rest.map fun v => v.category).sum ≤ W9) (hdg : decode c.code g.pc = .ok (.invokestatic index, 3))
    (hpre : ∀ vm₁, s.WarmedH vm₁ → Pre ⟨T.setVm vm₁, locs, cells, slots⟩ argsL.toArray) :
    (∃ (v : Option Value) (vm₁ : Vm) (B : Pt), s.WarmedH vm₁ ∧ Stand p l e R s m args below meth c B.U B.locs B.cells B.slots ∧ Post ⟨T.setVm vm₁, locs, cells, slots⟩ argsL.toArray v B ∧
      ∀ target, Steps p.tables e below (B.U.setTop { g with pc := g.pc + 3, stack := v.toList ++ rest }) target → Steps p.tables e below (T.setTop g) target) ∨
    (∃ (q : Addr) (vm₁ : Vm) (B : Pt), s.WarmedH vm₁ ∧ Stand p l e R s m args below meth c B.U B.locs B.cells B.slots ∧ PostX ⟨T.setVm vm₁, locs, cells, slots⟩ argsL.toArray q B ∧
      Steps p.tables e below (T.setTop g) ((B.U.setTop { g with stack := rest }).pushFrame (.throwing q))) := by
  obtain ⟨mk, hnamed⟩ := Cond.code_named hcode
  obtain ⟨methM, cM, hmethM, -, -, -, -, -, -, hsigM⟩ := Cond.code_spec hnamed hcode
  have hstatic : methM.isStatic = true := Cond.static_spec hnamed hmethM hstat
  obtain ⟨kP, hkP, -⟩ := className_of_methodNamed hnamed
  have hinitP : kP.init = .initialized := Cond.initialized_spec (findClass_of_methodNamed hnamed) hkP hinit
  obtain ⟨vm₁, X₁, hstep₁⟩ := X.invokestatic hexec hown hlink hnamed hmethM hstatic hkP hinitP hy (g := g) hg (argsL := argsL) (rest := rest) (hlen _ hsigM) hstack hdg
  rcases hK m meth c ⟨T.setVm vm₁, locs, cells, slots⟩ { g with stack := rest } (.invokestatic index) mk argsL.toArray X₁ hg hsize hdg hW (X₁.named hnamed) (hpre vm₁ X₁.warmed) with ⟨v, B, X', hpost, hsteps⟩ | ⟨q, B, X', hpost, hsteps⟩
  · exact Or.inl ⟨v, vm₁, B, X₁.warmed, X', hpost, fun target h => hstep₁ _ fun acts => by rw [doInvoke_state]; exact hsteps.trans h⟩
  · exact Or.inr ⟨q, vm₁, B, X₁.warmed, X', hpost, hstep₁ _ fun acts => by rw [doInvoke_state]; exact hsteps⟩
end Calls
theorem vx_cls {s : State} {T : State} {vm₁ : Vm} {E : String} {k : ClassId} (hW : s.WarmedH vm₁) (h : (T.setVm vm₁).vm.findClass E = some k) : s.vm.findClass E = some k := by
  have h1 : vm₁.findClass E = some k := h
  rw [hW.alike.findClass] at h1
  exact h1
/-- the method's frame g, with q thrown over it -/
def vx_W (p : Program) (l : Launch) (e : Env) (R : Room) (s : State) (m : MethodId) (args : Array Value) (below : List Frame) (meth : Method) (c : Code) (H : Heap) (locs : List Loc) (cells slots : Nat) (Q : State → Prop) (g : JFrame) (q : Addr) : Prop :=
  ∀ T : State, T.heap = H → Stand p l e R s m args below meth c T locs cells slots → ∃ t, Steps p.tables e below ((T.setTop g).pushFrame (.throwing q)) t ∧ Q t
def vx_Run (p : Program) (l : Launch) (e : Env) (R : Room) (s : State) (m : MethodId) (args : Array Value) (below : List Frame) (meth : Method) (c : Code) (H : Heap) (locs : List Loc) (cells slots mc ms : Nat) (g : JFrame) (rest : List Value) (Qa : State → Outcome → State → Prop) (XC : String → State → State → Prop) (free : Addr → Prop) : Prop :=
  ∀ T : State, T.heap = H → Stand p l e R s m args below meth c T locs cells slots →
    (∃ (v : Option Value) (st₀ t T' : State) (L : List Loc), st₀.heap = H ∧ Stand p l e R s m args below meth c T' (locs ++ L) (cells + mc) (slots + ms) ∧ (∀ q ∈ L, free q.base) ∧ T'.heap = t.heap ∧ T'.vm = t.vm ∧ Qa st₀ (.returned v) t ∧
      Goes p e below T g T' { g with pc := g.pc + 3, stack := v.toList ++ rest }) ∨
    (∃ (q : Addr) (st₀ t T' : State) (L : List Loc) (E : String) (ce : Cell), st₀.heap = H ∧ Stand p l e R s m args below meth c T' (locs ++ L) (cells + mc) (slots + ms) ∧ (∀ z ∈ L, free z.base) ∧ T'.heap = t.heap ∧ T'.vm = t.vm ∧ XC E st₀ t ∧ t.heap[q]? = some ce ∧ ce.vm = .none ∧ s.vm.findClass E = some ce.cls ∧
      Steps p.tables e below (T.setTop g) ((T'.setTop { g with stack := rest }).pushFrame (.throwing q)))
def vx_X {S : Type} (px : S → Prop) (B : String → S → State → Prop) (A : Nat → Prop) : String → State → State → Prop := fun E st t => ∃ u : S, px u ∧ B E u t ∧ va_F A st t
section Runs
variable {p : Program} {l : Launch} {e : Env} {R : Room} {s : State} {m : MethodId} {args : Array Value} {below : List Frame} {meth : Method} {c : Code} {H : Heap} {locs : List Loc} {cells slots : Nat}
variable {y : MethodName} {bytes cc : ByteArray} {maxL nL mc ms n index : Nat} {ret : Option FieldType} {ws : List Cond} {rm : Room} {Pc : Array Value → State → Prop} {Qc : Array Value → State → Outcome → State → Prop} {XC : String → State → State → Prop} {free : Addr → Prop} {Ts : List Cond} {own C : String} {b : Addr} {As rest : List Value} {g : JFrame}
theorem vx_callBack (cb : CallB R s args own index y bytes maxL ret ws rm mc ms n) (hM : vx_Met l y ws rm Pc Qc XC mc ms free) (hbl : FrameBlind Pc) : vx_Back l R p e below s args y 3 8 (PreOf R mc ms Pc) (PostOf Qc mc ms free) (vx_Post XC mc ms free) := by
  obtain ⟨hrc, hrs, hfr, hlo, hws, hcw, -, hini, -⟩ := cb
  exact vx_back (bytes := bytes) (maxL := maxL) (ret := ret) hM hbl hrc hrs hfr hlo hws hcw (fun a' U hW => word_at hW (Or.inl (by first | rfl | simp [Cond.onTables, Cond.keeps, Cond.steady])) hini)
theorem vx_runV (S : CallFix p m c cc nL s args Ts own) (hM : vx_Met l y ws rm Pc Qc XC mc ms free) (cw : CallW R s args own C index y bytes maxL ret ws rm mc ms n) (hp : PreV s H C b Pc As)
    (hg : g.method = m) (hn : As.length = n) (hsize : g.locals.size = nL) (hstack : g.stack = As.reverse ++ .ref b :: rest) (hW : 2 * g.monitorRoom + (rest.map fun v => v.category).sum ≤ 8) (hdg : decode cc g.pc = .ok (.invokevirtual index, 3)) (hf : cells + mc ≤ R.cells ∧ slots + ms ≤ R.slots) :
    vx_Run p l e R s m args below meth c H locs cells slots mc ms g rest (Qc (Value.ref b :: As).toArray) XC free := by
  have hK : vx_Back l R p e below s args y 3 8 (PreOf R mc ms Pc) (PostOf Qc mc ms free) (vx_Post XC mc ms free) := vx_callBack cw.1 hM hp.1
  obtain ⟨⟨-, -, -, -, -, -, hcode, -, hy, hlen, hl⟩, hin, hse⟩ := cw
  obtain ⟨hx, hb, hml, ho, -⟩ := S
  obtain ⟨-, ⟨cellB, hcB, hoB, hclB⟩, hPc⟩ := hp
  intro T hT X
  rcases vx_callV X hx (C := C) (bytes := bytes) (maxL := maxL) (ret := ret) ho hl hin hse hcode hy hK (by rw [hT]; exact hcB) hoB hclB hg (hsize.trans hml.symm) (argsL := As) (rest := rest) (fun sig h => hn.trans (hlen sig h)) hstack hW (by rw [hb]; exact hdg)
    (fun vm₁ hW₁ => ⟨hf.1, hf.2, hPc (T.setVm vm₁) hT hW₁⟩) with ⟨v, vm₁, ⟨U', l2, c2, s2⟩, hW₁, X', ⟨g', mk, t, L, e1, e2, hq, h1, hL, h2, h3⟩, st⟩ | ⟨q, vm₁, ⟨U', l2, c2, s2⟩, hW₁, X', ⟨g', mk, t, L, E, ce, e1, e2, hq, hce, hcv, hcl, h1, hL, h2, h3⟩, st⟩
  · dsimp only [Pt.U, Pt.locs, Pt.cells, Pt.slots] at X' e1 e2 h1 h2 h3 st
    subst h1; subst h2; subst h3
    exact Or.inl ⟨v, (T.setVm vm₁).calling g' mk (Value.ref b :: As).toArray, t, U', L, hT, X', hL, e1, e2, hq, st⟩
  · dsimp only [Pt.U, Pt.locs, Pt.cells, Pt.slots] at X' e1 e2 h1 h2 h3 st hcl
    subst h1; subst h2; subst h3
    exact Or.inr ⟨q, (T.setVm vm₁).calling g' mk (Value.ref b :: As).toArray, t, U', L, E, ce, hT, X', hL, e1, e2, hq, hce, hcv, vx_cls hW₁ hcl, st⟩
theorem vx_runS (S : CallFix p m c cc nL s args Ts own) (hM : vx_Met l y ws rm Pc Qc XC mc ms free) (cw : CallB R s args own index y bytes maxL ret ws rm mc ms n ∧ (Cond.static y).before args s = true) (hp : PreS s H Pc As)
    (hg : g.method = m) (hn : As.length = n) (hsize : g.locals.size = nL) (hstack : g.stack = As.reverse ++ rest) (hW : 2 * g.monitorRoom + (rest.map fun v => v.category).sum ≤ 8) (hdg : decode cc g.pc = .ok (.invokestatic index, 3)) (hf : cells + mc ≤ R.cells ∧ slots + ms ≤ R.slots) :
    vx_Run p l e R s m args below meth c H locs cells slots mc ms g rest (Qc As.toArray) XC free := by
  have hK : vx_Back l R p e below s args y 3 8 (PreOf R mc ms Pc) (PostOf Qc mc ms free) (vx_Post XC mc ms free) := vx_callBack cw.1 hM hp.1
  obtain ⟨⟨-, -, -, -, -, -, hcode, hini, hy, hlen, hl⟩, hstt⟩ := cw
  obtain ⟨hx, hb, hml, ho, -⟩ := S
  intro T hT X
  rcases vx_callS X hx (bytes := bytes) (maxL := maxL) (ret := ret) ho hl hstt hini hcode hy hK hg (hsize.trans hml.symm) (argsL := As) (rest := rest) (fun sig h => hn.trans (hlen sig h)) hstack hW (by rw [hb]; exact hdg)
    (fun vm₁ hW₁ => ⟨hf.1, hf.2, hp.2 (T.setVm vm₁) hT hW₁⟩) with ⟨v, vm₁, ⟨U', l2, c2, s2⟩, hW₁, X', ⟨g', mk, t, L, e1, e2, hq, h1, hL, h2, h3⟩, st⟩ | ⟨q, vm₁, ⟨U', l2, c2, s2⟩, hW₁, X', ⟨g', mk, t, L, E, ce, e1, e2, hq, hce, hcv, hcl, h1, hL, h2, h3⟩, st⟩
  · dsimp only [Pt.U, Pt.locs, Pt.cells, Pt.slots] at X' e1 e2 h1 h2 h3 st
    subst h1; subst h2; subst h3
    exact Or.inl ⟨v, (T.setVm vm₁).calling g' mk As.toArray, t, U', L, hT, X', hL, e1, e2, hq, st⟩
  · dsimp only [Pt.U, Pt.locs, Pt.cells, Pt.slots] at X' e1 e2 h1 h2 h3 st hcl
    subst h1; subst h2; subst h3
    exact Or.inr ⟨q, (T.setVm vm₁).calling g' mk As.toArray, t, U', L, E, ce, hT, X', hL, e1, e2, hq, hce, hcv, vx_cls hW₁ hcl, st⟩
end Runs
section Rows
variable {p : Program} {l : Launch} {e : Env} {R : Room} {s : State} {m : MethodId} {args : Array Value} {below : List Frame} {meth : Method} {c : Code} {H : Heap} {locs : List Loc} {cells slots : Nat} {Q : State → Prop}
variable {mc ms : Nat} {free : Addr → Prop} {A0 A1 : Nat → Prop} {H0 : Heap} {a : Array Value} {pc : Nat} {ls : Array Slot} {st0 rest : List Value}
theorem vx_keep {st₀ t T' : State} {L : List Loc} (h0 : st₀.heap = H) (e1 : T'.heap = t.heap) (hS : va_S A0 H0 H locs) (hA : ∀ q, q < H.size → A1 q → A0 q) (hf : ∀ q, free q → A0 q) (hL : ∀ q ∈ L, free q.base) (hF : va_F A1 st₀ t) :
    H.size ≤ T'.heap.size ∧ (∀ q : Nat, q < H.size → ¬ A1 q → T'.heap[q]? = H[q]?) ∧ va_S A0 H0 T'.heap (locs ++ L) := by
  obtain ⟨hz, hk⟩ := hF
  rw [h0] at hz hk
  exact ⟨by rw [e1]; exact hz, fun q h1 h2 => by rw [e1]; exact hk q h1 h2,
    ⟨Nat.le_trans hS.1 (by rw [e1]; exact hz), fun q h1 h2 => by rw [e1, hk q (Nat.lt_of_lt_of_le h1 hS.1) (fun z => h2 (hA q (Nat.lt_of_lt_of_le h1 hS.1) z))]; exact hS.2.1 q h1 h2, fun q hq => by
      rcases List.mem_append.mp hq with h | h
      · exact hS.2.2 q h
      · exact hf _ (hL q h)⟩⟩
theorem vx_calli {S SX : Type} {post : Int32 → S → Prop} {px : SX → Prop} {B : S → State → Prop} {BX : String → SX → State → Prop} {AX : Nat → Prop} (hr : vx_Run p l e R s m args below meth c H locs cells slots mc ms (F0 m pc ls st0) rest (va_Qi post B A1 a) (vx_X px BX AX) free) (hS : va_S A0 H0 H locs) (hA : ∀ q, q < H.size → A1 q → A0 q) (hf : ∀ q, free q → A0 q) (hAX : ∀ q, q < H.size → AX q → A0 q)
    (kx : ∀ (E : String) (ce : Cell) (q9 : Addr) (u : SX) (t : State) (H1 : Heap) (locs1 : List Loc), t.heap = H1 → s.vm.Alike t.vm → px u → BX E u t → H.size ≤ H1.size → (∀ q : Nat, q < H.size → ¬ AX q → H1[q]? = H[q]?) → va_S A0 H0 H1 locs1 → H1[q9]? = some ce → ce.vm = .none → s.vm.findClass E = some ce.cls → vx_W p l e R s m args below meth c H1 locs1 (cells + mc) (slots + ms) Q (F0 m pc ls rest) q9)
    (kk : ∀ (r : Int32) (u : S) (t : State) (H1 : Heap) (locs1 : List Loc), t.heap = H1 → s.vm.Alike t.vm → post r u → B u t → H.size ≤ H1.size → (∀ q : Nat, q < H.size → ¬ A1 q → H1[q]? = H[q]?) → va_S A0 H0 H1 locs1 → W p l e R s m args below meth c H1 locs1 (cells + mc) (slots + ms) Q (F0 m (pc + 3) ls (.int r :: rest))) : W p l e R s m args below meth c H locs cells slots Q (F0 m pc ls st0) := by
  intro T hT X
  rcases hr T hT X with ⟨v, st₀, t, T', L, h0, X', hL, e1, e2, ⟨⟨r, u, hv, hp, hb⟩, hF⟩, st⟩ | ⟨q, st₀, t, T', L, E, ce, h0, X', hL, e1, e2, ⟨u, hp, hb, hF⟩, hce, hcv, hcl, st⟩
  · cases hv
    obtain ⟨k1, k2, k3⟩ := vx_keep h0 e1 hS hA hf hL hF
    obtain ⟨t2, a1, b1⟩ := kk r u t T'.heap (locs ++ L) e1.symm (by rw [← e2]; exact X'.warmed.alike) hp hb k1 k2 k3 T' rfl X'
    exact ⟨t2, st t2 a1, b1⟩
  · obtain ⟨k1, k2, k3⟩ := vx_keep h0 e1 hS hAX hf hL hF
    obtain ⟨t2, a1, b1⟩ := kx E ce q u t T'.heap (locs ++ L) e1.symm (by rw [← e2]; exact X'.warmed.alike) hp hb k1 k2 k3 (by rw [e1]; exact hce) hcv hcl T' rfl X'
    exact ⟨t2, st.trans a1, b1⟩
theorem vx_calll {S SX : Type} {post : Int64 → S → Prop} {px : SX → Prop} {B : S → State → Prop} {BX : String → SX → State → Prop} {AX : Nat → Prop} (hr : vx_Run p l e R s m args below meth c H locs cells slots mc ms (F0 m pc ls st0) rest (va_Ql post B A1 a) (vx_X px BX AX) free) (hS : va_S A0 H0 H locs) (hA : ∀ q, q < H.size → A1 q → A0 q) (hf : ∀ q, free q → A0 q) (hAX : ∀ q, q < H.size → AX q → A0 q)
    (kx : ∀ (E : String) (ce : Cell) (q9 : Addr) (u : SX) (t : State) (H1 : Heap) (locs1 : List Loc), t.heap = H1 → s.vm.Alike t.vm → px u → BX E u t → H.size ≤ H1.size → (∀ q : Nat, q < H.size → ¬ AX q → H1[q]? = H[q]?) → va_S A0 H0 H1 locs1 → H1[q9]? = some ce → ce.vm = .none → s.vm.findClass E = some ce.cls → vx_W p l e R s m args below meth c H1 locs1 (cells + mc) (slots + ms) Q (F0 m pc ls rest) q9)
    (kk : ∀ (r : Int64) (u : S) (t : State) (H1 : Heap) (locs1 : List Loc), t.heap = H1 → s.vm.Alike t.vm → post r u → B u t → H.size ≤ H1.size → (∀ q : Nat, q < H.size → ¬ A1 q → H1[q]? = H[q]?) → va_S A0 H0 H1 locs1 → W p l e R s m args below meth c H1 locs1 (cells + mc) (slots + ms) Q (F0 m (pc + 3) ls (.long r :: rest))) : W p l e R s m args below meth c H locs cells slots Q (F0 m pc ls st0) := by
  intro T hT X
  rcases hr T hT X with ⟨v, st₀, t, T', L, h0, X', hL, e1, e2, ⟨⟨r, u, hv, hp, hb⟩, hF⟩, st⟩ | ⟨q, st₀, t, T', L, E, ce, h0, X', hL, e1, e2, ⟨u, hp, hb, hF⟩, hce, hcv, hcl, st⟩
  · cases hv
    obtain ⟨k1, k2, k3⟩ := vx_keep h0 e1 hS hA hf hL hF
    obtain ⟨t2, a1, b1⟩ := kk r u t T'.heap (locs ++ L) e1.symm (by rw [← e2]; exact X'.warmed.alike) hp hb k1 k2 k3 T' rfl X'
    exact ⟨t2, st t2 a1, b1⟩
  · obtain ⟨k1, k2, k3⟩ := vx_keep h0 e1 hS hAX hf hL hF
    obtain ⟨t2, a1, b1⟩ := kx E ce q u t T'.heap (locs ++ L) e1.symm (by rw [← e2]; exact X'.warmed.alike) hp hb k1 k2 k3 (by rw [e1]; exact hce) hcv hcl T' rfl X'
    exact ⟨t2, st.trans a1, b1⟩
theorem vx_callf {S SX : Type} {post : UInt32 → S → Prop} {px : SX → Prop} {B : S → State → Prop} {BX : String → SX → State → Prop} {AX : Nat → Prop} (hr : vx_Run p l e R s m args below meth c H locs cells slots mc ms (F0 m pc ls st0) rest (va_Qf post B A1 a) (vx_X px BX AX) free) (hS : va_S A0 H0 H locs) (hA : ∀ q, q < H.size → A1 q → A0 q) (hf : ∀ q, free q → A0 q) (hAX : ∀ q, q < H.size → AX q → A0 q)
    (kx : ∀ (E : String) (ce : Cell) (q9 : Addr) (u : SX) (t : State) (H1 : Heap) (locs1 : List Loc), t.heap = H1 → s.vm.Alike t.vm → px u → BX E u t → H.size ≤ H1.size → (∀ q : Nat, q < H.size → ¬ AX q → H1[q]? = H[q]?) → va_S A0 H0 H1 locs1 → H1[q9]? = some ce → ce.vm = .none → s.vm.findClass E = some ce.cls → vx_W p l e R s m args below meth c H1 locs1 (cells + mc) (slots + ms) Q (F0 m pc ls rest) q9)
    (kk : ∀ (r : UInt32) (u : S) (t : State) (H1 : Heap) (locs1 : List Loc), t.heap = H1 → s.vm.Alike t.vm → post r u → B u t → H.size ≤ H1.size → (∀ q : Nat, q < H.size → ¬ A1 q → H1[q]? = H[q]?) → va_S A0 H0 H1 locs1 → W p l e R s m args below meth c H1 locs1 (cells + mc) (slots + ms) Q (F0 m (pc + 3) ls (.float r :: rest))) : W p l e R s m args below meth c H locs cells slots Q (F0 m pc ls st0) := by
  intro T hT X
  rcases hr T hT X with ⟨v, st₀, t, T', L, h0, X', hL, e1, e2, ⟨⟨r, u, hv, hp, hb⟩, hF⟩, st⟩ | ⟨q, st₀, t, T', L, E, ce, h0, X', hL, e1, e2, ⟨u, hp, hb, hF⟩, hce, hcv, hcl, st⟩
  · cases hv
    obtain ⟨k1, k2, k3⟩ := vx_keep h0 e1 hS hA hf hL hF
    obtain ⟨t2, a1, b1⟩ := kk r u t T'.heap (locs ++ L) e1.symm (by rw [← e2]; exact X'.warmed.alike) hp hb k1 k2 k3 T' rfl X'
    exact ⟨t2, st t2 a1, b1⟩
  · obtain ⟨k1, k2, k3⟩ := vx_keep h0 e1 hS hAX hf hL hF
    obtain ⟨t2, a1, b1⟩ := kx E ce q u t T'.heap (locs ++ L) e1.symm (by rw [← e2]; exact X'.warmed.alike) hp hb k1 k2 k3 (by rw [e1]; exact hce) hcv hcl T' rfl X'
    exact ⟨t2, st.trans a1, b1⟩
theorem vx_calld {S SX : Type} {post : UInt64 → S → Prop} {px : SX → Prop} {B : S → State → Prop} {BX : String → SX → State → Prop} {AX : Nat → Prop} (hr : vx_Run p l e R s m args below meth c H locs cells slots mc ms (F0 m pc ls st0) rest (va_Qd post B A1 a) (vx_X px BX AX) free) (hS : va_S A0 H0 H locs) (hA : ∀ q, q < H.size → A1 q → A0 q) (hf : ∀ q, free q → A0 q) (hAX : ∀ q, q < H.size → AX q → A0 q)
    (kx : ∀ (E : String) (ce : Cell) (q9 : Addr) (u : SX) (t : State) (H1 : Heap) (locs1 : List Loc), t.heap = H1 → s.vm.Alike t.vm → px u → BX E u t → H.size ≤ H1.size → (∀ q : Nat, q < H.size → ¬ AX q → H1[q]? = H[q]?) → va_S A0 H0 H1 locs1 → H1[q9]? = some ce → ce.vm = .none → s.vm.findClass E = some ce.cls → vx_W p l e R s m args below meth c H1 locs1 (cells + mc) (slots + ms) Q (F0 m pc ls rest) q9)
    (kk : ∀ (r : UInt64) (u : S) (t : State) (H1 : Heap) (locs1 : List Loc), t.heap = H1 → s.vm.Alike t.vm → post r u → B u t → H.size ≤ H1.size → (∀ q : Nat, q < H.size → ¬ A1 q → H1[q]? = H[q]?) → va_S A0 H0 H1 locs1 → W p l e R s m args below meth c H1 locs1 (cells + mc) (slots + ms) Q (F0 m (pc + 3) ls (.double r :: rest))) : W p l e R s m args below meth c H locs cells slots Q (F0 m pc ls st0) := by
  intro T hT X
  rcases hr T hT X with ⟨v, st₀, t, T', L, h0, X', hL, e1, e2, ⟨⟨r, u, hv, hp, hb⟩, hF⟩, st⟩ | ⟨q, st₀, t, T', L, E, ce, h0, X', hL, e1, e2, ⟨u, hp, hb, hF⟩, hce, hcv, hcl, st⟩
  · cases hv
    obtain ⟨k1, k2, k3⟩ := vx_keep h0 e1 hS hA hf hL hF
    obtain ⟨t2, a1, b1⟩ := kk r u t T'.heap (locs ++ L) e1.symm (by rw [← e2]; exact X'.warmed.alike) hp hb k1 k2 k3 T' rfl X'
    exact ⟨t2, st t2 a1, b1⟩
  · obtain ⟨k1, k2, k3⟩ := vx_keep h0 e1 hS hAX hf hL hF
    obtain ⟨t2, a1, b1⟩ := kx E ce q u t T'.heap (locs ++ L) e1.symm (by rw [← e2]; exact X'.warmed.alike) hp hb k1 k2 k3 (by rw [e1]; exact hce) hcv hcl T' rfl X'
    exact ⟨t2, st.trans a1, b1⟩
theorem vx_callv {S SX : Type} {post : S → Prop} {px : SX → Prop} {B : S → State → Prop} {BX : String → SX → State → Prop} {AX : Nat → Prop} (hr : vx_Run p l e R s m args below meth c H locs cells slots mc ms (F0 m pc ls st0) rest (va_Qv post B A1 a) (vx_X px BX AX) free) (hS : va_S A0 H0 H locs) (hA : ∀ q, q < H.size → A1 q → A0 q) (hf : ∀ q, free q → A0 q) (hAX : ∀ q, q < H.size → AX q → A0 q)
    (kx : ∀ (E : String) (ce : Cell) (q9 : Addr) (u : SX) (t : State) (H1 : Heap) (locs1 : List Loc), t.heap = H1 → s.vm.Alike t.vm → px u → BX E u t → H.size ≤ H1.size → (∀ q : Nat, q < H.size → ¬ AX q → H1[q]? = H[q]?) → va_S A0 H0 H1 locs1 → H1[q9]? = some ce → ce.vm = .none → s.vm.findClass E = some ce.cls → vx_W p l e R s m args below meth c H1 locs1 (cells + mc) (slots + ms) Q (F0 m pc ls rest) q9)
    (kk : ∀ (u : S) (t : State) (H1 : Heap) (locs1 : List Loc), t.heap = H1 → s.vm.Alike t.vm → post u → B u t → H.size ≤ H1.size → (∀ q : Nat, q < H.size → ¬ A1 q → H1[q]? = H[q]?) → va_S A0 H0 H1 locs1 → W p l e R s m args below meth c H1 locs1 (cells + mc) (slots + ms) Q (F0 m (pc + 3) ls (rest))) : W p l e R s m args below meth c H locs cells slots Q (F0 m pc ls st0) := by
  intro T hT X
  rcases hr T hT X with ⟨v, st₀, t, T', L, h0, X', hL, e1, e2, ⟨⟨u, hv, hp, hb⟩, hF⟩, st⟩ | ⟨q, st₀, t, T', L, E, ce, h0, X', hL, e1, e2, ⟨u, hp, hb, hF⟩, hce, hcv, hcl, st⟩
  · cases hv
    obtain ⟨k1, k2, k3⟩ := vx_keep h0 e1 hS hA hf hL hF
    obtain ⟨t2, a1, b1⟩ := kk u t T'.heap (locs ++ L) e1.symm (by rw [← e2]; exact X'.warmed.alike) hp hb k1 k2 k3 T' rfl X'
    exact ⟨t2, st t2 a1, b1⟩
  · obtain ⟨k1, k2, k3⟩ := vx_keep h0 e1 hS hAX hf hL hF
    obtain ⟨t2, a1, b1⟩ := kx E ce q u t T'.heap (locs ++ L) e1.symm (by rw [← e2]; exact X'.warmed.alike) hp hb k1 k2 k3 (by rw [e1]; exact hce) hcv hcl T' rfl X'
    exact ⟨t2, st.trans a1, b1⟩
/-- caught by the row x of this method's table; the rows ahead don't take it -/
theorem vx_catch {own name : String} {E : String} {ce : Cell} {q : Addr} (hown : s.vm.findClass own = some m.cls) (pre : List ExceptionTableEntry) (x : ExceptionTableEntry) (suf : List ExceptionTableEntry) (hsplit : c.exceptionTable.toList = pre ++ x :: suf)
    (hpass : ∀ z ∈ pre, covers z pc = false ∨ (z.catchType ≠ 0 ∧ ∃ nm : String, (Cond.classLink own z.catchType nm).before args s = true ∧ va_Nc E nm s)) (hx : covers x pc = true) (h0 : x.catchType ≠ 0)
    (hlink : (Cond.classLink own x.catchType name).before args s = true) (hcast : (Cond.castable E name).before args s = true) (hcell : H[q]? = some ce) (hv : ce.vm = .none) (hcl : s.vm.findClass E = some ce.cls)
    (kk : W p l e R s m args below meth c H locs cells slots Q (F0 m x.handlerPc ls [.ref q])) : vx_W p l e R s m args below meth c H locs cells slots Q (F0 m pc ls rest) q := by
  intro T hT X
  have hpl : e.platform.magicAccessors = ({} : Platform).magicAccessors := by rw [X.admits.platform]
  obtain ⟨c3, c4, hc3, hc4, hasg⟩ := Cond.castable_spec hcast
  cases Option.some.inj (hc3.symm.trans hcl)
  obtain ⟨c5, hc5, hcl5⟩ := Cond.classLink_spec hown hlink e.platform hpl
  cases Option.some.inj (hc4.symm.trans hc5)
  obtain ⟨vm', X', st⟩ := X.thenCaughtThrough q (g := F0 m pc ls rest) rfl (Steps.refl _) (by rw [hT]; exact hcell) (by rw [hv]; rfl) (by obtain ⟨k9, h9, -⟩ := Vm.findClass_spec hcl; exact ⟨k9, h9⟩) pre x suf hsplit
    (fun z hz => by
      rcases hpass z hz with h | ⟨hz0, nm, hl1, hn1⟩
      · exact Or.inl h
      · obtain ⟨c6, hc6, hcl6⟩ := Cond.classLink_spec hown hl1 e.platform hpl
        obtain ⟨a8, b8, h1, h2, h3⟩ := hn1
        cases Option.some.inj (h1.symm.trans hcl)
        cases Option.some.inj (h2.symm.trans hc6)
        exact Or.inr ⟨hz0, _, hcl6, h3⟩) hx (Or.inr ⟨h0, c4, hcl5, hasg⟩)
  obtain ⟨t, a1, b1⟩ := kk (T.setVm vm') hT X'
  exact ⟨t, st.trans a1, b1⟩
end Rows
section Ends
variable {p : Program} {l : Launch} {e : Env} {R : Room} {s : State} {m : MethodId} {args : Array Value} {below : List Frame} {meth : Method} {c : Code} {H : Heap} {locs : List Loc} {cells slots : Nat} {Q : State → Prop}
variable {mc ms : Nat} {free : Addr → Prop} {A0 A1 : Nat → Prop} {H0 : Heap} {a : Array Value} {ls : Array Slot} {st0 rest : List Value}
variable {Qc : Array Value → State → Outcome → State → Prop} {XC : String → State → State → Prop}
/-- what a body that may throw owes at its end -/
def vx_MQ (below : List Frame) (Qc : Array Value → State → Outcome → State → Prop) (XC : String → State → State → Prop) (a : Array Value) (s : State) (mc ms : Nat) (free : Addr → Prop) : State → Prop := fun t =>
  ∃ o, t.status = .running ∧ Ended t below o ∧ vx_Q Qc XC mc ms free a s o t
theorem vx_ret {g : JFrame} {mc ms : Nat} (k : W p l e R s m args below meth c H locs cells slots (MQ below Qc args s mc ms free) g) : W p l e R s m args below meth c H locs cells slots (vx_MQ below Qc XC args s mc ms free) g := by
  intro T hT X
  obtain ⟨t, a1, o, b1, b2, b3, b4⟩ := k T hT X
  exact ⟨t, a1, o, b1, b2, Or.inl ⟨b3, b4⟩⟩
/-- not caught here: it goes on to the caller -/
theorem vx_widen {g : JFrame} {q : Addr} {k n : Nat} (h1 : cells ≤ k) (h2 : slots ≤ n) (kk : vx_W p l e R s m args below meth c H locs k n Q g q) : vx_W p l e R s m args below meth c H locs cells slots Q g q := fun T hT X => kk T hT (stand_widen X h1 h2)
theorem vx_out {pc : Nat} {E : String} {ce : Cell} {q : Addr} {mc ms : Nat} (hout : ∀ x ∈ c.exceptionTable.toList, covers x pc = false) (hlocks : meth.locks = false) (hcell : H[q]? = some ce) (hv : ce.vm = .none) (hcl : s.vm.findClass E = some ce.cls)
    (hx : ∀ t : State, t.heap = H → s.vm.Alike t.vm → XC E s t) (hf : ∀ z ∈ locs, free z.base) (hc : cells ≤ mc) (hs : slots ≤ ms) :
    vx_W p l e R s m args below meth c H locs cells slots (vx_MQ below Qc XC args s mc ms free) (F0 m pc ls rest) q := by
  intro T hT X
  obtain ⟨st1, hrun, hend, hW, hsm⟩ := X.leaveThrown q (g := F0 m pc ls rest) rfl rfl rfl hout hlocks
  have hcell9 : (T.setFrames (.throwing q :: below)).heap[q]? = some ce := by
    show T.heap[q]? = some ce
    rw [hT]; exact hcell
  exact ⟨_, st1, .threw q, hrun, hend, Or.inr ⟨q, rfl, E, ce, locs, hx _ hT hW.alike, hcell9, hv, hcl, hW, hsm.mono hc hs, hf⟩⟩
theorem vx_frame {U : State} {k n : Nat} (h : s.sameButNew ({ U with vm := s.vm } : State) locs k n) : s.heap.size ≤ U.heap.size ∧ ∀ q : Nat, q < s.heap.size → (∀ z ∈ locs, z.base ≠ q) → U.heap[q]? = s.heap[q]? := by
  obtain ⟨-, h2, -, -, -, h6⟩ := h
  refine ⟨h2, fun q hq hz => ?_⟩
  obtain ⟨c9, e1, e2, e3, e4⟩ := h6 q _ (Array.getElem?_eq_getElem hq)
  have hs : c9.slots = (s.heap[q]).slots := Array.ext_getElem? fun i => e4 i fun hm => hz _ hm rfl
  have h9 : c9 = s.heap[q] := by
    rw [hs] at e2
    exact e2
  have e5 : U.heap[q]? = some c9 := e1
  rw [e5, h9, Array.getElem?_eq_getElem hq]
/-- the words of a throw but the four that speak of the heap -/
def vx_no (w : Cond) : Bool := decide (w ≠ .isRef (.static Bundle.tN "UNASSIGNED_STACK" Bundle.steD)) && decide (w ≠ .isRef (.static Bundle.tN "SUPPRESSED_SENTINEL" Bundle.listD)) && decide (w ≠ .laysStatic Bundle.tN "UNASSIGNED_STACK" Bundle.steD) && decide (w ≠ .laysStatic Bundle.tN "SUPPRESSED_SENTINEL" Bundle.listD)
def vx_at0 (own : String) (ic : Nat) (X : String) (names : List String) : List Cond := (Bundle.ownAtoms0 own ic X names).filter vx_no
def vx_atS (own : String) (ic : Nat) (X : String) (names : List String) : List Cond := (Bundle.ownAtoms own ic X names).filter vx_no
/-- a word that the tables alone decide, or a good one -/
def vx_ot (w : Cond) : Bool := w.onTables || goodWord w
theorem vx_ot_at {args a' : Array Value} {s U : State} {w : Cond} (hW : s.WarmedH U.vm) (hvm : s.vm = U.vm) (hg : vx_ot w = true) (h : w.before args s = true) : w.before a' U = true := by
  simp only [vx_ot, Bool.or_eq_true] at hg
  rcases hg with hg | hg
  · exact va_tabs hg hvm h
  · exact word_at hW (good_of_word hg) h
/-- a list's words: the good ones out of the method's own list, the others by premises of their own -/
theorem vx_hat {args : Array Value} {s : State} {L B : List Cond} (h1 : ∀ w ∈ L.filter goodWord, w.before args s = true) (h2 : ∀ w ∈ L.filter (fun w => !goodWord w), w ∈ B) (h3 : ∀ w ∈ B, w.before args s = true) : ∀ w ∈ L, w.before args s = true := by
  intro w hw
  by_cases g : goodWord w = true
  · exact h1 w (List.mem_filter.mpr ⟨hw, g⟩)
  · refine h3 w (h2 w (List.mem_filter.mpr ⟨hw, ?_⟩))
    show (!goodWord w) = true
    cases hgw : goodWord w
    · rfl
    · exact absurd hgw g
theorem vx_c {args : Array Value} {s : State} {w : Cond} {B : List Cond} (h : w.before args s = true) (t : ∀ w ∈ B, w.before args s = true) : ∀ w' ∈ w :: B, w'.before args s = true := fun w' h' => (List.mem_cons.mp h').elim (fun e => by rw [e]; exact h) (t w')
theorem vx_n {args : Array Value} {s : State} : ∀ w ∈ ([] : List Cond), w.before args s = true := fun _ h => nomatch h
theorem vx_own {args : Array Value} {s : State} {L : List Cond} (h1 : ∀ w ∈ L.filter vx_no, w.before args s = true)
    (hU : (Cond.isRef (.static Bundle.tN "UNASSIGNED_STACK" Bundle.steD)).before args s = true) (hN : (Cond.isRef (.static Bundle.tN "SUPPRESSED_SENTINEL" Bundle.listD)).before args s = true)
    (lU : (Cond.laysStatic Bundle.tN "UNASSIGNED_STACK" Bundle.steD).before args s = true) (lN : (Cond.laysStatic Bundle.tN "SUPPRESSED_SENTINEL" Bundle.listD).before args s = true) : ∀ w ∈ L, w.before args s = true := by
  intro w hw
  by_cases e1 : w = .isRef (.static Bundle.tN "UNASSIGNED_STACK" Bundle.steD)
  · rw [e1]; exact hU
  · by_cases e2 : w = .isRef (.static Bundle.tN "SUPPRESSED_SENTINEL" Bundle.listD)
    · rw [e2]; exact hN
    · by_cases e3 : w = .laysStatic Bundle.tN "UNASSIGNED_STACK" Bundle.steD
      · rw [e3]; exact lU
      · by_cases e4 : w = .laysStatic Bundle.tN "SUPPRESSED_SENTINEL" Bundle.listD
        · rw [e4]; exact lN
        · exact h1 w (List.mem_filter.mpr ⟨hw, by unfold vx_no; rw [decide_eq_true e1, decide_eq_true e2, decide_eq_true e3, decide_eq_true e4]; rfl⟩)
/-- where a static field lies, its class's statics cell in H -/
def vx_L (C n d : String) (A : Nat → Prop) (U : State) (H : Heap) : Prop := ∃ (c : ClassId) (k : Class) (i : Nat) (f : Field) (a : Nat) (cell : Cell), U.vm.findClass C = some c ∧ U.fieldFound? C n d = some (c, k, i, f) ∧ f.isStatic = true ∧ k.statics = some a ∧ H[a]? = some cell ∧ cell.vm.isStatics = true ∧ cell.cls = c ∧ f.slot < cell.slots.size ∧ k.staticTypes[f.slot]? = some f.type ∧ ¬ A a
theorem vx_L.moved {C n d : String} {A : Nat → Prop} {u U : State} {H : Heap} (hvm : u.vm.Alike U.vm) (h : vx_L C n d A u H) : vx_L C n d A U H := by
  obtain ⟨c, k, i, f, a, cell, h1, h2, h3, h4, h5, h6, h7, h8, h9, h10⟩ := h
  obtain ⟨k', hi', he⟩ := State.fieldFound?_setVm hvm h2
  exact ⟨c, k', i, f, a, cell, by rw [hvm.findClass]; exact h1, hi', h3, by rw [he]; exact h4, h5, h6, h7, h8, by rw [he]; exact h9, h10⟩
theorem vx_L.kept {C n d : String} {A : Nat → Prop} {U : State} {H H1 : Heap} (h : vx_L C n d A U H) (hq : ∀ a : Nat, a < H.size → ¬ A a → H1[a]? = H[a]?) : vx_L C n d A U H1 := by
  obtain ⟨c, k, i, f, a, cell, h1, h2, h3, h4, h5, h6, h7, h8, h9, h10⟩ := h
  exact ⟨c, k, i, f, a, cell, h1, h2, h3, h4, by rw [hq a (Array.getElem?_eq_some_iff.mp h5).1 h10]; exact h5, h6, h7, h8, h9, h10⟩
theorem vx_L.narrow {C n d : String} {A B : Nat → Prop} {U : State} {H : Heap} (h : vx_L C n d A U H) (hAB : ∀ q, B q → A q) : vx_L C n d B U H := by
  obtain ⟨c, k, i, f, a, cell, h1, h2, h3, h4, h5, h6, h7, h8, h9, h10⟩ := h
  exact ⟨c, k, i, f, a, cell, h1, h2, h3, h4, h5, h6, h7, h8, h9, fun z => h10 (hAB _ z)⟩
theorem vx_L.word {C n d : String} {A : Nat → Prop} {s : State} {args : Array Value} (h : vx_L C n d A s s.heap) : (Cond.laysStatic C n d).before args s = true := by
  obtain ⟨c, k, i, f, a, cell, h1, h2, h3, h4, h5, h6, h7, h8, h9, -⟩ := h
  show (Cond.laysStatic C n d).holds args s none s [] = true
  exact Cond.laysStatic_of h1 h2 h3 h4 h5 h6 h7 h8 h9
/-- .. and what it holds: null or some reference -/
def vx_Zq (C n d : String) (A : Nat → Prop) (U : State) (H : Heap) : Prop := va_Zq C n d A U H ∧ vx_L C n d A U H
theorem vx_Zq.moved {C n d : String} {A : Nat → Prop} {u U : State} {H : Heap} (hvm : u.vm.Alike U.vm) (h : vx_Zq C n d A u H) : vx_Zq C n d A U H := ⟨va_Zq.moved hvm h.1, vx_L.moved hvm h.2⟩
theorem vx_Zq.kept {C n d : String} {A : Nat → Prop} {U : State} {H H1 : Heap} (h : vx_Zq C n d A U H) (hq : ∀ a : Nat, a < H.size → ¬ A a → H1[a]? = H[a]?) : vx_Zq C n d A U H1 := ⟨va_Zq.kept h.1 hq, vx_L.kept h.2 hq⟩
theorem vx_Zq.narrow {C n d : String} {A B : Nat → Prop} {U : State} {H : Heap} (h : vx_Zq C n d A U H) (hAB : ∀ q, B q → A q) : vx_Zq C n d B U H := ⟨va_Zq.narrow h.1 hAB, vx_L.narrow h.2 hAB⟩
theorem vx_Zqof {args : Array Value} {s : State} {C n d : String} {A : Nat → Prop} (hl : (Cond.laysStatic C n d).before args s = true) (hini : (Cond.initialized C).before args s = true) (h : (Cond.isRef (.static C n d)).before args s = true) (hA : ∀ a : Nat, a < s.heap.size → ¬ A a) : vx_Zq C n d A s s.heap := by
  refine ⟨va_Zqof hl hini h hA, ?_⟩
  obtain ⟨c, k, i, f, a, cell, h1, h2, h3, h4, h5, h6, h7, h8, h9⟩ := Cond.laysStatic_spec hl
  exact ⟨c, k, i, f, a, cell, h1, h2, h3, h4, h5, h6, h7, h8, h9, hA a (Array.getElem?_eq_some_iff.mp h5).1⟩
theorem vx_isRef {C n d : String} {v : Value} {A : Nat → Prop} {s : State} {args : Array Value} (h : va_Z C n d v A s s.heap) (hv : v.isRef = true) : (Cond.isRef (.static C n d)).before args s = true := by
  obtain ⟨cf, kf, fi, f, a, cell, h1, h2, h3, h4, h5, h6, h7, -⟩ := h
  have he : (Term.static C n d).eval args s none [] s = some v := by
    simp [Term.eval, State.fieldNamed?, h1, h2, h4, h5, h6, h7]
  simp only [Cond.before, Cond.holds, Cond.value, he]
  cases v <;> simp_all [Value.isRef]
theorem vx_isRefq {C n d : String} {A : Nat → Prop} {s : State} {args : Array Value} (h : va_Zq C n d A s s.heap) : (Cond.isRef (.static C n d)).before args s = true := by
  rcases h with h | ⟨t, h⟩
  · exact vx_isRef h rfl
  · exact vx_isRef h rfl
/-- the same frame, seen from here: as if the method were called anew in this heap -/
theorem vx_rebase {T : State} (X : Stand p l e R s m args below meth c T locs cells slots) {R' : Room} (hf : R'.frames ≤ R.frames) (hl : R'.locals ≤ R.locals) (hc : cells + R'.cells ≤ R.cells) (hs : slots + R'.slots ≤ R.slots) :
    Stand p l e R' ((T.setVm s.vm).setFrames (.invoking m args :: below)) m args below meth c T [] 0 0 := by
  have htop : (T.setVm s.vm).topJava?.isSome := X.here.top
  have hF : ((T.setVm s.vm).setFrames (.invoking m args :: below)).frames = .invoking m args :: below := State.frames_setFrames _ (State.cur_lt_of_top htop)
  obtain ⟨g₀, hg0⟩ := Option.isSome_iff_exists.mp htop
  obtain ⟨r, hr⟩ := State.topJava?_eq_some.mp hg0
  have hl9 : e.platform.stackLimits (T.setVm s.vm).me = e.platform.stackLimits s.me := X.limits
  have hb9 : (T.setVm s.vm).me.stackBytes = s.me.stackBytes := X.bytes
  refine ⟨X.admits, X.cas, X.clock, hF, ?_, X.hears, X.method, X.code, X.here, X.tail, X.warmed, ?_, ?_, ?_⟩
  · have h := X.room
    have hU : ((T.setVm s.vm).setFrames (.invoking m args :: below)).localsInUse = s.localsInUse := by
      rw [State.localsInUse_invoking hF (meth := meth) (c := c) X.method X.code, State.localsInUse_invoking X.frames X.method X.code]
    simp only [State.hasRoom, Bool.and_eq_true, decide_eq_true_eq] at h ⊢
    obtain ⟨⟨⟨⟨h1, h2, h3, h4, h5, h6⟩, h7⟩, h8⟩, h9⟩ := h
    rw [X.frames, List.length_cons] at h2 h3
    have q1 := X.heapSize
    have q2 := X.used
    simp only [hF, hU, List.length_cons, State.stackLimits_setFrames, State.stackBytes_setFrames, hl9, hb9]
    refine ⟨⟨⟨⟨by omega, by omega, by omega, by omega, by omega, h6⟩, ?_⟩, ?_⟩, X.book⟩
    · show T.heap.size + R'.cells ≤ e.platform.maxCells
      omega
    · show T.slotsUsed + R'.slots ≤ e.platform.maxSlots
      omega
  · rw [State.stackLimits_setFrames]; rfl
  · rw [State.stackBytes_setFrames]; rfl
  · refine ⟨?_, Nat.le_refl _, Nat.le_refl _, ?_, ?_, fun a c9 h9 => ⟨c9, h9, rfl, rfl, fun _ _ => rfl⟩⟩
    · obtain ⟨t, ht, -⟩ := State.frames_cons hr
      show T.setVm s.vm = { ((T.setVm s.vm).setFrames (.invoking m args :: below)).setFrames (T.setVm s.vm).frames with heap := T.heap, slotsUsed := T.slotsUsed }
      rw [State.setFrames_setFrames, State.setFrames_self ht]
      rfl
    · show T.slotsUsed = T.slotsUsed + ((T.heap.toList.drop T.heap.size).map (·.slots.size)).sum
      rw [List.drop_eq_nil_of_le (Nat.le_of_eq Array.length_toList)]
      rfl
    · show ((T.heap.toList.drop T.heap.size).map (·.slots.size)).sum ≤ 0
      rw [List.drop_eq_nil_of_le (Nat.le_of_eq Array.length_toList)]
      exact Nat.le_refl _
/-- 'throw new E()': new; dup; invokespecial; athrow -/
theorem vx_throw0 {cc : ByteArray} {pc : Nat} (hexec : p.tables.exec = Jvm.exec) (hb : c.code = cc) (hl : l.stackTraces = false) {own cls : String} {names : List String} {ik ic mc ms : Nat} {A : Nat → Prop}
    (hown : s.vm.findClass own = some m.cls) (hcls : Bundle.fit cls = true) (hnames : ∀ n ∈ names, Bundle.fit n = true)
    (hk : (Cond.classLink own ik cls).before args s = true) (hini : (Cond.initialized cls).before args s = true) (hat : ∀ w ∈ vx_at0 own ic cls names, w.before args s = true)
    (hgood : ∀ w ∈ Cond.classLink own ik cls :: Cond.initialized cls :: vx_at0 own ic cls names, vx_ot w = true)
    (hU : vx_Zq Bundle.tN "UNASSIGNED_STACK" Bundle.steD A s s.heap) (hN : vx_Zq Bundle.tN "SUPPRESSED_SENTINEL" Bundle.listD A s s.heap) (hS : va_S A s.heap H locs) (hsize : ls.size = c.maxLocals)
    (d0 : decode cc pc = .ok (.new ik, 3)) (d3 : decode cc (pc + 3) = .ok (.dup, 1)) (d4 : decode cc (pc + 4) = .ok (.invokespecial ic, 3)) (d7 : decode cc (pc + 7) = .ok (.athrow, 1))
    (hout : ∀ x ∈ c.exceptionTable.toList, covers x (pc + 7) = false)
    (hRframes : names.length + 3 < R.frames) (hRlocals : (rest.map fun v => v.category).sum + (13 * (names.length + 1) + 42) ≤ R.locals) (hRcells : cells + 1 ≤ R.cells) (hRslots : slots + 6 ≤ R.slots) (hlocks : meth.locks = false)
    (hx : ∀ t : State, s.vm.Alike t.vm → H.size ≤ t.heap.size → (∀ q : Nat, q < H.size → t.heap[q]? = H[q]?) → XC cls s t)
    (hf : ∀ z ∈ locs, free z.base) (hc : cells + 1 ≤ mc) (hs : slots + 6 ≤ ms) :
    W p l e R s m args below meth c H locs cells slots (vx_MQ below Qc XC args s mc ms free) (F0 m pc ls rest) := by
  intro T hT X
  have htr : e.platform.stackTraces = false := (show e.platform.stackTraces = l.stackTraces by rw [X.admits.platform]).trans hl
  have Y := vx_rebase X (R' := { frames := R.frames, locals := R.locals, cells := 1, slots := 6 }) (Nat.le_refl _) (Nat.le_refl _) hRcells hRslots
  obtain ⟨s', hA⟩ : ∃ z, z = (T.setVm s.vm).setFrames (.invoking m args :: below) := ⟨_, rfl⟩
  rw [← hA] at Y
  have hvm : s'.vm = s.vm := by rw [hA]; rfl
  have hhp : s'.heap = H := by rw [hA]; exact hT
  have hW0 : s.WarmedH s'.vm := by rw [hvm]; exact State.WarmedH.refl s
  have hat' : ∀ w ∈ vx_at0 own ic cls names, w.before args s' = true := fun w hw => vx_ot_at hW0 hvm.symm (hgood w (List.mem_cons_of_mem _ (List.mem_cons_of_mem _ hw))) (hat w hw)
  have hk' : (Cond.classLink own ik cls).before args s' = true := vx_ot_at hW0 hvm.symm (hgood _ List.mem_cons_self) hk
  have hini' : (Cond.initialized cls).before args s' = true := vx_ot_at hW0 hvm.symm (hgood _ (List.mem_cons_of_mem _ List.mem_cons_self)) hini
  have hU' : vx_Zq Bundle.tN "UNASSIGNED_STACK" Bundle.steD A s' s'.heap := by rw [hhp]; exact vx_Zq.moved hW0.alike (hU.kept hS.2.1)
  have hN' : vx_Zq Bundle.tN "SUPPRESSED_SENTINEL" Bundle.listD A s' s'.heap := by rw [hhp]; exact vx_Zq.moved hW0.alike (hN.kept hS.2.1)
  have h : ∀ w ∈ Bundle.ownAtoms0 own ic cls names, w.before args s' = true := vx_own hat' (vx_isRefq hU'.1) (vx_isRefq hN'.1) hU'.2.word hN'.2.word
  have hown' : s'.vm.findClass own = some m.cls := by rw [hvm]; exact hown
  have hins : (Cond.instantiable cls 6).before args s' = true := h _ (by simp [Bundle.ownAtoms0])
  obtain ⟨vm₁, cX, kX, hfX, hkX, -, -, X₁, st1⟩ := Y.newCold hexec (own := own) (C := cls) (index := ik) (n := 6) hown' hk' hins hini'
    (g := F0 m pc ls rest) rfl (by rw [hb]; exact d0) (Nat.le_refl _) (Nat.le_refl _)
  generalize hT1 : (T.setVm vm₁).pushCell { cls := cX, slots := kX.instanceTypes.map defaultValue, vm := .none } = T1 at X₁ st1
  have hcat : (Value.ref T.heap.size).category = 1 := rfl
  have hcellA : T1.heap[T.heap.size]? = some (freshCell cX kX) := by rw [← hT1]; exact State.heap_pushCell_size _ _
  have d3' : decode c.code (pc + 3) = .ok (.dup, 1) := by rw [hb]; exact d3
  obtain ⟨U, hsteps, hrun, hend, hW, hsame, ce, hce, hO⟩ := X₁.ctorThrow0 hexec htr (own := own) (cls := cls) (names := names) (ic := ic) hown' hcls hnames h (fun x hx => nomatch hx) hfX hkX hcellA (by rw [hhp, hT]; exact Nat.le_refl _)
    (g := { method := m, pc := pc + 4, locals := ls, stack := .ref T.heap.size :: .ref T.heap.size :: rest, locked := none }) rfl hsize rfl rfl (rest := rest) rfl
    (by rw [hb]; exact d4) (by rw [hb]; exact d7) hout hRframes (by simp only [List.map_cons, List.sum_cons, hcat]; omega) hlocks
  obtain ⟨f1, f2⟩ := vx_frame hsame
  rw [hhp] at f1 f2
  have hWs : s.WarmedH U.vm := State.WarmedH.trans hW0 hW
  have hcl : s.vm.findClass cls = some ce.cls := by
    have h9 := hO.cls
    rw [hvm] at h9
    exact h9
  have hall : s.sameButNew ({ U with vm := s.vm } : State) locs mc ms := by
    subst hA
    obtain ⟨e1, e2⟩ := hsame
    rw [State.setFrames_setFrames] at e1
    have h2 : (T.setVm s.vm).sameButNew ({ U with vm := s.vm } : State) [] (0 + 1) (0 + 6) := ⟨e1, e2⟩
    have h3 := X.same.trans h2
    rw [List.append_nil] at h3
    exact h3.mono hc hs
  refine ⟨U, ?_, .threw T.heap.size, hrun, hend, Or.inr ⟨T.heap.size, rfl, cls, ce, locs, hx U hWs.alike f1 (fun q hq => f2 q hq (fun z hz => nomatch hz)), hce, hO.vm, hcl, hWs, hall, hf⟩⟩
  refine st1 _ ?_
  show Steps p.tables e below (T1.setTop { method := m, pc := pc + 3, locals := ls, stack := .ref T.heap.size :: rest, locked := none }) _
  jvm_step X₁.here [X₁.here.top, hexec, d3', Value.category]
  exact hsteps
/-- 'throw new E("text")': new; dup; ldc; invokespecial; athrow -/
theorem vx_throwS {cc : ByteArray} {pc : Nat} (hexec : p.tables.exec = Jvm.exec) (hb : c.code = cc) (hl : l.stackTraces = false) {own cls text : String} {names : List String} {ik is ic mc ms sa : Nat} {A : Nat → Prop}
    (hown : s.vm.findClass own = some m.cls) (hcls : Bundle.fit cls = true) (hnames : ∀ n ∈ names, Bundle.fit n = true)
    (hk : (Cond.classLink own ik cls).before args s = true) (hini : (Cond.initialized cls).before args s = true) (hstr : vk_R own is text sa s) (hat : ∀ w ∈ vx_atS own ic cls names, w.before args s = true)
    (hgood : ∀ w ∈ Cond.classLink own ik cls :: Cond.initialized cls :: vx_atS own ic cls names, vx_ot w = true)
    (hU : vx_Zq Bundle.tN "UNASSIGNED_STACK" Bundle.steD A s s.heap) (hN : vx_Zq Bundle.tN "SUPPRESSED_SENTINEL" Bundle.listD A s s.heap) (hS : va_S A s.heap H locs) (hsize : ls.size = c.maxLocals)
    (d0 : decode cc pc = .ok (.new ik, 3)) (d3 : decode cc (pc + 3) = .ok (.dup, 1)) (d4 : decode cc (pc + 4) = .ok (.ldc is, 2)) (d6 : decode cc (pc + 6) = .ok (.invokespecial ic, 3)) (d9 : decode cc (pc + 9) = .ok (.athrow, 1))
    (hout : ∀ x ∈ c.exceptionTable.toList, covers x (pc + 9) = false)
    (hRframes : names.length + 3 < R.frames) (hRlocals : (rest.map fun v => v.category).sum + (13 * (names.length + 1) + 43) ≤ R.locals) (hRcells : cells + 1 ≤ R.cells) (hRslots : slots + 6 ≤ R.slots) (hlocks : meth.locks = false)
    (hx : ∀ t : State, s.vm.Alike t.vm → H.size ≤ t.heap.size → (∀ q : Nat, q < H.size → t.heap[q]? = H[q]?) → XC cls s t)
    (hf : ∀ z ∈ locs, free z.base) (hc : cells + 1 ≤ mc) (hs : slots + 6 ≤ ms) :
    W p l e R s m args below meth c H locs cells slots (vx_MQ below Qc XC args s mc ms free) (F0 m pc ls rest) := by
  intro T hT X
  have htr : e.platform.stackTraces = false := (show e.platform.stackTraces = l.stackTraces by rw [X.admits.platform]).trans hl
  have Y := vx_rebase X (R' := { frames := R.frames, locals := R.locals, cells := 1, slots := 6 }) (Nat.le_refl _) (Nat.le_refl _) hRcells hRslots
  obtain ⟨s', hA⟩ : ∃ z, z = (T.setVm s.vm).setFrames (.invoking m args :: below) := ⟨_, rfl⟩
  rw [← hA] at Y
  have hvm : s'.vm = s.vm := by rw [hA]; rfl
  have hhp : s'.heap = H := by rw [hA]; exact hT
  have hW0 : s.WarmedH s'.vm := by rw [hvm]; exact State.WarmedH.refl s
  have hat' : ∀ w ∈ vx_atS own ic cls names, w.before args s' = true := fun w hw => vx_ot_at hW0 hvm.symm (hgood w (List.mem_cons_of_mem _ (List.mem_cons_of_mem _ hw))) (hat w hw)
  have hk' : (Cond.classLink own ik cls).before args s' = true := vx_ot_at hW0 hvm.symm (hgood _ List.mem_cons_self) hk
  have hini' : (Cond.initialized cls).before args s' = true := vx_ot_at hW0 hvm.symm (hgood _ (List.mem_cons_of_mem _ List.mem_cons_self)) hini
  have hU' : vx_Zq Bundle.tN "UNASSIGNED_STACK" Bundle.steD A s' s'.heap := by rw [hhp]; exact vx_Zq.moved hW0.alike (hU.kept hS.2.1)
  have hN' : vx_Zq Bundle.tN "SUPPRESSED_SENTINEL" Bundle.listD A s' s'.heap := by rw [hhp]; exact vx_Zq.moved hW0.alike (hN.kept hS.2.1)
  have h : ∀ w ∈ Bundle.ownAtoms own ic cls names, w.before args s' = true := vx_own hat' (vx_isRefq hU'.1) (vx_isRefq hN'.1) hU'.2.word hN'.2.word
  have hown' : s'.vm.findClass own = some m.cls := by rw [hvm]; exact hown
  have hins : (Cond.instantiable cls 6).before args s' = true := h _ (by simp [Bundle.ownAtoms])
  obtain ⟨vm₁, cX, kX, hfX, hkX, -, -, X₁, st1⟩ := Y.newCold hexec (own := own) (C := cls) (index := ik) (n := 6) hown' hk' hins hini'
    (g := F0 m pc ls rest) rfl (by rw [hb]; exact d0) (Nat.le_refl _) (Nat.le_refl _)
  generalize hT1 : (T.setVm vm₁).pushCell { cls := cX, slots := kX.instanceTypes.map defaultValue, vm := .none } = T1 at X₁ st1
  have hcat : (Value.ref T.heap.size).category = 1 := rfl
  have hcellA : T1.heap[T.heap.size]? = some (freshCell cX kX) := by rw [← hT1]; exact State.heap_pushCell_size _ _
  have d3' : decode c.code (pc + 3) = .ok (.dup, 1) := by rw [hb]; exact d3
  have d4' : decode c.code (pc + 4) = .ok (.ldc is, 2) := by rw [hb]; exact d4
  have hstr' : vk_R own is text sa s' := vk_R.warm hW0 hstr
  obtain ⟨U, hsteps, hrun, hend, hW, hsame, ce, hce, hO⟩ := X₁.ctorThrowS hexec htr (own := own) (cls := cls) (names := names) (ic := ic) hown' hcls hnames h (fun x hx => nomatch hx) hfX hkX hcellA (by rw [hhp, hT]; exact Nat.le_refl _) (msg := .ref sa) rfl
    (g := { method := m, pc := pc + 6, locals := ls, stack := .ref sa :: .ref T.heap.size :: .ref T.heap.size :: rest, locked := none }) rfl hsize rfl rfl (rest := rest) rfl
    (by rw [hb]; exact d6) (by rw [hb]; exact d9) hout hRframes (by simp only [List.map_cons, List.sum_cons, hcat]; omega) hlocks
  obtain ⟨f1, f2⟩ := vx_frame hsame
  rw [hhp] at f1 f2
  have hWs : s.WarmedH U.vm := State.WarmedH.trans hW0 hW
  have hcl : s.vm.findClass cls = some ce.cls := by
    have h9 := hO.cls
    rw [hvm] at h9
    exact h9
  have hall : s.sameButNew ({ U with vm := s.vm } : State) locs mc ms := by
    subst hA
    obtain ⟨e1, e2⟩ := hsame
    rw [State.setFrames_setFrames] at e1
    have h2 : (T.setVm s.vm).sameButNew ({ U with vm := s.vm } : State) [] (0 + 1) (0 + 6) := ⟨e1, e2⟩
    have h3 := X.same.trans h2
    rw [List.append_nil] at h3
    exact h3.mono hc hs
  refine ⟨U, ?_, .threw T.heap.size, hrun, hend, Or.inr ⟨T.heap.size, rfl, cls, ce, locs, hx U hWs.alike f1 (fun q hq => f2 q hq (fun z hz => nomatch hz)), hce, hO.vm, hcl, hWs, hall, hf⟩⟩
  refine st1 _ ?_
  show Steps p.tables e below (T1.setTop { method := m, pc := pc + 3, locals := ls, stack := .ref T.heap.size :: rest, locked := none }) _
  jvm_step X₁.here [X₁.here.top, hexec, d3', Value.category]
  exact X₁.ldcString hexec (own := own) (text := text) (index := is) (a := sa) hown' hstr'.1 hstr'.2
    (g := { method := m, pc := pc + 4, locals := ls, stack := .ref T.heap.size :: .ref T.heap.size :: rest, locked := none }) rfl d4' _ hsteps
/-- 'throw new E("text")', the text by a wide index -/
theorem vx_throwSW {cc : ByteArray} {pc : Nat} (hexec : p.tables.exec = Jvm.exec) (hb : c.code = cc) (hl : l.stackTraces = false) {own cls text : String} {names : List String} {ik is ic mc ms sa : Nat} {A : Nat → Prop}
    (hown : s.vm.findClass own = some m.cls) (hcls : Bundle.fit cls = true) (hnames : ∀ n ∈ names, Bundle.fit n = true)
    (hk : (Cond.classLink own ik cls).before args s = true) (hini : (Cond.initialized cls).before args s = true) (hstr : vk_R own is text sa s) (hat : ∀ w ∈ vx_atS own ic cls names, w.before args s = true)
    (hgood : ∀ w ∈ Cond.classLink own ik cls :: Cond.initialized cls :: vx_atS own ic cls names, vx_ot w = true)
    (hU : vx_Zq Bundle.tN "UNASSIGNED_STACK" Bundle.steD A s s.heap) (hN : vx_Zq Bundle.tN "SUPPRESSED_SENTINEL" Bundle.listD A s s.heap) (hS : va_S A s.heap H locs) (hsize : ls.size = c.maxLocals)
    (d0 : decode cc pc = .ok (.new ik, 3)) (d3 : decode cc (pc + 3) = .ok (.dup, 1)) (d4 : decode cc (pc + 4) = .ok (.ldc_w is, 3)) (d7 : decode cc (pc + 7) = .ok (.invokespecial ic, 3)) (d10 : decode cc (pc + 10) = .ok (.athrow, 1))
    (hout : ∀ x ∈ c.exceptionTable.toList, covers x (pc + 10) = false)
    (hRframes : names.length + 3 < R.frames) (hRlocals : (rest.map fun v => v.category).sum + (13 * (names.length + 1) + 43) ≤ R.locals) (hRcells : cells + 1 ≤ R.cells) (hRslots : slots + 6 ≤ R.slots) (hlocks : meth.locks = false)
    (hx : ∀ t : State, s.vm.Alike t.vm → H.size ≤ t.heap.size → (∀ q : Nat, q < H.size → t.heap[q]? = H[q]?) → XC cls s t)
    (hf : ∀ z ∈ locs, free z.base) (hc : cells + 1 ≤ mc) (hs : slots + 6 ≤ ms) :
    W p l e R s m args below meth c H locs cells slots (vx_MQ below Qc XC args s mc ms free) (F0 m pc ls rest) := by
  intro T hT X
  have htr : e.platform.stackTraces = false := (show e.platform.stackTraces = l.stackTraces by rw [X.admits.platform]).trans hl
  have Y := vx_rebase X (R' := { frames := R.frames, locals := R.locals, cells := 1, slots := 6 }) (Nat.le_refl _) (Nat.le_refl _) hRcells hRslots
  obtain ⟨s', hA⟩ : ∃ z, z = (T.setVm s.vm).setFrames (.invoking m args :: below) := ⟨_, rfl⟩
  rw [← hA] at Y
  have hvm : s'.vm = s.vm := by rw [hA]; rfl
  have hhp : s'.heap = H := by rw [hA]; exact hT
  have hW0 : s.WarmedH s'.vm := by rw [hvm]; exact State.WarmedH.refl s
  have hat' : ∀ w ∈ vx_atS own ic cls names, w.before args s' = true := fun w hw => vx_ot_at hW0 hvm.symm (hgood w (List.mem_cons_of_mem _ (List.mem_cons_of_mem _ hw))) (hat w hw)
  have hk' : (Cond.classLink own ik cls).before args s' = true := vx_ot_at hW0 hvm.symm (hgood _ List.mem_cons_self) hk
  have hini' : (Cond.initialized cls).before args s' = true := vx_ot_at hW0 hvm.symm (hgood _ (List.mem_cons_of_mem _ List.mem_cons_self)) hini
  have hU' : vx_Zq Bundle.tN "UNASSIGNED_STACK" Bundle.steD A s' s'.heap := by rw [hhp]; exact vx_Zq.moved hW0.alike (hU.kept hS.2.1)
  have hN' : vx_Zq Bundle.tN "SUPPRESSED_SENTINEL" Bundle.listD A s' s'.heap := by rw [hhp]; exact vx_Zq.moved hW0.alike (hN.kept hS.2.1)
  have h : ∀ w ∈ Bundle.ownAtoms own ic cls names, w.before args s' = true := vx_own hat' (vx_isRefq hU'.1) (vx_isRefq hN'.1) hU'.2.word hN'.2.word
  have hown' : s'.vm.findClass own = some m.cls := by rw [hvm]; exact hown
  have hins : (Cond.instantiable cls 6).before args s' = true := h _ (by simp [Bundle.ownAtoms])
  obtain ⟨vm₁, cX, kX, hfX, hkX, -, -, X₁, st1⟩ := Y.newCold hexec (own := own) (C := cls) (index := ik) (n := 6) hown' hk' hins hini'
    (g := F0 m pc ls rest) rfl (by rw [hb]; exact d0) (Nat.le_refl _) (Nat.le_refl _)
  generalize hT1 : (T.setVm vm₁).pushCell { cls := cX, slots := kX.instanceTypes.map defaultValue, vm := .none } = T1 at X₁ st1
  have hcat : (Value.ref T.heap.size).category = 1 := rfl
  have hcellA : T1.heap[T.heap.size]? = some (freshCell cX kX) := by rw [← hT1]; exact State.heap_pushCell_size _ _
  have d3' : decode c.code (pc + 3) = .ok (.dup, 1) := by rw [hb]; exact d3
  have d4' : decode c.code (pc + 4) = .ok (.ldc_w is, 3) := by rw [hb]; exact d4
  have hstr' : vk_R own is text sa s' := vk_R.warm hW0 hstr
  obtain ⟨U, hsteps, hrun, hend, hW, hsame, ce, hce, hO⟩ := X₁.ctorThrowS hexec htr (own := own) (cls := cls) (names := names) (ic := ic) hown' hcls hnames h (fun x hx => nomatch hx) hfX hkX hcellA (by rw [hhp, hT]; exact Nat.le_refl _) (msg := .ref sa) rfl
    (g := { method := m, pc := pc + 7, locals := ls, stack := .ref sa :: .ref T.heap.size :: .ref T.heap.size :: rest, locked := none }) rfl hsize rfl rfl (rest := rest) rfl
    (by rw [hb]; exact d7) (by rw [hb]; exact d10) hout hRframes (by simp only [List.map_cons, List.sum_cons, hcat]; omega) hlocks
  obtain ⟨f1, f2⟩ := vx_frame hsame
  rw [hhp] at f1 f2
  have hWs : s.WarmedH U.vm := State.WarmedH.trans hW0 hW
  have hcl : s.vm.findClass cls = some ce.cls := by
    have h9 := hO.cls
    rw [hvm] at h9
    exact h9
  have hall : s.sameButNew ({ U with vm := s.vm } : State) locs mc ms := by
    subst hA
    obtain ⟨e1, e2⟩ := hsame
    rw [State.setFrames_setFrames] at e1
    have h2 : (T.setVm s.vm).sameButNew ({ U with vm := s.vm } : State) [] (0 + 1) (0 + 6) := ⟨e1, e2⟩
    have h3 := X.same.trans h2
    rw [List.append_nil] at h3
    exact h3.mono hc hs
  refine ⟨U, ?_, .threw T.heap.size, hrun, hend, Or.inr ⟨T.heap.size, rfl, cls, ce, locs, hx U hWs.alike f1 (fun q hq => f2 q hq (fun z hz => nomatch hz)), hce, hO.vm, hcl, hWs, hall, hf⟩⟩
  refine st1 _ ?_
  show Steps p.tables e below (T1.setTop { method := m, pc := pc + 3, locals := ls, stack := .ref T.heap.size :: rest, locked := none }) _
  jvm_step X₁.here [X₁.here.top, hexec, d3', Value.category]
  exact X₁.ldcStringW hexec (own := own) (text := text) (index := is) (a := sa) hown' hstr'.1 hstr'.2
    (g := { method := m, pc := pc + 4, locals := ls, stack := .ref T.heap.size :: .ref T.heap.size :: rest, locked := none }) rfl d4' _ hsteps
end Ends
section Bodies
variable {l : Launch}
theorem vx_ofW {y : MethodName} {ws ws' : List Cond} {rm : Room} {Pc : Array Value → State → Prop} {Qc : Array Value → State → Outcome → State → Prop} {XC : String → State → State → Prop} {mc ms : Nat} {free : Addr → Prop} {cc : ByteArray} {maxL : Nat} {ret : Option FieldType}
    (hy : plainName y.cls = true) (hw : ws = Cond.code y cc maxL ret :: ws')
    (body : ∀ p e s m args below meth c s₁, BodyLoose p l y (headSpec ws rm) cc maxL ret e s m args below meth c s₁ → c.maxLocals = maxL → (∀ x ∈ c.exceptionTable.toList, False) → Pc args s →
      W p l e (headSpec ws rm).room s m args below meth c s.heap [] 0 0 (vx_MQ below Qc XC args s mc ms free) (entryFrame m args maxL)) : vx_Met l y ws rm Pc Qc XC mc ms free := by
  refine MetFree.of_bodyS (code := cc) (maxLocals := maxL) (ret := ret) hy ?_ ?_
  · intro args s m h hn
    obtain ⟨meth, c, h1, h2, h3, h4, h5, h6, -, -⟩ := Cond.code_spec hn (atoms_spec (ws := ws) h _ (by rw [hw]; exact List.mem_cons_self))
    exact ⟨meth, c, h1, h2, h3, h4, h5, h6⟩
  · intro p e s m args below meth c s₁ B hml hP _
    have hh0 : s₁.heap = s.heap := by rw [B.state]; rfl
    have ht : ∀ x ∈ c.exceptionTable.toList, False := by
      obtain ⟨meth9, c9, h1, h2, -, -, -, -, h7, -⟩ := Cond.code_spec B.named (atoms_spec (ws := ws) B.pre _ (by rw [hw]; exact List.mem_cons_self))
      cases Option.some.inj (h1.symm.trans B.method)
      cases Option.some.inj (h2.symm.trans (Stand.of_body B).code)
      intro x hx
      rw [Array.isEmpty_iff.mp h7] at hx
      cases hx
    obtain ⟨t, a1, o, b1, b2, b3⟩ := body p e s m args below meth c s₁ B hml ht hP s₁ hh0 (Stand.of_body B)
    exact ⟨t, o, a1, b1, b2, b3⟩
/-- the table of a body with handlers -/
theorem vx_table {p : Program} {x y : MethodName} {S : Spec} {cc bytes : ByteArray} {maxL maxL' : Nat} {ret ret' : Option FieldType} {e : Env} {s s₁ : State} {m : MethodId} {args : Array Value} {below : List Frame} {meth : Method} {c : Code} {hh : List (Nat × Nat × Nat × Nat)}
    (B : BodyLoose p l y S cc maxL ret e s m args below meth c s₁) (h : (Cond.codeWith y bytes maxL' ret' hh).before args s = true) : c.exceptionTable.toList = tableOf hh := by
  obtain ⟨m9, meth9, c9, hn9, h1, h2, -, -, h6, -⟩ := Cond.codeWith_spec h
  cases Option.some.inj (hn9.symm.trans B.named)
  cases Option.some.inj (h1.symm.trans B.method)
  cases Option.some.inj (h2.symm.trans (Stand.of_body B).code)
  rw [← h6, table_eq]
end Bodies
end VXA
/-! ===== END ===== -/
/-! ===== BEGIN a static call of a method with an exception table ===== -/
section VXS
variable {p : Program} {l : Launch} {e : Env} {R : Room} {s : State} {m : MethodId} {args : Array Value} {below : List Frame} {meth : Method} {c : Code} {T : State} {H : Heap} {locs : List Loc} {cells slots : Nat}
abbrev vx_CSW (R : Room) (s : State) (args : Array Value) (own : String) (index : Nat) (y : MethodName) (bytes : ByteArray) (maxL : Nat) (ret : Option FieldType) (hh : List (Nat × Nat × Nat × Nat)) (ws : List Cond) (rm : Room) (mc ms n : Nat) : Prop :=
  (rm.cells = mc ∧ rm.slots = ms ∧ rm.frames + 1 ≤ R.frames ∧ 8 + (maxL + 11) + rm.locals ≤ R.locals ∧ (∀ w ∈ ws, ∀ (a' : Array Value) (U : State), s.WarmedH U.vm → w.before a' U = true) ∧ Cond.codeWith y bytes maxL ret hh ∈ ws) ∧
  (Cond.codeWith y bytes maxL ret hh).before args s = true ∧ (Cond.initialized y.cls).before args s = true ∧ (y.cls ≠ "java/lang/invoke/MethodHandle" ∧ y.cls ≠ "java/lang/invoke/VarHandle") ∧
  (∀ sig, parseMethodDescriptor y.desc = some sig → n = sig.parameters.length) ∧ (Cond.methodLink own index y).before args s = true ∧ (Cond.static y).before args s = true
theorem vx_cwSW {own : String} {index maxL mc ms : Nat} {y : MethodName} {bytes : ByteArray} {ret : Option FieldType} {hh : List (Nat × Nat × Nat × Nat)} {Ts ws ws' : List Cond} {rm : Room} (n : Nat) (ht : ∀ w ∈ Ts, w.before args s = true) (hT : GoodIn Ts (va_wsS own index y ws)) (hw : ws = Cond.codeWith y bytes maxL ret hh :: ws') (hrc : rm.cells = mc) (hrs : rm.slots = ms)
    (hd : y.cls ≠ "java/lang/invoke/MethodHandle" ∧ y.cls ≠ "java/lang/invoke/VarHandle" ∧ (parseMethodDescriptor y.desc).map (fun d => d.parameters.length) = some n) (hR : rm.frames + 1 ≤ R.frames ∧ 8 + (maxL + 11) + rm.locals ≤ R.locals) :
    vx_CSW R s args own index y bytes maxL ret hh ws rm mc ms n := by
  have ok : ∀ w ∈ va_wsS own index y ws, w.before args s = true := fun w h => ht w (hT w h).1
  have hG : GoodIn Ts ws := fun w h => hT w (by unfold va_wsS; exact List.mem_append_right _ h)
  have hc : Cond.codeWith y bytes maxL ret hh ∈ ws := by rw [hw]; exact List.mem_cons_self
  refine ⟨⟨hrc, hrs, hR.1, hR.2, pay_in ht hG, hc⟩, ht _ (hG _ hc).1, ok _ (by simp [va_wsS]), ⟨hd.1, hd.2.1⟩, fun sig h => ?_, ok _ (by simp [va_wsS]), ok _ (by simp [va_wsS])⟩
  have h2 := hd.2.2
  rw [h] at h2
  exact (Option.some.inj h2).symm
theorem vx_callSW (X : Stand p l e R s m args below meth c T locs cells slots) (hexec : p.tables.exec = Jvm.exec) {own : String} {index : Nat} {y : MethodName} {bytes : ByteArray} {maxL : Nat} {ret : Option FieldType} {hh : List (Nat × Nat × Nat × Nat)}
    (hown : s.vm.findClass own = some m.cls) (hlink : (Cond.methodLink own index y).before args s = true) (hstat : (Cond.static y).before args s = true) (hinit : (Cond.initialized y.cls).before args s = true)
    (hcode : (Cond.codeWith y bytes maxL ret hh).before args s = true) (hy : y.cls ≠ "java/lang/invoke/MethodHandle" ∧ y.cls ≠ "java/lang/invoke/VarHandle")
    {W9 : Nat} {Pre : Pt → Array Value → Prop} {Post : Pt → Array Value → Option Value → Pt → Prop} (hK : Back l R p e below s args y 3 W9 Pre Post)
    {g : JFrame} (hg : g.method = m) (hsize : g.locals.size = c.maxLocals) {argsL rest : List Value} (hlen : ∀ sig, parseMethodDescriptor y.desc = some sig → argsL.length = sig.parameters.length)
    (hstack : g.stack = argsL.reverse ++ rest) (hW : 2 * g.monitorRoom + (rest.map fun v => v.category).sum ≤ W9) (hdg : decode c.code g.pc = .ok (.invokestatic index, 3))
    (hpre : ∀ vm₁, s.WarmedH vm₁ → Pre ⟨T.setVm vm₁, locs, cells, slots⟩ argsL.toArray) :
    ∃ (v : Option Value) (vm₁ : Vm) (B : Pt), s.WarmedH vm₁ ∧ Stand p l e R s m args below meth c B.U B.locs B.cells B.slots ∧ Post ⟨T.setVm vm₁, locs, cells, slots⟩ argsL.toArray v B ∧
      ∀ target, Steps p.tables e below (B.U.setTop { g with pc := g.pc + 3, stack := v.toList ++ rest }) target → Steps p.tables e below (T.setTop g) target := by
  obtain ⟨mk, methM, cM, hnamed, hmethM, -, -, -, -, -, -, hsigM⟩ := Cond.codeWith_spec hcode
  have hstatic : methM.isStatic = true := Cond.static_spec hnamed hmethM hstat
  obtain ⟨kP, hkP, -⟩ := className_of_methodNamed hnamed
  have hinitP : kP.init = .initialized := Cond.initialized_spec (findClass_of_methodNamed hnamed) hkP hinit
  obtain ⟨vm₁, X₁, hstep₁⟩ := X.invokestatic hexec hown hlink hnamed hmethM hstatic hkP hinitP hy (g := g) hg (argsL := argsL) (rest := rest) (hlen _ hsigM) hstack hdg
  obtain ⟨v, B, X', hpost, hsteps⟩ := hK m meth c ⟨T.setVm vm₁, locs, cells, slots⟩ { g with stack := rest } (.invokestatic index) mk argsL.toArray X₁ hg hsize hdg hW (X₁.named hnamed) (hpre vm₁ X₁.warmed)
  exact ⟨v, vm₁, B, X₁.warmed, X', hpost, fun target h => hstep₁ _ fun acts => by rw [doInvoke_state]; exact hsteps.trans h⟩
theorem vx_runSW {y : MethodName} {bytes cc : ByteArray} {maxL nL mc ms n index : Nat} {ret : Option FieldType} {hh : List (Nat × Nat × Nat × Nat)} {ws : List Cond} {rm : Room} {Pc : Array Value → State → Prop} {Qc : Array Value → State → Outcome → State → Prop} {free : Addr → Prop} {Ts : List Cond} {own : String} {As rest : List Value} {g : JFrame}
    (S : CallFix p m c cc nL s args Ts own) (hM : Met l y ws rm Pc Qc mc ms free) (cw : vx_CSW R s args own index y bytes maxL ret hh ws rm mc ms n) (hp : PreS s H Pc As)
    (hg : g.method = m) (hn : As.length = n) (hsize : g.locals.size = nL) (hstack : g.stack = As.reverse ++ rest) (hW : 2 * g.monitorRoom + (rest.map fun v => v.category).sum ≤ 8) (hdg : decode cc g.pc = .ok (.invokestatic index, 3)) (hf : cells + mc ≤ R.cells ∧ slots + ms ≤ R.slots) :
    va_Run p l e R s m args below meth c H locs cells slots mc ms g rest (Qc As.toArray) (free) := by
  obtain ⟨⟨hrc, hrs, hfr, hlo, hws, hcw⟩, hcode, hini, hy, hlen, hl, hstt⟩ := cw
  have hK : Back l R p e below s args y 3 8 (PreOf R mc ms Pc) (PostOf Qc mc ms free) := va_backW (hh := hh) (bytes := bytes) (maxL := maxL) (ret := ret) hM hp.1 hrc hrs hfr hlo hws hcw (fun a' U hW => word_at hW (Or.inl (by first | rfl | simp [Cond.onTables, Cond.keeps, Cond.steady])) hini)
  obtain ⟨hx, hb, hml, ho, -⟩ := S
  intro T hT X
  obtain ⟨v, vm₁, ⟨U', l2, c2, s2⟩, hW₁, X', ⟨g', mk, t, L, e1, e2, hq, h1, hL, h2, h3⟩, st⟩ := vx_callSW X hx (hh := hh) (bytes := bytes) (maxL := maxL) (ret := ret) ho hl hstt hini hcode hy hK hg (hsize.trans hml.symm) (argsL := As) (rest := rest) (fun sig h => hn.trans (hlen sig h)) hstack hW (by rw [hb]; exact hdg)
    (fun vm₁ hW₁ => ⟨hf.1, hf.2, hp.2 (T.setVm vm₁) hT hW₁⟩)
  dsimp only [Pt.U, Pt.locs, Pt.cells, Pt.slots] at X' e1 e2 h1 h2 h3 st
  subst h1; subst h2; subst h3
  exact ⟨v, (T.setVm vm₁).calling g' mk As.toArray, t, U', L, hT, X', hL, e1, e2, hq, st⟩
/-- not caught here, past rows that name other classes: it goes on to the caller -/
theorem vx_outP {p : Program} {l : Launch} {e : Env} {R : Room} {s : State} {m : MethodId} {args : Array Value} {below : List Frame} {meth : Method} {c : Code} {H : Heap} {locs : List Loc} {cells slots : Nat} {free : Addr → Prop} {ls : Array Slot} {rest : List Value} {Qc : Array Value → State → Outcome → State → Prop} {XC : String → State → State → Prop}
    {pc : Nat} {own E : String} {ce : Cell} {q : Addr} {mc ms : Nat} (hown : s.vm.findClass own = some m.cls) (hlocks : meth.locks = false)
    (hpass : ∀ z ∈ c.exceptionTable.toList, covers z pc = false ∨ (z.catchType ≠ 0 ∧ ∃ nm : String, (Cond.classLink own z.catchType nm).before args s = true ∧ va_Nc E nm s)) (hcell : H[q]? = some ce) (hv : ce.vm = .none) (hcl : s.vm.findClass E = some ce.cls)
    (hx : ∀ t : State, t.heap = H → s.vm.Alike t.vm → XC E s t) (hf : ∀ z ∈ locs, free z.base) (hc : cells ≤ mc) (hs : slots ≤ ms) :
    vx_W p l e R s m args below meth c H locs cells slots (vx_MQ below Qc XC args s mc ms free) (F0 m pc ls rest) q := by
  intro T hT X
  have hpl : e.platform.magicAccessors = ({} : Platform).magicAccessors := by rw [X.admits.platform]
  obtain ⟨vm', hW', X', st⟩ := X.outThrough hlocks q (g := F0 m pc ls rest) rfl rfl rfl (cell := ce) (by rw [hT]; exact hcell) (by rw [hv]; rfl)
    (by obtain ⟨k9, h9, -⟩ := Vm.findClass_spec hcl; exact ⟨k9, h9⟩) (fun z hz => by
      rcases hpass z hz with h | ⟨hz0, nm, hl1, hn1⟩
      · exact Or.inl h
      · obtain ⟨c6, hc6, hcl6⟩ := Cond.classLink_spec hown hl1 e.platform hpl
        obtain ⟨a8, b8, h1, h2, h3⟩ := hn1
        cases Option.some.inj (h1.symm.trans hcl)
        cases Option.some.inj (h2.symm.trans hc6)
        exact Or.inr ⟨hz0, _, hcl6, h3⟩)
  obtain ⟨g₀, hfr⟩ := X'.frames_eq
  have hcell9 : ((T.setVm vm').setFrames (.throwing q :: below)).heap[q]? = some ce := by
    show T.heap[q]? = some ce
    rw [hT]; exact hcell
  have hend : Ended ((T.setVm vm').setFrames (.throwing q :: below)) below (.threw q) := State.frames_setFrames _ (State.cur_lt_of_frames hfr)
  refine ⟨(T.setVm vm').setFrames (.throwing q :: below), ?_, .threw q, X'.here.running, hend, Or.inr ⟨q, rfl, E, ce, locs, hx _ hT (X'.ends _).1.alike, hcell9, hv, hcl, (X'.ends _).1, (X'.ends _).2.mono hc hs, hf⟩⟩
  rw [X.pushThrowing_eq]
  exact st
/-- a thing of a world lies in the heap -/
theorem vx_lt {D : va_G} {cl : List vw_C} {ws : va_W} {H1 : Heap} (h : va_P D cl ws H1) {k : Nat} {q : Nat × va_E} (hk : ws[k]? = some q) : q.1 < H1.size := (h k q hk).lt
end VXS
/-! ===== END ===== -/
/-! ===== BEGIN methods with a table of their own: called by a name, returning or throwing ===== -/
section VXH
/-! vx_backW, vx_callVX, vx_callSX, vx_callVW, vx_runVW, vx_runVX, vx_runSX, vx_ofWH follow the same proofs as their sisters above (Free/Laws.lean, Shelf42/LK1.lean); vx_outP calls Shelf42/NT130.lean (outThrough). -/
section
variable {l : Launch} {R : Room} {p : Program} {e : Env} {below : List Frame} {s : State} {sargs : Array Value} {y : MethodName} {len W9 : Nat}
theorem vx_backW {ws : List Cond} {rm : Room} {Pc : Array Value → State → Prop} {Qc : Array Value → State → Outcome → State → Prop} {XC : String → State → State → Prop} {mc ms : Nat} {free : Addr → Prop} {bytes : ByteArray} {maxL : Nat} {ret : Option FieldType} {hh : List (Nat × Nat × Nat × Nat)}
    (hM : vx_Met l y ws rm Pc Qc XC mc ms free) (hblind : FrameBlind Pc) (hrc : rm.cells = mc) (hrs : rm.slots = ms)
    (hframes : rm.frames + 1 ≤ R.frames) (hlocals : W9 + (maxL + 11) + rm.locals ≤ R.locals)
    (hws : ∀ w ∈ ws, ∀ a' U, s.WarmedH U.vm → w.before a' U = true) (hcode : Cond.codeWith y bytes maxL ret hh ∈ ws) (hinit : ∀ a' U, s.WarmedH U.vm → (Cond.initialized y.cls).before a' U = true) :
    vx_Back l R p e below s sargs y len W9 (PreOf R mc ms Pc) (PostOf Qc mc ms free) (vx_Post XC mc ms free) := by
  intro m meth c A g ig mk a X hg hsize hdg hW hn hp
  have h1 : (headSpec ws rm).pre.before a A.U = true := atoms_intro fun w hw => hws w hw _ _ X.warmed
  have h2 : (Cond.codeWith y bytes maxL ret hh).before a A.U = true := hws _ hcode _ _ X.warmed
  have h3 : (Cond.initialized y.cls).before a A.U = true := hinit _ _ X.warmed
  have h4 : A.cells + (headSpec ws rm).room.cells ≤ R.cells := by rw [show (headSpec ws rm).room.cells = mc from hrc]; exact hp.1
  have h5 : A.slots + (headSpec ws rm).room.slots ≤ R.slots := by rw [show (headSpec ws rm).room.slots = ms from hrs]; exact hp.2.1
  have hPc : Pc a (A.U.calling g mk a) := hblind _ _ _ _ hp.2.2
  obtain ⟨U, Ls, c0, s0⟩ := A
  dsimp only [Pt.U, Pt.locs, Pt.cells, Pt.slots] at h1 h2 h3 h4 h5 X hn hPc ⊢
  obtain ⟨m9, methY, cY, hn9, hmY, hcY, -, hlY, -⟩ := Cond.codeWith_spec h2
  cases Option.some.inj (hn9.symm.trans hn)
  obtain ⟨kY, hkY, -⟩ := className_of_methodNamed hn
  have hinitY : kY.init = .initialized := Cond.initialized_spec (findClass_of_methodNamed hn) hkY h3
  have h : At U g.method c below := by rw [hg]; exact X.here
  have hlocals9 : W9 + (maxL + 11) + (headSpec ws rm).room.locals ≤ R.locals := hlocals
  have happ : (headSpec ws rm).appliesLoose y e.platform (U.calling g mk a) = true :=
    Spec.appliesLoose_calling (g := g) h hdg hn hkY hinitY
      (X.room_calling (g := g) (R' := (headSpec ws rm).room) hsize hmY hcY hframes (by rw [hlY]; omega) h4 h5) h1
  obtain ⟨mid, hmid⟩ := h.above
  have hfr : (U.setTop g).frames = (.java g :: mid) ++ below := by rw [State.frames_setTop' g h.top, hmid]; rfl
  obtain ⟨o, s₂, hsteps, -, hend, hq⟩ := Steps.callFree hM p X.admits X.cas X.clock (acts := []) hfr happ hPc trivial
  have hq' : vx_Q Qc XC mc ms free a (U.calling g mk a) o s₂ := hq
  rw [State.frames_setTop' g h.top] at hend
  obtain ⟨g₀, hg0⟩ := Option.isSome_iff_exists.mp h.top
  obtain ⟨r, hr⟩ := State.topJava?_eq_some.mp hg0
  have hr' : (({ U with heap := s₂.heap, slotsUsed := s₂.slotsUsed } : State).setVm s₂.vm).frames = .java g₀ :: r := hr
  rcases hq' with ⟨hqc, L, hfe, hL⟩ | ⟨q, rfl, E, ce, L, hx, hce, hcv, hcl, hW₂, hsm, hL⟩
  · obtain ⟨⟨v, rfl⟩, hW₂, e2, q2, q3, q4, q5, q6⟩ := id hfe
    have e3 : s₂ = ({ (U.calling g mk a).setFrames s₂.frames with heap := s₂.heap, slotsUsed := s₂.slotsUsed } : State).setVm s₂.vm := by
      have : s₂ = ({ s₂ with vm := (U.calling g mk a).vm } : State).setVm s₂.vm := rfl
      rw [e2] at this
      exact this
    obtain ⟨c₂, i₂, len₂, hc₂, hd₂, hf₂⟩ := hend
    have hW' : U.WarmedH s₂.vm := hW₂
    have hcc : c₂ = c := by
      have h1 : s₂.code? g.method = U.code? g.method := by
        rw [State.code?_eq, State.code?_eq, hW'.alike.method?]
      exact Option.some.inj (hc₂.symm.trans (h1.trans h.code))
    subst hcc
    have hlen : len₂ = len := by rw [hdg] at hd₂; cases hd₂; rfl
    subst hlen
    have hs₂ : s₂ = (({ U with heap := s₂.heap, slotsUsed := s₂.slotsUsed } : State).setVm s₂.vm).setTop { g with pc := g.pc + len₂, stack := v.toList ++ g.stack } := by
      refine e3.trans ?_
      rw [hf₂, State.calling_eq h.top, State.setFrames_setFrames, State.setTop_of_frames _ hr', hr]
      rfl
    have hsame : U.sameButNew ({ U with heap := s₂.heap, slotsUsed := s₂.slotsUsed } : State) L mc ms := by
      refine ⟨?_, q2, q3, q4, q5, q6⟩
      obtain ⟨t, ht, -⟩ := State.frames_cons hr
      show ({ U with heap := s₂.heap, slotsUsed := s₂.slotsUsed } : State) = { U.setFrames U.frames with heap := s₂.heap, slotsUsed := s₂.slotsUsed }
      rw [State.setFrames_self ht]
    subst hg
    refine Or.inl ⟨v, ⟨(({ U with heap := s₂.heap, slotsUsed := s₂.slotsUsed } : State).setVm s₂.vm), Ls ++ L, c0 + mc, s0 + ms⟩,
      ⟨X.admits, X.cas, X.clock, X.frames, X.room, X.hears, X.method, X.code, (X.here.setHeapUsed s₂.heap s₂.slotsUsed).setVm hW'.alike, X.tail, State.WarmedH.trans X.warmed hW', X.limits, X.bytes, X.same.trans (hsame.setVm s.vm)⟩,
      ⟨g, mk, s₂, L, rfl, rfl, hqc, rfl, hL, rfl, rfl⟩, ?_⟩
    show Steps p.tables e below _ ((({ U with heap := s₂.heap, slotsUsed := s₂.slotsUsed } : State).setVm s₂.vm).setTop { g with pc := g.pc + len₂, stack := v.toList ++ g.stack })
    rw [← hs₂]
    exact hsteps
  · obtain ⟨e2, q2, q3, q4, q5, q6⟩ := id hsm
    have e3 : s₂ = ({ (U.calling g mk a).setFrames s₂.frames with heap := s₂.heap, slotsUsed := s₂.slotsUsed } : State).setVm s₂.vm := by
      have : s₂ = ({ s₂ with vm := (U.calling g mk a).vm } : State).setVm s₂.vm := rfl
      rw [e2] at this
      exact this
    have hf₂ : s₂.frames = .throwing q :: .java g :: U.frames.tail := hend
    have hW' : U.WarmedH s₂.vm := hW₂
    have hs₂ : s₂ = ((({ U with heap := s₂.heap, slotsUsed := s₂.slotsUsed } : State).setVm s₂.vm).setTop g).pushFrame (.throwing q) := by
      refine e3.trans ?_
      rw [hf₂, State.calling_eq h.top, State.setFrames_setFrames, State.pushFrame, State.frames_setTop _ hr', State.setTop_of_frames _ hr', State.setFrames_setFrames, hr]
      rfl
    have hsame : U.sameButNew ({ U with heap := s₂.heap, slotsUsed := s₂.slotsUsed } : State) L mc ms := by
      refine ⟨?_, q2, q3, q4, q5, q6⟩
      obtain ⟨t, ht, -⟩ := State.frames_cons hr
      show ({ U with heap := s₂.heap, slotsUsed := s₂.slotsUsed } : State) = { U.setFrames U.frames with heap := s₂.heap, slotsUsed := s₂.slotsUsed }
      rw [State.setFrames_self ht]
    subst hg
    refine Or.inr ⟨q, ⟨(({ U with heap := s₂.heap, slotsUsed := s₂.slotsUsed } : State).setVm s₂.vm), Ls ++ L, c0 + mc, s0 + ms⟩,
      ⟨X.admits, X.cas, X.clock, X.frames, X.room, X.hears, X.method, X.code, (X.here.setHeapUsed s₂.heap s₂.slotsUsed).setVm hW'.alike, X.tail, State.WarmedH.trans X.warmed hW', X.limits, X.bytes, X.same.trans (hsame.setVm s.vm)⟩,
      ⟨g, mk, s₂, L, E, ce, rfl, rfl, hx, hce, hcv, hcl, rfl, hL, rfl, rfl⟩, ?_⟩
    show Steps p.tables e below _ (((({ U with heap := s₂.heap, slotsUsed := s₂.slotsUsed } : State).setVm s₂.vm).setTop g).pushFrame (.throwing q))
    rw [← hs₂]
    exact hsteps
end
variable {p : Program} {l : Launch} {e : Env} {R : Room} {s : State} {m : MethodId} {args : Array Value} {below : List Frame} {meth : Method} {c : Code} {T : State} {H : Heap} {locs : List Loc} {cells slots : Nat}
theorem vx_callVX (X : Stand p l e R s m args below meth c T locs cells slots) (hexec : p.tables.exec = Jvm.exec) {own C : String} {index : Nat} {y : MethodName} {bytes : ByteArray} {maxL : Nat} {ret : Option FieldType} {hh : List (Nat × Nat × Nat × Nat)}
    (hown : s.vm.findClass own = some m.cls) (hlink : (Cond.methodLink own index y).before args s = true) (hinst : (Cond.instanceMethod y).before args s = true) (hsel : (Cond.selects C y y).before args s = true)
    (hcode : (Cond.codeWith y bytes maxL ret hh).before args s = true) (hy : y.cls ≠ "java/lang/invoke/MethodHandle" ∧ y.cls ≠ "java/lang/invoke/VarHandle")
    {W9 : Nat} {Pre : Pt → Array Value → Prop} {Post : Pt → Array Value → Option Value → Pt → Prop} {PostX : Pt → Array Value → Addr → Pt → Prop} (hK : vx_Back l R p e below s args y 3 W9 Pre Post PostX)
    {b : Addr} {cellB : Cell} (hcell : T.heap[b]? = some cellB) (hobj : cellB.vm.isStatics = false) (hcls : s.vm.findClass C = some cellB.cls)
    {g : JFrame} (hg : g.method = m) (hsize : g.locals.size = c.maxLocals) {argsL rest : List Value} (hlen : ∀ sig, parseMethodDescriptor y.desc = some sig → argsL.length = sig.parameters.length)
    (hstack : g.stack = argsL.reverse ++ .ref b :: rest) (hW : 2 * g.monitorRoom + (rest.map fun v => v.category).sum ≤ W9) (hdg : decode c.code g.pc = .ok (.invokevirtual index, 3))
    (hpre : ∀ vm₁, s.WarmedH vm₁ → Pre ⟨T.setVm vm₁, locs, cells, slots⟩ (Value.ref b :: argsL).toArray) :
    (∃ (v : Option Value) (vm₁ : Vm) (B : Pt), s.WarmedH vm₁ ∧ Stand p l e R s m args below meth c B.U B.locs B.cells B.slots ∧ Post ⟨T.setVm vm₁, locs, cells, slots⟩ (Value.ref b :: argsL).toArray v B ∧
      ∀ target, Steps p.tables e below (B.U.setTop { g with pc := g.pc + 3, stack := v.toList ++ rest }) target → Steps p.tables e below (T.setTop g) target) ∨
    (∃ (q : Addr) (vm₁ : Vm) (B : Pt), s.WarmedH vm₁ ∧ Stand p l e R s m args below meth c B.U B.locs B.cells B.slots ∧ PostX ⟨T.setVm vm₁, locs, cells, slots⟩ (Value.ref b :: argsL).toArray q B ∧
      Steps p.tables e below (T.setTop g) ((B.U.setTop { g with stack := rest }).pushFrame (.throwing q))) := by
  obtain ⟨mk, methM, hnamed, hmethM, hstM, habM⟩ := Cond.instanceMethod_spec hinst
  obtain ⟨m8, methM', cM, hn8, hmethM', -, -, -, -, -, -, hsigM⟩ := Cond.codeWith_spec hcode
  cases Option.some.inj (hn8.symm.trans hnamed)
  cases hmethM.symm.trans hmethM'
  obtain ⟨c2, r2, m2, q1, q2, q3, q4, kP, hkP, hkPi⟩ := Cond.selects_spec hsel
  cases hcls.symm.trans q1
  cases (State.methodFound?_of_named hnamed hy).symm.trans q2
  cases hnamed.symm.trans q3
  have hselP : selectMethod e.platform s.vm cellB.cls mk = .method mk := by rw [Launch.admits_selectMethod X.admits]; exact q4
  obtain ⟨vm₁, X₁, hstep₁⟩ := X.invokevirtual hexec hown hlink hnamed hmethM hstM hkP hkPi hy (a := b) (cell := cellB) hcell
    (fun z h => by rw [h] at hobj; cases hobj) hselP hmethM habM hkP hkPi (g := g) hg (argsL := argsL) (rest := rest) (hlen _ hsigM) hstack hdg
  rcases hK m meth c ⟨T.setVm vm₁, locs, cells, slots⟩ { g with stack := rest } (.invokevirtual index) mk (Value.ref b :: argsL).toArray X₁ hg hsize hdg hW (X₁.named hnamed) (hpre vm₁ X₁.warmed) with ⟨v, B, X', hpost, hsteps⟩ | ⟨q, B, X', hpost, hsteps⟩
  · exact Or.inl ⟨v, vm₁, B, X₁.warmed, X', hpost, fun target h => hstep₁ _ fun acts => by rw [doInvoke_state]; exact hsteps.trans h⟩
  · exact Or.inr ⟨q, vm₁, B, X₁.warmed, X', hpost, hstep₁ _ fun acts => by rw [doInvoke_state]; exact hsteps⟩
theorem vx_callSX (X : Stand p l e R s m args below meth c T locs cells slots) (hexec : p.tables.exec = Jvm.exec) {own : String} {index : Nat} {y : MethodName} {bytes : ByteArray} {maxL : Nat} {ret : Option FieldType} {hh : List (Nat × Nat × Nat × Nat)}
    (hown : s.vm.findClass own = some m.cls) (hlink : (Cond.methodLink own index y).before args s = true) (hstat : (Cond.static y).before args s = true) (hinit : (Cond.initialized y.cls).before args s = true)
    (hcode : (Cond.codeWith y bytes maxL ret hh).before args s = true) (hy : y.cls ≠ "java/lang/invoke/MethodHandle" ∧ y.cls ≠ "java/lang/invoke/VarHandle")
    {W9 : Nat} {Pre : Pt → Array Value → Prop} {Post : Pt → Array Value → Option Value → Pt → Prop} {PostX : Pt → Array Value → Addr → Pt → Prop} (hK : vx_Back l R p e below s args y 3 W9 Pre Post PostX)
    {g : JFrame} (hg : g.method = m) (hsize : g.locals.size = c.maxLocals) {argsL rest : List Value} (hlen : ∀ sig, parseMethodDescriptor y.desc = some sig → argsL.length = sig.parameters.length)
    (hstack : g.stack = argsL.reverse ++ rest) (hW : 2 * g.monitorRoom + (rest.map fun v => v.category).sum ≤ W9) (hdg : decode c.code g.pc = .ok (.invokestatic index, 3))
    (hpre : ∀ vm₁, s.WarmedH vm₁ → Pre ⟨T.setVm vm₁, locs, cells, slots⟩ argsL.toArray) :
    (∃ (v : Option Value) (vm₁ : Vm) (B : Pt), s.WarmedH vm₁ ∧ Stand p l e R s m args below meth c B.U B.locs B.cells B.slots ∧ Post ⟨T.setVm vm₁, locs, cells, slots⟩ argsL.toArray v B ∧
      ∀ target, Steps p.tables e below (B.U.setTop { g with pc := g.pc + 3, stack := v.toList ++ rest }) target → Steps p.tables e below (T.setTop g) target) ∨
    (∃ (q : Addr) (vm₁ : Vm) (B : Pt), s.WarmedH vm₁ ∧ Stand p l e R s m args below meth c B.U B.locs B.cells B.slots ∧ PostX ⟨T.setVm vm₁, locs, cells, slots⟩ argsL.toArray q B ∧
      Steps p.tables e below (T.setTop g) ((B.U.setTop { g with stack := rest }).pushFrame (.throwing q))) := by
  obtain ⟨mk, methM, cM, hnamed, hmethM, -, -, -, -, -, -, hsigM⟩ := Cond.codeWith_spec hcode
  have hstatic : methM.isStatic = true := Cond.static_spec hnamed hmethM hstat
  obtain ⟨kP, hkP, -⟩ := className_of_methodNamed hnamed
  have hinitP : kP.init = .initialized := Cond.initialized_spec (findClass_of_methodNamed hnamed) hkP hinit
  obtain ⟨vm₁, X₁, hstep₁⟩ := X.invokestatic hexec hown hlink hnamed hmethM hstatic hkP hinitP hy (g := g) hg (argsL := argsL) (rest := rest) (hlen _ hsigM) hstack hdg
  rcases hK m meth c ⟨T.setVm vm₁, locs, cells, slots⟩ { g with stack := rest } (.invokestatic index) mk argsL.toArray X₁ hg hsize hdg hW (X₁.named hnamed) (hpre vm₁ X₁.warmed) with ⟨v, B, X', hpost, hsteps⟩ | ⟨q, B, X', hpost, hsteps⟩
  · exact Or.inl ⟨v, vm₁, B, X₁.warmed, X', hpost, fun target h => hstep₁ _ fun acts => by rw [doInvoke_state]; exact hsteps.trans h⟩
  · exact Or.inr ⟨q, vm₁, B, X₁.warmed, X', hpost, hstep₁ _ fun acts => by rw [doInvoke_state]; exact hsteps⟩
theorem vx_callVW (X : Stand p l e R s m args below meth c T locs cells slots) (hexec : p.tables.exec = Jvm.exec) {own C : String} {index : Nat} {y : MethodName} {bytes : ByteArray} {maxL : Nat} {ret : Option FieldType} {hh : List (Nat × Nat × Nat × Nat)}
    (hown : s.vm.findClass own = some m.cls) (hlink : (Cond.methodLink own index y).before args s = true) (hinst : (Cond.instanceMethod y).before args s = true) (hsel : (Cond.selects C y y).before args s = true)
    (hcode : (Cond.codeWith y bytes maxL ret hh).before args s = true) (hy : y.cls ≠ "java/lang/invoke/MethodHandle" ∧ y.cls ≠ "java/lang/invoke/VarHandle")
    {W9 : Nat} {Pre : Pt → Array Value → Prop} {Post : Pt → Array Value → Option Value → Pt → Prop} (hK : Back l R p e below s args y 3 W9 Pre Post)
    {b : Addr} {cellB : Cell} (hcell : T.heap[b]? = some cellB) (hobj : cellB.vm.isStatics = false) (hcls : s.vm.findClass C = some cellB.cls)
    {g : JFrame} (hg : g.method = m) (hsize : g.locals.size = c.maxLocals) {argsL rest : List Value} (hlen : ∀ sig, parseMethodDescriptor y.desc = some sig → argsL.length = sig.parameters.length)
    (hstack : g.stack = argsL.reverse ++ .ref b :: rest) (hW : 2 * g.monitorRoom + (rest.map fun v => v.category).sum ≤ W9) (hdg : decode c.code g.pc = .ok (.invokevirtual index, 3))
    (hpre : ∀ vm₁, s.WarmedH vm₁ → Pre ⟨T.setVm vm₁, locs, cells, slots⟩ (Value.ref b :: argsL).toArray) :
    ∃ (v : Option Value) (vm₁ : Vm) (B : Pt), s.WarmedH vm₁ ∧ Stand p l e R s m args below meth c B.U B.locs B.cells B.slots ∧ Post ⟨T.setVm vm₁, locs, cells, slots⟩ (Value.ref b :: argsL).toArray v B ∧
      ∀ target, Steps p.tables e below (B.U.setTop { g with pc := g.pc + 3, stack := v.toList ++ rest }) target → Steps p.tables e below (T.setTop g) target := by
  obtain ⟨mk, methM, hnamed, hmethM, hstM, habM⟩ := Cond.instanceMethod_spec hinst
  obtain ⟨m8, methM', cM, hn8, hmethM', -, -, -, -, -, -, hsigM⟩ := Cond.codeWith_spec hcode
  cases Option.some.inj (hn8.symm.trans hnamed)
  cases hmethM.symm.trans hmethM'
  obtain ⟨c2, r2, m2, q1, q2, q3, q4, kP, hkP, hkPi⟩ := Cond.selects_spec hsel
  cases hcls.symm.trans q1
  cases (State.methodFound?_of_named hnamed hy).symm.trans q2
  cases hnamed.symm.trans q3
  have hselP : selectMethod e.platform s.vm cellB.cls mk = .method mk := by rw [Launch.admits_selectMethod X.admits]; exact q4
  obtain ⟨vm₁, X₁, hstep₁⟩ := X.invokevirtual hexec hown hlink hnamed hmethM hstM hkP hkPi hy (a := b) (cell := cellB) hcell
    (fun z h => by rw [h] at hobj; cases hobj) hselP hmethM habM hkP hkPi (g := g) hg (argsL := argsL) (rest := rest) (hlen _ hsigM) hstack hdg
  obtain ⟨v, B, X', hpost, hsteps⟩ := hK m meth c ⟨T.setVm vm₁, locs, cells, slots⟩ { g with stack := rest } (.invokevirtual index) mk (Value.ref b :: argsL).toArray X₁ hg hsize hdg hW (X₁.named hnamed) (hpre vm₁ X₁.warmed)
  exact ⟨v, vm₁, B, X₁.warmed, X', hpost, fun target h => hstep₁ _ fun acts => by rw [doInvoke_state]; exact hsteps.trans h⟩
abbrev vx_CVW (R : Room) (s : State) (args : Array Value) (own C : String) (index : Nat) (y : MethodName) (bytes : ByteArray) (maxL : Nat) (ret : Option FieldType) (hh : List (Nat × Nat × Nat × Nat)) (ws : List Cond) (rm : Room) (mc ms n : Nat) : Prop :=
  (rm.cells = mc ∧ rm.slots = ms ∧ rm.frames + 1 ≤ R.frames ∧ 8 + (maxL + 11) + rm.locals ≤ R.locals ∧ (∀ w ∈ ws, ∀ (a' : Array Value) (U : State), s.WarmedH U.vm → w.before a' U = true) ∧ Cond.codeWith y bytes maxL ret hh ∈ ws) ∧
  (Cond.codeWith y bytes maxL ret hh).before args s = true ∧ (Cond.initialized y.cls).before args s = true ∧ (y.cls ≠ "java/lang/invoke/MethodHandle" ∧ y.cls ≠ "java/lang/invoke/VarHandle") ∧
  (∀ sig, parseMethodDescriptor y.desc = some sig → n = sig.parameters.length) ∧ (Cond.methodLink own index y).before args s = true ∧ (Cond.instanceMethod y).before args s = true ∧ (Cond.selects C y y).before args s = true
theorem vx_cwVW {own C : String} {index maxL mc ms : Nat} {y : MethodName} {bytes : ByteArray} {ret : Option FieldType} {hh : List (Nat × Nat × Nat × Nat)} {Ts ws ws' : List Cond} {rm : Room} (n : Nat) (ht : ∀ w ∈ Ts, w.before args s = true) (hT : GoodIn Ts (wsV own index C y ws)) (hw : ws = Cond.codeWith y bytes maxL ret hh :: ws') (hrc : rm.cells = mc) (hrs : rm.slots = ms)
    (hd : y.cls = C ∧ y.cls ≠ "java/lang/invoke/MethodHandle" ∧ y.cls ≠ "java/lang/invoke/VarHandle" ∧ (parseMethodDescriptor y.desc).map (fun d => d.parameters.length) = some n) (hR : rm.frames + 1 ≤ R.frames ∧ 8 + (maxL + 11) + rm.locals ≤ R.locals) :
    vx_CVW R s args own C index y bytes maxL ret hh ws rm mc ms n := by
  obtain ⟨hC, hd⟩ := hd
  subst hC
  have ok : ∀ w ∈ wsV own index y.cls y ws, w.before args s = true := fun w h => ht w (hT w h).1
  have hG : GoodIn Ts ws := fun w h => hT w (by unfold wsV; exact List.mem_append_right _ h)
  have hc : Cond.codeWith y bytes maxL ret hh ∈ ws := by rw [hw]; exact List.mem_cons_self
  refine ⟨⟨hrc, hrs, hR.1, hR.2, pay_in ht hG, hc⟩, ht _ (hG _ hc).1, ok _ (by simp [wsV]), ⟨hd.1, hd.2.1⟩, fun sig h => ?_, ok _ (by simp [wsV]), ok _ (by simp [wsV]), ok _ (by simp [wsV])⟩
  have h2 := hd.2.2
  rw [h] at h2
  exact (Option.some.inj h2).symm
theorem vx_runVW {y : MethodName} {bytes cc : ByteArray} {maxL nL mc ms n index : Nat} {ret : Option FieldType} {hh : List (Nat × Nat × Nat × Nat)} {ws : List Cond} {rm : Room} {Pc : Array Value → State → Prop} {Qc : Array Value → State → Outcome → State → Prop} {free : Addr → Prop} {Ts : List Cond} {own C : String} {b : Addr} {As rest : List Value} {g : JFrame}
    (S : CallFix p m c cc nL s args Ts own) (hM : Met l y ws rm Pc Qc mc ms free) (cw : vx_CVW R s args own C index y bytes maxL ret hh ws rm mc ms n) (hp : PreV s H C b Pc As)
    (hg : g.method = m) (hn : As.length = n) (hsize : g.locals.size = nL) (hstack : g.stack = As.reverse ++ .ref b :: rest) (hW : 2 * g.monitorRoom + (rest.map fun v => v.category).sum ≤ 8) (hdg : decode cc g.pc = .ok (.invokevirtual index, 3)) (hf : cells + mc ≤ R.cells ∧ slots + ms ≤ R.slots) :
    va_Run p l e R s m args below meth c H locs cells slots mc ms g rest (Qc (Value.ref b :: As).toArray) free := by
  obtain ⟨⟨hrc, hrs, hfr, hlo, hws, hcw⟩, hcode, hini, hy, hlen, hl, hin, hse⟩ := cw
  have hK : Back l R p e below s args y 3 8 (PreOf R mc ms Pc) (PostOf Qc mc ms free) := va_backW (hh := hh) (bytes := bytes) (maxL := maxL) (ret := ret) hM hp.1 hrc hrs hfr hlo hws hcw (fun a' U hW => word_at hW (Or.inl (by first | rfl | simp [Cond.onTables, Cond.keeps, Cond.steady])) hini)
  obtain ⟨hx, hb, hml, ho, -⟩ := S
  obtain ⟨-, ⟨cellB, hcB, hoB, hclB⟩, hPc⟩ := hp
  intro T hT X
  obtain ⟨v, vm₁, ⟨U', l2, c2, s2⟩, hW₁, X', ⟨g', mk, t, L, e1, e2, hq, h1, hL, h2, h3⟩, st⟩ := vx_callVW X hx (C := C) (hh := hh) (bytes := bytes) (maxL := maxL) (ret := ret) ho hl hin hse hcode hy hK (by rw [hT]; exact hcB) hoB hclB hg (hsize.trans hml.symm) (argsL := As) (rest := rest) (fun sig h => hn.trans (hlen sig h)) hstack hW (by rw [hb]; exact hdg)
    (fun vm₁ hW₁ => ⟨hf.1, hf.2, hPc (T.setVm vm₁) hT hW₁⟩)
  dsimp only [Pt.U, Pt.locs, Pt.cells, Pt.slots] at X' e1 e2 h1 h2 h3 st
  subst h1; subst h2; subst h3
  exact ⟨v, (T.setVm vm₁).calling g' mk (Value.ref b :: As).toArray, t, U', L, hT, X', hL, e1, e2, hq, st⟩
section
variable {y : MethodName} {bytes cc : ByteArray} {maxL nL mc ms n index : Nat} {ret : Option FieldType} {ws : List Cond} {rm : Room} {Pc : Array Value → State → Prop} {Qc : Array Value → State → Outcome → State → Prop} {XC : String → State → State → Prop} {free : Addr → Prop} {Ts : List Cond} {own C : String} {b : Addr} {As rest : List Value} {g : JFrame}
theorem vx_runVX {hh : List (Nat × Nat × Nat × Nat)} (S : CallFix p m c cc nL s args Ts own) (hM : vx_Met l y ws rm Pc Qc XC mc ms free) (cw : vx_CVW R s args own C index y bytes maxL ret hh ws rm mc ms n) (hp : PreV s H C b Pc As)
    (hg : g.method = m) (hn : As.length = n) (hsize : g.locals.size = nL) (hstack : g.stack = As.reverse ++ .ref b :: rest) (hW : 2 * g.monitorRoom + (rest.map fun v => v.category).sum ≤ 8) (hdg : decode cc g.pc = .ok (.invokevirtual index, 3)) (hf : cells + mc ≤ R.cells ∧ slots + ms ≤ R.slots) :
    vx_Run p l e R s m args below meth c H locs cells slots mc ms g rest (Qc (Value.ref b :: As).toArray) XC free := by
  obtain ⟨⟨hrc, hrs, hfr, hlo, hws, hcw⟩, hcode, hini, hy, hlen, hl, hin, hse⟩ := cw
  have hK : vx_Back l R p e below s args y 3 8 (PreOf R mc ms Pc) (PostOf Qc mc ms free) (vx_Post XC mc ms free) := vx_backW (hh := hh) (bytes := bytes) (maxL := maxL) (ret := ret) hM hp.1 hrc hrs hfr hlo hws hcw (fun a' U hW => word_at hW (Or.inl (by first | rfl | simp [Cond.onTables, Cond.keeps, Cond.steady])) hini)
  obtain ⟨hx, hb, hml, ho, -⟩ := S
  obtain ⟨-, ⟨cellB, hcB, hoB, hclB⟩, hPc⟩ := hp
  intro T hT X
  rcases vx_callVX X hx (C := C) (hh := hh) (bytes := bytes) (maxL := maxL) (ret := ret) ho hl hin hse hcode hy hK (by rw [hT]; exact hcB) hoB hclB hg (hsize.trans hml.symm) (argsL := As) (rest := rest) (fun sig h => hn.trans (hlen sig h)) hstack hW (by rw [hb]; exact hdg)
    (fun vm₁ hW₁ => ⟨hf.1, hf.2, hPc (T.setVm vm₁) hT hW₁⟩) with ⟨v, vm₁, ⟨U', l2, c2, s2⟩, hW₁, X', ⟨g', mk, t, L, e1, e2, hq, h1, hL, h2, h3⟩, st⟩ | ⟨q, vm₁, ⟨U', l2, c2, s2⟩, hW₁, X', ⟨g', mk, t, L, E, ce, e1, e2, hq, hce, hcv, hcl, h1, hL, h2, h3⟩, st⟩
  · dsimp only [Pt.U, Pt.locs, Pt.cells, Pt.slots] at X' e1 e2 h1 h2 h3 st
    subst h1; subst h2; subst h3
    exact Or.inl ⟨v, (T.setVm vm₁).calling g' mk (Value.ref b :: As).toArray, t, U', L, hT, X', hL, e1, e2, hq, st⟩
  · dsimp only [Pt.U, Pt.locs, Pt.cells, Pt.slots] at X' e1 e2 h1 h2 h3 st hcl
    subst h1; subst h2; subst h3
    exact Or.inr ⟨q, (T.setVm vm₁).calling g' mk (Value.ref b :: As).toArray, t, U', L, E, ce, hT, X', hL, e1, e2, hq, hce, hcv, vx_cls hW₁ hcl, st⟩
theorem vx_runSX {hh : List (Nat × Nat × Nat × Nat)} (S : CallFix p m c cc nL s args Ts own) (hM : vx_Met l y ws rm Pc Qc XC mc ms free) (cw : vx_CSW R s args own index y bytes maxL ret hh ws rm mc ms n) (hp : PreS s H Pc As)
    (hg : g.method = m) (hn : As.length = n) (hsize : g.locals.size = nL) (hstack : g.stack = As.reverse ++ rest) (hW : 2 * g.monitorRoom + (rest.map fun v => v.category).sum ≤ 8) (hdg : decode cc g.pc = .ok (.invokestatic index, 3)) (hf : cells + mc ≤ R.cells ∧ slots + ms ≤ R.slots) :
    vx_Run p l e R s m args below meth c H locs cells slots mc ms g rest (Qc As.toArray) XC free := by
  obtain ⟨⟨hrc, hrs, hfr, hlo, hws, hcw⟩, hcode, hini, hy, hlen, hl, hstt⟩ := cw
  have hK : vx_Back l R p e below s args y 3 8 (PreOf R mc ms Pc) (PostOf Qc mc ms free) (vx_Post XC mc ms free) := vx_backW (hh := hh) (bytes := bytes) (maxL := maxL) (ret := ret) hM hp.1 hrc hrs hfr hlo hws hcw (fun a' U hW => word_at hW (Or.inl (by first | rfl | simp [Cond.onTables, Cond.keeps, Cond.steady])) hini)
  obtain ⟨hx, hb, hml, ho, -⟩ := S
  intro T hT X
  rcases vx_callSX X hx (hh := hh) (bytes := bytes) (maxL := maxL) (ret := ret) ho hl hstt hini hcode hy hK hg (hsize.trans hml.symm) (argsL := As) (rest := rest) (fun sig h => hn.trans (hlen sig h)) hstack hW (by rw [hb]; exact hdg)
    (fun vm₁ hW₁ => ⟨hf.1, hf.2, hp.2 (T.setVm vm₁) hT hW₁⟩) with ⟨v, vm₁, ⟨U', l2, c2, s2⟩, hW₁, X', ⟨g', mk, t, L, e1, e2, hq, h1, hL, h2, h3⟩, st⟩ | ⟨q, vm₁, ⟨U', l2, c2, s2⟩, hW₁, X', ⟨g', mk, t, L, E, ce, e1, e2, hq, hce, hcv, hcl, h1, hL, h2, h3⟩, st⟩
  · dsimp only [Pt.U, Pt.locs, Pt.cells, Pt.slots] at X' e1 e2 h1 h2 h3 st
    subst h1; subst h2; subst h3
    exact Or.inl ⟨v, (T.setVm vm₁).calling g' mk As.toArray, t, U', L, hT, X', hL, e1, e2, hq, st⟩
  · dsimp only [Pt.U, Pt.locs, Pt.cells, Pt.slots] at X' e1 e2 h1 h2 h3 st hcl
    subst h1; subst h2; subst h3
    exact Or.inr ⟨q, (T.setVm vm₁).calling g' mk As.toArray, t, U', L, E, ce, hT, X', hL, e1, e2, hq, hce, hcv, vx_cls hW₁ hcl, st⟩
end
end VXH
theorem vx_ofWH {l : Launch} {y : MethodName} {ws ws' : List Cond} {rm : Room} {Pc : Array Value → State → Prop} {Qc : Array Value → State → Outcome → State → Prop} {XC : String → State → State → Prop} {mc ms : Nat} {free : Addr → Prop} {cc : ByteArray} {maxL : Nat} {ret : Option FieldType} {hh : List (Nat × Nat × Nat × Nat)}
    (hy : plainName y.cls = true) (hw : ws = Cond.codeWith y cc maxL ret hh :: ws')
    (body : ∀ p e s m args below meth c s₁, BodyLoose p l y (headSpec ws rm) cc maxL ret e s m args below meth c s₁ → c.maxLocals = maxL → Pc args s →
      W p l e (headSpec ws rm).room s m args below meth c s.heap [] 0 0 (vx_MQ below Qc XC args s mc ms free) (entryFrame m args maxL)) : vx_Met l y ws rm Pc Qc XC mc ms free := by
  refine MetFree.of_bodyS (code := cc) (maxLocals := maxL) (ret := ret) hy ?_ ?_
  · intro args s m h hn
    obtain ⟨m9, meth, c, hn9, h1, h2, h3, h4, -, h5, h6, -⟩ := Cond.codeWith_spec (atoms_spec (ws := ws) h _ (by rw [hw]; exact List.mem_cons_self))
    cases hn.symm.trans hn9
    exact ⟨meth, c, h1, h2, h3, h4, h5, h6⟩
  · intro p e s m args below meth c s₁ B hml hP _
    have hh0 : s₁.heap = s.heap := by rw [B.state]; rfl
    obtain ⟨t, a1, o, b1, b2, b3⟩ := body p e s m args below meth c s₁ B hml hP s₁ hh0 (Stand.of_body B)
    exact ⟨t, o, a1, b1, b2, b3⟩
/-! ===== END ===== -/
end
section
abbrev b_SG_init : ByteArray := prog_1_method_1_code
def y_SG_init : MethodName := ⟨"SiftedGraphs", "<init>", "()V"⟩
abbrev w_SG_init : Cond := .code y_SG_init b_SG_init 2 none
abbrev b_RG_init : ByteArray := prog_4_method_1_code
def y_RG_init : MethodName := ⟨"SiftedGraphs$Registers", "<init>", "()V"⟩
abbrev w_RG_init : Cond := .code y_RG_init b_RG_init 1 none
abbrev b_FR_init : ByteArray := prog_2_method_1_code
def y_FR_init : MethodName := ⟨"SiftedGraphs$FormulaReader", "<init>", "()V"⟩
abbrev w_FR_init : Cond := .code y_FR_init b_FR_init 1 none
abbrev b_NC_init : ByteArray := prog_3_method_1_code
def y_NC_init : MethodName := ⟨"SiftedGraphs$NodeCounter", "<init>", "()V"⟩
abbrev w_NC_init : Cond := .code y_NC_init b_NC_init 1 none
abbrev b_SG_shared : ByteArray := prog_1_method_17_code
def y_SG_shared : MethodName := ⟨"SiftedGraphs", "shared", "()I"⟩
abbrev w_SG_shared : Cond := .code y_SG_shared b_SG_shared 1 (some .int)
abbrev b_SG_nodesOfAll : ByteArray := prog_1_method_24_code
def y_SG_nodesOfAll : MethodName := ⟨"SiftedGraphs", "nodesOfAll", "()I"⟩
abbrev w_SG_nodesOfAll : Cond := .code y_SG_nodesOfAll b_SG_nodesOfAll 2 (some .int)
abbrev b_NC_begin : ByteArray := prog_3_method_2_code
def y_NC_begin : MethodName := ⟨"SiftedGraphs$NodeCounter", "begin", "()V"⟩
abbrev w_NC_begin : Cond := .code y_NC_begin b_NC_begin 1 none
abbrev b_RG_isHeld : ByteArray := prog_4_method_2_code
def y_RG_isHeld : MethodName := ⟨"SiftedGraphs$Registers", "isHeld", "(I)Z"⟩
abbrev w_RG_isHeld : Cond := .code y_RG_isHeld b_RG_isHeld 2 (some .boolean)
abbrev b_RG_table : ByteArray := prog_4_method_3_code
def y_RG_table : MethodName := ⟨"SiftedGraphs$Registers", "table", "(I)J"⟩
abbrev w_RG_table : Cond := .code y_RG_table b_RG_table 2 (some .long)
abbrev b_NC_add : ByteArray := prog_3_method_3_code
def y_NC_add : MethodName := ⟨"SiftedGraphs$NodeCounter", "add", "(J)V"⟩
abbrev w_NC_add : Cond := .code y_NC_add b_NC_add 4 none
abbrev b_NC_total : ByteArray := prog_3_method_4_code
def y_NC_total : MethodName := ⟨"SiftedGraphs$NodeCounter", "total", "([I)I"⟩
abbrev w_NC_total : Cond := .code y_NC_total b_NC_total 4 (some .int)
abbrev b_NC_goDown : ByteArray := prog_3_method_6_code
def y_NC_goDown : MethodName := ⟨"SiftedGraphs$NodeCounter", "goDown", "()V"⟩
abbrev w_NC_goDown : Cond := .code y_NC_goDown b_NC_goDown 2 none
abbrev b_NC_branch : ByteArray := prog_3_method_7_code
def y_NC_branch : MethodName := ⟨"SiftedGraphs$NodeCounter", "branch", "(I)I"⟩
abbrev w_NC_branch : Cond := .code y_NC_branch b_NC_branch 8 (some .int)
abbrev b_TB_withZero : ByteArray := prog_5_method_7_code
def y_TB_withZero : MethodName := ⟨"SiftedGraphs$Tables", "withZero", "(JI)J"⟩
abbrev w_TB_withZero : Cond := .code y_TB_withZero b_TB_withZero 5 (some .long)
abbrev b_TB_weight : ByteArray := prog_5_method_9_code
def y_TB_weight : MethodName := ⟨"SiftedGraphs$Tables", "weight", "(I)I"⟩
abbrev w_TB_weight : Cond := .code y_TB_weight b_TB_weight 1 (some .int)
abbrev b_TB_withOne : ByteArray := prog_5_method_6_code
def y_TB_withOne : MethodName := ⟨"SiftedGraphs$Tables", "withOne", "(JI)J"⟩
abbrev w_TB_withOne : Cond := .code y_TB_withOne b_TB_withOne 5 (some .long)
abbrev b_LW_set : ByteArray := method_3_code
def y_LW_set : MethodName := ⟨"SiftedGraphsLaw", "set", "(LSiftedGraphs;II)I"⟩
abbrev w_LW_set : Cond := .codeWith y_LW_set b_LW_set 4 (some .int) [(0, 6, 9, 13)]
abbrev b_SG_set : ByteArray := prog_1_method_2_code
def y_SG_set : MethodName := ⟨"SiftedGraphs", "set", "(II)V"⟩
abbrev w_SG_set : Cond := .code y_SG_set b_SG_set 5 none
abbrev b_SG_checkBelow : ByteArray := prog_1_method_22_code
def y_SG_checkBelow : MethodName := ⟨"SiftedGraphs", "checkBelow", "(II)V"⟩
abbrev w_SG_checkBelow : Cond := .code y_SG_checkBelow b_SG_checkBelow 2 none
abbrev b_TB_ofVariable : ByteArray := prog_5_method_2_code
def y_TB_ofVariable : MethodName := ⟨"SiftedGraphs$Tables", "ofVariable", "(I)J"⟩
abbrev w_TB_ofVariable : Cond := .code y_TB_ofVariable b_TB_ofVariable 1 (some .long)
abbrev b_RG_put : ByteArray := prog_4_method_4_code
def y_RG_put : MethodName := ⟨"SiftedGraphs$Registers", "put", "(IJ)V"⟩
abbrev w_RG_put : Cond := .code y_RG_put b_RG_put 4 none
abbrev b_LW_apply : ByteArray := method_4_code
def y_LW_apply : MethodName := ⟨"SiftedGraphsLaw", "apply", "(LSiftedGraphs;IIII)I"⟩
abbrev w_LW_apply : Cond := .codeWith y_LW_apply b_LW_apply 6 (some .int) [(0, 9, 12, 13), (0, 9, 16, 19)]
abbrev b_SG_apply : ByteArray := prog_1_method_3_code
def y_SG_apply : MethodName := ⟨"SiftedGraphs", "apply", "(IIII)V"⟩
abbrev w_SG_apply : Cond := .code y_SG_apply b_SG_apply 5 none
abbrev b_SG_look : ByteArray := prog_1_method_23_code
def y_SG_look : MethodName := ⟨"SiftedGraphs", "look", "(I)J"⟩
abbrev w_SG_look : Cond := .code y_SG_look b_SG_look 2 (some .long)
abbrev b_TB_connected : ByteArray := prog_5_method_4_code
def y_TB_connected : MethodName := ⟨"SiftedGraphs$Tables", "connected", "(JJI)J"⟩
abbrev w_TB_connected : Cond := .code y_TB_connected b_TB_connected 7 (some .long)
abbrev b_LW_choose : ByteArray := method_5_code
def y_LW_choose : MethodName := ⟨"SiftedGraphsLaw", "choose", "(LSiftedGraphs;IIII)I"⟩
abbrev w_LW_choose : Cond := .codeWith y_LW_choose b_LW_choose 6 (some .int) [(0, 9, 12, 13), (0, 9, 16, 19)]
abbrev b_SG_choose : ByteArray := prog_1_method_4_code
def y_SG_choose : MethodName := ⟨"SiftedGraphs", "choose", "(IIII)V"⟩
abbrev w_SG_choose : Cond := .code y_SG_choose b_SG_choose 5 none
abbrev b_TB_chosen : ByteArray := prog_5_method_5_code
def y_TB_chosen : MethodName := ⟨"SiftedGraphs$Tables", "chosen", "(JJJ)J"⟩
abbrev w_TB_chosen : Cond := .code y_TB_chosen b_TB_chosen 6 (some .long)
abbrev b_LW_restrict : ByteArray := method_6_code
def y_LW_restrict : MethodName := ⟨"SiftedGraphsLaw", "restrict", "(LSiftedGraphs;IIIZ)I"⟩
abbrev w_LW_restrict : Cond := .codeWith y_LW_restrict b_LW_restrict 6 (some .int) [(0, 9, 12, 13), (0, 9, 16, 19)]
abbrev b_SG_restrict : ByteArray := prog_1_method_5_code
def y_SG_restrict : MethodName := ⟨"SiftedGraphs", "restrict", "(IIIZ)V"⟩
abbrev w_SG_restrict : Cond := .code y_SG_restrict b_SG_restrict 7 none
abbrev b_LW_compose : ByteArray := method_7_code
def y_LW_compose : MethodName := ⟨"SiftedGraphsLaw", "compose", "(LSiftedGraphs;IIII)I"⟩
abbrev w_LW_compose : Cond := .codeWith y_LW_compose b_LW_compose 6 (some .int) [(0, 9, 12, 13), (0, 9, 16, 19)]
abbrev b_SG_compose : ByteArray := prog_1_method_6_code
def y_SG_compose : MethodName := ⟨"SiftedGraphs", "compose", "(IIII)V"⟩
abbrev w_SG_compose : Cond := .code y_SG_compose b_SG_compose 9 none
abbrev b_LW_quantify : ByteArray := method_8_code
def y_LW_quantify : MethodName := ⟨"SiftedGraphsLaw", "quantify", "(LSiftedGraphs;IIIZ)I"⟩
abbrev w_LW_quantify : Cond := .codeWith y_LW_quantify b_LW_quantify 6 (some .int) [(0, 9, 12, 13), (0, 9, 16, 19)]
abbrev b_SG_quantify : ByteArray := prog_1_method_7_code
def y_SG_quantify : MethodName := ⟨"SiftedGraphs", "quantify", "(IIIZ)V"⟩
abbrev w_SG_quantify : Cond := .code y_SG_quantify b_SG_quantify 12 none
abbrev b_LW_type : ByteArray := method_9_code
def y_LW_type : MethodName := ⟨"SiftedGraphsLaw", "type", "(LSiftedGraphs;JI[J)I"⟩
abbrev w_LW_type : Cond := .codeWith y_LW_type b_LW_type 6 (some .int) [(0, 11, 14, 13)]
abbrev b_SG_type : ByteArray := prog_1_method_8_code
def y_SG_type : MethodName := ⟨"SiftedGraphs", "type", "(JI)I"⟩
abbrev w_SG_type : Cond := .code y_SG_type b_SG_type 5 (some .int)
abbrev b_LW_read : ByteArray := method_10_code
def y_LW_read : MethodName := ⟨"SiftedGraphsLaw", "read", "(LSiftedGraphs;I[J)I"⟩
abbrev w_LW_read : Cond := .codeWith y_LW_read b_LW_read 4 (some .int) [(0, 9, 12, 13)]
abbrev b_SG_read : ByteArray := prog_1_method_9_code
def y_SG_read : MethodName := ⟨"SiftedGraphs", "read", "(I)I"⟩
abbrev w_SG_read : Cond := .code y_SG_read b_SG_read 3 (some .int)
abbrev b_FR_failurePlace : ByteArray := prog_2_method_2_code
def y_FR_failurePlace : MethodName := ⟨"SiftedGraphs$FormulaReader", "failurePlace", "([CILSiftedGraphs$Registers;)I"⟩
abbrev w_FR_failurePlace : Cond := .code y_FR_failurePlace b_FR_failurePlace 7 (some .int)
abbrev b_FR_beginFormula : ByteArray := prog_2_method_4_code
def y_FR_beginFormula : MethodName := ⟨"SiftedGraphs$FormulaReader", "beginFormula", "()V"⟩
abbrev w_FR_beginFormula : Cond := .code y_FR_beginFormula b_FR_beginFormula 1 none
abbrev b_FR_beginFactor : ByteArray := prog_2_method_5_code
def y_FR_beginFactor : MethodName := ⟨"SiftedGraphs$FormulaReader", "beginFactor", "()V"⟩
abbrev w_FR_beginFactor : Cond := .code y_FR_beginFactor b_FR_beginFactor 1 none
abbrev b_FR_takeInOperand : ByteArray := prog_2_method_6_code
def y_FR_takeInOperand : MethodName := ⟨"SiftedGraphs$FormulaReader", "takeInOperand", "(CLSiftedGraphs$Registers;)Z"⟩
abbrev w_FR_takeInOperand : Cond := .code y_FR_takeInOperand b_FR_takeInOperand 3 (some .boolean)
abbrev b_FR_openParenthesis : ByteArray := prog_2_method_9_code
def y_FR_openParenthesis : MethodName := ⟨"SiftedGraphs$FormulaReader", "openParenthesis", "()Z"⟩
abbrev w_FR_openParenthesis : Cond := .code y_FR_openParenthesis b_FR_openParenthesis 1 (some .boolean)
abbrev b_FR_endFactor : ByteArray := prog_2_method_8_code
def y_FR_endFactor : MethodName := ⟨"SiftedGraphs$FormulaReader", "endFactor", "(J)V"⟩
abbrev w_FR_endFactor : Cond := .code y_FR_endFactor b_FR_endFactor 3 none
abbrev b_FR_takeBehindOperand : ByteArray := prog_2_method_7_code
def y_FR_takeBehindOperand : MethodName := ⟨"SiftedGraphs$FormulaReader", "takeBehindOperand", "(C)Z"⟩
abbrev w_FR_takeBehindOperand : Cond := .code y_FR_takeBehindOperand b_FR_takeBehindOperand 2 (some .boolean)
abbrev b_FR_meaning : ByteArray := prog_2_method_3_code
def y_FR_meaning : MethodName := ⟨"SiftedGraphs$FormulaReader", "meaning", "()J"⟩
abbrev w_FR_meaning : Cond := .code y_FR_meaning b_FR_meaning 1 (some .long)
abbrev b_FR_closeParenthesis : ByteArray := prog_2_method_10_code
def y_FR_closeParenthesis : MethodName := ⟨"SiftedGraphs$FormulaReader", "closeParenthesis", "()Z"⟩
abbrev w_FR_closeParenthesis : Cond := .code y_FR_closeParenthesis b_FR_closeParenthesis 3 (some .boolean)
abbrev b_LW_release : ByteArray := method_11_code
def y_LW_release : MethodName := ⟨"SiftedGraphsLaw", "release", "(LSiftedGraphs;I[J)I"⟩
abbrev w_LW_release : Cond := .codeWith y_LW_release b_LW_release 4 (some .int) [(0, 16, 19, 13)]
abbrev b_SG_release : ByteArray := prog_1_method_10_code
def y_SG_release : MethodName := ⟨"SiftedGraphs", "release", "(I)Z"⟩
abbrev w_SG_release : Cond := .code y_SG_release b_SG_release 3 (some .boolean)
abbrev b_RG_clear : ByteArray := prog_4_method_5_code
def y_RG_clear : MethodName := ⟨"SiftedGraphs$Registers", "clear", "(I)V"⟩
abbrev w_RG_clear : Cond := .code y_RG_clear b_RG_clear 2 none
abbrev b_LW_equal : ByteArray := method_12_code
def y_LW_equal : MethodName := ⟨"SiftedGraphsLaw", "equal", "(LSiftedGraphs;II[J)I"⟩
abbrev w_LW_equal : Cond := .codeWith y_LW_equal b_LW_equal 5 (some .int) [(0, 17, 20, 13), (0, 17, 24, 19)]
abbrev b_SG_equal : ByteArray := prog_1_method_11_code
def y_SG_equal : MethodName := ⟨"SiftedGraphs", "equal", "(II)Z"⟩
abbrev w_SG_equal : Cond := .code y_SG_equal b_SG_equal 3 (some .boolean)
abbrev b_LW_value : ByteArray := method_13_code
def y_LW_value : MethodName := ⟨"SiftedGraphsLaw", "value", "(LSiftedGraphs;II[J)I"⟩
abbrev w_LW_value : Cond := .codeWith y_LW_value b_LW_value 5 (some .int) [(0, 17, 20, 13), (0, 17, 24, 19)]
abbrev b_SG_value : ByteArray := prog_1_method_12_code
def y_SG_value : MethodName := ⟨"SiftedGraphs", "value", "(II)Z"⟩
abbrev w_SG_value : Cond := .code y_SG_value b_SG_value 3 (some .boolean)
abbrev b_TB_at : ByteArray := prog_5_method_3_code
def y_TB_at : MethodName := ⟨"SiftedGraphs$Tables", "at", "(JI)Z"⟩
abbrev w_TB_at : Cond := .code y_TB_at b_TB_at 3 (some .boolean)
abbrev b_LW_count : ByteArray := method_14_code
def y_LW_count : MethodName := ⟨"SiftedGraphsLaw", "count", "(LSiftedGraphs;I[J)I"⟩
abbrev w_LW_count : Cond := .codeWith y_LW_count b_LW_count 4 (some .int) [(0, 9, 12, 13), (0, 9, 15, 19)]
abbrev b_SG_count : ByteArray := prog_1_method_13_code
def y_SG_count : MethodName := ⟨"SiftedGraphs", "count", "(I)I"⟩
abbrev w_SG_count : Cond := .code y_SG_count b_SG_count 2 (some .int)
abbrev b_JL_bitCount : ByteArray := prog_10_method_50_code
def y_JL_bitCount : MethodName := ⟨"java/lang/Long", "bitCount", "(J)I"⟩
abbrev w_JL_bitCount : Cond := .code y_JL_bitCount b_JL_bitCount 2 (some .int)
abbrev b_LW_least : ByteArray := method_15_code
def y_LW_least : MethodName := ⟨"SiftedGraphsLaw", "least", "(LSiftedGraphs;I[J)I"⟩
abbrev w_LW_least : Cond := .codeWith y_LW_least b_LW_least 4 (some .int) [(0, 9, 12, 13), (0, 9, 15, 19)]
abbrev b_SG_least : ByteArray := prog_1_method_14_code
def y_SG_least : MethodName := ⟨"SiftedGraphs", "least", "(I)I"⟩
abbrev w_SG_least : Cond := .code y_SG_least b_SG_least 5 (some .int)
abbrev b_LW_support : ByteArray := method_16_code
def y_LW_support : MethodName := ⟨"SiftedGraphsLaw", "support", "(LSiftedGraphs;I[J)I"⟩
abbrev w_LW_support : Cond := .codeWith y_LW_support b_LW_support 4 (some .int) [(0, 9, 12, 13), (0, 9, 15, 19)]
abbrev b_SG_support : ByteArray := prog_1_method_15_code
def y_SG_support : MethodName := ⟨"SiftedGraphs", "support", "(I)I"⟩
abbrev w_SG_support : Cond := .code y_SG_support b_SG_support 6 (some .int)
abbrev b_TB_dependsOn : ByteArray := prog_5_method_8_code
def y_TB_dependsOn : MethodName := ⟨"SiftedGraphs$Tables", "dependsOn", "(JI)Z"⟩
abbrev w_TB_dependsOn : Cond := .code y_TB_dependsOn b_TB_dependsOn 3 (some .boolean)
abbrev b_LW_size : ByteArray := method_17_code
def y_LW_size : MethodName := ⟨"SiftedGraphsLaw", "size", "(LSiftedGraphs;I[J)I"⟩
abbrev w_LW_size : Cond := .codeWith y_LW_size b_LW_size 4 (some .int) [(0, 9, 12, 13), (0, 9, 15, 19)]
abbrev b_SG_size : ByteArray := prog_1_method_16_code
def y_SG_size : MethodName := ⟨"SiftedGraphs", "size", "(I)I"⟩
abbrev w_SG_size : Cond := .code y_SG_size b_SG_size 2 (some .int)
abbrev b_LW_width : ByteArray := method_18_code
def y_LW_width : MethodName := ⟨"SiftedGraphsLaw", "width", "(LSiftedGraphs;I[J)I"⟩
abbrev w_LW_width : Cond := .codeWith y_LW_width b_LW_width 4 (some .int) [(0, 9, 12, 13)]
abbrev b_SG_width : ByteArray := prog_1_method_18_code
def y_SG_width : MethodName := ⟨"SiftedGraphs", "width", "(I)I"⟩
abbrev w_SG_width : Cond := .code y_SG_width b_SG_width 2 (some .int)
abbrev b_NC_onLevel : ByteArray := prog_3_method_5_code
def y_NC_onLevel : MethodName := ⟨"SiftedGraphs$NodeCounter", "onLevel", "(I)I"⟩
abbrev w_NC_onLevel : Cond := .code y_NC_onLevel b_NC_onLevel 2 (some .int)
abbrev b_LW_variable : ByteArray := method_19_code
def y_LW_variable : MethodName := ⟨"SiftedGraphsLaw", "variable", "(LSiftedGraphs;I[J)I"⟩
abbrev w_LW_variable : Cond := .codeWith y_LW_variable b_LW_variable 4 (some .int) [(0, 9, 12, 13)]
abbrev b_SG_variable : ByteArray := prog_1_method_19_code
def y_SG_variable : MethodName := ⟨"SiftedGraphs", "variable", "(I)I"⟩
abbrev w_SG_variable : Cond := .code y_SG_variable b_SG_variable 2 (some .int)
abbrev b_LW_swap : ByteArray := method_20_code
def y_LW_swap : MethodName := ⟨"SiftedGraphsLaw", "swap", "(LSiftedGraphs;I[J)I"⟩
abbrev w_LW_swap : Cond := .codeWith y_LW_swap b_LW_swap 4 (some .int) [(0, 9, 12, 13)]
abbrev b_SG_swap : ByteArray := prog_1_method_20_code
def y_SG_swap : MethodName := ⟨"SiftedGraphs", "swap", "(I)I"⟩
abbrev w_SG_swap : Cond := .code y_SG_swap b_SG_swap 2 (some .int)
abbrev b_SG_exchange : ByteArray := prog_1_method_27_code
def y_SG_exchange : MethodName := ⟨"SiftedGraphs", "exchange", "(I)V"⟩
abbrev w_SG_exchange : Cond := .code y_SG_exchange b_SG_exchange 3 none
abbrev b_LW_sift : ByteArray := method_21_code
def y_LW_sift : MethodName := ⟨"SiftedGraphsLaw", "sift", "(LSiftedGraphs;I[J)I"⟩
abbrev w_LW_sift : Cond := .codeWith y_LW_sift b_LW_sift 4 (some .int) [(0, 9, 12, 13)]
abbrev b_SG_sift : ByteArray := prog_1_method_21_code
def y_SG_sift : MethodName := ⟨"SiftedGraphs", "sift", "(I)I"⟩
abbrev w_SG_sift : Cond := .code y_SG_sift b_SG_sift 6 (some .int)
abbrev b_SG_levelOf : ByteArray := prog_1_method_25_code
def y_SG_levelOf : MethodName := ⟨"SiftedGraphs", "levelOf", "(I)I"⟩
abbrev w_SG_levelOf : Cond := .code y_SG_levelOf b_SG_levelOf 4 (some .int)
abbrev b_SG_raise : ByteArray := prog_1_method_26_code
def y_SG_raise : MethodName := ⟨"SiftedGraphs", "raise", "(II)V"⟩
abbrev w_SG_raise : Cond := .code y_SG_raise b_SG_raise 4 none
abbrev b_MD_init : ByteArray := prog_7_method_1_code
def y_MD_init : MethodName := ⟨"SiftedGraphsModel", "<init>", "()V"⟩
abbrev w_MD_init : Cond := .code y_MD_init b_MD_init 2 none
abbrev b_MD_thrown : ByteArray := prog_7_method_2_code
def y_MD_thrown : MethodName := ⟨"SiftedGraphsModel", "thrown", "()I"⟩
abbrev w_MD_thrown : Cond := .code y_MD_thrown b_MD_thrown 1 (some .int)
abbrev b_MD_set : ByteArray := prog_7_method_10_code
def y_MD_set : MethodName := ⟨"SiftedGraphsModel", "set", "(II)V"⟩
abbrev w_MD_set : Cond := .code y_MD_set b_MD_set 5 none
abbrev b_MD_isRegister : ByteArray := prog_7_method_4_code
def y_MD_isRegister : MethodName := ⟨"SiftedGraphsModel", "isRegister", "(I)Z"⟩
abbrev w_MD_isRegister : Cond := .code y_MD_isRegister b_MD_isRegister 1 (some .boolean)
abbrev b_MD_within : ByteArray := prog_7_method_3_code
def y_MD_within : MethodName := ⟨"SiftedGraphsModel", "within", "(III)Z"⟩
abbrev w_MD_within : Cond := .code y_MD_within b_MD_within 3 (some .boolean)
abbrev b_MD_variableTable : ByteArray := prog_7_method_6_code
def y_MD_variableTable : MethodName := ⟨"SiftedGraphsModel", "variableTable", "(I)J"⟩
abbrev w_MD_variableTable : Cond := .code y_MD_variableTable b_MD_variableTable 4 (some .long)
abbrev b_MD_put : ByteArray := prog_7_method_9_code
def y_MD_put : MethodName := ⟨"SiftedGraphsModel", "put", "(IJ)V"⟩
abbrev w_MD_put : Cond := .code y_MD_put b_MD_put 4 none
abbrev b_MD_apply : ByteArray := prog_7_method_11_code
def y_MD_apply : MethodName := ⟨"SiftedGraphsModel", "apply", "(IIII)V"⟩
abbrev w_MD_apply : Cond := .code y_MD_apply b_MD_apply 10 none
abbrev b_MD_at : ByteArray := prog_7_method_5_code
def y_MD_at : MethodName := ⟨"SiftedGraphsModel", "at", "(JI)Z"⟩
abbrev w_MD_at : Cond := .code y_MD_at b_MD_at 3 (some .boolean)
abbrev b_MD_choose : ByteArray := prog_7_method_12_code
def y_MD_choose : MethodName := ⟨"SiftedGraphsModel", "choose", "(IIII)V"⟩
abbrev w_MD_choose : Cond := .code y_MD_choose b_MD_choose 6 none
abbrev b_MD_restrict : ByteArray := prog_7_method_13_code
def y_MD_restrict : MethodName := ⟨"SiftedGraphsModel", "restrict", "(IIIZ)V"⟩
abbrev w_MD_restrict : Cond := .code y_MD_restrict b_MD_restrict 6 none
abbrev b_MD_with : ByteArray := prog_7_method_7_code
def y_MD_with : MethodName := ⟨"SiftedGraphsModel", "with", "(JIJ)J"⟩
abbrev w_MD_with : Cond := .code y_MD_with b_MD_with 10 (some .long)
abbrev b_MD_compose : ByteArray := prog_7_method_14_code
def y_MD_compose : MethodName := ⟨"SiftedGraphsModel", "compose", "(IIII)V"⟩
abbrev w_MD_compose : Cond := .code y_MD_compose b_MD_compose 6 none
abbrev b_MD_quantify : ByteArray := prog_7_method_15_code
def y_MD_quantify : MethodName := ⟨"SiftedGraphsModel", "quantify", "(IIIZ)V"⟩
abbrev w_MD_quantify : Cond := .code y_MD_quantify b_MD_quantify 13 none
abbrev b_MD_release : ByteArray := prog_7_method_16_code
def y_MD_release : MethodName := ⟨"SiftedGraphsModel", "release", "(I)Z"⟩
abbrev w_MD_release : Cond := .code y_MD_release b_MD_release 3 (some .boolean)
abbrev b_MD_type : ByteArray := prog_7_method_17_code
def y_MD_type : MethodName := ⟨"SiftedGraphsModel", "type", "(JI)I"⟩
abbrev w_MD_type : Cond := .code y_MD_type b_MD_type 5 (some .int)
abbrev b_MD_read : ByteArray := prog_7_method_23_code
def y_MD_read : MethodName := ⟨"SiftedGraphsModel", "read", "(I)I"⟩
abbrev w_MD_read : Cond := .code y_MD_read b_MD_read 8 (some .int)
abbrev b_MD_begin : ByteArray := prog_7_method_22_code
def y_MD_begin : MethodName := ⟨"SiftedGraphsModel", "begin", "(II)I"⟩
abbrev w_MD_begin : Cond := .code y_MD_begin b_MD_begin 3 (some .int)
abbrev b_MD_later : ByteArray := prog_7_method_21_code
def y_MD_later : MethodName := ⟨"SiftedGraphsModel", "later", "(I)V"⟩
abbrev w_MD_later : Cond := .code y_MD_later b_MD_later 2 none
abbrev b_MD_push : ByteArray := prog_7_method_18_code
def y_MD_push : MethodName := ⟨"SiftedGraphsModel", "push", "(J)V"⟩
abbrev w_MD_push : Cond := .code y_MD_push b_MD_push 3 none
abbrev b_MD_reduce : ByteArray := prog_7_method_20_code
def y_MD_reduce : MethodName := ⟨"SiftedGraphsModel", "reduce", "(I)V"⟩
abbrev w_MD_reduce : Cond := .code y_MD_reduce b_MD_reduce 7 none
abbrev b_MD_strength : ByteArray := prog_7_method_19_code
def y_MD_strength : MethodName := ⟨"SiftedGraphsModel", "strength", "(I)I"⟩
abbrev w_MD_strength : Cond := .code y_MD_strength b_MD_strength 1 (some .int)
abbrev b_MD_equal : ByteArray := prog_7_method_24_code
def y_MD_equal : MethodName := ⟨"SiftedGraphsModel", "equal", "(II)Z"⟩
abbrev w_MD_equal : Cond := .code y_MD_equal b_MD_equal 3 (some .boolean)
abbrev b_MD_value : ByteArray := prog_7_method_25_code
def y_MD_value : MethodName := ⟨"SiftedGraphsModel", "value", "(II)Z"⟩
abbrev w_MD_value : Cond := .code y_MD_value b_MD_value 3 (some .boolean)
abbrev b_MD_count : ByteArray := prog_7_method_27_code
def y_MD_count : MethodName := ⟨"SiftedGraphsModel", "count", "(I)I"⟩
abbrev w_MD_count : Cond := .code y_MD_count b_MD_count 4 (some .int)
abbrev b_MD_lack : ByteArray := prog_7_method_26_code
def y_MD_lack : MethodName := ⟨"SiftedGraphsModel", "lack", "(I)I"⟩
abbrev w_MD_lack : Cond := .code y_MD_lack b_MD_lack 2 (some .int)
abbrev b_MD_least : ByteArray := prog_7_method_28_code
def y_MD_least : MethodName := ⟨"SiftedGraphsModel", "least", "(I)I"⟩
abbrev w_MD_least : Cond := .code y_MD_least b_MD_least 3 (some .int)
abbrev b_MD_support : ByteArray := prog_7_method_29_code
def y_MD_support : MethodName := ⟨"SiftedGraphsModel", "support", "(I)I"⟩
abbrev w_MD_support : Cond := .code y_MD_support b_MD_support 4 (some .int)
abbrev b_MD_depends : ByteArray := prog_7_method_8_code
def y_MD_depends : MethodName := ⟨"SiftedGraphsModel", "depends", "(JI)Z"⟩
abbrev w_MD_depends : Cond := .code y_MD_depends b_MD_depends 3 (some .boolean)
abbrev b_MD_size : ByteArray := prog_7_method_34_code
def y_MD_size : MethodName := ⟨"SiftedGraphsModel", "size", "(I)I"⟩
abbrev w_MD_size : Cond := .code y_MD_size b_MD_size 4 (some .int)
abbrev b_MD_findAll : ByteArray := prog_7_method_31_code
def y_MD_findAll : MethodName := ⟨"SiftedGraphsModel", "findAll", "(JI)V"⟩
abbrev w_MD_findAll : Cond := .code y_MD_findAll b_MD_findAll 8 none
abbrev b_MD_find : ByteArray := prog_7_method_30_code
def y_MD_find : MethodName := ⟨"SiftedGraphsModel", "find", "(J)V"⟩
abbrev w_MD_find : Cond := .code y_MD_find b_MD_find 4 none
abbrev b_MD_shared : ByteArray := prog_7_method_35_code
def y_MD_shared : MethodName := ⟨"SiftedGraphsModel", "shared", "()I"⟩
abbrev w_MD_shared : Cond := .code y_MD_shared b_MD_shared 1 (some .int)
abbrev b_MD_all : ByteArray := prog_7_method_33_code
def y_MD_all : MethodName := ⟨"SiftedGraphsModel", "all", "()I"⟩
abbrev w_MD_all : Cond := .code y_MD_all b_MD_all 3 (some .int)
abbrev b_MD_widthOf : ByteArray := prog_7_method_32_code
def y_MD_widthOf : MethodName := ⟨"SiftedGraphsModel", "widthOf", "(I)I"⟩
abbrev w_MD_widthOf : Cond := .code y_MD_widthOf b_MD_widthOf 3 (some .int)
abbrev b_MD_width : ByteArray := prog_7_method_36_code
def y_MD_width : MethodName := ⟨"SiftedGraphsModel", "width", "(I)I"⟩
abbrev w_MD_width : Cond := .code y_MD_width b_MD_width 2 (some .int)
abbrev b_MD_variable : ByteArray := prog_7_method_37_code
def y_MD_variable : MethodName := ⟨"SiftedGraphsModel", "variable", "(I)I"⟩
abbrev w_MD_variable : Cond := .code y_MD_variable b_MD_variable 2 (some .int)
abbrev b_MD_swap : ByteArray := prog_7_method_38_code
def y_MD_swap : MethodName := ⟨"SiftedGraphsModel", "swap", "(I)I"⟩
abbrev w_MD_swap : Cond := .code y_MD_swap b_MD_swap 3 (some .int)
abbrev b_MD_sift : ByteArray := prog_7_method_40_code
def y_MD_sift : MethodName := ⟨"SiftedGraphsModel", "sift", "(I)I"⟩
abbrev w_MD_sift : Cond := .code y_MD_sift b_MD_sift 6 (some .int)
abbrev b_MD_arrange : ByteArray := prog_7_method_39_code
def y_MD_arrange : MethodName := ⟨"SiftedGraphsModel", "arrange", "(II)V"⟩
abbrev w_MD_arrange : Cond := .code y_MD_arrange b_MD_arrange 5 none
abbrev b_LW_law : ByteArray := code
def y_LW_law : MethodName := ⟨"SiftedGraphsLaw", "law", "([I)Z"⟩
abbrev w_LW_law : Cond := .code y_LW_law b_LW_law 7 (some .boolean)
/-- the words of the tables that stay true whatever is linked later -/
def TW : List Cond := lw_tbl.filter goodWord
theorem TW_t {w : Cond} (i : Nat) (h : tables_1[i]? = some w) (g : goodWord w = true) : w ∈ TW := List.mem_filter.mpr ⟨List.mem_append_right _ (List.mem_of_getElem? h), g⟩
theorem TW_s {w : Cond} (i : Nat) (h : (k2_sels lw_privs)[i]? = some w) (g : goodWord w = true) : w ∈ TW := List.mem_filter.mpr ⟨List.mem_append_left _ (List.mem_of_getElem? h), g⟩
theorem TW_g {w : Cond} (h : w ∈ TW) : goodWord w = true := (List.mem_filter.mp h).2
theorem TW_l {w : Cond} (h : w ∈ TW) : w ∈ lw_tbl := (List.mem_filter.mp h).1
theorem TW_in (c0 : Cond) {ws : List Cond} (h : ∀ w ∈ ws, w ∈ TW) : GoodIn (c0 :: TW) ws := fun w hw => ⟨List.mem_cons_of_mem _ (h w hw), good_of_word (TW_g (h w hw))⟩
theorem tw_0 : (Cond.initialized "SiftedGraphsLaw" : Cond) ∈ TW := TW_t 0 (by decide +kernel) (by decide +kernel)
theorem tw_1 : (Cond.initialized "SiftedGraphs" : Cond) ∈ TW := TW_t 1 (by decide +kernel) (by decide +kernel)
theorem tw_2 : (Cond.initialized "SiftedGraphs$Registers" : Cond) ∈ TW := TW_t 2 (by decide +kernel) (by decide +kernel)
theorem tw_3 : (Cond.initialized "SiftedGraphs$FormulaReader" : Cond) ∈ TW := TW_t 3 (by decide +kernel) (by decide +kernel)
theorem tw_4 : (Cond.initialized "SiftedGraphs$NodeCounter" : Cond) ∈ TW := TW_t 4 (by decide +kernel) (by decide +kernel)
theorem tw_5 : (Cond.initialized "SiftedGraphsModel" : Cond) ∈ TW := TW_t 5 (by decide +kernel) (by decide +kernel)
theorem tw_6 : (Cond.initialized "java/lang/Throwable" : Cond) ∈ TW := TW_t 6 (by decide +kernel) (by decide +kernel)
theorem tw_7 : (Cond.initialized "java/lang/Exception" : Cond) ∈ TW := TW_t 7 (by decide +kernel) (by decide +kernel)
theorem tw_8 : (Cond.initialized "java/lang/RuntimeException" : Cond) ∈ TW := TW_t 8 (by decide +kernel) (by decide +kernel)
theorem tw_9 : (Cond.initialized "java/lang/IllegalArgumentException" : Cond) ∈ TW := TW_t 9 (by decide +kernel) (by decide +kernel)
theorem tw_10 : (Cond.initialized "SiftedGraphs$Tables" : Cond) ∈ TW := TW_t 10 (by decide +kernel) (by decide +kernel)
theorem tw_11 : (Cond.initialized "java/util/NoSuchElementException" : Cond) ∈ TW := TW_t 11 (by decide +kernel) (by decide +kernel)
theorem tw_12 : (Cond.initialized "java/lang/Long" : Cond) ∈ TW := TW_t 12 (by decide +kernel) (by decide +kernel)
theorem tw_13 : (Cond.classLink "SiftedGraphsLaw" 8 "SiftedGraphs" : Cond) ∈ TW := TW_t 13 (by decide +kernel) (by decide +kernel)
theorem tw_14 : (Cond.instantiable "SiftedGraphs" 6 : Cond) ∈ TW := TW_t 14 (by decide +kernel) (by decide +kernel)
theorem tw_15 : (Cond.methodLink "SiftedGraphsLaw" 77 y_SG_init : Cond) ∈ TW := TW_t 15 (by decide +kernel) (by decide +kernel)
theorem tw_16 : (Cond.instanceMethod y_SG_init : Cond) ∈ TW := TW_t 16 (by decide +kernel) (by decide +kernel)
set_option maxRecDepth 100000 in
theorem tw_17 : (Cond.code y_SG_init prog_1_method_1_code 2 none : Cond) ∈ TW := TW_t 17 rfl (by decide +kernel)
theorem tw_18 : (Cond.methodLink "SiftedGraphs" 3 ⟨"java/lang/Object", "<init>", "()V"⟩ : Cond) ∈ TW := TW_t 18 (by decide +kernel) (by decide +kernel)
theorem tw_19 : (Cond.instanceMethod ⟨"java/lang/Object", "<init>", "()V"⟩ : Cond) ∈ TW := TW_t 19 (by decide +kernel) (by decide +kernel)
set_option maxRecDepth 100000 in
theorem tw_20 : (Cond.code ⟨"java/lang/Object", "<init>", "()V"⟩ object_method_1_code 1 none : Cond) ∈ TW := TW_t 20 rfl (by decide +kernel)
theorem tw_21 : (Cond.classLink "SiftedGraphs" 9 "SiftedGraphs$Registers" : Cond) ∈ TW := TW_t 21 (by decide +kernel) (by decide +kernel)
theorem tw_22 : (Cond.instantiable "SiftedGraphs$Registers" 2 : Cond) ∈ TW := TW_t 22 (by decide +kernel) (by decide +kernel)
theorem tw_23 : (Cond.methodLink "SiftedGraphs" 11 y_RG_init : Cond) ∈ TW := TW_t 23 (by decide +kernel) (by decide +kernel)
theorem tw_24 : (Cond.instanceMethod y_RG_init : Cond) ∈ TW := TW_t 24 (by decide +kernel) (by decide +kernel)
set_option maxRecDepth 100000 in
theorem tw_25 : (Cond.code y_RG_init prog_4_method_1_code 1 none : Cond) ∈ TW := TW_t 25 rfl (by decide +kernel)
theorem tw_26 : (Cond.methodLink "SiftedGraphs$Registers" 3 ⟨"java/lang/Object", "<init>", "()V"⟩ : Cond) ∈ TW := TW_t 26 (by decide +kernel) (by decide +kernel)
theorem tw_27 : (Cond.fieldLink "SiftedGraphs$Registers" 9 "SiftedGraphs$Registers" "tables" "[J" : Cond) ∈ TW := TW_t 27 (by decide +kernel) (by decide +kernel)
theorem tw_28 : (Cond.fieldLink "SiftedGraphs$Registers" 15 "SiftedGraphs$Registers" "held" "[Z" : Cond) ∈ TW := TW_t 28 (by decide +kernel) (by decide +kernel)
theorem tw_29 : (Cond.laysFinal "SiftedGraphs$Registers" "SiftedGraphs$Registers" "tables" "[J" : Cond) ∈ TW := TW_t 29 (by decide +kernel) (by decide +kernel)
theorem tw_30 : (Cond.soleField "SiftedGraphs$Registers" "tables" : Cond) ∈ TW := TW_t 30 (by decide +kernel) (by decide +kernel)
theorem tw_31 : (Cond.laysFinal "SiftedGraphs$Registers" "SiftedGraphs$Registers" "held" "[Z" : Cond) ∈ TW := TW_t 31 (by decide +kernel) (by decide +kernel)
theorem tw_32 : (Cond.soleField "SiftedGraphs$Registers" "held" : Cond) ∈ TW := TW_t 32 (by decide +kernel) (by decide +kernel)
theorem tw_33 : (Cond.superclass "SiftedGraphs$Registers" "java/lang/Object" : Cond) ∈ TW := TW_t 33 (by decide +kernel) (by decide +kernel)
theorem tw_34 : (Cond.arrayClass .long : Cond) ∈ TW := TW_t 34 (by decide +kernel) (by decide +kernel)
theorem tw_35 : (Cond.arrayClass .boolean : Cond) ∈ TW := TW_t 35 (by decide +kernel) (by decide +kernel)
theorem tw_36 : (Cond.classLink "SiftedGraphs" 28 "SiftedGraphs$FormulaReader" : Cond) ∈ TW := TW_t 36 (by decide +kernel) (by decide +kernel)
theorem tw_37 : (Cond.instantiable "SiftedGraphs$FormulaReader" 6 : Cond) ∈ TW := TW_t 37 (by decide +kernel) (by decide +kernel)
theorem tw_38 : (Cond.methodLink "SiftedGraphs" 30 y_FR_init : Cond) ∈ TW := TW_t 38 (by decide +kernel) (by decide +kernel)
theorem tw_39 : (Cond.instanceMethod y_FR_init : Cond) ∈ TW := TW_t 39 (by decide +kernel) (by decide +kernel)
set_option maxRecDepth 100000 in
theorem tw_40 : (Cond.code y_FR_init prog_2_method_1_code 1 none : Cond) ∈ TW := TW_t 40 rfl (by decide +kernel)
theorem tw_41 : (Cond.methodLink "SiftedGraphs$FormulaReader" 3 ⟨"java/lang/Object", "<init>", "()V"⟩ : Cond) ∈ TW := TW_t 41 (by decide +kernel) (by decide +kernel)
theorem tw_42 : (Cond.fieldLink "SiftedGraphs$FormulaReader" 11 "SiftedGraphs$FormulaReader" "sums" "[J" : Cond) ∈ TW := TW_t 42 (by decide +kernel) (by decide +kernel)
theorem tw_43 : (Cond.fieldLink "SiftedGraphs$FormulaReader" 15 "SiftedGraphs$FormulaReader" "parities" "[J" : Cond) ∈ TW := TW_t 43 (by decide +kernel) (by decide +kernel)
theorem tw_44 : (Cond.fieldLink "SiftedGraphs$FormulaReader" 18 "SiftedGraphs$FormulaReader" "products" "[J" : Cond) ∈ TW := TW_t 44 (by decide +kernel) (by decide +kernel)
theorem tw_45 : (Cond.fieldLink "SiftedGraphs$FormulaReader" 21 "SiftedGraphs$FormulaReader" "flips" "[J" : Cond) ∈ TW := TW_t 45 (by decide +kernel) (by decide +kernel)
theorem tw_46 : (Cond.fieldLink "SiftedGraphs$FormulaReader" 24 "SiftedGraphs$FormulaReader" "open" "I" : Cond) ∈ TW := TW_t 46 (by decide +kernel) (by decide +kernel)
theorem tw_47 : (Cond.fieldLink "SiftedGraphs$FormulaReader" 31 "SiftedGraphs$FormulaReader" "operandDue" "Z" : Cond) ∈ TW := TW_t 47 (by decide +kernel) (by decide +kernel)
theorem tw_48 : (Cond.laysFinal "SiftedGraphs$FormulaReader" "SiftedGraphs$FormulaReader" "sums" "[J" : Cond) ∈ TW := TW_t 48 (by decide +kernel) (by decide +kernel)
theorem tw_49 : (Cond.soleField "SiftedGraphs$FormulaReader" "sums" : Cond) ∈ TW := TW_t 49 (by decide +kernel) (by decide +kernel)
theorem tw_50 : (Cond.laysFinal "SiftedGraphs$FormulaReader" "SiftedGraphs$FormulaReader" "parities" "[J" : Cond) ∈ TW := TW_t 50 (by decide +kernel) (by decide +kernel)
theorem tw_51 : (Cond.soleField "SiftedGraphs$FormulaReader" "parities" : Cond) ∈ TW := TW_t 51 (by decide +kernel) (by decide +kernel)
theorem tw_52 : (Cond.laysFinal "SiftedGraphs$FormulaReader" "SiftedGraphs$FormulaReader" "products" "[J" : Cond) ∈ TW := TW_t 52 (by decide +kernel) (by decide +kernel)
theorem tw_53 : (Cond.soleField "SiftedGraphs$FormulaReader" "products" : Cond) ∈ TW := TW_t 53 (by decide +kernel) (by decide +kernel)
theorem tw_54 : (Cond.laysFinal "SiftedGraphs$FormulaReader" "SiftedGraphs$FormulaReader" "flips" "[J" : Cond) ∈ TW := TW_t 54 (by decide +kernel) (by decide +kernel)
theorem tw_55 : (Cond.soleField "SiftedGraphs$FormulaReader" "flips" : Cond) ∈ TW := TW_t 55 (by decide +kernel) (by decide +kernel)
theorem tw_56 : (Cond.lays "SiftedGraphs$FormulaReader" "SiftedGraphs$FormulaReader" "open" "I" : Cond) ∈ TW := TW_t 56 (by decide +kernel) (by decide +kernel)
theorem tw_57 : (Cond.soleField "SiftedGraphs$FormulaReader" "open" : Cond) ∈ TW := TW_t 57 (by decide +kernel) (by decide +kernel)
theorem tw_58 : (Cond.lays "SiftedGraphs$FormulaReader" "SiftedGraphs$FormulaReader" "operandDue" "Z" : Cond) ∈ TW := TW_t 58 (by decide +kernel) (by decide +kernel)
theorem tw_59 : (Cond.soleField "SiftedGraphs$FormulaReader" "operandDue" : Cond) ∈ TW := TW_t 59 (by decide +kernel) (by decide +kernel)
theorem tw_60 : (Cond.superclass "SiftedGraphs$FormulaReader" "java/lang/Object" : Cond) ∈ TW := TW_t 60 (by decide +kernel) (by decide +kernel)
theorem tw_61 : (Cond.arrayClass .int : Cond) ∈ TW := TW_t 61 (by decide +kernel) (by decide +kernel)
theorem tw_62 : (Cond.arrayClass .char : Cond) ∈ TW := TW_t 62 (by decide +kernel) (by decide +kernel)
theorem tw_63 : (Cond.classLink "SiftedGraphs" 35 "SiftedGraphs$NodeCounter" : Cond) ∈ TW := TW_t 63 (by decide +kernel) (by decide +kernel)
theorem tw_64 : (Cond.instantiable "SiftedGraphs$NodeCounter" 5 : Cond) ∈ TW := TW_t 64 (by decide +kernel) (by decide +kernel)
theorem tw_65 : (Cond.methodLink "SiftedGraphs" 37 y_NC_init : Cond) ∈ TW := TW_t 65 (by decide +kernel) (by decide +kernel)
theorem tw_66 : (Cond.instanceMethod y_NC_init : Cond) ∈ TW := TW_t 66 (by decide +kernel) (by decide +kernel)
set_option maxRecDepth 100000 in
theorem tw_67 : (Cond.code y_NC_init prog_3_method_1_code 1 none : Cond) ∈ TW := TW_t 67 rfl (by decide +kernel)
theorem tw_68 : (Cond.methodLink "SiftedGraphs$NodeCounter" 3 ⟨"java/lang/Object", "<init>", "()V"⟩ : Cond) ∈ TW := TW_t 68 (by decide +kernel) (by decide +kernel)
theorem tw_69 : (Cond.fieldLink "SiftedGraphs$NodeCounter" 11 "SiftedGraphs$NodeCounter" "above" "[J" : Cond) ∈ TW := TW_t 69 (by decide +kernel) (by decide +kernel)
theorem tw_70 : (Cond.fieldLink "SiftedGraphs$NodeCounter" 33 "SiftedGraphs$NodeCounter" "aboveCount" "I" : Cond) ∈ TW := TW_t 70 (by decide +kernel) (by decide +kernel)
theorem tw_71 : (Cond.fieldLink "SiftedGraphs$NodeCounter" 15 "SiftedGraphs$NodeCounter" "below" "[J" : Cond) ∈ TW := TW_t 71 (by decide +kernel) (by decide +kernel)
theorem tw_72 : (Cond.fieldLink "SiftedGraphs$NodeCounter" 22 "SiftedGraphs$NodeCounter" "belowCount" "I" : Cond) ∈ TW := TW_t 72 (by decide +kernel) (by decide +kernel)
theorem tw_73 : (Cond.fieldLink "SiftedGraphs$NodeCounter" 18 "SiftedGraphs$NodeCounter" "widths" "[I" : Cond) ∈ TW := TW_t 73 (by decide +kernel) (by decide +kernel)
theorem tw_74 : (Cond.lays "SiftedGraphs$NodeCounter" "SiftedGraphs$NodeCounter" "above" "[J" : Cond) ∈ TW := TW_t 74 (by decide +kernel) (by decide +kernel)
theorem tw_75 : (Cond.soleField "SiftedGraphs$NodeCounter" "above" : Cond) ∈ TW := TW_t 75 (by decide +kernel) (by decide +kernel)
theorem tw_76 : (Cond.lays "SiftedGraphs$NodeCounter" "SiftedGraphs$NodeCounter" "aboveCount" "I" : Cond) ∈ TW := TW_t 76 (by decide +kernel) (by decide +kernel)
theorem tw_77 : (Cond.soleField "SiftedGraphs$NodeCounter" "aboveCount" : Cond) ∈ TW := TW_t 77 (by decide +kernel) (by decide +kernel)
theorem tw_78 : (Cond.lays "SiftedGraphs$NodeCounter" "SiftedGraphs$NodeCounter" "below" "[J" : Cond) ∈ TW := TW_t 78 (by decide +kernel) (by decide +kernel)
theorem tw_79 : (Cond.soleField "SiftedGraphs$NodeCounter" "below" : Cond) ∈ TW := TW_t 79 (by decide +kernel) (by decide +kernel)
theorem tw_80 : (Cond.lays "SiftedGraphs$NodeCounter" "SiftedGraphs$NodeCounter" "belowCount" "I" : Cond) ∈ TW := TW_t 80 (by decide +kernel) (by decide +kernel)
theorem tw_81 : (Cond.soleField "SiftedGraphs$NodeCounter" "belowCount" : Cond) ∈ TW := TW_t 81 (by decide +kernel) (by decide +kernel)
theorem tw_82 : (Cond.laysFinal "SiftedGraphs$NodeCounter" "SiftedGraphs$NodeCounter" "widths" "[I" : Cond) ∈ TW := TW_t 82 (by decide +kernel) (by decide +kernel)
theorem tw_83 : (Cond.soleField "SiftedGraphs$NodeCounter" "widths" : Cond) ∈ TW := TW_t 83 (by decide +kernel) (by decide +kernel)
theorem tw_84 : (Cond.superclass "SiftedGraphs$NodeCounter" "java/lang/Object" : Cond) ∈ TW := TW_t 84 (by decide +kernel) (by decide +kernel)
theorem tw_85 : (Cond.fieldLink "SiftedGraphs" 12 "SiftedGraphs" "registers" "LSiftedGraphs$Registers;" : Cond) ∈ TW := TW_t 85 (by decide +kernel) (by decide +kernel)
theorem tw_86 : (Cond.fieldLink "SiftedGraphs" 16 "SiftedGraphs" "order" "[I" : Cond) ∈ TW := TW_t 86 (by decide +kernel) (by decide +kernel)
theorem tw_87 : (Cond.fieldLink "SiftedGraphs" 20 "SiftedGraphs" "text" "[C" : Cond) ∈ TW := TW_t 87 (by decide +kernel) (by decide +kernel)
theorem tw_88 : (Cond.fieldLink "SiftedGraphs" 24 "SiftedGraphs" "typed" "I" : Cond) ∈ TW := TW_t 88 (by decide +kernel) (by decide +kernel)
theorem tw_89 : (Cond.fieldLink "SiftedGraphs" 31 "SiftedGraphs" "reader" "LSiftedGraphs$FormulaReader;" : Cond) ∈ TW := TW_t 89 (by decide +kernel) (by decide +kernel)
theorem tw_90 : (Cond.fieldLink "SiftedGraphs" 38 "SiftedGraphs" "nodes" "LSiftedGraphs$NodeCounter;" : Cond) ∈ TW := TW_t 90 (by decide +kernel) (by decide +kernel)
theorem tw_91 : (Cond.laysFinal "SiftedGraphs" "SiftedGraphs" "registers" "LSiftedGraphs$Registers;" : Cond) ∈ TW := TW_t 91 (by decide +kernel) (by decide +kernel)
theorem tw_92 : (Cond.soleField "SiftedGraphs" "registers" : Cond) ∈ TW := TW_t 92 (by decide +kernel) (by decide +kernel)
theorem tw_93 : (Cond.laysFinal "SiftedGraphs" "SiftedGraphs" "order" "[I" : Cond) ∈ TW := TW_t 93 (by decide +kernel) (by decide +kernel)
theorem tw_94 : (Cond.soleField "SiftedGraphs" "order" : Cond) ∈ TW := TW_t 94 (by decide +kernel) (by decide +kernel)
theorem tw_95 : (Cond.laysFinal "SiftedGraphs" "SiftedGraphs" "text" "[C" : Cond) ∈ TW := TW_t 95 (by decide +kernel) (by decide +kernel)
theorem tw_96 : (Cond.soleField "SiftedGraphs" "text" : Cond) ∈ TW := TW_t 96 (by decide +kernel) (by decide +kernel)
theorem tw_97 : (Cond.lays "SiftedGraphs" "SiftedGraphs" "typed" "I" : Cond) ∈ TW := TW_t 97 (by decide +kernel) (by decide +kernel)
theorem tw_98 : (Cond.soleField "SiftedGraphs" "typed" : Cond) ∈ TW := TW_t 98 (by decide +kernel) (by decide +kernel)
theorem tw_99 : (Cond.laysFinal "SiftedGraphs" "SiftedGraphs" "reader" "LSiftedGraphs$FormulaReader;" : Cond) ∈ TW := TW_t 99 (by decide +kernel) (by decide +kernel)
theorem tw_100 : (Cond.soleField "SiftedGraphs" "reader" : Cond) ∈ TW := TW_t 100 (by decide +kernel) (by decide +kernel)
theorem tw_101 : (Cond.laysFinal "SiftedGraphs" "SiftedGraphs" "nodes" "LSiftedGraphs$NodeCounter;" : Cond) ∈ TW := TW_t 101 (by decide +kernel) (by decide +kernel)
theorem tw_102 : (Cond.soleField "SiftedGraphs" "nodes" : Cond) ∈ TW := TW_t 102 (by decide +kernel) (by decide +kernel)
theorem tw_103 : (Cond.superclass "SiftedGraphs" "java/lang/Object" : Cond) ∈ TW := TW_t 103 (by decide +kernel) (by decide +kernel)
theorem tw_104 : (Cond.methodLink "SiftedGraphsLaw" 140 y_SG_shared : Cond) ∈ TW := TW_t 104 (by decide +kernel) (by decide +kernel)
theorem tw_105 : (Cond.instanceMethod y_SG_shared : Cond) ∈ TW := TW_t 105 (by decide +kernel) (by decide +kernel)
theorem tw_106 : (Cond.selects "SiftedGraphs" y_SG_shared y_SG_shared : Cond) ∈ TW := TW_t 106 (by decide +kernel) (by decide +kernel)
set_option maxRecDepth 100000 in
theorem tw_107 : (Cond.code y_SG_shared prog_1_method_17_code 1 (some .int) : Cond) ∈ TW := TW_t 107 rfl (by decide +kernel)
theorem tw_108 : (Cond.methodLink "SiftedGraphs" 121 y_SG_nodesOfAll : Cond) ∈ TW := TW_t 108 (by decide +kernel) (by decide +kernel)
theorem tw_110 : (Cond.instanceMethod y_SG_nodesOfAll : Cond) ∈ TW := TW_t 110 (by decide +kernel) (by decide +kernel)
set_option maxRecDepth 100000 in
theorem tw_111 : (Cond.code y_SG_nodesOfAll prog_1_method_24_code 2 (some .int) : Cond) ∈ TW := TW_t 111 rfl (by decide +kernel)
theorem tw_112 : (Cond.methodLink "SiftedGraphs" 110 y_NC_begin : Cond) ∈ TW := TW_t 112 (by decide +kernel) (by decide +kernel)
theorem tw_113 : (Cond.instanceMethod y_NC_begin : Cond) ∈ TW := TW_t 113 (by decide +kernel) (by decide +kernel)
theorem tw_114 : (Cond.selects "SiftedGraphs$NodeCounter" y_NC_begin y_NC_begin : Cond) ∈ TW := TW_t 114 (by decide +kernel) (by decide +kernel)
set_option maxRecDepth 100000 in
theorem tw_115 : (Cond.code y_NC_begin prog_3_method_2_code 1 none : Cond) ∈ TW := TW_t 115 rfl (by decide +kernel)
theorem tw_116 : (Cond.methodLink "SiftedGraphs" 89 y_RG_isHeld : Cond) ∈ TW := TW_t 116 (by decide +kernel) (by decide +kernel)
theorem tw_117 : (Cond.instanceMethod y_RG_isHeld : Cond) ∈ TW := TW_t 117 (by decide +kernel) (by decide +kernel)
theorem tw_118 : (Cond.selects "SiftedGraphs$Registers" y_RG_isHeld y_RG_isHeld : Cond) ∈ TW := TW_t 118 (by decide +kernel) (by decide +kernel)
set_option maxRecDepth 100000 in
theorem tw_119 : (Cond.code y_RG_isHeld prog_4_method_2_code 2 (some .boolean) : Cond) ∈ TW := TW_t 119 rfl (by decide +kernel)
theorem tw_120 : (Cond.methodLink "SiftedGraphs" 141 y_RG_table : Cond) ∈ TW := TW_t 120 (by decide +kernel) (by decide +kernel)
theorem tw_121 : (Cond.instanceMethod y_RG_table : Cond) ∈ TW := TW_t 121 (by decide +kernel) (by decide +kernel)
theorem tw_122 : (Cond.selects "SiftedGraphs$Registers" y_RG_table y_RG_table : Cond) ∈ TW := TW_t 122 (by decide +kernel) (by decide +kernel)
set_option maxRecDepth 100000 in
theorem tw_123 : (Cond.code y_RG_table prog_4_method_3_code 2 (some .long) : Cond) ∈ TW := TW_t 123 rfl (by decide +kernel)
theorem tw_124 : (Cond.methodLink "SiftedGraphs" 113 y_NC_add : Cond) ∈ TW := TW_t 124 (by decide +kernel) (by decide +kernel)
theorem tw_125 : (Cond.instanceMethod y_NC_add : Cond) ∈ TW := TW_t 125 (by decide +kernel) (by decide +kernel)
theorem tw_126 : (Cond.selects "SiftedGraphs$NodeCounter" y_NC_add y_NC_add : Cond) ∈ TW := TW_t 126 (by decide +kernel) (by decide +kernel)
set_option maxRecDepth 100000 in
theorem tw_127 : (Cond.code y_NC_add prog_3_method_3_code 4 none : Cond) ∈ TW := TW_t 127 rfl (by decide +kernel)
theorem tw_128 : (Cond.methodLink "SiftedGraphs" 117 y_NC_total : Cond) ∈ TW := TW_t 128 (by decide +kernel) (by decide +kernel)
theorem tw_129 : (Cond.instanceMethod y_NC_total : Cond) ∈ TW := TW_t 129 (by decide +kernel) (by decide +kernel)
theorem tw_130 : (Cond.selects "SiftedGraphs$NodeCounter" y_NC_total y_NC_total : Cond) ∈ TW := TW_t 130 (by decide +kernel) (by decide +kernel)
set_option maxRecDepth 100000 in
theorem tw_131 : (Cond.code y_NC_total prog_3_method_4_code 4 (some .int) : Cond) ∈ TW := TW_t 131 rfl (by decide +kernel)
theorem tw_132 : (Cond.methodLink "SiftedGraphs$NodeCounter" 26 y_NC_goDown : Cond) ∈ TW := TW_t 132 (by decide +kernel) (by decide +kernel)
theorem tw_134 : (Cond.instanceMethod y_NC_goDown : Cond) ∈ TW := TW_t 134 (by decide +kernel) (by decide +kernel)
set_option maxRecDepth 100000 in
theorem tw_135 : (Cond.code y_NC_goDown prog_3_method_6_code 2 none : Cond) ∈ TW := TW_t 135 rfl (by decide +kernel)
theorem tw_136 : (Cond.methodLink "SiftedGraphs$NodeCounter" 29 y_NC_branch : Cond) ∈ TW := TW_t 136 (by decide +kernel) (by decide +kernel)
theorem tw_138 : (Cond.instanceMethod y_NC_branch : Cond) ∈ TW := TW_t 138 (by decide +kernel) (by decide +kernel)
set_option maxRecDepth 100000 in
theorem tw_139 : (Cond.code y_NC_branch prog_3_method_7_code 8 (some .int) : Cond) ∈ TW := TW_t 139 rfl (by decide +kernel)
theorem tw_140 : (Cond.methodLink "SiftedGraphs$NodeCounter" 36 y_TB_withZero : Cond) ∈ TW := TW_t 140 (by decide +kernel) (by decide +kernel)
theorem tw_141 : (Cond.static y_TB_withZero : Cond) ∈ TW := TW_t 141 (by decide +kernel) (by decide +kernel)
set_option maxRecDepth 100000 in
theorem tw_142 : (Cond.code y_TB_withZero prog_5_method_7_code 5 (some .long) : Cond) ∈ TW := TW_t 142 rfl (by decide +kernel)
theorem tw_143 : (Cond.fieldLink "SiftedGraphs$Tables" 9 "SiftedGraphs$Tables" "OF_VARIABLES" "[J" : Cond) ∈ TW := TW_t 143 (by decide +kernel) (by decide +kernel)
theorem tw_145 : (Cond.constantLong "SiftedGraphs$Tables" 15 (-1) : Cond) ∈ TW := TW_t 145 (by decide +kernel) (by decide +kernel)
theorem tw_146 : (Cond.methodLink "SiftedGraphs$Tables" 17 y_TB_weight : Cond) ∈ TW := TW_t 146 (by decide +kernel) (by decide +kernel)
theorem tw_147 : (Cond.static y_TB_weight : Cond) ∈ TW := TW_t 147 (by decide +kernel) (by decide +kernel)
set_option maxRecDepth 100000 in
theorem tw_148 : (Cond.code y_TB_weight prog_5_method_9_code 1 (some .int) : Cond) ∈ TW := TW_t 148 rfl (by decide +kernel)
theorem tw_149 : (Cond.methodLink "SiftedGraphs$NodeCounter" 42 y_TB_withOne : Cond) ∈ TW := TW_t 149 (by decide +kernel) (by decide +kernel)
theorem tw_150 : (Cond.static y_TB_withOne : Cond) ∈ TW := TW_t 150 (by decide +kernel) (by decide +kernel)
set_option maxRecDepth 100000 in
theorem tw_151 : (Cond.code y_TB_withOne prog_5_method_6_code 5 (some .long) : Cond) ∈ TW := TW_t 151 rfl (by decide +kernel)
theorem tw_152 : (Cond.methodLink "SiftedGraphs$NodeCounter" 45 y_NC_add : Cond) ∈ TW := TW_t 152 (by decide +kernel) (by decide +kernel)
theorem tw_153 : (Cond.methodLink "SiftedGraphsLaw" 81 y_LW_set : Cond) ∈ TW := TW_t 153 (by decide +kernel) (by decide +kernel)
theorem tw_154 : (Cond.static y_LW_set : Cond) ∈ TW := TW_t 154 (by decide +kernel) (by decide +kernel)
set_option maxRecDepth 100000 in
theorem tw_155 : (Cond.codeWith y_LW_set method_3_code 4 (some .int) [(0, 6, 9, 13)] : Cond) ∈ TW := TW_t 155 rfl (by decide +kernel)
theorem tw_156 : (Cond.classLink "SiftedGraphsLaw" 13 "java/lang/IllegalArgumentException" : Cond) ∈ TW := TW_t 156 (by decide +kernel) (by decide +kernel)
theorem tw_157 : (Cond.methodLink "SiftedGraphsLaw" 7 y_SG_set : Cond) ∈ TW := TW_t 157 (by decide +kernel) (by decide +kernel)
theorem tw_158 : (Cond.instanceMethod y_SG_set : Cond) ∈ TW := TW_t 158 (by decide +kernel) (by decide +kernel)
theorem tw_159 : (Cond.selects "SiftedGraphs" y_SG_set y_SG_set : Cond) ∈ TW := TW_t 159 (by decide +kernel) (by decide +kernel)
set_option maxRecDepth 100000 in
theorem tw_160 : (Cond.code y_SG_set prog_1_method_2_code 5 none : Cond) ∈ TW := TW_t 160 rfl (by decide +kernel)
theorem tw_161 : (Cond.methodLink "SiftedGraphs" 42 y_SG_checkBelow : Cond) ∈ TW := TW_t 161 (by decide +kernel) (by decide +kernel)
theorem tw_162 : (Cond.static y_SG_checkBelow : Cond) ∈ TW := TW_t 162 (by decide +kernel) (by decide +kernel)
set_option maxRecDepth 100000 in
theorem tw_163 : (Cond.code y_SG_checkBelow prog_1_method_22_code 2 none : Cond) ∈ TW := TW_t 163 rfl (by decide +kernel)
theorem tw_164 : (Cond.classLink "SiftedGraphs" 76 "java/lang/IllegalArgumentException" : Cond) ∈ TW := TW_t 164 (by decide +kernel) (by decide +kernel)
theorem tw_165 : (Cond.instantiable "java/lang/IllegalArgumentException" 6 : Cond) ∈ TW := TW_t 165 (by decide +kernel) (by decide +kernel)
theorem tw_173 : (Cond.selects "java/lang/IllegalArgumentException" ⟨"java/lang/Throwable", "fillInStackTrace", "(I)Ljava/lang/Throwable;"⟩ ⟨"java/lang/Throwable", "fillInStackTrace", "(I)Ljava/lang/Throwable;"⟩ : Cond) ∈ TW := TW_t 173 (by decide +kernel) (by decide +kernel)
theorem tw_174 : (Cond.selects "java/lang/IllegalArgumentException" ⟨"java/lang/Throwable", "fillInStackTrace", "()Ljava/lang/Throwable;"⟩ ⟨"java/lang/Throwable", "fillInStackTrace", "()Ljava/lang/Throwable;"⟩ : Cond) ∈ TW := TW_t 174 (by decide +kernel) (by decide +kernel)
theorem tw_175 : (Cond.lays "java/lang/IllegalArgumentException" "java/lang/Throwable" "cause" "Ljava/lang/Throwable;" : Cond) ∈ TW := TW_t 175 (by decide +kernel) (by decide +kernel)
theorem tw_176 : (Cond.lays "java/lang/Throwable" "java/lang/Throwable" "cause" "Ljava/lang/Throwable;" : Cond) ∈ TW := TW_t 176 (by decide +kernel) (by decide +kernel)
theorem tw_177 : (Cond.lays "java/lang/IllegalArgumentException" "java/lang/Throwable" "stackTrace" "[Ljava/lang/StackTraceElement;" : Cond) ∈ TW := TW_t 177 (by decide +kernel) (by decide +kernel)
theorem tw_178 : (Cond.lays "java/lang/Throwable" "java/lang/Throwable" "stackTrace" "[Ljava/lang/StackTraceElement;" : Cond) ∈ TW := TW_t 178 (by decide +kernel) (by decide +kernel)
theorem tw_179 : (Cond.lays "java/lang/IllegalArgumentException" "java/lang/Throwable" "suppressedExceptions" "Ljava/util/List;" : Cond) ∈ TW := TW_t 179 (by decide +kernel) (by decide +kernel)
theorem tw_180 : (Cond.lays "java/lang/Throwable" "java/lang/Throwable" "suppressedExceptions" "Ljava/util/List;" : Cond) ∈ TW := TW_t 180 (by decide +kernel) (by decide +kernel)
theorem tw_181 : (Cond.lays "java/lang/IllegalArgumentException" "java/lang/Throwable" "detailMessage" "Ljava/lang/String;" : Cond) ∈ TW := TW_t 181 (by decide +kernel) (by decide +kernel)
theorem tw_182 : (Cond.lays "java/lang/Throwable" "java/lang/Throwable" "detailMessage" "Ljava/lang/String;" : Cond) ∈ TW := TW_t 182 (by decide +kernel) (by decide +kernel)
theorem tw_183 : (Cond.lays "java/lang/IllegalArgumentException" "java/lang/Throwable" "backtrace" "Ljava/lang/Object;" : Cond) ∈ TW := TW_t 183 (by decide +kernel) (by decide +kernel)
theorem tw_184 : (Cond.lays "java/lang/Throwable" "java/lang/Throwable" "backtrace" "Ljava/lang/Object;" : Cond) ∈ TW := TW_t 184 (by decide +kernel) (by decide +kernel)
theorem tw_185 : (Cond.fieldLink "java/lang/Throwable" 198 "java/lang/Throwable" "backtrace" "Ljava/lang/Object;" : Cond) ∈ TW := TW_t 185 (by decide +kernel) (by decide +kernel)
theorem tw_186 : (Cond.superclass "java/lang/Throwable" "java/lang/Object" : Cond) ∈ TW := TW_t 186 (by decide +kernel) (by decide +kernel)
theorem tw_187 : (Cond.instanceMethod ⟨"java/lang/Throwable", "<init>", "()V"⟩ : Cond) ∈ TW := TW_t 187 (by decide +kernel) (by decide +kernel)
set_option maxRecDepth 100000 in
theorem tw_188 : (Cond.code ⟨"java/lang/Throwable", "<init>", "()V"⟩ prog_12_method_1_code 1 none : Cond) ∈ TW := TW_t 188 rfl (by decide +kernel)
theorem tw_189 : (Cond.methodLink "java/lang/Throwable" 1 ⟨"java/lang/Object", "<init>", "()V"⟩ : Cond) ∈ TW := TW_t 189 (by decide +kernel) (by decide +kernel)
theorem tw_190 : (Cond.fieldLink "java/lang/Throwable" 13 "java/lang/Throwable" "UNASSIGNED_STACK" "[Ljava/lang/StackTraceElement;" : Cond) ∈ TW := TW_t 190 (by decide +kernel) (by decide +kernel)
theorem tw_192 : (Cond.fieldLink "java/lang/Throwable" 20 "java/lang/Throwable" "SUPPRESSED_SENTINEL" "Ljava/util/List;" : Cond) ∈ TW := TW_t 192 (by decide +kernel) (by decide +kernel)
theorem tw_194 : (Cond.methodLink "java/lang/Throwable" 27 ⟨"java/lang/Throwable", "fillInStackTrace", "()Ljava/lang/Throwable;"⟩ : Cond) ∈ TW := TW_t 194 (by decide +kernel) (by decide +kernel)
theorem tw_195 : (Cond.instanceMethod ⟨"java/lang/Throwable", "fillInStackTrace", "()Ljava/lang/Throwable;"⟩ : Cond) ∈ TW := TW_t 195 (by decide +kernel) (by decide +kernel)
theorem tw_196 : (Cond.sameMethod "java/lang/Throwable" "java/lang/Throwable" "fillInStackTrace" "()Ljava/lang/Throwable;" : Cond) ∈ TW := TW_t 196 (by decide +kernel) (by decide +kernel)
theorem tw_197 : (Cond.selects "java/util/NoSuchElementException" ⟨"java/lang/Throwable", "fillInStackTrace", "()Ljava/lang/Throwable;"⟩ ⟨"java/lang/Throwable", "fillInStackTrace", "()Ljava/lang/Throwable;"⟩ : Cond) ∈ TW := TW_t 197 (by decide +kernel) (by decide +kernel)
set_option maxRecDepth 100000 in
theorem tw_198 : (Cond.codeSync ⟨"java/lang/Throwable", "fillInStackTrace", "()Ljava/lang/Throwable;"⟩ prog_12_method_18_code 1 (some (.object "java/lang/Throwable")) : Cond) ∈ TW := TW_t 198 rfl (by decide +kernel)
theorem tw_199 : (Cond.methodLink "java/lang/Throwable" 202 ⟨"java/lang/Throwable", "fillInStackTrace", "(I)Ljava/lang/Throwable;"⟩ : Cond) ∈ TW := TW_t 199 (by decide +kernel) (by decide +kernel)
theorem tw_201 : (Cond.instanceMethod ⟨"java/lang/Throwable", "fillInStackTrace", "(I)Ljava/lang/Throwable;"⟩ : Cond) ∈ TW := TW_t 201 (by decide +kernel) (by decide +kernel)
theorem tw_202 : (Cond.instantiable "java/lang/Throwable" 6 : Cond) ∈ TW := TW_t 202 (by decide +kernel) (by decide +kernel)
theorem tw_203 : (Cond.native ⟨"java/lang/Throwable", "fillInStackTrace", "(I)Ljava/lang/Throwable;"⟩ : Cond) ∈ TW := TW_t 203 (by decide +kernel) (by decide +kernel)
theorem tw_204 : (Cond.methodLink "SiftedGraphs" 78 ⟨"java/lang/IllegalArgumentException", "<init>", "()V"⟩ : Cond) ∈ TW := TW_t 204 (by decide +kernel) (by decide +kernel)
theorem tw_205 : (Cond.instanceMethod ⟨"java/lang/IllegalArgumentException", "<init>", "()V"⟩ : Cond) ∈ TW := TW_t 205 (by decide +kernel) (by decide +kernel)
set_option maxRecDepth 100000 in
theorem tw_206 : (Cond.code ⟨"java/lang/IllegalArgumentException", "<init>", "()V"⟩ prog_9_method_1_code 1 none : Cond) ∈ TW := TW_t 206 rfl (by decide +kernel)
theorem tw_207 : (Cond.methodLink "java/lang/IllegalArgumentException" 1 ⟨"java/lang/RuntimeException", "<init>", "()V"⟩ : Cond) ∈ TW := TW_t 207 (by decide +kernel) (by decide +kernel)
theorem tw_208 : (Cond.instanceMethod ⟨"java/lang/RuntimeException", "<init>", "()V"⟩ : Cond) ∈ TW := TW_t 208 (by decide +kernel) (by decide +kernel)
set_option maxRecDepth 100000 in
theorem tw_209 : (Cond.code ⟨"java/lang/RuntimeException", "<init>", "()V"⟩ prog_11_method_1_code 1 none : Cond) ∈ TW := TW_t 209 rfl (by decide +kernel)
theorem tw_210 : (Cond.methodLink "java/lang/RuntimeException" 1 ⟨"java/lang/Exception", "<init>", "()V"⟩ : Cond) ∈ TW := TW_t 210 (by decide +kernel) (by decide +kernel)
theorem tw_211 : (Cond.instanceMethod ⟨"java/lang/Exception", "<init>", "()V"⟩ : Cond) ∈ TW := TW_t 211 (by decide +kernel) (by decide +kernel)
set_option maxRecDepth 100000 in
theorem tw_212 : (Cond.code ⟨"java/lang/Exception", "<init>", "()V"⟩ prog_8_method_1_code 1 none : Cond) ∈ TW := TW_t 212 rfl (by decide +kernel)
theorem tw_213 : (Cond.methodLink "java/lang/Exception" 1 ⟨"java/lang/Throwable", "<init>", "()V"⟩ : Cond) ∈ TW := TW_t 213 (by decide +kernel) (by decide +kernel)
theorem tw_215 : (Cond.fieldLink "java/lang/Throwable" 7 "java/lang/Throwable" "cause" "Ljava/lang/Throwable;" : Cond) ∈ TW := TW_t 215 (by decide +kernel) (by decide +kernel)
theorem tw_216 : (Cond.fieldLink "java/lang/Throwable" 17 "java/lang/Throwable" "stackTrace" "[Ljava/lang/StackTraceElement;" : Cond) ∈ TW := TW_t 216 (by decide +kernel) (by decide +kernel)
theorem tw_217 : (Cond.fieldLink "java/lang/Throwable" 24 "java/lang/Throwable" "suppressedExceptions" "Ljava/util/List;" : Cond) ∈ TW := TW_t 217 (by decide +kernel) (by decide +kernel)
theorem tw_218 : (Cond.soleField "java/lang/Throwable" "backtrace" : Cond) ∈ TW := TW_t 218 (by decide +kernel) (by decide +kernel)
theorem tw_219 : (Cond.soleField "java/lang/Throwable" "detailMessage" : Cond) ∈ TW := TW_t 219 (by decide +kernel) (by decide +kernel)
theorem tw_220 : (Cond.soleField "java/lang/Throwable" "cause" : Cond) ∈ TW := TW_t 220 (by decide +kernel) (by decide +kernel)
theorem tw_221 : (Cond.soleField "java/lang/Throwable" "stackTrace" : Cond) ∈ TW := TW_t 221 (by decide +kernel) (by decide +kernel)
theorem tw_222 : (Cond.lays "java/lang/IllegalArgumentException" "java/lang/Throwable" "depth" "I" : Cond) ∈ TW := TW_t 222 (by decide +kernel) (by decide +kernel)
theorem tw_223 : (Cond.soleField "java/lang/Throwable" "depth" : Cond) ∈ TW := TW_t 223 (by decide +kernel) (by decide +kernel)
theorem tw_224 : (Cond.soleField "java/lang/Throwable" "suppressedExceptions" : Cond) ∈ TW := TW_t 224 (by decide +kernel) (by decide +kernel)
theorem tw_225 : (Cond.superclass "java/lang/IllegalArgumentException" "java/lang/RuntimeException" : Cond) ∈ TW := TW_t 225 (by decide +kernel) (by decide +kernel)
theorem tw_226 : (Cond.methodLink "SiftedGraphs" 48 y_TB_ofVariable : Cond) ∈ TW := TW_t 226 (by decide +kernel) (by decide +kernel)
theorem tw_227 : (Cond.static y_TB_ofVariable : Cond) ∈ TW := TW_t 227 (by decide +kernel) (by decide +kernel)
set_option maxRecDepth 100000 in
theorem tw_228 : (Cond.code y_TB_ofVariable prog_5_method_2_code 1 (some .long) : Cond) ∈ TW := TW_t 228 rfl (by decide +kernel)
theorem tw_229 : (Cond.constantLong "SiftedGraphs" 52 (-1) : Cond) ∈ TW := TW_t 229 (by decide +kernel) (by decide +kernel)
theorem tw_230 : (Cond.methodLink "SiftedGraphs" 54 y_RG_put : Cond) ∈ TW := TW_t 230 (by decide +kernel) (by decide +kernel)
theorem tw_231 : (Cond.instanceMethod y_RG_put : Cond) ∈ TW := TW_t 231 (by decide +kernel) (by decide +kernel)
theorem tw_232 : (Cond.selects "SiftedGraphs$Registers" y_RG_put y_RG_put : Cond) ∈ TW := TW_t 232 (by decide +kernel) (by decide +kernel)
set_option maxRecDepth 100000 in
theorem tw_233 : (Cond.code y_RG_put prog_4_method_4_code 4 none : Cond) ∈ TW := TW_t 233 rfl (by decide +kernel)
theorem tw_234 : (Cond.methodLink "SiftedGraphsLaw" 91 y_LW_apply : Cond) ∈ TW := TW_t 234 (by decide +kernel) (by decide +kernel)
theorem tw_235 : (Cond.static y_LW_apply : Cond) ∈ TW := TW_t 235 (by decide +kernel) (by decide +kernel)
set_option maxRecDepth 100000 in
theorem tw_236 : (Cond.codeWith y_LW_apply method_4_code 6 (some .int) [(0, 9, 12, 13), (0, 9, 16, 19)] : Cond) ∈ TW := TW_t 236 rfl (by decide +kernel)
theorem tw_237 : (Cond.classLink "SiftedGraphsLaw" 19 "java/util/NoSuchElementException" : Cond) ∈ TW := TW_t 237 (by decide +kernel) (by decide +kernel)
theorem tw_238 : (Cond.methodLink "SiftedGraphsLaw" 15 y_SG_apply : Cond) ∈ TW := TW_t 238 (by decide +kernel) (by decide +kernel)
theorem tw_239 : (Cond.instanceMethod y_SG_apply : Cond) ∈ TW := TW_t 239 (by decide +kernel) (by decide +kernel)
theorem tw_240 : (Cond.selects "SiftedGraphs" y_SG_apply y_SG_apply : Cond) ∈ TW := TW_t 240 (by decide +kernel) (by decide +kernel)
set_option maxRecDepth 100000 in
theorem tw_241 : (Cond.code y_SG_apply prog_1_method_3_code 5 none : Cond) ∈ TW := TW_t 241 rfl (by decide +kernel)
theorem tw_242 : (Cond.methodLink "SiftedGraphs" 58 y_SG_look : Cond) ∈ TW := TW_t 242 (by decide +kernel) (by decide +kernel)
theorem tw_244 : (Cond.instanceMethod y_SG_look : Cond) ∈ TW := TW_t 244 (by decide +kernel) (by decide +kernel)
set_option maxRecDepth 100000 in
theorem tw_245 : (Cond.code y_SG_look prog_1_method_23_code 2 (some .long) : Cond) ∈ TW := TW_t 245 rfl (by decide +kernel)
theorem tw_246 : (Cond.classLink "SiftedGraphs" 138 "java/util/NoSuchElementException" : Cond) ∈ TW := TW_t 246 (by decide +kernel) (by decide +kernel)
theorem tw_247 : (Cond.instantiable "java/util/NoSuchElementException" 6 : Cond) ∈ TW := TW_t 247 (by decide +kernel) (by decide +kernel)
theorem tw_249 : (Cond.selects "java/util/NoSuchElementException" ⟨"java/lang/Throwable", "fillInStackTrace", "(I)Ljava/lang/Throwable;"⟩ ⟨"java/lang/Throwable", "fillInStackTrace", "(I)Ljava/lang/Throwable;"⟩ : Cond) ∈ TW := TW_t 249 (by decide +kernel) (by decide +kernel)
theorem tw_250 : (Cond.lays "java/util/NoSuchElementException" "java/lang/Throwable" "cause" "Ljava/lang/Throwable;" : Cond) ∈ TW := TW_t 250 (by decide +kernel) (by decide +kernel)
theorem tw_251 : (Cond.lays "java/util/NoSuchElementException" "java/lang/Throwable" "stackTrace" "[Ljava/lang/StackTraceElement;" : Cond) ∈ TW := TW_t 251 (by decide +kernel) (by decide +kernel)
theorem tw_252 : (Cond.lays "java/util/NoSuchElementException" "java/lang/Throwable" "suppressedExceptions" "Ljava/util/List;" : Cond) ∈ TW := TW_t 252 (by decide +kernel) (by decide +kernel)
theorem tw_253 : (Cond.lays "java/util/NoSuchElementException" "java/lang/Throwable" "detailMessage" "Ljava/lang/String;" : Cond) ∈ TW := TW_t 253 (by decide +kernel) (by decide +kernel)
theorem tw_254 : (Cond.lays "java/util/NoSuchElementException" "java/lang/Throwable" "backtrace" "Ljava/lang/Object;" : Cond) ∈ TW := TW_t 254 (by decide +kernel) (by decide +kernel)
theorem tw_255 : (Cond.methodLink "SiftedGraphs" 140 ⟨"java/util/NoSuchElementException", "<init>", "()V"⟩ : Cond) ∈ TW := TW_t 255 (by decide +kernel) (by decide +kernel)
theorem tw_256 : (Cond.instanceMethod ⟨"java/util/NoSuchElementException", "<init>", "()V"⟩ : Cond) ∈ TW := TW_t 256 (by decide +kernel) (by decide +kernel)
set_option maxRecDepth 100000 in
theorem tw_257 : (Cond.code ⟨"java/util/NoSuchElementException", "<init>", "()V"⟩ prog_13_method_1_code 1 none : Cond) ∈ TW := TW_t 257 rfl (by decide +kernel)
theorem tw_258 : (Cond.methodLink "java/util/NoSuchElementException" 1 ⟨"java/lang/RuntimeException", "<init>", "()V"⟩ : Cond) ∈ TW := TW_t 258 (by decide +kernel) (by decide +kernel)
theorem tw_259 : (Cond.lays "java/util/NoSuchElementException" "java/lang/Throwable" "depth" "I" : Cond) ∈ TW := TW_t 259 (by decide +kernel) (by decide +kernel)
theorem tw_260 : (Cond.superclass "java/util/NoSuchElementException" "java/lang/RuntimeException" : Cond) ∈ TW := TW_t 260 (by decide +kernel) (by decide +kernel)
theorem tw_261 : (Cond.methodLink "SiftedGraphs" 61 y_TB_connected : Cond) ∈ TW := TW_t 261 (by decide +kernel) (by decide +kernel)
theorem tw_262 : (Cond.static y_TB_connected : Cond) ∈ TW := TW_t 262 (by decide +kernel) (by decide +kernel)
set_option maxRecDepth 100000 in
theorem tw_263 : (Cond.code y_TB_connected prog_5_method_4_code 7 (some .long) : Cond) ∈ TW := TW_t 263 rfl (by decide +kernel)
theorem tw_264 : (Cond.methodLink "SiftedGraphsLaw" 95 y_LW_choose : Cond) ∈ TW := TW_t 264 (by decide +kernel) (by decide +kernel)
theorem tw_265 : (Cond.static y_LW_choose : Cond) ∈ TW := TW_t 265 (by decide +kernel) (by decide +kernel)
set_option maxRecDepth 100000 in
theorem tw_266 : (Cond.codeWith y_LW_choose method_5_code 6 (some .int) [(0, 9, 12, 13), (0, 9, 16, 19)] : Cond) ∈ TW := TW_t 266 rfl (by decide +kernel)
theorem tw_267 : (Cond.methodLink "SiftedGraphsLaw" 21 y_SG_choose : Cond) ∈ TW := TW_t 267 (by decide +kernel) (by decide +kernel)
theorem tw_268 : (Cond.instanceMethod y_SG_choose : Cond) ∈ TW := TW_t 268 (by decide +kernel) (by decide +kernel)
theorem tw_269 : (Cond.selects "SiftedGraphs" y_SG_choose y_SG_choose : Cond) ∈ TW := TW_t 269 (by decide +kernel) (by decide +kernel)
set_option maxRecDepth 100000 in
theorem tw_270 : (Cond.code y_SG_choose prog_1_method_4_code 5 none : Cond) ∈ TW := TW_t 270 rfl (by decide +kernel)
theorem tw_271 : (Cond.methodLink "SiftedGraphs" 65 y_TB_chosen : Cond) ∈ TW := TW_t 271 (by decide +kernel) (by decide +kernel)
theorem tw_272 : (Cond.static y_TB_chosen : Cond) ∈ TW := TW_t 272 (by decide +kernel) (by decide +kernel)
set_option maxRecDepth 100000 in
theorem tw_273 : (Cond.code y_TB_chosen prog_5_method_5_code 6 (some .long) : Cond) ∈ TW := TW_t 273 rfl (by decide +kernel)
theorem tw_274 : (Cond.methodLink "SiftedGraphsLaw" 98 y_LW_restrict : Cond) ∈ TW := TW_t 274 (by decide +kernel) (by decide +kernel)
theorem tw_275 : (Cond.static y_LW_restrict : Cond) ∈ TW := TW_t 275 (by decide +kernel) (by decide +kernel)
set_option maxRecDepth 100000 in
theorem tw_276 : (Cond.codeWith y_LW_restrict method_6_code 6 (some .int) [(0, 9, 12, 13), (0, 9, 16, 19)] : Cond) ∈ TW := TW_t 276 rfl (by decide +kernel)
theorem tw_277 : (Cond.methodLink "SiftedGraphsLaw" 24 y_SG_restrict : Cond) ∈ TW := TW_t 277 (by decide +kernel) (by decide +kernel)
theorem tw_278 : (Cond.instanceMethod y_SG_restrict : Cond) ∈ TW := TW_t 278 (by decide +kernel) (by decide +kernel)
theorem tw_279 : (Cond.selects "SiftedGraphs" y_SG_restrict y_SG_restrict : Cond) ∈ TW := TW_t 279 (by decide +kernel) (by decide +kernel)
set_option maxRecDepth 100000 in
theorem tw_280 : (Cond.code y_SG_restrict prog_1_method_5_code 7 none : Cond) ∈ TW := TW_t 280 rfl (by decide +kernel)
theorem tw_281 : (Cond.methodLink "SiftedGraphs" 69 y_TB_withOne : Cond) ∈ TW := TW_t 281 (by decide +kernel) (by decide +kernel)
theorem tw_282 : (Cond.methodLink "SiftedGraphs" 73 y_TB_withZero : Cond) ∈ TW := TW_t 282 (by decide +kernel) (by decide +kernel)
theorem tw_283 : (Cond.methodLink "SiftedGraphsLaw" 102 y_LW_compose : Cond) ∈ TW := TW_t 283 (by decide +kernel) (by decide +kernel)
theorem tw_284 : (Cond.static y_LW_compose : Cond) ∈ TW := TW_t 284 (by decide +kernel) (by decide +kernel)
set_option maxRecDepth 100000 in
theorem tw_285 : (Cond.codeWith y_LW_compose method_7_code 6 (some .int) [(0, 9, 12, 13), (0, 9, 16, 19)] : Cond) ∈ TW := TW_t 285 rfl (by decide +kernel)
theorem tw_286 : (Cond.methodLink "SiftedGraphsLaw" 28 y_SG_compose : Cond) ∈ TW := TW_t 286 (by decide +kernel) (by decide +kernel)
theorem tw_287 : (Cond.instanceMethod y_SG_compose : Cond) ∈ TW := TW_t 287 (by decide +kernel) (by decide +kernel)
theorem tw_288 : (Cond.selects "SiftedGraphs" y_SG_compose y_SG_compose : Cond) ∈ TW := TW_t 288 (by decide +kernel) (by decide +kernel)
set_option maxRecDepth 100000 in
theorem tw_289 : (Cond.code y_SG_compose prog_1_method_6_code 9 none : Cond) ∈ TW := TW_t 289 rfl (by decide +kernel)
theorem tw_290 : (Cond.methodLink "SiftedGraphsLaw" 105 y_LW_quantify : Cond) ∈ TW := TW_t 290 (by decide +kernel) (by decide +kernel)
theorem tw_291 : (Cond.static y_LW_quantify : Cond) ∈ TW := TW_t 291 (by decide +kernel) (by decide +kernel)
set_option maxRecDepth 100000 in
theorem tw_292 : (Cond.codeWith y_LW_quantify method_8_code 6 (some .int) [(0, 9, 12, 13), (0, 9, 16, 19)] : Cond) ∈ TW := TW_t 292 rfl (by decide +kernel)
theorem tw_293 : (Cond.methodLink "SiftedGraphsLaw" 31 y_SG_quantify : Cond) ∈ TW := TW_t 293 (by decide +kernel) (by decide +kernel)
theorem tw_294 : (Cond.instanceMethod y_SG_quantify : Cond) ∈ TW := TW_t 294 (by decide +kernel) (by decide +kernel)
theorem tw_295 : (Cond.selects "SiftedGraphs" y_SG_quantify y_SG_quantify : Cond) ∈ TW := TW_t 295 (by decide +kernel) (by decide +kernel)
set_option maxRecDepth 100000 in
theorem tw_296 : (Cond.code y_SG_quantify prog_1_method_7_code 12 none : Cond) ∈ TW := TW_t 296 rfl (by decide +kernel)
theorem tw_297 : (Cond.methodLink "SiftedGraphsLaw" 110 y_LW_type : Cond) ∈ TW := TW_t 297 (by decide +kernel) (by decide +kernel)
theorem tw_298 : (Cond.static y_LW_type : Cond) ∈ TW := TW_t 298 (by decide +kernel) (by decide +kernel)
set_option maxRecDepth 100000 in
theorem tw_299 : (Cond.codeWith y_LW_type method_9_code 6 (some .int) [(0, 11, 14, 13)] : Cond) ∈ TW := TW_t 299 rfl (by decide +kernel)
theorem tw_300 : (Cond.methodLink "SiftedGraphsLaw" 34 y_SG_type : Cond) ∈ TW := TW_t 300 (by decide +kernel) (by decide +kernel)
theorem tw_301 : (Cond.instanceMethod y_SG_type : Cond) ∈ TW := TW_t 301 (by decide +kernel) (by decide +kernel)
theorem tw_302 : (Cond.selects "SiftedGraphs" y_SG_type y_SG_type : Cond) ∈ TW := TW_t 302 (by decide +kernel) (by decide +kernel)
set_option maxRecDepth 100000 in
theorem tw_303 : (Cond.code y_SG_type prog_1_method_8_code 5 (some .int) : Cond) ∈ TW := TW_t 303 rfl (by decide +kernel)
theorem tw_304 : (Cond.constantLong "SiftedGraphs" 79 255 : Cond) ∈ TW := TW_t 304 (by decide +kernel) (by decide +kernel)
theorem tw_305 : (Cond.methodLink "SiftedGraphsLaw" 114 y_LW_read : Cond) ∈ TW := TW_t 305 (by decide +kernel) (by decide +kernel)
theorem tw_306 : (Cond.static y_LW_read : Cond) ∈ TW := TW_t 306 (by decide +kernel) (by decide +kernel)
set_option maxRecDepth 100000 in
theorem tw_307 : (Cond.codeWith y_LW_read method_10_code 4 (some .int) [(0, 9, 12, 13)] : Cond) ∈ TW := TW_t 307 rfl (by decide +kernel)
theorem tw_308 : (Cond.methodLink "SiftedGraphsLaw" 38 y_SG_read : Cond) ∈ TW := TW_t 308 (by decide +kernel) (by decide +kernel)
theorem tw_309 : (Cond.instanceMethod y_SG_read : Cond) ∈ TW := TW_t 309 (by decide +kernel) (by decide +kernel)
theorem tw_310 : (Cond.selects "SiftedGraphs" y_SG_read y_SG_read : Cond) ∈ TW := TW_t 310 (by decide +kernel) (by decide +kernel)
set_option maxRecDepth 100000 in
theorem tw_311 : (Cond.code y_SG_read prog_1_method_9_code 3 (some .int) : Cond) ∈ TW := TW_t 311 rfl (by decide +kernel)
theorem tw_312 : (Cond.methodLink "SiftedGraphs" 81 y_FR_failurePlace : Cond) ∈ TW := TW_t 312 (by decide +kernel) (by decide +kernel)
theorem tw_313 : (Cond.instanceMethod y_FR_failurePlace : Cond) ∈ TW := TW_t 313 (by decide +kernel) (by decide +kernel)
theorem tw_314 : (Cond.selects "SiftedGraphs$FormulaReader" y_FR_failurePlace y_FR_failurePlace : Cond) ∈ TW := TW_t 314 (by decide +kernel) (by decide +kernel)
set_option maxRecDepth 100000 in
theorem tw_315 : (Cond.code y_FR_failurePlace prog_2_method_2_code 7 (some .int) : Cond) ∈ TW := TW_t 315 rfl (by decide +kernel)
theorem tw_316 : (Cond.methodLink "SiftedGraphs$FormulaReader" 28 y_FR_beginFormula : Cond) ∈ TW := TW_t 316 (by decide +kernel) (by decide +kernel)
theorem tw_318 : (Cond.instanceMethod y_FR_beginFormula : Cond) ∈ TW := TW_t 318 (by decide +kernel) (by decide +kernel)
set_option maxRecDepth 100000 in
theorem tw_319 : (Cond.code y_FR_beginFormula prog_2_method_4_code 1 none : Cond) ∈ TW := TW_t 319 rfl (by decide +kernel)
theorem tw_320 : (Cond.constantLong "SiftedGraphs$FormulaReader" 45 (-1) : Cond) ∈ TW := TW_t 320 (by decide +kernel) (by decide +kernel)
theorem tw_321 : (Cond.methodLink "SiftedGraphs$FormulaReader" 47 y_FR_beginFactor : Cond) ∈ TW := TW_t 321 (by decide +kernel) (by decide +kernel)
theorem tw_323 : (Cond.instanceMethod y_FR_beginFactor : Cond) ∈ TW := TW_t 323 (by decide +kernel) (by decide +kernel)
set_option maxRecDepth 100000 in
theorem tw_324 : (Cond.code y_FR_beginFactor prog_2_method_5_code 1 none : Cond) ∈ TW := TW_t 324 rfl (by decide +kernel)
theorem tw_325 : (Cond.methodLink "SiftedGraphs$FormulaReader" 35 y_FR_takeInOperand : Cond) ∈ TW := TW_t 325 (by decide +kernel) (by decide +kernel)
theorem tw_327 : (Cond.instanceMethod y_FR_takeInOperand : Cond) ∈ TW := TW_t 327 (by decide +kernel) (by decide +kernel)
set_option maxRecDepth 100000 in
theorem tw_328 : (Cond.code y_FR_takeInOperand prog_2_method_6_code 3 (some .boolean) : Cond) ∈ TW := TW_t 328 rfl (by decide +kernel)
theorem tw_329 : (Cond.methodLink "SiftedGraphs$FormulaReader" 50 y_FR_openParenthesis : Cond) ∈ TW := TW_t 329 (by decide +kernel) (by decide +kernel)
theorem tw_331 : (Cond.instanceMethod y_FR_openParenthesis : Cond) ∈ TW := TW_t 331 (by decide +kernel) (by decide +kernel)
set_option maxRecDepth 100000 in
theorem tw_332 : (Cond.code y_FR_openParenthesis prog_2_method_9_code 1 (some .boolean) : Cond) ∈ TW := TW_t 332 rfl (by decide +kernel)
theorem tw_333 : (Cond.methodLink "SiftedGraphs$FormulaReader" 54 y_FR_endFactor : Cond) ∈ TW := TW_t 333 (by decide +kernel) (by decide +kernel)
theorem tw_335 : (Cond.instanceMethod y_FR_endFactor : Cond) ∈ TW := TW_t 335 (by decide +kernel) (by decide +kernel)
set_option maxRecDepth 100000 in
theorem tw_336 : (Cond.code y_FR_endFactor prog_2_method_8_code 3 none : Cond) ∈ TW := TW_t 336 rfl (by decide +kernel)
theorem tw_337 : (Cond.methodLink "SiftedGraphs$FormulaReader" 58 y_TB_ofVariable : Cond) ∈ TW := TW_t 337 (by decide +kernel) (by decide +kernel)
theorem tw_338 : (Cond.methodLink "SiftedGraphs$FormulaReader" 62 y_RG_isHeld : Cond) ∈ TW := TW_t 338 (by decide +kernel) (by decide +kernel)
theorem tw_339 : (Cond.methodLink "SiftedGraphs$FormulaReader" 68 y_RG_table : Cond) ∈ TW := TW_t 339 (by decide +kernel) (by decide +kernel)
theorem tw_340 : (Cond.methodLink "SiftedGraphs$FormulaReader" 39 y_FR_takeBehindOperand : Cond) ∈ TW := TW_t 340 (by decide +kernel) (by decide +kernel)
theorem tw_342 : (Cond.instanceMethod y_FR_takeBehindOperand : Cond) ∈ TW := TW_t 342 (by decide +kernel) (by decide +kernel)
set_option maxRecDepth 100000 in
theorem tw_343 : (Cond.code y_FR_takeBehindOperand prog_2_method_7_code 2 (some .boolean) : Cond) ∈ TW := TW_t 343 rfl (by decide +kernel)
theorem tw_344 : (Cond.methodLink "SiftedGraphs$FormulaReader" 71 y_FR_meaning : Cond) ∈ TW := TW_t 344 (by decide +kernel) (by decide +kernel)
theorem tw_345 : (Cond.instanceMethod y_FR_meaning : Cond) ∈ TW := TW_t 345 (by decide +kernel) (by decide +kernel)
theorem tw_346 : (Cond.selects "SiftedGraphs$FormulaReader" y_FR_meaning y_FR_meaning : Cond) ∈ TW := TW_t 346 (by decide +kernel) (by decide +kernel)
set_option maxRecDepth 100000 in
theorem tw_347 : (Cond.code y_FR_meaning prog_2_method_3_code 1 (some .long) : Cond) ∈ TW := TW_t 347 rfl (by decide +kernel)
theorem tw_348 : (Cond.methodLink "SiftedGraphs$FormulaReader" 75 y_FR_closeParenthesis : Cond) ∈ TW := TW_t 348 (by decide +kernel) (by decide +kernel)
theorem tw_350 : (Cond.instanceMethod y_FR_closeParenthesis : Cond) ∈ TW := TW_t 350 (by decide +kernel) (by decide +kernel)
set_option maxRecDepth 100000 in
theorem tw_351 : (Cond.code y_FR_closeParenthesis prog_2_method_10_code 3 (some .boolean) : Cond) ∈ TW := TW_t 351 rfl (by decide +kernel)
theorem tw_352 : (Cond.methodLink "SiftedGraphs" 85 y_FR_meaning : Cond) ∈ TW := TW_t 352 (by decide +kernel) (by decide +kernel)
theorem tw_353 : (Cond.methodLink "SiftedGraphsLaw" 118 y_LW_release : Cond) ∈ TW := TW_t 353 (by decide +kernel) (by decide +kernel)
theorem tw_354 : (Cond.static y_LW_release : Cond) ∈ TW := TW_t 354 (by decide +kernel) (by decide +kernel)
set_option maxRecDepth 100000 in
theorem tw_355 : (Cond.codeWith y_LW_release method_11_code 4 (some .int) [(0, 16, 19, 13)] : Cond) ∈ TW := TW_t 355 rfl (by decide +kernel)
theorem tw_356 : (Cond.methodLink "SiftedGraphsLaw" 42 y_SG_release : Cond) ∈ TW := TW_t 356 (by decide +kernel) (by decide +kernel)
theorem tw_357 : (Cond.instanceMethod y_SG_release : Cond) ∈ TW := TW_t 357 (by decide +kernel) (by decide +kernel)
theorem tw_358 : (Cond.selects "SiftedGraphs" y_SG_release y_SG_release : Cond) ∈ TW := TW_t 358 (by decide +kernel) (by decide +kernel)
set_option maxRecDepth 100000 in
theorem tw_359 : (Cond.code y_SG_release prog_1_method_10_code 3 (some .boolean) : Cond) ∈ TW := TW_t 359 rfl (by decide +kernel)
theorem tw_360 : (Cond.methodLink "SiftedGraphs" 93 y_RG_clear : Cond) ∈ TW := TW_t 360 (by decide +kernel) (by decide +kernel)
theorem tw_361 : (Cond.instanceMethod y_RG_clear : Cond) ∈ TW := TW_t 361 (by decide +kernel) (by decide +kernel)
theorem tw_362 : (Cond.selects "SiftedGraphs$Registers" y_RG_clear y_RG_clear : Cond) ∈ TW := TW_t 362 (by decide +kernel) (by decide +kernel)
set_option maxRecDepth 100000 in
theorem tw_363 : (Cond.code y_RG_clear prog_4_method_5_code 2 none : Cond) ∈ TW := TW_t 363 rfl (by decide +kernel)
theorem tw_364 : (Cond.methodLink "SiftedGraphsLaw" 121 y_LW_equal : Cond) ∈ TW := TW_t 364 (by decide +kernel) (by decide +kernel)
theorem tw_365 : (Cond.static y_LW_equal : Cond) ∈ TW := TW_t 365 (by decide +kernel) (by decide +kernel)
set_option maxRecDepth 100000 in
theorem tw_366 : (Cond.codeWith y_LW_equal method_12_code 5 (some .int) [(0, 17, 20, 13), (0, 17, 24, 19)] : Cond) ∈ TW := TW_t 366 rfl (by decide +kernel)
theorem tw_367 : (Cond.methodLink "SiftedGraphsLaw" 46 y_SG_equal : Cond) ∈ TW := TW_t 367 (by decide +kernel) (by decide +kernel)
theorem tw_368 : (Cond.instanceMethod y_SG_equal : Cond) ∈ TW := TW_t 368 (by decide +kernel) (by decide +kernel)
theorem tw_369 : (Cond.selects "SiftedGraphs" y_SG_equal y_SG_equal : Cond) ∈ TW := TW_t 369 (by decide +kernel) (by decide +kernel)
set_option maxRecDepth 100000 in
theorem tw_370 : (Cond.code y_SG_equal prog_1_method_11_code 3 (some .boolean) : Cond) ∈ TW := TW_t 370 rfl (by decide +kernel)
theorem tw_371 : (Cond.methodLink "SiftedGraphsLaw" 125 y_LW_value : Cond) ∈ TW := TW_t 371 (by decide +kernel) (by decide +kernel)
theorem tw_372 : (Cond.static y_LW_value : Cond) ∈ TW := TW_t 372 (by decide +kernel) (by decide +kernel)
set_option maxRecDepth 100000 in
theorem tw_373 : (Cond.codeWith y_LW_value method_13_code 5 (some .int) [(0, 17, 20, 13), (0, 17, 24, 19)] : Cond) ∈ TW := TW_t 373 rfl (by decide +kernel)
theorem tw_374 : (Cond.methodLink "SiftedGraphsLaw" 50 y_SG_value : Cond) ∈ TW := TW_t 374 (by decide +kernel) (by decide +kernel)
theorem tw_375 : (Cond.instanceMethod y_SG_value : Cond) ∈ TW := TW_t 375 (by decide +kernel) (by decide +kernel)
theorem tw_376 : (Cond.selects "SiftedGraphs" y_SG_value y_SG_value : Cond) ∈ TW := TW_t 376 (by decide +kernel) (by decide +kernel)
set_option maxRecDepth 100000 in
theorem tw_377 : (Cond.code y_SG_value prog_1_method_12_code 3 (some .boolean) : Cond) ∈ TW := TW_t 377 rfl (by decide +kernel)
theorem tw_378 : (Cond.methodLink "SiftedGraphs" 97 y_TB_at : Cond) ∈ TW := TW_t 378 (by decide +kernel) (by decide +kernel)
theorem tw_379 : (Cond.static y_TB_at : Cond) ∈ TW := TW_t 379 (by decide +kernel) (by decide +kernel)
set_option maxRecDepth 100000 in
theorem tw_380 : (Cond.code y_TB_at prog_5_method_3_code 3 (some .boolean) : Cond) ∈ TW := TW_t 380 rfl (by decide +kernel)
theorem tw_381 : (Cond.methodLink "SiftedGraphsLaw" 128 y_LW_count : Cond) ∈ TW := TW_t 381 (by decide +kernel) (by decide +kernel)
theorem tw_382 : (Cond.static y_LW_count : Cond) ∈ TW := TW_t 382 (by decide +kernel) (by decide +kernel)
set_option maxRecDepth 100000 in
theorem tw_383 : (Cond.codeWith y_LW_count method_14_code 4 (some .int) [(0, 9, 12, 13), (0, 9, 15, 19)] : Cond) ∈ TW := TW_t 383 rfl (by decide +kernel)
theorem tw_384 : (Cond.methodLink "SiftedGraphsLaw" 53 y_SG_count : Cond) ∈ TW := TW_t 384 (by decide +kernel) (by decide +kernel)
theorem tw_385 : (Cond.instanceMethod y_SG_count : Cond) ∈ TW := TW_t 385 (by decide +kernel) (by decide +kernel)
theorem tw_386 : (Cond.selects "SiftedGraphs" y_SG_count y_SG_count : Cond) ∈ TW := TW_t 386 (by decide +kernel) (by decide +kernel)
set_option maxRecDepth 100000 in
theorem tw_387 : (Cond.code y_SG_count prog_1_method_13_code 2 (some .int) : Cond) ∈ TW := TW_t 387 rfl (by decide +kernel)
theorem tw_388 : (Cond.methodLink "SiftedGraphs" 101 y_JL_bitCount : Cond) ∈ TW := TW_t 388 (by decide +kernel) (by decide +kernel)
theorem tw_389 : (Cond.static y_JL_bitCount : Cond) ∈ TW := TW_t 389 (by decide +kernel) (by decide +kernel)
set_option maxRecDepth 100000 in
theorem tw_390 : (Cond.code y_JL_bitCount prog_10_method_50_code 2 (some .int) : Cond) ∈ TW := TW_t 390 rfl (by decide +kernel)
theorem tw_391 : (Cond.constantLong "java/lang/Long" 314 6148914691236517205 : Cond) ∈ TW := TW_t 391 (by decide +kernel) (by decide +kernel)
theorem tw_392 : (Cond.constantLong "java/lang/Long" 316 3689348814741910323 : Cond) ∈ TW := TW_t 392 (by decide +kernel) (by decide +kernel)
theorem tw_393 : (Cond.constantLong "java/lang/Long" 318 1085102592571150095 : Cond) ∈ TW := TW_t 393 (by decide +kernel) (by decide +kernel)
theorem tw_394 : (Cond.methodLink "SiftedGraphsLaw" 131 y_LW_least : Cond) ∈ TW := TW_t 394 (by decide +kernel) (by decide +kernel)
theorem tw_395 : (Cond.static y_LW_least : Cond) ∈ TW := TW_t 395 (by decide +kernel) (by decide +kernel)
set_option maxRecDepth 100000 in
theorem tw_396 : (Cond.codeWith y_LW_least method_15_code 4 (some .int) [(0, 9, 12, 13), (0, 9, 15, 19)] : Cond) ∈ TW := TW_t 396 rfl (by decide +kernel)
theorem tw_397 : (Cond.methodLink "SiftedGraphsLaw" 56 y_SG_least : Cond) ∈ TW := TW_t 397 (by decide +kernel) (by decide +kernel)
theorem tw_398 : (Cond.instanceMethod y_SG_least : Cond) ∈ TW := TW_t 398 (by decide +kernel) (by decide +kernel)
theorem tw_399 : (Cond.selects "SiftedGraphs" y_SG_least y_SG_least : Cond) ∈ TW := TW_t 399 (by decide +kernel) (by decide +kernel)
set_option maxRecDepth 100000 in
theorem tw_400 : (Cond.code y_SG_least prog_1_method_14_code 5 (some .int) : Cond) ∈ TW := TW_t 400 rfl (by decide +kernel)
theorem tw_401 : (Cond.methodLink "SiftedGraphsLaw" 134 y_LW_support : Cond) ∈ TW := TW_t 401 (by decide +kernel) (by decide +kernel)
theorem tw_402 : (Cond.static y_LW_support : Cond) ∈ TW := TW_t 402 (by decide +kernel) (by decide +kernel)
set_option maxRecDepth 100000 in
theorem tw_403 : (Cond.codeWith y_LW_support method_16_code 4 (some .int) [(0, 9, 12, 13), (0, 9, 15, 19)] : Cond) ∈ TW := TW_t 403 rfl (by decide +kernel)
theorem tw_404 : (Cond.methodLink "SiftedGraphsLaw" 59 y_SG_support : Cond) ∈ TW := TW_t 404 (by decide +kernel) (by decide +kernel)
theorem tw_405 : (Cond.instanceMethod y_SG_support : Cond) ∈ TW := TW_t 405 (by decide +kernel) (by decide +kernel)
theorem tw_406 : (Cond.selects "SiftedGraphs" y_SG_support y_SG_support : Cond) ∈ TW := TW_t 406 (by decide +kernel) (by decide +kernel)
set_option maxRecDepth 100000 in
theorem tw_407 : (Cond.code y_SG_support prog_1_method_15_code 6 (some .int) : Cond) ∈ TW := TW_t 407 rfl (by decide +kernel)
theorem tw_408 : (Cond.methodLink "SiftedGraphs" 107 y_TB_dependsOn : Cond) ∈ TW := TW_t 408 (by decide +kernel) (by decide +kernel)
theorem tw_409 : (Cond.static y_TB_dependsOn : Cond) ∈ TW := TW_t 409 (by decide +kernel) (by decide +kernel)
set_option maxRecDepth 100000 in
theorem tw_410 : (Cond.code y_TB_dependsOn prog_5_method_8_code 3 (some .boolean) : Cond) ∈ TW := TW_t 410 rfl (by decide +kernel)
theorem tw_411 : (Cond.methodLink "SiftedGraphs$Tables" 21 y_TB_withOne : Cond) ∈ TW := TW_t 411 (by decide +kernel) (by decide +kernel)
theorem tw_412 : (Cond.methodLink "SiftedGraphs$Tables" 25 y_TB_withZero : Cond) ∈ TW := TW_t 412 (by decide +kernel) (by decide +kernel)
theorem tw_413 : (Cond.methodLink "SiftedGraphsLaw" 137 y_LW_size : Cond) ∈ TW := TW_t 413 (by decide +kernel) (by decide +kernel)
theorem tw_414 : (Cond.static y_LW_size : Cond) ∈ TW := TW_t 414 (by decide +kernel) (by decide +kernel)
set_option maxRecDepth 100000 in
theorem tw_415 : (Cond.codeWith y_LW_size method_17_code 4 (some .int) [(0, 9, 12, 13), (0, 9, 15, 19)] : Cond) ∈ TW := TW_t 415 rfl (by decide +kernel)
theorem tw_416 : (Cond.methodLink "SiftedGraphsLaw" 62 y_SG_size : Cond) ∈ TW := TW_t 416 (by decide +kernel) (by decide +kernel)
theorem tw_417 : (Cond.instanceMethod y_SG_size : Cond) ∈ TW := TW_t 417 (by decide +kernel) (by decide +kernel)
theorem tw_418 : (Cond.selects "SiftedGraphs" y_SG_size y_SG_size : Cond) ∈ TW := TW_t 418 (by decide +kernel) (by decide +kernel)
set_option maxRecDepth 100000 in
theorem tw_419 : (Cond.code y_SG_size prog_1_method_16_code 2 (some .int) : Cond) ∈ TW := TW_t 419 rfl (by decide +kernel)
theorem tw_420 : (Cond.methodLink "SiftedGraphsLaw" 144 y_LW_width : Cond) ∈ TW := TW_t 420 (by decide +kernel) (by decide +kernel)
theorem tw_421 : (Cond.static y_LW_width : Cond) ∈ TW := TW_t 421 (by decide +kernel) (by decide +kernel)
set_option maxRecDepth 100000 in
theorem tw_422 : (Cond.codeWith y_LW_width method_18_code 4 (some .int) [(0, 9, 12, 13)] : Cond) ∈ TW := TW_t 422 rfl (by decide +kernel)
theorem tw_423 : (Cond.methodLink "SiftedGraphsLaw" 65 y_SG_width : Cond) ∈ TW := TW_t 423 (by decide +kernel) (by decide +kernel)
theorem tw_424 : (Cond.instanceMethod y_SG_width : Cond) ∈ TW := TW_t 424 (by decide +kernel) (by decide +kernel)
theorem tw_425 : (Cond.selects "SiftedGraphs" y_SG_width y_SG_width : Cond) ∈ TW := TW_t 425 (by decide +kernel) (by decide +kernel)
set_option maxRecDepth 100000 in
theorem tw_426 : (Cond.code y_SG_width prog_1_method_18_code 2 (some .int) : Cond) ∈ TW := TW_t 426 rfl (by decide +kernel)
theorem tw_427 : (Cond.methodLink "SiftedGraphs" 125 y_NC_onLevel : Cond) ∈ TW := TW_t 427 (by decide +kernel) (by decide +kernel)
theorem tw_428 : (Cond.instanceMethod y_NC_onLevel : Cond) ∈ TW := TW_t 428 (by decide +kernel) (by decide +kernel)
theorem tw_429 : (Cond.selects "SiftedGraphs$NodeCounter" y_NC_onLevel y_NC_onLevel : Cond) ∈ TW := TW_t 429 (by decide +kernel) (by decide +kernel)
set_option maxRecDepth 100000 in
theorem tw_430 : (Cond.code y_NC_onLevel prog_3_method_5_code 2 (some .int) : Cond) ∈ TW := TW_t 430 rfl (by decide +kernel)
theorem tw_431 : (Cond.methodLink "SiftedGraphsLaw" 147 y_LW_variable : Cond) ∈ TW := TW_t 431 (by decide +kernel) (by decide +kernel)
theorem tw_432 : (Cond.static y_LW_variable : Cond) ∈ TW := TW_t 432 (by decide +kernel) (by decide +kernel)
set_option maxRecDepth 100000 in
theorem tw_433 : (Cond.codeWith y_LW_variable method_19_code 4 (some .int) [(0, 9, 12, 13)] : Cond) ∈ TW := TW_t 433 rfl (by decide +kernel)
theorem tw_434 : (Cond.methodLink "SiftedGraphsLaw" 68 y_SG_variable : Cond) ∈ TW := TW_t 434 (by decide +kernel) (by decide +kernel)
theorem tw_435 : (Cond.instanceMethod y_SG_variable : Cond) ∈ TW := TW_t 435 (by decide +kernel) (by decide +kernel)
theorem tw_436 : (Cond.selects "SiftedGraphs" y_SG_variable y_SG_variable : Cond) ∈ TW := TW_t 436 (by decide +kernel) (by decide +kernel)
set_option maxRecDepth 100000 in
theorem tw_437 : (Cond.code y_SG_variable prog_1_method_19_code 2 (some .int) : Cond) ∈ TW := TW_t 437 rfl (by decide +kernel)
theorem tw_438 : (Cond.methodLink "SiftedGraphsLaw" 150 y_LW_swap : Cond) ∈ TW := TW_t 438 (by decide +kernel) (by decide +kernel)
theorem tw_439 : (Cond.static y_LW_swap : Cond) ∈ TW := TW_t 439 (by decide +kernel) (by decide +kernel)
set_option maxRecDepth 100000 in
theorem tw_440 : (Cond.codeWith y_LW_swap method_20_code 4 (some .int) [(0, 9, 12, 13)] : Cond) ∈ TW := TW_t 440 rfl (by decide +kernel)
theorem tw_441 : (Cond.methodLink "SiftedGraphsLaw" 71 y_SG_swap : Cond) ∈ TW := TW_t 441 (by decide +kernel) (by decide +kernel)
theorem tw_442 : (Cond.instanceMethod y_SG_swap : Cond) ∈ TW := TW_t 442 (by decide +kernel) (by decide +kernel)
theorem tw_443 : (Cond.selects "SiftedGraphs" y_SG_swap y_SG_swap : Cond) ∈ TW := TW_t 443 (by decide +kernel) (by decide +kernel)
set_option maxRecDepth 100000 in
theorem tw_444 : (Cond.code y_SG_swap prog_1_method_20_code 2 (some .int) : Cond) ∈ TW := TW_t 444 rfl (by decide +kernel)
theorem tw_445 : (Cond.methodLink "SiftedGraphs" 129 y_SG_exchange : Cond) ∈ TW := TW_t 445 (by decide +kernel) (by decide +kernel)
theorem tw_447 : (Cond.instanceMethod y_SG_exchange : Cond) ∈ TW := TW_t 447 (by decide +kernel) (by decide +kernel)
set_option maxRecDepth 100000 in
theorem tw_448 : (Cond.code y_SG_exchange prog_1_method_27_code 3 none : Cond) ∈ TW := TW_t 448 rfl (by decide +kernel)
theorem tw_449 : (Cond.methodLink "SiftedGraphsLaw" 153 y_LW_sift : Cond) ∈ TW := TW_t 449 (by decide +kernel) (by decide +kernel)
theorem tw_450 : (Cond.static y_LW_sift : Cond) ∈ TW := TW_t 450 (by decide +kernel) (by decide +kernel)
set_option maxRecDepth 100000 in
theorem tw_451 : (Cond.codeWith y_LW_sift method_21_code 4 (some .int) [(0, 9, 12, 13)] : Cond) ∈ TW := TW_t 451 rfl (by decide +kernel)
theorem tw_452 : (Cond.methodLink "SiftedGraphsLaw" 74 y_SG_sift : Cond) ∈ TW := TW_t 452 (by decide +kernel) (by decide +kernel)
theorem tw_453 : (Cond.instanceMethod y_SG_sift : Cond) ∈ TW := TW_t 453 (by decide +kernel) (by decide +kernel)
theorem tw_454 : (Cond.selects "SiftedGraphs" y_SG_sift y_SG_sift : Cond) ∈ TW := TW_t 454 (by decide +kernel) (by decide +kernel)
set_option maxRecDepth 100000 in
theorem tw_455 : (Cond.code y_SG_sift prog_1_method_21_code 6 (some .int) : Cond) ∈ TW := TW_t 455 rfl (by decide +kernel)
theorem tw_456 : (Cond.methodLink "SiftedGraphs" 132 y_SG_levelOf : Cond) ∈ TW := TW_t 456 (by decide +kernel) (by decide +kernel)
theorem tw_458 : (Cond.instanceMethod y_SG_levelOf : Cond) ∈ TW := TW_t 458 (by decide +kernel) (by decide +kernel)
set_option maxRecDepth 100000 in
theorem tw_459 : (Cond.code y_SG_levelOf prog_1_method_25_code 4 (some .int) : Cond) ∈ TW := TW_t 459 rfl (by decide +kernel)
theorem tw_460 : (Cond.methodLink "SiftedGraphs" 135 y_SG_raise : Cond) ∈ TW := TW_t 460 (by decide +kernel) (by decide +kernel)
theorem tw_462 : (Cond.instanceMethod y_SG_raise : Cond) ∈ TW := TW_t 462 (by decide +kernel) (by decide +kernel)
set_option maxRecDepth 100000 in
theorem tw_463 : (Cond.code y_SG_raise prog_1_method_26_code 4 none : Cond) ∈ TW := TW_t 463 rfl (by decide +kernel)
theorem tw_464 : (Cond.classLink "SiftedGraphsLaw" 78 "SiftedGraphsModel" : Cond) ∈ TW := TW_t 464 (by decide +kernel) (by decide +kernel)
theorem tw_465 : (Cond.instantiable "SiftedGraphsModel" 13 : Cond) ∈ TW := TW_t 465 (by decide +kernel) (by decide +kernel)
theorem tw_466 : (Cond.methodLink "SiftedGraphsLaw" 80 y_MD_init : Cond) ∈ TW := TW_t 466 (by decide +kernel) (by decide +kernel)
theorem tw_467 : (Cond.instanceMethod y_MD_init : Cond) ∈ TW := TW_t 467 (by decide +kernel) (by decide +kernel)
set_option maxRecDepth 100000 in
theorem tw_468 : (Cond.code y_MD_init prog_7_method_1_code 2 none : Cond) ∈ TW := TW_t 468 rfl (by decide +kernel)
theorem tw_469 : (Cond.methodLink "SiftedGraphsModel" 1 ⟨"java/lang/Object", "<init>", "()V"⟩ : Cond) ∈ TW := TW_t 469 (by decide +kernel) (by decide +kernel)
theorem tw_470 : (Cond.fieldLink "SiftedGraphsModel" 36 "SiftedGraphsModel" "code" "I" : Cond) ∈ TW := TW_t 470 (by decide +kernel) (by decide +kernel)
theorem tw_471 : (Cond.fieldLink "SiftedGraphsModel" 7 "SiftedGraphsModel" "table" "[J" : Cond) ∈ TW := TW_t 471 (by decide +kernel) (by decide +kernel)
theorem tw_472 : (Cond.fieldLink "SiftedGraphsModel" 13 "SiftedGraphsModel" "held" "[Z" : Cond) ∈ TW := TW_t 472 (by decide +kernel) (by decide +kernel)
theorem tw_473 : (Cond.fieldLink "SiftedGraphsModel" 17 "SiftedGraphsModel" "order" "[I" : Cond) ∈ TW := TW_t 473 (by decide +kernel) (by decide +kernel)
theorem tw_474 : (Cond.fieldLink "SiftedGraphsModel" 21 "SiftedGraphsModel" "kept" "[I" : Cond) ∈ TW := TW_t 474 (by decide +kernel) (by decide +kernel)
theorem tw_475 : (Cond.fieldLink "SiftedGraphsModel" 66 "SiftedGraphsModel" "typed" "I" : Cond) ∈ TW := TW_t 475 (by decide +kernel) (by decide +kernel)
theorem tw_476 : (Cond.fieldLink "SiftedGraphsModel" 24 "SiftedGraphsModel" "text" "[I" : Cond) ∈ TW := TW_t 476 (by decide +kernel) (by decide +kernel)
theorem tw_477 : (Cond.fieldLink "SiftedGraphsModel" 100 "SiftedGraphsModel" "count" "I" : Cond) ∈ TW := TW_t 477 (by decide +kernel) (by decide +kernel)
theorem tw_478 : (Cond.fieldLink "SiftedGraphsModel" 27 "SiftedGraphsModel" "found" "[J" : Cond) ∈ TW := TW_t 478 (by decide +kernel) (by decide +kernel)
theorem tw_479 : (Cond.fieldLink "SiftedGraphsModel" 72 "SiftedGraphsModel" "operators" "I" : Cond) ∈ TW := TW_t 479 (by decide +kernel) (by decide +kernel)
theorem tw_480 : (Cond.fieldLink "SiftedGraphsModel" 30 "SiftedGraphsModel" "operator" "[I" : Cond) ∈ TW := TW_t 480 (by decide +kernel) (by decide +kernel)
theorem tw_481 : (Cond.fieldLink "SiftedGraphsModel" 69 "SiftedGraphsModel" "values" "I" : Cond) ∈ TW := TW_t 481 (by decide +kernel) (by decide +kernel)
theorem tw_482 : (Cond.fieldLink "SiftedGraphsModel" 33 "SiftedGraphsModel" "stack" "[J" : Cond) ∈ TW := TW_t 482 (by decide +kernel) (by decide +kernel)
theorem tw_483 : (Cond.lays "SiftedGraphsModel" "SiftedGraphsModel" "code" "I" : Cond) ∈ TW := TW_t 483 (by decide +kernel) (by decide +kernel)
theorem tw_484 : (Cond.soleField "SiftedGraphsModel" "code" : Cond) ∈ TW := TW_t 484 (by decide +kernel) (by decide +kernel)
theorem tw_485 : (Cond.lays "SiftedGraphsModel" "SiftedGraphsModel" "table" "[J" : Cond) ∈ TW := TW_t 485 (by decide +kernel) (by decide +kernel)
theorem tw_486 : (Cond.soleField "SiftedGraphsModel" "table" : Cond) ∈ TW := TW_t 486 (by decide +kernel) (by decide +kernel)
theorem tw_487 : (Cond.lays "SiftedGraphsModel" "SiftedGraphsModel" "held" "[Z" : Cond) ∈ TW := TW_t 487 (by decide +kernel) (by decide +kernel)
theorem tw_488 : (Cond.soleField "SiftedGraphsModel" "held" : Cond) ∈ TW := TW_t 488 (by decide +kernel) (by decide +kernel)
theorem tw_489 : (Cond.lays "SiftedGraphsModel" "SiftedGraphsModel" "order" "[I" : Cond) ∈ TW := TW_t 489 (by decide +kernel) (by decide +kernel)
theorem tw_490 : (Cond.soleField "SiftedGraphsModel" "order" : Cond) ∈ TW := TW_t 490 (by decide +kernel) (by decide +kernel)
theorem tw_491 : (Cond.lays "SiftedGraphsModel" "SiftedGraphsModel" "kept" "[I" : Cond) ∈ TW := TW_t 491 (by decide +kernel) (by decide +kernel)
theorem tw_492 : (Cond.soleField "SiftedGraphsModel" "kept" : Cond) ∈ TW := TW_t 492 (by decide +kernel) (by decide +kernel)
theorem tw_493 : (Cond.lays "SiftedGraphsModel" "SiftedGraphsModel" "typed" "I" : Cond) ∈ TW := TW_t 493 (by decide +kernel) (by decide +kernel)
theorem tw_494 : (Cond.soleField "SiftedGraphsModel" "typed" : Cond) ∈ TW := TW_t 494 (by decide +kernel) (by decide +kernel)
theorem tw_495 : (Cond.lays "SiftedGraphsModel" "SiftedGraphsModel" "text" "[I" : Cond) ∈ TW := TW_t 495 (by decide +kernel) (by decide +kernel)
theorem tw_496 : (Cond.soleField "SiftedGraphsModel" "text" : Cond) ∈ TW := TW_t 496 (by decide +kernel) (by decide +kernel)
theorem tw_497 : (Cond.lays "SiftedGraphsModel" "SiftedGraphsModel" "count" "I" : Cond) ∈ TW := TW_t 497 (by decide +kernel) (by decide +kernel)
theorem tw_498 : (Cond.soleField "SiftedGraphsModel" "count" : Cond) ∈ TW := TW_t 498 (by decide +kernel) (by decide +kernel)
theorem tw_499 : (Cond.lays "SiftedGraphsModel" "SiftedGraphsModel" "found" "[J" : Cond) ∈ TW := TW_t 499 (by decide +kernel) (by decide +kernel)
theorem tw_500 : (Cond.soleField "SiftedGraphsModel" "found" : Cond) ∈ TW := TW_t 500 (by decide +kernel) (by decide +kernel)
theorem tw_501 : (Cond.lays "SiftedGraphsModel" "SiftedGraphsModel" "operators" "I" : Cond) ∈ TW := TW_t 501 (by decide +kernel) (by decide +kernel)
theorem tw_502 : (Cond.soleField "SiftedGraphsModel" "operators" : Cond) ∈ TW := TW_t 502 (by decide +kernel) (by decide +kernel)
theorem tw_503 : (Cond.lays "SiftedGraphsModel" "SiftedGraphsModel" "operator" "[I" : Cond) ∈ TW := TW_t 503 (by decide +kernel) (by decide +kernel)
theorem tw_504 : (Cond.soleField "SiftedGraphsModel" "operator" : Cond) ∈ TW := TW_t 504 (by decide +kernel) (by decide +kernel)
theorem tw_505 : (Cond.lays "SiftedGraphsModel" "SiftedGraphsModel" "values" "I" : Cond) ∈ TW := TW_t 505 (by decide +kernel) (by decide +kernel)
theorem tw_506 : (Cond.soleField "SiftedGraphsModel" "values" : Cond) ∈ TW := TW_t 506 (by decide +kernel) (by decide +kernel)
theorem tw_507 : (Cond.lays "SiftedGraphsModel" "SiftedGraphsModel" "stack" "[J" : Cond) ∈ TW := TW_t 507 (by decide +kernel) (by decide +kernel)
theorem tw_508 : (Cond.soleField "SiftedGraphsModel" "stack" : Cond) ∈ TW := TW_t 508 (by decide +kernel) (by decide +kernel)
theorem tw_509 : (Cond.superclass "SiftedGraphsModel" "java/lang/Object" : Cond) ∈ TW := TW_t 509 (by decide +kernel) (by decide +kernel)
theorem tw_510 : (Cond.methodLink "SiftedGraphsLaw" 87 y_MD_thrown : Cond) ∈ TW := TW_t 510 (by decide +kernel) (by decide +kernel)
theorem tw_511 : (Cond.instanceMethod y_MD_thrown : Cond) ∈ TW := TW_t 511 (by decide +kernel) (by decide +kernel)
theorem tw_512 : (Cond.selects "SiftedGraphsModel" y_MD_thrown y_MD_thrown : Cond) ∈ TW := TW_t 512 (by decide +kernel) (by decide +kernel)
set_option maxRecDepth 100000 in
theorem tw_513 : (Cond.code y_MD_thrown prog_7_method_2_code 1 (some .int) : Cond) ∈ TW := TW_t 513 rfl (by decide +kernel)
theorem tw_514 : (Cond.methodLink "SiftedGraphsLaw" 86 y_MD_set : Cond) ∈ TW := TW_t 514 (by decide +kernel) (by decide +kernel)
theorem tw_515 : (Cond.instanceMethod y_MD_set : Cond) ∈ TW := TW_t 515 (by decide +kernel) (by decide +kernel)
theorem tw_516 : (Cond.selects "SiftedGraphsModel" y_MD_set y_MD_set : Cond) ∈ TW := TW_t 516 (by decide +kernel) (by decide +kernel)
set_option maxRecDepth 100000 in
theorem tw_517 : (Cond.code y_MD_set prog_7_method_10_code 5 none : Cond) ∈ TW := TW_t 517 rfl (by decide +kernel)
theorem tw_518 : (Cond.methodLink "SiftedGraphsModel" 54 y_MD_isRegister : Cond) ∈ TW := TW_t 518 (by decide +kernel) (by decide +kernel)
theorem tw_519 : (Cond.static y_MD_isRegister : Cond) ∈ TW := TW_t 519 (by decide +kernel) (by decide +kernel)
set_option maxRecDepth 100000 in
theorem tw_520 : (Cond.code y_MD_isRegister prog_7_method_4_code 1 (some .boolean) : Cond) ∈ TW := TW_t 520 rfl (by decide +kernel)
theorem tw_521 : (Cond.methodLink "SiftedGraphsModel" 40 y_MD_within : Cond) ∈ TW := TW_t 521 (by decide +kernel) (by decide +kernel)
theorem tw_522 : (Cond.static y_MD_within : Cond) ∈ TW := TW_t 522 (by decide +kernel) (by decide +kernel)
set_option maxRecDepth 100000 in
theorem tw_523 : (Cond.code y_MD_within prog_7_method_3_code 3 (some .boolean) : Cond) ∈ TW := TW_t 523 rfl (by decide +kernel)
theorem tw_524 : (Cond.methodLink "SiftedGraphsModel" 58 y_MD_variableTable : Cond) ∈ TW := TW_t 524 (by decide +kernel) (by decide +kernel)
theorem tw_525 : (Cond.static y_MD_variableTable : Cond) ∈ TW := TW_t 525 (by decide +kernel) (by decide +kernel)
set_option maxRecDepth 100000 in
theorem tw_526 : (Cond.code y_MD_variableTable prog_7_method_6_code 4 (some .long) : Cond) ∈ TW := TW_t 526 rfl (by decide +kernel)
theorem tw_527 : (Cond.constantLong "SiftedGraphsModel" 52 (-1) : Cond) ∈ TW := TW_t 527 (by decide +kernel) (by decide +kernel)
theorem tw_528 : (Cond.methodLink "SiftedGraphsModel" 62 y_MD_put : Cond) ∈ TW := TW_t 528 (by decide +kernel) (by decide +kernel)
theorem tw_530 : (Cond.instanceMethod y_MD_put : Cond) ∈ TW := TW_t 530 (by decide +kernel) (by decide +kernel)
set_option maxRecDepth 100000 in
theorem tw_531 : (Cond.code y_MD_put prog_7_method_9_code 4 none : Cond) ∈ TW := TW_t 531 rfl (by decide +kernel)
theorem tw_532 : (Cond.methodLink "SiftedGraphsLaw" 94 y_MD_apply : Cond) ∈ TW := TW_t 532 (by decide +kernel) (by decide +kernel)
theorem tw_533 : (Cond.instanceMethod y_MD_apply : Cond) ∈ TW := TW_t 533 (by decide +kernel) (by decide +kernel)
theorem tw_534 : (Cond.selects "SiftedGraphsModel" y_MD_apply y_MD_apply : Cond) ∈ TW := TW_t 534 (by decide +kernel) (by decide +kernel)
set_option maxRecDepth 100000 in
theorem tw_535 : (Cond.code y_MD_apply prog_7_method_11_code 10 none : Cond) ∈ TW := TW_t 535 rfl (by decide +kernel)
theorem tw_536 : (Cond.methodLink "SiftedGraphsModel" 44 y_MD_at : Cond) ∈ TW := TW_t 536 (by decide +kernel) (by decide +kernel)
theorem tw_537 : (Cond.static y_MD_at : Cond) ∈ TW := TW_t 537 (by decide +kernel) (by decide +kernel)
set_option maxRecDepth 100000 in
theorem tw_538 : (Cond.code y_MD_at prog_7_method_5_code 3 (some .boolean) : Cond) ∈ TW := TW_t 538 rfl (by decide +kernel)
theorem tw_539 : (Cond.methodLink "SiftedGraphsLaw" 97 y_MD_choose : Cond) ∈ TW := TW_t 539 (by decide +kernel) (by decide +kernel)
theorem tw_540 : (Cond.instanceMethod y_MD_choose : Cond) ∈ TW := TW_t 540 (by decide +kernel) (by decide +kernel)
theorem tw_541 : (Cond.selects "SiftedGraphsModel" y_MD_choose y_MD_choose : Cond) ∈ TW := TW_t 541 (by decide +kernel) (by decide +kernel)
set_option maxRecDepth 100000 in
theorem tw_542 : (Cond.code y_MD_choose prog_7_method_12_code 6 none : Cond) ∈ TW := TW_t 542 rfl (by decide +kernel)
theorem tw_543 : (Cond.methodLink "SiftedGraphsLaw" 101 y_MD_restrict : Cond) ∈ TW := TW_t 543 (by decide +kernel) (by decide +kernel)
theorem tw_544 : (Cond.instanceMethod y_MD_restrict : Cond) ∈ TW := TW_t 544 (by decide +kernel) (by decide +kernel)
theorem tw_545 : (Cond.selects "SiftedGraphsModel" y_MD_restrict y_MD_restrict : Cond) ∈ TW := TW_t 545 (by decide +kernel) (by decide +kernel)
set_option maxRecDepth 100000 in
theorem tw_546 : (Cond.code y_MD_restrict prog_7_method_13_code 6 none : Cond) ∈ TW := TW_t 546 rfl (by decide +kernel)
theorem tw_547 : (Cond.methodLink "SiftedGraphsModel" 48 y_MD_with : Cond) ∈ TW := TW_t 547 (by decide +kernel) (by decide +kernel)
theorem tw_548 : (Cond.static y_MD_with : Cond) ∈ TW := TW_t 548 (by decide +kernel) (by decide +kernel)
set_option maxRecDepth 100000 in
theorem tw_549 : (Cond.code y_MD_with prog_7_method_7_code 10 (some .long) : Cond) ∈ TW := TW_t 549 rfl (by decide +kernel)
theorem tw_550 : (Cond.methodLink "SiftedGraphsLaw" 104 y_MD_compose : Cond) ∈ TW := TW_t 550 (by decide +kernel) (by decide +kernel)
theorem tw_551 : (Cond.instanceMethod y_MD_compose : Cond) ∈ TW := TW_t 551 (by decide +kernel) (by decide +kernel)
theorem tw_552 : (Cond.selects "SiftedGraphsModel" y_MD_compose y_MD_compose : Cond) ∈ TW := TW_t 552 (by decide +kernel) (by decide +kernel)
set_option maxRecDepth 100000 in
theorem tw_553 : (Cond.code y_MD_compose prog_7_method_14_code 6 none : Cond) ∈ TW := TW_t 553 rfl (by decide +kernel)
theorem tw_554 : (Cond.methodLink "SiftedGraphsLaw" 107 y_MD_quantify : Cond) ∈ TW := TW_t 554 (by decide +kernel) (by decide +kernel)
theorem tw_555 : (Cond.instanceMethod y_MD_quantify : Cond) ∈ TW := TW_t 555 (by decide +kernel) (by decide +kernel)
theorem tw_556 : (Cond.selects "SiftedGraphsModel" y_MD_quantify y_MD_quantify : Cond) ∈ TW := TW_t 556 (by decide +kernel) (by decide +kernel)
set_option maxRecDepth 100000 in
theorem tw_557 : (Cond.code y_MD_quantify prog_7_method_15_code 13 none : Cond) ∈ TW := TW_t 557 rfl (by decide +kernel)
theorem tw_558 : (Cond.methodLink "SiftedGraphsLaw" 120 y_MD_release : Cond) ∈ TW := TW_t 558 (by decide +kernel) (by decide +kernel)
theorem tw_559 : (Cond.instanceMethod y_MD_release : Cond) ∈ TW := TW_t 559 (by decide +kernel) (by decide +kernel)
theorem tw_560 : (Cond.selects "SiftedGraphsModel" y_MD_release y_MD_release : Cond) ∈ TW := TW_t 560 (by decide +kernel) (by decide +kernel)
set_option maxRecDepth 100000 in
theorem tw_561 : (Cond.code y_MD_release prog_7_method_16_code 3 (some .boolean) : Cond) ∈ TW := TW_t 561 rfl (by decide +kernel)
theorem tw_562 : (Cond.methodLink "SiftedGraphsLaw" 113 y_MD_type : Cond) ∈ TW := TW_t 562 (by decide +kernel) (by decide +kernel)
theorem tw_563 : (Cond.instanceMethod y_MD_type : Cond) ∈ TW := TW_t 563 (by decide +kernel) (by decide +kernel)
theorem tw_564 : (Cond.selects "SiftedGraphsModel" y_MD_type y_MD_type : Cond) ∈ TW := TW_t 564 (by decide +kernel) (by decide +kernel)
set_option maxRecDepth 100000 in
theorem tw_565 : (Cond.code y_MD_type prog_7_method_17_code 5 (some .int) : Cond) ∈ TW := TW_t 565 rfl (by decide +kernel)
theorem tw_566 : (Cond.methodLink "SiftedGraphsLaw" 117 y_MD_read : Cond) ∈ TW := TW_t 566 (by decide +kernel) (by decide +kernel)
theorem tw_567 : (Cond.instanceMethod y_MD_read : Cond) ∈ TW := TW_t 567 (by decide +kernel) (by decide +kernel)
theorem tw_568 : (Cond.selects "SiftedGraphsModel" y_MD_read y_MD_read : Cond) ∈ TW := TW_t 568 (by decide +kernel) (by decide +kernel)
set_option maxRecDepth 100000 in
theorem tw_569 : (Cond.code y_MD_read prog_7_method_23_code 8 (some .int) : Cond) ∈ TW := TW_t 569 rfl (by decide +kernel)
theorem tw_570 : (Cond.methodLink "SiftedGraphsModel" 87 y_MD_begin : Cond) ∈ TW := TW_t 570 (by decide +kernel) (by decide +kernel)
theorem tw_572 : (Cond.instanceMethod y_MD_begin : Cond) ∈ TW := TW_t 572 (by decide +kernel) (by decide +kernel)
set_option maxRecDepth 100000 in
theorem tw_573 : (Cond.code y_MD_begin prog_7_method_22_code 3 (some .int) : Cond) ∈ TW := TW_t 573 rfl (by decide +kernel)
theorem tw_574 : (Cond.methodLink "SiftedGraphsModel" 79 y_MD_later : Cond) ∈ TW := TW_t 574 (by decide +kernel) (by decide +kernel)
theorem tw_576 : (Cond.instanceMethod y_MD_later : Cond) ∈ TW := TW_t 576 (by decide +kernel) (by decide +kernel)
set_option maxRecDepth 100000 in
theorem tw_577 : (Cond.code y_MD_later prog_7_method_21_code 2 none : Cond) ∈ TW := TW_t 577 rfl (by decide +kernel)
theorem tw_578 : (Cond.methodLink "SiftedGraphsModel" 83 y_MD_push : Cond) ∈ TW := TW_t 578 (by decide +kernel) (by decide +kernel)
theorem tw_580 : (Cond.instanceMethod y_MD_push : Cond) ∈ TW := TW_t 580 (by decide +kernel) (by decide +kernel)
set_option maxRecDepth 100000 in
theorem tw_581 : (Cond.code y_MD_push prog_7_method_18_code 3 none : Cond) ∈ TW := TW_t 581 rfl (by decide +kernel)
theorem tw_582 : (Cond.methodLink "SiftedGraphsModel" 91 y_MD_reduce : Cond) ∈ TW := TW_t 582 (by decide +kernel) (by decide +kernel)
theorem tw_584 : (Cond.instanceMethod y_MD_reduce : Cond) ∈ TW := TW_t 584 (by decide +kernel) (by decide +kernel)
set_option maxRecDepth 100000 in
theorem tw_585 : (Cond.code y_MD_reduce prog_7_method_20_code 7 none : Cond) ∈ TW := TW_t 585 rfl (by decide +kernel)
theorem tw_586 : (Cond.methodLink "SiftedGraphsModel" 75 y_MD_strength : Cond) ∈ TW := TW_t 586 (by decide +kernel) (by decide +kernel)
theorem tw_587 : (Cond.static y_MD_strength : Cond) ∈ TW := TW_t 587 (by decide +kernel) (by decide +kernel)
set_option maxRecDepth 100000 in
theorem tw_588 : (Cond.code y_MD_strength prog_7_method_19_code 1 (some .int) : Cond) ∈ TW := TW_t 588 rfl (by decide +kernel)
theorem tw_589 : (Cond.methodLink "SiftedGraphsLaw" 124 y_MD_equal : Cond) ∈ TW := TW_t 589 (by decide +kernel) (by decide +kernel)
theorem tw_590 : (Cond.instanceMethod y_MD_equal : Cond) ∈ TW := TW_t 590 (by decide +kernel) (by decide +kernel)
theorem tw_591 : (Cond.selects "SiftedGraphsModel" y_MD_equal y_MD_equal : Cond) ∈ TW := TW_t 591 (by decide +kernel) (by decide +kernel)
set_option maxRecDepth 100000 in
theorem tw_592 : (Cond.code y_MD_equal prog_7_method_24_code 3 (some .boolean) : Cond) ∈ TW := TW_t 592 rfl (by decide +kernel)
theorem tw_593 : (Cond.methodLink "SiftedGraphsLaw" 127 y_MD_value : Cond) ∈ TW := TW_t 593 (by decide +kernel) (by decide +kernel)
theorem tw_594 : (Cond.instanceMethod y_MD_value : Cond) ∈ TW := TW_t 594 (by decide +kernel) (by decide +kernel)
theorem tw_595 : (Cond.selects "SiftedGraphsModel" y_MD_value y_MD_value : Cond) ∈ TW := TW_t 595 (by decide +kernel) (by decide +kernel)
set_option maxRecDepth 100000 in
theorem tw_596 : (Cond.code y_MD_value prog_7_method_25_code 3 (some .boolean) : Cond) ∈ TW := TW_t 596 rfl (by decide +kernel)
theorem tw_597 : (Cond.methodLink "SiftedGraphsLaw" 130 y_MD_count : Cond) ∈ TW := TW_t 597 (by decide +kernel) (by decide +kernel)
theorem tw_598 : (Cond.instanceMethod y_MD_count : Cond) ∈ TW := TW_t 598 (by decide +kernel) (by decide +kernel)
theorem tw_599 : (Cond.selects "SiftedGraphsModel" y_MD_count y_MD_count : Cond) ∈ TW := TW_t 599 (by decide +kernel) (by decide +kernel)
set_option maxRecDepth 100000 in
theorem tw_600 : (Cond.code y_MD_count prog_7_method_27_code 4 (some .int) : Cond) ∈ TW := TW_t 600 rfl (by decide +kernel)
theorem tw_601 : (Cond.methodLink "SiftedGraphsModel" 94 y_MD_lack : Cond) ∈ TW := TW_t 601 (by decide +kernel) (by decide +kernel)
theorem tw_603 : (Cond.instanceMethod y_MD_lack : Cond) ∈ TW := TW_t 603 (by decide +kernel) (by decide +kernel)
set_option maxRecDepth 100000 in
theorem tw_604 : (Cond.code y_MD_lack prog_7_method_26_code 2 (some .int) : Cond) ∈ TW := TW_t 604 rfl (by decide +kernel)
theorem tw_605 : (Cond.methodLink "SiftedGraphsLaw" 133 y_MD_least : Cond) ∈ TW := TW_t 605 (by decide +kernel) (by decide +kernel)
theorem tw_606 : (Cond.instanceMethod y_MD_least : Cond) ∈ TW := TW_t 606 (by decide +kernel) (by decide +kernel)
theorem tw_607 : (Cond.selects "SiftedGraphsModel" y_MD_least y_MD_least : Cond) ∈ TW := TW_t 607 (by decide +kernel) (by decide +kernel)
set_option maxRecDepth 100000 in
theorem tw_608 : (Cond.code y_MD_least prog_7_method_28_code 3 (some .int) : Cond) ∈ TW := TW_t 608 rfl (by decide +kernel)
theorem tw_609 : (Cond.methodLink "SiftedGraphsLaw" 136 y_MD_support : Cond) ∈ TW := TW_t 609 (by decide +kernel) (by decide +kernel)
theorem tw_610 : (Cond.instanceMethod y_MD_support : Cond) ∈ TW := TW_t 610 (by decide +kernel) (by decide +kernel)
theorem tw_611 : (Cond.selects "SiftedGraphsModel" y_MD_support y_MD_support : Cond) ∈ TW := TW_t 611 (by decide +kernel) (by decide +kernel)
set_option maxRecDepth 100000 in
theorem tw_612 : (Cond.code y_MD_support prog_7_method_29_code 4 (some .int) : Cond) ∈ TW := TW_t 612 rfl (by decide +kernel)
theorem tw_613 : (Cond.methodLink "SiftedGraphsModel" 97 y_MD_depends : Cond) ∈ TW := TW_t 613 (by decide +kernel) (by decide +kernel)
theorem tw_614 : (Cond.static y_MD_depends : Cond) ∈ TW := TW_t 614 (by decide +kernel) (by decide +kernel)
set_option maxRecDepth 100000 in
theorem tw_615 : (Cond.code y_MD_depends prog_7_method_8_code 3 (some .boolean) : Cond) ∈ TW := TW_t 615 rfl (by decide +kernel)
theorem tw_616 : (Cond.methodLink "SiftedGraphsLaw" 139 y_MD_size : Cond) ∈ TW := TW_t 616 (by decide +kernel) (by decide +kernel)
theorem tw_617 : (Cond.instanceMethod y_MD_size : Cond) ∈ TW := TW_t 617 (by decide +kernel) (by decide +kernel)
theorem tw_618 : (Cond.selects "SiftedGraphsModel" y_MD_size y_MD_size : Cond) ∈ TW := TW_t 618 (by decide +kernel) (by decide +kernel)
set_option maxRecDepth 100000 in
theorem tw_619 : (Cond.code y_MD_size prog_7_method_34_code 4 (some .int) : Cond) ∈ TW := TW_t 619 rfl (by decide +kernel)
theorem tw_620 : (Cond.methodLink "SiftedGraphsModel" 106 y_MD_findAll : Cond) ∈ TW := TW_t 620 (by decide +kernel) (by decide +kernel)
theorem tw_622 : (Cond.instanceMethod y_MD_findAll : Cond) ∈ TW := TW_t 622 (by decide +kernel) (by decide +kernel)
set_option maxRecDepth 100000 in
theorem tw_623 : (Cond.code y_MD_findAll prog_7_method_31_code 8 none : Cond) ∈ TW := TW_t 623 rfl (by decide +kernel)
theorem tw_624 : (Cond.methodLink "SiftedGraphsModel" 103 y_MD_find : Cond) ∈ TW := TW_t 624 (by decide +kernel) (by decide +kernel)
theorem tw_626 : (Cond.instanceMethod y_MD_find : Cond) ∈ TW := TW_t 626 (by decide +kernel) (by decide +kernel)
set_option maxRecDepth 100000 in
theorem tw_627 : (Cond.code y_MD_find prog_7_method_30_code 4 none : Cond) ∈ TW := TW_t 627 rfl (by decide +kernel)
theorem tw_628 : (Cond.methodLink "SiftedGraphsLaw" 143 y_MD_shared : Cond) ∈ TW := TW_t 628 (by decide +kernel) (by decide +kernel)
theorem tw_629 : (Cond.instanceMethod y_MD_shared : Cond) ∈ TW := TW_t 629 (by decide +kernel) (by decide +kernel)
theorem tw_630 : (Cond.selects "SiftedGraphsModel" y_MD_shared y_MD_shared : Cond) ∈ TW := TW_t 630 (by decide +kernel) (by decide +kernel)
set_option maxRecDepth 100000 in
theorem tw_631 : (Cond.code y_MD_shared prog_7_method_35_code 1 (some .int) : Cond) ∈ TW := TW_t 631 rfl (by decide +kernel)
theorem tw_632 : (Cond.methodLink "SiftedGraphsModel" 113 y_MD_all : Cond) ∈ TW := TW_t 632 (by decide +kernel) (by decide +kernel)
theorem tw_634 : (Cond.instanceMethod y_MD_all : Cond) ∈ TW := TW_t 634 (by decide +kernel) (by decide +kernel)
set_option maxRecDepth 100000 in
theorem tw_635 : (Cond.code y_MD_all prog_7_method_33_code 3 (some .int) : Cond) ∈ TW := TW_t 635 rfl (by decide +kernel)
theorem tw_636 : (Cond.methodLink "SiftedGraphsModel" 110 y_MD_widthOf : Cond) ∈ TW := TW_t 636 (by decide +kernel) (by decide +kernel)
theorem tw_638 : (Cond.instanceMethod y_MD_widthOf : Cond) ∈ TW := TW_t 638 (by decide +kernel) (by decide +kernel)
set_option maxRecDepth 100000 in
theorem tw_639 : (Cond.code y_MD_widthOf prog_7_method_32_code 3 (some .int) : Cond) ∈ TW := TW_t 639 rfl (by decide +kernel)
theorem tw_640 : (Cond.methodLink "SiftedGraphsLaw" 146 y_MD_width : Cond) ∈ TW := TW_t 640 (by decide +kernel) (by decide +kernel)
theorem tw_641 : (Cond.instanceMethod y_MD_width : Cond) ∈ TW := TW_t 641 (by decide +kernel) (by decide +kernel)
theorem tw_642 : (Cond.selects "SiftedGraphsModel" y_MD_width y_MD_width : Cond) ∈ TW := TW_t 642 (by decide +kernel) (by decide +kernel)
set_option maxRecDepth 100000 in
theorem tw_643 : (Cond.code y_MD_width prog_7_method_36_code 2 (some .int) : Cond) ∈ TW := TW_t 643 rfl (by decide +kernel)
theorem tw_644 : (Cond.methodLink "SiftedGraphsLaw" 149 y_MD_variable : Cond) ∈ TW := TW_t 644 (by decide +kernel) (by decide +kernel)
theorem tw_645 : (Cond.instanceMethod y_MD_variable : Cond) ∈ TW := TW_t 645 (by decide +kernel) (by decide +kernel)
theorem tw_646 : (Cond.selects "SiftedGraphsModel" y_MD_variable y_MD_variable : Cond) ∈ TW := TW_t 646 (by decide +kernel) (by decide +kernel)
set_option maxRecDepth 100000 in
theorem tw_647 : (Cond.code y_MD_variable prog_7_method_37_code 2 (some .int) : Cond) ∈ TW := TW_t 647 rfl (by decide +kernel)
theorem tw_648 : (Cond.methodLink "SiftedGraphsLaw" 152 y_MD_swap : Cond) ∈ TW := TW_t 648 (by decide +kernel) (by decide +kernel)
theorem tw_649 : (Cond.instanceMethod y_MD_swap : Cond) ∈ TW := TW_t 649 (by decide +kernel) (by decide +kernel)
theorem tw_650 : (Cond.selects "SiftedGraphsModel" y_MD_swap y_MD_swap : Cond) ∈ TW := TW_t 650 (by decide +kernel) (by decide +kernel)
set_option maxRecDepth 100000 in
theorem tw_651 : (Cond.code y_MD_swap prog_7_method_38_code 3 (some .int) : Cond) ∈ TW := TW_t 651 rfl (by decide +kernel)
theorem tw_652 : (Cond.methodLink "SiftedGraphsLaw" 155 y_MD_sift : Cond) ∈ TW := TW_t 652 (by decide +kernel) (by decide +kernel)
theorem tw_653 : (Cond.instanceMethod y_MD_sift : Cond) ∈ TW := TW_t 653 (by decide +kernel) (by decide +kernel)
theorem tw_654 : (Cond.selects "SiftedGraphsModel" y_MD_sift y_MD_sift : Cond) ∈ TW := TW_t 654 (by decide +kernel) (by decide +kernel)
set_option maxRecDepth 100000 in
theorem tw_655 : (Cond.code y_MD_sift prog_7_method_40_code 6 (some .int) : Cond) ∈ TW := TW_t 655 rfl (by decide +kernel)
theorem tw_656 : (Cond.methodLink "SiftedGraphsModel" 117 y_MD_arrange : Cond) ∈ TW := TW_t 656 (by decide +kernel) (by decide +kernel)
theorem tw_658 : (Cond.instanceMethod y_MD_arrange : Cond) ∈ TW := TW_t 658 (by decide +kernel) (by decide +kernel)
set_option maxRecDepth 100000 in
theorem tw_659 : (Cond.code y_MD_arrange prog_7_method_39_code 5 none : Cond) ∈ TW := TW_t 659 rfl (by decide +kernel)
theorem tw_660 : (Cond.constantLong "SiftedGraphsLaw" 108 4294967295 : Cond) ∈ TW := TW_t 660 (by decide +kernel) (by decide +kernel)
theorem tw_661 : (Cond.sameMethod "java/lang/Throwable" "java/lang/Throwable" "fillInStackTrace" "(I)Ljava/lang/Throwable;" : Cond) ∈ TW := TW_t 661 (by decide +kernel) (by decide +kernel)
theorem ts_0 : (Cond.selects "SiftedGraphs" y_SG_nodesOfAll y_SG_nodesOfAll : Cond) ∈ TW := TW_s 0 (by decide +kernel) (by decide +kernel)
theorem ts_1 : (Cond.selects "SiftedGraphs$NodeCounter" y_NC_goDown y_NC_goDown : Cond) ∈ TW := TW_s 1 (by decide +kernel) (by decide +kernel)
theorem ts_2 : (Cond.selects "SiftedGraphs$NodeCounter" y_NC_branch y_NC_branch : Cond) ∈ TW := TW_s 2 (by decide +kernel) (by decide +kernel)
theorem ts_3 : (Cond.selects "java/lang/Throwable" ⟨"java/lang/Throwable", "fillInStackTrace", "(I)Ljava/lang/Throwable;"⟩ ⟨"java/lang/Throwable", "fillInStackTrace", "(I)Ljava/lang/Throwable;"⟩ : Cond) ∈ TW := TW_s 3 (by decide +kernel) (by decide +kernel)
theorem ts_4 : (Cond.selects "SiftedGraphs" y_SG_look y_SG_look : Cond) ∈ TW := TW_s 4 (by decide +kernel) (by decide +kernel)
theorem ts_5 : (Cond.selects "SiftedGraphs$FormulaReader" y_FR_beginFormula y_FR_beginFormula : Cond) ∈ TW := TW_s 5 (by decide +kernel) (by decide +kernel)
theorem ts_6 : (Cond.selects "SiftedGraphs$FormulaReader" y_FR_beginFactor y_FR_beginFactor : Cond) ∈ TW := TW_s 6 (by decide +kernel) (by decide +kernel)
theorem ts_7 : (Cond.selects "SiftedGraphs$FormulaReader" y_FR_takeInOperand y_FR_takeInOperand : Cond) ∈ TW := TW_s 7 (by decide +kernel) (by decide +kernel)
theorem ts_8 : (Cond.selects "SiftedGraphs$FormulaReader" y_FR_openParenthesis y_FR_openParenthesis : Cond) ∈ TW := TW_s 8 (by decide +kernel) (by decide +kernel)
theorem ts_9 : (Cond.selects "SiftedGraphs$FormulaReader" y_FR_endFactor y_FR_endFactor : Cond) ∈ TW := TW_s 9 (by decide +kernel) (by decide +kernel)
theorem ts_10 : (Cond.selects "SiftedGraphs$FormulaReader" y_FR_takeBehindOperand y_FR_takeBehindOperand : Cond) ∈ TW := TW_s 10 (by decide +kernel) (by decide +kernel)
theorem ts_11 : (Cond.selects "SiftedGraphs$FormulaReader" y_FR_closeParenthesis y_FR_closeParenthesis : Cond) ∈ TW := TW_s 11 (by decide +kernel) (by decide +kernel)
theorem ts_12 : (Cond.selects "SiftedGraphs" y_SG_exchange y_SG_exchange : Cond) ∈ TW := TW_s 12 (by decide +kernel) (by decide +kernel)
theorem ts_13 : (Cond.selects "SiftedGraphs" y_SG_levelOf y_SG_levelOf : Cond) ∈ TW := TW_s 13 (by decide +kernel) (by decide +kernel)
theorem ts_14 : (Cond.selects "SiftedGraphs" y_SG_raise y_SG_raise : Cond) ∈ TW := TW_s 14 (by decide +kernel) (by decide +kernel)
theorem ts_15 : (Cond.selects "SiftedGraphsModel" y_MD_put y_MD_put : Cond) ∈ TW := TW_s 15 (by decide +kernel) (by decide +kernel)
theorem ts_16 : (Cond.selects "SiftedGraphsModel" y_MD_begin y_MD_begin : Cond) ∈ TW := TW_s 16 (by decide +kernel) (by decide +kernel)
theorem ts_17 : (Cond.selects "SiftedGraphsModel" y_MD_later y_MD_later : Cond) ∈ TW := TW_s 17 (by decide +kernel) (by decide +kernel)
theorem ts_18 : (Cond.selects "SiftedGraphsModel" y_MD_push y_MD_push : Cond) ∈ TW := TW_s 18 (by decide +kernel) (by decide +kernel)
theorem ts_19 : (Cond.selects "SiftedGraphsModel" y_MD_reduce y_MD_reduce : Cond) ∈ TW := TW_s 19 (by decide +kernel) (by decide +kernel)
theorem ts_20 : (Cond.selects "SiftedGraphsModel" y_MD_lack y_MD_lack : Cond) ∈ TW := TW_s 20 (by decide +kernel) (by decide +kernel)
theorem ts_21 : (Cond.selects "SiftedGraphsModel" y_MD_findAll y_MD_findAll : Cond) ∈ TW := TW_s 21 (by decide +kernel) (by decide +kernel)
theorem ts_22 : (Cond.selects "SiftedGraphsModel" y_MD_find y_MD_find : Cond) ∈ TW := TW_s 22 (by decide +kernel) (by decide +kernel)
theorem ts_23 : (Cond.selects "SiftedGraphsModel" y_MD_all y_MD_all : Cond) ∈ TW := TW_s 23 (by decide +kernel) (by decide +kernel)
theorem ts_24 : (Cond.selects "SiftedGraphsModel" y_MD_widthOf y_MD_widthOf : Cond) ∈ TW := TW_s 24 (by decide +kernel) (by decide +kernel)
theorem ts_25 : (Cond.selects "SiftedGraphsModel" y_MD_arrange y_MD_arrange : Cond) ∈ TW := TW_s 25 (by decide +kernel) (by decide +kernel)
def R_FR : String := "SiftedGraphs$FormulaReader"
def T_FR : u_T := fun k => match k with
  | 0 => ("SiftedGraphs$FormulaReader", "sums", "[J", true)
  | 1 => ("SiftedGraphs$FormulaReader", "parities", "[J", true)
  | 2 => ("SiftedGraphs$FormulaReader", "products", "[J", true)
  | 3 => ("SiftedGraphs$FormulaReader", "flips", "[J", true)
  | 4 => ("SiftedGraphs$FormulaReader", "open", "I", false)
  | _ => ("SiftedGraphs$FormulaReader", "operandDue", "Z", false)
def t_FR : Nat → FieldType := fun k => match k with
  | 0 => .array .long
  | 1 => .array .long
  | 2 => .array .long
  | 3 => .array .long
  | 4 => .int
  | _ => .boolean
theorem n_FR : ∀ a, a < 6 → ∀ b, b < 6 → a ≠ b → (T_FR a).2.1 ≠ (T_FR b).2.1 := by decide +kernel
theorem t_FR_ok : ∀ k, k < 6 → parseFieldDescriptor (T_FR k).2.2.1 = some (t_FR k) := by decide +kernel
theorem i_FR : ∀ w ∈ u_ws R_FR T_FR 6, w ∈ TW := List.forall_mem_cons.mpr ⟨tw_48, List.forall_mem_cons.mpr ⟨tw_50, List.forall_mem_cons.mpr ⟨tw_52, List.forall_mem_cons.mpr ⟨tw_54, List.forall_mem_cons.mpr ⟨tw_56, List.forall_mem_cons.mpr ⟨tw_58, fun _ h => absurd h List.not_mem_nil⟩⟩⟩⟩⟩⟩
def R_NC : String := "SiftedGraphs$NodeCounter"
def T_NC : u_T := fun k => match k with
  | 0 => ("SiftedGraphs$NodeCounter", "above", "[J", false)
  | 1 => ("SiftedGraphs$NodeCounter", "aboveCount", "I", false)
  | 2 => ("SiftedGraphs$NodeCounter", "below", "[J", false)
  | 3 => ("SiftedGraphs$NodeCounter", "belowCount", "I", false)
  | _ => ("SiftedGraphs$NodeCounter", "widths", "[I", true)
def t_NC : Nat → FieldType := fun k => match k with
  | 0 => .array .long
  | 1 => .int
  | 2 => .array .long
  | 3 => .int
  | _ => .array .int
theorem n_NC : ∀ a, a < 5 → ∀ b, b < 5 → a ≠ b → (T_NC a).2.1 ≠ (T_NC b).2.1 := by decide +kernel
theorem t_NC_ok : ∀ k, k < 5 → parseFieldDescriptor (T_NC k).2.2.1 = some (t_NC k) := by decide +kernel
theorem i_NC : ∀ w ∈ u_ws R_NC T_NC 5, w ∈ TW := List.forall_mem_cons.mpr ⟨tw_74, List.forall_mem_cons.mpr ⟨tw_76, List.forall_mem_cons.mpr ⟨tw_78, List.forall_mem_cons.mpr ⟨tw_80, List.forall_mem_cons.mpr ⟨tw_82, fun _ h => absurd h List.not_mem_nil⟩⟩⟩⟩⟩
def R_RG : String := "SiftedGraphs$Registers"
def T_RG : u_T := fun k => match k with
  | 0 => ("SiftedGraphs$Registers", "tables", "[J", true)
  | _ => ("SiftedGraphs$Registers", "held", "[Z", true)
def t_RG : Nat → FieldType := fun k => match k with
  | 0 => .array .long
  | _ => .array .boolean
theorem n_RG : ∀ a, a < 2 → ∀ b, b < 2 → a ≠ b → (T_RG a).2.1 ≠ (T_RG b).2.1 := by decide +kernel
theorem t_RG_ok : ∀ k, k < 2 → parseFieldDescriptor (T_RG k).2.2.1 = some (t_RG k) := by decide +kernel
theorem i_RG : ∀ w ∈ u_ws R_RG T_RG 2, w ∈ TW := List.forall_mem_cons.mpr ⟨tw_29, List.forall_mem_cons.mpr ⟨tw_31, fun _ h => absurd h List.not_mem_nil⟩⟩
def R_SG : String := "SiftedGraphs"
def T_SG : u_T := fun k => match k with
  | 0 => ("SiftedGraphs", "registers", "LSiftedGraphs$Registers;", true)
  | 1 => ("SiftedGraphs", "order", "[I", true)
  | 2 => ("SiftedGraphs", "text", "[C", true)
  | 3 => ("SiftedGraphs", "typed", "I", false)
  | 4 => ("SiftedGraphs", "reader", "LSiftedGraphs$FormulaReader;", true)
  | _ => ("SiftedGraphs", "nodes", "LSiftedGraphs$NodeCounter;", true)
def t_SG : Nat → FieldType := fun k => match k with
  | 0 => .object "SiftedGraphs$Registers"
  | 1 => .array .int
  | 2 => .array .char
  | 3 => .int
  | 4 => .object "SiftedGraphs$FormulaReader"
  | _ => .object "SiftedGraphs$NodeCounter"
theorem n_SG : ∀ a, a < 6 → ∀ b, b < 6 → a ≠ b → (T_SG a).2.1 ≠ (T_SG b).2.1 := by decide +kernel
theorem t_SG_ok : ∀ k, k < 6 → parseFieldDescriptor (T_SG k).2.2.1 = some (t_SG k) := by decide +kernel
theorem i_SG : ∀ w ∈ u_ws R_SG T_SG 6, w ∈ TW := List.forall_mem_cons.mpr ⟨tw_91, List.forall_mem_cons.mpr ⟨tw_93, List.forall_mem_cons.mpr ⟨tw_95, List.forall_mem_cons.mpr ⟨tw_97, List.forall_mem_cons.mpr ⟨tw_99, List.forall_mem_cons.mpr ⟨tw_101, fun _ h => absurd h List.not_mem_nil⟩⟩⟩⟩⟩⟩
def R_MD : String := "SiftedGraphsModel"
def T_MD : u_T := fun k => match k with
  | 0 => ("SiftedGraphsModel", "code", "I", false)
  | 1 => ("SiftedGraphsModel", "table", "[J", false)
  | 2 => ("SiftedGraphsModel", "held", "[Z", false)
  | 3 => ("SiftedGraphsModel", "order", "[I", false)
  | 4 => ("SiftedGraphsModel", "kept", "[I", false)
  | 5 => ("SiftedGraphsModel", "typed", "I", false)
  | 6 => ("SiftedGraphsModel", "text", "[I", false)
  | 7 => ("SiftedGraphsModel", "count", "I", false)
  | 8 => ("SiftedGraphsModel", "found", "[J", false)
  | 9 => ("SiftedGraphsModel", "operators", "I", false)
  | 10 => ("SiftedGraphsModel", "operator", "[I", false)
  | 11 => ("SiftedGraphsModel", "values", "I", false)
  | _ => ("SiftedGraphsModel", "stack", "[J", false)
def t_MD : Nat → FieldType := fun k => match k with
  | 0 => .int
  | 1 => .array .long
  | 2 => .array .boolean
  | 3 => .array .int
  | 4 => .array .int
  | 5 => .int
  | 6 => .array .int
  | 7 => .int
  | 8 => .array .long
  | 9 => .int
  | 10 => .array .int
  | 11 => .int
  | _ => .array .long
theorem n_MD : ∀ a, a < 13 → ∀ b, b < 13 → a ≠ b → (T_MD a).2.1 ≠ (T_MD b).2.1 := by decide +kernel
theorem t_MD_ok : ∀ k, k < 13 → parseFieldDescriptor (T_MD k).2.2.1 = some (t_MD k) := by decide +kernel
theorem i_MD : ∀ w ∈ u_ws R_MD T_MD 13, w ∈ TW := List.forall_mem_cons.mpr ⟨tw_483, List.forall_mem_cons.mpr ⟨tw_485, List.forall_mem_cons.mpr ⟨tw_487, List.forall_mem_cons.mpr ⟨tw_489, List.forall_mem_cons.mpr ⟨tw_491, List.forall_mem_cons.mpr ⟨tw_493, List.forall_mem_cons.mpr ⟨tw_495, List.forall_mem_cons.mpr ⟨tw_497, List.forall_mem_cons.mpr ⟨tw_499, List.forall_mem_cons.mpr ⟨tw_501, List.forall_mem_cons.mpr ⟨tw_503, List.forall_mem_cons.mpr ⟨tw_505, List.forall_mem_cons.mpr ⟨tw_507, fun _ h => absurd h List.not_mem_nil⟩⟩⟩⟩⟩⟩⟩⟩⟩⟩⟩⟩⟩
abbrev cl : List vw_C := [(R_FR, T_FR, 6), (R_NC, T_NC, 5), (R_RG, T_RG, 2), (R_SG, T_SG, 6), (R_MD, T_MD, 13)]
end
section
theorem d_SG_init_0 : decode b_SG_init 0 = .ok (.aload_n 0, 1) := by decide +kernel
theorem d_SG_init_1 : decode b_SG_init 1 = .ok (.invokespecial 3, 3) := by decide +kernel
theorem d_SG_init_4 : decode b_SG_init 4 = .ok (.aload_n 0, 1) := by decide +kernel
theorem d_SG_init_5 : decode b_SG_init 5 = .ok (.new 9, 3) := by decide +kernel
theorem d_SG_init_8 : decode b_SG_init 8 = .ok (.dup, 1) := by decide +kernel
theorem d_SG_init_9 : decode b_SG_init 9 = .ok (.invokespecial 11, 3) := by decide +kernel
theorem d_SG_init_12 : decode b_SG_init 12 = .ok (.putfield 12, 3) := by decide +kernel
theorem d_SG_init_15 : decode b_SG_init 15 = .ok (.aload_n 0, 1) := by decide +kernel
theorem d_SG_init_16 : decode b_SG_init 16 = .ok (.bipush 6, 2) := by decide +kernel
theorem d_SG_init_18 : decode b_SG_init 18 = .ok (.newarray .int, 2) := by decide +kernel
theorem d_SG_init_20 : decode b_SG_init 20 = .ok (.putfield 16, 3) := by decide +kernel
theorem d_SG_init_23 : decode b_SG_init 23 = .ok (.iconst 0, 1) := by decide +kernel
theorem d_SG_init_24 : decode b_SG_init 24 = .ok (.istore_n 1, 1) := by decide +kernel
theorem d_SG_init_25 : decode b_SG_init 25 = .ok (.iload_n 1, 1) := by decide +kernel
theorem d_SG_init_26 : decode b_SG_init 26 = .ok (.bipush 6, 2) := by decide +kernel
theorem d_SG_init_28 : decode b_SG_init 28 = .ok (.if_icmp .ge 16, 3) := by decide +kernel
theorem d_SG_init_31 : decode b_SG_init 31 = .ok (.aload_n 0, 1) := by decide +kernel
theorem d_SG_init_32 : decode b_SG_init 32 = .ok (.getfield 16, 3) := by decide +kernel
theorem d_SG_init_35 : decode b_SG_init 35 = .ok (.iload_n 1, 1) := by decide +kernel
theorem d_SG_init_36 : decode b_SG_init 36 = .ok (.iload_n 1, 1) := by decide +kernel
theorem d_SG_init_37 : decode b_SG_init 37 = .ok (.iastore, 1) := by decide +kernel
theorem d_SG_init_38 : decode b_SG_init 38 = .ok (.iinc 1 1, 3) := by decide +kernel
theorem d_SG_init_41 : decode b_SG_init 41 = .ok (.goto (-16), 3) := by decide +kernel
theorem d_SG_init_44 : decode b_SG_init 44 = .ok (.aload_n 0, 1) := by decide +kernel
theorem d_SG_init_45 : decode b_SG_init 45 = .ok (.bipush 40, 2) := by decide +kernel
theorem d_SG_init_47 : decode b_SG_init 47 = .ok (.newarray .char, 2) := by decide +kernel
theorem d_SG_init_49 : decode b_SG_init 49 = .ok (.putfield 20, 3) := by decide +kernel
theorem d_SG_init_52 : decode b_SG_init 52 = .ok (.aload_n 0, 1) := by decide +kernel
theorem d_SG_init_53 : decode b_SG_init 53 = .ok (.iconst 0, 1) := by decide +kernel
theorem d_SG_init_54 : decode b_SG_init 54 = .ok (.putfield 24, 3) := by decide +kernel
theorem d_SG_init_57 : decode b_SG_init 57 = .ok (.aload_n 0, 1) := by decide +kernel
theorem d_SG_init_58 : decode b_SG_init 58 = .ok (.new 28, 3) := by decide +kernel
theorem d_SG_init_61 : decode b_SG_init 61 = .ok (.dup, 1) := by decide +kernel
theorem d_SG_init_62 : decode b_SG_init 62 = .ok (.invokespecial 30, 3) := by decide +kernel
theorem d_SG_init_65 : decode b_SG_init 65 = .ok (.putfield 31, 3) := by decide +kernel
theorem d_SG_init_68 : decode b_SG_init 68 = .ok (.aload_n 0, 1) := by decide +kernel
theorem d_SG_init_69 : decode b_SG_init 69 = .ok (.new 35, 3) := by decide +kernel
theorem d_SG_init_72 : decode b_SG_init 72 = .ok (.dup, 1) := by decide +kernel
theorem d_SG_init_73 : decode b_SG_init 73 = .ok (.invokespecial 37, 3) := by decide +kernel
theorem d_SG_init_76 : decode b_SG_init 76 = .ok (.putfield 38, 3) := by decide +kernel
theorem d_SG_init_79 : decode b_SG_init 79 = .ok (.return_, 1) := by decide +kernel
theorem d_RG_init_0 : decode b_RG_init 0 = .ok (.aload_n 0, 1) := by decide +kernel
theorem d_RG_init_1 : decode b_RG_init 1 = .ok (.invokespecial 3, 3) := by decide +kernel
theorem d_RG_init_4 : decode b_RG_init 4 = .ok (.aload_n 0, 1) := by decide +kernel
theorem d_RG_init_5 : decode b_RG_init 5 = .ok (.bipush 8, 2) := by decide +kernel
theorem d_RG_init_7 : decode b_RG_init 7 = .ok (.newarray .long, 2) := by decide +kernel
theorem d_RG_init_9 : decode b_RG_init 9 = .ok (.putfield 9, 3) := by decide +kernel
theorem d_RG_init_12 : decode b_RG_init 12 = .ok (.aload_n 0, 1) := by decide +kernel
theorem d_RG_init_13 : decode b_RG_init 13 = .ok (.bipush 8, 2) := by decide +kernel
theorem d_RG_init_15 : decode b_RG_init 15 = .ok (.newarray .boolean, 2) := by decide +kernel
theorem d_RG_init_17 : decode b_RG_init 17 = .ok (.putfield 15, 3) := by decide +kernel
theorem d_RG_init_20 : decode b_RG_init 20 = .ok (.return_, 1) := by decide +kernel
theorem d_FR_init_0 : decode b_FR_init 0 = .ok (.aload_n 0, 1) := by decide +kernel
theorem d_FR_init_1 : decode b_FR_init 1 = .ok (.invokespecial 3, 3) := by decide +kernel
theorem d_FR_init_4 : decode b_FR_init 4 = .ok (.aload_n 0, 1) := by decide +kernel
theorem d_FR_init_5 : decode b_FR_init 5 = .ok (.bipush 6, 2) := by decide +kernel
theorem d_FR_init_7 : decode b_FR_init 7 = .ok (.newarray .long, 2) := by decide +kernel
theorem d_FR_init_9 : decode b_FR_init 9 = .ok (.putfield 11, 3) := by decide +kernel
theorem d_FR_init_12 : decode b_FR_init 12 = .ok (.aload_n 0, 1) := by decide +kernel
theorem d_FR_init_13 : decode b_FR_init 13 = .ok (.bipush 6, 2) := by decide +kernel
theorem d_FR_init_15 : decode b_FR_init 15 = .ok (.newarray .long, 2) := by decide +kernel
theorem d_FR_init_17 : decode b_FR_init 17 = .ok (.putfield 15, 3) := by decide +kernel
theorem d_FR_init_20 : decode b_FR_init 20 = .ok (.aload_n 0, 1) := by decide +kernel
theorem d_FR_init_21 : decode b_FR_init 21 = .ok (.bipush 6, 2) := by decide +kernel
theorem d_FR_init_23 : decode b_FR_init 23 = .ok (.newarray .long, 2) := by decide +kernel
theorem d_FR_init_25 : decode b_FR_init 25 = .ok (.putfield 18, 3) := by decide +kernel
theorem d_FR_init_28 : decode b_FR_init 28 = .ok (.aload_n 0, 1) := by decide +kernel
theorem d_FR_init_29 : decode b_FR_init 29 = .ok (.bipush 6, 2) := by decide +kernel
theorem d_FR_init_31 : decode b_FR_init 31 = .ok (.newarray .long, 2) := by decide +kernel
theorem d_FR_init_33 : decode b_FR_init 33 = .ok (.putfield 21, 3) := by decide +kernel
theorem d_FR_init_36 : decode b_FR_init 36 = .ok (.return_, 1) := by decide +kernel
theorem d_NC_init_0 : decode b_NC_init 0 = .ok (.aload_n 0, 1) := by decide +kernel
theorem d_NC_init_1 : decode b_NC_init 1 = .ok (.invokespecial 3, 3) := by decide +kernel
theorem d_NC_init_4 : decode b_NC_init 4 = .ok (.aload_n 0, 1) := by decide +kernel
theorem d_NC_init_5 : decode b_NC_init 5 = .ok (.bipush 64, 2) := by decide +kernel
theorem d_NC_init_7 : decode b_NC_init 7 = .ok (.newarray .long, 2) := by decide +kernel
theorem d_NC_init_9 : decode b_NC_init 9 = .ok (.putfield 11, 3) := by decide +kernel
theorem d_NC_init_12 : decode b_NC_init 12 = .ok (.aload_n 0, 1) := by decide +kernel
theorem d_NC_init_13 : decode b_NC_init 13 = .ok (.bipush 64, 2) := by decide +kernel
theorem d_NC_init_15 : decode b_NC_init 15 = .ok (.newarray .long, 2) := by decide +kernel
theorem d_NC_init_17 : decode b_NC_init 17 = .ok (.putfield 15, 3) := by decide +kernel
theorem d_NC_init_20 : decode b_NC_init 20 = .ok (.aload_n 0, 1) := by decide +kernel
theorem d_NC_init_21 : decode b_NC_init 21 = .ok (.bipush 6, 2) := by decide +kernel
theorem d_NC_init_23 : decode b_NC_init 23 = .ok (.newarray .int, 2) := by decide +kernel
theorem d_NC_init_25 : decode b_NC_init 25 = .ok (.putfield 18, 3) := by decide +kernel
theorem d_NC_init_28 : decode b_NC_init 28 = .ok (.return_, 1) := by decide +kernel
theorem d_SG_shared_0 : decode b_SG_shared 0 = .ok (.aload_n 0, 1) := by decide +kernel
theorem d_SG_shared_1 : decode b_SG_shared 1 = .ok (.invokevirtual 121, 3) := by decide +kernel
theorem d_SG_shared_4 : decode b_SG_shared 4 = .ok (.ireturn, 1) := by decide +kernel
theorem d_SG_nodesOfAll_0 : decode b_SG_nodesOfAll 0 = .ok (.aload_n 0, 1) := by decide +kernel
theorem d_SG_nodesOfAll_1 : decode b_SG_nodesOfAll 1 = .ok (.getfield 38, 3) := by decide +kernel
theorem d_SG_nodesOfAll_4 : decode b_SG_nodesOfAll 4 = .ok (.invokevirtual 110, 3) := by decide +kernel
theorem d_SG_nodesOfAll_7 : decode b_SG_nodesOfAll 7 = .ok (.iconst 0, 1) := by decide +kernel
theorem d_SG_nodesOfAll_8 : decode b_SG_nodesOfAll 8 = .ok (.istore_n 1, 1) := by decide +kernel
theorem d_SG_nodesOfAll_9 : decode b_SG_nodesOfAll 9 = .ok (.iload_n 1, 1) := by decide +kernel
theorem d_SG_nodesOfAll_10 : decode b_SG_nodesOfAll 10 = .ok (.bipush 8, 2) := by decide +kernel
theorem d_SG_nodesOfAll_12 : decode b_SG_nodesOfAll 12 = .ok (.if_icmp .ge 35, 3) := by decide +kernel
theorem d_SG_nodesOfAll_15 : decode b_SG_nodesOfAll 15 = .ok (.aload_n 0, 1) := by decide +kernel
theorem d_SG_nodesOfAll_16 : decode b_SG_nodesOfAll 16 = .ok (.getfield 12, 3) := by decide +kernel
theorem d_SG_nodesOfAll_19 : decode b_SG_nodesOfAll 19 = .ok (.iload_n 1, 1) := by decide +kernel
theorem d_SG_nodesOfAll_20 : decode b_SG_nodesOfAll 20 = .ok (.invokevirtual 89, 3) := by decide +kernel
theorem d_SG_nodesOfAll_23 : decode b_SG_nodesOfAll 23 = .ok (.ifCond .eq 18, 3) := by decide +kernel
theorem d_SG_nodesOfAll_26 : decode b_SG_nodesOfAll 26 = .ok (.aload_n 0, 1) := by decide +kernel
theorem d_SG_nodesOfAll_27 : decode b_SG_nodesOfAll 27 = .ok (.getfield 38, 3) := by decide +kernel
theorem d_SG_nodesOfAll_30 : decode b_SG_nodesOfAll 30 = .ok (.aload_n 0, 1) := by decide +kernel
theorem d_SG_nodesOfAll_31 : decode b_SG_nodesOfAll 31 = .ok (.getfield 12, 3) := by decide +kernel
theorem d_SG_nodesOfAll_34 : decode b_SG_nodesOfAll 34 = .ok (.iload_n 1, 1) := by decide +kernel
theorem d_SG_nodesOfAll_35 : decode b_SG_nodesOfAll 35 = .ok (.invokevirtual 141, 3) := by decide +kernel
theorem d_SG_nodesOfAll_38 : decode b_SG_nodesOfAll 38 = .ok (.invokevirtual 113, 3) := by decide +kernel
theorem d_SG_nodesOfAll_41 : decode b_SG_nodesOfAll 41 = .ok (.iinc 1 1, 3) := by decide +kernel
theorem d_SG_nodesOfAll_44 : decode b_SG_nodesOfAll 44 = .ok (.goto (-35), 3) := by decide +kernel
theorem d_SG_nodesOfAll_47 : decode b_SG_nodesOfAll 47 = .ok (.aload_n 0, 1) := by decide +kernel
theorem d_SG_nodesOfAll_48 : decode b_SG_nodesOfAll 48 = .ok (.getfield 38, 3) := by decide +kernel
theorem d_SG_nodesOfAll_51 : decode b_SG_nodesOfAll 51 = .ok (.aload_n 0, 1) := by decide +kernel
theorem d_SG_nodesOfAll_52 : decode b_SG_nodesOfAll 52 = .ok (.getfield 16, 3) := by decide +kernel
theorem d_SG_nodesOfAll_55 : decode b_SG_nodesOfAll 55 = .ok (.invokevirtual 117, 3) := by decide +kernel
theorem d_SG_nodesOfAll_58 : decode b_SG_nodesOfAll 58 = .ok (.ireturn, 1) := by decide +kernel
theorem d_NC_begin_0 : decode b_NC_begin 0 = .ok (.aload_n 0, 1) := by decide +kernel
theorem d_NC_begin_1 : decode b_NC_begin 1 = .ok (.iconst 0, 1) := by decide +kernel
theorem d_NC_begin_2 : decode b_NC_begin 2 = .ok (.putfield 22, 3) := by decide +kernel
theorem d_NC_begin_5 : decode b_NC_begin 5 = .ok (.return_, 1) := by decide +kernel
theorem d_RG_isHeld_0 : decode b_RG_isHeld 0 = .ok (.aload_n 0, 1) := by decide +kernel
theorem d_RG_isHeld_1 : decode b_RG_isHeld 1 = .ok (.getfield 15, 3) := by decide +kernel
theorem d_RG_isHeld_4 : decode b_RG_isHeld 4 = .ok (.iload_n 1, 1) := by decide +kernel
theorem d_RG_isHeld_5 : decode b_RG_isHeld 5 = .ok (.baload, 1) := by decide +kernel
theorem d_RG_isHeld_6 : decode b_RG_isHeld 6 = .ok (.ireturn, 1) := by decide +kernel
theorem d_RG_table_0 : decode b_RG_table 0 = .ok (.aload_n 0, 1) := by decide +kernel
theorem d_RG_table_1 : decode b_RG_table 1 = .ok (.getfield 9, 3) := by decide +kernel
theorem d_RG_table_4 : decode b_RG_table 4 = .ok (.iload_n 1, 1) := by decide +kernel
theorem d_RG_table_5 : decode b_RG_table 5 = .ok (.laload, 1) := by decide +kernel
theorem d_RG_table_6 : decode b_RG_table 6 = .ok (.lreturn, 1) := by decide +kernel
theorem d_NC_add_0 : decode b_NC_add 0 = .ok (.iconst 0, 1) := by decide +kernel
theorem d_NC_add_1 : decode b_NC_add 1 = .ok (.istore_n 3, 1) := by decide +kernel
theorem d_NC_add_2 : decode b_NC_add 2 = .ok (.iload_n 3, 1) := by decide +kernel
theorem d_NC_add_3 : decode b_NC_add 3 = .ok (.aload_n 0, 1) := by decide +kernel
theorem d_NC_add_4 : decode b_NC_add 4 = .ok (.getfield 22, 3) := by decide +kernel
theorem d_NC_add_7 : decode b_NC_add 7 = .ok (.if_icmp .ge 21, 3) := by decide +kernel
theorem d_NC_add_10 : decode b_NC_add 10 = .ok (.aload_n 0, 1) := by decide +kernel
theorem d_NC_add_11 : decode b_NC_add 11 = .ok (.getfield 15, 3) := by decide +kernel
theorem d_NC_add_14 : decode b_NC_add 14 = .ok (.iload_n 3, 1) := by decide +kernel
theorem d_NC_add_15 : decode b_NC_add 15 = .ok (.laload, 1) := by decide +kernel
theorem d_NC_add_16 : decode b_NC_add 16 = .ok (.lload_n 1, 1) := by decide +kernel
theorem d_NC_add_17 : decode b_NC_add 17 = .ok (.lcmp, 1) := by decide +kernel
theorem d_NC_add_18 : decode b_NC_add 18 = .ok (.ifCond .ne 4, 3) := by decide +kernel
theorem d_NC_add_21 : decode b_NC_add 21 = .ok (.return_, 1) := by decide +kernel
theorem d_NC_add_22 : decode b_NC_add 22 = .ok (.iinc 3 1, 3) := by decide +kernel
theorem d_NC_add_25 : decode b_NC_add 25 = .ok (.goto (-23), 3) := by decide +kernel
theorem d_NC_add_28 : decode b_NC_add 28 = .ok (.aload_n 0, 1) := by decide +kernel
theorem d_NC_add_29 : decode b_NC_add 29 = .ok (.getfield 22, 3) := by decide +kernel
theorem d_NC_add_32 : decode b_NC_add 32 = .ok (.bipush 64, 2) := by decide +kernel
theorem d_NC_add_34 : decode b_NC_add 34 = .ok (.if_icmp .ge 23, 3) := by decide +kernel
theorem d_NC_add_37 : decode b_NC_add 37 = .ok (.aload_n 0, 1) := by decide +kernel
theorem d_NC_add_38 : decode b_NC_add 38 = .ok (.getfield 15, 3) := by decide +kernel
theorem d_NC_add_41 : decode b_NC_add 41 = .ok (.aload_n 0, 1) := by decide +kernel
theorem d_NC_add_42 : decode b_NC_add 42 = .ok (.getfield 22, 3) := by decide +kernel
theorem d_NC_add_45 : decode b_NC_add 45 = .ok (.lload_n 1, 1) := by decide +kernel
theorem d_NC_add_46 : decode b_NC_add 46 = .ok (.lastore, 1) := by decide +kernel
theorem d_NC_add_47 : decode b_NC_add 47 = .ok (.aload_n 0, 1) := by decide +kernel
theorem d_NC_add_48 : decode b_NC_add 48 = .ok (.dup, 1) := by decide +kernel
theorem d_NC_add_49 : decode b_NC_add 49 = .ok (.getfield 22, 3) := by decide +kernel
theorem d_NC_add_52 : decode b_NC_add 52 = .ok (.iconst 1, 1) := by decide +kernel
theorem d_NC_add_53 : decode b_NC_add 53 = .ok (.iadd, 1) := by decide +kernel
theorem d_NC_add_54 : decode b_NC_add 54 = .ok (.putfield 22, 3) := by decide +kernel
theorem d_NC_add_57 : decode b_NC_add 57 = .ok (.return_, 1) := by decide +kernel
theorem d_NC_total_0 : decode b_NC_total 0 = .ok (.iconst 0, 1) := by decide +kernel
theorem d_NC_total_1 : decode b_NC_total 1 = .ok (.istore_n 2, 1) := by decide +kernel
theorem d_NC_total_2 : decode b_NC_total 2 = .ok (.iconst 0, 1) := by decide +kernel
theorem d_NC_total_3 : decode b_NC_total 3 = .ok (.istore_n 3, 1) := by decide +kernel
theorem d_NC_total_4 : decode b_NC_total 4 = .ok (.iload_n 3, 1) := by decide +kernel
theorem d_NC_total_5 : decode b_NC_total 5 = .ok (.bipush 6, 2) := by decide +kernel
theorem d_NC_total_7 : decode b_NC_total 7 = .ok (.if_icmp .ge 35, 3) := by decide +kernel
theorem d_NC_total_10 : decode b_NC_total 10 = .ok (.aload_n 0, 1) := by decide +kernel
theorem d_NC_total_11 : decode b_NC_total 11 = .ok (.invokevirtual 26, 3) := by decide +kernel
theorem d_NC_total_14 : decode b_NC_total 14 = .ok (.aload_n 0, 1) := by decide +kernel
theorem d_NC_total_15 : decode b_NC_total 15 = .ok (.getfield 18, 3) := by decide +kernel
theorem d_NC_total_18 : decode b_NC_total 18 = .ok (.iload_n 3, 1) := by decide +kernel
theorem d_NC_total_19 : decode b_NC_total 19 = .ok (.aload_n 0, 1) := by decide +kernel
theorem d_NC_total_20 : decode b_NC_total 20 = .ok (.aload_n 1, 1) := by decide +kernel
theorem d_NC_total_21 : decode b_NC_total 21 = .ok (.iload_n 3, 1) := by decide +kernel
theorem d_NC_total_22 : decode b_NC_total 22 = .ok (.iaload, 1) := by decide +kernel
theorem d_NC_total_23 : decode b_NC_total 23 = .ok (.invokevirtual 29, 3) := by decide +kernel
theorem d_NC_total_26 : decode b_NC_total 26 = .ok (.iastore, 1) := by decide +kernel
theorem d_NC_total_27 : decode b_NC_total 27 = .ok (.iload_n 2, 1) := by decide +kernel
theorem d_NC_total_28 : decode b_NC_total 28 = .ok (.aload_n 0, 1) := by decide +kernel
theorem d_NC_total_29 : decode b_NC_total 29 = .ok (.getfield 18, 3) := by decide +kernel
theorem d_NC_total_32 : decode b_NC_total 32 = .ok (.iload_n 3, 1) := by decide +kernel
theorem d_NC_total_33 : decode b_NC_total 33 = .ok (.iaload, 1) := by decide +kernel
theorem d_NC_total_34 : decode b_NC_total 34 = .ok (.iadd, 1) := by decide +kernel
theorem d_NC_total_35 : decode b_NC_total 35 = .ok (.istore_n 2, 1) := by decide +kernel
theorem d_NC_total_36 : decode b_NC_total 36 = .ok (.iinc 3 1, 3) := by decide +kernel
theorem d_NC_total_39 : decode b_NC_total 39 = .ok (.goto (-35), 3) := by decide +kernel
theorem d_NC_total_42 : decode b_NC_total 42 = .ok (.iload_n 2, 1) := by decide +kernel
theorem d_NC_total_43 : decode b_NC_total 43 = .ok (.ireturn, 1) := by decide +kernel
theorem d_NC_goDown_0 : decode b_NC_goDown 0 = .ok (.aload_n 0, 1) := by decide +kernel
theorem d_NC_goDown_1 : decode b_NC_goDown 1 = .ok (.getfield 11, 3) := by decide +kernel
theorem d_NC_goDown_4 : decode b_NC_goDown 4 = .ok (.astore_n 1, 1) := by decide +kernel
theorem d_NC_goDown_5 : decode b_NC_goDown 5 = .ok (.aload_n 0, 1) := by decide +kernel
theorem d_NC_goDown_6 : decode b_NC_goDown 6 = .ok (.aload_n 0, 1) := by decide +kernel
theorem d_NC_goDown_7 : decode b_NC_goDown 7 = .ok (.getfield 15, 3) := by decide +kernel
theorem d_NC_goDown_10 : decode b_NC_goDown 10 = .ok (.putfield 11, 3) := by decide +kernel
theorem d_NC_goDown_13 : decode b_NC_goDown 13 = .ok (.aload_n 0, 1) := by decide +kernel
theorem d_NC_goDown_14 : decode b_NC_goDown 14 = .ok (.aload_n 0, 1) := by decide +kernel
theorem d_NC_goDown_15 : decode b_NC_goDown 15 = .ok (.getfield 22, 3) := by decide +kernel
theorem d_NC_goDown_18 : decode b_NC_goDown 18 = .ok (.putfield 33, 3) := by decide +kernel
theorem d_NC_goDown_21 : decode b_NC_goDown 21 = .ok (.aload_n 0, 1) := by decide +kernel
theorem d_NC_goDown_22 : decode b_NC_goDown 22 = .ok (.aload_n 1, 1) := by decide +kernel
theorem d_NC_goDown_23 : decode b_NC_goDown 23 = .ok (.putfield 15, 3) := by decide +kernel
theorem d_NC_goDown_26 : decode b_NC_goDown 26 = .ok (.aload_n 0, 1) := by decide +kernel
theorem d_NC_goDown_27 : decode b_NC_goDown 27 = .ok (.iconst 0, 1) := by decide +kernel
theorem d_NC_goDown_28 : decode b_NC_goDown 28 = .ok (.putfield 22, 3) := by decide +kernel
theorem d_NC_goDown_31 : decode b_NC_goDown 31 = .ok (.return_, 1) := by decide +kernel
theorem d_NC_branch_0 : decode b_NC_branch 0 = .ok (.iconst 0, 1) := by decide +kernel
theorem d_NC_branch_1 : decode b_NC_branch 1 = .ok (.istore_n 2, 1) := by decide +kernel
theorem d_NC_branch_2 : decode b_NC_branch 2 = .ok (.iconst 0, 1) := by decide +kernel
theorem d_NC_branch_3 : decode b_NC_branch 3 = .ok (.istore_n 3, 1) := by decide +kernel
theorem d_NC_branch_4 : decode b_NC_branch 4 = .ok (.iload_n 3, 1) := by decide +kernel
theorem d_NC_branch_5 : decode b_NC_branch 5 = .ok (.aload_n 0, 1) := by decide +kernel
theorem d_NC_branch_6 : decode b_NC_branch 6 = .ok (.getfield 33, 3) := by decide +kernel
theorem d_NC_branch_9 : decode b_NC_branch 9 = .ok (.if_icmp .ge 56, 3) := by decide +kernel
theorem d_NC_branch_12 : decode b_NC_branch 12 = .ok (.aload_n 0, 1) := by decide +kernel
theorem d_NC_branch_13 : decode b_NC_branch 13 = .ok (.getfield 11, 3) := by decide +kernel
theorem d_NC_branch_16 : decode b_NC_branch 16 = .ok (.iload_n 3, 1) := by decide +kernel
theorem d_NC_branch_17 : decode b_NC_branch 17 = .ok (.laload, 1) := by decide +kernel
theorem d_NC_branch_18 : decode b_NC_branch 18 = .ok (.iload_n 1, 1) := by decide +kernel
theorem d_NC_branch_19 : decode b_NC_branch 19 = .ok (.invokestatic 36, 3) := by decide +kernel
theorem d_NC_branch_22 : decode b_NC_branch 22 = .ok (.lstore 4, 2) := by decide +kernel
theorem d_NC_branch_24 : decode b_NC_branch 24 = .ok (.aload_n 0, 1) := by decide +kernel
theorem d_NC_branch_25 : decode b_NC_branch 25 = .ok (.getfield 11, 3) := by decide +kernel
theorem d_NC_branch_28 : decode b_NC_branch 28 = .ok (.iload_n 3, 1) := by decide +kernel
theorem d_NC_branch_29 : decode b_NC_branch 29 = .ok (.laload, 1) := by decide +kernel
theorem d_NC_branch_30 : decode b_NC_branch 30 = .ok (.iload_n 1, 1) := by decide +kernel
theorem d_NC_branch_31 : decode b_NC_branch 31 = .ok (.invokestatic 42, 3) := by decide +kernel
theorem d_NC_branch_34 : decode b_NC_branch 34 = .ok (.lstore 6, 2) := by decide +kernel
theorem d_NC_branch_36 : decode b_NC_branch 36 = .ok (.aload_n 0, 1) := by decide +kernel
theorem d_NC_branch_37 : decode b_NC_branch 37 = .ok (.lload 4, 2) := by decide +kernel
theorem d_NC_branch_39 : decode b_NC_branch 39 = .ok (.invokevirtual 45, 3) := by decide +kernel
theorem d_NC_branch_42 : decode b_NC_branch 42 = .ok (.lload 4, 2) := by decide +kernel
theorem d_NC_branch_44 : decode b_NC_branch 44 = .ok (.lload 6, 2) := by decide +kernel
theorem d_NC_branch_46 : decode b_NC_branch 46 = .ok (.lcmp, 1) := by decide +kernel
theorem d_NC_branch_47 : decode b_NC_branch 47 = .ok (.ifCond .eq 12, 3) := by decide +kernel
theorem d_NC_branch_50 : decode b_NC_branch 50 = .ok (.iinc 2 1, 3) := by decide +kernel
theorem d_NC_branch_53 : decode b_NC_branch 53 = .ok (.aload_n 0, 1) := by decide +kernel
theorem d_NC_branch_54 : decode b_NC_branch 54 = .ok (.lload 6, 2) := by decide +kernel
theorem d_NC_branch_56 : decode b_NC_branch 56 = .ok (.invokevirtual 45, 3) := by decide +kernel
theorem d_NC_branch_59 : decode b_NC_branch 59 = .ok (.iinc 3 1, 3) := by decide +kernel
theorem d_NC_branch_62 : decode b_NC_branch 62 = .ok (.goto (-58), 3) := by decide +kernel
theorem d_NC_branch_65 : decode b_NC_branch 65 = .ok (.iload_n 2, 1) := by decide +kernel
theorem d_NC_branch_66 : decode b_NC_branch 66 = .ok (.ireturn, 1) := by decide +kernel
theorem d_TB_withZero_0 : decode b_TB_withZero 0 = .ok (.lload_n 0, 1) := by decide +kernel
theorem d_TB_withZero_1 : decode b_TB_withZero 1 = .ok (.getstatic 9, 3) := by decide +kernel
theorem d_TB_withZero_4 : decode b_TB_withZero 4 = .ok (.iload_n 2, 1) := by decide +kernel
theorem d_TB_withZero_5 : decode b_TB_withZero 5 = .ok (.laload, 1) := by decide +kernel
theorem d_TB_withZero_6 : decode b_TB_withZero 6 = .ok (.ldc2_w 15, 3) := by decide +kernel
theorem d_TB_withZero_9 : decode b_TB_withZero 9 = .ok (.lxor, 1) := by decide +kernel
theorem d_TB_withZero_10 : decode b_TB_withZero 10 = .ok (.land, 1) := by decide +kernel
theorem d_TB_withZero_11 : decode b_TB_withZero 11 = .ok (.lstore_n 3, 1) := by decide +kernel
theorem d_TB_withZero_12 : decode b_TB_withZero 12 = .ok (.lload_n 3, 1) := by decide +kernel
theorem d_TB_withZero_13 : decode b_TB_withZero 13 = .ok (.lload_n 3, 1) := by decide +kernel
theorem d_TB_withZero_14 : decode b_TB_withZero 14 = .ok (.iload_n 2, 1) := by decide +kernel
theorem d_TB_withZero_15 : decode b_TB_withZero 15 = .ok (.invokestatic 17, 3) := by decide +kernel
theorem d_TB_withZero_18 : decode b_TB_withZero 18 = .ok (.lshl, 1) := by decide +kernel
theorem d_TB_withZero_19 : decode b_TB_withZero 19 = .ok (.lor, 1) := by decide +kernel
theorem d_TB_withZero_20 : decode b_TB_withZero 20 = .ok (.lreturn, 1) := by decide +kernel
theorem d_TB_weight_0 : decode b_TB_weight 0 = .ok (.iconst 1, 1) := by decide +kernel
theorem d_TB_weight_1 : decode b_TB_weight 1 = .ok (.iconst 5, 1) := by decide +kernel
theorem d_TB_weight_2 : decode b_TB_weight 2 = .ok (.iload_n 0, 1) := by decide +kernel
theorem d_TB_weight_3 : decode b_TB_weight 3 = .ok (.isub, 1) := by decide +kernel
theorem d_TB_weight_4 : decode b_TB_weight 4 = .ok (.ishl, 1) := by decide +kernel
theorem d_TB_weight_5 : decode b_TB_weight 5 = .ok (.ireturn, 1) := by decide +kernel
theorem d_TB_withOne_0 : decode b_TB_withOne 0 = .ok (.lload_n 0, 1) := by decide +kernel
theorem d_TB_withOne_1 : decode b_TB_withOne 1 = .ok (.getstatic 9, 3) := by decide +kernel
theorem d_TB_withOne_4 : decode b_TB_withOne 4 = .ok (.iload_n 2, 1) := by decide +kernel
theorem d_TB_withOne_5 : decode b_TB_withOne 5 = .ok (.laload, 1) := by decide +kernel
theorem d_TB_withOne_6 : decode b_TB_withOne 6 = .ok (.land, 1) := by decide +kernel
theorem d_TB_withOne_7 : decode b_TB_withOne 7 = .ok (.lstore_n 3, 1) := by decide +kernel
theorem d_TB_withOne_8 : decode b_TB_withOne 8 = .ok (.lload_n 3, 1) := by decide +kernel
theorem d_TB_withOne_9 : decode b_TB_withOne 9 = .ok (.lload_n 3, 1) := by decide +kernel
theorem d_TB_withOne_10 : decode b_TB_withOne 10 = .ok (.iload_n 2, 1) := by decide +kernel
theorem d_TB_withOne_11 : decode b_TB_withOne 11 = .ok (.invokestatic 17, 3) := by decide +kernel
theorem d_TB_withOne_14 : decode b_TB_withOne 14 = .ok (.lushr, 1) := by decide +kernel
theorem d_TB_withOne_15 : decode b_TB_withOne 15 = .ok (.lor, 1) := by decide +kernel
theorem d_TB_withOne_16 : decode b_TB_withOne 16 = .ok (.lreturn, 1) := by decide +kernel
theorem d_LW_set_0 : decode b_LW_set 0 = .ok (.aload_n 0, 1) := by decide +kernel
theorem d_LW_set_1 : decode b_LW_set 1 = .ok (.iload_n 1, 1) := by decide +kernel
theorem d_LW_set_2 : decode b_LW_set 2 = .ok (.iload_n 2, 1) := by decide +kernel
theorem d_LW_set_3 : decode b_LW_set 3 = .ok (.invokevirtual 7, 3) := by decide +kernel
theorem d_LW_set_6 : decode b_LW_set 6 = .ok (.goto 6, 3) := by decide +kernel
theorem d_LW_set_9 : decode b_LW_set 9 = .ok (.astore_n 3, 1) := by decide +kernel
theorem d_LW_set_10 : decode b_LW_set 10 = .ok (.iconst 1, 1) := by decide +kernel
theorem d_LW_set_11 : decode b_LW_set 11 = .ok (.ireturn, 1) := by decide +kernel
theorem d_LW_set_12 : decode b_LW_set 12 = .ok (.iconst 0, 1) := by decide +kernel
theorem d_LW_set_13 : decode b_LW_set 13 = .ok (.ireturn, 1) := by decide +kernel
theorem d_SG_set_0 : decode b_SG_set 0 = .ok (.iload_n 1, 1) := by decide +kernel
theorem d_SG_set_1 : decode b_SG_set 1 = .ok (.bipush 8, 2) := by decide +kernel
theorem d_SG_set_3 : decode b_SG_set 3 = .ok (.invokestatic 42, 3) := by decide +kernel
theorem d_SG_set_6 : decode b_SG_set 6 = .ok (.iload_n 2, 1) := by decide +kernel
theorem d_SG_set_7 : decode b_SG_set 7 = .ok (.bipush 14, 2) := by decide +kernel
theorem d_SG_set_9 : decode b_SG_set 9 = .ok (.invokestatic 42, 3) := by decide +kernel
theorem d_SG_set_12 : decode b_SG_set 12 = .ok (.iload_n 2, 1) := by decide +kernel
theorem d_SG_set_13 : decode b_SG_set 13 = .ok (.iconst 2, 1) := by decide +kernel
theorem d_SG_set_14 : decode b_SG_set 14 = .ok (.if_icmp .ge 7, 3) := by decide +kernel
theorem d_SG_set_17 : decode b_SG_set 17 = .ok (.lconst 0, 1) := by decide +kernel
theorem d_SG_set_18 : decode b_SG_set 18 = .ok (.goto 11, 3) := by decide +kernel
theorem d_SG_set_21 : decode b_SG_set 21 = .ok (.iload_n 2, 1) := by decide +kernel
theorem d_SG_set_22 : decode b_SG_set 22 = .ok (.iconst 2, 1) := by decide +kernel
theorem d_SG_set_23 : decode b_SG_set 23 = .ok (.isub, 1) := by decide +kernel
theorem d_SG_set_24 : decode b_SG_set 24 = .ok (.iconst 2, 1) := by decide +kernel
theorem d_SG_set_25 : decode b_SG_set 25 = .ok (.idiv, 1) := by decide +kernel
theorem d_SG_set_26 : decode b_SG_set 26 = .ok (.invokestatic 48, 3) := by decide +kernel
theorem d_SG_set_29 : decode b_SG_set 29 = .ok (.lstore_n 3, 1) := by decide +kernel
theorem d_SG_set_30 : decode b_SG_set 30 = .ok (.aload_n 0, 1) := by decide +kernel
theorem d_SG_set_31 : decode b_SG_set 31 = .ok (.getfield 12, 3) := by decide +kernel
theorem d_SG_set_34 : decode b_SG_set 34 = .ok (.iload_n 1, 1) := by decide +kernel
theorem d_SG_set_35 : decode b_SG_set 35 = .ok (.iload_n 2, 1) := by decide +kernel
theorem d_SG_set_36 : decode b_SG_set 36 = .ok (.iconst 2, 1) := by decide +kernel
theorem d_SG_set_37 : decode b_SG_set 37 = .ok (.irem, 1) := by decide +kernel
theorem d_SG_set_38 : decode b_SG_set 38 = .ok (.ifCond .ne 7, 3) := by decide +kernel
theorem d_SG_set_41 : decode b_SG_set 41 = .ok (.lload_n 3, 1) := by decide +kernel
theorem d_SG_set_42 : decode b_SG_set 42 = .ok (.goto 8, 3) := by decide +kernel
theorem d_SG_set_45 : decode b_SG_set 45 = .ok (.lload_n 3, 1) := by decide +kernel
theorem d_SG_set_46 : decode b_SG_set 46 = .ok (.ldc2_w 52, 3) := by decide +kernel
theorem d_SG_set_49 : decode b_SG_set 49 = .ok (.lxor, 1) := by decide +kernel
theorem d_SG_set_50 : decode b_SG_set 50 = .ok (.invokevirtual 54, 3) := by decide +kernel
theorem d_SG_set_53 : decode b_SG_set 53 = .ok (.return_, 1) := by decide +kernel
theorem d_SG_checkBelow_0 : decode b_SG_checkBelow 0 = .ok (.iload_n 0, 1) := by decide +kernel
theorem d_SG_checkBelow_1 : decode b_SG_checkBelow 1 = .ok (.ifCond .lt 8, 3) := by decide +kernel
theorem d_SG_checkBelow_4 : decode b_SG_checkBelow 4 = .ok (.iload_n 0, 1) := by decide +kernel
theorem d_SG_checkBelow_5 : decode b_SG_checkBelow 5 = .ok (.iload_n 1, 1) := by decide +kernel
theorem d_SG_checkBelow_6 : decode b_SG_checkBelow 6 = .ok (.if_icmp .lt 11, 3) := by decide +kernel
theorem d_SG_checkBelow_9 : decode b_SG_checkBelow 9 = .ok (.new 76, 3) := by decide +kernel
theorem d_SG_checkBelow_12 : decode b_SG_checkBelow 12 = .ok (.dup, 1) := by decide +kernel
theorem d_SG_checkBelow_13 : decode b_SG_checkBelow 13 = .ok (.invokespecial 78, 3) := by decide +kernel
theorem d_SG_checkBelow_16 : decode b_SG_checkBelow 16 = .ok (.athrow, 1) := by decide +kernel
theorem d_SG_checkBelow_17 : decode b_SG_checkBelow 17 = .ok (.return_, 1) := by decide +kernel
theorem d_TB_ofVariable_0 : decode b_TB_ofVariable 0 = .ok (.getstatic 9, 3) := by decide +kernel
theorem d_TB_ofVariable_3 : decode b_TB_ofVariable 3 = .ok (.iload_n 0, 1) := by decide +kernel
theorem d_TB_ofVariable_4 : decode b_TB_ofVariable 4 = .ok (.laload, 1) := by decide +kernel
theorem d_TB_ofVariable_5 : decode b_TB_ofVariable 5 = .ok (.lreturn, 1) := by decide +kernel
theorem d_RG_put_0 : decode b_RG_put 0 = .ok (.aload_n 0, 1) := by decide +kernel
theorem d_RG_put_1 : decode b_RG_put 1 = .ok (.getfield 9, 3) := by decide +kernel
theorem d_RG_put_4 : decode b_RG_put 4 = .ok (.iload_n 1, 1) := by decide +kernel
theorem d_RG_put_5 : decode b_RG_put 5 = .ok (.lload_n 2, 1) := by decide +kernel
theorem d_RG_put_6 : decode b_RG_put 6 = .ok (.lastore, 1) := by decide +kernel
theorem d_RG_put_7 : decode b_RG_put 7 = .ok (.aload_n 0, 1) := by decide +kernel
theorem d_RG_put_8 : decode b_RG_put 8 = .ok (.getfield 15, 3) := by decide +kernel
theorem d_RG_put_11 : decode b_RG_put 11 = .ok (.iload_n 1, 1) := by decide +kernel
theorem d_RG_put_12 : decode b_RG_put 12 = .ok (.iconst 1, 1) := by decide +kernel
theorem d_RG_put_13 : decode b_RG_put 13 = .ok (.bastore, 1) := by decide +kernel
theorem d_RG_put_14 : decode b_RG_put 14 = .ok (.return_, 1) := by decide +kernel
theorem d_LW_apply_0 : decode b_LW_apply 0 = .ok (.aload_n 0, 1) := by decide +kernel
theorem d_LW_apply_1 : decode b_LW_apply 1 = .ok (.iload_n 1, 1) := by decide +kernel
theorem d_LW_apply_2 : decode b_LW_apply 2 = .ok (.iload_n 2, 1) := by decide +kernel
theorem d_LW_apply_3 : decode b_LW_apply 3 = .ok (.iload_n 3, 1) := by decide +kernel
theorem d_LW_apply_4 : decode b_LW_apply 4 = .ok (.iload 4, 2) := by decide +kernel
theorem d_LW_apply_6 : decode b_LW_apply 6 = .ok (.invokevirtual 15, 3) := by decide +kernel
theorem d_LW_apply_9 : decode b_LW_apply 9 = .ok (.goto 11, 3) := by decide +kernel
theorem d_LW_apply_12 : decode b_LW_apply 12 = .ok (.astore 5, 2) := by decide +kernel
theorem d_LW_apply_14 : decode b_LW_apply 14 = .ok (.iconst 1, 1) := by decide +kernel
theorem d_LW_apply_15 : decode b_LW_apply 15 = .ok (.ireturn, 1) := by decide +kernel
theorem d_LW_apply_16 : decode b_LW_apply 16 = .ok (.astore 5, 2) := by decide +kernel
theorem d_LW_apply_18 : decode b_LW_apply 18 = .ok (.iconst 2, 1) := by decide +kernel
theorem d_LW_apply_19 : decode b_LW_apply 19 = .ok (.ireturn, 1) := by decide +kernel
theorem d_LW_apply_20 : decode b_LW_apply 20 = .ok (.iconst 0, 1) := by decide +kernel
theorem d_LW_apply_21 : decode b_LW_apply 21 = .ok (.ireturn, 1) := by decide +kernel
theorem d_SG_apply_0 : decode b_SG_apply 0 = .ok (.iload_n 1, 1) := by decide +kernel
theorem d_SG_apply_1 : decode b_SG_apply 1 = .ok (.bipush 8, 2) := by decide +kernel
theorem d_SG_apply_3 : decode b_SG_apply 3 = .ok (.invokestatic 42, 3) := by decide +kernel
theorem d_SG_apply_6 : decode b_SG_apply 6 = .ok (.iload_n 2, 1) := by decide +kernel
theorem d_SG_apply_7 : decode b_SG_apply 7 = .ok (.bipush 8, 2) := by decide +kernel
theorem d_SG_apply_9 : decode b_SG_apply 9 = .ok (.invokestatic 42, 3) := by decide +kernel
theorem d_SG_apply_12 : decode b_SG_apply 12 = .ok (.iload_n 3, 1) := by decide +kernel
theorem d_SG_apply_13 : decode b_SG_apply 13 = .ok (.bipush 8, 2) := by decide +kernel
theorem d_SG_apply_15 : decode b_SG_apply 15 = .ok (.invokestatic 42, 3) := by decide +kernel
theorem d_SG_apply_18 : decode b_SG_apply 18 = .ok (.iload 4, 2) := by decide +kernel
theorem d_SG_apply_20 : decode b_SG_apply 20 = .ok (.bipush 16, 2) := by decide +kernel
theorem d_SG_apply_22 : decode b_SG_apply 22 = .ok (.invokestatic 42, 3) := by decide +kernel
theorem d_SG_apply_25 : decode b_SG_apply 25 = .ok (.aload_n 0, 1) := by decide +kernel
theorem d_SG_apply_26 : decode b_SG_apply 26 = .ok (.getfield 12, 3) := by decide +kernel
theorem d_SG_apply_29 : decode b_SG_apply 29 = .ok (.iload_n 1, 1) := by decide +kernel
theorem d_SG_apply_30 : decode b_SG_apply 30 = .ok (.aload_n 0, 1) := by decide +kernel
theorem d_SG_apply_31 : decode b_SG_apply 31 = .ok (.iload_n 2, 1) := by decide +kernel
theorem d_SG_apply_32 : decode b_SG_apply 32 = .ok (.invokevirtual 58, 3) := by decide +kernel
theorem d_SG_apply_35 : decode b_SG_apply 35 = .ok (.aload_n 0, 1) := by decide +kernel
theorem d_SG_apply_36 : decode b_SG_apply 36 = .ok (.iload_n 3, 1) := by decide +kernel
theorem d_SG_apply_37 : decode b_SG_apply 37 = .ok (.invokevirtual 58, 3) := by decide +kernel
theorem d_SG_apply_40 : decode b_SG_apply 40 = .ok (.iload 4, 2) := by decide +kernel
theorem d_SG_apply_42 : decode b_SG_apply 42 = .ok (.invokestatic 61, 3) := by decide +kernel
theorem d_SG_apply_45 : decode b_SG_apply 45 = .ok (.invokevirtual 54, 3) := by decide +kernel
theorem d_SG_apply_48 : decode b_SG_apply 48 = .ok (.return_, 1) := by decide +kernel
theorem d_SG_look_0 : decode b_SG_look 0 = .ok (.aload_n 0, 1) := by decide +kernel
theorem d_SG_look_1 : decode b_SG_look 1 = .ok (.getfield 12, 3) := by decide +kernel
theorem d_SG_look_4 : decode b_SG_look 4 = .ok (.iload_n 1, 1) := by decide +kernel
theorem d_SG_look_5 : decode b_SG_look 5 = .ok (.invokevirtual 89, 3) := by decide +kernel
theorem d_SG_look_8 : decode b_SG_look 8 = .ok (.ifCond .ne 11, 3) := by decide +kernel
theorem d_SG_look_11 : decode b_SG_look 11 = .ok (.new 138, 3) := by decide +kernel
theorem d_SG_look_14 : decode b_SG_look 14 = .ok (.dup, 1) := by decide +kernel
theorem d_SG_look_15 : decode b_SG_look 15 = .ok (.invokespecial 140, 3) := by decide +kernel
theorem d_SG_look_18 : decode b_SG_look 18 = .ok (.athrow, 1) := by decide +kernel
theorem d_SG_look_19 : decode b_SG_look 19 = .ok (.aload_n 0, 1) := by decide +kernel
theorem d_SG_look_20 : decode b_SG_look 20 = .ok (.getfield 12, 3) := by decide +kernel
end
section
theorem d_SG_look_23 : decode b_SG_look 23 = .ok (.iload_n 1, 1) := by decide +kernel
theorem d_SG_look_24 : decode b_SG_look 24 = .ok (.invokevirtual 141, 3) := by decide +kernel
theorem d_SG_look_27 : decode b_SG_look 27 = .ok (.lreturn, 1) := by decide +kernel
theorem d_TB_connected_0 : decode b_TB_connected 0 = .ok (.lconst 0, 1) := by decide +kernel
theorem d_TB_connected_1 : decode b_TB_connected 1 = .ok (.lstore 5, 2) := by decide +kernel
theorem d_TB_connected_3 : decode b_TB_connected 3 = .ok (.iload 4, 2) := by decide +kernel
theorem d_TB_connected_5 : decode b_TB_connected 5 = .ok (.iconst 1, 1) := by decide +kernel
theorem d_TB_connected_6 : decode b_TB_connected 6 = .ok (.iand, 1) := by decide +kernel
theorem d_TB_connected_7 : decode b_TB_connected 7 = .ok (.ifCond .eq 19, 3) := by decide +kernel
theorem d_TB_connected_10 : decode b_TB_connected 10 = .ok (.lload 5, 2) := by decide +kernel
theorem d_TB_connected_12 : decode b_TB_connected 12 = .ok (.lload_n 0, 1) := by decide +kernel
theorem d_TB_connected_13 : decode b_TB_connected 13 = .ok (.ldc2_w 15, 3) := by decide +kernel
theorem d_TB_connected_16 : decode b_TB_connected 16 = .ok (.lxor, 1) := by decide +kernel
theorem d_TB_connected_17 : decode b_TB_connected 17 = .ok (.lload_n 2, 1) := by decide +kernel
theorem d_TB_connected_18 : decode b_TB_connected 18 = .ok (.ldc2_w 15, 3) := by decide +kernel
theorem d_TB_connected_21 : decode b_TB_connected 21 = .ok (.lxor, 1) := by decide +kernel
theorem d_TB_connected_22 : decode b_TB_connected 22 = .ok (.land, 1) := by decide +kernel
theorem d_TB_connected_23 : decode b_TB_connected 23 = .ok (.lor, 1) := by decide +kernel
theorem d_TB_connected_24 : decode b_TB_connected 24 = .ok (.lstore 5, 2) := by decide +kernel
theorem d_TB_connected_26 : decode b_TB_connected 26 = .ok (.iload 4, 2) := by decide +kernel
theorem d_TB_connected_28 : decode b_TB_connected 28 = .ok (.iconst 2, 1) := by decide +kernel
theorem d_TB_connected_29 : decode b_TB_connected 29 = .ok (.iand, 1) := by decide +kernel
theorem d_TB_connected_30 : decode b_TB_connected 30 = .ok (.ifCond .eq 15, 3) := by decide +kernel
theorem d_TB_connected_33 : decode b_TB_connected 33 = .ok (.lload 5, 2) := by decide +kernel
theorem d_TB_connected_35 : decode b_TB_connected 35 = .ok (.lload_n 0, 1) := by decide +kernel
theorem d_TB_connected_36 : decode b_TB_connected 36 = .ok (.ldc2_w 15, 3) := by decide +kernel
theorem d_TB_connected_39 : decode b_TB_connected 39 = .ok (.lxor, 1) := by decide +kernel
theorem d_TB_connected_40 : decode b_TB_connected 40 = .ok (.lload_n 2, 1) := by decide +kernel
theorem d_TB_connected_41 : decode b_TB_connected 41 = .ok (.land, 1) := by decide +kernel
theorem d_TB_connected_42 : decode b_TB_connected 42 = .ok (.lor, 1) := by decide +kernel
theorem d_TB_connected_43 : decode b_TB_connected 43 = .ok (.lstore 5, 2) := by decide +kernel
theorem d_TB_connected_45 : decode b_TB_connected 45 = .ok (.iload 4, 2) := by decide +kernel
theorem d_TB_connected_47 : decode b_TB_connected 47 = .ok (.iconst 4, 1) := by decide +kernel
theorem d_TB_connected_48 : decode b_TB_connected 48 = .ok (.iand, 1) := by decide +kernel
theorem d_TB_connected_49 : decode b_TB_connected 49 = .ok (.ifCond .eq 15, 3) := by decide +kernel
theorem d_TB_connected_52 : decode b_TB_connected 52 = .ok (.lload 5, 2) := by decide +kernel
theorem d_TB_connected_54 : decode b_TB_connected 54 = .ok (.lload_n 0, 1) := by decide +kernel
theorem d_TB_connected_55 : decode b_TB_connected 55 = .ok (.lload_n 2, 1) := by decide +kernel
theorem d_TB_connected_56 : decode b_TB_connected 56 = .ok (.ldc2_w 15, 3) := by decide +kernel
theorem d_TB_connected_59 : decode b_TB_connected 59 = .ok (.lxor, 1) := by decide +kernel
theorem d_TB_connected_60 : decode b_TB_connected 60 = .ok (.land, 1) := by decide +kernel
theorem d_TB_connected_61 : decode b_TB_connected 61 = .ok (.lor, 1) := by decide +kernel
theorem d_TB_connected_62 : decode b_TB_connected 62 = .ok (.lstore 5, 2) := by decide +kernel
theorem d_TB_connected_64 : decode b_TB_connected 64 = .ok (.iload 4, 2) := by decide +kernel
theorem d_TB_connected_66 : decode b_TB_connected 66 = .ok (.bipush 8, 2) := by decide +kernel
theorem d_TB_connected_68 : decode b_TB_connected 68 = .ok (.iand, 1) := by decide +kernel
theorem d_TB_connected_69 : decode b_TB_connected 69 = .ok (.ifCond .eq 11, 3) := by decide +kernel
theorem d_TB_connected_72 : decode b_TB_connected 72 = .ok (.lload 5, 2) := by decide +kernel
theorem d_TB_connected_74 : decode b_TB_connected 74 = .ok (.lload_n 0, 1) := by decide +kernel
theorem d_TB_connected_75 : decode b_TB_connected 75 = .ok (.lload_n 2, 1) := by decide +kernel
theorem d_TB_connected_76 : decode b_TB_connected 76 = .ok (.land, 1) := by decide +kernel
theorem d_TB_connected_77 : decode b_TB_connected 77 = .ok (.lor, 1) := by decide +kernel
theorem d_TB_connected_78 : decode b_TB_connected 78 = .ok (.lstore 5, 2) := by decide +kernel
theorem d_TB_connected_80 : decode b_TB_connected 80 = .ok (.lload 5, 2) := by decide +kernel
theorem d_TB_connected_82 : decode b_TB_connected 82 = .ok (.lreturn, 1) := by decide +kernel
theorem d_LW_choose_0 : decode b_LW_choose 0 = .ok (.aload_n 0, 1) := by decide +kernel
theorem d_LW_choose_1 : decode b_LW_choose 1 = .ok (.iload_n 1, 1) := by decide +kernel
theorem d_LW_choose_2 : decode b_LW_choose 2 = .ok (.iload_n 2, 1) := by decide +kernel
theorem d_LW_choose_3 : decode b_LW_choose 3 = .ok (.iload_n 3, 1) := by decide +kernel
theorem d_LW_choose_4 : decode b_LW_choose 4 = .ok (.iload 4, 2) := by decide +kernel
theorem d_LW_choose_6 : decode b_LW_choose 6 = .ok (.invokevirtual 21, 3) := by decide +kernel
theorem d_LW_choose_9 : decode b_LW_choose 9 = .ok (.goto 11, 3) := by decide +kernel
theorem d_LW_choose_12 : decode b_LW_choose 12 = .ok (.astore 5, 2) := by decide +kernel
theorem d_LW_choose_14 : decode b_LW_choose 14 = .ok (.iconst 1, 1) := by decide +kernel
theorem d_LW_choose_15 : decode b_LW_choose 15 = .ok (.ireturn, 1) := by decide +kernel
theorem d_LW_choose_16 : decode b_LW_choose 16 = .ok (.astore 5, 2) := by decide +kernel
theorem d_LW_choose_18 : decode b_LW_choose 18 = .ok (.iconst 2, 1) := by decide +kernel
theorem d_LW_choose_19 : decode b_LW_choose 19 = .ok (.ireturn, 1) := by decide +kernel
theorem d_LW_choose_20 : decode b_LW_choose 20 = .ok (.iconst 0, 1) := by decide +kernel
theorem d_LW_choose_21 : decode b_LW_choose 21 = .ok (.ireturn, 1) := by decide +kernel
theorem d_SG_choose_0 : decode b_SG_choose 0 = .ok (.iload_n 1, 1) := by decide +kernel
theorem d_SG_choose_1 : decode b_SG_choose 1 = .ok (.bipush 8, 2) := by decide +kernel
theorem d_SG_choose_3 : decode b_SG_choose 3 = .ok (.invokestatic 42, 3) := by decide +kernel
theorem d_SG_choose_6 : decode b_SG_choose 6 = .ok (.iload_n 2, 1) := by decide +kernel
theorem d_SG_choose_7 : decode b_SG_choose 7 = .ok (.bipush 8, 2) := by decide +kernel
theorem d_SG_choose_9 : decode b_SG_choose 9 = .ok (.invokestatic 42, 3) := by decide +kernel
theorem d_SG_choose_12 : decode b_SG_choose 12 = .ok (.iload_n 3, 1) := by decide +kernel
theorem d_SG_choose_13 : decode b_SG_choose 13 = .ok (.bipush 8, 2) := by decide +kernel
theorem d_SG_choose_15 : decode b_SG_choose 15 = .ok (.invokestatic 42, 3) := by decide +kernel
theorem d_SG_choose_18 : decode b_SG_choose 18 = .ok (.iload 4, 2) := by decide +kernel
theorem d_SG_choose_20 : decode b_SG_choose 20 = .ok (.bipush 8, 2) := by decide +kernel
theorem d_SG_choose_22 : decode b_SG_choose 22 = .ok (.invokestatic 42, 3) := by decide +kernel
theorem d_SG_choose_25 : decode b_SG_choose 25 = .ok (.aload_n 0, 1) := by decide +kernel
theorem d_SG_choose_26 : decode b_SG_choose 26 = .ok (.getfield 12, 3) := by decide +kernel
theorem d_SG_choose_29 : decode b_SG_choose 29 = .ok (.iload_n 1, 1) := by decide +kernel
theorem d_SG_choose_30 : decode b_SG_choose 30 = .ok (.aload_n 0, 1) := by decide +kernel
theorem d_SG_choose_31 : decode b_SG_choose 31 = .ok (.iload_n 2, 1) := by decide +kernel
theorem d_SG_choose_32 : decode b_SG_choose 32 = .ok (.invokevirtual 58, 3) := by decide +kernel
theorem d_SG_choose_35 : decode b_SG_choose 35 = .ok (.aload_n 0, 1) := by decide +kernel
theorem d_SG_choose_36 : decode b_SG_choose 36 = .ok (.iload_n 3, 1) := by decide +kernel
theorem d_SG_choose_37 : decode b_SG_choose 37 = .ok (.invokevirtual 58, 3) := by decide +kernel
theorem d_SG_choose_40 : decode b_SG_choose 40 = .ok (.aload_n 0, 1) := by decide +kernel
theorem d_SG_choose_41 : decode b_SG_choose 41 = .ok (.iload 4, 2) := by decide +kernel
theorem d_SG_choose_43 : decode b_SG_choose 43 = .ok (.invokevirtual 58, 3) := by decide +kernel
theorem d_SG_choose_46 : decode b_SG_choose 46 = .ok (.invokestatic 65, 3) := by decide +kernel
theorem d_SG_choose_49 : decode b_SG_choose 49 = .ok (.invokevirtual 54, 3) := by decide +kernel
theorem d_SG_choose_52 : decode b_SG_choose 52 = .ok (.return_, 1) := by decide +kernel
theorem d_TB_chosen_0 : decode b_TB_chosen 0 = .ok (.lload_n 0, 1) := by decide +kernel
theorem d_TB_chosen_1 : decode b_TB_chosen 1 = .ok (.lload_n 2, 1) := by decide +kernel
theorem d_TB_chosen_2 : decode b_TB_chosen 2 = .ok (.land, 1) := by decide +kernel
theorem d_TB_chosen_3 : decode b_TB_chosen 3 = .ok (.lload_n 0, 1) := by decide +kernel
theorem d_TB_chosen_4 : decode b_TB_chosen 4 = .ok (.ldc2_w 15, 3) := by decide +kernel
theorem d_TB_chosen_7 : decode b_TB_chosen 7 = .ok (.lxor, 1) := by decide +kernel
theorem d_TB_chosen_8 : decode b_TB_chosen 8 = .ok (.lload 4, 2) := by decide +kernel
theorem d_TB_chosen_10 : decode b_TB_chosen 10 = .ok (.land, 1) := by decide +kernel
theorem d_TB_chosen_11 : decode b_TB_chosen 11 = .ok (.lor, 1) := by decide +kernel
theorem d_TB_chosen_12 : decode b_TB_chosen 12 = .ok (.lreturn, 1) := by decide +kernel
theorem d_LW_restrict_0 : decode b_LW_restrict 0 = .ok (.aload_n 0, 1) := by decide +kernel
theorem d_LW_restrict_1 : decode b_LW_restrict 1 = .ok (.iload_n 1, 1) := by decide +kernel
theorem d_LW_restrict_2 : decode b_LW_restrict 2 = .ok (.iload_n 2, 1) := by decide +kernel
theorem d_LW_restrict_3 : decode b_LW_restrict 3 = .ok (.iload_n 3, 1) := by decide +kernel
theorem d_LW_restrict_4 : decode b_LW_restrict 4 = .ok (.iload 4, 2) := by decide +kernel
theorem d_LW_restrict_6 : decode b_LW_restrict 6 = .ok (.invokevirtual 24, 3) := by decide +kernel
theorem d_LW_restrict_9 : decode b_LW_restrict 9 = .ok (.goto 11, 3) := by decide +kernel
theorem d_LW_restrict_12 : decode b_LW_restrict 12 = .ok (.astore 5, 2) := by decide +kernel
theorem d_LW_restrict_14 : decode b_LW_restrict 14 = .ok (.iconst 1, 1) := by decide +kernel
theorem d_LW_restrict_15 : decode b_LW_restrict 15 = .ok (.ireturn, 1) := by decide +kernel
theorem d_LW_restrict_16 : decode b_LW_restrict 16 = .ok (.astore 5, 2) := by decide +kernel
theorem d_LW_restrict_18 : decode b_LW_restrict 18 = .ok (.iconst 2, 1) := by decide +kernel
theorem d_LW_restrict_19 : decode b_LW_restrict 19 = .ok (.ireturn, 1) := by decide +kernel
theorem d_LW_restrict_20 : decode b_LW_restrict 20 = .ok (.iconst 0, 1) := by decide +kernel
theorem d_LW_restrict_21 : decode b_LW_restrict 21 = .ok (.ireturn, 1) := by decide +kernel
theorem d_SG_restrict_0 : decode b_SG_restrict 0 = .ok (.iload_n 1, 1) := by decide +kernel
theorem d_SG_restrict_1 : decode b_SG_restrict 1 = .ok (.bipush 8, 2) := by decide +kernel
theorem d_SG_restrict_3 : decode b_SG_restrict 3 = .ok (.invokestatic 42, 3) := by decide +kernel
theorem d_SG_restrict_6 : decode b_SG_restrict 6 = .ok (.iload_n 2, 1) := by decide +kernel
theorem d_SG_restrict_7 : decode b_SG_restrict 7 = .ok (.bipush 8, 2) := by decide +kernel
theorem d_SG_restrict_9 : decode b_SG_restrict 9 = .ok (.invokestatic 42, 3) := by decide +kernel
theorem d_SG_restrict_12 : decode b_SG_restrict 12 = .ok (.iload_n 3, 1) := by decide +kernel
theorem d_SG_restrict_13 : decode b_SG_restrict 13 = .ok (.bipush 6, 2) := by decide +kernel
theorem d_SG_restrict_15 : decode b_SG_restrict 15 = .ok (.invokestatic 42, 3) := by decide +kernel
theorem d_SG_restrict_18 : decode b_SG_restrict 18 = .ok (.aload_n 0, 1) := by decide +kernel
theorem d_SG_restrict_19 : decode b_SG_restrict 19 = .ok (.iload_n 2, 1) := by decide +kernel
theorem d_SG_restrict_20 : decode b_SG_restrict 20 = .ok (.invokevirtual 58, 3) := by decide +kernel
theorem d_SG_restrict_23 : decode b_SG_restrict 23 = .ok (.lstore 5, 2) := by decide +kernel
theorem d_SG_restrict_25 : decode b_SG_restrict 25 = .ok (.aload_n 0, 1) := by decide +kernel
theorem d_SG_restrict_26 : decode b_SG_restrict 26 = .ok (.getfield 12, 3) := by decide +kernel
theorem d_SG_restrict_29 : decode b_SG_restrict 29 = .ok (.iload_n 1, 1) := by decide +kernel
theorem d_SG_restrict_30 : decode b_SG_restrict 30 = .ok (.iload 4, 2) := by decide +kernel
theorem d_SG_restrict_32 : decode b_SG_restrict 32 = .ok (.ifCond .eq 12, 3) := by decide +kernel
theorem d_SG_restrict_35 : decode b_SG_restrict 35 = .ok (.lload 5, 2) := by decide +kernel
theorem d_SG_restrict_37 : decode b_SG_restrict 37 = .ok (.iload_n 3, 1) := by decide +kernel
theorem d_SG_restrict_38 : decode b_SG_restrict 38 = .ok (.invokestatic 69, 3) := by decide +kernel
theorem d_SG_restrict_41 : decode b_SG_restrict 41 = .ok (.goto 9, 3) := by decide +kernel
theorem d_SG_restrict_44 : decode b_SG_restrict 44 = .ok (.lload 5, 2) := by decide +kernel
theorem d_SG_restrict_46 : decode b_SG_restrict 46 = .ok (.iload_n 3, 1) := by decide +kernel
theorem d_SG_restrict_47 : decode b_SG_restrict 47 = .ok (.invokestatic 73, 3) := by decide +kernel
theorem d_SG_restrict_50 : decode b_SG_restrict 50 = .ok (.invokevirtual 54, 3) := by decide +kernel
theorem d_SG_restrict_53 : decode b_SG_restrict 53 = .ok (.return_, 1) := by decide +kernel
theorem d_LW_compose_0 : decode b_LW_compose 0 = .ok (.aload_n 0, 1) := by decide +kernel
theorem d_LW_compose_1 : decode b_LW_compose 1 = .ok (.iload_n 1, 1) := by decide +kernel
theorem d_LW_compose_2 : decode b_LW_compose 2 = .ok (.iload_n 2, 1) := by decide +kernel
theorem d_LW_compose_3 : decode b_LW_compose 3 = .ok (.iload_n 3, 1) := by decide +kernel
theorem d_LW_compose_4 : decode b_LW_compose 4 = .ok (.iload 4, 2) := by decide +kernel
theorem d_LW_compose_6 : decode b_LW_compose 6 = .ok (.invokevirtual 28, 3) := by decide +kernel
theorem d_LW_compose_9 : decode b_LW_compose 9 = .ok (.goto 11, 3) := by decide +kernel
theorem d_LW_compose_12 : decode b_LW_compose 12 = .ok (.astore 5, 2) := by decide +kernel
theorem d_LW_compose_14 : decode b_LW_compose 14 = .ok (.iconst 1, 1) := by decide +kernel
theorem d_LW_compose_15 : decode b_LW_compose 15 = .ok (.ireturn, 1) := by decide +kernel
theorem d_LW_compose_16 : decode b_LW_compose 16 = .ok (.astore 5, 2) := by decide +kernel
theorem d_LW_compose_18 : decode b_LW_compose 18 = .ok (.iconst 2, 1) := by decide +kernel
theorem d_LW_compose_19 : decode b_LW_compose 19 = .ok (.ireturn, 1) := by decide +kernel
theorem d_LW_compose_20 : decode b_LW_compose 20 = .ok (.iconst 0, 1) := by decide +kernel
theorem d_LW_compose_21 : decode b_LW_compose 21 = .ok (.ireturn, 1) := by decide +kernel
theorem d_SG_compose_0 : decode b_SG_compose 0 = .ok (.iload_n 1, 1) := by decide +kernel
theorem d_SG_compose_1 : decode b_SG_compose 1 = .ok (.bipush 8, 2) := by decide +kernel
theorem d_SG_compose_3 : decode b_SG_compose 3 = .ok (.invokestatic 42, 3) := by decide +kernel
theorem d_SG_compose_6 : decode b_SG_compose 6 = .ok (.iload_n 2, 1) := by decide +kernel
theorem d_SG_compose_7 : decode b_SG_compose 7 = .ok (.bipush 8, 2) := by decide +kernel
theorem d_SG_compose_9 : decode b_SG_compose 9 = .ok (.invokestatic 42, 3) := by decide +kernel
theorem d_SG_compose_12 : decode b_SG_compose 12 = .ok (.iload_n 3, 1) := by decide +kernel
theorem d_SG_compose_13 : decode b_SG_compose 13 = .ok (.bipush 6, 2) := by decide +kernel
theorem d_SG_compose_15 : decode b_SG_compose 15 = .ok (.invokestatic 42, 3) := by decide +kernel
theorem d_SG_compose_18 : decode b_SG_compose 18 = .ok (.iload 4, 2) := by decide +kernel
theorem d_SG_compose_20 : decode b_SG_compose 20 = .ok (.bipush 8, 2) := by decide +kernel
theorem d_SG_compose_22 : decode b_SG_compose 22 = .ok (.invokestatic 42, 3) := by decide +kernel
theorem d_SG_compose_25 : decode b_SG_compose 25 = .ok (.aload_n 0, 1) := by decide +kernel
theorem d_SG_compose_26 : decode b_SG_compose 26 = .ok (.iload_n 2, 1) := by decide +kernel
theorem d_SG_compose_27 : decode b_SG_compose 27 = .ok (.invokevirtual 58, 3) := by decide +kernel
theorem d_SG_compose_30 : decode b_SG_compose 30 = .ok (.lstore 5, 2) := by decide +kernel
theorem d_SG_compose_32 : decode b_SG_compose 32 = .ok (.aload_n 0, 1) := by decide +kernel
theorem d_SG_compose_33 : decode b_SG_compose 33 = .ok (.iload 4, 2) := by decide +kernel
theorem d_SG_compose_35 : decode b_SG_compose 35 = .ok (.invokevirtual 58, 3) := by decide +kernel
theorem d_SG_compose_38 : decode b_SG_compose 38 = .ok (.lstore 7, 2) := by decide +kernel
theorem d_SG_compose_40 : decode b_SG_compose 40 = .ok (.aload_n 0, 1) := by decide +kernel
theorem d_SG_compose_41 : decode b_SG_compose 41 = .ok (.getfield 12, 3) := by decide +kernel
theorem d_SG_compose_44 : decode b_SG_compose 44 = .ok (.iload_n 1, 1) := by decide +kernel
theorem d_SG_compose_45 : decode b_SG_compose 45 = .ok (.lload 7, 2) := by decide +kernel
theorem d_SG_compose_47 : decode b_SG_compose 47 = .ok (.lload 5, 2) := by decide +kernel
theorem d_SG_compose_49 : decode b_SG_compose 49 = .ok (.iload_n 3, 1) := by decide +kernel
theorem d_SG_compose_50 : decode b_SG_compose 50 = .ok (.invokestatic 69, 3) := by decide +kernel
theorem d_SG_compose_53 : decode b_SG_compose 53 = .ok (.lload 5, 2) := by decide +kernel
theorem d_SG_compose_55 : decode b_SG_compose 55 = .ok (.iload_n 3, 1) := by decide +kernel
theorem d_SG_compose_56 : decode b_SG_compose 56 = .ok (.invokestatic 73, 3) := by decide +kernel
theorem d_SG_compose_59 : decode b_SG_compose 59 = .ok (.invokestatic 65, 3) := by decide +kernel
theorem d_SG_compose_62 : decode b_SG_compose 62 = .ok (.invokevirtual 54, 3) := by decide +kernel
theorem d_SG_compose_65 : decode b_SG_compose 65 = .ok (.return_, 1) := by decide +kernel
theorem d_LW_quantify_0 : decode b_LW_quantify 0 = .ok (.aload_n 0, 1) := by decide +kernel
theorem d_LW_quantify_1 : decode b_LW_quantify 1 = .ok (.iload_n 1, 1) := by decide +kernel
theorem d_LW_quantify_2 : decode b_LW_quantify 2 = .ok (.iload_n 2, 1) := by decide +kernel
theorem d_LW_quantify_3 : decode b_LW_quantify 3 = .ok (.iload_n 3, 1) := by decide +kernel
theorem d_LW_quantify_4 : decode b_LW_quantify 4 = .ok (.iload 4, 2) := by decide +kernel
theorem d_LW_quantify_6 : decode b_LW_quantify 6 = .ok (.invokevirtual 31, 3) := by decide +kernel
theorem d_LW_quantify_9 : decode b_LW_quantify 9 = .ok (.goto 11, 3) := by decide +kernel
theorem d_LW_quantify_12 : decode b_LW_quantify 12 = .ok (.astore 5, 2) := by decide +kernel
theorem d_LW_quantify_14 : decode b_LW_quantify 14 = .ok (.iconst 1, 1) := by decide +kernel
theorem d_LW_quantify_15 : decode b_LW_quantify 15 = .ok (.ireturn, 1) := by decide +kernel
theorem d_LW_quantify_16 : decode b_LW_quantify 16 = .ok (.astore 5, 2) := by decide +kernel
theorem d_LW_quantify_18 : decode b_LW_quantify 18 = .ok (.iconst 2, 1) := by decide +kernel
theorem d_LW_quantify_19 : decode b_LW_quantify 19 = .ok (.ireturn, 1) := by decide +kernel
theorem d_LW_quantify_20 : decode b_LW_quantify 20 = .ok (.iconst 0, 1) := by decide +kernel
theorem d_LW_quantify_21 : decode b_LW_quantify 21 = .ok (.ireturn, 1) := by decide +kernel
theorem d_SG_quantify_0 : decode b_SG_quantify 0 = .ok (.iload_n 1, 1) := by decide +kernel
theorem d_SG_quantify_1 : decode b_SG_quantify 1 = .ok (.bipush 8, 2) := by decide +kernel
theorem d_SG_quantify_3 : decode b_SG_quantify 3 = .ok (.invokestatic 42, 3) := by decide +kernel
theorem d_SG_quantify_6 : decode b_SG_quantify 6 = .ok (.iload_n 2, 1) := by decide +kernel
theorem d_SG_quantify_7 : decode b_SG_quantify 7 = .ok (.bipush 8, 2) := by decide +kernel
theorem d_SG_quantify_9 : decode b_SG_quantify 9 = .ok (.invokestatic 42, 3) := by decide +kernel
theorem d_SG_quantify_12 : decode b_SG_quantify 12 = .ok (.iload_n 3, 1) := by decide +kernel
theorem d_SG_quantify_13 : decode b_SG_quantify 13 = .ok (.bipush 64, 2) := by decide +kernel
theorem d_SG_quantify_15 : decode b_SG_quantify 15 = .ok (.invokestatic 42, 3) := by decide +kernel
theorem d_SG_quantify_18 : decode b_SG_quantify 18 = .ok (.aload_n 0, 1) := by decide +kernel
theorem d_SG_quantify_19 : decode b_SG_quantify 19 = .ok (.iload_n 2, 1) := by decide +kernel
theorem d_SG_quantify_20 : decode b_SG_quantify 20 = .ok (.invokevirtual 58, 3) := by decide +kernel
theorem d_SG_quantify_23 : decode b_SG_quantify 23 = .ok (.lstore 5, 2) := by decide +kernel
theorem d_SG_quantify_25 : decode b_SG_quantify 25 = .ok (.iconst 0, 1) := by decide +kernel
theorem d_SG_quantify_26 : decode b_SG_quantify 26 = .ok (.istore 7, 2) := by decide +kernel
theorem d_SG_quantify_28 : decode b_SG_quantify 28 = .ok (.iload 7, 2) := by decide +kernel
theorem d_SG_quantify_30 : decode b_SG_quantify 30 = .ok (.bipush 6, 2) := by decide +kernel
theorem d_SG_quantify_32 : decode b_SG_quantify 32 = .ok (.if_icmp .ge 57, 3) := by decide +kernel
theorem d_SG_quantify_35 : decode b_SG_quantify 35 = .ok (.iload_n 3, 1) := by decide +kernel
theorem d_SG_quantify_36 : decode b_SG_quantify 36 = .ok (.iload 7, 2) := by decide +kernel
theorem d_SG_quantify_38 : decode b_SG_quantify 38 = .ok (.ishr, 1) := by decide +kernel
theorem d_SG_quantify_39 : decode b_SG_quantify 39 = .ok (.iconst 1, 1) := by decide +kernel
theorem d_SG_quantify_40 : decode b_SG_quantify 40 = .ok (.iand, 1) := by decide +kernel
theorem d_SG_quantify_41 : decode b_SG_quantify 41 = .ok (.iconst 1, 1) := by decide +kernel
theorem d_SG_quantify_42 : decode b_SG_quantify 42 = .ok (.if_icmp .ne 41, 3) := by decide +kernel
theorem d_SG_quantify_45 : decode b_SG_quantify 45 = .ok (.lload 5, 2) := by decide +kernel
theorem d_SG_quantify_47 : decode b_SG_quantify 47 = .ok (.iload 7, 2) := by decide +kernel
theorem d_SG_quantify_49 : decode b_SG_quantify 49 = .ok (.invokestatic 73, 3) := by decide +kernel
theorem d_SG_quantify_52 : decode b_SG_quantify 52 = .ok (.lstore 8, 2) := by decide +kernel
theorem d_SG_quantify_54 : decode b_SG_quantify 54 = .ok (.lload 5, 2) := by decide +kernel
theorem d_SG_quantify_56 : decode b_SG_quantify 56 = .ok (.iload 7, 2) := by decide +kernel
theorem d_SG_quantify_58 : decode b_SG_quantify 58 = .ok (.invokestatic 69, 3) := by decide +kernel
theorem d_SG_quantify_61 : decode b_SG_quantify 61 = .ok (.lstore 10, 2) := by decide +kernel
theorem d_SG_quantify_63 : decode b_SG_quantify 63 = .ok (.iload 4, 2) := by decide +kernel
theorem d_SG_quantify_65 : decode b_SG_quantify 65 = .ok (.ifCond .eq 11, 3) := by decide +kernel
theorem d_SG_quantify_68 : decode b_SG_quantify 68 = .ok (.lload 8, 2) := by decide +kernel
theorem d_SG_quantify_70 : decode b_SG_quantify 70 = .ok (.lload 10, 2) := by decide +kernel
theorem d_SG_quantify_72 : decode b_SG_quantify 72 = .ok (.land, 1) := by decide +kernel
theorem d_SG_quantify_73 : decode b_SG_quantify 73 = .ok (.goto 8, 3) := by decide +kernel
theorem d_SG_quantify_76 : decode b_SG_quantify 76 = .ok (.lload 8, 2) := by decide +kernel
theorem d_SG_quantify_78 : decode b_SG_quantify 78 = .ok (.lload 10, 2) := by decide +kernel
theorem d_SG_quantify_80 : decode b_SG_quantify 80 = .ok (.lor, 1) := by decide +kernel
theorem d_SG_quantify_81 : decode b_SG_quantify 81 = .ok (.lstore 5, 2) := by decide +kernel
theorem d_SG_quantify_83 : decode b_SG_quantify 83 = .ok (.iinc 7 1, 3) := by decide +kernel
theorem d_SG_quantify_86 : decode b_SG_quantify 86 = .ok (.goto (-58), 3) := by decide +kernel
theorem d_SG_quantify_89 : decode b_SG_quantify 89 = .ok (.aload_n 0, 1) := by decide +kernel
theorem d_SG_quantify_90 : decode b_SG_quantify 90 = .ok (.getfield 12, 3) := by decide +kernel
theorem d_SG_quantify_93 : decode b_SG_quantify 93 = .ok (.iload_n 1, 1) := by decide +kernel
theorem d_SG_quantify_94 : decode b_SG_quantify 94 = .ok (.lload 5, 2) := by decide +kernel
theorem d_SG_quantify_96 : decode b_SG_quantify 96 = .ok (.invokevirtual 54, 3) := by decide +kernel
theorem d_SG_quantify_99 : decode b_SG_quantify 99 = .ok (.return_, 1) := by decide +kernel
theorem d_LW_type_0 : decode b_LW_type 0 = .ok (.aload 4, 2) := by decide +kernel
theorem d_LW_type_2 : decode b_LW_type 2 = .ok (.iconst 0, 1) := by decide +kernel
theorem d_LW_type_3 : decode b_LW_type 3 = .ok (.aload_n 0, 1) := by decide +kernel
theorem d_LW_type_4 : decode b_LW_type 4 = .ok (.lload_n 1, 1) := by decide +kernel
theorem d_LW_type_5 : decode b_LW_type 5 = .ok (.iload_n 3, 1) := by decide +kernel
theorem d_LW_type_6 : decode b_LW_type 6 = .ok (.invokevirtual 34, 3) := by decide +kernel
theorem d_LW_type_9 : decode b_LW_type 9 = .ok (.i2l, 1) := by decide +kernel
theorem d_LW_type_10 : decode b_LW_type 10 = .ok (.lastore, 1) := by decide +kernel
theorem d_LW_type_11 : decode b_LW_type 11 = .ok (.goto 7, 3) := by decide +kernel
theorem d_LW_type_14 : decode b_LW_type 14 = .ok (.astore 5, 2) := by decide +kernel
theorem d_LW_type_16 : decode b_LW_type 16 = .ok (.iconst 1, 1) := by decide +kernel
theorem d_LW_type_17 : decode b_LW_type 17 = .ok (.ireturn, 1) := by decide +kernel
theorem d_LW_type_18 : decode b_LW_type 18 = .ok (.iconst 0, 1) := by decide +kernel
theorem d_LW_type_19 : decode b_LW_type 19 = .ok (.ireturn, 1) := by decide +kernel
theorem d_SG_type_0 : decode b_SG_type 0 = .ok (.iload_n 3, 1) := by decide +kernel
theorem d_SG_type_1 : decode b_SG_type 1 = .ok (.iconst 1, 1) := by decide +kernel
theorem d_SG_type_2 : decode b_SG_type 2 = .ok (.if_icmp .lt 20, 3) := by decide +kernel
theorem d_SG_type_5 : decode b_SG_type 5 = .ok (.iload_n 3, 1) := by decide +kernel
theorem d_SG_type_6 : decode b_SG_type 6 = .ok (.bipush 8, 2) := by decide +kernel
theorem d_SG_type_8 : decode b_SG_type 8 = .ok (.if_icmp .gt 14, 3) := by decide +kernel
theorem d_SG_type_11 : decode b_SG_type 11 = .ok (.aload_n 0, 1) := by decide +kernel
theorem d_SG_type_12 : decode b_SG_type 12 = .ok (.getfield 24, 3) := by decide +kernel
theorem d_SG_type_15 : decode b_SG_type 15 = .ok (.iload_n 3, 1) := by decide +kernel
theorem d_SG_type_16 : decode b_SG_type 16 = .ok (.iadd, 1) := by decide +kernel
theorem d_SG_type_17 : decode b_SG_type 17 = .ok (.bipush 40, 2) := by decide +kernel
theorem d_SG_type_19 : decode b_SG_type 19 = .ok (.if_icmp .le 11, 3) := by decide +kernel
theorem d_SG_type_22 : decode b_SG_type 22 = .ok (.new 76, 3) := by decide +kernel
theorem d_SG_type_25 : decode b_SG_type 25 = .ok (.dup, 1) := by decide +kernel
theorem d_SG_type_26 : decode b_SG_type 26 = .ok (.invokespecial 78, 3) := by decide +kernel
theorem d_SG_type_29 : decode b_SG_type 29 = .ok (.athrow, 1) := by decide +kernel
theorem d_SG_type_30 : decode b_SG_type 30 = .ok (.iload_n 3, 1) := by decide +kernel
theorem d_SG_type_31 : decode b_SG_type 31 = .ok (.iconst 1, 1) := by decide +kernel
theorem d_SG_type_32 : decode b_SG_type 32 = .ok (.isub, 1) := by decide +kernel
theorem d_SG_type_33 : decode b_SG_type 33 = .ok (.istore 4, 2) := by decide +kernel
theorem d_SG_type_35 : decode b_SG_type 35 = .ok (.iload 4, 2) := by decide +kernel
theorem d_SG_type_37 : decode b_SG_type 37 = .ok (.ifCond .lt 41, 3) := by decide +kernel
theorem d_SG_type_40 : decode b_SG_type 40 = .ok (.aload_n 0, 1) := by decide +kernel
theorem d_SG_type_41 : decode b_SG_type 41 = .ok (.getfield 20, 3) := by decide +kernel
theorem d_SG_type_44 : decode b_SG_type 44 = .ok (.aload_n 0, 1) := by decide +kernel
theorem d_SG_type_45 : decode b_SG_type 45 = .ok (.getfield 24, 3) := by decide +kernel
theorem d_SG_type_48 : decode b_SG_type 48 = .ok (.lload_n 1, 1) := by decide +kernel
theorem d_SG_type_49 : decode b_SG_type 49 = .ok (.bipush 8, 2) := by decide +kernel
theorem d_SG_type_51 : decode b_SG_type 51 = .ok (.iload 4, 2) := by decide +kernel
theorem d_SG_type_53 : decode b_SG_type 53 = .ok (.imul, 1) := by decide +kernel
theorem d_SG_type_54 : decode b_SG_type 54 = .ok (.lushr, 1) := by decide +kernel
theorem d_SG_type_55 : decode b_SG_type 55 = .ok (.ldc2_w 79, 3) := by decide +kernel
theorem d_SG_type_58 : decode b_SG_type 58 = .ok (.land, 1) := by decide +kernel
theorem d_SG_type_59 : decode b_SG_type 59 = .ok (.l2i, 1) := by decide +kernel
theorem d_SG_type_60 : decode b_SG_type 60 = .ok (.i2c, 1) := by decide +kernel
theorem d_SG_type_61 : decode b_SG_type 61 = .ok (.castore, 1) := by decide +kernel
theorem d_SG_type_62 : decode b_SG_type 62 = .ok (.aload_n 0, 1) := by decide +kernel
theorem d_SG_type_63 : decode b_SG_type 63 = .ok (.dup, 1) := by decide +kernel
theorem d_SG_type_64 : decode b_SG_type 64 = .ok (.getfield 24, 3) := by decide +kernel
theorem d_SG_type_67 : decode b_SG_type 67 = .ok (.iconst 1, 1) := by decide +kernel
theorem d_SG_type_68 : decode b_SG_type 68 = .ok (.iadd, 1) := by decide +kernel
theorem d_SG_type_69 : decode b_SG_type 69 = .ok (.putfield 24, 3) := by decide +kernel
theorem d_SG_type_72 : decode b_SG_type 72 = .ok (.iinc 4 (-1), 3) := by decide +kernel
theorem d_SG_type_75 : decode b_SG_type 75 = .ok (.goto (-40), 3) := by decide +kernel
theorem d_SG_type_78 : decode b_SG_type 78 = .ok (.aload_n 0, 1) := by decide +kernel
theorem d_SG_type_79 : decode b_SG_type 79 = .ok (.getfield 24, 3) := by decide +kernel
theorem d_SG_type_82 : decode b_SG_type 82 = .ok (.ireturn, 1) := by decide +kernel
theorem d_LW_read_0 : decode b_LW_read 0 = .ok (.aload_n 2, 1) := by decide +kernel
theorem d_LW_read_1 : decode b_LW_read 1 = .ok (.iconst 0, 1) := by decide +kernel
theorem d_LW_read_2 : decode b_LW_read 2 = .ok (.aload_n 0, 1) := by decide +kernel
theorem d_LW_read_3 : decode b_LW_read 3 = .ok (.iload_n 1, 1) := by decide +kernel
theorem d_LW_read_4 : decode b_LW_read 4 = .ok (.invokevirtual 38, 3) := by decide +kernel
theorem d_LW_read_7 : decode b_LW_read 7 = .ok (.i2l, 1) := by decide +kernel
theorem d_LW_read_8 : decode b_LW_read 8 = .ok (.lastore, 1) := by decide +kernel
theorem d_LW_read_9 : decode b_LW_read 9 = .ok (.goto 6, 3) := by decide +kernel
theorem d_LW_read_12 : decode b_LW_read 12 = .ok (.astore_n 3, 1) := by decide +kernel
theorem d_LW_read_13 : decode b_LW_read 13 = .ok (.iconst 1, 1) := by decide +kernel
theorem d_LW_read_14 : decode b_LW_read 14 = .ok (.ireturn, 1) := by decide +kernel
theorem d_LW_read_15 : decode b_LW_read 15 = .ok (.iconst 0, 1) := by decide +kernel
theorem d_LW_read_16 : decode b_LW_read 16 = .ok (.ireturn, 1) := by decide +kernel
theorem d_SG_read_0 : decode b_SG_read 0 = .ok (.iload_n 1, 1) := by decide +kernel
theorem d_SG_read_1 : decode b_SG_read 1 = .ok (.bipush 8, 2) := by decide +kernel
theorem d_SG_read_3 : decode b_SG_read 3 = .ok (.invokestatic 42, 3) := by decide +kernel
theorem d_SG_read_6 : decode b_SG_read 6 = .ok (.aload_n 0, 1) := by decide +kernel
theorem d_SG_read_7 : decode b_SG_read 7 = .ok (.getfield 31, 3) := by decide +kernel
theorem d_SG_read_10 : decode b_SG_read 10 = .ok (.aload_n 0, 1) := by decide +kernel
theorem d_SG_read_11 : decode b_SG_read 11 = .ok (.getfield 20, 3) := by decide +kernel
theorem d_SG_read_14 : decode b_SG_read 14 = .ok (.aload_n 0, 1) := by decide +kernel
theorem d_SG_read_15 : decode b_SG_read 15 = .ok (.getfield 24, 3) := by decide +kernel
theorem d_SG_read_18 : decode b_SG_read 18 = .ok (.aload_n 0, 1) := by decide +kernel
theorem d_SG_read_19 : decode b_SG_read 19 = .ok (.getfield 12, 3) := by decide +kernel
theorem d_SG_read_22 : decode b_SG_read 22 = .ok (.invokevirtual 81, 3) := by decide +kernel
theorem d_SG_read_25 : decode b_SG_read 25 = .ok (.istore_n 2, 1) := by decide +kernel
theorem d_SG_read_26 : decode b_SG_read 26 = .ok (.aload_n 0, 1) := by decide +kernel
theorem d_SG_read_27 : decode b_SG_read 27 = .ok (.iconst 0, 1) := by decide +kernel
theorem d_SG_read_28 : decode b_SG_read 28 = .ok (.putfield 24, 3) := by decide +kernel
theorem d_SG_read_31 : decode b_SG_read 31 = .ok (.iload_n 2, 1) := by decide +kernel
theorem d_SG_read_32 : decode b_SG_read 32 = .ok (.ifCond .ge 18, 3) := by decide +kernel
theorem d_SG_read_35 : decode b_SG_read 35 = .ok (.aload_n 0, 1) := by decide +kernel
theorem d_SG_read_36 : decode b_SG_read 36 = .ok (.getfield 12, 3) := by decide +kernel
theorem d_SG_read_39 : decode b_SG_read 39 = .ok (.iload_n 1, 1) := by decide +kernel
theorem d_SG_read_40 : decode b_SG_read 40 = .ok (.aload_n 0, 1) := by decide +kernel
theorem d_SG_read_41 : decode b_SG_read 41 = .ok (.getfield 31, 3) := by decide +kernel
theorem d_SG_read_44 : decode b_SG_read 44 = .ok (.invokevirtual 85, 3) := by decide +kernel
theorem d_SG_read_47 : decode b_SG_read 47 = .ok (.invokevirtual 54, 3) := by decide +kernel
theorem d_SG_read_50 : decode b_SG_read 50 = .ok (.iload_n 2, 1) := by decide +kernel
theorem d_SG_read_51 : decode b_SG_read 51 = .ok (.ireturn, 1) := by decide +kernel
theorem d_FR_failurePlace_0 : decode b_FR_failurePlace 0 = .ok (.aload_n 0, 1) := by decide +kernel
theorem d_FR_failurePlace_1 : decode b_FR_failurePlace 1 = .ok (.iconst 0, 1) := by decide +kernel
theorem d_FR_failurePlace_2 : decode b_FR_failurePlace 2 = .ok (.putfield 24, 3) := by decide +kernel
theorem d_FR_failurePlace_5 : decode b_FR_failurePlace 5 = .ok (.aload_n 0, 1) := by decide +kernel
theorem d_FR_failurePlace_6 : decode b_FR_failurePlace 6 = .ok (.invokevirtual 28, 3) := by decide +kernel
theorem d_FR_failurePlace_9 : decode b_FR_failurePlace 9 = .ok (.iconst 0, 1) := by decide +kernel
theorem d_FR_failurePlace_10 : decode b_FR_failurePlace 10 = .ok (.istore 4, 2) := by decide +kernel
theorem d_FR_failurePlace_12 : decode b_FR_failurePlace 12 = .ok (.iload 4, 2) := by decide +kernel
theorem d_FR_failurePlace_14 : decode b_FR_failurePlace 14 = .ok (.iload_n 2, 1) := by decide +kernel
theorem d_FR_failurePlace_15 : decode b_FR_failurePlace 15 = .ok (.if_icmp .ge 48, 3) := by decide +kernel
theorem d_FR_failurePlace_18 : decode b_FR_failurePlace 18 = .ok (.aload_n 1, 1) := by decide +kernel
theorem d_FR_failurePlace_19 : decode b_FR_failurePlace 19 = .ok (.iload 4, 2) := by decide +kernel
theorem d_FR_failurePlace_21 : decode b_FR_failurePlace 21 = .ok (.caload, 1) := by decide +kernel
theorem d_FR_failurePlace_22 : decode b_FR_failurePlace 22 = .ok (.istore 5, 2) := by decide +kernel
theorem d_FR_failurePlace_24 : decode b_FR_failurePlace 24 = .ok (.aload_n 0, 1) := by decide +kernel
theorem d_FR_failurePlace_25 : decode b_FR_failurePlace 25 = .ok (.getfield 31, 3) := by decide +kernel
theorem d_FR_failurePlace_28 : decode b_FR_failurePlace 28 = .ok (.ifCond .eq 13, 3) := by decide +kernel
theorem d_FR_failurePlace_31 : decode b_FR_failurePlace 31 = .ok (.aload_n 0, 1) := by decide +kernel
theorem d_FR_failurePlace_32 : decode b_FR_failurePlace 32 = .ok (.iload 5, 2) := by decide +kernel
theorem d_FR_failurePlace_34 : decode b_FR_failurePlace 34 = .ok (.aload_n 3, 1) := by decide +kernel
theorem d_FR_failurePlace_35 : decode b_FR_failurePlace 35 = .ok (.invokevirtual 35, 3) := by decide +kernel
theorem d_FR_failurePlace_38 : decode b_FR_failurePlace 38 = .ok (.goto 9, 3) := by decide +kernel
theorem d_FR_failurePlace_41 : decode b_FR_failurePlace 41 = .ok (.aload_n 0, 1) := by decide +kernel
theorem d_FR_failurePlace_42 : decode b_FR_failurePlace 42 = .ok (.iload 5, 2) := by decide +kernel
theorem d_FR_failurePlace_44 : decode b_FR_failurePlace 44 = .ok (.invokevirtual 39, 3) := by decide +kernel
theorem d_FR_failurePlace_47 : decode b_FR_failurePlace 47 = .ok (.istore 6, 2) := by decide +kernel
theorem d_FR_failurePlace_49 : decode b_FR_failurePlace 49 = .ok (.iload 6, 2) := by decide +kernel
theorem d_FR_failurePlace_51 : decode b_FR_failurePlace 51 = .ok (.ifCond .ne 6, 3) := by decide +kernel
theorem d_FR_failurePlace_54 : decode b_FR_failurePlace 54 = .ok (.iload 4, 2) := by decide +kernel
theorem d_FR_failurePlace_56 : decode b_FR_failurePlace 56 = .ok (.ireturn, 1) := by decide +kernel
theorem d_FR_failurePlace_57 : decode b_FR_failurePlace 57 = .ok (.iinc 4 1, 3) := by decide +kernel
theorem d_FR_failurePlace_60 : decode b_FR_failurePlace 60 = .ok (.goto (-48), 3) := by decide +kernel
theorem d_FR_failurePlace_63 : decode b_FR_failurePlace 63 = .ok (.aload_n 0, 1) := by decide +kernel
theorem d_FR_failurePlace_64 : decode b_FR_failurePlace 64 = .ok (.getfield 31, 3) := by decide +kernel
theorem d_FR_failurePlace_67 : decode b_FR_failurePlace 67 = .ok (.ifCond .ne 10, 3) := by decide +kernel
theorem d_FR_failurePlace_70 : decode b_FR_failurePlace 70 = .ok (.aload_n 0, 1) := by decide +kernel
end
section
theorem d_FR_failurePlace_71 : decode b_FR_failurePlace 71 = .ok (.getfield 24, 3) := by decide +kernel
theorem d_FR_failurePlace_74 : decode b_FR_failurePlace 74 = .ok (.ifCond .le 7, 3) := by decide +kernel
theorem d_FR_failurePlace_77 : decode b_FR_failurePlace 77 = .ok (.iload_n 2, 1) := by decide +kernel
theorem d_FR_failurePlace_78 : decode b_FR_failurePlace 78 = .ok (.goto 4, 3) := by decide +kernel
theorem d_FR_failurePlace_81 : decode b_FR_failurePlace 81 = .ok (.iconst (-1), 1) := by decide +kernel
theorem d_FR_failurePlace_82 : decode b_FR_failurePlace 82 = .ok (.ireturn, 1) := by decide +kernel
theorem d_FR_beginFormula_0 : decode b_FR_beginFormula 0 = .ok (.aload_n 0, 1) := by decide +kernel
theorem d_FR_beginFormula_1 : decode b_FR_beginFormula 1 = .ok (.getfield 11, 3) := by decide +kernel
theorem d_FR_beginFormula_4 : decode b_FR_beginFormula 4 = .ok (.aload_n 0, 1) := by decide +kernel
theorem d_FR_beginFormula_5 : decode b_FR_beginFormula 5 = .ok (.getfield 24, 3) := by decide +kernel
theorem d_FR_beginFormula_8 : decode b_FR_beginFormula 8 = .ok (.lconst 0, 1) := by decide +kernel
theorem d_FR_beginFormula_9 : decode b_FR_beginFormula 9 = .ok (.lastore, 1) := by decide +kernel
theorem d_FR_beginFormula_10 : decode b_FR_beginFormula 10 = .ok (.aload_n 0, 1) := by decide +kernel
theorem d_FR_beginFormula_11 : decode b_FR_beginFormula 11 = .ok (.getfield 15, 3) := by decide +kernel
theorem d_FR_beginFormula_14 : decode b_FR_beginFormula 14 = .ok (.aload_n 0, 1) := by decide +kernel
theorem d_FR_beginFormula_15 : decode b_FR_beginFormula 15 = .ok (.getfield 24, 3) := by decide +kernel
theorem d_FR_beginFormula_18 : decode b_FR_beginFormula 18 = .ok (.lconst 0, 1) := by decide +kernel
theorem d_FR_beginFormula_19 : decode b_FR_beginFormula 19 = .ok (.lastore, 1) := by decide +kernel
theorem d_FR_beginFormula_20 : decode b_FR_beginFormula 20 = .ok (.aload_n 0, 1) := by decide +kernel
theorem d_FR_beginFormula_21 : decode b_FR_beginFormula 21 = .ok (.getfield 18, 3) := by decide +kernel
theorem d_FR_beginFormula_24 : decode b_FR_beginFormula 24 = .ok (.aload_n 0, 1) := by decide +kernel
theorem d_FR_beginFormula_25 : decode b_FR_beginFormula 25 = .ok (.getfield 24, 3) := by decide +kernel
theorem d_FR_beginFormula_28 : decode b_FR_beginFormula 28 = .ok (.ldc2_w 45, 3) := by decide +kernel
theorem d_FR_beginFormula_31 : decode b_FR_beginFormula 31 = .ok (.lastore, 1) := by decide +kernel
theorem d_FR_beginFormula_32 : decode b_FR_beginFormula 32 = .ok (.aload_n 0, 1) := by decide +kernel
theorem d_FR_beginFormula_33 : decode b_FR_beginFormula 33 = .ok (.invokevirtual 47, 3) := by decide +kernel
theorem d_FR_beginFormula_36 : decode b_FR_beginFormula 36 = .ok (.return_, 1) := by decide +kernel
theorem d_FR_beginFactor_0 : decode b_FR_beginFactor 0 = .ok (.aload_n 0, 1) := by decide +kernel
theorem d_FR_beginFactor_1 : decode b_FR_beginFactor 1 = .ok (.getfield 21, 3) := by decide +kernel
theorem d_FR_beginFactor_4 : decode b_FR_beginFactor 4 = .ok (.aload_n 0, 1) := by decide +kernel
theorem d_FR_beginFactor_5 : decode b_FR_beginFactor 5 = .ok (.getfield 24, 3) := by decide +kernel
theorem d_FR_beginFactor_8 : decode b_FR_beginFactor 8 = .ok (.lconst 0, 1) := by decide +kernel
theorem d_FR_beginFactor_9 : decode b_FR_beginFactor 9 = .ok (.lastore, 1) := by decide +kernel
theorem d_FR_beginFactor_10 : decode b_FR_beginFactor 10 = .ok (.aload_n 0, 1) := by decide +kernel
theorem d_FR_beginFactor_11 : decode b_FR_beginFactor 11 = .ok (.iconst 1, 1) := by decide +kernel
theorem d_FR_beginFactor_12 : decode b_FR_beginFactor 12 = .ok (.putfield 31, 3) := by decide +kernel
theorem d_FR_beginFactor_15 : decode b_FR_beginFactor 15 = .ok (.return_, 1) := by decide +kernel
theorem d_FR_takeInOperand_0 : decode b_FR_takeInOperand 0 = .ok (.iload_n 1, 1) := by decide +kernel
theorem d_FR_takeInOperand_1 : decode b_FR_takeInOperand 1 = .ok (.bipush 33, 2) := by decide +kernel
theorem d_FR_takeInOperand_3 : decode b_FR_takeInOperand 3 = .ok (.if_icmp .ne 27, 3) := by decide +kernel
theorem d_FR_takeInOperand_6 : decode b_FR_takeInOperand 6 = .ok (.aload_n 0, 1) := by decide +kernel
theorem d_FR_takeInOperand_7 : decode b_FR_takeInOperand 7 = .ok (.getfield 21, 3) := by decide +kernel
theorem d_FR_takeInOperand_10 : decode b_FR_takeInOperand 10 = .ok (.aload_n 0, 1) := by decide +kernel
theorem d_FR_takeInOperand_11 : decode b_FR_takeInOperand 11 = .ok (.getfield 24, 3) := by decide +kernel
theorem d_FR_takeInOperand_14 : decode b_FR_takeInOperand 14 = .ok (.aload_n 0, 1) := by decide +kernel
theorem d_FR_takeInOperand_15 : decode b_FR_takeInOperand 15 = .ok (.getfield 21, 3) := by decide +kernel
theorem d_FR_takeInOperand_18 : decode b_FR_takeInOperand 18 = .ok (.aload_n 0, 1) := by decide +kernel
theorem d_FR_takeInOperand_19 : decode b_FR_takeInOperand 19 = .ok (.getfield 24, 3) := by decide +kernel
theorem d_FR_takeInOperand_22 : decode b_FR_takeInOperand 22 = .ok (.laload, 1) := by decide +kernel
theorem d_FR_takeInOperand_23 : decode b_FR_takeInOperand 23 = .ok (.ldc2_w 45, 3) := by decide +kernel
theorem d_FR_takeInOperand_26 : decode b_FR_takeInOperand 26 = .ok (.lxor, 1) := by decide +kernel
theorem d_FR_takeInOperand_27 : decode b_FR_takeInOperand 27 = .ok (.lastore, 1) := by decide +kernel
theorem d_FR_takeInOperand_28 : decode b_FR_takeInOperand 28 = .ok (.iconst 1, 1) := by decide +kernel
theorem d_FR_takeInOperand_29 : decode b_FR_takeInOperand 29 = .ok (.ireturn, 1) := by decide +kernel
theorem d_FR_takeInOperand_30 : decode b_FR_takeInOperand 30 = .ok (.iload_n 1, 1) := by decide +kernel
theorem d_FR_takeInOperand_31 : decode b_FR_takeInOperand 31 = .ok (.bipush 40, 2) := by decide +kernel
theorem d_FR_takeInOperand_33 : decode b_FR_takeInOperand 33 = .ok (.if_icmp .ne 8, 3) := by decide +kernel
theorem d_FR_takeInOperand_36 : decode b_FR_takeInOperand 36 = .ok (.aload_n 0, 1) := by decide +kernel
theorem d_FR_takeInOperand_37 : decode b_FR_takeInOperand 37 = .ok (.invokevirtual 50, 3) := by decide +kernel
theorem d_FR_takeInOperand_40 : decode b_FR_takeInOperand 40 = .ok (.ireturn, 1) := by decide +kernel
theorem d_FR_takeInOperand_41 : decode b_FR_takeInOperand 41 = .ok (.iload_n 1, 1) := by decide +kernel
theorem d_FR_takeInOperand_42 : decode b_FR_takeInOperand 42 = .ok (.bipush 48, 2) := by decide +kernel
theorem d_FR_takeInOperand_44 : decode b_FR_takeInOperand 44 = .ok (.if_icmp .eq 9, 3) := by decide +kernel
theorem d_FR_takeInOperand_47 : decode b_FR_takeInOperand 47 = .ok (.iload_n 1, 1) := by decide +kernel
theorem d_FR_takeInOperand_48 : decode b_FR_takeInOperand 48 = .ok (.bipush 49, 2) := by decide +kernel
theorem d_FR_takeInOperand_50 : decode b_FR_takeInOperand 50 = .ok (.if_icmp .ne 22, 3) := by decide +kernel
theorem d_FR_takeInOperand_53 : decode b_FR_takeInOperand 53 = .ok (.aload_n 0, 1) := by decide +kernel
theorem d_FR_takeInOperand_54 : decode b_FR_takeInOperand 54 = .ok (.iload_n 1, 1) := by decide +kernel
theorem d_FR_takeInOperand_55 : decode b_FR_takeInOperand 55 = .ok (.bipush 49, 2) := by decide +kernel
theorem d_FR_takeInOperand_57 : decode b_FR_takeInOperand 57 = .ok (.if_icmp .ne 9, 3) := by decide +kernel
theorem d_FR_takeInOperand_60 : decode b_FR_takeInOperand 60 = .ok (.ldc2_w 45, 3) := by decide +kernel
theorem d_FR_takeInOperand_63 : decode b_FR_takeInOperand 63 = .ok (.goto 4, 3) := by decide +kernel
theorem d_FR_takeInOperand_66 : decode b_FR_takeInOperand 66 = .ok (.lconst 0, 1) := by decide +kernel
theorem d_FR_takeInOperand_67 : decode b_FR_takeInOperand 67 = .ok (.invokevirtual 54, 3) := by decide +kernel
theorem d_FR_takeInOperand_70 : decode b_FR_takeInOperand 70 = .ok (.iconst 1, 1) := by decide +kernel
theorem d_FR_takeInOperand_71 : decode b_FR_takeInOperand 71 = .ok (.ireturn, 1) := by decide +kernel
theorem d_FR_takeInOperand_72 : decode b_FR_takeInOperand 72 = .ok (.iload_n 1, 1) := by decide +kernel
theorem d_FR_takeInOperand_73 : decode b_FR_takeInOperand 73 = .ok (.bipush 97, 2) := by decide +kernel
theorem d_FR_takeInOperand_75 : decode b_FR_takeInOperand 75 = .ok (.if_icmp .lt 22, 3) := by decide +kernel
theorem d_FR_takeInOperand_78 : decode b_FR_takeInOperand 78 = .ok (.iload_n 1, 1) := by decide +kernel
theorem d_FR_takeInOperand_79 : decode b_FR_takeInOperand 79 = .ok (.bipush 103, 2) := by decide +kernel
theorem d_FR_takeInOperand_81 : decode b_FR_takeInOperand 81 = .ok (.if_icmp .ge 16, 3) := by decide +kernel
theorem d_FR_takeInOperand_84 : decode b_FR_takeInOperand 84 = .ok (.aload_n 0, 1) := by decide +kernel
theorem d_FR_takeInOperand_85 : decode b_FR_takeInOperand 85 = .ok (.iload_n 1, 1) := by decide +kernel
theorem d_FR_takeInOperand_86 : decode b_FR_takeInOperand 86 = .ok (.bipush 97, 2) := by decide +kernel
theorem d_FR_takeInOperand_88 : decode b_FR_takeInOperand 88 = .ok (.isub, 1) := by decide +kernel
theorem d_FR_takeInOperand_89 : decode b_FR_takeInOperand 89 = .ok (.invokestatic 58, 3) := by decide +kernel
theorem d_FR_takeInOperand_92 : decode b_FR_takeInOperand 92 = .ok (.invokevirtual 54, 3) := by decide +kernel
theorem d_FR_takeInOperand_95 : decode b_FR_takeInOperand 95 = .ok (.iconst 1, 1) := by decide +kernel
theorem d_FR_takeInOperand_96 : decode b_FR_takeInOperand 96 = .ok (.ireturn, 1) := by decide +kernel
theorem d_FR_takeInOperand_97 : decode b_FR_takeInOperand 97 = .ok (.iload_n 1, 1) := by decide +kernel
theorem d_FR_takeInOperand_98 : decode b_FR_takeInOperand 98 = .ok (.bipush 65, 2) := by decide +kernel
theorem d_FR_takeInOperand_100 : decode b_FR_takeInOperand 100 = .ok (.if_icmp .lt 34, 3) := by decide +kernel
theorem d_FR_takeInOperand_103 : decode b_FR_takeInOperand 103 = .ok (.iload_n 1, 1) := by decide +kernel
theorem d_FR_takeInOperand_104 : decode b_FR_takeInOperand 104 = .ok (.bipush 73, 2) := by decide +kernel
theorem d_FR_takeInOperand_106 : decode b_FR_takeInOperand 106 = .ok (.if_icmp .ge 28, 3) := by decide +kernel
theorem d_FR_takeInOperand_109 : decode b_FR_takeInOperand 109 = .ok (.aload_n 2, 1) := by decide +kernel
theorem d_FR_takeInOperand_110 : decode b_FR_takeInOperand 110 = .ok (.iload_n 1, 1) := by decide +kernel
theorem d_FR_takeInOperand_111 : decode b_FR_takeInOperand 111 = .ok (.bipush 65, 2) := by decide +kernel
theorem d_FR_takeInOperand_113 : decode b_FR_takeInOperand 113 = .ok (.isub, 1) := by decide +kernel
theorem d_FR_takeInOperand_114 : decode b_FR_takeInOperand 114 = .ok (.invokevirtual 62, 3) := by decide +kernel
theorem d_FR_takeInOperand_117 : decode b_FR_takeInOperand 117 = .ok (.ifCond .eq 17, 3) := by decide +kernel
theorem d_FR_takeInOperand_120 : decode b_FR_takeInOperand 120 = .ok (.aload_n 0, 1) := by decide +kernel
theorem d_FR_takeInOperand_121 : decode b_FR_takeInOperand 121 = .ok (.aload_n 2, 1) := by decide +kernel
theorem d_FR_takeInOperand_122 : decode b_FR_takeInOperand 122 = .ok (.iload_n 1, 1) := by decide +kernel
theorem d_FR_takeInOperand_123 : decode b_FR_takeInOperand 123 = .ok (.bipush 65, 2) := by decide +kernel
theorem d_FR_takeInOperand_125 : decode b_FR_takeInOperand 125 = .ok (.isub, 1) := by decide +kernel
theorem d_FR_takeInOperand_126 : decode b_FR_takeInOperand 126 = .ok (.invokevirtual 68, 3) := by decide +kernel
theorem d_FR_takeInOperand_129 : decode b_FR_takeInOperand 129 = .ok (.invokevirtual 54, 3) := by decide +kernel
theorem d_FR_takeInOperand_132 : decode b_FR_takeInOperand 132 = .ok (.iconst 1, 1) := by decide +kernel
theorem d_FR_takeInOperand_133 : decode b_FR_takeInOperand 133 = .ok (.ireturn, 1) := by decide +kernel
theorem d_FR_takeInOperand_134 : decode b_FR_takeInOperand 134 = .ok (.iconst 0, 1) := by decide +kernel
theorem d_FR_takeInOperand_135 : decode b_FR_takeInOperand 135 = .ok (.ireturn, 1) := by decide +kernel
theorem d_FR_openParenthesis_0 : decode b_FR_openParenthesis 0 = .ok (.aload_n 0, 1) := by decide +kernel
theorem d_FR_openParenthesis_1 : decode b_FR_openParenthesis 1 = .ok (.getfield 24, 3) := by decide +kernel
theorem d_FR_openParenthesis_4 : decode b_FR_openParenthesis 4 = .ok (.iconst 5, 1) := by decide +kernel
theorem d_FR_openParenthesis_5 : decode b_FR_openParenthesis 5 = .ok (.if_icmp .lt 5, 3) := by decide +kernel
theorem d_FR_openParenthesis_8 : decode b_FR_openParenthesis 8 = .ok (.iconst 0, 1) := by decide +kernel
theorem d_FR_openParenthesis_9 : decode b_FR_openParenthesis 9 = .ok (.ireturn, 1) := by decide +kernel
theorem d_FR_openParenthesis_10 : decode b_FR_openParenthesis 10 = .ok (.aload_n 0, 1) := by decide +kernel
theorem d_FR_openParenthesis_11 : decode b_FR_openParenthesis 11 = .ok (.dup, 1) := by decide +kernel
theorem d_FR_openParenthesis_12 : decode b_FR_openParenthesis 12 = .ok (.getfield 24, 3) := by decide +kernel
theorem d_FR_openParenthesis_15 : decode b_FR_openParenthesis 15 = .ok (.iconst 1, 1) := by decide +kernel
theorem d_FR_openParenthesis_16 : decode b_FR_openParenthesis 16 = .ok (.iadd, 1) := by decide +kernel
theorem d_FR_openParenthesis_17 : decode b_FR_openParenthesis 17 = .ok (.putfield 24, 3) := by decide +kernel
theorem d_FR_openParenthesis_20 : decode b_FR_openParenthesis 20 = .ok (.aload_n 0, 1) := by decide +kernel
theorem d_FR_openParenthesis_21 : decode b_FR_openParenthesis 21 = .ok (.invokevirtual 28, 3) := by decide +kernel
theorem d_FR_openParenthesis_24 : decode b_FR_openParenthesis 24 = .ok (.iconst 1, 1) := by decide +kernel
theorem d_FR_openParenthesis_25 : decode b_FR_openParenthesis 25 = .ok (.ireturn, 1) := by decide +kernel
theorem d_FR_endFactor_0 : decode b_FR_endFactor 0 = .ok (.aload_n 0, 1) := by decide +kernel
theorem d_FR_endFactor_1 : decode b_FR_endFactor 1 = .ok (.getfield 18, 3) := by decide +kernel
theorem d_FR_endFactor_4 : decode b_FR_endFactor 4 = .ok (.aload_n 0, 1) := by decide +kernel
theorem d_FR_endFactor_5 : decode b_FR_endFactor 5 = .ok (.getfield 24, 3) := by decide +kernel
theorem d_FR_endFactor_8 : decode b_FR_endFactor 8 = .ok (.dup2, 1) := by decide +kernel
theorem d_FR_endFactor_9 : decode b_FR_endFactor 9 = .ok (.laload, 1) := by decide +kernel
theorem d_FR_endFactor_10 : decode b_FR_endFactor 10 = .ok (.lload_n 1, 1) := by decide +kernel
theorem d_FR_endFactor_11 : decode b_FR_endFactor 11 = .ok (.aload_n 0, 1) := by decide +kernel
theorem d_FR_endFactor_12 : decode b_FR_endFactor 12 = .ok (.getfield 21, 3) := by decide +kernel
theorem d_FR_endFactor_15 : decode b_FR_endFactor 15 = .ok (.aload_n 0, 1) := by decide +kernel
theorem d_FR_endFactor_16 : decode b_FR_endFactor 16 = .ok (.getfield 24, 3) := by decide +kernel
theorem d_FR_endFactor_19 : decode b_FR_endFactor 19 = .ok (.laload, 1) := by decide +kernel
theorem d_FR_endFactor_20 : decode b_FR_endFactor 20 = .ok (.lxor, 1) := by decide +kernel
theorem d_FR_endFactor_21 : decode b_FR_endFactor 21 = .ok (.land, 1) := by decide +kernel
theorem d_FR_endFactor_22 : decode b_FR_endFactor 22 = .ok (.lastore, 1) := by decide +kernel
theorem d_FR_endFactor_23 : decode b_FR_endFactor 23 = .ok (.aload_n 0, 1) := by decide +kernel
theorem d_FR_endFactor_24 : decode b_FR_endFactor 24 = .ok (.iconst 0, 1) := by decide +kernel
theorem d_FR_endFactor_25 : decode b_FR_endFactor 25 = .ok (.putfield 31, 3) := by decide +kernel
theorem d_FR_endFactor_28 : decode b_FR_endFactor 28 = .ok (.return_, 1) := by decide +kernel
theorem d_FR_takeBehindOperand_0 : decode b_FR_takeBehindOperand 0 = .ok (.iload_n 1, 1) := by decide +kernel
theorem d_FR_takeBehindOperand_1 : decode b_FR_takeBehindOperand 1 = .ok (.lookupswitch 134 #[(38, 43), (41, 129), (94, 49), (124, 88)], 43) := by decide +kernel
theorem d_FR_takeBehindOperand_44 : decode b_FR_takeBehindOperand 44 = .ok (.aload_n 0, 1) := by decide +kernel
theorem d_FR_takeBehindOperand_45 : decode b_FR_takeBehindOperand 45 = .ok (.invokevirtual 47, 3) := by decide +kernel
theorem d_FR_takeBehindOperand_48 : decode b_FR_takeBehindOperand 48 = .ok (.iconst 1, 1) := by decide +kernel
theorem d_FR_takeBehindOperand_49 : decode b_FR_takeBehindOperand 49 = .ok (.ireturn, 1) := by decide +kernel
theorem d_FR_takeBehindOperand_50 : decode b_FR_takeBehindOperand 50 = .ok (.aload_n 0, 1) := by decide +kernel
theorem d_FR_takeBehindOperand_51 : decode b_FR_takeBehindOperand 51 = .ok (.getfield 15, 3) := by decide +kernel
theorem d_FR_takeBehindOperand_54 : decode b_FR_takeBehindOperand 54 = .ok (.aload_n 0, 1) := by decide +kernel
theorem d_FR_takeBehindOperand_55 : decode b_FR_takeBehindOperand 55 = .ok (.getfield 24, 3) := by decide +kernel
theorem d_FR_takeBehindOperand_58 : decode b_FR_takeBehindOperand 58 = .ok (.dup2, 1) := by decide +kernel
theorem d_FR_takeBehindOperand_59 : decode b_FR_takeBehindOperand 59 = .ok (.laload, 1) := by decide +kernel
theorem d_FR_takeBehindOperand_60 : decode b_FR_takeBehindOperand 60 = .ok (.aload_n 0, 1) := by decide +kernel
theorem d_FR_takeBehindOperand_61 : decode b_FR_takeBehindOperand 61 = .ok (.getfield 18, 3) := by decide +kernel
theorem d_FR_takeBehindOperand_64 : decode b_FR_takeBehindOperand 64 = .ok (.aload_n 0, 1) := by decide +kernel
theorem d_FR_takeBehindOperand_65 : decode b_FR_takeBehindOperand 65 = .ok (.getfield 24, 3) := by decide +kernel
theorem d_FR_takeBehindOperand_68 : decode b_FR_takeBehindOperand 68 = .ok (.laload, 1) := by decide +kernel
theorem d_FR_takeBehindOperand_69 : decode b_FR_takeBehindOperand 69 = .ok (.lxor, 1) := by decide +kernel
theorem d_FR_takeBehindOperand_70 : decode b_FR_takeBehindOperand 70 = .ok (.lastore, 1) := by decide +kernel
theorem d_FR_takeBehindOperand_71 : decode b_FR_takeBehindOperand 71 = .ok (.aload_n 0, 1) := by decide +kernel
theorem d_FR_takeBehindOperand_72 : decode b_FR_takeBehindOperand 72 = .ok (.getfield 18, 3) := by decide +kernel
theorem d_FR_takeBehindOperand_75 : decode b_FR_takeBehindOperand 75 = .ok (.aload_n 0, 1) := by decide +kernel
theorem d_FR_takeBehindOperand_76 : decode b_FR_takeBehindOperand 76 = .ok (.getfield 24, 3) := by decide +kernel
theorem d_FR_takeBehindOperand_79 : decode b_FR_takeBehindOperand 79 = .ok (.ldc2_w 45, 3) := by decide +kernel
theorem d_FR_takeBehindOperand_82 : decode b_FR_takeBehindOperand 82 = .ok (.lastore, 1) := by decide +kernel
theorem d_FR_takeBehindOperand_83 : decode b_FR_takeBehindOperand 83 = .ok (.aload_n 0, 1) := by decide +kernel
theorem d_FR_takeBehindOperand_84 : decode b_FR_takeBehindOperand 84 = .ok (.invokevirtual 47, 3) := by decide +kernel
theorem d_FR_takeBehindOperand_87 : decode b_FR_takeBehindOperand 87 = .ok (.iconst 1, 1) := by decide +kernel
theorem d_FR_takeBehindOperand_88 : decode b_FR_takeBehindOperand 88 = .ok (.ireturn, 1) := by decide +kernel
theorem d_FR_takeBehindOperand_89 : decode b_FR_takeBehindOperand 89 = .ok (.aload_n 0, 1) := by decide +kernel
theorem d_FR_takeBehindOperand_90 : decode b_FR_takeBehindOperand 90 = .ok (.getfield 11, 3) := by decide +kernel
theorem d_FR_takeBehindOperand_93 : decode b_FR_takeBehindOperand 93 = .ok (.aload_n 0, 1) := by decide +kernel
theorem d_FR_takeBehindOperand_94 : decode b_FR_takeBehindOperand 94 = .ok (.getfield 24, 3) := by decide +kernel
theorem d_FR_takeBehindOperand_97 : decode b_FR_takeBehindOperand 97 = .ok (.aload_n 0, 1) := by decide +kernel
theorem d_FR_takeBehindOperand_98 : decode b_FR_takeBehindOperand 98 = .ok (.invokevirtual 71, 3) := by decide +kernel
theorem d_FR_takeBehindOperand_101 : decode b_FR_takeBehindOperand 101 = .ok (.lastore, 1) := by decide +kernel
theorem d_FR_takeBehindOperand_102 : decode b_FR_takeBehindOperand 102 = .ok (.aload_n 0, 1) := by decide +kernel
theorem d_FR_takeBehindOperand_103 : decode b_FR_takeBehindOperand 103 = .ok (.getfield 15, 3) := by decide +kernel
theorem d_FR_takeBehindOperand_106 : decode b_FR_takeBehindOperand 106 = .ok (.aload_n 0, 1) := by decide +kernel
theorem d_FR_takeBehindOperand_107 : decode b_FR_takeBehindOperand 107 = .ok (.getfield 24, 3) := by decide +kernel
theorem d_FR_takeBehindOperand_110 : decode b_FR_takeBehindOperand 110 = .ok (.lconst 0, 1) := by decide +kernel
theorem d_FR_takeBehindOperand_111 : decode b_FR_takeBehindOperand 111 = .ok (.lastore, 1) := by decide +kernel
theorem d_FR_takeBehindOperand_112 : decode b_FR_takeBehindOperand 112 = .ok (.aload_n 0, 1) := by decide +kernel
theorem d_FR_takeBehindOperand_113 : decode b_FR_takeBehindOperand 113 = .ok (.getfield 18, 3) := by decide +kernel
theorem d_FR_takeBehindOperand_116 : decode b_FR_takeBehindOperand 116 = .ok (.aload_n 0, 1) := by decide +kernel
theorem d_FR_takeBehindOperand_117 : decode b_FR_takeBehindOperand 117 = .ok (.getfield 24, 3) := by decide +kernel
theorem d_FR_takeBehindOperand_120 : decode b_FR_takeBehindOperand 120 = .ok (.ldc2_w 45, 3) := by decide +kernel
theorem d_FR_takeBehindOperand_123 : decode b_FR_takeBehindOperand 123 = .ok (.lastore, 1) := by decide +kernel
theorem d_FR_takeBehindOperand_124 : decode b_FR_takeBehindOperand 124 = .ok (.aload_n 0, 1) := by decide +kernel
theorem d_FR_takeBehindOperand_125 : decode b_FR_takeBehindOperand 125 = .ok (.invokevirtual 47, 3) := by decide +kernel
theorem d_FR_takeBehindOperand_128 : decode b_FR_takeBehindOperand 128 = .ok (.iconst 1, 1) := by decide +kernel
theorem d_FR_takeBehindOperand_129 : decode b_FR_takeBehindOperand 129 = .ok (.ireturn, 1) := by decide +kernel
theorem d_FR_takeBehindOperand_130 : decode b_FR_takeBehindOperand 130 = .ok (.aload_n 0, 1) := by decide +kernel
theorem d_FR_takeBehindOperand_131 : decode b_FR_takeBehindOperand 131 = .ok (.invokevirtual 75, 3) := by decide +kernel
theorem d_FR_takeBehindOperand_134 : decode b_FR_takeBehindOperand 134 = .ok (.ireturn, 1) := by decide +kernel
theorem d_FR_takeBehindOperand_135 : decode b_FR_takeBehindOperand 135 = .ok (.iconst 0, 1) := by decide +kernel
theorem d_FR_takeBehindOperand_136 : decode b_FR_takeBehindOperand 136 = .ok (.ireturn, 1) := by decide +kernel
theorem d_FR_meaning_0 : decode b_FR_meaning 0 = .ok (.aload_n 0, 1) := by decide +kernel
theorem d_FR_meaning_1 : decode b_FR_meaning 1 = .ok (.getfield 11, 3) := by decide +kernel
theorem d_FR_meaning_4 : decode b_FR_meaning 4 = .ok (.aload_n 0, 1) := by decide +kernel
theorem d_FR_meaning_5 : decode b_FR_meaning 5 = .ok (.getfield 24, 3) := by decide +kernel
theorem d_FR_meaning_8 : decode b_FR_meaning 8 = .ok (.laload, 1) := by decide +kernel
theorem d_FR_meaning_9 : decode b_FR_meaning 9 = .ok (.aload_n 0, 1) := by decide +kernel
theorem d_FR_meaning_10 : decode b_FR_meaning 10 = .ok (.getfield 15, 3) := by decide +kernel
theorem d_FR_meaning_13 : decode b_FR_meaning 13 = .ok (.aload_n 0, 1) := by decide +kernel
theorem d_FR_meaning_14 : decode b_FR_meaning 14 = .ok (.getfield 24, 3) := by decide +kernel
theorem d_FR_meaning_17 : decode b_FR_meaning 17 = .ok (.laload, 1) := by decide +kernel
theorem d_FR_meaning_18 : decode b_FR_meaning 18 = .ok (.aload_n 0, 1) := by decide +kernel
theorem d_FR_meaning_19 : decode b_FR_meaning 19 = .ok (.getfield 18, 3) := by decide +kernel
theorem d_FR_meaning_22 : decode b_FR_meaning 22 = .ok (.aload_n 0, 1) := by decide +kernel
theorem d_FR_meaning_23 : decode b_FR_meaning 23 = .ok (.getfield 24, 3) := by decide +kernel
theorem d_FR_meaning_26 : decode b_FR_meaning 26 = .ok (.laload, 1) := by decide +kernel
theorem d_FR_meaning_27 : decode b_FR_meaning 27 = .ok (.lxor, 1) := by decide +kernel
theorem d_FR_meaning_28 : decode b_FR_meaning 28 = .ok (.lor, 1) := by decide +kernel
theorem d_FR_meaning_29 : decode b_FR_meaning 29 = .ok (.lreturn, 1) := by decide +kernel
theorem d_FR_closeParenthesis_0 : decode b_FR_closeParenthesis 0 = .ok (.aload_n 0, 1) := by decide +kernel
theorem d_FR_closeParenthesis_1 : decode b_FR_closeParenthesis 1 = .ok (.getfield 24, 3) := by decide +kernel
theorem d_FR_closeParenthesis_4 : decode b_FR_closeParenthesis 4 = .ok (.ifCond .gt 5, 3) := by decide +kernel
theorem d_FR_closeParenthesis_7 : decode b_FR_closeParenthesis 7 = .ok (.iconst 0, 1) := by decide +kernel
theorem d_FR_closeParenthesis_8 : decode b_FR_closeParenthesis 8 = .ok (.ireturn, 1) := by decide +kernel
theorem d_FR_closeParenthesis_9 : decode b_FR_closeParenthesis 9 = .ok (.aload_n 0, 1) := by decide +kernel
theorem d_FR_closeParenthesis_10 : decode b_FR_closeParenthesis 10 = .ok (.invokevirtual 71, 3) := by decide +kernel
theorem d_FR_closeParenthesis_13 : decode b_FR_closeParenthesis 13 = .ok (.lstore_n 1, 1) := by decide +kernel
theorem d_FR_closeParenthesis_14 : decode b_FR_closeParenthesis 14 = .ok (.aload_n 0, 1) := by decide +kernel
theorem d_FR_closeParenthesis_15 : decode b_FR_closeParenthesis 15 = .ok (.dup, 1) := by decide +kernel
theorem d_FR_closeParenthesis_16 : decode b_FR_closeParenthesis 16 = .ok (.getfield 24, 3) := by decide +kernel
theorem d_FR_closeParenthesis_19 : decode b_FR_closeParenthesis 19 = .ok (.iconst 1, 1) := by decide +kernel
theorem d_FR_closeParenthesis_20 : decode b_FR_closeParenthesis 20 = .ok (.isub, 1) := by decide +kernel
theorem d_FR_closeParenthesis_21 : decode b_FR_closeParenthesis 21 = .ok (.putfield 24, 3) := by decide +kernel
theorem d_FR_closeParenthesis_24 : decode b_FR_closeParenthesis 24 = .ok (.aload_n 0, 1) := by decide +kernel
theorem d_FR_closeParenthesis_25 : decode b_FR_closeParenthesis 25 = .ok (.lload_n 1, 1) := by decide +kernel
theorem d_FR_closeParenthesis_26 : decode b_FR_closeParenthesis 26 = .ok (.invokevirtual 54, 3) := by decide +kernel
theorem d_FR_closeParenthesis_29 : decode b_FR_closeParenthesis 29 = .ok (.iconst 1, 1) := by decide +kernel
theorem d_FR_closeParenthesis_30 : decode b_FR_closeParenthesis 30 = .ok (.ireturn, 1) := by decide +kernel
theorem d_LW_release_0 : decode b_LW_release 0 = .ok (.aload_n 2, 1) := by decide +kernel
theorem d_LW_release_1 : decode b_LW_release 1 = .ok (.iconst 0, 1) := by decide +kernel
theorem d_LW_release_2 : decode b_LW_release 2 = .ok (.aload_n 0, 1) := by decide +kernel
theorem d_LW_release_3 : decode b_LW_release 3 = .ok (.iload_n 1, 1) := by decide +kernel
theorem d_LW_release_4 : decode b_LW_release 4 = .ok (.invokevirtual 42, 3) := by decide +kernel
theorem d_LW_release_7 : decode b_LW_release 7 = .ok (.ifCond .eq 7, 3) := by decide +kernel
theorem d_LW_release_10 : decode b_LW_release 10 = .ok (.lconst 1, 1) := by decide +kernel
theorem d_LW_release_11 : decode b_LW_release 11 = .ok (.goto 4, 3) := by decide +kernel
theorem d_LW_release_14 : decode b_LW_release 14 = .ok (.lconst 0, 1) := by decide +kernel
theorem d_LW_release_15 : decode b_LW_release 15 = .ok (.lastore, 1) := by decide +kernel
theorem d_LW_release_16 : decode b_LW_release 16 = .ok (.goto 6, 3) := by decide +kernel
theorem d_LW_release_19 : decode b_LW_release 19 = .ok (.astore_n 3, 1) := by decide +kernel
theorem d_LW_release_20 : decode b_LW_release 20 = .ok (.iconst 1, 1) := by decide +kernel
theorem d_LW_release_21 : decode b_LW_release 21 = .ok (.ireturn, 1) := by decide +kernel
theorem d_LW_release_22 : decode b_LW_release 22 = .ok (.iconst 0, 1) := by decide +kernel
theorem d_LW_release_23 : decode b_LW_release 23 = .ok (.ireturn, 1) := by decide +kernel
theorem d_SG_release_0 : decode b_SG_release 0 = .ok (.iload_n 1, 1) := by decide +kernel
theorem d_SG_release_1 : decode b_SG_release 1 = .ok (.bipush 8, 2) := by decide +kernel
theorem d_SG_release_3 : decode b_SG_release 3 = .ok (.invokestatic 42, 3) := by decide +kernel
theorem d_SG_release_6 : decode b_SG_release 6 = .ok (.aload_n 0, 1) := by decide +kernel
theorem d_SG_release_7 : decode b_SG_release 7 = .ok (.getfield 12, 3) := by decide +kernel
theorem d_SG_release_10 : decode b_SG_release 10 = .ok (.iload_n 1, 1) := by decide +kernel
theorem d_SG_release_11 : decode b_SG_release 11 = .ok (.invokevirtual 89, 3) := by decide +kernel
theorem d_SG_release_14 : decode b_SG_release 14 = .ok (.istore_n 2, 1) := by decide +kernel
theorem d_SG_release_15 : decode b_SG_release 15 = .ok (.aload_n 0, 1) := by decide +kernel
theorem d_SG_release_16 : decode b_SG_release 16 = .ok (.getfield 12, 3) := by decide +kernel
theorem d_SG_release_19 : decode b_SG_release 19 = .ok (.iload_n 1, 1) := by decide +kernel
theorem d_SG_release_20 : decode b_SG_release 20 = .ok (.invokevirtual 93, 3) := by decide +kernel
theorem d_SG_release_23 : decode b_SG_release 23 = .ok (.iload_n 2, 1) := by decide +kernel
theorem d_SG_release_24 : decode b_SG_release 24 = .ok (.ireturn, 1) := by decide +kernel
theorem d_RG_clear_0 : decode b_RG_clear 0 = .ok (.aload_n 0, 1) := by decide +kernel
theorem d_RG_clear_1 : decode b_RG_clear 1 = .ok (.getfield 15, 3) := by decide +kernel
theorem d_RG_clear_4 : decode b_RG_clear 4 = .ok (.iload_n 1, 1) := by decide +kernel
theorem d_RG_clear_5 : decode b_RG_clear 5 = .ok (.iconst 0, 1) := by decide +kernel
theorem d_RG_clear_6 : decode b_RG_clear 6 = .ok (.bastore, 1) := by decide +kernel
theorem d_RG_clear_7 : decode b_RG_clear 7 = .ok (.return_, 1) := by decide +kernel
theorem d_LW_equal_0 : decode b_LW_equal 0 = .ok (.aload_n 3, 1) := by decide +kernel
theorem d_LW_equal_1 : decode b_LW_equal 1 = .ok (.iconst 0, 1) := by decide +kernel
theorem d_LW_equal_2 : decode b_LW_equal 2 = .ok (.aload_n 0, 1) := by decide +kernel
theorem d_LW_equal_3 : decode b_LW_equal 3 = .ok (.iload_n 1, 1) := by decide +kernel
theorem d_LW_equal_4 : decode b_LW_equal 4 = .ok (.iload_n 2, 1) := by decide +kernel
theorem d_LW_equal_5 : decode b_LW_equal 5 = .ok (.invokevirtual 46, 3) := by decide +kernel
theorem d_LW_equal_8 : decode b_LW_equal 8 = .ok (.ifCond .eq 7, 3) := by decide +kernel
theorem d_LW_equal_11 : decode b_LW_equal 11 = .ok (.lconst 1, 1) := by decide +kernel
theorem d_LW_equal_12 : decode b_LW_equal 12 = .ok (.goto 4, 3) := by decide +kernel
theorem d_LW_equal_15 : decode b_LW_equal 15 = .ok (.lconst 0, 1) := by decide +kernel
theorem d_LW_equal_16 : decode b_LW_equal 16 = .ok (.lastore, 1) := by decide +kernel
theorem d_LW_equal_17 : decode b_LW_equal 17 = .ok (.goto 11, 3) := by decide +kernel
theorem d_LW_equal_20 : decode b_LW_equal 20 = .ok (.astore 4, 2) := by decide +kernel
theorem d_LW_equal_22 : decode b_LW_equal 22 = .ok (.iconst 1, 1) := by decide +kernel
theorem d_LW_equal_23 : decode b_LW_equal 23 = .ok (.ireturn, 1) := by decide +kernel
theorem d_LW_equal_24 : decode b_LW_equal 24 = .ok (.astore 4, 2) := by decide +kernel
theorem d_LW_equal_26 : decode b_LW_equal 26 = .ok (.iconst 2, 1) := by decide +kernel
theorem d_LW_equal_27 : decode b_LW_equal 27 = .ok (.ireturn, 1) := by decide +kernel
theorem d_LW_equal_28 : decode b_LW_equal 28 = .ok (.iconst 0, 1) := by decide +kernel
theorem d_LW_equal_29 : decode b_LW_equal 29 = .ok (.ireturn, 1) := by decide +kernel
theorem d_SG_equal_0 : decode b_SG_equal 0 = .ok (.iload_n 1, 1) := by decide +kernel
theorem d_SG_equal_1 : decode b_SG_equal 1 = .ok (.bipush 8, 2) := by decide +kernel
theorem d_SG_equal_3 : decode b_SG_equal 3 = .ok (.invokestatic 42, 3) := by decide +kernel
theorem d_SG_equal_6 : decode b_SG_equal 6 = .ok (.iload_n 2, 1) := by decide +kernel
theorem d_SG_equal_7 : decode b_SG_equal 7 = .ok (.bipush 8, 2) := by decide +kernel
theorem d_SG_equal_9 : decode b_SG_equal 9 = .ok (.invokestatic 42, 3) := by decide +kernel
theorem d_SG_equal_12 : decode b_SG_equal 12 = .ok (.aload_n 0, 1) := by decide +kernel
theorem d_SG_equal_13 : decode b_SG_equal 13 = .ok (.iload_n 1, 1) := by decide +kernel
theorem d_SG_equal_14 : decode b_SG_equal 14 = .ok (.invokevirtual 58, 3) := by decide +kernel
theorem d_SG_equal_17 : decode b_SG_equal 17 = .ok (.aload_n 0, 1) := by decide +kernel
theorem d_SG_equal_18 : decode b_SG_equal 18 = .ok (.iload_n 2, 1) := by decide +kernel
theorem d_SG_equal_19 : decode b_SG_equal 19 = .ok (.invokevirtual 58, 3) := by decide +kernel
theorem d_SG_equal_22 : decode b_SG_equal 22 = .ok (.lcmp, 1) := by decide +kernel
theorem d_SG_equal_23 : decode b_SG_equal 23 = .ok (.ifCond .ne 7, 3) := by decide +kernel
theorem d_SG_equal_26 : decode b_SG_equal 26 = .ok (.iconst 1, 1) := by decide +kernel
theorem d_SG_equal_27 : decode b_SG_equal 27 = .ok (.goto 4, 3) := by decide +kernel
theorem d_SG_equal_30 : decode b_SG_equal 30 = .ok (.iconst 0, 1) := by decide +kernel
theorem d_SG_equal_31 : decode b_SG_equal 31 = .ok (.ireturn, 1) := by decide +kernel
theorem d_LW_value_0 : decode b_LW_value 0 = .ok (.aload_n 3, 1) := by decide +kernel
theorem d_LW_value_1 : decode b_LW_value 1 = .ok (.iconst 0, 1) := by decide +kernel
theorem d_LW_value_2 : decode b_LW_value 2 = .ok (.aload_n 0, 1) := by decide +kernel
theorem d_LW_value_3 : decode b_LW_value 3 = .ok (.iload_n 1, 1) := by decide +kernel
theorem d_LW_value_4 : decode b_LW_value 4 = .ok (.iload_n 2, 1) := by decide +kernel
theorem d_LW_value_5 : decode b_LW_value 5 = .ok (.invokevirtual 50, 3) := by decide +kernel
theorem d_LW_value_8 : decode b_LW_value 8 = .ok (.ifCond .eq 7, 3) := by decide +kernel
theorem d_LW_value_11 : decode b_LW_value 11 = .ok (.lconst 1, 1) := by decide +kernel
theorem d_LW_value_12 : decode b_LW_value 12 = .ok (.goto 4, 3) := by decide +kernel
theorem d_LW_value_15 : decode b_LW_value 15 = .ok (.lconst 0, 1) := by decide +kernel
theorem d_LW_value_16 : decode b_LW_value 16 = .ok (.lastore, 1) := by decide +kernel
theorem d_LW_value_17 : decode b_LW_value 17 = .ok (.goto 11, 3) := by decide +kernel
theorem d_LW_value_20 : decode b_LW_value 20 = .ok (.astore 4, 2) := by decide +kernel
theorem d_LW_value_22 : decode b_LW_value 22 = .ok (.iconst 1, 1) := by decide +kernel
theorem d_LW_value_23 : decode b_LW_value 23 = .ok (.ireturn, 1) := by decide +kernel
theorem d_LW_value_24 : decode b_LW_value 24 = .ok (.astore 4, 2) := by decide +kernel
theorem d_LW_value_26 : decode b_LW_value 26 = .ok (.iconst 2, 1) := by decide +kernel
theorem d_LW_value_27 : decode b_LW_value 27 = .ok (.ireturn, 1) := by decide +kernel
theorem d_LW_value_28 : decode b_LW_value 28 = .ok (.iconst 0, 1) := by decide +kernel
theorem d_LW_value_29 : decode b_LW_value 29 = .ok (.ireturn, 1) := by decide +kernel
theorem d_SG_value_0 : decode b_SG_value 0 = .ok (.iload_n 1, 1) := by decide +kernel
theorem d_SG_value_1 : decode b_SG_value 1 = .ok (.bipush 8, 2) := by decide +kernel
theorem d_SG_value_3 : decode b_SG_value 3 = .ok (.invokestatic 42, 3) := by decide +kernel
theorem d_SG_value_6 : decode b_SG_value 6 = .ok (.iload_n 2, 1) := by decide +kernel
theorem d_SG_value_7 : decode b_SG_value 7 = .ok (.bipush 64, 2) := by decide +kernel
theorem d_SG_value_9 : decode b_SG_value 9 = .ok (.invokestatic 42, 3) := by decide +kernel
theorem d_SG_value_12 : decode b_SG_value 12 = .ok (.aload_n 0, 1) := by decide +kernel
theorem d_SG_value_13 : decode b_SG_value 13 = .ok (.iload_n 1, 1) := by decide +kernel
theorem d_SG_value_14 : decode b_SG_value 14 = .ok (.invokevirtual 58, 3) := by decide +kernel
theorem d_SG_value_17 : decode b_SG_value 17 = .ok (.iload_n 2, 1) := by decide +kernel
theorem d_SG_value_18 : decode b_SG_value 18 = .ok (.invokestatic 97, 3) := by decide +kernel
theorem d_SG_value_21 : decode b_SG_value 21 = .ok (.ireturn, 1) := by decide +kernel
theorem d_TB_at_0 : decode b_TB_at 0 = .ok (.lload_n 0, 1) := by decide +kernel
theorem d_TB_at_1 : decode b_TB_at 1 = .ok (.iload_n 2, 1) := by decide +kernel
theorem d_TB_at_2 : decode b_TB_at 2 = .ok (.lushr, 1) := by decide +kernel
theorem d_TB_at_3 : decode b_TB_at 3 = .ok (.lconst 1, 1) := by decide +kernel
theorem d_TB_at_4 : decode b_TB_at 4 = .ok (.land, 1) := by decide +kernel
theorem d_TB_at_5 : decode b_TB_at 5 = .ok (.lconst 1, 1) := by decide +kernel
theorem d_TB_at_6 : decode b_TB_at 6 = .ok (.lcmp, 1) := by decide +kernel
theorem d_TB_at_7 : decode b_TB_at 7 = .ok (.ifCond .ne 7, 3) := by decide +kernel
theorem d_TB_at_10 : decode b_TB_at 10 = .ok (.iconst 1, 1) := by decide +kernel
theorem d_TB_at_11 : decode b_TB_at 11 = .ok (.goto 4, 3) := by decide +kernel
theorem d_TB_at_14 : decode b_TB_at 14 = .ok (.iconst 0, 1) := by decide +kernel
theorem d_TB_at_15 : decode b_TB_at 15 = .ok (.ireturn, 1) := by decide +kernel
theorem d_LW_count_0 : decode b_LW_count 0 = .ok (.aload_n 2, 1) := by decide +kernel
theorem d_LW_count_1 : decode b_LW_count 1 = .ok (.iconst 0, 1) := by decide +kernel
theorem d_LW_count_2 : decode b_LW_count 2 = .ok (.aload_n 0, 1) := by decide +kernel
theorem d_LW_count_3 : decode b_LW_count 3 = .ok (.iload_n 1, 1) := by decide +kernel
theorem d_LW_count_4 : decode b_LW_count 4 = .ok (.invokevirtual 53, 3) := by decide +kernel
theorem d_LW_count_7 : decode b_LW_count 7 = .ok (.i2l, 1) := by decide +kernel
theorem d_LW_count_8 : decode b_LW_count 8 = .ok (.lastore, 1) := by decide +kernel
theorem d_LW_count_9 : decode b_LW_count 9 = .ok (.goto 9, 3) := by decide +kernel
theorem d_LW_count_12 : decode b_LW_count 12 = .ok (.astore_n 3, 1) := by decide +kernel
theorem d_LW_count_13 : decode b_LW_count 13 = .ok (.iconst 1, 1) := by decide +kernel
theorem d_LW_count_14 : decode b_LW_count 14 = .ok (.ireturn, 1) := by decide +kernel
theorem d_LW_count_15 : decode b_LW_count 15 = .ok (.astore_n 3, 1) := by decide +kernel
theorem d_LW_count_16 : decode b_LW_count 16 = .ok (.iconst 2, 1) := by decide +kernel
theorem d_LW_count_17 : decode b_LW_count 17 = .ok (.ireturn, 1) := by decide +kernel
theorem d_LW_count_18 : decode b_LW_count 18 = .ok (.iconst 0, 1) := by decide +kernel
theorem d_LW_count_19 : decode b_LW_count 19 = .ok (.ireturn, 1) := by decide +kernel
theorem d_SG_count_0 : decode b_SG_count 0 = .ok (.iload_n 1, 1) := by decide +kernel
theorem d_SG_count_1 : decode b_SG_count 1 = .ok (.bipush 8, 2) := by decide +kernel
theorem d_SG_count_3 : decode b_SG_count 3 = .ok (.invokestatic 42, 3) := by decide +kernel
theorem d_SG_count_6 : decode b_SG_count 6 = .ok (.aload_n 0, 1) := by decide +kernel
theorem d_SG_count_7 : decode b_SG_count 7 = .ok (.iload_n 1, 1) := by decide +kernel
theorem d_SG_count_8 : decode b_SG_count 8 = .ok (.invokevirtual 58, 3) := by decide +kernel
theorem d_SG_count_11 : decode b_SG_count 11 = .ok (.invokestatic 101, 3) := by decide +kernel
theorem d_SG_count_14 : decode b_SG_count 14 = .ok (.ireturn, 1) := by decide +kernel
theorem d_JL_bitCount_0 : decode b_JL_bitCount 0 = .ok (.lload_n 0, 1) := by decide +kernel
theorem d_JL_bitCount_1 : decode b_JL_bitCount 1 = .ok (.lload_n 0, 1) := by decide +kernel
theorem d_JL_bitCount_2 : decode b_JL_bitCount 2 = .ok (.iconst 1, 1) := by decide +kernel
theorem d_JL_bitCount_3 : decode b_JL_bitCount 3 = .ok (.lushr, 1) := by decide +kernel
theorem d_JL_bitCount_4 : decode b_JL_bitCount 4 = .ok (.ldc2_w 314, 3) := by decide +kernel
theorem d_JL_bitCount_7 : decode b_JL_bitCount 7 = .ok (.land, 1) := by decide +kernel
theorem d_JL_bitCount_8 : decode b_JL_bitCount 8 = .ok (.lsub, 1) := by decide +kernel
theorem d_JL_bitCount_9 : decode b_JL_bitCount 9 = .ok (.lstore_n 0, 1) := by decide +kernel
theorem d_JL_bitCount_10 : decode b_JL_bitCount 10 = .ok (.lload_n 0, 1) := by decide +kernel
theorem d_JL_bitCount_11 : decode b_JL_bitCount 11 = .ok (.ldc2_w 316, 3) := by decide +kernel
theorem d_JL_bitCount_14 : decode b_JL_bitCount 14 = .ok (.land, 1) := by decide +kernel
theorem d_JL_bitCount_15 : decode b_JL_bitCount 15 = .ok (.lload_n 0, 1) := by decide +kernel
theorem d_JL_bitCount_16 : decode b_JL_bitCount 16 = .ok (.iconst 2, 1) := by decide +kernel
theorem d_JL_bitCount_17 : decode b_JL_bitCount 17 = .ok (.lushr, 1) := by decide +kernel
theorem d_JL_bitCount_18 : decode b_JL_bitCount 18 = .ok (.ldc2_w 316, 3) := by decide +kernel
theorem d_JL_bitCount_21 : decode b_JL_bitCount 21 = .ok (.land, 1) := by decide +kernel
end
section
theorem d_JL_bitCount_22 : decode b_JL_bitCount 22 = .ok (.ladd, 1) := by decide +kernel
theorem d_JL_bitCount_23 : decode b_JL_bitCount 23 = .ok (.lstore_n 0, 1) := by decide +kernel
theorem d_JL_bitCount_24 : decode b_JL_bitCount 24 = .ok (.lload_n 0, 1) := by decide +kernel
theorem d_JL_bitCount_25 : decode b_JL_bitCount 25 = .ok (.lload_n 0, 1) := by decide +kernel
theorem d_JL_bitCount_26 : decode b_JL_bitCount 26 = .ok (.iconst 4, 1) := by decide +kernel
theorem d_JL_bitCount_27 : decode b_JL_bitCount 27 = .ok (.lushr, 1) := by decide +kernel
theorem d_JL_bitCount_28 : decode b_JL_bitCount 28 = .ok (.ladd, 1) := by decide +kernel
theorem d_JL_bitCount_29 : decode b_JL_bitCount 29 = .ok (.ldc2_w 318, 3) := by decide +kernel
theorem d_JL_bitCount_32 : decode b_JL_bitCount 32 = .ok (.land, 1) := by decide +kernel
theorem d_JL_bitCount_33 : decode b_JL_bitCount 33 = .ok (.lstore_n 0, 1) := by decide +kernel
theorem d_JL_bitCount_34 : decode b_JL_bitCount 34 = .ok (.lload_n 0, 1) := by decide +kernel
theorem d_JL_bitCount_35 : decode b_JL_bitCount 35 = .ok (.lload_n 0, 1) := by decide +kernel
theorem d_JL_bitCount_36 : decode b_JL_bitCount 36 = .ok (.bipush 8, 2) := by decide +kernel
theorem d_JL_bitCount_38 : decode b_JL_bitCount 38 = .ok (.lushr, 1) := by decide +kernel
theorem d_JL_bitCount_39 : decode b_JL_bitCount 39 = .ok (.ladd, 1) := by decide +kernel
theorem d_JL_bitCount_40 : decode b_JL_bitCount 40 = .ok (.lstore_n 0, 1) := by decide +kernel
theorem d_JL_bitCount_41 : decode b_JL_bitCount 41 = .ok (.lload_n 0, 1) := by decide +kernel
theorem d_JL_bitCount_42 : decode b_JL_bitCount 42 = .ok (.lload_n 0, 1) := by decide +kernel
theorem d_JL_bitCount_43 : decode b_JL_bitCount 43 = .ok (.bipush 16, 2) := by decide +kernel
theorem d_JL_bitCount_45 : decode b_JL_bitCount 45 = .ok (.lushr, 1) := by decide +kernel
theorem d_JL_bitCount_46 : decode b_JL_bitCount 46 = .ok (.ladd, 1) := by decide +kernel
theorem d_JL_bitCount_47 : decode b_JL_bitCount 47 = .ok (.lstore_n 0, 1) := by decide +kernel
theorem d_JL_bitCount_48 : decode b_JL_bitCount 48 = .ok (.lload_n 0, 1) := by decide +kernel
theorem d_JL_bitCount_49 : decode b_JL_bitCount 49 = .ok (.lload_n 0, 1) := by decide +kernel
theorem d_JL_bitCount_50 : decode b_JL_bitCount 50 = .ok (.bipush 32, 2) := by decide +kernel
theorem d_JL_bitCount_52 : decode b_JL_bitCount 52 = .ok (.lushr, 1) := by decide +kernel
theorem d_JL_bitCount_53 : decode b_JL_bitCount 53 = .ok (.ladd, 1) := by decide +kernel
theorem d_JL_bitCount_54 : decode b_JL_bitCount 54 = .ok (.lstore_n 0, 1) := by decide +kernel
theorem d_JL_bitCount_55 : decode b_JL_bitCount 55 = .ok (.lload_n 0, 1) := by decide +kernel
theorem d_JL_bitCount_56 : decode b_JL_bitCount 56 = .ok (.l2i, 1) := by decide +kernel
theorem d_JL_bitCount_57 : decode b_JL_bitCount 57 = .ok (.bipush 127, 2) := by decide +kernel
theorem d_JL_bitCount_59 : decode b_JL_bitCount 59 = .ok (.iand, 1) := by decide +kernel
theorem d_JL_bitCount_60 : decode b_JL_bitCount 60 = .ok (.ireturn, 1) := by decide +kernel
theorem d_LW_least_0 : decode b_LW_least 0 = .ok (.aload_n 2, 1) := by decide +kernel
theorem d_LW_least_1 : decode b_LW_least 1 = .ok (.iconst 0, 1) := by decide +kernel
theorem d_LW_least_2 : decode b_LW_least 2 = .ok (.aload_n 0, 1) := by decide +kernel
theorem d_LW_least_3 : decode b_LW_least 3 = .ok (.iload_n 1, 1) := by decide +kernel
theorem d_LW_least_4 : decode b_LW_least 4 = .ok (.invokevirtual 56, 3) := by decide +kernel
theorem d_LW_least_7 : decode b_LW_least 7 = .ok (.i2l, 1) := by decide +kernel
theorem d_LW_least_8 : decode b_LW_least 8 = .ok (.lastore, 1) := by decide +kernel
theorem d_LW_least_9 : decode b_LW_least 9 = .ok (.goto 9, 3) := by decide +kernel
theorem d_LW_least_12 : decode b_LW_least 12 = .ok (.astore_n 3, 1) := by decide +kernel
theorem d_LW_least_13 : decode b_LW_least 13 = .ok (.iconst 1, 1) := by decide +kernel
theorem d_LW_least_14 : decode b_LW_least 14 = .ok (.ireturn, 1) := by decide +kernel
theorem d_LW_least_15 : decode b_LW_least 15 = .ok (.astore_n 3, 1) := by decide +kernel
theorem d_LW_least_16 : decode b_LW_least 16 = .ok (.iconst 2, 1) := by decide +kernel
theorem d_LW_least_17 : decode b_LW_least 17 = .ok (.ireturn, 1) := by decide +kernel
theorem d_LW_least_18 : decode b_LW_least 18 = .ok (.iconst 0, 1) := by decide +kernel
theorem d_LW_least_19 : decode b_LW_least 19 = .ok (.ireturn, 1) := by decide +kernel
theorem d_SG_least_0 : decode b_SG_least 0 = .ok (.iload_n 1, 1) := by decide +kernel
theorem d_SG_least_1 : decode b_SG_least 1 = .ok (.bipush 8, 2) := by decide +kernel
theorem d_SG_least_3 : decode b_SG_least 3 = .ok (.invokestatic 42, 3) := by decide +kernel
theorem d_SG_least_6 : decode b_SG_least 6 = .ok (.aload_n 0, 1) := by decide +kernel
theorem d_SG_least_7 : decode b_SG_least 7 = .ok (.iload_n 1, 1) := by decide +kernel
theorem d_SG_least_8 : decode b_SG_least 8 = .ok (.invokevirtual 58, 3) := by decide +kernel
theorem d_SG_least_11 : decode b_SG_least 11 = .ok (.lstore_n 2, 1) := by decide +kernel
theorem d_SG_least_12 : decode b_SG_least 12 = .ok (.iconst 0, 1) := by decide +kernel
theorem d_SG_least_13 : decode b_SG_least 13 = .ok (.istore 4, 2) := by decide +kernel
theorem d_SG_least_15 : decode b_SG_least 15 = .ok (.iload 4, 2) := by decide +kernel
theorem d_SG_least_17 : decode b_SG_least 17 = .ok (.bipush 64, 2) := by decide +kernel
theorem d_SG_least_19 : decode b_SG_least 19 = .ok (.if_icmp .ge 21, 3) := by decide +kernel
theorem d_SG_least_22 : decode b_SG_least 22 = .ok (.lload_n 2, 1) := by decide +kernel
theorem d_SG_least_23 : decode b_SG_least 23 = .ok (.iload 4, 2) := by decide +kernel
theorem d_SG_least_25 : decode b_SG_least 25 = .ok (.invokestatic 97, 3) := by decide +kernel
theorem d_SG_least_28 : decode b_SG_least 28 = .ok (.ifCond .eq 6, 3) := by decide +kernel
theorem d_SG_least_31 : decode b_SG_least 31 = .ok (.iload 4, 2) := by decide +kernel
theorem d_SG_least_33 : decode b_SG_least 33 = .ok (.ireturn, 1) := by decide +kernel
theorem d_SG_least_34 : decode b_SG_least 34 = .ok (.iinc 4 1, 3) := by decide +kernel
theorem d_SG_least_37 : decode b_SG_least 37 = .ok (.goto (-22), 3) := by decide +kernel
theorem d_SG_least_40 : decode b_SG_least 40 = .ok (.iconst (-1), 1) := by decide +kernel
theorem d_SG_least_41 : decode b_SG_least 41 = .ok (.ireturn, 1) := by decide +kernel
theorem d_LW_support_0 : decode b_LW_support 0 = .ok (.aload_n 2, 1) := by decide +kernel
theorem d_LW_support_1 : decode b_LW_support 1 = .ok (.iconst 0, 1) := by decide +kernel
theorem d_LW_support_2 : decode b_LW_support 2 = .ok (.aload_n 0, 1) := by decide +kernel
theorem d_LW_support_3 : decode b_LW_support 3 = .ok (.iload_n 1, 1) := by decide +kernel
theorem d_LW_support_4 : decode b_LW_support 4 = .ok (.invokevirtual 59, 3) := by decide +kernel
theorem d_LW_support_7 : decode b_LW_support 7 = .ok (.i2l, 1) := by decide +kernel
theorem d_LW_support_8 : decode b_LW_support 8 = .ok (.lastore, 1) := by decide +kernel
theorem d_LW_support_9 : decode b_LW_support 9 = .ok (.goto 9, 3) := by decide +kernel
theorem d_LW_support_12 : decode b_LW_support 12 = .ok (.astore_n 3, 1) := by decide +kernel
theorem d_LW_support_13 : decode b_LW_support 13 = .ok (.iconst 1, 1) := by decide +kernel
theorem d_LW_support_14 : decode b_LW_support 14 = .ok (.ireturn, 1) := by decide +kernel
theorem d_LW_support_15 : decode b_LW_support 15 = .ok (.astore_n 3, 1) := by decide +kernel
theorem d_LW_support_16 : decode b_LW_support 16 = .ok (.iconst 2, 1) := by decide +kernel
theorem d_LW_support_17 : decode b_LW_support 17 = .ok (.ireturn, 1) := by decide +kernel
theorem d_LW_support_18 : decode b_LW_support 18 = .ok (.iconst 0, 1) := by decide +kernel
theorem d_LW_support_19 : decode b_LW_support 19 = .ok (.ireturn, 1) := by decide +kernel
theorem d_SG_support_0 : decode b_SG_support 0 = .ok (.iload_n 1, 1) := by decide +kernel
theorem d_SG_support_1 : decode b_SG_support 1 = .ok (.bipush 8, 2) := by decide +kernel
theorem d_SG_support_3 : decode b_SG_support 3 = .ok (.invokestatic 42, 3) := by decide +kernel
theorem d_SG_support_6 : decode b_SG_support 6 = .ok (.aload_n 0, 1) := by decide +kernel
theorem d_SG_support_7 : decode b_SG_support 7 = .ok (.iload_n 1, 1) := by decide +kernel
theorem d_SG_support_8 : decode b_SG_support 8 = .ok (.invokevirtual 58, 3) := by decide +kernel
theorem d_SG_support_11 : decode b_SG_support 11 = .ok (.lstore_n 2, 1) := by decide +kernel
theorem d_SG_support_12 : decode b_SG_support 12 = .ok (.iconst 0, 1) := by decide +kernel
theorem d_SG_support_13 : decode b_SG_support 13 = .ok (.istore 4, 2) := by decide +kernel
theorem d_SG_support_15 : decode b_SG_support 15 = .ok (.iconst 0, 1) := by decide +kernel
theorem d_SG_support_16 : decode b_SG_support 16 = .ok (.istore 5, 2) := by decide +kernel
theorem d_SG_support_18 : decode b_SG_support 18 = .ok (.iload 5, 2) := by decide +kernel
theorem d_SG_support_20 : decode b_SG_support 20 = .ok (.bipush 6, 2) := by decide +kernel
theorem d_SG_support_22 : decode b_SG_support 22 = .ok (.if_icmp .ge 27, 3) := by decide +kernel
theorem d_SG_support_25 : decode b_SG_support 25 = .ok (.lload_n 2, 1) := by decide +kernel
theorem d_SG_support_26 : decode b_SG_support 26 = .ok (.iload 5, 2) := by decide +kernel
theorem d_SG_support_28 : decode b_SG_support 28 = .ok (.invokestatic 107, 3) := by decide +kernel
theorem d_SG_support_31 : decode b_SG_support 31 = .ok (.ifCond .eq 12, 3) := by decide +kernel
theorem d_SG_support_34 : decode b_SG_support 34 = .ok (.iload 4, 2) := by decide +kernel
theorem d_SG_support_36 : decode b_SG_support 36 = .ok (.iconst 1, 1) := by decide +kernel
theorem d_SG_support_37 : decode b_SG_support 37 = .ok (.iload 5, 2) := by decide +kernel
theorem d_SG_support_39 : decode b_SG_support 39 = .ok (.ishl, 1) := by decide +kernel
theorem d_SG_support_40 : decode b_SG_support 40 = .ok (.ior, 1) := by decide +kernel
theorem d_SG_support_41 : decode b_SG_support 41 = .ok (.istore 4, 2) := by decide +kernel
theorem d_SG_support_43 : decode b_SG_support 43 = .ok (.iinc 5 1, 3) := by decide +kernel
theorem d_SG_support_46 : decode b_SG_support 46 = .ok (.goto (-28), 3) := by decide +kernel
theorem d_SG_support_49 : decode b_SG_support 49 = .ok (.iload 4, 2) := by decide +kernel
theorem d_SG_support_51 : decode b_SG_support 51 = .ok (.ireturn, 1) := by decide +kernel
theorem d_TB_dependsOn_0 : decode b_TB_dependsOn 0 = .ok (.lload_n 0, 1) := by decide +kernel
theorem d_TB_dependsOn_1 : decode b_TB_dependsOn 1 = .ok (.iload_n 2, 1) := by decide +kernel
theorem d_TB_dependsOn_2 : decode b_TB_dependsOn 2 = .ok (.invokestatic 21, 3) := by decide +kernel
theorem d_TB_dependsOn_5 : decode b_TB_dependsOn 5 = .ok (.lload_n 0, 1) := by decide +kernel
theorem d_TB_dependsOn_6 : decode b_TB_dependsOn 6 = .ok (.iload_n 2, 1) := by decide +kernel
theorem d_TB_dependsOn_7 : decode b_TB_dependsOn 7 = .ok (.invokestatic 25, 3) := by decide +kernel
theorem d_TB_dependsOn_10 : decode b_TB_dependsOn 10 = .ok (.lcmp, 1) := by decide +kernel
theorem d_TB_dependsOn_11 : decode b_TB_dependsOn 11 = .ok (.ifCond .eq 7, 3) := by decide +kernel
theorem d_TB_dependsOn_14 : decode b_TB_dependsOn 14 = .ok (.iconst 1, 1) := by decide +kernel
theorem d_TB_dependsOn_15 : decode b_TB_dependsOn 15 = .ok (.goto 4, 3) := by decide +kernel
theorem d_TB_dependsOn_18 : decode b_TB_dependsOn 18 = .ok (.iconst 0, 1) := by decide +kernel
theorem d_TB_dependsOn_19 : decode b_TB_dependsOn 19 = .ok (.ireturn, 1) := by decide +kernel
theorem d_LW_size_0 : decode b_LW_size 0 = .ok (.aload_n 2, 1) := by decide +kernel
theorem d_LW_size_1 : decode b_LW_size 1 = .ok (.iconst 0, 1) := by decide +kernel
theorem d_LW_size_2 : decode b_LW_size 2 = .ok (.aload_n 0, 1) := by decide +kernel
theorem d_LW_size_3 : decode b_LW_size 3 = .ok (.iload_n 1, 1) := by decide +kernel
theorem d_LW_size_4 : decode b_LW_size 4 = .ok (.invokevirtual 62, 3) := by decide +kernel
theorem d_LW_size_7 : decode b_LW_size 7 = .ok (.i2l, 1) := by decide +kernel
theorem d_LW_size_8 : decode b_LW_size 8 = .ok (.lastore, 1) := by decide +kernel
theorem d_LW_size_9 : decode b_LW_size 9 = .ok (.goto 9, 3) := by decide +kernel
theorem d_LW_size_12 : decode b_LW_size 12 = .ok (.astore_n 3, 1) := by decide +kernel
theorem d_LW_size_13 : decode b_LW_size 13 = .ok (.iconst 1, 1) := by decide +kernel
theorem d_LW_size_14 : decode b_LW_size 14 = .ok (.ireturn, 1) := by decide +kernel
theorem d_LW_size_15 : decode b_LW_size 15 = .ok (.astore_n 3, 1) := by decide +kernel
theorem d_LW_size_16 : decode b_LW_size 16 = .ok (.iconst 2, 1) := by decide +kernel
theorem d_LW_size_17 : decode b_LW_size 17 = .ok (.ireturn, 1) := by decide +kernel
theorem d_LW_size_18 : decode b_LW_size 18 = .ok (.iconst 0, 1) := by decide +kernel
theorem d_LW_size_19 : decode b_LW_size 19 = .ok (.ireturn, 1) := by decide +kernel
theorem d_SG_size_0 : decode b_SG_size 0 = .ok (.iload_n 1, 1) := by decide +kernel
theorem d_SG_size_1 : decode b_SG_size 1 = .ok (.bipush 8, 2) := by decide +kernel
theorem d_SG_size_3 : decode b_SG_size 3 = .ok (.invokestatic 42, 3) := by decide +kernel
theorem d_SG_size_6 : decode b_SG_size 6 = .ok (.aload_n 0, 1) := by decide +kernel
theorem d_SG_size_7 : decode b_SG_size 7 = .ok (.getfield 38, 3) := by decide +kernel
theorem d_SG_size_10 : decode b_SG_size 10 = .ok (.invokevirtual 110, 3) := by decide +kernel
theorem d_SG_size_13 : decode b_SG_size 13 = .ok (.aload_n 0, 1) := by decide +kernel
theorem d_SG_size_14 : decode b_SG_size 14 = .ok (.getfield 38, 3) := by decide +kernel
theorem d_SG_size_17 : decode b_SG_size 17 = .ok (.aload_n 0, 1) := by decide +kernel
theorem d_SG_size_18 : decode b_SG_size 18 = .ok (.iload_n 1, 1) := by decide +kernel
theorem d_SG_size_19 : decode b_SG_size 19 = .ok (.invokevirtual 58, 3) := by decide +kernel
theorem d_SG_size_22 : decode b_SG_size 22 = .ok (.invokevirtual 113, 3) := by decide +kernel
theorem d_SG_size_25 : decode b_SG_size 25 = .ok (.aload_n 0, 1) := by decide +kernel
theorem d_SG_size_26 : decode b_SG_size 26 = .ok (.getfield 38, 3) := by decide +kernel
theorem d_SG_size_29 : decode b_SG_size 29 = .ok (.aload_n 0, 1) := by decide +kernel
theorem d_SG_size_30 : decode b_SG_size 30 = .ok (.getfield 16, 3) := by decide +kernel
theorem d_SG_size_33 : decode b_SG_size 33 = .ok (.invokevirtual 117, 3) := by decide +kernel
theorem d_SG_size_36 : decode b_SG_size 36 = .ok (.ireturn, 1) := by decide +kernel
theorem d_LW_width_0 : decode b_LW_width 0 = .ok (.aload_n 2, 1) := by decide +kernel
theorem d_LW_width_1 : decode b_LW_width 1 = .ok (.iconst 0, 1) := by decide +kernel
theorem d_LW_width_2 : decode b_LW_width 2 = .ok (.aload_n 0, 1) := by decide +kernel
theorem d_LW_width_3 : decode b_LW_width 3 = .ok (.iload_n 1, 1) := by decide +kernel
theorem d_LW_width_4 : decode b_LW_width 4 = .ok (.invokevirtual 65, 3) := by decide +kernel
theorem d_LW_width_7 : decode b_LW_width 7 = .ok (.i2l, 1) := by decide +kernel
theorem d_LW_width_8 : decode b_LW_width 8 = .ok (.lastore, 1) := by decide +kernel
theorem d_LW_width_9 : decode b_LW_width 9 = .ok (.goto 6, 3) := by decide +kernel
theorem d_LW_width_12 : decode b_LW_width 12 = .ok (.astore_n 3, 1) := by decide +kernel
theorem d_LW_width_13 : decode b_LW_width 13 = .ok (.iconst 1, 1) := by decide +kernel
theorem d_LW_width_14 : decode b_LW_width 14 = .ok (.ireturn, 1) := by decide +kernel
theorem d_LW_width_15 : decode b_LW_width 15 = .ok (.iconst 0, 1) := by decide +kernel
theorem d_LW_width_16 : decode b_LW_width 16 = .ok (.ireturn, 1) := by decide +kernel
theorem d_SG_width_0 : decode b_SG_width 0 = .ok (.iload_n 1, 1) := by decide +kernel
theorem d_SG_width_1 : decode b_SG_width 1 = .ok (.bipush 6, 2) := by decide +kernel
theorem d_SG_width_3 : decode b_SG_width 3 = .ok (.invokestatic 42, 3) := by decide +kernel
theorem d_SG_width_6 : decode b_SG_width 6 = .ok (.aload_n 0, 1) := by decide +kernel
theorem d_SG_width_7 : decode b_SG_width 7 = .ok (.invokevirtual 121, 3) := by decide +kernel
theorem d_SG_width_10 : decode b_SG_width 10 = .ok (.pop, 1) := by decide +kernel
theorem d_SG_width_11 : decode b_SG_width 11 = .ok (.aload_n 0, 1) := by decide +kernel
theorem d_SG_width_12 : decode b_SG_width 12 = .ok (.getfield 38, 3) := by decide +kernel
theorem d_SG_width_15 : decode b_SG_width 15 = .ok (.iload_n 1, 1) := by decide +kernel
theorem d_SG_width_16 : decode b_SG_width 16 = .ok (.invokevirtual 125, 3) := by decide +kernel
theorem d_SG_width_19 : decode b_SG_width 19 = .ok (.ireturn, 1) := by decide +kernel
theorem d_NC_onLevel_0 : decode b_NC_onLevel 0 = .ok (.aload_n 0, 1) := by decide +kernel
theorem d_NC_onLevel_1 : decode b_NC_onLevel 1 = .ok (.getfield 18, 3) := by decide +kernel
theorem d_NC_onLevel_4 : decode b_NC_onLevel 4 = .ok (.iload_n 1, 1) := by decide +kernel
theorem d_NC_onLevel_5 : decode b_NC_onLevel 5 = .ok (.iaload, 1) := by decide +kernel
theorem d_NC_onLevel_6 : decode b_NC_onLevel 6 = .ok (.ireturn, 1) := by decide +kernel
theorem d_LW_variable_0 : decode b_LW_variable 0 = .ok (.aload_n 2, 1) := by decide +kernel
theorem d_LW_variable_1 : decode b_LW_variable 1 = .ok (.iconst 0, 1) := by decide +kernel
theorem d_LW_variable_2 : decode b_LW_variable 2 = .ok (.aload_n 0, 1) := by decide +kernel
theorem d_LW_variable_3 : decode b_LW_variable 3 = .ok (.iload_n 1, 1) := by decide +kernel
theorem d_LW_variable_4 : decode b_LW_variable 4 = .ok (.invokevirtual 68, 3) := by decide +kernel
theorem d_LW_variable_7 : decode b_LW_variable 7 = .ok (.i2l, 1) := by decide +kernel
theorem d_LW_variable_8 : decode b_LW_variable 8 = .ok (.lastore, 1) := by decide +kernel
theorem d_LW_variable_9 : decode b_LW_variable 9 = .ok (.goto 6, 3) := by decide +kernel
theorem d_LW_variable_12 : decode b_LW_variable 12 = .ok (.astore_n 3, 1) := by decide +kernel
theorem d_LW_variable_13 : decode b_LW_variable 13 = .ok (.iconst 1, 1) := by decide +kernel
theorem d_LW_variable_14 : decode b_LW_variable 14 = .ok (.ireturn, 1) := by decide +kernel
theorem d_LW_variable_15 : decode b_LW_variable 15 = .ok (.iconst 0, 1) := by decide +kernel
theorem d_LW_variable_16 : decode b_LW_variable 16 = .ok (.ireturn, 1) := by decide +kernel
theorem d_SG_variable_0 : decode b_SG_variable 0 = .ok (.iload_n 1, 1) := by decide +kernel
theorem d_SG_variable_1 : decode b_SG_variable 1 = .ok (.bipush 6, 2) := by decide +kernel
theorem d_SG_variable_3 : decode b_SG_variable 3 = .ok (.invokestatic 42, 3) := by decide +kernel
theorem d_SG_variable_6 : decode b_SG_variable 6 = .ok (.aload_n 0, 1) := by decide +kernel
theorem d_SG_variable_7 : decode b_SG_variable 7 = .ok (.getfield 16, 3) := by decide +kernel
theorem d_SG_variable_10 : decode b_SG_variable 10 = .ok (.iload_n 1, 1) := by decide +kernel
theorem d_SG_variable_11 : decode b_SG_variable 11 = .ok (.iaload, 1) := by decide +kernel
theorem d_SG_variable_12 : decode b_SG_variable 12 = .ok (.ireturn, 1) := by decide +kernel
theorem d_LW_swap_0 : decode b_LW_swap 0 = .ok (.aload_n 2, 1) := by decide +kernel
theorem d_LW_swap_1 : decode b_LW_swap 1 = .ok (.iconst 0, 1) := by decide +kernel
theorem d_LW_swap_2 : decode b_LW_swap 2 = .ok (.aload_n 0, 1) := by decide +kernel
theorem d_LW_swap_3 : decode b_LW_swap 3 = .ok (.iload_n 1, 1) := by decide +kernel
theorem d_LW_swap_4 : decode b_LW_swap 4 = .ok (.invokevirtual 71, 3) := by decide +kernel
theorem d_LW_swap_7 : decode b_LW_swap 7 = .ok (.i2l, 1) := by decide +kernel
theorem d_LW_swap_8 : decode b_LW_swap 8 = .ok (.lastore, 1) := by decide +kernel
theorem d_LW_swap_9 : decode b_LW_swap 9 = .ok (.goto 6, 3) := by decide +kernel
theorem d_LW_swap_12 : decode b_LW_swap 12 = .ok (.astore_n 3, 1) := by decide +kernel
theorem d_LW_swap_13 : decode b_LW_swap 13 = .ok (.iconst 1, 1) := by decide +kernel
theorem d_LW_swap_14 : decode b_LW_swap 14 = .ok (.ireturn, 1) := by decide +kernel
theorem d_LW_swap_15 : decode b_LW_swap 15 = .ok (.iconst 0, 1) := by decide +kernel
theorem d_LW_swap_16 : decode b_LW_swap 16 = .ok (.ireturn, 1) := by decide +kernel
theorem d_SG_swap_0 : decode b_SG_swap 0 = .ok (.iload_n 1, 1) := by decide +kernel
theorem d_SG_swap_1 : decode b_SG_swap 1 = .ok (.iconst 5, 1) := by decide +kernel
theorem d_SG_swap_2 : decode b_SG_swap 2 = .ok (.invokestatic 42, 3) := by decide +kernel
theorem d_SG_swap_5 : decode b_SG_swap 5 = .ok (.aload_n 0, 1) := by decide +kernel
theorem d_SG_swap_6 : decode b_SG_swap 6 = .ok (.iload_n 1, 1) := by decide +kernel
theorem d_SG_swap_7 : decode b_SG_swap 7 = .ok (.invokevirtual 129, 3) := by decide +kernel
theorem d_SG_swap_10 : decode b_SG_swap 10 = .ok (.aload_n 0, 1) := by decide +kernel
theorem d_SG_swap_11 : decode b_SG_swap 11 = .ok (.invokevirtual 121, 3) := by decide +kernel
theorem d_SG_swap_14 : decode b_SG_swap 14 = .ok (.ireturn, 1) := by decide +kernel
theorem d_SG_exchange_0 : decode b_SG_exchange 0 = .ok (.aload_n 0, 1) := by decide +kernel
theorem d_SG_exchange_1 : decode b_SG_exchange 1 = .ok (.getfield 16, 3) := by decide +kernel
theorem d_SG_exchange_4 : decode b_SG_exchange 4 = .ok (.iload_n 1, 1) := by decide +kernel
theorem d_SG_exchange_5 : decode b_SG_exchange 5 = .ok (.iaload, 1) := by decide +kernel
theorem d_SG_exchange_6 : decode b_SG_exchange 6 = .ok (.istore_n 2, 1) := by decide +kernel
theorem d_SG_exchange_7 : decode b_SG_exchange 7 = .ok (.aload_n 0, 1) := by decide +kernel
theorem d_SG_exchange_8 : decode b_SG_exchange 8 = .ok (.getfield 16, 3) := by decide +kernel
theorem d_SG_exchange_11 : decode b_SG_exchange 11 = .ok (.iload_n 1, 1) := by decide +kernel
theorem d_SG_exchange_12 : decode b_SG_exchange 12 = .ok (.aload_n 0, 1) := by decide +kernel
theorem d_SG_exchange_13 : decode b_SG_exchange 13 = .ok (.getfield 16, 3) := by decide +kernel
theorem d_SG_exchange_16 : decode b_SG_exchange 16 = .ok (.iload_n 1, 1) := by decide +kernel
theorem d_SG_exchange_17 : decode b_SG_exchange 17 = .ok (.iconst 1, 1) := by decide +kernel
theorem d_SG_exchange_18 : decode b_SG_exchange 18 = .ok (.iadd, 1) := by decide +kernel
theorem d_SG_exchange_19 : decode b_SG_exchange 19 = .ok (.iaload, 1) := by decide +kernel
theorem d_SG_exchange_20 : decode b_SG_exchange 20 = .ok (.iastore, 1) := by decide +kernel
theorem d_SG_exchange_21 : decode b_SG_exchange 21 = .ok (.aload_n 0, 1) := by decide +kernel
theorem d_SG_exchange_22 : decode b_SG_exchange 22 = .ok (.getfield 16, 3) := by decide +kernel
theorem d_SG_exchange_25 : decode b_SG_exchange 25 = .ok (.iload_n 1, 1) := by decide +kernel
theorem d_SG_exchange_26 : decode b_SG_exchange 26 = .ok (.iconst 1, 1) := by decide +kernel
theorem d_SG_exchange_27 : decode b_SG_exchange 27 = .ok (.iadd, 1) := by decide +kernel
theorem d_SG_exchange_28 : decode b_SG_exchange 28 = .ok (.iload_n 2, 1) := by decide +kernel
theorem d_SG_exchange_29 : decode b_SG_exchange 29 = .ok (.iastore, 1) := by decide +kernel
theorem d_SG_exchange_30 : decode b_SG_exchange 30 = .ok (.return_, 1) := by decide +kernel
theorem d_LW_sift_0 : decode b_LW_sift 0 = .ok (.aload_n 2, 1) := by decide +kernel
theorem d_LW_sift_1 : decode b_LW_sift 1 = .ok (.iconst 0, 1) := by decide +kernel
theorem d_LW_sift_2 : decode b_LW_sift 2 = .ok (.aload_n 0, 1) := by decide +kernel
theorem d_LW_sift_3 : decode b_LW_sift 3 = .ok (.iload_n 1, 1) := by decide +kernel
theorem d_LW_sift_4 : decode b_LW_sift 4 = .ok (.invokevirtual 74, 3) := by decide +kernel
theorem d_LW_sift_7 : decode b_LW_sift 7 = .ok (.i2l, 1) := by decide +kernel
theorem d_LW_sift_8 : decode b_LW_sift 8 = .ok (.lastore, 1) := by decide +kernel
theorem d_LW_sift_9 : decode b_LW_sift 9 = .ok (.goto 6, 3) := by decide +kernel
theorem d_LW_sift_12 : decode b_LW_sift 12 = .ok (.astore_n 3, 1) := by decide +kernel
theorem d_LW_sift_13 : decode b_LW_sift 13 = .ok (.iconst 1, 1) := by decide +kernel
theorem d_LW_sift_14 : decode b_LW_sift 14 = .ok (.ireturn, 1) := by decide +kernel
theorem d_LW_sift_15 : decode b_LW_sift 15 = .ok (.iconst 0, 1) := by decide +kernel
theorem d_LW_sift_16 : decode b_LW_sift 16 = .ok (.ireturn, 1) := by decide +kernel
theorem d_SG_sift_0 : decode b_SG_sift 0 = .ok (.iload_n 1, 1) := by decide +kernel
theorem d_SG_sift_1 : decode b_SG_sift 1 = .ok (.bipush 6, 2) := by decide +kernel
theorem d_SG_sift_3 : decode b_SG_sift 3 = .ok (.invokestatic 42, 3) := by decide +kernel
theorem d_SG_sift_6 : decode b_SG_sift 6 = .ok (.aload_n 0, 1) := by decide +kernel
theorem d_SG_sift_7 : decode b_SG_sift 7 = .ok (.aload_n 0, 1) := by decide +kernel
theorem d_SG_sift_8 : decode b_SG_sift 8 = .ok (.iload_n 1, 1) := by decide +kernel
theorem d_SG_sift_9 : decode b_SG_sift 9 = .ok (.invokevirtual 132, 3) := by decide +kernel
theorem d_SG_sift_12 : decode b_SG_sift 12 = .ok (.iconst 0, 1) := by decide +kernel
theorem d_SG_sift_13 : decode b_SG_sift 13 = .ok (.invokevirtual 135, 3) := by decide +kernel
theorem d_SG_sift_16 : decode b_SG_sift 16 = .ok (.iconst 0, 1) := by decide +kernel
theorem d_SG_sift_17 : decode b_SG_sift 17 = .ok (.istore_n 2, 1) := by decide +kernel
theorem d_SG_sift_18 : decode b_SG_sift 18 = .ok (.aload_n 0, 1) := by decide +kernel
theorem d_SG_sift_19 : decode b_SG_sift 19 = .ok (.invokevirtual 121, 3) := by decide +kernel
theorem d_SG_sift_22 : decode b_SG_sift 22 = .ok (.istore_n 3, 1) := by decide +kernel
theorem d_SG_sift_23 : decode b_SG_sift 23 = .ok (.iconst 1, 1) := by decide +kernel
theorem d_SG_sift_24 : decode b_SG_sift 24 = .ok (.istore 4, 2) := by decide +kernel
theorem d_SG_sift_26 : decode b_SG_sift 26 = .ok (.iload 4, 2) := by decide +kernel
theorem d_SG_sift_28 : decode b_SG_sift 28 = .ok (.bipush 6, 2) := by decide +kernel
theorem d_SG_sift_30 : decode b_SG_sift 30 = .ok (.if_icmp .ge 35, 3) := by decide +kernel
theorem d_SG_sift_33 : decode b_SG_sift 33 = .ok (.aload_n 0, 1) := by decide +kernel
theorem d_SG_sift_34 : decode b_SG_sift 34 = .ok (.iload 4, 2) := by decide +kernel
theorem d_SG_sift_36 : decode b_SG_sift 36 = .ok (.iconst 1, 1) := by decide +kernel
theorem d_SG_sift_37 : decode b_SG_sift 37 = .ok (.isub, 1) := by decide +kernel
theorem d_SG_sift_38 : decode b_SG_sift 38 = .ok (.invokevirtual 129, 3) := by decide +kernel
theorem d_SG_sift_41 : decode b_SG_sift 41 = .ok (.aload_n 0, 1) := by decide +kernel
theorem d_SG_sift_42 : decode b_SG_sift 42 = .ok (.invokevirtual 121, 3) := by decide +kernel
theorem d_SG_sift_45 : decode b_SG_sift 45 = .ok (.istore 5, 2) := by decide +kernel
theorem d_SG_sift_47 : decode b_SG_sift 47 = .ok (.iload 5, 2) := by decide +kernel
theorem d_SG_sift_49 : decode b_SG_sift 49 = .ok (.iload_n 3, 1) := by decide +kernel
theorem d_SG_sift_50 : decode b_SG_sift 50 = .ok (.if_icmp .ge 9, 3) := by decide +kernel
theorem d_SG_sift_53 : decode b_SG_sift 53 = .ok (.iload 4, 2) := by decide +kernel
theorem d_SG_sift_55 : decode b_SG_sift 55 = .ok (.istore_n 2, 1) := by decide +kernel
theorem d_SG_sift_56 : decode b_SG_sift 56 = .ok (.iload 5, 2) := by decide +kernel
theorem d_SG_sift_58 : decode b_SG_sift 58 = .ok (.istore_n 3, 1) := by decide +kernel
theorem d_SG_sift_59 : decode b_SG_sift 59 = .ok (.iinc 4 1, 3) := by decide +kernel
theorem d_SG_sift_62 : decode b_SG_sift 62 = .ok (.goto (-36), 3) := by decide +kernel
theorem d_SG_sift_65 : decode b_SG_sift 65 = .ok (.aload_n 0, 1) := by decide +kernel
theorem d_SG_sift_66 : decode b_SG_sift 66 = .ok (.iconst 5, 1) := by decide +kernel
theorem d_SG_sift_67 : decode b_SG_sift 67 = .ok (.iload_n 2, 1) := by decide +kernel
theorem d_SG_sift_68 : decode b_SG_sift 68 = .ok (.invokevirtual 135, 3) := by decide +kernel
theorem d_SG_sift_71 : decode b_SG_sift 71 = .ok (.iload_n 2, 1) := by decide +kernel
theorem d_SG_sift_72 : decode b_SG_sift 72 = .ok (.ireturn, 1) := by decide +kernel
theorem d_SG_levelOf_0 : decode b_SG_levelOf 0 = .ok (.iconst 0, 1) := by decide +kernel
theorem d_SG_levelOf_1 : decode b_SG_levelOf 1 = .ok (.istore_n 2, 1) := by decide +kernel
theorem d_SG_levelOf_2 : decode b_SG_levelOf 2 = .ok (.iconst 0, 1) := by decide +kernel
theorem d_SG_levelOf_3 : decode b_SG_levelOf 3 = .ok (.istore_n 3, 1) := by decide +kernel
theorem d_SG_levelOf_4 : decode b_SG_levelOf 4 = .ok (.iload_n 3, 1) := by decide +kernel
theorem d_SG_levelOf_5 : decode b_SG_levelOf 5 = .ok (.bipush 6, 2) := by decide +kernel
theorem d_SG_levelOf_7 : decode b_SG_levelOf 7 = .ok (.if_icmp .ge 21, 3) := by decide +kernel
theorem d_SG_levelOf_10 : decode b_SG_levelOf 10 = .ok (.aload_n 0, 1) := by decide +kernel
theorem d_SG_levelOf_11 : decode b_SG_levelOf 11 = .ok (.getfield 16, 3) := by decide +kernel
theorem d_SG_levelOf_14 : decode b_SG_levelOf 14 = .ok (.iload_n 3, 1) := by decide +kernel
theorem d_SG_levelOf_15 : decode b_SG_levelOf 15 = .ok (.iaload, 1) := by decide +kernel
theorem d_SG_levelOf_16 : decode b_SG_levelOf 16 = .ok (.iload_n 1, 1) := by decide +kernel
theorem d_SG_levelOf_17 : decode b_SG_levelOf 17 = .ok (.if_icmp .ne 5, 3) := by decide +kernel
theorem d_SG_levelOf_20 : decode b_SG_levelOf 20 = .ok (.iload_n 3, 1) := by decide +kernel
theorem d_SG_levelOf_21 : decode b_SG_levelOf 21 = .ok (.istore_n 2, 1) := by decide +kernel
theorem d_SG_levelOf_22 : decode b_SG_levelOf 22 = .ok (.iinc 3 1, 3) := by decide +kernel
theorem d_SG_levelOf_25 : decode b_SG_levelOf 25 = .ok (.goto (-21), 3) := by decide +kernel
theorem d_SG_levelOf_28 : decode b_SG_levelOf 28 = .ok (.iload_n 2, 1) := by decide +kernel
theorem d_SG_levelOf_29 : decode b_SG_levelOf 29 = .ok (.ireturn, 1) := by decide +kernel
theorem d_SG_raise_0 : decode b_SG_raise 0 = .ok (.iload_n 1, 1) := by decide +kernel
theorem d_SG_raise_1 : decode b_SG_raise 1 = .ok (.istore_n 3, 1) := by decide +kernel
theorem d_SG_raise_2 : decode b_SG_raise 2 = .ok (.iload_n 3, 1) := by decide +kernel
theorem d_SG_raise_3 : decode b_SG_raise 3 = .ok (.iload_n 2, 1) := by decide +kernel
theorem d_SG_raise_4 : decode b_SG_raise 4 = .ok (.if_icmp .le 16, 3) := by decide +kernel
theorem d_SG_raise_7 : decode b_SG_raise 7 = .ok (.aload_n 0, 1) := by decide +kernel
theorem d_SG_raise_8 : decode b_SG_raise 8 = .ok (.iload_n 3, 1) := by decide +kernel
theorem d_SG_raise_9 : decode b_SG_raise 9 = .ok (.iconst 1, 1) := by decide +kernel
theorem d_SG_raise_10 : decode b_SG_raise 10 = .ok (.isub, 1) := by decide +kernel
theorem d_SG_raise_11 : decode b_SG_raise 11 = .ok (.invokevirtual 129, 3) := by decide +kernel
theorem d_SG_raise_14 : decode b_SG_raise 14 = .ok (.iinc 3 (-1), 3) := by decide +kernel
theorem d_SG_raise_17 : decode b_SG_raise 17 = .ok (.goto (-15), 3) := by decide +kernel
theorem d_SG_raise_20 : decode b_SG_raise 20 = .ok (.return_, 1) := by decide +kernel
theorem d_MD_init_0 : decode b_MD_init 0 = .ok (.aload_n 0, 1) := by decide +kernel
theorem d_MD_init_1 : decode b_MD_init 1 = .ok (.invokespecial 1, 3) := by decide +kernel
theorem d_MD_init_4 : decode b_MD_init 4 = .ok (.aload_n 0, 1) := by decide +kernel
theorem d_MD_init_5 : decode b_MD_init 5 = .ok (.bipush 8, 2) := by decide +kernel
theorem d_MD_init_7 : decode b_MD_init 7 = .ok (.newarray .long, 2) := by decide +kernel
theorem d_MD_init_9 : decode b_MD_init 9 = .ok (.putfield 7, 3) := by decide +kernel
theorem d_MD_init_12 : decode b_MD_init 12 = .ok (.aload_n 0, 1) := by decide +kernel
theorem d_MD_init_13 : decode b_MD_init 13 = .ok (.bipush 8, 2) := by decide +kernel
theorem d_MD_init_15 : decode b_MD_init 15 = .ok (.newarray .boolean, 2) := by decide +kernel
theorem d_MD_init_17 : decode b_MD_init 17 = .ok (.putfield 13, 3) := by decide +kernel
theorem d_MD_init_20 : decode b_MD_init 20 = .ok (.aload_n 0, 1) := by decide +kernel
theorem d_MD_init_21 : decode b_MD_init 21 = .ok (.bipush 6, 2) := by decide +kernel
theorem d_MD_init_23 : decode b_MD_init 23 = .ok (.newarray .int, 2) := by decide +kernel
theorem d_MD_init_25 : decode b_MD_init 25 = .ok (.putfield 17, 3) := by decide +kernel
theorem d_MD_init_28 : decode b_MD_init 28 = .ok (.aload_n 0, 1) := by decide +kernel
theorem d_MD_init_29 : decode b_MD_init 29 = .ok (.bipush 6, 2) := by decide +kernel
theorem d_MD_init_31 : decode b_MD_init 31 = .ok (.newarray .int, 2) := by decide +kernel
theorem d_MD_init_33 : decode b_MD_init 33 = .ok (.putfield 21, 3) := by decide +kernel
theorem d_MD_init_36 : decode b_MD_init 36 = .ok (.aload_n 0, 1) := by decide +kernel
theorem d_MD_init_37 : decode b_MD_init 37 = .ok (.bipush 40, 2) := by decide +kernel
theorem d_MD_init_39 : decode b_MD_init 39 = .ok (.newarray .int, 2) := by decide +kernel
theorem d_MD_init_41 : decode b_MD_init 41 = .ok (.putfield 24, 3) := by decide +kernel
theorem d_MD_init_44 : decode b_MD_init 44 = .ok (.aload_n 0, 1) := by decide +kernel
theorem d_MD_init_45 : decode b_MD_init 45 = .ok (.sipush 256, 3) := by decide +kernel
theorem d_MD_init_48 : decode b_MD_init 48 = .ok (.newarray .long, 2) := by decide +kernel
theorem d_MD_init_50 : decode b_MD_init 50 = .ok (.putfield 27, 3) := by decide +kernel
theorem d_MD_init_53 : decode b_MD_init 53 = .ok (.aload_n 0, 1) := by decide +kernel
theorem d_MD_init_54 : decode b_MD_init 54 = .ok (.bipush 48, 2) := by decide +kernel
theorem d_MD_init_56 : decode b_MD_init 56 = .ok (.newarray .int, 2) := by decide +kernel
theorem d_MD_init_58 : decode b_MD_init 58 = .ok (.putfield 30, 3) := by decide +kernel
theorem d_MD_init_61 : decode b_MD_init 61 = .ok (.aload_n 0, 1) := by decide +kernel
theorem d_MD_init_62 : decode b_MD_init 62 = .ok (.bipush 48, 2) := by decide +kernel
theorem d_MD_init_64 : decode b_MD_init 64 = .ok (.newarray .long, 2) := by decide +kernel
theorem d_MD_init_66 : decode b_MD_init 66 = .ok (.putfield 33, 3) := by decide +kernel
theorem d_MD_init_69 : decode b_MD_init 69 = .ok (.iconst 0, 1) := by decide +kernel
theorem d_MD_init_70 : decode b_MD_init 70 = .ok (.istore_n 1, 1) := by decide +kernel
theorem d_MD_init_71 : decode b_MD_init 71 = .ok (.iload_n 1, 1) := by decide +kernel
theorem d_MD_init_72 : decode b_MD_init 72 = .ok (.bipush 6, 2) := by decide +kernel
theorem d_MD_init_74 : decode b_MD_init 74 = .ok (.if_icmp .ge 16, 3) := by decide +kernel
theorem d_MD_init_77 : decode b_MD_init 77 = .ok (.aload_n 0, 1) := by decide +kernel
theorem d_MD_init_78 : decode b_MD_init 78 = .ok (.getfield 17, 3) := by decide +kernel
theorem d_MD_init_81 : decode b_MD_init 81 = .ok (.iload_n 1, 1) := by decide +kernel
theorem d_MD_init_82 : decode b_MD_init 82 = .ok (.iload_n 1, 1) := by decide +kernel
theorem d_MD_init_83 : decode b_MD_init 83 = .ok (.iastore, 1) := by decide +kernel
theorem d_MD_init_84 : decode b_MD_init 84 = .ok (.iinc 1 1, 3) := by decide +kernel
theorem d_MD_init_87 : decode b_MD_init 87 = .ok (.goto (-16), 3) := by decide +kernel
theorem d_MD_init_90 : decode b_MD_init 90 = .ok (.return_, 1) := by decide +kernel
theorem d_MD_thrown_0 : decode b_MD_thrown 0 = .ok (.aload_n 0, 1) := by decide +kernel
theorem d_MD_thrown_1 : decode b_MD_thrown 1 = .ok (.getfield 36, 3) := by decide +kernel
theorem d_MD_thrown_4 : decode b_MD_thrown 4 = .ok (.ireturn, 1) := by decide +kernel
theorem d_MD_set_0 : decode b_MD_set 0 = .ok (.aload_n 0, 1) := by decide +kernel
theorem d_MD_set_1 : decode b_MD_set 1 = .ok (.iload_n 1, 1) := by decide +kernel
theorem d_MD_set_2 : decode b_MD_set 2 = .ok (.invokestatic 54, 3) := by decide +kernel
theorem d_MD_set_5 : decode b_MD_set 5 = .ok (.ifCond .eq 17, 3) := by decide +kernel
theorem d_MD_set_8 : decode b_MD_set 8 = .ok (.iload_n 2, 1) := by decide +kernel
theorem d_MD_set_9 : decode b_MD_set 9 = .ok (.iconst 0, 1) := by decide +kernel
theorem d_MD_set_10 : decode b_MD_set 10 = .ok (.bipush 13, 2) := by decide +kernel
end
section
theorem d_MD_set_12 : decode b_MD_set 12 = .ok (.invokestatic 40, 3) := by decide +kernel
theorem d_MD_set_15 : decode b_MD_set 15 = .ok (.ifCond .eq 7, 3) := by decide +kernel
theorem d_MD_set_18 : decode b_MD_set 18 = .ok (.iconst 0, 1) := by decide +kernel
theorem d_MD_set_19 : decode b_MD_set 19 = .ok (.goto 4, 3) := by decide +kernel
theorem d_MD_set_22 : decode b_MD_set 22 = .ok (.iconst 1, 1) := by decide +kernel
theorem d_MD_set_23 : decode b_MD_set 23 = .ok (.putfield 36, 3) := by decide +kernel
theorem d_MD_set_26 : decode b_MD_set 26 = .ok (.aload_n 0, 1) := by decide +kernel
theorem d_MD_set_27 : decode b_MD_set 27 = .ok (.getfield 36, 3) := by decide +kernel
theorem d_MD_set_30 : decode b_MD_set 30 = .ok (.ifCond .ne 41, 3) := by decide +kernel
theorem d_MD_set_33 : decode b_MD_set 33 = .ok (.iload_n 2, 1) := by decide +kernel
theorem d_MD_set_34 : decode b_MD_set 34 = .ok (.iconst 2, 1) := by decide +kernel
theorem d_MD_set_35 : decode b_MD_set 35 = .ok (.if_icmp .ge 7, 3) := by decide +kernel
theorem d_MD_set_38 : decode b_MD_set 38 = .ok (.lconst 0, 1) := by decide +kernel
theorem d_MD_set_39 : decode b_MD_set 39 = .ok (.goto 11, 3) := by decide +kernel
theorem d_MD_set_42 : decode b_MD_set 42 = .ok (.iload_n 2, 1) := by decide +kernel
theorem d_MD_set_43 : decode b_MD_set 43 = .ok (.iconst 2, 1) := by decide +kernel
theorem d_MD_set_44 : decode b_MD_set 44 = .ok (.isub, 1) := by decide +kernel
theorem d_MD_set_45 : decode b_MD_set 45 = .ok (.iconst 2, 1) := by decide +kernel
theorem d_MD_set_46 : decode b_MD_set 46 = .ok (.idiv, 1) := by decide +kernel
theorem d_MD_set_47 : decode b_MD_set 47 = .ok (.invokestatic 58, 3) := by decide +kernel
theorem d_MD_set_50 : decode b_MD_set 50 = .ok (.lstore_n 3, 1) := by decide +kernel
theorem d_MD_set_51 : decode b_MD_set 51 = .ok (.aload_n 0, 1) := by decide +kernel
theorem d_MD_set_52 : decode b_MD_set 52 = .ok (.iload_n 1, 1) := by decide +kernel
theorem d_MD_set_53 : decode b_MD_set 53 = .ok (.iload_n 2, 1) := by decide +kernel
theorem d_MD_set_54 : decode b_MD_set 54 = .ok (.iconst 2, 1) := by decide +kernel
theorem d_MD_set_55 : decode b_MD_set 55 = .ok (.irem, 1) := by decide +kernel
theorem d_MD_set_56 : decode b_MD_set 56 = .ok (.ifCond .ne 7, 3) := by decide +kernel
theorem d_MD_set_59 : decode b_MD_set 59 = .ok (.lload_n 3, 1) := by decide +kernel
theorem d_MD_set_60 : decode b_MD_set 60 = .ok (.goto 8, 3) := by decide +kernel
theorem d_MD_set_63 : decode b_MD_set 63 = .ok (.lload_n 3, 1) := by decide +kernel
theorem d_MD_set_64 : decode b_MD_set 64 = .ok (.ldc2_w 52, 3) := by decide +kernel
theorem d_MD_set_67 : decode b_MD_set 67 = .ok (.lxor, 1) := by decide +kernel
theorem d_MD_set_68 : decode b_MD_set 68 = .ok (.invokevirtual 62, 3) := by decide +kernel
theorem d_MD_set_71 : decode b_MD_set 71 = .ok (.return_, 1) := by decide +kernel
theorem d_MD_isRegister_0 : decode b_MD_isRegister 0 = .ok (.iload_n 0, 1) := by decide +kernel
theorem d_MD_isRegister_1 : decode b_MD_isRegister 1 = .ok (.iconst 0, 1) := by decide +kernel
theorem d_MD_isRegister_2 : decode b_MD_isRegister 2 = .ok (.bipush 7, 2) := by decide +kernel
theorem d_MD_isRegister_4 : decode b_MD_isRegister 4 = .ok (.invokestatic 40, 3) := by decide +kernel
theorem d_MD_isRegister_7 : decode b_MD_isRegister 7 = .ok (.ireturn, 1) := by decide +kernel
theorem d_MD_within_0 : decode b_MD_within 0 = .ok (.iload_n 0, 1) := by decide +kernel
theorem d_MD_within_1 : decode b_MD_within 1 = .ok (.iload_n 1, 1) := by decide +kernel
theorem d_MD_within_2 : decode b_MD_within 2 = .ok (.if_icmp .lt 12, 3) := by decide +kernel
theorem d_MD_within_5 : decode b_MD_within 5 = .ok (.iload_n 0, 1) := by decide +kernel
theorem d_MD_within_6 : decode b_MD_within 6 = .ok (.iload_n 2, 1) := by decide +kernel
theorem d_MD_within_7 : decode b_MD_within 7 = .ok (.if_icmp .gt 7, 3) := by decide +kernel
theorem d_MD_within_10 : decode b_MD_within 10 = .ok (.iconst 1, 1) := by decide +kernel
theorem d_MD_within_11 : decode b_MD_within 11 = .ok (.goto 4, 3) := by decide +kernel
theorem d_MD_within_14 : decode b_MD_within 14 = .ok (.iconst 0, 1) := by decide +kernel
theorem d_MD_within_15 : decode b_MD_within 15 = .ok (.ireturn, 1) := by decide +kernel
theorem d_MD_variableTable_0 : decode b_MD_variableTable 0 = .ok (.lconst 0, 1) := by decide +kernel
theorem d_MD_variableTable_1 : decode b_MD_variableTable 1 = .ok (.lstore_n 1, 1) := by decide +kernel
theorem d_MD_variableTable_2 : decode b_MD_variableTable 2 = .ok (.iconst 0, 1) := by decide +kernel
theorem d_MD_variableTable_3 : decode b_MD_variableTable 3 = .ok (.istore_n 3, 1) := by decide +kernel
theorem d_MD_variableTable_4 : decode b_MD_variableTable 4 = .ok (.iload_n 3, 1) := by decide +kernel
theorem d_MD_variableTable_5 : decode b_MD_variableTable 5 = .ok (.bipush 64, 2) := by decide +kernel
theorem d_MD_variableTable_7 : decode b_MD_variableTable 7 = .ok (.if_icmp .ge 30, 3) := by decide +kernel
theorem d_MD_variableTable_10 : decode b_MD_variableTable 10 = .ok (.iload_n 3, 1) := by decide +kernel
theorem d_MD_variableTable_11 : decode b_MD_variableTable 11 = .ok (.iconst 5, 1) := by decide +kernel
theorem d_MD_variableTable_12 : decode b_MD_variableTable 12 = .ok (.iload_n 0, 1) := by decide +kernel
theorem d_MD_variableTable_13 : decode b_MD_variableTable 13 = .ok (.isub, 1) := by decide +kernel
theorem d_MD_variableTable_14 : decode b_MD_variableTable 14 = .ok (.ishr, 1) := by decide +kernel
theorem d_MD_variableTable_15 : decode b_MD_variableTable 15 = .ok (.iconst 1, 1) := by decide +kernel
theorem d_MD_variableTable_16 : decode b_MD_variableTable 16 = .ok (.iand, 1) := by decide +kernel
theorem d_MD_variableTable_17 : decode b_MD_variableTable 17 = .ok (.iconst 1, 1) := by decide +kernel
theorem d_MD_variableTable_18 : decode b_MD_variableTable 18 = .ok (.if_icmp .ne 11, 3) := by decide +kernel
theorem d_MD_variableTable_21 : decode b_MD_variableTable 21 = .ok (.lload_n 1, 1) := by decide +kernel
theorem d_MD_variableTable_22 : decode b_MD_variableTable 22 = .ok (.lconst 1, 1) := by decide +kernel
theorem d_MD_variableTable_23 : decode b_MD_variableTable 23 = .ok (.iload_n 3, 1) := by decide +kernel
theorem d_MD_variableTable_24 : decode b_MD_variableTable 24 = .ok (.lshl, 1) := by decide +kernel
theorem d_MD_variableTable_25 : decode b_MD_variableTable 25 = .ok (.lor, 1) := by decide +kernel
theorem d_MD_variableTable_26 : decode b_MD_variableTable 26 = .ok (.goto 4, 3) := by decide +kernel
theorem d_MD_variableTable_29 : decode b_MD_variableTable 29 = .ok (.lload_n 1, 1) := by decide +kernel
theorem d_MD_variableTable_30 : decode b_MD_variableTable 30 = .ok (.lstore_n 1, 1) := by decide +kernel
theorem d_MD_variableTable_31 : decode b_MD_variableTable 31 = .ok (.iinc 3 1, 3) := by decide +kernel
theorem d_MD_variableTable_34 : decode b_MD_variableTable 34 = .ok (.goto (-30), 3) := by decide +kernel
theorem d_MD_variableTable_37 : decode b_MD_variableTable 37 = .ok (.lload_n 1, 1) := by decide +kernel
theorem d_MD_variableTable_38 : decode b_MD_variableTable 38 = .ok (.lreturn, 1) := by decide +kernel
theorem d_MD_put_0 : decode b_MD_put 0 = .ok (.aload_n 0, 1) := by decide +kernel
theorem d_MD_put_1 : decode b_MD_put 1 = .ok (.getfield 7, 3) := by decide +kernel
theorem d_MD_put_4 : decode b_MD_put 4 = .ok (.iload_n 1, 1) := by decide +kernel
theorem d_MD_put_5 : decode b_MD_put 5 = .ok (.lload_n 2, 1) := by decide +kernel
theorem d_MD_put_6 : decode b_MD_put 6 = .ok (.lastore, 1) := by decide +kernel
theorem d_MD_put_7 : decode b_MD_put 7 = .ok (.aload_n 0, 1) := by decide +kernel
theorem d_MD_put_8 : decode b_MD_put 8 = .ok (.getfield 13, 3) := by decide +kernel
theorem d_MD_put_11 : decode b_MD_put 11 = .ok (.iload_n 1, 1) := by decide +kernel
theorem d_MD_put_12 : decode b_MD_put 12 = .ok (.iconst 1, 1) := by decide +kernel
theorem d_MD_put_13 : decode b_MD_put 13 = .ok (.bastore, 1) := by decide +kernel
theorem d_MD_put_14 : decode b_MD_put 14 = .ok (.return_, 1) := by decide +kernel
theorem d_MD_apply_0 : decode b_MD_apply 0 = .ok (.iload_n 1, 1) := by decide +kernel
theorem d_MD_apply_1 : decode b_MD_apply 1 = .ok (.invokestatic 54, 3) := by decide +kernel
theorem d_MD_apply_4 : decode b_MD_apply 4 = .ok (.ifCond .eq 32, 3) := by decide +kernel
theorem d_MD_apply_7 : decode b_MD_apply 7 = .ok (.iload_n 2, 1) := by decide +kernel
theorem d_MD_apply_8 : decode b_MD_apply 8 = .ok (.invokestatic 54, 3) := by decide +kernel
theorem d_MD_apply_11 : decode b_MD_apply 11 = .ok (.ifCond .eq 25, 3) := by decide +kernel
theorem d_MD_apply_14 : decode b_MD_apply 14 = .ok (.iload_n 3, 1) := by decide +kernel
theorem d_MD_apply_15 : decode b_MD_apply 15 = .ok (.invokestatic 54, 3) := by decide +kernel
theorem d_MD_apply_18 : decode b_MD_apply 18 = .ok (.ifCond .eq 18, 3) := by decide +kernel
theorem d_MD_apply_21 : decode b_MD_apply 21 = .ok (.iload 4, 2) := by decide +kernel
theorem d_MD_apply_23 : decode b_MD_apply 23 = .ok (.iconst 0, 1) := by decide +kernel
theorem d_MD_apply_24 : decode b_MD_apply 24 = .ok (.bipush 15, 2) := by decide +kernel
theorem d_MD_apply_26 : decode b_MD_apply 26 = .ok (.invokestatic 40, 3) := by decide +kernel
theorem d_MD_apply_29 : decode b_MD_apply 29 = .ok (.ifCond .eq 7, 3) := by decide +kernel
theorem d_MD_apply_32 : decode b_MD_apply 32 = .ok (.iconst 1, 1) := by decide +kernel
theorem d_MD_apply_33 : decode b_MD_apply 33 = .ok (.goto 4, 3) := by decide +kernel
theorem d_MD_apply_36 : decode b_MD_apply 36 = .ok (.iconst 0, 1) := by decide +kernel
theorem d_MD_apply_37 : decode b_MD_apply 37 = .ok (.istore 5, 2) := by decide +kernel
theorem d_MD_apply_39 : decode b_MD_apply 39 = .ok (.aload_n 0, 1) := by decide +kernel
theorem d_MD_apply_40 : decode b_MD_apply 40 = .ok (.iload 5, 2) := by decide +kernel
theorem d_MD_apply_42 : decode b_MD_apply 42 = .ok (.ifCond .ne 7, 3) := by decide +kernel
theorem d_MD_apply_45 : decode b_MD_apply 45 = .ok (.iconst 1, 1) := by decide +kernel
theorem d_MD_apply_46 : decode b_MD_apply 46 = .ok (.goto 26, 3) := by decide +kernel
theorem d_MD_apply_49 : decode b_MD_apply 49 = .ok (.aload_n 0, 1) := by decide +kernel
theorem d_MD_apply_50 : decode b_MD_apply 50 = .ok (.getfield 13, 3) := by decide +kernel
theorem d_MD_apply_53 : decode b_MD_apply 53 = .ok (.iload_n 2, 1) := by decide +kernel
theorem d_MD_apply_54 : decode b_MD_apply 54 = .ok (.baload, 1) := by decide +kernel
theorem d_MD_apply_55 : decode b_MD_apply 55 = .ok (.ifCond .eq 16, 3) := by decide +kernel
theorem d_MD_apply_58 : decode b_MD_apply 58 = .ok (.aload_n 0, 1) := by decide +kernel
theorem d_MD_apply_59 : decode b_MD_apply 59 = .ok (.getfield 13, 3) := by decide +kernel
theorem d_MD_apply_62 : decode b_MD_apply 62 = .ok (.iload_n 3, 1) := by decide +kernel
theorem d_MD_apply_63 : decode b_MD_apply 63 = .ok (.baload, 1) := by decide +kernel
theorem d_MD_apply_64 : decode b_MD_apply 64 = .ok (.ifCond .eq 7, 3) := by decide +kernel
theorem d_MD_apply_67 : decode b_MD_apply 67 = .ok (.iconst 0, 1) := by decide +kernel
theorem d_MD_apply_68 : decode b_MD_apply 68 = .ok (.goto 4, 3) := by decide +kernel
theorem d_MD_apply_71 : decode b_MD_apply 71 = .ok (.iconst 2, 1) := by decide +kernel
theorem d_MD_apply_72 : decode b_MD_apply 72 = .ok (.putfield 36, 3) := by decide +kernel
theorem d_MD_apply_75 : decode b_MD_apply 75 = .ok (.aload_n 0, 1) := by decide +kernel
theorem d_MD_apply_76 : decode b_MD_apply 76 = .ok (.getfield 36, 3) := by decide +kernel
theorem d_MD_apply_79 : decode b_MD_apply 79 = .ok (.ifCond .le 4, 3) := by decide +kernel
theorem d_MD_apply_82 : decode b_MD_apply 82 = .ok (.return_, 1) := by decide +kernel
theorem d_MD_apply_83 : decode b_MD_apply 83 = .ok (.lconst 0, 1) := by decide +kernel
theorem d_MD_apply_84 : decode b_MD_apply 84 = .ok (.lstore 6, 2) := by decide +kernel
theorem d_MD_apply_86 : decode b_MD_apply 86 = .ok (.iconst 0, 1) := by decide +kernel
theorem d_MD_apply_87 : decode b_MD_apply 87 = .ok (.istore 8, 2) := by decide +kernel
theorem d_MD_apply_89 : decode b_MD_apply 89 = .ok (.iload 8, 2) := by decide +kernel
theorem d_MD_apply_91 : decode b_MD_apply 91 = .ok (.bipush 64, 2) := by decide +kernel
theorem d_MD_apply_93 : decode b_MD_apply 93 = .ok (.if_icmp .ge 75, 3) := by decide +kernel
theorem d_MD_apply_96 : decode b_MD_apply 96 = .ok (.aload_n 0, 1) := by decide +kernel
theorem d_MD_apply_97 : decode b_MD_apply 97 = .ok (.getfield 7, 3) := by decide +kernel
theorem d_MD_apply_100 : decode b_MD_apply 100 = .ok (.iload_n 2, 1) := by decide +kernel
theorem d_MD_apply_101 : decode b_MD_apply 101 = .ok (.laload, 1) := by decide +kernel
theorem d_MD_apply_102 : decode b_MD_apply 102 = .ok (.iload 8, 2) := by decide +kernel
theorem d_MD_apply_104 : decode b_MD_apply 104 = .ok (.invokestatic 44, 3) := by decide +kernel
theorem d_MD_apply_107 : decode b_MD_apply 107 = .ok (.ifCond .eq 7, 3) := by decide +kernel
theorem d_MD_apply_110 : decode b_MD_apply 110 = .ok (.iconst 2, 1) := by decide +kernel
theorem d_MD_apply_111 : decode b_MD_apply 111 = .ok (.goto 4, 3) := by decide +kernel
theorem d_MD_apply_114 : decode b_MD_apply 114 = .ok (.iconst 0, 1) := by decide +kernel
theorem d_MD_apply_115 : decode b_MD_apply 115 = .ok (.aload_n 0, 1) := by decide +kernel
theorem d_MD_apply_116 : decode b_MD_apply 116 = .ok (.getfield 7, 3) := by decide +kernel
theorem d_MD_apply_119 : decode b_MD_apply 119 = .ok (.iload_n 3, 1) := by decide +kernel
theorem d_MD_apply_120 : decode b_MD_apply 120 = .ok (.laload, 1) := by decide +kernel
theorem d_MD_apply_121 : decode b_MD_apply 121 = .ok (.iload 8, 2) := by decide +kernel
theorem d_MD_apply_123 : decode b_MD_apply 123 = .ok (.invokestatic 44, 3) := by decide +kernel
theorem d_MD_apply_126 : decode b_MD_apply 126 = .ok (.ifCond .eq 7, 3) := by decide +kernel
theorem d_MD_apply_129 : decode b_MD_apply 129 = .ok (.iconst 1, 1) := by decide +kernel
theorem d_MD_apply_130 : decode b_MD_apply 130 = .ok (.goto 4, 3) := by decide +kernel
theorem d_MD_apply_133 : decode b_MD_apply 133 = .ok (.iconst 0, 1) := by decide +kernel
theorem d_MD_apply_134 : decode b_MD_apply 134 = .ok (.iadd, 1) := by decide +kernel
theorem d_MD_apply_135 : decode b_MD_apply 135 = .ok (.istore 9, 2) := by decide +kernel
theorem d_MD_apply_137 : decode b_MD_apply 137 = .ok (.iload 4, 2) := by decide +kernel
theorem d_MD_apply_139 : decode b_MD_apply 139 = .ok (.iload 9, 2) := by decide +kernel
theorem d_MD_apply_141 : decode b_MD_apply 141 = .ok (.ishr, 1) := by decide +kernel
theorem d_MD_apply_142 : decode b_MD_apply 142 = .ok (.iconst 1, 1) := by decide +kernel
theorem d_MD_apply_143 : decode b_MD_apply 143 = .ok (.iand, 1) := by decide +kernel
theorem d_MD_apply_144 : decode b_MD_apply 144 = .ok (.iconst 1, 1) := by decide +kernel
theorem d_MD_apply_145 : decode b_MD_apply 145 = .ok (.if_icmp .ne 13, 3) := by decide +kernel
theorem d_MD_apply_148 : decode b_MD_apply 148 = .ok (.lload 6, 2) := by decide +kernel
theorem d_MD_apply_150 : decode b_MD_apply 150 = .ok (.lconst 1, 1) := by decide +kernel
theorem d_MD_apply_151 : decode b_MD_apply 151 = .ok (.iload 8, 2) := by decide +kernel
theorem d_MD_apply_153 : decode b_MD_apply 153 = .ok (.lshl, 1) := by decide +kernel
theorem d_MD_apply_154 : decode b_MD_apply 154 = .ok (.lor, 1) := by decide +kernel
theorem d_MD_apply_155 : decode b_MD_apply 155 = .ok (.goto 5, 3) := by decide +kernel
theorem d_MD_apply_158 : decode b_MD_apply 158 = .ok (.lload 6, 2) := by decide +kernel
theorem d_MD_apply_160 : decode b_MD_apply 160 = .ok (.lstore 6, 2) := by decide +kernel
theorem d_MD_apply_162 : decode b_MD_apply 162 = .ok (.iinc 8 1, 3) := by decide +kernel
theorem d_MD_apply_165 : decode b_MD_apply 165 = .ok (.goto (-76), 3) := by decide +kernel
theorem d_MD_apply_168 : decode b_MD_apply 168 = .ok (.aload_n 0, 1) := by decide +kernel
theorem d_MD_apply_169 : decode b_MD_apply 169 = .ok (.iload_n 1, 1) := by decide +kernel
theorem d_MD_apply_170 : decode b_MD_apply 170 = .ok (.lload 6, 2) := by decide +kernel
theorem d_MD_apply_172 : decode b_MD_apply 172 = .ok (.invokevirtual 62, 3) := by decide +kernel
theorem d_MD_apply_175 : decode b_MD_apply 175 = .ok (.return_, 1) := by decide +kernel
theorem d_MD_at_0 : decode b_MD_at 0 = .ok (.lload_n 0, 1) := by decide +kernel
theorem d_MD_at_1 : decode b_MD_at 1 = .ok (.iload_n 2, 1) := by decide +kernel
theorem d_MD_at_2 : decode b_MD_at 2 = .ok (.lshr, 1) := by decide +kernel
theorem d_MD_at_3 : decode b_MD_at 3 = .ok (.lconst 1, 1) := by decide +kernel
theorem d_MD_at_4 : decode b_MD_at 4 = .ok (.land, 1) := by decide +kernel
theorem d_MD_at_5 : decode b_MD_at 5 = .ok (.lconst 1, 1) := by decide +kernel
theorem d_MD_at_6 : decode b_MD_at 6 = .ok (.lcmp, 1) := by decide +kernel
theorem d_MD_at_7 : decode b_MD_at 7 = .ok (.ifCond .ne 7, 3) := by decide +kernel
theorem d_MD_at_10 : decode b_MD_at 10 = .ok (.iconst 1, 1) := by decide +kernel
theorem d_MD_at_11 : decode b_MD_at 11 = .ok (.goto 4, 3) := by decide +kernel
theorem d_MD_at_14 : decode b_MD_at 14 = .ok (.iconst 0, 1) := by decide +kernel
theorem d_MD_at_15 : decode b_MD_at 15 = .ok (.ireturn, 1) := by decide +kernel
theorem d_MD_choose_0 : decode b_MD_choose 0 = .ok (.iload_n 1, 1) := by decide +kernel
theorem d_MD_choose_1 : decode b_MD_choose 1 = .ok (.invokestatic 54, 3) := by decide +kernel
theorem d_MD_choose_4 : decode b_MD_choose 4 = .ok (.ifCond .eq 29, 3) := by decide +kernel
theorem d_MD_choose_7 : decode b_MD_choose 7 = .ok (.iload_n 2, 1) := by decide +kernel
theorem d_MD_choose_8 : decode b_MD_choose 8 = .ok (.invokestatic 54, 3) := by decide +kernel
theorem d_MD_choose_11 : decode b_MD_choose 11 = .ok (.ifCond .eq 22, 3) := by decide +kernel
theorem d_MD_choose_14 : decode b_MD_choose 14 = .ok (.iload_n 3, 1) := by decide +kernel
theorem d_MD_choose_15 : decode b_MD_choose 15 = .ok (.invokestatic 54, 3) := by decide +kernel
theorem d_MD_choose_18 : decode b_MD_choose 18 = .ok (.ifCond .eq 15, 3) := by decide +kernel
theorem d_MD_choose_21 : decode b_MD_choose 21 = .ok (.iload 4, 2) := by decide +kernel
theorem d_MD_choose_23 : decode b_MD_choose 23 = .ok (.invokestatic 54, 3) := by decide +kernel
theorem d_MD_choose_26 : decode b_MD_choose 26 = .ok (.ifCond .eq 7, 3) := by decide +kernel
theorem d_MD_choose_29 : decode b_MD_choose 29 = .ok (.iconst 1, 1) := by decide +kernel
theorem d_MD_choose_30 : decode b_MD_choose 30 = .ok (.goto 4, 3) := by decide +kernel
theorem d_MD_choose_33 : decode b_MD_choose 33 = .ok (.iconst 0, 1) := by decide +kernel
theorem d_MD_choose_34 : decode b_MD_choose 34 = .ok (.istore 5, 2) := by decide +kernel
theorem d_MD_choose_36 : decode b_MD_choose 36 = .ok (.aload_n 0, 1) := by decide +kernel
theorem d_MD_choose_37 : decode b_MD_choose 37 = .ok (.iload 5, 2) := by decide +kernel
theorem d_MD_choose_39 : decode b_MD_choose 39 = .ok (.ifCond .ne 7, 3) := by decide +kernel
theorem d_MD_choose_42 : decode b_MD_choose 42 = .ok (.iconst 1, 1) := by decide +kernel
theorem d_MD_choose_43 : decode b_MD_choose 43 = .ok (.goto 36, 3) := by decide +kernel
theorem d_MD_choose_46 : decode b_MD_choose 46 = .ok (.aload_n 0, 1) := by decide +kernel
theorem d_MD_choose_47 : decode b_MD_choose 47 = .ok (.getfield 13, 3) := by decide +kernel
theorem d_MD_choose_50 : decode b_MD_choose 50 = .ok (.iload_n 2, 1) := by decide +kernel
theorem d_MD_choose_51 : decode b_MD_choose 51 = .ok (.baload, 1) := by decide +kernel
theorem d_MD_choose_52 : decode b_MD_choose 52 = .ok (.ifCond .eq 26, 3) := by decide +kernel
theorem d_MD_choose_55 : decode b_MD_choose 55 = .ok (.aload_n 0, 1) := by decide +kernel
theorem d_MD_choose_56 : decode b_MD_choose 56 = .ok (.getfield 13, 3) := by decide +kernel
theorem d_MD_choose_59 : decode b_MD_choose 59 = .ok (.iload_n 3, 1) := by decide +kernel
theorem d_MD_choose_60 : decode b_MD_choose 60 = .ok (.baload, 1) := by decide +kernel
theorem d_MD_choose_61 : decode b_MD_choose 61 = .ok (.ifCond .eq 17, 3) := by decide +kernel
theorem d_MD_choose_64 : decode b_MD_choose 64 = .ok (.aload_n 0, 1) := by decide +kernel
theorem d_MD_choose_65 : decode b_MD_choose 65 = .ok (.getfield 13, 3) := by decide +kernel
theorem d_MD_choose_68 : decode b_MD_choose 68 = .ok (.iload 4, 2) := by decide +kernel
theorem d_MD_choose_70 : decode b_MD_choose 70 = .ok (.baload, 1) := by decide +kernel
theorem d_MD_choose_71 : decode b_MD_choose 71 = .ok (.ifCond .eq 7, 3) := by decide +kernel
theorem d_MD_choose_74 : decode b_MD_choose 74 = .ok (.iconst 0, 1) := by decide +kernel
theorem d_MD_choose_75 : decode b_MD_choose 75 = .ok (.goto 4, 3) := by decide +kernel
theorem d_MD_choose_78 : decode b_MD_choose 78 = .ok (.iconst 2, 1) := by decide +kernel
theorem d_MD_choose_79 : decode b_MD_choose 79 = .ok (.putfield 36, 3) := by decide +kernel
theorem d_MD_choose_82 : decode b_MD_choose 82 = .ok (.aload_n 0, 1) := by decide +kernel
theorem d_MD_choose_83 : decode b_MD_choose 83 = .ok (.getfield 36, 3) := by decide +kernel
theorem d_MD_choose_86 : decode b_MD_choose 86 = .ok (.ifCond .ne 40, 3) := by decide +kernel
theorem d_MD_choose_89 : decode b_MD_choose 89 = .ok (.aload_n 0, 1) := by decide +kernel
theorem d_MD_choose_90 : decode b_MD_choose 90 = .ok (.iload_n 1, 1) := by decide +kernel
theorem d_MD_choose_91 : decode b_MD_choose 91 = .ok (.aload_n 0, 1) := by decide +kernel
theorem d_MD_choose_92 : decode b_MD_choose 92 = .ok (.getfield 7, 3) := by decide +kernel
theorem d_MD_choose_95 : decode b_MD_choose 95 = .ok (.iload_n 2, 1) := by decide +kernel
theorem d_MD_choose_96 : decode b_MD_choose 96 = .ok (.laload, 1) := by decide +kernel
theorem d_MD_choose_97 : decode b_MD_choose 97 = .ok (.aload_n 0, 1) := by decide +kernel
theorem d_MD_choose_98 : decode b_MD_choose 98 = .ok (.getfield 7, 3) := by decide +kernel
theorem d_MD_choose_101 : decode b_MD_choose 101 = .ok (.iload_n 3, 1) := by decide +kernel
theorem d_MD_choose_102 : decode b_MD_choose 102 = .ok (.laload, 1) := by decide +kernel
theorem d_MD_choose_103 : decode b_MD_choose 103 = .ok (.land, 1) := by decide +kernel
theorem d_MD_choose_104 : decode b_MD_choose 104 = .ok (.aload_n 0, 1) := by decide +kernel
theorem d_MD_choose_105 : decode b_MD_choose 105 = .ok (.getfield 7, 3) := by decide +kernel
theorem d_MD_choose_108 : decode b_MD_choose 108 = .ok (.iload_n 2, 1) := by decide +kernel
theorem d_MD_choose_109 : decode b_MD_choose 109 = .ok (.laload, 1) := by decide +kernel
theorem d_MD_choose_110 : decode b_MD_choose 110 = .ok (.ldc2_w 52, 3) := by decide +kernel
theorem d_MD_choose_113 : decode b_MD_choose 113 = .ok (.lxor, 1) := by decide +kernel
theorem d_MD_choose_114 : decode b_MD_choose 114 = .ok (.aload_n 0, 1) := by decide +kernel
theorem d_MD_choose_115 : decode b_MD_choose 115 = .ok (.getfield 7, 3) := by decide +kernel
theorem d_MD_choose_118 : decode b_MD_choose 118 = .ok (.iload 4, 2) := by decide +kernel
theorem d_MD_choose_120 : decode b_MD_choose 120 = .ok (.laload, 1) := by decide +kernel
theorem d_MD_choose_121 : decode b_MD_choose 121 = .ok (.land, 1) := by decide +kernel
theorem d_MD_choose_122 : decode b_MD_choose 122 = .ok (.lor, 1) := by decide +kernel
theorem d_MD_choose_123 : decode b_MD_choose 123 = .ok (.invokevirtual 62, 3) := by decide +kernel
theorem d_MD_choose_126 : decode b_MD_choose 126 = .ok (.return_, 1) := by decide +kernel
theorem d_MD_restrict_0 : decode b_MD_restrict 0 = .ok (.iload_n 1, 1) := by decide +kernel
theorem d_MD_restrict_1 : decode b_MD_restrict 1 = .ok (.invokestatic 54, 3) := by decide +kernel
theorem d_MD_restrict_4 : decode b_MD_restrict 4 = .ok (.ifCond .eq 23, 3) := by decide +kernel
theorem d_MD_restrict_7 : decode b_MD_restrict 7 = .ok (.iload_n 2, 1) := by decide +kernel
theorem d_MD_restrict_8 : decode b_MD_restrict 8 = .ok (.invokestatic 54, 3) := by decide +kernel
theorem d_MD_restrict_11 : decode b_MD_restrict 11 = .ok (.ifCond .eq 16, 3) := by decide +kernel
theorem d_MD_restrict_14 : decode b_MD_restrict 14 = .ok (.iload_n 3, 1) := by decide +kernel
theorem d_MD_restrict_15 : decode b_MD_restrict 15 = .ok (.iconst 0, 1) := by decide +kernel
theorem d_MD_restrict_16 : decode b_MD_restrict 16 = .ok (.iconst 5, 1) := by decide +kernel
theorem d_MD_restrict_17 : decode b_MD_restrict 17 = .ok (.invokestatic 40, 3) := by decide +kernel
theorem d_MD_restrict_20 : decode b_MD_restrict 20 = .ok (.ifCond .eq 7, 3) := by decide +kernel
theorem d_MD_restrict_23 : decode b_MD_restrict 23 = .ok (.iconst 1, 1) := by decide +kernel
theorem d_MD_restrict_24 : decode b_MD_restrict 24 = .ok (.goto 4, 3) := by decide +kernel
theorem d_MD_restrict_27 : decode b_MD_restrict 27 = .ok (.iconst 0, 1) := by decide +kernel
theorem d_MD_restrict_28 : decode b_MD_restrict 28 = .ok (.istore 5, 2) := by decide +kernel
theorem d_MD_restrict_30 : decode b_MD_restrict 30 = .ok (.aload_n 0, 1) := by decide +kernel
theorem d_MD_restrict_31 : decode b_MD_restrict 31 = .ok (.iload 5, 2) := by decide +kernel
theorem d_MD_restrict_33 : decode b_MD_restrict 33 = .ok (.ifCond .ne 7, 3) := by decide +kernel
theorem d_MD_restrict_36 : decode b_MD_restrict 36 = .ok (.iconst 1, 1) := by decide +kernel
theorem d_MD_restrict_37 : decode b_MD_restrict 37 = .ok (.goto 17, 3) := by decide +kernel
theorem d_MD_restrict_40 : decode b_MD_restrict 40 = .ok (.aload_n 0, 1) := by decide +kernel
theorem d_MD_restrict_41 : decode b_MD_restrict 41 = .ok (.getfield 13, 3) := by decide +kernel
theorem d_MD_restrict_44 : decode b_MD_restrict 44 = .ok (.iload_n 2, 1) := by decide +kernel
theorem d_MD_restrict_45 : decode b_MD_restrict 45 = .ok (.baload, 1) := by decide +kernel
theorem d_MD_restrict_46 : decode b_MD_restrict 46 = .ok (.ifCond .eq 7, 3) := by decide +kernel
theorem d_MD_restrict_49 : decode b_MD_restrict 49 = .ok (.iconst 0, 1) := by decide +kernel
theorem d_MD_restrict_50 : decode b_MD_restrict 50 = .ok (.goto 4, 3) := by decide +kernel
theorem d_MD_restrict_53 : decode b_MD_restrict 53 = .ok (.iconst 2, 1) := by decide +kernel
theorem d_MD_restrict_54 : decode b_MD_restrict 54 = .ok (.putfield 36, 3) := by decide +kernel
theorem d_MD_restrict_57 : decode b_MD_restrict 57 = .ok (.aload_n 0, 1) := by decide +kernel
theorem d_MD_restrict_58 : decode b_MD_restrict 58 = .ok (.getfield 36, 3) := by decide +kernel
theorem d_MD_restrict_61 : decode b_MD_restrict 61 = .ok (.ifCond .ne 30, 3) := by decide +kernel
theorem d_MD_restrict_64 : decode b_MD_restrict 64 = .ok (.aload_n 0, 1) := by decide +kernel
theorem d_MD_restrict_65 : decode b_MD_restrict 65 = .ok (.iload_n 1, 1) := by decide +kernel
theorem d_MD_restrict_66 : decode b_MD_restrict 66 = .ok (.aload_n 0, 1) := by decide +kernel
theorem d_MD_restrict_67 : decode b_MD_restrict 67 = .ok (.getfield 7, 3) := by decide +kernel
theorem d_MD_restrict_70 : decode b_MD_restrict 70 = .ok (.iload_n 2, 1) := by decide +kernel
theorem d_MD_restrict_71 : decode b_MD_restrict 71 = .ok (.laload, 1) := by decide +kernel
theorem d_MD_restrict_72 : decode b_MD_restrict 72 = .ok (.iload_n 3, 1) := by decide +kernel
theorem d_MD_restrict_73 : decode b_MD_restrict 73 = .ok (.iload 4, 2) := by decide +kernel
theorem d_MD_restrict_75 : decode b_MD_restrict 75 = .ok (.ifCond .eq 9, 3) := by decide +kernel
theorem d_MD_restrict_78 : decode b_MD_restrict 78 = .ok (.ldc2_w 52, 3) := by decide +kernel
theorem d_MD_restrict_81 : decode b_MD_restrict 81 = .ok (.goto 4, 3) := by decide +kernel
theorem d_MD_restrict_84 : decode b_MD_restrict 84 = .ok (.lconst 0, 1) := by decide +kernel
theorem d_MD_restrict_85 : decode b_MD_restrict 85 = .ok (.invokestatic 48, 3) := by decide +kernel
theorem d_MD_restrict_88 : decode b_MD_restrict 88 = .ok (.invokevirtual 62, 3) := by decide +kernel
theorem d_MD_restrict_91 : decode b_MD_restrict 91 = .ok (.return_, 1) := by decide +kernel
theorem d_MD_with_0 : decode b_MD_with 0 = .ok (.lconst 0, 1) := by decide +kernel
theorem d_MD_with_1 : decode b_MD_with 1 = .ok (.lstore 5, 2) := by decide +kernel
theorem d_MD_with_3 : decode b_MD_with 3 = .ok (.iconst 1, 1) := by decide +kernel
theorem d_MD_with_4 : decode b_MD_with 4 = .ok (.iconst 5, 1) := by decide +kernel
theorem d_MD_with_5 : decode b_MD_with 5 = .ok (.iload_n 2, 1) := by decide +kernel
theorem d_MD_with_6 : decode b_MD_with 6 = .ok (.isub, 1) := by decide +kernel
theorem d_MD_with_7 : decode b_MD_with 7 = .ok (.ishl, 1) := by decide +kernel
theorem d_MD_with_8 : decode b_MD_with 8 = .ok (.istore 7, 2) := by decide +kernel
theorem d_MD_with_10 : decode b_MD_with 10 = .ok (.iconst 0, 1) := by decide +kernel
theorem d_MD_with_11 : decode b_MD_with 11 = .ok (.istore 8, 2) := by decide +kernel
theorem d_MD_with_13 : decode b_MD_with 13 = .ok (.iload 8, 2) := by decide +kernel
theorem d_MD_with_15 : decode b_MD_with 15 = .ok (.bipush 64, 2) := by decide +kernel
theorem d_MD_with_17 : decode b_MD_with 17 = .ok (.if_icmp .ge 58, 3) := by decide +kernel
theorem d_MD_with_20 : decode b_MD_with 20 = .ok (.lload_n 3, 1) := by decide +kernel
theorem d_MD_with_21 : decode b_MD_with 21 = .ok (.iload 8, 2) := by decide +kernel
theorem d_MD_with_23 : decode b_MD_with 23 = .ok (.invokestatic 44, 3) := by decide +kernel
theorem d_MD_with_26 : decode b_MD_with 26 = .ok (.ifCond .eq 11, 3) := by decide +kernel
theorem d_MD_with_29 : decode b_MD_with 29 = .ok (.iload 8, 2) := by decide +kernel
theorem d_MD_with_31 : decode b_MD_with 31 = .ok (.iload 7, 2) := by decide +kernel
theorem d_MD_with_33 : decode b_MD_with 33 = .ok (.ior, 1) := by decide +kernel
theorem d_MD_with_34 : decode b_MD_with 34 = .ok (.goto 10, 3) := by decide +kernel
theorem d_MD_with_37 : decode b_MD_with 37 = .ok (.iload 8, 2) := by decide +kernel
theorem d_MD_with_39 : decode b_MD_with 39 = .ok (.iload 7, 2) := by decide +kernel
theorem d_MD_with_41 : decode b_MD_with 41 = .ok (.iconst (-1), 1) := by decide +kernel
theorem d_MD_with_42 : decode b_MD_with 42 = .ok (.ixor, 1) := by decide +kernel
theorem d_MD_with_43 : decode b_MD_with 43 = .ok (.iand, 1) := by decide +kernel
theorem d_MD_with_44 : decode b_MD_with 44 = .ok (.istore 9, 2) := by decide +kernel
theorem d_MD_with_46 : decode b_MD_with 46 = .ok (.lload_n 0, 1) := by decide +kernel
theorem d_MD_with_47 : decode b_MD_with 47 = .ok (.iload 9, 2) := by decide +kernel
theorem d_MD_with_49 : decode b_MD_with 49 = .ok (.invokestatic 44, 3) := by decide +kernel
theorem d_MD_with_52 : decode b_MD_with 52 = .ok (.ifCond .eq 13, 3) := by decide +kernel
theorem d_MD_with_55 : decode b_MD_with 55 = .ok (.lload 5, 2) := by decide +kernel
theorem d_MD_with_57 : decode b_MD_with 57 = .ok (.lconst 1, 1) := by decide +kernel
theorem d_MD_with_58 : decode b_MD_with 58 = .ok (.iload 8, 2) := by decide +kernel
theorem d_MD_with_60 : decode b_MD_with 60 = .ok (.lshl, 1) := by decide +kernel
theorem d_MD_with_61 : decode b_MD_with 61 = .ok (.lor, 1) := by decide +kernel
theorem d_MD_with_62 : decode b_MD_with 62 = .ok (.goto 5, 3) := by decide +kernel
theorem d_MD_with_65 : decode b_MD_with 65 = .ok (.lload 5, 2) := by decide +kernel
theorem d_MD_with_67 : decode b_MD_with 67 = .ok (.lstore 5, 2) := by decide +kernel
theorem d_MD_with_69 : decode b_MD_with 69 = .ok (.iinc 8 1, 3) := by decide +kernel
theorem d_MD_with_72 : decode b_MD_with 72 = .ok (.goto (-59), 3) := by decide +kernel
theorem d_MD_with_75 : decode b_MD_with 75 = .ok (.lload 5, 2) := by decide +kernel
theorem d_MD_with_77 : decode b_MD_with 77 = .ok (.lreturn, 1) := by decide +kernel
theorem d_MD_compose_0 : decode b_MD_compose 0 = .ok (.iload_n 1, 1) := by decide +kernel
theorem d_MD_compose_1 : decode b_MD_compose 1 = .ok (.invokestatic 54, 3) := by decide +kernel
theorem d_MD_compose_4 : decode b_MD_compose 4 = .ok (.ifCond .eq 31, 3) := by decide +kernel
theorem d_MD_compose_7 : decode b_MD_compose 7 = .ok (.iload_n 2, 1) := by decide +kernel
theorem d_MD_compose_8 : decode b_MD_compose 8 = .ok (.invokestatic 54, 3) := by decide +kernel
theorem d_MD_compose_11 : decode b_MD_compose 11 = .ok (.ifCond .eq 24, 3) := by decide +kernel
theorem d_MD_compose_14 : decode b_MD_compose 14 = .ok (.iload_n 3, 1) := by decide +kernel
theorem d_MD_compose_15 : decode b_MD_compose 15 = .ok (.iconst 0, 1) := by decide +kernel
theorem d_MD_compose_16 : decode b_MD_compose 16 = .ok (.iconst 5, 1) := by decide +kernel
theorem d_MD_compose_17 : decode b_MD_compose 17 = .ok (.invokestatic 40, 3) := by decide +kernel
theorem d_MD_compose_20 : decode b_MD_compose 20 = .ok (.ifCond .eq 15, 3) := by decide +kernel
theorem d_MD_compose_23 : decode b_MD_compose 23 = .ok (.iload 4, 2) := by decide +kernel
theorem d_MD_compose_25 : decode b_MD_compose 25 = .ok (.invokestatic 54, 3) := by decide +kernel
theorem d_MD_compose_28 : decode b_MD_compose 28 = .ok (.ifCond .eq 7, 3) := by decide +kernel
theorem d_MD_compose_31 : decode b_MD_compose 31 = .ok (.iconst 1, 1) := by decide +kernel
theorem d_MD_compose_32 : decode b_MD_compose 32 = .ok (.goto 4, 3) := by decide +kernel
theorem d_MD_compose_35 : decode b_MD_compose 35 = .ok (.iconst 0, 1) := by decide +kernel
theorem d_MD_compose_36 : decode b_MD_compose 36 = .ok (.istore 5, 2) := by decide +kernel
theorem d_MD_compose_38 : decode b_MD_compose 38 = .ok (.aload_n 0, 1) := by decide +kernel
theorem d_MD_compose_39 : decode b_MD_compose 39 = .ok (.iload 5, 2) := by decide +kernel
theorem d_MD_compose_41 : decode b_MD_compose 41 = .ok (.ifCond .ne 7, 3) := by decide +kernel
theorem d_MD_compose_44 : decode b_MD_compose 44 = .ok (.iconst 1, 1) := by decide +kernel
theorem d_MD_compose_45 : decode b_MD_compose 45 = .ok (.goto 27, 3) := by decide +kernel
theorem d_MD_compose_48 : decode b_MD_compose 48 = .ok (.aload_n 0, 1) := by decide +kernel
theorem d_MD_compose_49 : decode b_MD_compose 49 = .ok (.getfield 13, 3) := by decide +kernel
theorem d_MD_compose_52 : decode b_MD_compose 52 = .ok (.iload_n 2, 1) := by decide +kernel
theorem d_MD_compose_53 : decode b_MD_compose 53 = .ok (.baload, 1) := by decide +kernel
theorem d_MD_compose_54 : decode b_MD_compose 54 = .ok (.ifCond .eq 17, 3) := by decide +kernel
theorem d_MD_compose_57 : decode b_MD_compose 57 = .ok (.aload_n 0, 1) := by decide +kernel
theorem d_MD_compose_58 : decode b_MD_compose 58 = .ok (.getfield 13, 3) := by decide +kernel
theorem d_MD_compose_61 : decode b_MD_compose 61 = .ok (.iload 4, 2) := by decide +kernel
theorem d_MD_compose_63 : decode b_MD_compose 63 = .ok (.baload, 1) := by decide +kernel
theorem d_MD_compose_64 : decode b_MD_compose 64 = .ok (.ifCond .eq 7, 3) := by decide +kernel
theorem d_MD_compose_67 : decode b_MD_compose 67 = .ok (.iconst 0, 1) := by decide +kernel
theorem d_MD_compose_68 : decode b_MD_compose 68 = .ok (.goto 4, 3) := by decide +kernel
theorem d_MD_compose_71 : decode b_MD_compose 71 = .ok (.iconst 2, 1) := by decide +kernel
theorem d_MD_compose_72 : decode b_MD_compose 72 = .ok (.putfield 36, 3) := by decide +kernel
theorem d_MD_compose_75 : decode b_MD_compose 75 = .ok (.aload_n 0, 1) := by decide +kernel
theorem d_MD_compose_76 : decode b_MD_compose 76 = .ok (.getfield 36, 3) := by decide +kernel
theorem d_MD_compose_79 : decode b_MD_compose 79 = .ok (.ifCond .ne 25, 3) := by decide +kernel
theorem d_MD_compose_82 : decode b_MD_compose 82 = .ok (.aload_n 0, 1) := by decide +kernel
theorem d_MD_compose_83 : decode b_MD_compose 83 = .ok (.iload_n 1, 1) := by decide +kernel
theorem d_MD_compose_84 : decode b_MD_compose 84 = .ok (.aload_n 0, 1) := by decide +kernel
theorem d_MD_compose_85 : decode b_MD_compose 85 = .ok (.getfield 7, 3) := by decide +kernel
theorem d_MD_compose_88 : decode b_MD_compose 88 = .ok (.iload_n 2, 1) := by decide +kernel
theorem d_MD_compose_89 : decode b_MD_compose 89 = .ok (.laload, 1) := by decide +kernel
theorem d_MD_compose_90 : decode b_MD_compose 90 = .ok (.iload_n 3, 1) := by decide +kernel
theorem d_MD_compose_91 : decode b_MD_compose 91 = .ok (.aload_n 0, 1) := by decide +kernel
theorem d_MD_compose_92 : decode b_MD_compose 92 = .ok (.getfield 7, 3) := by decide +kernel
theorem d_MD_compose_95 : decode b_MD_compose 95 = .ok (.iload 4, 2) := by decide +kernel
end
section
theorem d_MD_compose_97 : decode b_MD_compose 97 = .ok (.laload, 1) := by decide +kernel
theorem d_MD_compose_98 : decode b_MD_compose 98 = .ok (.invokestatic 48, 3) := by decide +kernel
theorem d_MD_compose_101 : decode b_MD_compose 101 = .ok (.invokevirtual 62, 3) := by decide +kernel
theorem d_MD_compose_104 : decode b_MD_compose 104 = .ok (.return_, 1) := by decide +kernel
theorem d_MD_quantify_0 : decode b_MD_quantify 0 = .ok (.iload_n 1, 1) := by decide +kernel
theorem d_MD_quantify_1 : decode b_MD_quantify 1 = .ok (.invokestatic 54, 3) := by decide +kernel
theorem d_MD_quantify_4 : decode b_MD_quantify 4 = .ok (.ifCond .eq 24, 3) := by decide +kernel
theorem d_MD_quantify_7 : decode b_MD_quantify 7 = .ok (.iload_n 2, 1) := by decide +kernel
theorem d_MD_quantify_8 : decode b_MD_quantify 8 = .ok (.invokestatic 54, 3) := by decide +kernel
theorem d_MD_quantify_11 : decode b_MD_quantify 11 = .ok (.ifCond .eq 17, 3) := by decide +kernel
theorem d_MD_quantify_14 : decode b_MD_quantify 14 = .ok (.iload_n 3, 1) := by decide +kernel
theorem d_MD_quantify_15 : decode b_MD_quantify 15 = .ok (.iconst 0, 1) := by decide +kernel
theorem d_MD_quantify_16 : decode b_MD_quantify 16 = .ok (.bipush 63, 2) := by decide +kernel
theorem d_MD_quantify_18 : decode b_MD_quantify 18 = .ok (.invokestatic 40, 3) := by decide +kernel
theorem d_MD_quantify_21 : decode b_MD_quantify 21 = .ok (.ifCond .eq 7, 3) := by decide +kernel
theorem d_MD_quantify_24 : decode b_MD_quantify 24 = .ok (.iconst 1, 1) := by decide +kernel
theorem d_MD_quantify_25 : decode b_MD_quantify 25 = .ok (.goto 4, 3) := by decide +kernel
theorem d_MD_quantify_28 : decode b_MD_quantify 28 = .ok (.iconst 0, 1) := by decide +kernel
theorem d_MD_quantify_29 : decode b_MD_quantify 29 = .ok (.istore 5, 2) := by decide +kernel
theorem d_MD_quantify_31 : decode b_MD_quantify 31 = .ok (.aload_n 0, 1) := by decide +kernel
theorem d_MD_quantify_32 : decode b_MD_quantify 32 = .ok (.iload 5, 2) := by decide +kernel
theorem d_MD_quantify_34 : decode b_MD_quantify 34 = .ok (.ifCond .ne 7, 3) := by decide +kernel
theorem d_MD_quantify_37 : decode b_MD_quantify 37 = .ok (.iconst 1, 1) := by decide +kernel
theorem d_MD_quantify_38 : decode b_MD_quantify 38 = .ok (.goto 17, 3) := by decide +kernel
theorem d_MD_quantify_41 : decode b_MD_quantify 41 = .ok (.aload_n 0, 1) := by decide +kernel
theorem d_MD_quantify_42 : decode b_MD_quantify 42 = .ok (.getfield 13, 3) := by decide +kernel
theorem d_MD_quantify_45 : decode b_MD_quantify 45 = .ok (.iload_n 2, 1) := by decide +kernel
theorem d_MD_quantify_46 : decode b_MD_quantify 46 = .ok (.baload, 1) := by decide +kernel
theorem d_MD_quantify_47 : decode b_MD_quantify 47 = .ok (.ifCond .eq 7, 3) := by decide +kernel
theorem d_MD_quantify_50 : decode b_MD_quantify 50 = .ok (.iconst 0, 1) := by decide +kernel
theorem d_MD_quantify_51 : decode b_MD_quantify 51 = .ok (.goto 4, 3) := by decide +kernel
theorem d_MD_quantify_54 : decode b_MD_quantify 54 = .ok (.iconst 2, 1) := by decide +kernel
theorem d_MD_quantify_55 : decode b_MD_quantify 55 = .ok (.putfield 36, 3) := by decide +kernel
theorem d_MD_quantify_58 : decode b_MD_quantify 58 = .ok (.aload_n 0, 1) := by decide +kernel
theorem d_MD_quantify_59 : decode b_MD_quantify 59 = .ok (.getfield 36, 3) := by decide +kernel
theorem d_MD_quantify_62 : decode b_MD_quantify 62 = .ok (.ifCond .le 4, 3) := by decide +kernel
theorem d_MD_quantify_65 : decode b_MD_quantify 65 = .ok (.return_, 1) := by decide +kernel
theorem d_MD_quantify_66 : decode b_MD_quantify 66 = .ok (.aload_n 0, 1) := by decide +kernel
theorem d_MD_quantify_67 : decode b_MD_quantify 67 = .ok (.getfield 7, 3) := by decide +kernel
theorem d_MD_quantify_70 : decode b_MD_quantify 70 = .ok (.iload_n 2, 1) := by decide +kernel
theorem d_MD_quantify_71 : decode b_MD_quantify 71 = .ok (.laload, 1) := by decide +kernel
theorem d_MD_quantify_72 : decode b_MD_quantify 72 = .ok (.lstore 6, 2) := by decide +kernel
theorem d_MD_quantify_74 : decode b_MD_quantify 74 = .ok (.iconst 0, 1) := by decide +kernel
theorem d_MD_quantify_75 : decode b_MD_quantify 75 = .ok (.istore 8, 2) := by decide +kernel
theorem d_MD_quantify_77 : decode b_MD_quantify 77 = .ok (.iload 8, 2) := by decide +kernel
theorem d_MD_quantify_79 : decode b_MD_quantify 79 = .ok (.bipush 6, 2) := by decide +kernel
theorem d_MD_quantify_81 : decode b_MD_quantify 81 = .ok (.if_icmp .ge 61, 3) := by decide +kernel
theorem d_MD_quantify_84 : decode b_MD_quantify 84 = .ok (.iload_n 3, 1) := by decide +kernel
theorem d_MD_quantify_85 : decode b_MD_quantify 85 = .ok (.iload 8, 2) := by decide +kernel
theorem d_MD_quantify_87 : decode b_MD_quantify 87 = .ok (.ishr, 1) := by decide +kernel
theorem d_MD_quantify_88 : decode b_MD_quantify 88 = .ok (.iconst 1, 1) := by decide +kernel
theorem d_MD_quantify_89 : decode b_MD_quantify 89 = .ok (.iand, 1) := by decide +kernel
theorem d_MD_quantify_90 : decode b_MD_quantify 90 = .ok (.iconst 1, 1) := by decide +kernel
theorem d_MD_quantify_91 : decode b_MD_quantify 91 = .ok (.if_icmp .ne 45, 3) := by decide +kernel
theorem d_MD_quantify_94 : decode b_MD_quantify 94 = .ok (.lload 6, 2) := by decide +kernel
theorem d_MD_quantify_96 : decode b_MD_quantify 96 = .ok (.iload 8, 2) := by decide +kernel
theorem d_MD_quantify_98 : decode b_MD_quantify 98 = .ok (.lconst 0, 1) := by decide +kernel
theorem d_MD_quantify_99 : decode b_MD_quantify 99 = .ok (.invokestatic 48, 3) := by decide +kernel
theorem d_MD_quantify_102 : decode b_MD_quantify 102 = .ok (.lstore 9, 2) := by decide +kernel
theorem d_MD_quantify_104 : decode b_MD_quantify 104 = .ok (.lload 6, 2) := by decide +kernel
theorem d_MD_quantify_106 : decode b_MD_quantify 106 = .ok (.iload 8, 2) := by decide +kernel
theorem d_MD_quantify_108 : decode b_MD_quantify 108 = .ok (.ldc2_w 52, 3) := by decide +kernel
theorem d_MD_quantify_111 : decode b_MD_quantify 111 = .ok (.invokestatic 48, 3) := by decide +kernel
theorem d_MD_quantify_114 : decode b_MD_quantify 114 = .ok (.lstore 11, 2) := by decide +kernel
theorem d_MD_quantify_116 : decode b_MD_quantify 116 = .ok (.iload 4, 2) := by decide +kernel
theorem d_MD_quantify_118 : decode b_MD_quantify 118 = .ok (.ifCond .eq 11, 3) := by decide +kernel
theorem d_MD_quantify_121 : decode b_MD_quantify 121 = .ok (.lload 9, 2) := by decide +kernel
theorem d_MD_quantify_123 : decode b_MD_quantify 123 = .ok (.lload 11, 2) := by decide +kernel
theorem d_MD_quantify_125 : decode b_MD_quantify 125 = .ok (.land, 1) := by decide +kernel
theorem d_MD_quantify_126 : decode b_MD_quantify 126 = .ok (.goto 8, 3) := by decide +kernel
theorem d_MD_quantify_129 : decode b_MD_quantify 129 = .ok (.lload 9, 2) := by decide +kernel
theorem d_MD_quantify_131 : decode b_MD_quantify 131 = .ok (.lload 11, 2) := by decide +kernel
theorem d_MD_quantify_133 : decode b_MD_quantify 133 = .ok (.lor, 1) := by decide +kernel
theorem d_MD_quantify_134 : decode b_MD_quantify 134 = .ok (.lstore 6, 2) := by decide +kernel
theorem d_MD_quantify_136 : decode b_MD_quantify 136 = .ok (.iinc 8 1, 3) := by decide +kernel
theorem d_MD_quantify_139 : decode b_MD_quantify 139 = .ok (.goto (-62), 3) := by decide +kernel
theorem d_MD_quantify_142 : decode b_MD_quantify 142 = .ok (.aload_n 0, 1) := by decide +kernel
theorem d_MD_quantify_143 : decode b_MD_quantify 143 = .ok (.iload_n 1, 1) := by decide +kernel
theorem d_MD_quantify_144 : decode b_MD_quantify 144 = .ok (.lload 6, 2) := by decide +kernel
theorem d_MD_quantify_146 : decode b_MD_quantify 146 = .ok (.invokevirtual 62, 3) := by decide +kernel
theorem d_MD_quantify_149 : decode b_MD_quantify 149 = .ok (.return_, 1) := by decide +kernel
theorem d_MD_release_0 : decode b_MD_release 0 = .ok (.aload_n 0, 1) := by decide +kernel
theorem d_MD_release_1 : decode b_MD_release 1 = .ok (.iload_n 1, 1) := by decide +kernel
theorem d_MD_release_2 : decode b_MD_release 2 = .ok (.invokestatic 54, 3) := by decide +kernel
theorem d_MD_release_5 : decode b_MD_release 5 = .ok (.ifCond .eq 7, 3) := by decide +kernel
theorem d_MD_release_8 : decode b_MD_release 8 = .ok (.iconst 0, 1) := by decide +kernel
theorem d_MD_release_9 : decode b_MD_release 9 = .ok (.goto 4, 3) := by decide +kernel
theorem d_MD_release_12 : decode b_MD_release 12 = .ok (.iconst 1, 1) := by decide +kernel
theorem d_MD_release_13 : decode b_MD_release 13 = .ok (.putfield 36, 3) := by decide +kernel
theorem d_MD_release_16 : decode b_MD_release 16 = .ok (.aload_n 0, 1) := by decide +kernel
theorem d_MD_release_17 : decode b_MD_release 17 = .ok (.getfield 36, 3) := by decide +kernel
theorem d_MD_release_20 : decode b_MD_release 20 = .ok (.ifCond .le 5, 3) := by decide +kernel
theorem d_MD_release_23 : decode b_MD_release 23 = .ok (.iconst 0, 1) := by decide +kernel
theorem d_MD_release_24 : decode b_MD_release 24 = .ok (.ireturn, 1) := by decide +kernel
theorem d_MD_release_25 : decode b_MD_release 25 = .ok (.aload_n 0, 1) := by decide +kernel
theorem d_MD_release_26 : decode b_MD_release 26 = .ok (.getfield 13, 3) := by decide +kernel
theorem d_MD_release_29 : decode b_MD_release 29 = .ok (.iload_n 1, 1) := by decide +kernel
theorem d_MD_release_30 : decode b_MD_release 30 = .ok (.baload, 1) := by decide +kernel
theorem d_MD_release_31 : decode b_MD_release 31 = .ok (.istore_n 2, 1) := by decide +kernel
theorem d_MD_release_32 : decode b_MD_release 32 = .ok (.aload_n 0, 1) := by decide +kernel
theorem d_MD_release_33 : decode b_MD_release 33 = .ok (.getfield 13, 3) := by decide +kernel
theorem d_MD_release_36 : decode b_MD_release 36 = .ok (.iload_n 1, 1) := by decide +kernel
theorem d_MD_release_37 : decode b_MD_release 37 = .ok (.iconst 0, 1) := by decide +kernel
theorem d_MD_release_38 : decode b_MD_release 38 = .ok (.bastore, 1) := by decide +kernel
theorem d_MD_release_39 : decode b_MD_release 39 = .ok (.iload_n 2, 1) := by decide +kernel
theorem d_MD_release_40 : decode b_MD_release 40 = .ok (.ireturn, 1) := by decide +kernel
theorem d_MD_type_0 : decode b_MD_type 0 = .ok (.aload_n 0, 1) := by decide +kernel
theorem d_MD_type_1 : decode b_MD_type 1 = .ok (.iload_n 3, 1) := by decide +kernel
theorem d_MD_type_2 : decode b_MD_type 2 = .ok (.iconst 1, 1) := by decide +kernel
theorem d_MD_type_3 : decode b_MD_type 3 = .ok (.bipush 8, 2) := by decide +kernel
theorem d_MD_type_5 : decode b_MD_type 5 = .ok (.invokestatic 40, 3) := by decide +kernel
theorem d_MD_type_8 : decode b_MD_type 8 = .ok (.ifCond .eq 18, 3) := by decide +kernel
theorem d_MD_type_11 : decode b_MD_type 11 = .ok (.aload_n 0, 1) := by decide +kernel
theorem d_MD_type_12 : decode b_MD_type 12 = .ok (.getfield 66, 3) := by decide +kernel
theorem d_MD_type_15 : decode b_MD_type 15 = .ok (.iload_n 3, 1) := by decide +kernel
theorem d_MD_type_16 : decode b_MD_type 16 = .ok (.iadd, 1) := by decide +kernel
theorem d_MD_type_17 : decode b_MD_type 17 = .ok (.bipush 40, 2) := by decide +kernel
theorem d_MD_type_19 : decode b_MD_type 19 = .ok (.if_icmp .gt 7, 3) := by decide +kernel
theorem d_MD_type_22 : decode b_MD_type 22 = .ok (.iconst 0, 1) := by decide +kernel
theorem d_MD_type_23 : decode b_MD_type 23 = .ok (.goto 4, 3) := by decide +kernel
theorem d_MD_type_26 : decode b_MD_type 26 = .ok (.iconst 1, 1) := by decide +kernel
theorem d_MD_type_27 : decode b_MD_type 27 = .ok (.putfield 36, 3) := by decide +kernel
theorem d_MD_type_30 : decode b_MD_type 30 = .ok (.aload_n 0, 1) := by decide +kernel
theorem d_MD_type_31 : decode b_MD_type 31 = .ok (.getfield 36, 3) := by decide +kernel
theorem d_MD_type_34 : decode b_MD_type 34 = .ok (.ifCond .le 5, 3) := by decide +kernel
theorem d_MD_type_37 : decode b_MD_type 37 = .ok (.iconst 0, 1) := by decide +kernel
theorem d_MD_type_38 : decode b_MD_type 38 = .ok (.ireturn, 1) := by decide +kernel
theorem d_MD_type_39 : decode b_MD_type 39 = .ok (.iload_n 3, 1) := by decide +kernel
theorem d_MD_type_40 : decode b_MD_type 40 = .ok (.iconst 1, 1) := by decide +kernel
theorem d_MD_type_41 : decode b_MD_type 41 = .ok (.isub, 1) := by decide +kernel
theorem d_MD_type_42 : decode b_MD_type 42 = .ok (.istore 4, 2) := by decide +kernel
theorem d_MD_type_44 : decode b_MD_type 44 = .ok (.iload 4, 2) := by decide +kernel
theorem d_MD_type_46 : decode b_MD_type 46 = .ok (.ifCond .lt 40, 3) := by decide +kernel
theorem d_MD_type_49 : decode b_MD_type 49 = .ok (.aload_n 0, 1) := by decide +kernel
theorem d_MD_type_50 : decode b_MD_type 50 = .ok (.getfield 24, 3) := by decide +kernel
theorem d_MD_type_53 : decode b_MD_type 53 = .ok (.aload_n 0, 1) := by decide +kernel
theorem d_MD_type_54 : decode b_MD_type 54 = .ok (.getfield 66, 3) := by decide +kernel
theorem d_MD_type_57 : decode b_MD_type 57 = .ok (.lload_n 1, 1) := by decide +kernel
theorem d_MD_type_58 : decode b_MD_type 58 = .ok (.bipush 8, 2) := by decide +kernel
theorem d_MD_type_60 : decode b_MD_type 60 = .ok (.iload 4, 2) := by decide +kernel
theorem d_MD_type_62 : decode b_MD_type 62 = .ok (.imul, 1) := by decide +kernel
theorem d_MD_type_63 : decode b_MD_type 63 = .ok (.lshr, 1) := by decide +kernel
theorem d_MD_type_64 : decode b_MD_type 64 = .ok (.l2i, 1) := by decide +kernel
theorem d_MD_type_65 : decode b_MD_type 65 = .ok (.sipush 255, 3) := by decide +kernel
theorem d_MD_type_68 : decode b_MD_type 68 = .ok (.iand, 1) := by decide +kernel
theorem d_MD_type_69 : decode b_MD_type 69 = .ok (.iastore, 1) := by decide +kernel
theorem d_MD_type_70 : decode b_MD_type 70 = .ok (.aload_n 0, 1) := by decide +kernel
theorem d_MD_type_71 : decode b_MD_type 71 = .ok (.dup, 1) := by decide +kernel
theorem d_MD_type_72 : decode b_MD_type 72 = .ok (.getfield 66, 3) := by decide +kernel
theorem d_MD_type_75 : decode b_MD_type 75 = .ok (.iconst 1, 1) := by decide +kernel
theorem d_MD_type_76 : decode b_MD_type 76 = .ok (.iadd, 1) := by decide +kernel
theorem d_MD_type_77 : decode b_MD_type 77 = .ok (.putfield 66, 3) := by decide +kernel
theorem d_MD_type_80 : decode b_MD_type 80 = .ok (.iinc 4 (-1), 3) := by decide +kernel
theorem d_MD_type_83 : decode b_MD_type 83 = .ok (.goto (-39), 3) := by decide +kernel
theorem d_MD_type_86 : decode b_MD_type 86 = .ok (.aload_n 0, 1) := by decide +kernel
theorem d_MD_type_87 : decode b_MD_type 87 = .ok (.getfield 66, 3) := by decide +kernel
theorem d_MD_type_90 : decode b_MD_type 90 = .ok (.ireturn, 1) := by decide +kernel
theorem d_MD_read_0 : decode b_MD_read 0 = .ok (.aload_n 0, 1) := by decide +kernel
theorem d_MD_read_1 : decode b_MD_read 1 = .ok (.iload_n 1, 1) := by decide +kernel
theorem d_MD_read_2 : decode b_MD_read 2 = .ok (.invokestatic 54, 3) := by decide +kernel
theorem d_MD_read_5 : decode b_MD_read 5 = .ok (.ifCond .eq 7, 3) := by decide +kernel
theorem d_MD_read_8 : decode b_MD_read 8 = .ok (.iconst 0, 1) := by decide +kernel
theorem d_MD_read_9 : decode b_MD_read 9 = .ok (.goto 4, 3) := by decide +kernel
theorem d_MD_read_12 : decode b_MD_read 12 = .ok (.iconst 1, 1) := by decide +kernel
theorem d_MD_read_13 : decode b_MD_read 13 = .ok (.putfield 36, 3) := by decide +kernel
theorem d_MD_read_16 : decode b_MD_read 16 = .ok (.aload_n 0, 1) := by decide +kernel
theorem d_MD_read_17 : decode b_MD_read 17 = .ok (.getfield 36, 3) := by decide +kernel
theorem d_MD_read_20 : decode b_MD_read 20 = .ok (.ifCond .le 5, 3) := by decide +kernel
theorem d_MD_read_23 : decode b_MD_read 23 = .ok (.iconst 0, 1) := by decide +kernel
theorem d_MD_read_24 : decode b_MD_read 24 = .ok (.ireturn, 1) := by decide +kernel
theorem d_MD_read_25 : decode b_MD_read 25 = .ok (.aload_n 0, 1) := by decide +kernel
theorem d_MD_read_26 : decode b_MD_read 26 = .ok (.getfield 66, 3) := by decide +kernel
theorem d_MD_read_29 : decode b_MD_read 29 = .ok (.istore_n 2, 1) := by decide +kernel
theorem d_MD_read_30 : decode b_MD_read 30 = .ok (.aload_n 0, 1) := by decide +kernel
theorem d_MD_read_31 : decode b_MD_read 31 = .ok (.iconst 0, 1) := by decide +kernel
theorem d_MD_read_32 : decode b_MD_read 32 = .ok (.putfield 66, 3) := by decide +kernel
theorem d_MD_read_35 : decode b_MD_read 35 = .ok (.aload_n 0, 1) := by decide +kernel
theorem d_MD_read_36 : decode b_MD_read 36 = .ok (.iconst 0, 1) := by decide +kernel
theorem d_MD_read_37 : decode b_MD_read 37 = .ok (.putfield 72, 3) := by decide +kernel
theorem d_MD_read_40 : decode b_MD_read 40 = .ok (.aload_n 0, 1) := by decide +kernel
theorem d_MD_read_41 : decode b_MD_read 41 = .ok (.iconst 0, 1) := by decide +kernel
theorem d_MD_read_42 : decode b_MD_read 42 = .ok (.putfield 69, 3) := by decide +kernel
theorem d_MD_read_45 : decode b_MD_read 45 = .ok (.iconst 0, 1) := by decide +kernel
theorem d_MD_read_46 : decode b_MD_read 46 = .ok (.istore_n 3, 1) := by decide +kernel
theorem d_MD_read_47 : decode b_MD_read 47 = .ok (.iconst 0, 1) := by decide +kernel
theorem d_MD_read_48 : decode b_MD_read 48 = .ok (.istore 4, 2) := by decide +kernel
theorem d_MD_read_50 : decode b_MD_read 50 = .ok (.iconst 0, 1) := by decide +kernel
theorem d_MD_read_51 : decode b_MD_read 51 = .ok (.istore 5, 2) := by decide +kernel
theorem d_MD_read_53 : decode b_MD_read 53 = .ok (.iload 5, 2) := by decide +kernel
theorem d_MD_read_55 : decode b_MD_read 55 = .ok (.iload_n 2, 1) := by decide +kernel
theorem d_MD_read_56 : decode b_MD_read 56 = .ok (.if_icmp .ge 142, 3) := by decide +kernel
theorem d_MD_read_59 : decode b_MD_read 59 = .ok (.aload_n 0, 1) := by decide +kernel
theorem d_MD_read_60 : decode b_MD_read 60 = .ok (.getfield 24, 3) := by decide +kernel
theorem d_MD_read_63 : decode b_MD_read 63 = .ok (.iload 5, 2) := by decide +kernel
theorem d_MD_read_65 : decode b_MD_read 65 = .ok (.iaload, 1) := by decide +kernel
theorem d_MD_read_66 : decode b_MD_read 66 = .ok (.istore 6, 2) := by decide +kernel
theorem d_MD_read_68 : decode b_MD_read 68 = .ok (.iload 4, 2) := by decide +kernel
theorem d_MD_read_70 : decode b_MD_read 70 = .ok (.ifCond .ne 51, 3) := by decide +kernel
theorem d_MD_read_73 : decode b_MD_read 73 = .ok (.aload_n 0, 1) := by decide +kernel
theorem d_MD_read_74 : decode b_MD_read 74 = .ok (.iload 6, 2) := by decide +kernel
theorem d_MD_read_76 : decode b_MD_read 76 = .ok (.iload_n 3, 1) := by decide +kernel
theorem d_MD_read_77 : decode b_MD_read 77 = .ok (.invokevirtual 87, 3) := by decide +kernel
theorem d_MD_read_80 : decode b_MD_read 80 = .ok (.istore 7, 2) := by decide +kernel
theorem d_MD_read_82 : decode b_MD_read 82 = .ok (.iload 7, 2) := by decide +kernel
theorem d_MD_read_84 : decode b_MD_read 84 = .ok (.ifCond .ne 6, 3) := by decide +kernel
theorem d_MD_read_87 : decode b_MD_read 87 = .ok (.iload 5, 2) := by decide +kernel
theorem d_MD_read_89 : decode b_MD_read 89 = .ok (.ireturn, 1) := by decide +kernel
theorem d_MD_read_90 : decode b_MD_read 90 = .ok (.iload 6, 2) := by decide +kernel
theorem d_MD_read_92 : decode b_MD_read 92 = .ok (.bipush 40, 2) := by decide +kernel
theorem d_MD_read_94 : decode b_MD_read 94 = .ok (.if_icmp .ne 9, 3) := by decide +kernel
theorem d_MD_read_97 : decode b_MD_read 97 = .ok (.iload_n 3, 1) := by decide +kernel
theorem d_MD_read_98 : decode b_MD_read 98 = .ok (.iconst 1, 1) := by decide +kernel
theorem d_MD_read_99 : decode b_MD_read 99 = .ok (.iadd, 1) := by decide +kernel
theorem d_MD_read_100 : decode b_MD_read 100 = .ok (.goto 4, 3) := by decide +kernel
theorem d_MD_read_103 : decode b_MD_read 103 = .ok (.iload_n 3, 1) := by decide +kernel
theorem d_MD_read_104 : decode b_MD_read 104 = .ok (.istore_n 3, 1) := by decide +kernel
theorem d_MD_read_105 : decode b_MD_read 105 = .ok (.iload 7, 2) := by decide +kernel
theorem d_MD_read_107 : decode b_MD_read 107 = .ok (.iconst 2, 1) := by decide +kernel
theorem d_MD_read_108 : decode b_MD_read 108 = .ok (.if_icmp .ne 7, 3) := by decide +kernel
theorem d_MD_read_111 : decode b_MD_read 111 = .ok (.iconst 1, 1) := by decide +kernel
theorem d_MD_read_112 : decode b_MD_read 112 = .ok (.goto 4, 3) := by decide +kernel
theorem d_MD_read_115 : decode b_MD_read 115 = .ok (.iconst 0, 1) := by decide +kernel
theorem d_MD_read_116 : decode b_MD_read 116 = .ok (.istore 4, 2) := by decide +kernel
theorem d_MD_read_118 : decode b_MD_read 118 = .ok (.goto 74, 3) := by decide +kernel
theorem d_MD_read_121 : decode b_MD_read 121 = .ok (.iload 6, 2) := by decide +kernel
theorem d_MD_read_123 : decode b_MD_read 123 = .ok (.bipush 41, 2) := by decide +kernel
theorem d_MD_read_125 : decode b_MD_read 125 = .ok (.if_icmp .ne 28, 3) := by decide +kernel
theorem d_MD_read_128 : decode b_MD_read 128 = .ok (.iload_n 3, 1) := by decide +kernel
theorem d_MD_read_129 : decode b_MD_read 129 = .ok (.ifCond .le 24, 3) := by decide +kernel
theorem d_MD_read_132 : decode b_MD_read 132 = .ok (.aload_n 0, 1) := by decide +kernel
theorem d_MD_read_133 : decode b_MD_read 133 = .ok (.iconst 1, 1) := by decide +kernel
theorem d_MD_read_134 : decode b_MD_read 134 = .ok (.invokevirtual 91, 3) := by decide +kernel
theorem d_MD_read_137 : decode b_MD_read 137 = .ok (.aload_n 0, 1) := by decide +kernel
theorem d_MD_read_138 : decode b_MD_read 138 = .ok (.dup, 1) := by decide +kernel
theorem d_MD_read_139 : decode b_MD_read 139 = .ok (.getfield 72, 3) := by decide +kernel
theorem d_MD_read_142 : decode b_MD_read 142 = .ok (.iconst 1, 1) := by decide +kernel
theorem d_MD_read_143 : decode b_MD_read 143 = .ok (.isub, 1) := by decide +kernel
theorem d_MD_read_144 : decode b_MD_read 144 = .ok (.putfield 72, 3) := by decide +kernel
theorem d_MD_read_147 : decode b_MD_read 147 = .ok (.iinc 3 (-1), 3) := by decide +kernel
theorem d_MD_read_150 : decode b_MD_read 150 = .ok (.goto 42, 3) := by decide +kernel
theorem d_MD_read_153 : decode b_MD_read 153 = .ok (.iload 6, 2) := by decide +kernel
theorem d_MD_read_155 : decode b_MD_read 155 = .ok (.invokestatic 75, 3) := by decide +kernel
theorem d_MD_read_158 : decode b_MD_read 158 = .ok (.ifCond .le 31, 3) := by decide +kernel
theorem d_MD_read_161 : decode b_MD_read 161 = .ok (.iload 6, 2) := by decide +kernel
theorem d_MD_read_163 : decode b_MD_read 163 = .ok (.bipush 33, 2) := by decide +kernel
theorem d_MD_read_165 : decode b_MD_read 165 = .ok (.if_icmp .eq 24, 3) := by decide +kernel
theorem d_MD_read_168 : decode b_MD_read 168 = .ok (.aload_n 0, 1) := by decide +kernel
theorem d_MD_read_169 : decode b_MD_read 169 = .ok (.iload 6, 2) := by decide +kernel
theorem d_MD_read_171 : decode b_MD_read 171 = .ok (.invokestatic 75, 3) := by decide +kernel
theorem d_MD_read_174 : decode b_MD_read 174 = .ok (.invokevirtual 91, 3) := by decide +kernel
theorem d_MD_read_177 : decode b_MD_read 177 = .ok (.aload_n 0, 1) := by decide +kernel
theorem d_MD_read_178 : decode b_MD_read 178 = .ok (.iload 6, 2) := by decide +kernel
theorem d_MD_read_180 : decode b_MD_read 180 = .ok (.invokevirtual 79, 3) := by decide +kernel
theorem d_MD_read_183 : decode b_MD_read 183 = .ok (.iconst 0, 1) := by decide +kernel
theorem d_MD_read_184 : decode b_MD_read 184 = .ok (.istore 4, 2) := by decide +kernel
theorem d_MD_read_186 : decode b_MD_read 186 = .ok (.goto 6, 3) := by decide +kernel
theorem d_MD_read_189 : decode b_MD_read 189 = .ok (.iload 5, 2) := by decide +kernel
theorem d_MD_read_191 : decode b_MD_read 191 = .ok (.ireturn, 1) := by decide +kernel
theorem d_MD_read_192 : decode b_MD_read 192 = .ok (.iinc 5 1, 3) := by decide +kernel
theorem d_MD_read_195 : decode b_MD_read 195 = .ok (.goto (-142), 3) := by decide +kernel
theorem d_MD_read_198 : decode b_MD_read 198 = .ok (.iload 4, 2) := by decide +kernel
theorem d_MD_read_200 : decode b_MD_read 200 = .ok (.ifCond .eq 7, 3) := by decide +kernel
theorem d_MD_read_203 : decode b_MD_read 203 = .ok (.iload_n 3, 1) := by decide +kernel
theorem d_MD_read_204 : decode b_MD_read 204 = .ok (.ifCond .le 5, 3) := by decide +kernel
theorem d_MD_read_207 : decode b_MD_read 207 = .ok (.iload_n 2, 1) := by decide +kernel
theorem d_MD_read_208 : decode b_MD_read 208 = .ok (.ireturn, 1) := by decide +kernel
theorem d_MD_read_209 : decode b_MD_read 209 = .ok (.aload_n 0, 1) := by decide +kernel
theorem d_MD_read_210 : decode b_MD_read 210 = .ok (.iconst 1, 1) := by decide +kernel
theorem d_MD_read_211 : decode b_MD_read 211 = .ok (.invokevirtual 91, 3) := by decide +kernel
theorem d_MD_read_214 : decode b_MD_read 214 = .ok (.aload_n 0, 1) := by decide +kernel
theorem d_MD_read_215 : decode b_MD_read 215 = .ok (.iload_n 1, 1) := by decide +kernel
theorem d_MD_read_216 : decode b_MD_read 216 = .ok (.aload_n 0, 1) := by decide +kernel
theorem d_MD_read_217 : decode b_MD_read 217 = .ok (.getfield 33, 3) := by decide +kernel
theorem d_MD_read_220 : decode b_MD_read 220 = .ok (.iconst 0, 1) := by decide +kernel
theorem d_MD_read_221 : decode b_MD_read 221 = .ok (.laload, 1) := by decide +kernel
theorem d_MD_read_222 : decode b_MD_read 222 = .ok (.invokevirtual 62, 3) := by decide +kernel
theorem d_MD_read_225 : decode b_MD_read 225 = .ok (.iconst (-1), 1) := by decide +kernel
theorem d_MD_read_226 : decode b_MD_read 226 = .ok (.ireturn, 1) := by decide +kernel
theorem d_MD_begin_0 : decode b_MD_begin 0 = .ok (.iload_n 1, 1) := by decide +kernel
theorem d_MD_begin_1 : decode b_MD_begin 1 = .ok (.bipush 40, 2) := by decide +kernel
theorem d_MD_begin_3 : decode b_MD_begin 3 = .ok (.if_icmp .eq 9, 3) := by decide +kernel
theorem d_MD_begin_6 : decode b_MD_begin 6 = .ok (.iload_n 1, 1) := by decide +kernel
theorem d_MD_begin_7 : decode b_MD_begin 7 = .ok (.bipush 33, 2) := by decide +kernel
theorem d_MD_begin_9 : decode b_MD_begin 9 = .ok (.if_icmp .ne 23, 3) := by decide +kernel
theorem d_MD_begin_12 : decode b_MD_begin 12 = .ok (.iload_n 1, 1) := by decide +kernel
theorem d_MD_begin_13 : decode b_MD_begin 13 = .ok (.bipush 40, 2) := by decide +kernel
theorem d_MD_begin_15 : decode b_MD_begin 15 = .ok (.if_icmp .ne 10, 3) := by decide +kernel
theorem d_MD_begin_18 : decode b_MD_begin 18 = .ok (.iload_n 2, 1) := by decide +kernel
theorem d_MD_begin_19 : decode b_MD_begin 19 = .ok (.iconst 5, 1) := by decide +kernel
theorem d_MD_begin_20 : decode b_MD_begin 20 = .ok (.if_icmp .ne 5, 3) := by decide +kernel
theorem d_MD_begin_23 : decode b_MD_begin 23 = .ok (.iconst 0, 1) := by decide +kernel
theorem d_MD_begin_24 : decode b_MD_begin 24 = .ok (.ireturn, 1) := by decide +kernel
theorem d_MD_begin_25 : decode b_MD_begin 25 = .ok (.aload_n 0, 1) := by decide +kernel
theorem d_MD_begin_26 : decode b_MD_begin 26 = .ok (.iload_n 1, 1) := by decide +kernel
theorem d_MD_begin_27 : decode b_MD_begin 27 = .ok (.invokevirtual 79, 3) := by decide +kernel
theorem d_MD_begin_30 : decode b_MD_begin 30 = .ok (.iconst 1, 1) := by decide +kernel
theorem d_MD_begin_31 : decode b_MD_begin 31 = .ok (.ireturn, 1) := by decide +kernel
theorem d_MD_begin_32 : decode b_MD_begin 32 = .ok (.iload_n 1, 1) := by decide +kernel
theorem d_MD_begin_33 : decode b_MD_begin 33 = .ok (.bipush 48, 2) := by decide +kernel
theorem d_MD_begin_35 : decode b_MD_begin 35 = .ok (.if_icmp .eq 9, 3) := by decide +kernel
theorem d_MD_begin_38 : decode b_MD_begin 38 = .ok (.iload_n 1, 1) := by decide +kernel
theorem d_MD_begin_39 : decode b_MD_begin 39 = .ok (.bipush 49, 2) := by decide +kernel
theorem d_MD_begin_41 : decode b_MD_begin 41 = .ok (.if_icmp .ne 23, 3) := by decide +kernel
theorem d_MD_begin_44 : decode b_MD_begin 44 = .ok (.aload_n 0, 1) := by decide +kernel
theorem d_MD_begin_45 : decode b_MD_begin 45 = .ok (.iload_n 1, 1) := by decide +kernel
theorem d_MD_begin_46 : decode b_MD_begin 46 = .ok (.bipush 49, 2) := by decide +kernel
theorem d_MD_begin_48 : decode b_MD_begin 48 = .ok (.if_icmp .ne 9, 3) := by decide +kernel
theorem d_MD_begin_51 : decode b_MD_begin 51 = .ok (.ldc2_w 52, 3) := by decide +kernel
theorem d_MD_begin_54 : decode b_MD_begin 54 = .ok (.goto 4, 3) := by decide +kernel
theorem d_MD_begin_57 : decode b_MD_begin 57 = .ok (.lconst 0, 1) := by decide +kernel
theorem d_MD_begin_58 : decode b_MD_begin 58 = .ok (.invokevirtual 83, 3) := by decide +kernel
theorem d_MD_begin_61 : decode b_MD_begin 61 = .ok (.goto 69, 3) := by decide +kernel
theorem d_MD_begin_64 : decode b_MD_begin 64 = .ok (.iload_n 1, 1) := by decide +kernel
theorem d_MD_begin_65 : decode b_MD_begin 65 = .ok (.bipush 97, 2) := by decide +kernel
theorem d_MD_begin_67 : decode b_MD_begin 67 = .ok (.bipush 102, 2) := by decide +kernel
theorem d_MD_begin_69 : decode b_MD_begin 69 = .ok (.invokestatic 40, 3) := by decide +kernel
theorem d_MD_begin_72 : decode b_MD_begin 72 = .ok (.ifCond .eq 17, 3) := by decide +kernel
theorem d_MD_begin_75 : decode b_MD_begin 75 = .ok (.aload_n 0, 1) := by decide +kernel
theorem d_MD_begin_76 : decode b_MD_begin 76 = .ok (.iload_n 1, 1) := by decide +kernel
theorem d_MD_begin_77 : decode b_MD_begin 77 = .ok (.bipush 97, 2) := by decide +kernel
theorem d_MD_begin_79 : decode b_MD_begin 79 = .ok (.isub, 1) := by decide +kernel
theorem d_MD_begin_80 : decode b_MD_begin 80 = .ok (.invokestatic 58, 3) := by decide +kernel
theorem d_MD_begin_83 : decode b_MD_begin 83 = .ok (.invokevirtual 83, 3) := by decide +kernel
theorem d_MD_begin_86 : decode b_MD_begin 86 = .ok (.goto 44, 3) := by decide +kernel
theorem d_MD_begin_89 : decode b_MD_begin 89 = .ok (.iload_n 1, 1) := by decide +kernel
theorem d_MD_begin_90 : decode b_MD_begin 90 = .ok (.bipush 65, 2) := by decide +kernel
theorem d_MD_begin_92 : decode b_MD_begin 92 = .ok (.bipush 72, 2) := by decide +kernel
theorem d_MD_begin_94 : decode b_MD_begin 94 = .ok (.invokestatic 40, 3) := by decide +kernel
theorem d_MD_begin_97 : decode b_MD_begin 97 = .ok (.ifCond .eq 31, 3) := by decide +kernel
theorem d_MD_begin_100 : decode b_MD_begin 100 = .ok (.aload_n 0, 1) := by decide +kernel
theorem d_MD_begin_101 : decode b_MD_begin 101 = .ok (.getfield 13, 3) := by decide +kernel
theorem d_MD_begin_104 : decode b_MD_begin 104 = .ok (.iload_n 1, 1) := by decide +kernel
theorem d_MD_begin_105 : decode b_MD_begin 105 = .ok (.bipush 65, 2) := by decide +kernel
theorem d_MD_begin_107 : decode b_MD_begin 107 = .ok (.isub, 1) := by decide +kernel
theorem d_MD_begin_108 : decode b_MD_begin 108 = .ok (.baload, 1) := by decide +kernel
theorem d_MD_begin_109 : decode b_MD_begin 109 = .ok (.ifCond .eq 19, 3) := by decide +kernel
theorem d_MD_begin_112 : decode b_MD_begin 112 = .ok (.aload_n 0, 1) := by decide +kernel
theorem d_MD_begin_113 : decode b_MD_begin 113 = .ok (.aload_n 0, 1) := by decide +kernel
theorem d_MD_begin_114 : decode b_MD_begin 114 = .ok (.getfield 7, 3) := by decide +kernel
theorem d_MD_begin_117 : decode b_MD_begin 117 = .ok (.iload_n 1, 1) := by decide +kernel
theorem d_MD_begin_118 : decode b_MD_begin 118 = .ok (.bipush 65, 2) := by decide +kernel
theorem d_MD_begin_120 : decode b_MD_begin 120 = .ok (.isub, 1) := by decide +kernel
theorem d_MD_begin_121 : decode b_MD_begin 121 = .ok (.laload, 1) := by decide +kernel
theorem d_MD_begin_122 : decode b_MD_begin 122 = .ok (.invokevirtual 83, 3) := by decide +kernel
theorem d_MD_begin_125 : decode b_MD_begin 125 = .ok (.goto 5, 3) := by decide +kernel
theorem d_MD_begin_128 : decode b_MD_begin 128 = .ok (.iconst 0, 1) := by decide +kernel
theorem d_MD_begin_129 : decode b_MD_begin 129 = .ok (.ireturn, 1) := by decide +kernel
theorem d_MD_begin_130 : decode b_MD_begin 130 = .ok (.iconst 2, 1) := by decide +kernel
theorem d_MD_begin_131 : decode b_MD_begin 131 = .ok (.ireturn, 1) := by decide +kernel
theorem d_MD_later_0 : decode b_MD_later 0 = .ok (.aload_n 0, 1) := by decide +kernel
theorem d_MD_later_1 : decode b_MD_later 1 = .ok (.getfield 30, 3) := by decide +kernel
theorem d_MD_later_4 : decode b_MD_later 4 = .ok (.aload_n 0, 1) := by decide +kernel
theorem d_MD_later_5 : decode b_MD_later 5 = .ok (.getfield 72, 3) := by decide +kernel
theorem d_MD_later_8 : decode b_MD_later 8 = .ok (.iload_n 1, 1) := by decide +kernel
theorem d_MD_later_9 : decode b_MD_later 9 = .ok (.iastore, 1) := by decide +kernel
theorem d_MD_later_10 : decode b_MD_later 10 = .ok (.aload_n 0, 1) := by decide +kernel
theorem d_MD_later_11 : decode b_MD_later 11 = .ok (.dup, 1) := by decide +kernel
theorem d_MD_later_12 : decode b_MD_later 12 = .ok (.getfield 72, 3) := by decide +kernel
theorem d_MD_later_15 : decode b_MD_later 15 = .ok (.iconst 1, 1) := by decide +kernel
theorem d_MD_later_16 : decode b_MD_later 16 = .ok (.iadd, 1) := by decide +kernel
theorem d_MD_later_17 : decode b_MD_later 17 = .ok (.putfield 72, 3) := by decide +kernel
theorem d_MD_later_20 : decode b_MD_later 20 = .ok (.return_, 1) := by decide +kernel
theorem d_MD_push_0 : decode b_MD_push 0 = .ok (.aload_n 0, 1) := by decide +kernel
theorem d_MD_push_1 : decode b_MD_push 1 = .ok (.getfield 33, 3) := by decide +kernel
theorem d_MD_push_4 : decode b_MD_push 4 = .ok (.aload_n 0, 1) := by decide +kernel
theorem d_MD_push_5 : decode b_MD_push 5 = .ok (.getfield 69, 3) := by decide +kernel
theorem d_MD_push_8 : decode b_MD_push 8 = .ok (.lload_n 1, 1) := by decide +kernel
theorem d_MD_push_9 : decode b_MD_push 9 = .ok (.lastore, 1) := by decide +kernel
theorem d_MD_push_10 : decode b_MD_push 10 = .ok (.aload_n 0, 1) := by decide +kernel
theorem d_MD_push_11 : decode b_MD_push 11 = .ok (.dup, 1) := by decide +kernel
theorem d_MD_push_12 : decode b_MD_push 12 = .ok (.getfield 69, 3) := by decide +kernel
theorem d_MD_push_15 : decode b_MD_push 15 = .ok (.iconst 1, 1) := by decide +kernel
theorem d_MD_push_16 : decode b_MD_push 16 = .ok (.iadd, 1) := by decide +kernel
theorem d_MD_push_17 : decode b_MD_push 17 = .ok (.putfield 69, 3) := by decide +kernel
theorem d_MD_push_20 : decode b_MD_push 20 = .ok (.return_, 1) := by decide +kernel
theorem d_MD_reduce_0 : decode b_MD_reduce 0 = .ok (.aload_n 0, 1) := by decide +kernel
theorem d_MD_reduce_1 : decode b_MD_reduce 1 = .ok (.getfield 72, 3) := by decide +kernel
theorem d_MD_reduce_4 : decode b_MD_reduce 4 = .ok (.ifCond .le 145, 3) := by decide +kernel
theorem d_MD_reduce_7 : decode b_MD_reduce 7 = .ok (.aload_n 0, 1) := by decide +kernel
theorem d_MD_reduce_8 : decode b_MD_reduce 8 = .ok (.getfield 30, 3) := by decide +kernel
theorem d_MD_reduce_11 : decode b_MD_reduce 11 = .ok (.aload_n 0, 1) := by decide +kernel
theorem d_MD_reduce_12 : decode b_MD_reduce 12 = .ok (.getfield 72, 3) := by decide +kernel
theorem d_MD_reduce_15 : decode b_MD_reduce 15 = .ok (.iconst 1, 1) := by decide +kernel
theorem d_MD_reduce_16 : decode b_MD_reduce 16 = .ok (.isub, 1) := by decide +kernel
theorem d_MD_reduce_17 : decode b_MD_reduce 17 = .ok (.iaload, 1) := by decide +kernel
theorem d_MD_reduce_18 : decode b_MD_reduce 18 = .ok (.invokestatic 75, 3) := by decide +kernel
theorem d_MD_reduce_21 : decode b_MD_reduce 21 = .ok (.iload_n 1, 1) := by decide +kernel
theorem d_MD_reduce_22 : decode b_MD_reduce 22 = .ok (.if_icmp .lt 127, 3) := by decide +kernel
theorem d_MD_reduce_25 : decode b_MD_reduce 25 = .ok (.aload_n 0, 1) := by decide +kernel
theorem d_MD_reduce_26 : decode b_MD_reduce 26 = .ok (.dup, 1) := by decide +kernel
theorem d_MD_reduce_27 : decode b_MD_reduce 27 = .ok (.getfield 72, 3) := by decide +kernel
theorem d_MD_reduce_30 : decode b_MD_reduce 30 = .ok (.iconst 1, 1) := by decide +kernel
theorem d_MD_reduce_31 : decode b_MD_reduce 31 = .ok (.isub, 1) := by decide +kernel
theorem d_MD_reduce_32 : decode b_MD_reduce 32 = .ok (.putfield 72, 3) := by decide +kernel
theorem d_MD_reduce_35 : decode b_MD_reduce 35 = .ok (.aload_n 0, 1) := by decide +kernel
theorem d_MD_reduce_36 : decode b_MD_reduce 36 = .ok (.getfield 30, 3) := by decide +kernel
theorem d_MD_reduce_39 : decode b_MD_reduce 39 = .ok (.aload_n 0, 1) := by decide +kernel
theorem d_MD_reduce_40 : decode b_MD_reduce 40 = .ok (.getfield 72, 3) := by decide +kernel
theorem d_MD_reduce_43 : decode b_MD_reduce 43 = .ok (.iaload, 1) := by decide +kernel
theorem d_MD_reduce_44 : decode b_MD_reduce 44 = .ok (.istore_n 2, 1) := by decide +kernel
end
section
theorem d_MD_reduce_45 : decode b_MD_reduce 45 = .ok (.aload_n 0, 1) := by decide +kernel
theorem d_MD_reduce_46 : decode b_MD_reduce 46 = .ok (.getfield 33, 3) := by decide +kernel
theorem d_MD_reduce_49 : decode b_MD_reduce 49 = .ok (.aload_n 0, 1) := by decide +kernel
theorem d_MD_reduce_50 : decode b_MD_reduce 50 = .ok (.getfield 69, 3) := by decide +kernel
theorem d_MD_reduce_53 : decode b_MD_reduce 53 = .ok (.iconst 1, 1) := by decide +kernel
theorem d_MD_reduce_54 : decode b_MD_reduce 54 = .ok (.isub, 1) := by decide +kernel
theorem d_MD_reduce_55 : decode b_MD_reduce 55 = .ok (.laload, 1) := by decide +kernel
theorem d_MD_reduce_56 : decode b_MD_reduce 56 = .ok (.lstore_n 3, 1) := by decide +kernel
theorem d_MD_reduce_57 : decode b_MD_reduce 57 = .ok (.iload_n 2, 1) := by decide +kernel
theorem d_MD_reduce_58 : decode b_MD_reduce 58 = .ok (.bipush 33, 2) := by decide +kernel
theorem d_MD_reduce_60 : decode b_MD_reduce 60 = .ok (.if_icmp .ne 22, 3) := by decide +kernel
theorem d_MD_reduce_63 : decode b_MD_reduce 63 = .ok (.aload_n 0, 1) := by decide +kernel
theorem d_MD_reduce_64 : decode b_MD_reduce 64 = .ok (.getfield 33, 3) := by decide +kernel
theorem d_MD_reduce_67 : decode b_MD_reduce 67 = .ok (.aload_n 0, 1) := by decide +kernel
theorem d_MD_reduce_68 : decode b_MD_reduce 68 = .ok (.getfield 69, 3) := by decide +kernel
theorem d_MD_reduce_71 : decode b_MD_reduce 71 = .ok (.iconst 1, 1) := by decide +kernel
theorem d_MD_reduce_72 : decode b_MD_reduce 72 = .ok (.isub, 1) := by decide +kernel
theorem d_MD_reduce_73 : decode b_MD_reduce 73 = .ok (.lload_n 3, 1) := by decide +kernel
theorem d_MD_reduce_74 : decode b_MD_reduce 74 = .ok (.ldc2_w 52, 3) := by decide +kernel
theorem d_MD_reduce_77 : decode b_MD_reduce 77 = .ok (.lxor, 1) := by decide +kernel
theorem d_MD_reduce_78 : decode b_MD_reduce 78 = .ok (.lastore, 1) := by decide +kernel
theorem d_MD_reduce_79 : decode b_MD_reduce 79 = .ok (.goto 67, 3) := by decide +kernel
theorem d_MD_reduce_82 : decode b_MD_reduce 82 = .ok (.aload_n 0, 1) := by decide +kernel
theorem d_MD_reduce_83 : decode b_MD_reduce 83 = .ok (.dup, 1) := by decide +kernel
theorem d_MD_reduce_84 : decode b_MD_reduce 84 = .ok (.getfield 69, 3) := by decide +kernel
theorem d_MD_reduce_87 : decode b_MD_reduce 87 = .ok (.iconst 1, 1) := by decide +kernel
theorem d_MD_reduce_88 : decode b_MD_reduce 88 = .ok (.isub, 1) := by decide +kernel
theorem d_MD_reduce_89 : decode b_MD_reduce 89 = .ok (.putfield 69, 3) := by decide +kernel
theorem d_MD_reduce_92 : decode b_MD_reduce 92 = .ok (.aload_n 0, 1) := by decide +kernel
theorem d_MD_reduce_93 : decode b_MD_reduce 93 = .ok (.getfield 33, 3) := by decide +kernel
theorem d_MD_reduce_96 : decode b_MD_reduce 96 = .ok (.aload_n 0, 1) := by decide +kernel
theorem d_MD_reduce_97 : decode b_MD_reduce 97 = .ok (.getfield 69, 3) := by decide +kernel
theorem d_MD_reduce_100 : decode b_MD_reduce 100 = .ok (.iconst 1, 1) := by decide +kernel
theorem d_MD_reduce_101 : decode b_MD_reduce 101 = .ok (.isub, 1) := by decide +kernel
theorem d_MD_reduce_102 : decode b_MD_reduce 102 = .ok (.laload, 1) := by decide +kernel
theorem d_MD_reduce_103 : decode b_MD_reduce 103 = .ok (.lstore 5, 2) := by decide +kernel
theorem d_MD_reduce_105 : decode b_MD_reduce 105 = .ok (.aload_n 0, 1) := by decide +kernel
theorem d_MD_reduce_106 : decode b_MD_reduce 106 = .ok (.getfield 33, 3) := by decide +kernel
theorem d_MD_reduce_109 : decode b_MD_reduce 109 = .ok (.aload_n 0, 1) := by decide +kernel
theorem d_MD_reduce_110 : decode b_MD_reduce 110 = .ok (.getfield 69, 3) := by decide +kernel
theorem d_MD_reduce_113 : decode b_MD_reduce 113 = .ok (.iconst 1, 1) := by decide +kernel
theorem d_MD_reduce_114 : decode b_MD_reduce 114 = .ok (.isub, 1) := by decide +kernel
theorem d_MD_reduce_115 : decode b_MD_reduce 115 = .ok (.iload_n 2, 1) := by decide +kernel
theorem d_MD_reduce_116 : decode b_MD_reduce 116 = .ok (.bipush 38, 2) := by decide +kernel
theorem d_MD_reduce_118 : decode b_MD_reduce 118 = .ok (.if_icmp .ne 10, 3) := by decide +kernel
theorem d_MD_reduce_121 : decode b_MD_reduce 121 = .ok (.lload 5, 2) := by decide +kernel
theorem d_MD_reduce_123 : decode b_MD_reduce 123 = .ok (.lload_n 3, 1) := by decide +kernel
theorem d_MD_reduce_124 : decode b_MD_reduce 124 = .ok (.land, 1) := by decide +kernel
theorem d_MD_reduce_125 : decode b_MD_reduce 125 = .ok (.goto 20, 3) := by decide +kernel
theorem d_MD_reduce_128 : decode b_MD_reduce 128 = .ok (.iload_n 2, 1) := by decide +kernel
theorem d_MD_reduce_129 : decode b_MD_reduce 129 = .ok (.bipush 94, 2) := by decide +kernel
theorem d_MD_reduce_131 : decode b_MD_reduce 131 = .ok (.if_icmp .ne 10, 3) := by decide +kernel
theorem d_MD_reduce_134 : decode b_MD_reduce 134 = .ok (.lload 5, 2) := by decide +kernel
theorem d_MD_reduce_136 : decode b_MD_reduce 136 = .ok (.lload_n 3, 1) := by decide +kernel
theorem d_MD_reduce_137 : decode b_MD_reduce 137 = .ok (.lxor, 1) := by decide +kernel
theorem d_MD_reduce_138 : decode b_MD_reduce 138 = .ok (.goto 7, 3) := by decide +kernel
theorem d_MD_reduce_141 : decode b_MD_reduce 141 = .ok (.lload 5, 2) := by decide +kernel
theorem d_MD_reduce_143 : decode b_MD_reduce 143 = .ok (.lload_n 3, 1) := by decide +kernel
theorem d_MD_reduce_144 : decode b_MD_reduce 144 = .ok (.lor, 1) := by decide +kernel
theorem d_MD_reduce_145 : decode b_MD_reduce 145 = .ok (.lastore, 1) := by decide +kernel
theorem d_MD_reduce_146 : decode b_MD_reduce 146 = .ok (.goto (-146), 3) := by decide +kernel
theorem d_MD_reduce_149 : decode b_MD_reduce 149 = .ok (.return_, 1) := by decide +kernel
theorem d_MD_strength_0 : decode b_MD_strength 0 = .ok (.iload_n 0, 1) := by decide +kernel
theorem d_MD_strength_1 : decode b_MD_strength 1 = .ok (.bipush 33, 2) := by decide +kernel
theorem d_MD_strength_3 : decode b_MD_strength 3 = .ok (.if_icmp .ne 7, 3) := by decide +kernel
theorem d_MD_strength_6 : decode b_MD_strength 6 = .ok (.iconst 4, 1) := by decide +kernel
theorem d_MD_strength_7 : decode b_MD_strength 7 = .ok (.goto 34, 3) := by decide +kernel
theorem d_MD_strength_10 : decode b_MD_strength 10 = .ok (.iload_n 0, 1) := by decide +kernel
theorem d_MD_strength_11 : decode b_MD_strength 11 = .ok (.bipush 38, 2) := by decide +kernel
theorem d_MD_strength_13 : decode b_MD_strength 13 = .ok (.if_icmp .ne 7, 3) := by decide +kernel
theorem d_MD_strength_16 : decode b_MD_strength 16 = .ok (.iconst 3, 1) := by decide +kernel
theorem d_MD_strength_17 : decode b_MD_strength 17 = .ok (.goto 24, 3) := by decide +kernel
theorem d_MD_strength_20 : decode b_MD_strength 20 = .ok (.iload_n 0, 1) := by decide +kernel
theorem d_MD_strength_21 : decode b_MD_strength 21 = .ok (.bipush 94, 2) := by decide +kernel
theorem d_MD_strength_23 : decode b_MD_strength 23 = .ok (.if_icmp .ne 7, 3) := by decide +kernel
theorem d_MD_strength_26 : decode b_MD_strength 26 = .ok (.iconst 2, 1) := by decide +kernel
theorem d_MD_strength_27 : decode b_MD_strength 27 = .ok (.goto 14, 3) := by decide +kernel
theorem d_MD_strength_30 : decode b_MD_strength 30 = .ok (.iload_n 0, 1) := by decide +kernel
theorem d_MD_strength_31 : decode b_MD_strength 31 = .ok (.bipush 124, 2) := by decide +kernel
theorem d_MD_strength_33 : decode b_MD_strength 33 = .ok (.if_icmp .ne 7, 3) := by decide +kernel
theorem d_MD_strength_36 : decode b_MD_strength 36 = .ok (.iconst 1, 1) := by decide +kernel
theorem d_MD_strength_37 : decode b_MD_strength 37 = .ok (.goto 4, 3) := by decide +kernel
theorem d_MD_strength_40 : decode b_MD_strength 40 = .ok (.iconst 0, 1) := by decide +kernel
theorem d_MD_strength_41 : decode b_MD_strength 41 = .ok (.ireturn, 1) := by decide +kernel
theorem d_MD_equal_0 : decode b_MD_equal 0 = .ok (.aload_n 0, 1) := by decide +kernel
theorem d_MD_equal_1 : decode b_MD_equal 1 = .ok (.iload_n 1, 1) := by decide +kernel
theorem d_MD_equal_2 : decode b_MD_equal 2 = .ok (.invokestatic 54, 3) := by decide +kernel
theorem d_MD_equal_5 : decode b_MD_equal 5 = .ok (.ifCond .eq 10, 3) := by decide +kernel
theorem d_MD_equal_8 : decode b_MD_equal 8 = .ok (.iload_n 2, 1) := by decide +kernel
theorem d_MD_equal_9 : decode b_MD_equal 9 = .ok (.invokestatic 54, 3) := by decide +kernel
theorem d_MD_equal_12 : decode b_MD_equal 12 = .ok (.ifCond .ne 7, 3) := by decide +kernel
theorem d_MD_equal_15 : decode b_MD_equal 15 = .ok (.iconst 1, 1) := by decide +kernel
theorem d_MD_equal_16 : decode b_MD_equal 16 = .ok (.goto 26, 3) := by decide +kernel
theorem d_MD_equal_19 : decode b_MD_equal 19 = .ok (.aload_n 0, 1) := by decide +kernel
theorem d_MD_equal_20 : decode b_MD_equal 20 = .ok (.getfield 13, 3) := by decide +kernel
theorem d_MD_equal_23 : decode b_MD_equal 23 = .ok (.iload_n 1, 1) := by decide +kernel
theorem d_MD_equal_24 : decode b_MD_equal 24 = .ok (.baload, 1) := by decide +kernel
theorem d_MD_equal_25 : decode b_MD_equal 25 = .ok (.ifCond .eq 16, 3) := by decide +kernel
theorem d_MD_equal_28 : decode b_MD_equal 28 = .ok (.aload_n 0, 1) := by decide +kernel
theorem d_MD_equal_29 : decode b_MD_equal 29 = .ok (.getfield 13, 3) := by decide +kernel
theorem d_MD_equal_32 : decode b_MD_equal 32 = .ok (.iload_n 2, 1) := by decide +kernel
theorem d_MD_equal_33 : decode b_MD_equal 33 = .ok (.baload, 1) := by decide +kernel
theorem d_MD_equal_34 : decode b_MD_equal 34 = .ok (.ifCond .eq 7, 3) := by decide +kernel
theorem d_MD_equal_37 : decode b_MD_equal 37 = .ok (.iconst 0, 1) := by decide +kernel
theorem d_MD_equal_38 : decode b_MD_equal 38 = .ok (.goto 4, 3) := by decide +kernel
theorem d_MD_equal_41 : decode b_MD_equal 41 = .ok (.iconst 2, 1) := by decide +kernel
theorem d_MD_equal_42 : decode b_MD_equal 42 = .ok (.putfield 36, 3) := by decide +kernel
theorem d_MD_equal_45 : decode b_MD_equal 45 = .ok (.aload_n 0, 1) := by decide +kernel
theorem d_MD_equal_46 : decode b_MD_equal 46 = .ok (.getfield 36, 3) := by decide +kernel
theorem d_MD_equal_49 : decode b_MD_equal 49 = .ok (.ifCond .ne 23, 3) := by decide +kernel
theorem d_MD_equal_52 : decode b_MD_equal 52 = .ok (.aload_n 0, 1) := by decide +kernel
theorem d_MD_equal_53 : decode b_MD_equal 53 = .ok (.getfield 7, 3) := by decide +kernel
theorem d_MD_equal_56 : decode b_MD_equal 56 = .ok (.iload_n 1, 1) := by decide +kernel
theorem d_MD_equal_57 : decode b_MD_equal 57 = .ok (.laload, 1) := by decide +kernel
theorem d_MD_equal_58 : decode b_MD_equal 58 = .ok (.aload_n 0, 1) := by decide +kernel
theorem d_MD_equal_59 : decode b_MD_equal 59 = .ok (.getfield 7, 3) := by decide +kernel
theorem d_MD_equal_62 : decode b_MD_equal 62 = .ok (.iload_n 2, 1) := by decide +kernel
theorem d_MD_equal_63 : decode b_MD_equal 63 = .ok (.laload, 1) := by decide +kernel
theorem d_MD_equal_64 : decode b_MD_equal 64 = .ok (.lcmp, 1) := by decide +kernel
theorem d_MD_equal_65 : decode b_MD_equal 65 = .ok (.ifCond .ne 7, 3) := by decide +kernel
theorem d_MD_equal_68 : decode b_MD_equal 68 = .ok (.iconst 1, 1) := by decide +kernel
theorem d_MD_equal_69 : decode b_MD_equal 69 = .ok (.goto 4, 3) := by decide +kernel
theorem d_MD_equal_72 : decode b_MD_equal 72 = .ok (.iconst 0, 1) := by decide +kernel
theorem d_MD_equal_73 : decode b_MD_equal 73 = .ok (.ireturn, 1) := by decide +kernel
theorem d_MD_value_0 : decode b_MD_value 0 = .ok (.aload_n 0, 1) := by decide +kernel
theorem d_MD_value_1 : decode b_MD_value 1 = .ok (.iload_n 1, 1) := by decide +kernel
theorem d_MD_value_2 : decode b_MD_value 2 = .ok (.invokestatic 54, 3) := by decide +kernel
theorem d_MD_value_5 : decode b_MD_value 5 = .ok (.ifCond .eq 13, 3) := by decide +kernel
theorem d_MD_value_8 : decode b_MD_value 8 = .ok (.iload_n 2, 1) := by decide +kernel
theorem d_MD_value_9 : decode b_MD_value 9 = .ok (.iconst 0, 1) := by decide +kernel
theorem d_MD_value_10 : decode b_MD_value 10 = .ok (.bipush 63, 2) := by decide +kernel
theorem d_MD_value_12 : decode b_MD_value 12 = .ok (.invokestatic 40, 3) := by decide +kernel
theorem d_MD_value_15 : decode b_MD_value 15 = .ok (.ifCond .ne 7, 3) := by decide +kernel
theorem d_MD_value_18 : decode b_MD_value 18 = .ok (.iconst 1, 1) := by decide +kernel
theorem d_MD_value_19 : decode b_MD_value 19 = .ok (.goto 17, 3) := by decide +kernel
theorem d_MD_value_22 : decode b_MD_value 22 = .ok (.aload_n 0, 1) := by decide +kernel
theorem d_MD_value_23 : decode b_MD_value 23 = .ok (.getfield 13, 3) := by decide +kernel
theorem d_MD_value_26 : decode b_MD_value 26 = .ok (.iload_n 1, 1) := by decide +kernel
theorem d_MD_value_27 : decode b_MD_value 27 = .ok (.baload, 1) := by decide +kernel
theorem d_MD_value_28 : decode b_MD_value 28 = .ok (.ifCond .eq 7, 3) := by decide +kernel
theorem d_MD_value_31 : decode b_MD_value 31 = .ok (.iconst 0, 1) := by decide +kernel
theorem d_MD_value_32 : decode b_MD_value 32 = .ok (.goto 4, 3) := by decide +kernel
theorem d_MD_value_35 : decode b_MD_value 35 = .ok (.iconst 2, 1) := by decide +kernel
theorem d_MD_value_36 : decode b_MD_value 36 = .ok (.putfield 36, 3) := by decide +kernel
theorem d_MD_value_39 : decode b_MD_value 39 = .ok (.aload_n 0, 1) := by decide +kernel
theorem d_MD_value_40 : decode b_MD_value 40 = .ok (.getfield 36, 3) := by decide +kernel
theorem d_MD_value_43 : decode b_MD_value 43 = .ok (.ifCond .ne 20, 3) := by decide +kernel
theorem d_MD_value_46 : decode b_MD_value 46 = .ok (.aload_n 0, 1) := by decide +kernel
theorem d_MD_value_47 : decode b_MD_value 47 = .ok (.getfield 7, 3) := by decide +kernel
theorem d_MD_value_50 : decode b_MD_value 50 = .ok (.iload_n 1, 1) := by decide +kernel
theorem d_MD_value_51 : decode b_MD_value 51 = .ok (.laload, 1) := by decide +kernel
theorem d_MD_value_52 : decode b_MD_value 52 = .ok (.iload_n 2, 1) := by decide +kernel
theorem d_MD_value_53 : decode b_MD_value 53 = .ok (.invokestatic 44, 3) := by decide +kernel
theorem d_MD_value_56 : decode b_MD_value 56 = .ok (.ifCond .eq 7, 3) := by decide +kernel
theorem d_MD_value_59 : decode b_MD_value 59 = .ok (.iconst 1, 1) := by decide +kernel
theorem d_MD_value_60 : decode b_MD_value 60 = .ok (.goto 4, 3) := by decide +kernel
theorem d_MD_value_63 : decode b_MD_value 63 = .ok (.iconst 0, 1) := by decide +kernel
theorem d_MD_value_64 : decode b_MD_value 64 = .ok (.ireturn, 1) := by decide +kernel
theorem d_MD_count_0 : decode b_MD_count 0 = .ok (.aload_n 0, 1) := by decide +kernel
theorem d_MD_count_1 : decode b_MD_count 1 = .ok (.aload_n 0, 1) := by decide +kernel
theorem d_MD_count_2 : decode b_MD_count 2 = .ok (.iload_n 1, 1) := by decide +kernel
theorem d_MD_count_3 : decode b_MD_count 3 = .ok (.invokevirtual 94, 3) := by decide +kernel
theorem d_MD_count_6 : decode b_MD_count 6 = .ok (.putfield 36, 3) := by decide +kernel
theorem d_MD_count_9 : decode b_MD_count 9 = .ok (.iconst 0, 1) := by decide +kernel
theorem d_MD_count_10 : decode b_MD_count 10 = .ok (.istore_n 2, 1) := by decide +kernel
theorem d_MD_count_11 : decode b_MD_count 11 = .ok (.iconst 0, 1) := by decide +kernel
theorem d_MD_count_12 : decode b_MD_count 12 = .ok (.istore_n 3, 1) := by decide +kernel
theorem d_MD_count_13 : decode b_MD_count 13 = .ok (.iload_n 3, 1) := by decide +kernel
theorem d_MD_count_14 : decode b_MD_count 14 = .ok (.bipush 64, 2) := by decide +kernel
theorem d_MD_count_16 : decode b_MD_count 16 = .ok (.if_icmp .ge 37, 3) := by decide +kernel
theorem d_MD_count_19 : decode b_MD_count 19 = .ok (.aload_n 0, 1) := by decide +kernel
theorem d_MD_count_20 : decode b_MD_count 20 = .ok (.getfield 36, 3) := by decide +kernel
theorem d_MD_count_23 : decode b_MD_count 23 = .ok (.ifCond .ne 30, 3) := by decide +kernel
theorem d_MD_count_26 : decode b_MD_count 26 = .ok (.aload_n 0, 1) := by decide +kernel
theorem d_MD_count_27 : decode b_MD_count 27 = .ok (.getfield 7, 3) := by decide +kernel
theorem d_MD_count_30 : decode b_MD_count 30 = .ok (.iload_n 1, 1) := by decide +kernel
theorem d_MD_count_31 : decode b_MD_count 31 = .ok (.laload, 1) := by decide +kernel
theorem d_MD_count_32 : decode b_MD_count 32 = .ok (.iload_n 3, 1) := by decide +kernel
theorem d_MD_count_33 : decode b_MD_count 33 = .ok (.invokestatic 44, 3) := by decide +kernel
theorem d_MD_count_36 : decode b_MD_count 36 = .ok (.ifCond .eq 9, 3) := by decide +kernel
theorem d_MD_count_39 : decode b_MD_count 39 = .ok (.iload_n 2, 1) := by decide +kernel
theorem d_MD_count_40 : decode b_MD_count 40 = .ok (.iconst 1, 1) := by decide +kernel
theorem d_MD_count_41 : decode b_MD_count 41 = .ok (.iadd, 1) := by decide +kernel
theorem d_MD_count_42 : decode b_MD_count 42 = .ok (.goto 4, 3) := by decide +kernel
theorem d_MD_count_45 : decode b_MD_count 45 = .ok (.iload_n 2, 1) := by decide +kernel
theorem d_MD_count_46 : decode b_MD_count 46 = .ok (.istore_n 2, 1) := by decide +kernel
theorem d_MD_count_47 : decode b_MD_count 47 = .ok (.iinc 3 1, 3) := by decide +kernel
theorem d_MD_count_50 : decode b_MD_count 50 = .ok (.goto (-37), 3) := by decide +kernel
theorem d_MD_count_53 : decode b_MD_count 53 = .ok (.iload_n 2, 1) := by decide +kernel
theorem d_MD_count_54 : decode b_MD_count 54 = .ok (.ireturn, 1) := by decide +kernel
theorem d_MD_lack_0 : decode b_MD_lack 0 = .ok (.iload_n 1, 1) := by decide +kernel
theorem d_MD_lack_1 : decode b_MD_lack 1 = .ok (.invokestatic 54, 3) := by decide +kernel
theorem d_MD_lack_4 : decode b_MD_lack 4 = .ok (.ifCond .ne 7, 3) := by decide +kernel
theorem d_MD_lack_7 : decode b_MD_lack 7 = .ok (.iconst 1, 1) := by decide +kernel
theorem d_MD_lack_8 : decode b_MD_lack 8 = .ok (.goto 17, 3) := by decide +kernel
theorem d_MD_lack_11 : decode b_MD_lack 11 = .ok (.aload_n 0, 1) := by decide +kernel
theorem d_MD_lack_12 : decode b_MD_lack 12 = .ok (.getfield 13, 3) := by decide +kernel
theorem d_MD_lack_15 : decode b_MD_lack 15 = .ok (.iload_n 1, 1) := by decide +kernel
theorem d_MD_lack_16 : decode b_MD_lack 16 = .ok (.baload, 1) := by decide +kernel
theorem d_MD_lack_17 : decode b_MD_lack 17 = .ok (.ifCond .eq 7, 3) := by decide +kernel
theorem d_MD_lack_20 : decode b_MD_lack 20 = .ok (.iconst 0, 1) := by decide +kernel
theorem d_MD_lack_21 : decode b_MD_lack 21 = .ok (.goto 4, 3) := by decide +kernel
theorem d_MD_lack_24 : decode b_MD_lack 24 = .ok (.iconst 2, 1) := by decide +kernel
theorem d_MD_lack_25 : decode b_MD_lack 25 = .ok (.ireturn, 1) := by decide +kernel
theorem d_MD_least_0 : decode b_MD_least 0 = .ok (.aload_n 0, 1) := by decide +kernel
theorem d_MD_least_1 : decode b_MD_least 1 = .ok (.aload_n 0, 1) := by decide +kernel
theorem d_MD_least_2 : decode b_MD_least 2 = .ok (.iload_n 1, 1) := by decide +kernel
theorem d_MD_least_3 : decode b_MD_least 3 = .ok (.invokevirtual 94, 3) := by decide +kernel
theorem d_MD_least_6 : decode b_MD_least 6 = .ok (.putfield 36, 3) := by decide +kernel
theorem d_MD_least_9 : decode b_MD_least 9 = .ok (.iconst 0, 1) := by decide +kernel
theorem d_MD_least_10 : decode b_MD_least 10 = .ok (.istore_n 2, 1) := by decide +kernel
theorem d_MD_least_11 : decode b_MD_least 11 = .ok (.iload_n 2, 1) := by decide +kernel
theorem d_MD_least_12 : decode b_MD_least 12 = .ok (.bipush 64, 2) := by decide +kernel
theorem d_MD_least_14 : decode b_MD_least 14 = .ok (.if_icmp .ge 31, 3) := by decide +kernel
theorem d_MD_least_17 : decode b_MD_least 17 = .ok (.aload_n 0, 1) := by decide +kernel
theorem d_MD_least_18 : decode b_MD_least 18 = .ok (.getfield 36, 3) := by decide +kernel
theorem d_MD_least_21 : decode b_MD_least 21 = .ok (.ifCond .ne 24, 3) := by decide +kernel
theorem d_MD_least_24 : decode b_MD_least 24 = .ok (.aload_n 0, 1) := by decide +kernel
theorem d_MD_least_25 : decode b_MD_least 25 = .ok (.getfield 7, 3) := by decide +kernel
theorem d_MD_least_28 : decode b_MD_least 28 = .ok (.iload_n 1, 1) := by decide +kernel
theorem d_MD_least_29 : decode b_MD_least 29 = .ok (.laload, 1) := by decide +kernel
theorem d_MD_least_30 : decode b_MD_least 30 = .ok (.iload_n 2, 1) := by decide +kernel
theorem d_MD_least_31 : decode b_MD_least 31 = .ok (.invokestatic 44, 3) := by decide +kernel
theorem d_MD_least_34 : decode b_MD_least 34 = .ok (.ifCond .eq 5, 3) := by decide +kernel
theorem d_MD_least_37 : decode b_MD_least 37 = .ok (.iload_n 2, 1) := by decide +kernel
theorem d_MD_least_38 : decode b_MD_least 38 = .ok (.ireturn, 1) := by decide +kernel
theorem d_MD_least_39 : decode b_MD_least 39 = .ok (.iinc 2 1, 3) := by decide +kernel
theorem d_MD_least_42 : decode b_MD_least 42 = .ok (.goto (-31), 3) := by decide +kernel
theorem d_MD_least_45 : decode b_MD_least 45 = .ok (.aload_n 0, 1) := by decide +kernel
theorem d_MD_least_46 : decode b_MD_least 46 = .ok (.getfield 36, 3) := by decide +kernel
theorem d_MD_least_49 : decode b_MD_least 49 = .ok (.ifCond .ne 7, 3) := by decide +kernel
theorem d_MD_least_52 : decode b_MD_least 52 = .ok (.iconst (-1), 1) := by decide +kernel
theorem d_MD_least_53 : decode b_MD_least 53 = .ok (.goto 4, 3) := by decide +kernel
theorem d_MD_least_56 : decode b_MD_least 56 = .ok (.iconst 0, 1) := by decide +kernel
theorem d_MD_least_57 : decode b_MD_least 57 = .ok (.ireturn, 1) := by decide +kernel
theorem d_MD_support_0 : decode b_MD_support 0 = .ok (.aload_n 0, 1) := by decide +kernel
theorem d_MD_support_1 : decode b_MD_support 1 = .ok (.aload_n 0, 1) := by decide +kernel
theorem d_MD_support_2 : decode b_MD_support 2 = .ok (.iload_n 1, 1) := by decide +kernel
theorem d_MD_support_3 : decode b_MD_support 3 = .ok (.invokevirtual 94, 3) := by decide +kernel
theorem d_MD_support_6 : decode b_MD_support 6 = .ok (.putfield 36, 3) := by decide +kernel
theorem d_MD_support_9 : decode b_MD_support 9 = .ok (.iconst 0, 1) := by decide +kernel
theorem d_MD_support_10 : decode b_MD_support 10 = .ok (.istore_n 2, 1) := by decide +kernel
theorem d_MD_support_11 : decode b_MD_support 11 = .ok (.iconst 0, 1) := by decide +kernel
theorem d_MD_support_12 : decode b_MD_support 12 = .ok (.istore_n 3, 1) := by decide +kernel
theorem d_MD_support_13 : decode b_MD_support 13 = .ok (.iload_n 3, 1) := by decide +kernel
theorem d_MD_support_14 : decode b_MD_support 14 = .ok (.bipush 6, 2) := by decide +kernel
theorem d_MD_support_16 : decode b_MD_support 16 = .ok (.if_icmp .ge 39, 3) := by decide +kernel
theorem d_MD_support_19 : decode b_MD_support 19 = .ok (.aload_n 0, 1) := by decide +kernel
theorem d_MD_support_20 : decode b_MD_support 20 = .ok (.getfield 36, 3) := by decide +kernel
theorem d_MD_support_23 : decode b_MD_support 23 = .ok (.ifCond .ne 32, 3) := by decide +kernel
theorem d_MD_support_26 : decode b_MD_support 26 = .ok (.aload_n 0, 1) := by decide +kernel
theorem d_MD_support_27 : decode b_MD_support 27 = .ok (.getfield 7, 3) := by decide +kernel
theorem d_MD_support_30 : decode b_MD_support 30 = .ok (.iload_n 1, 1) := by decide +kernel
theorem d_MD_support_31 : decode b_MD_support 31 = .ok (.laload, 1) := by decide +kernel
theorem d_MD_support_32 : decode b_MD_support 32 = .ok (.iload_n 3, 1) := by decide +kernel
theorem d_MD_support_33 : decode b_MD_support 33 = .ok (.invokestatic 97, 3) := by decide +kernel
theorem d_MD_support_36 : decode b_MD_support 36 = .ok (.ifCond .eq 11, 3) := by decide +kernel
theorem d_MD_support_39 : decode b_MD_support 39 = .ok (.iload_n 2, 1) := by decide +kernel
theorem d_MD_support_40 : decode b_MD_support 40 = .ok (.iconst 1, 1) := by decide +kernel
theorem d_MD_support_41 : decode b_MD_support 41 = .ok (.iload_n 3, 1) := by decide +kernel
theorem d_MD_support_42 : decode b_MD_support 42 = .ok (.ishl, 1) := by decide +kernel
theorem d_MD_support_43 : decode b_MD_support 43 = .ok (.ior, 1) := by decide +kernel
theorem d_MD_support_44 : decode b_MD_support 44 = .ok (.goto 4, 3) := by decide +kernel
theorem d_MD_support_47 : decode b_MD_support 47 = .ok (.iload_n 2, 1) := by decide +kernel
theorem d_MD_support_48 : decode b_MD_support 48 = .ok (.istore_n 2, 1) := by decide +kernel
theorem d_MD_support_49 : decode b_MD_support 49 = .ok (.iinc 3 1, 3) := by decide +kernel
theorem d_MD_support_52 : decode b_MD_support 52 = .ok (.goto (-39), 3) := by decide +kernel
theorem d_MD_support_55 : decode b_MD_support 55 = .ok (.iload_n 2, 1) := by decide +kernel
theorem d_MD_support_56 : decode b_MD_support 56 = .ok (.ireturn, 1) := by decide +kernel
theorem d_MD_depends_0 : decode b_MD_depends 0 = .ok (.lload_n 0, 1) := by decide +kernel
theorem d_MD_depends_1 : decode b_MD_depends 1 = .ok (.iload_n 2, 1) := by decide +kernel
theorem d_MD_depends_2 : decode b_MD_depends 2 = .ok (.lconst 0, 1) := by decide +kernel
theorem d_MD_depends_3 : decode b_MD_depends 3 = .ok (.invokestatic 48, 3) := by decide +kernel
theorem d_MD_depends_6 : decode b_MD_depends 6 = .ok (.lload_n 0, 1) := by decide +kernel
theorem d_MD_depends_7 : decode b_MD_depends 7 = .ok (.iload_n 2, 1) := by decide +kernel
theorem d_MD_depends_8 : decode b_MD_depends 8 = .ok (.ldc2_w 52, 3) := by decide +kernel
theorem d_MD_depends_11 : decode b_MD_depends 11 = .ok (.invokestatic 48, 3) := by decide +kernel
theorem d_MD_depends_14 : decode b_MD_depends 14 = .ok (.lcmp, 1) := by decide +kernel
theorem d_MD_depends_15 : decode b_MD_depends 15 = .ok (.ifCond .eq 7, 3) := by decide +kernel
theorem d_MD_depends_18 : decode b_MD_depends 18 = .ok (.iconst 1, 1) := by decide +kernel
theorem d_MD_depends_19 : decode b_MD_depends 19 = .ok (.goto 4, 3) := by decide +kernel
theorem d_MD_depends_22 : decode b_MD_depends 22 = .ok (.iconst 0, 1) := by decide +kernel
theorem d_MD_depends_23 : decode b_MD_depends 23 = .ok (.ireturn, 1) := by decide +kernel
theorem d_MD_size_0 : decode b_MD_size 0 = .ok (.aload_n 0, 1) := by decide +kernel
theorem d_MD_size_1 : decode b_MD_size 1 = .ok (.aload_n 0, 1) := by decide +kernel
theorem d_MD_size_2 : decode b_MD_size 2 = .ok (.iload_n 1, 1) := by decide +kernel
theorem d_MD_size_3 : decode b_MD_size 3 = .ok (.invokevirtual 94, 3) := by decide +kernel
theorem d_MD_size_6 : decode b_MD_size 6 = .ok (.putfield 36, 3) := by decide +kernel
theorem d_MD_size_9 : decode b_MD_size 9 = .ok (.iconst 0, 1) := by decide +kernel
theorem d_MD_size_10 : decode b_MD_size 10 = .ok (.istore_n 2, 1) := by decide +kernel
theorem d_MD_size_11 : decode b_MD_size 11 = .ok (.iconst 0, 1) := by decide +kernel
theorem d_MD_size_12 : decode b_MD_size 12 = .ok (.istore_n 3, 1) := by decide +kernel
theorem d_MD_size_13 : decode b_MD_size 13 = .ok (.iload_n 3, 1) := by decide +kernel
theorem d_MD_size_14 : decode b_MD_size 14 = .ok (.bipush 6, 2) := by decide +kernel
theorem d_MD_size_16 : decode b_MD_size 16 = .ok (.if_icmp .ge 39, 3) := by decide +kernel
theorem d_MD_size_19 : decode b_MD_size 19 = .ok (.aload_n 0, 1) := by decide +kernel
theorem d_MD_size_20 : decode b_MD_size 20 = .ok (.getfield 36, 3) := by decide +kernel
theorem d_MD_size_23 : decode b_MD_size 23 = .ok (.ifCond .ne 32, 3) := by decide +kernel
theorem d_MD_size_26 : decode b_MD_size 26 = .ok (.aload_n 0, 1) := by decide +kernel
theorem d_MD_size_27 : decode b_MD_size 27 = .ok (.iconst 0, 1) := by decide +kernel
theorem d_MD_size_28 : decode b_MD_size 28 = .ok (.putfield 100, 3) := by decide +kernel
theorem d_MD_size_31 : decode b_MD_size 31 = .ok (.aload_n 0, 1) := by decide +kernel
theorem d_MD_size_32 : decode b_MD_size 32 = .ok (.aload_n 0, 1) := by decide +kernel
theorem d_MD_size_33 : decode b_MD_size 33 = .ok (.getfield 7, 3) := by decide +kernel
theorem d_MD_size_36 : decode b_MD_size 36 = .ok (.iload_n 1, 1) := by decide +kernel
theorem d_MD_size_37 : decode b_MD_size 37 = .ok (.laload, 1) := by decide +kernel
theorem d_MD_size_38 : decode b_MD_size 38 = .ok (.iload_n 3, 1) := by decide +kernel
theorem d_MD_size_39 : decode b_MD_size 39 = .ok (.invokevirtual 106, 3) := by decide +kernel
theorem d_MD_size_42 : decode b_MD_size 42 = .ok (.iload_n 2, 1) := by decide +kernel
theorem d_MD_size_43 : decode b_MD_size 43 = .ok (.aload_n 0, 1) := by decide +kernel
theorem d_MD_size_44 : decode b_MD_size 44 = .ok (.getfield 100, 3) := by decide +kernel
theorem d_MD_size_47 : decode b_MD_size 47 = .ok (.iadd, 1) := by decide +kernel
theorem d_MD_size_48 : decode b_MD_size 48 = .ok (.istore_n 2, 1) := by decide +kernel
theorem d_MD_size_49 : decode b_MD_size 49 = .ok (.iinc 3 1, 3) := by decide +kernel
theorem d_MD_size_52 : decode b_MD_size 52 = .ok (.goto (-39), 3) := by decide +kernel
theorem d_MD_size_55 : decode b_MD_size 55 = .ok (.iload_n 2, 1) := by decide +kernel
theorem d_MD_size_56 : decode b_MD_size 56 = .ok (.ireturn, 1) := by decide +kernel
theorem d_MD_findAll_0 : decode b_MD_findAll 0 = .ok (.iconst 0, 1) := by decide +kernel
theorem d_MD_findAll_1 : decode b_MD_findAll 1 = .ok (.istore 4, 2) := by decide +kernel
theorem d_MD_findAll_3 : decode b_MD_findAll 3 = .ok (.iload 4, 2) := by decide +kernel
theorem d_MD_findAll_5 : decode b_MD_findAll 5 = .ok (.iconst 1, 1) := by decide +kernel
theorem d_MD_findAll_6 : decode b_MD_findAll 6 = .ok (.iload_n 3, 1) := by decide +kernel
theorem d_MD_findAll_7 : decode b_MD_findAll 7 = .ok (.ishl, 1) := by decide +kernel
theorem d_MD_findAll_8 : decode b_MD_findAll 8 = .ok (.if_icmp .ge 79, 3) := by decide +kernel
theorem d_MD_findAll_11 : decode b_MD_findAll 11 = .ok (.lload_n 1, 1) := by decide +kernel
theorem d_MD_findAll_12 : decode b_MD_findAll 12 = .ok (.lstore 5, 2) := by decide +kernel
theorem d_MD_findAll_14 : decode b_MD_findAll 14 = .ok (.iconst 0, 1) := by decide +kernel
theorem d_MD_findAll_15 : decode b_MD_findAll 15 = .ok (.istore 7, 2) := by decide +kernel
theorem d_MD_findAll_17 : decode b_MD_findAll 17 = .ok (.iload 7, 2) := by decide +kernel
theorem d_MD_findAll_19 : decode b_MD_findAll 19 = .ok (.iload_n 3, 1) := by decide +kernel
theorem d_MD_findAll_20 : decode b_MD_findAll 20 = .ok (.if_icmp .ge 41, 3) := by decide +kernel
theorem d_MD_findAll_23 : decode b_MD_findAll 23 = .ok (.lload 5, 2) := by decide +kernel
theorem d_MD_findAll_25 : decode b_MD_findAll 25 = .ok (.aload_n 0, 1) := by decide +kernel
theorem d_MD_findAll_26 : decode b_MD_findAll 26 = .ok (.getfield 17, 3) := by decide +kernel
theorem d_MD_findAll_29 : decode b_MD_findAll 29 = .ok (.iload 7, 2) := by decide +kernel
theorem d_MD_findAll_31 : decode b_MD_findAll 31 = .ok (.iaload, 1) := by decide +kernel
theorem d_MD_findAll_32 : decode b_MD_findAll 32 = .ok (.iload 4, 2) := by decide +kernel
theorem d_MD_findAll_34 : decode b_MD_findAll 34 = .ok (.iload 7, 2) := by decide +kernel
theorem d_MD_findAll_36 : decode b_MD_findAll 36 = .ok (.ishr, 1) := by decide +kernel
theorem d_MD_findAll_37 : decode b_MD_findAll 37 = .ok (.iconst 1, 1) := by decide +kernel
theorem d_MD_findAll_38 : decode b_MD_findAll 38 = .ok (.iand, 1) := by decide +kernel
theorem d_MD_findAll_39 : decode b_MD_findAll 39 = .ok (.iconst 1, 1) := by decide +kernel
theorem d_MD_findAll_40 : decode b_MD_findAll 40 = .ok (.if_icmp .ne 9, 3) := by decide +kernel
theorem d_MD_findAll_43 : decode b_MD_findAll 43 = .ok (.ldc2_w 52, 3) := by decide +kernel
theorem d_MD_findAll_46 : decode b_MD_findAll 46 = .ok (.goto 4, 3) := by decide +kernel
theorem d_MD_findAll_49 : decode b_MD_findAll 49 = .ok (.lconst 0, 1) := by decide +kernel
theorem d_MD_findAll_50 : decode b_MD_findAll 50 = .ok (.invokestatic 48, 3) := by decide +kernel
theorem d_MD_findAll_53 : decode b_MD_findAll 53 = .ok (.lstore 5, 2) := by decide +kernel
theorem d_MD_findAll_55 : decode b_MD_findAll 55 = .ok (.iinc 7 1, 3) := by decide +kernel
theorem d_MD_findAll_58 : decode b_MD_findAll 58 = .ok (.goto (-41), 3) := by decide +kernel
theorem d_MD_findAll_61 : decode b_MD_findAll 61 = .ok (.lload 5, 2) := by decide +kernel
theorem d_MD_findAll_63 : decode b_MD_findAll 63 = .ok (.aload_n 0, 1) := by decide +kernel
theorem d_MD_findAll_64 : decode b_MD_findAll 64 = .ok (.getfield 17, 3) := by decide +kernel
theorem d_MD_findAll_67 : decode b_MD_findAll 67 = .ok (.iload_n 3, 1) := by decide +kernel
theorem d_MD_findAll_68 : decode b_MD_findAll 68 = .ok (.iaload, 1) := by decide +kernel
theorem d_MD_findAll_69 : decode b_MD_findAll 69 = .ok (.invokestatic 97, 3) := by decide +kernel
theorem d_MD_findAll_72 : decode b_MD_findAll 72 = .ok (.ifCond .eq 9, 3) := by decide +kernel
theorem d_MD_findAll_75 : decode b_MD_findAll 75 = .ok (.aload_n 0, 1) := by decide +kernel
theorem d_MD_findAll_76 : decode b_MD_findAll 76 = .ok (.lload 5, 2) := by decide +kernel
theorem d_MD_findAll_78 : decode b_MD_findAll 78 = .ok (.invokevirtual 103, 3) := by decide +kernel
theorem d_MD_findAll_81 : decode b_MD_findAll 81 = .ok (.iinc 4 1, 3) := by decide +kernel
theorem d_MD_findAll_84 : decode b_MD_findAll 84 = .ok (.goto (-81), 3) := by decide +kernel
theorem d_MD_findAll_87 : decode b_MD_findAll 87 = .ok (.return_, 1) := by decide +kernel
theorem d_MD_find_0 : decode b_MD_find 0 = .ok (.iconst 0, 1) := by decide +kernel
theorem d_MD_find_1 : decode b_MD_find 1 = .ok (.istore_n 3, 1) := by decide +kernel
theorem d_MD_find_2 : decode b_MD_find 2 = .ok (.iload_n 3, 1) := by decide +kernel
theorem d_MD_find_3 : decode b_MD_find 3 = .ok (.aload_n 0, 1) := by decide +kernel
theorem d_MD_find_4 : decode b_MD_find 4 = .ok (.getfield 100, 3) := by decide +kernel
theorem d_MD_find_7 : decode b_MD_find 7 = .ok (.if_icmp .ge 21, 3) := by decide +kernel
theorem d_MD_find_10 : decode b_MD_find 10 = .ok (.aload_n 0, 1) := by decide +kernel
theorem d_MD_find_11 : decode b_MD_find 11 = .ok (.getfield 27, 3) := by decide +kernel
theorem d_MD_find_14 : decode b_MD_find 14 = .ok (.iload_n 3, 1) := by decide +kernel
theorem d_MD_find_15 : decode b_MD_find 15 = .ok (.laload, 1) := by decide +kernel
theorem d_MD_find_16 : decode b_MD_find 16 = .ok (.lload_n 1, 1) := by decide +kernel
theorem d_MD_find_17 : decode b_MD_find 17 = .ok (.lcmp, 1) := by decide +kernel
theorem d_MD_find_18 : decode b_MD_find 18 = .ok (.ifCond .ne 4, 3) := by decide +kernel
theorem d_MD_find_21 : decode b_MD_find 21 = .ok (.return_, 1) := by decide +kernel
theorem d_MD_find_22 : decode b_MD_find 22 = .ok (.iinc 3 1, 3) := by decide +kernel
theorem d_MD_find_25 : decode b_MD_find 25 = .ok (.goto (-23), 3) := by decide +kernel
theorem d_MD_find_28 : decode b_MD_find 28 = .ok (.aload_n 0, 1) := by decide +kernel
theorem d_MD_find_29 : decode b_MD_find 29 = .ok (.getfield 27, 3) := by decide +kernel
theorem d_MD_find_32 : decode b_MD_find 32 = .ok (.aload_n 0, 1) := by decide +kernel
theorem d_MD_find_33 : decode b_MD_find 33 = .ok (.getfield 100, 3) := by decide +kernel
theorem d_MD_find_36 : decode b_MD_find 36 = .ok (.lload_n 1, 1) := by decide +kernel
theorem d_MD_find_37 : decode b_MD_find 37 = .ok (.lastore, 1) := by decide +kernel
theorem d_MD_find_38 : decode b_MD_find 38 = .ok (.aload_n 0, 1) := by decide +kernel
theorem d_MD_find_39 : decode b_MD_find 39 = .ok (.dup, 1) := by decide +kernel
theorem d_MD_find_40 : decode b_MD_find 40 = .ok (.getfield 100, 3) := by decide +kernel
theorem d_MD_find_43 : decode b_MD_find 43 = .ok (.iconst 1, 1) := by decide +kernel
theorem d_MD_find_44 : decode b_MD_find 44 = .ok (.iadd, 1) := by decide +kernel
theorem d_MD_find_45 : decode b_MD_find 45 = .ok (.putfield 100, 3) := by decide +kernel
theorem d_MD_find_48 : decode b_MD_find 48 = .ok (.return_, 1) := by decide +kernel
theorem d_MD_shared_0 : decode b_MD_shared 0 = .ok (.aload_n 0, 1) := by decide +kernel
theorem d_MD_shared_1 : decode b_MD_shared 1 = .ok (.iconst 0, 1) := by decide +kernel
theorem d_MD_shared_2 : decode b_MD_shared 2 = .ok (.putfield 36, 3) := by decide +kernel
theorem d_MD_shared_5 : decode b_MD_shared 5 = .ok (.aload_n 0, 1) := by decide +kernel
theorem d_MD_shared_6 : decode b_MD_shared 6 = .ok (.invokevirtual 113, 3) := by decide +kernel
theorem d_MD_shared_9 : decode b_MD_shared 9 = .ok (.ireturn, 1) := by decide +kernel
theorem d_MD_all_0 : decode b_MD_all 0 = .ok (.iconst 0, 1) := by decide +kernel
theorem d_MD_all_1 : decode b_MD_all 1 = .ok (.istore_n 1, 1) := by decide +kernel
end
section
theorem d_MD_all_2 : decode b_MD_all 2 = .ok (.iconst 0, 1) := by decide +kernel
theorem d_MD_all_3 : decode b_MD_all 3 = .ok (.istore_n 2, 1) := by decide +kernel
theorem d_MD_all_4 : decode b_MD_all 4 = .ok (.iload_n 2, 1) := by decide +kernel
theorem d_MD_all_5 : decode b_MD_all 5 = .ok (.bipush 6, 2) := by decide +kernel
theorem d_MD_all_7 : decode b_MD_all 7 = .ok (.if_icmp .ge 17, 3) := by decide +kernel
theorem d_MD_all_10 : decode b_MD_all 10 = .ok (.iload_n 1, 1) := by decide +kernel
theorem d_MD_all_11 : decode b_MD_all 11 = .ok (.aload_n 0, 1) := by decide +kernel
theorem d_MD_all_12 : decode b_MD_all 12 = .ok (.iload_n 2, 1) := by decide +kernel
theorem d_MD_all_13 : decode b_MD_all 13 = .ok (.invokevirtual 110, 3) := by decide +kernel
theorem d_MD_all_16 : decode b_MD_all 16 = .ok (.iadd, 1) := by decide +kernel
theorem d_MD_all_17 : decode b_MD_all 17 = .ok (.istore_n 1, 1) := by decide +kernel
theorem d_MD_all_18 : decode b_MD_all 18 = .ok (.iinc 2 1, 3) := by decide +kernel
theorem d_MD_all_21 : decode b_MD_all 21 = .ok (.goto (-17), 3) := by decide +kernel
theorem d_MD_all_24 : decode b_MD_all 24 = .ok (.iload_n 1, 1) := by decide +kernel
theorem d_MD_all_25 : decode b_MD_all 25 = .ok (.ireturn, 1) := by decide +kernel
theorem d_MD_widthOf_0 : decode b_MD_widthOf 0 = .ok (.aload_n 0, 1) := by decide +kernel
theorem d_MD_widthOf_1 : decode b_MD_widthOf 1 = .ok (.iconst 0, 1) := by decide +kernel
theorem d_MD_widthOf_2 : decode b_MD_widthOf 2 = .ok (.putfield 100, 3) := by decide +kernel
theorem d_MD_widthOf_5 : decode b_MD_widthOf 5 = .ok (.iconst 0, 1) := by decide +kernel
theorem d_MD_widthOf_6 : decode b_MD_widthOf 6 = .ok (.istore_n 2, 1) := by decide +kernel
theorem d_MD_widthOf_7 : decode b_MD_widthOf 7 = .ok (.iload_n 2, 1) := by decide +kernel
theorem d_MD_widthOf_8 : decode b_MD_widthOf 8 = .ok (.bipush 8, 2) := by decide +kernel
theorem d_MD_widthOf_10 : decode b_MD_widthOf 10 = .ok (.if_icmp .ge 29, 3) := by decide +kernel
theorem d_MD_widthOf_13 : decode b_MD_widthOf 13 = .ok (.aload_n 0, 1) := by decide +kernel
theorem d_MD_widthOf_14 : decode b_MD_widthOf 14 = .ok (.getfield 13, 3) := by decide +kernel
theorem d_MD_widthOf_17 : decode b_MD_widthOf 17 = .ok (.iload_n 2, 1) := by decide +kernel
theorem d_MD_widthOf_18 : decode b_MD_widthOf 18 = .ok (.baload, 1) := by decide +kernel
theorem d_MD_widthOf_19 : decode b_MD_widthOf 19 = .ok (.ifCond .eq 14, 3) := by decide +kernel
theorem d_MD_widthOf_22 : decode b_MD_widthOf 22 = .ok (.aload_n 0, 1) := by decide +kernel
theorem d_MD_widthOf_23 : decode b_MD_widthOf 23 = .ok (.aload_n 0, 1) := by decide +kernel
theorem d_MD_widthOf_24 : decode b_MD_widthOf 24 = .ok (.getfield 7, 3) := by decide +kernel
theorem d_MD_widthOf_27 : decode b_MD_widthOf 27 = .ok (.iload_n 2, 1) := by decide +kernel
theorem d_MD_widthOf_28 : decode b_MD_widthOf 28 = .ok (.laload, 1) := by decide +kernel
theorem d_MD_widthOf_29 : decode b_MD_widthOf 29 = .ok (.iload_n 1, 1) := by decide +kernel
theorem d_MD_widthOf_30 : decode b_MD_widthOf 30 = .ok (.invokevirtual 106, 3) := by decide +kernel
theorem d_MD_widthOf_33 : decode b_MD_widthOf 33 = .ok (.iinc 2 1, 3) := by decide +kernel
theorem d_MD_widthOf_36 : decode b_MD_widthOf 36 = .ok (.goto (-29), 3) := by decide +kernel
theorem d_MD_widthOf_39 : decode b_MD_widthOf 39 = .ok (.aload_n 0, 1) := by decide +kernel
theorem d_MD_widthOf_40 : decode b_MD_widthOf 40 = .ok (.getfield 100, 3) := by decide +kernel
theorem d_MD_widthOf_43 : decode b_MD_widthOf 43 = .ok (.ireturn, 1) := by decide +kernel
theorem d_MD_width_0 : decode b_MD_width 0 = .ok (.aload_n 0, 1) := by decide +kernel
theorem d_MD_width_1 : decode b_MD_width 1 = .ok (.iload_n 1, 1) := by decide +kernel
theorem d_MD_width_2 : decode b_MD_width 2 = .ok (.iconst 0, 1) := by decide +kernel
theorem d_MD_width_3 : decode b_MD_width 3 = .ok (.iconst 5, 1) := by decide +kernel
theorem d_MD_width_4 : decode b_MD_width 4 = .ok (.invokestatic 40, 3) := by decide +kernel
theorem d_MD_width_7 : decode b_MD_width 7 = .ok (.ifCond .eq 7, 3) := by decide +kernel
theorem d_MD_width_10 : decode b_MD_width 10 = .ok (.iconst 0, 1) := by decide +kernel
theorem d_MD_width_11 : decode b_MD_width 11 = .ok (.goto 4, 3) := by decide +kernel
theorem d_MD_width_14 : decode b_MD_width 14 = .ok (.iconst 1, 1) := by decide +kernel
theorem d_MD_width_15 : decode b_MD_width 15 = .ok (.putfield 36, 3) := by decide +kernel
theorem d_MD_width_18 : decode b_MD_width 18 = .ok (.aload_n 0, 1) := by decide +kernel
theorem d_MD_width_19 : decode b_MD_width 19 = .ok (.getfield 36, 3) := by decide +kernel
theorem d_MD_width_22 : decode b_MD_width 22 = .ok (.ifCond .le 7, 3) := by decide +kernel
theorem d_MD_width_25 : decode b_MD_width 25 = .ok (.iconst 0, 1) := by decide +kernel
theorem d_MD_width_26 : decode b_MD_width 26 = .ok (.goto 8, 3) := by decide +kernel
theorem d_MD_width_29 : decode b_MD_width 29 = .ok (.aload_n 0, 1) := by decide +kernel
theorem d_MD_width_30 : decode b_MD_width 30 = .ok (.iload_n 1, 1) := by decide +kernel
theorem d_MD_width_31 : decode b_MD_width 31 = .ok (.invokevirtual 110, 3) := by decide +kernel
theorem d_MD_width_34 : decode b_MD_width 34 = .ok (.ireturn, 1) := by decide +kernel
theorem d_MD_variable_0 : decode b_MD_variable 0 = .ok (.aload_n 0, 1) := by decide +kernel
theorem d_MD_variable_1 : decode b_MD_variable 1 = .ok (.iload_n 1, 1) := by decide +kernel
theorem d_MD_variable_2 : decode b_MD_variable 2 = .ok (.iconst 0, 1) := by decide +kernel
theorem d_MD_variable_3 : decode b_MD_variable 3 = .ok (.iconst 5, 1) := by decide +kernel
theorem d_MD_variable_4 : decode b_MD_variable 4 = .ok (.invokestatic 40, 3) := by decide +kernel
theorem d_MD_variable_7 : decode b_MD_variable 7 = .ok (.ifCond .eq 7, 3) := by decide +kernel
theorem d_MD_variable_10 : decode b_MD_variable 10 = .ok (.iconst 0, 1) := by decide +kernel
theorem d_MD_variable_11 : decode b_MD_variable 11 = .ok (.goto 4, 3) := by decide +kernel
theorem d_MD_variable_14 : decode b_MD_variable 14 = .ok (.iconst 1, 1) := by decide +kernel
theorem d_MD_variable_15 : decode b_MD_variable 15 = .ok (.putfield 36, 3) := by decide +kernel
theorem d_MD_variable_18 : decode b_MD_variable 18 = .ok (.aload_n 0, 1) := by decide +kernel
theorem d_MD_variable_19 : decode b_MD_variable 19 = .ok (.getfield 36, 3) := by decide +kernel
theorem d_MD_variable_22 : decode b_MD_variable 22 = .ok (.ifCond .le 7, 3) := by decide +kernel
theorem d_MD_variable_25 : decode b_MD_variable 25 = .ok (.iconst 0, 1) := by decide +kernel
theorem d_MD_variable_26 : decode b_MD_variable 26 = .ok (.goto 9, 3) := by decide +kernel
theorem d_MD_variable_29 : decode b_MD_variable 29 = .ok (.aload_n 0, 1) := by decide +kernel
theorem d_MD_variable_30 : decode b_MD_variable 30 = .ok (.getfield 17, 3) := by decide +kernel
theorem d_MD_variable_33 : decode b_MD_variable 33 = .ok (.iload_n 1, 1) := by decide +kernel
theorem d_MD_variable_34 : decode b_MD_variable 34 = .ok (.iaload, 1) := by decide +kernel
theorem d_MD_variable_35 : decode b_MD_variable 35 = .ok (.ireturn, 1) := by decide +kernel
theorem d_MD_swap_0 : decode b_MD_swap 0 = .ok (.aload_n 0, 1) := by decide +kernel
theorem d_MD_swap_1 : decode b_MD_swap 1 = .ok (.iload_n 1, 1) := by decide +kernel
theorem d_MD_swap_2 : decode b_MD_swap 2 = .ok (.iconst 0, 1) := by decide +kernel
theorem d_MD_swap_3 : decode b_MD_swap 3 = .ok (.iconst 4, 1) := by decide +kernel
theorem d_MD_swap_4 : decode b_MD_swap 4 = .ok (.invokestatic 40, 3) := by decide +kernel
theorem d_MD_swap_7 : decode b_MD_swap 7 = .ok (.ifCond .eq 7, 3) := by decide +kernel
theorem d_MD_swap_10 : decode b_MD_swap 10 = .ok (.iconst 0, 1) := by decide +kernel
theorem d_MD_swap_11 : decode b_MD_swap 11 = .ok (.goto 4, 3) := by decide +kernel
theorem d_MD_swap_14 : decode b_MD_swap 14 = .ok (.iconst 1, 1) := by decide +kernel
theorem d_MD_swap_15 : decode b_MD_swap 15 = .ok (.putfield 36, 3) := by decide +kernel
theorem d_MD_swap_18 : decode b_MD_swap 18 = .ok (.aload_n 0, 1) := by decide +kernel
theorem d_MD_swap_19 : decode b_MD_swap 19 = .ok (.getfield 36, 3) := by decide +kernel
theorem d_MD_swap_22 : decode b_MD_swap 22 = .ok (.ifCond .le 5, 3) := by decide +kernel
theorem d_MD_swap_25 : decode b_MD_swap 25 = .ok (.iconst 0, 1) := by decide +kernel
theorem d_MD_swap_26 : decode b_MD_swap 26 = .ok (.ireturn, 1) := by decide +kernel
theorem d_MD_swap_27 : decode b_MD_swap 27 = .ok (.aload_n 0, 1) := by decide +kernel
theorem d_MD_swap_28 : decode b_MD_swap 28 = .ok (.getfield 17, 3) := by decide +kernel
theorem d_MD_swap_31 : decode b_MD_swap 31 = .ok (.iload_n 1, 1) := by decide +kernel
theorem d_MD_swap_32 : decode b_MD_swap 32 = .ok (.iaload, 1) := by decide +kernel
theorem d_MD_swap_33 : decode b_MD_swap 33 = .ok (.istore_n 2, 1) := by decide +kernel
theorem d_MD_swap_34 : decode b_MD_swap 34 = .ok (.aload_n 0, 1) := by decide +kernel
theorem d_MD_swap_35 : decode b_MD_swap 35 = .ok (.getfield 17, 3) := by decide +kernel
theorem d_MD_swap_38 : decode b_MD_swap 38 = .ok (.iload_n 1, 1) := by decide +kernel
theorem d_MD_swap_39 : decode b_MD_swap 39 = .ok (.aload_n 0, 1) := by decide +kernel
theorem d_MD_swap_40 : decode b_MD_swap 40 = .ok (.getfield 17, 3) := by decide +kernel
theorem d_MD_swap_43 : decode b_MD_swap 43 = .ok (.iload_n 1, 1) := by decide +kernel
theorem d_MD_swap_44 : decode b_MD_swap 44 = .ok (.iconst 1, 1) := by decide +kernel
theorem d_MD_swap_45 : decode b_MD_swap 45 = .ok (.iadd, 1) := by decide +kernel
theorem d_MD_swap_46 : decode b_MD_swap 46 = .ok (.iaload, 1) := by decide +kernel
theorem d_MD_swap_47 : decode b_MD_swap 47 = .ok (.iastore, 1) := by decide +kernel
theorem d_MD_swap_48 : decode b_MD_swap 48 = .ok (.aload_n 0, 1) := by decide +kernel
theorem d_MD_swap_49 : decode b_MD_swap 49 = .ok (.getfield 17, 3) := by decide +kernel
theorem d_MD_swap_52 : decode b_MD_swap 52 = .ok (.iload_n 1, 1) := by decide +kernel
theorem d_MD_swap_53 : decode b_MD_swap 53 = .ok (.iconst 1, 1) := by decide +kernel
theorem d_MD_swap_54 : decode b_MD_swap 54 = .ok (.iadd, 1) := by decide +kernel
theorem d_MD_swap_55 : decode b_MD_swap 55 = .ok (.iload_n 2, 1) := by decide +kernel
theorem d_MD_swap_56 : decode b_MD_swap 56 = .ok (.iastore, 1) := by decide +kernel
theorem d_MD_swap_57 : decode b_MD_swap 57 = .ok (.aload_n 0, 1) := by decide +kernel
theorem d_MD_swap_58 : decode b_MD_swap 58 = .ok (.invokevirtual 113, 3) := by decide +kernel
theorem d_MD_swap_61 : decode b_MD_swap 61 = .ok (.ireturn, 1) := by decide +kernel
theorem d_MD_sift_0 : decode b_MD_sift 0 = .ok (.aload_n 0, 1) := by decide +kernel
theorem d_MD_sift_1 : decode b_MD_sift 1 = .ok (.iload_n 1, 1) := by decide +kernel
theorem d_MD_sift_2 : decode b_MD_sift 2 = .ok (.iconst 0, 1) := by decide +kernel
theorem d_MD_sift_3 : decode b_MD_sift 3 = .ok (.iconst 5, 1) := by decide +kernel
theorem d_MD_sift_4 : decode b_MD_sift 4 = .ok (.invokestatic 40, 3) := by decide +kernel
theorem d_MD_sift_7 : decode b_MD_sift 7 = .ok (.ifCond .eq 7, 3) := by decide +kernel
theorem d_MD_sift_10 : decode b_MD_sift 10 = .ok (.iconst 0, 1) := by decide +kernel
theorem d_MD_sift_11 : decode b_MD_sift 11 = .ok (.goto 4, 3) := by decide +kernel
theorem d_MD_sift_14 : decode b_MD_sift 14 = .ok (.iconst 1, 1) := by decide +kernel
theorem d_MD_sift_15 : decode b_MD_sift 15 = .ok (.putfield 36, 3) := by decide +kernel
theorem d_MD_sift_18 : decode b_MD_sift 18 = .ok (.aload_n 0, 1) := by decide +kernel
theorem d_MD_sift_19 : decode b_MD_sift 19 = .ok (.getfield 36, 3) := by decide +kernel
theorem d_MD_sift_22 : decode b_MD_sift 22 = .ok (.ifCond .le 5, 3) := by decide +kernel
theorem d_MD_sift_25 : decode b_MD_sift 25 = .ok (.iconst 0, 1) := by decide +kernel
theorem d_MD_sift_26 : decode b_MD_sift 26 = .ok (.ireturn, 1) := by decide +kernel
theorem d_MD_sift_27 : decode b_MD_sift 27 = .ok (.iconst 0, 1) := by decide +kernel
theorem d_MD_sift_28 : decode b_MD_sift 28 = .ok (.istore_n 2, 1) := by decide +kernel
theorem d_MD_sift_29 : decode b_MD_sift 29 = .ok (.iload_n 2, 1) := by decide +kernel
theorem d_MD_sift_30 : decode b_MD_sift 30 = .ok (.bipush 6, 2) := by decide +kernel
theorem d_MD_sift_32 : decode b_MD_sift 32 = .ok (.if_icmp .ge 21, 3) := by decide +kernel
theorem d_MD_sift_35 : decode b_MD_sift 35 = .ok (.aload_n 0, 1) := by decide +kernel
theorem d_MD_sift_36 : decode b_MD_sift 36 = .ok (.getfield 21, 3) := by decide +kernel
theorem d_MD_sift_39 : decode b_MD_sift 39 = .ok (.iload_n 2, 1) := by decide +kernel
theorem d_MD_sift_40 : decode b_MD_sift 40 = .ok (.aload_n 0, 1) := by decide +kernel
theorem d_MD_sift_41 : decode b_MD_sift 41 = .ok (.getfield 17, 3) := by decide +kernel
theorem d_MD_sift_44 : decode b_MD_sift 44 = .ok (.iload_n 2, 1) := by decide +kernel
theorem d_MD_sift_45 : decode b_MD_sift 45 = .ok (.iaload, 1) := by decide +kernel
theorem d_MD_sift_46 : decode b_MD_sift 46 = .ok (.iastore, 1) := by decide +kernel
theorem d_MD_sift_47 : decode b_MD_sift 47 = .ok (.iinc 2 1, 3) := by decide +kernel
theorem d_MD_sift_50 : decode b_MD_sift 50 = .ok (.goto (-21), 3) := by decide +kernel
theorem d_MD_sift_53 : decode b_MD_sift 53 = .ok (.iconst 0, 1) := by decide +kernel
theorem d_MD_sift_54 : decode b_MD_sift 54 = .ok (.istore_n 2, 1) := by decide +kernel
theorem d_MD_sift_55 : decode b_MD_sift 55 = .ok (.sipush 1000, 3) := by decide +kernel
theorem d_MD_sift_58 : decode b_MD_sift 58 = .ok (.istore_n 3, 1) := by decide +kernel
theorem d_MD_sift_59 : decode b_MD_sift 59 = .ok (.iconst 0, 1) := by decide +kernel
theorem d_MD_sift_60 : decode b_MD_sift 60 = .ok (.istore 4, 2) := by decide +kernel
theorem d_MD_sift_62 : decode b_MD_sift 62 = .ok (.iload 4, 2) := by decide +kernel
theorem d_MD_sift_64 : decode b_MD_sift 64 = .ok (.bipush 6, 2) := by decide +kernel
theorem d_MD_sift_66 : decode b_MD_sift 66 = .ok (.if_icmp .ge 48, 3) := by decide +kernel
theorem d_MD_sift_69 : decode b_MD_sift 69 = .ok (.aload_n 0, 1) := by decide +kernel
theorem d_MD_sift_70 : decode b_MD_sift 70 = .ok (.iload_n 1, 1) := by decide +kernel
theorem d_MD_sift_71 : decode b_MD_sift 71 = .ok (.iload 4, 2) := by decide +kernel
theorem d_MD_sift_73 : decode b_MD_sift 73 = .ok (.invokevirtual 117, 3) := by decide +kernel
theorem d_MD_sift_76 : decode b_MD_sift 76 = .ok (.aload_n 0, 1) := by decide +kernel
theorem d_MD_sift_77 : decode b_MD_sift 77 = .ok (.invokevirtual 113, 3) := by decide +kernel
theorem d_MD_sift_80 : decode b_MD_sift 80 = .ok (.istore 5, 2) := by decide +kernel
theorem d_MD_sift_82 : decode b_MD_sift 82 = .ok (.iload 5, 2) := by decide +kernel
theorem d_MD_sift_84 : decode b_MD_sift 84 = .ok (.iload_n 3, 1) := by decide +kernel
theorem d_MD_sift_85 : decode b_MD_sift 85 = .ok (.if_icmp .ge 8, 3) := by decide +kernel
theorem d_MD_sift_88 : decode b_MD_sift 88 = .ok (.iload 4, 2) := by decide +kernel
theorem d_MD_sift_90 : decode b_MD_sift 90 = .ok (.goto 4, 3) := by decide +kernel
theorem d_MD_sift_93 : decode b_MD_sift 93 = .ok (.iload_n 2, 1) := by decide +kernel
theorem d_MD_sift_94 : decode b_MD_sift 94 = .ok (.istore_n 2, 1) := by decide +kernel
theorem d_MD_sift_95 : decode b_MD_sift 95 = .ok (.iload 5, 2) := by decide +kernel
theorem d_MD_sift_97 : decode b_MD_sift 97 = .ok (.iload_n 3, 1) := by decide +kernel
theorem d_MD_sift_98 : decode b_MD_sift 98 = .ok (.if_icmp .ge 8, 3) := by decide +kernel
theorem d_MD_sift_101 : decode b_MD_sift 101 = .ok (.iload 5, 2) := by decide +kernel
theorem d_MD_sift_103 : decode b_MD_sift 103 = .ok (.goto 4, 3) := by decide +kernel
theorem d_MD_sift_106 : decode b_MD_sift 106 = .ok (.iload_n 3, 1) := by decide +kernel
theorem d_MD_sift_107 : decode b_MD_sift 107 = .ok (.istore_n 3, 1) := by decide +kernel
theorem d_MD_sift_108 : decode b_MD_sift 108 = .ok (.iinc 4 1, 3) := by decide +kernel
theorem d_MD_sift_111 : decode b_MD_sift 111 = .ok (.goto (-49), 3) := by decide +kernel
theorem d_MD_sift_114 : decode b_MD_sift 114 = .ok (.aload_n 0, 1) := by decide +kernel
theorem d_MD_sift_115 : decode b_MD_sift 115 = .ok (.iload_n 1, 1) := by decide +kernel
theorem d_MD_sift_116 : decode b_MD_sift 116 = .ok (.iload_n 2, 1) := by decide +kernel
theorem d_MD_sift_117 : decode b_MD_sift 117 = .ok (.invokevirtual 117, 3) := by decide +kernel
theorem d_MD_sift_120 : decode b_MD_sift 120 = .ok (.iload_n 2, 1) := by decide +kernel
theorem d_MD_sift_121 : decode b_MD_sift 121 = .ok (.ireturn, 1) := by decide +kernel
theorem d_MD_arrange_0 : decode b_MD_arrange 0 = .ok (.iconst 0, 1) := by decide +kernel
theorem d_MD_arrange_1 : decode b_MD_arrange 1 = .ok (.istore_n 3, 1) := by decide +kernel
theorem d_MD_arrange_2 : decode b_MD_arrange 2 = .ok (.iconst 0, 1) := by decide +kernel
theorem d_MD_arrange_3 : decode b_MD_arrange 3 = .ok (.istore 4, 2) := by decide +kernel
theorem d_MD_arrange_5 : decode b_MD_arrange 5 = .ok (.iload 4, 2) := by decide +kernel
theorem d_MD_arrange_7 : decode b_MD_arrange 7 = .ok (.bipush 6, 2) := by decide +kernel
theorem d_MD_arrange_9 : decode b_MD_arrange 9 = .ok (.if_icmp .ge 60, 3) := by decide +kernel
theorem d_MD_arrange_12 : decode b_MD_arrange 12 = .ok (.iload 4, 2) := by decide +kernel
theorem d_MD_arrange_14 : decode b_MD_arrange 14 = .ok (.iload_n 2, 1) := by decide +kernel
theorem d_MD_arrange_15 : decode b_MD_arrange 15 = .ok (.if_icmp .ne 14, 3) := by decide +kernel
theorem d_MD_arrange_18 : decode b_MD_arrange 18 = .ok (.aload_n 0, 1) := by decide +kernel
theorem d_MD_arrange_19 : decode b_MD_arrange 19 = .ok (.getfield 17, 3) := by decide +kernel
theorem d_MD_arrange_22 : decode b_MD_arrange 22 = .ok (.iload 4, 2) := by decide +kernel
theorem d_MD_arrange_24 : decode b_MD_arrange 24 = .ok (.iload_n 1, 1) := by decide +kernel
theorem d_MD_arrange_25 : decode b_MD_arrange 25 = .ok (.iastore, 1) := by decide +kernel
theorem d_MD_arrange_26 : decode b_MD_arrange 26 = .ok (.goto 37, 3) := by decide +kernel
theorem d_MD_arrange_29 : decode b_MD_arrange 29 = .ok (.aload_n 0, 1) := by decide +kernel
theorem d_MD_arrange_30 : decode b_MD_arrange 30 = .ok (.getfield 21, 3) := by decide +kernel
theorem d_MD_arrange_33 : decode b_MD_arrange 33 = .ok (.iload_n 3, 1) := by decide +kernel
theorem d_MD_arrange_34 : decode b_MD_arrange 34 = .ok (.iaload, 1) := by decide +kernel
theorem d_MD_arrange_35 : decode b_MD_arrange 35 = .ok (.iload_n 1, 1) := by decide +kernel
theorem d_MD_arrange_36 : decode b_MD_arrange 36 = .ok (.if_icmp .ne 9, 3) := by decide +kernel
theorem d_MD_arrange_39 : decode b_MD_arrange 39 = .ok (.iload_n 3, 1) := by decide +kernel
theorem d_MD_arrange_40 : decode b_MD_arrange 40 = .ok (.iconst 1, 1) := by decide +kernel
theorem d_MD_arrange_41 : decode b_MD_arrange 41 = .ok (.iadd, 1) := by decide +kernel
theorem d_MD_arrange_42 : decode b_MD_arrange 42 = .ok (.goto 4, 3) := by decide +kernel
theorem d_MD_arrange_45 : decode b_MD_arrange 45 = .ok (.iload_n 3, 1) := by decide +kernel
theorem d_MD_arrange_46 : decode b_MD_arrange 46 = .ok (.istore_n 3, 1) := by decide +kernel
theorem d_MD_arrange_47 : decode b_MD_arrange 47 = .ok (.aload_n 0, 1) := by decide +kernel
theorem d_MD_arrange_48 : decode b_MD_arrange 48 = .ok (.getfield 17, 3) := by decide +kernel
theorem d_MD_arrange_51 : decode b_MD_arrange 51 = .ok (.iload 4, 2) := by decide +kernel
theorem d_MD_arrange_53 : decode b_MD_arrange 53 = .ok (.aload_n 0, 1) := by decide +kernel
theorem d_MD_arrange_54 : decode b_MD_arrange 54 = .ok (.getfield 21, 3) := by decide +kernel
theorem d_MD_arrange_57 : decode b_MD_arrange 57 = .ok (.iload_n 3, 1) := by decide +kernel
theorem d_MD_arrange_58 : decode b_MD_arrange 58 = .ok (.iaload, 1) := by decide +kernel
theorem d_MD_arrange_59 : decode b_MD_arrange 59 = .ok (.iastore, 1) := by decide +kernel
theorem d_MD_arrange_60 : decode b_MD_arrange 60 = .ok (.iinc 3 1, 3) := by decide +kernel
theorem d_MD_arrange_63 : decode b_MD_arrange 63 = .ok (.iinc 4 1, 3) := by decide +kernel
theorem d_MD_arrange_66 : decode b_MD_arrange 66 = .ok (.goto (-61), 3) := by decide +kernel
theorem d_MD_arrange_69 : decode b_MD_arrange 69 = .ok (.return_, 1) := by decide +kernel
theorem d_LW_law_0 : decode b_LW_law 0 = .ok (.new 8, 3) := by decide +kernel
theorem d_LW_law_3 : decode b_LW_law 3 = .ok (.dup, 1) := by decide +kernel
theorem d_LW_law_4 : decode b_LW_law 4 = .ok (.invokespecial 77, 3) := by decide +kernel
theorem d_LW_law_7 : decode b_LW_law 7 = .ok (.astore_n 1, 1) := by decide +kernel
theorem d_LW_law_8 : decode b_LW_law 8 = .ok (.new 78, 3) := by decide +kernel
theorem d_LW_law_11 : decode b_LW_law 11 = .ok (.dup, 1) := by decide +kernel
theorem d_LW_law_12 : decode b_LW_law 12 = .ok (.invokespecial 80, 3) := by decide +kernel
theorem d_LW_law_15 : decode b_LW_law 15 = .ok (.astore_n 2, 1) := by decide +kernel
theorem d_LW_law_16 : decode b_LW_law 16 = .ok (.iconst 1, 1) := by decide +kernel
theorem d_LW_law_17 : decode b_LW_law 17 = .ok (.newarray .long, 2) := by decide +kernel
theorem d_LW_law_19 : decode b_LW_law 19 = .ok (.astore_n 3, 1) := by decide +kernel
theorem d_LW_law_20 : decode b_LW_law 20 = .ok (.iconst 0, 1) := by decide +kernel
theorem d_LW_law_21 : decode b_LW_law 21 = .ok (.istore 4, 2) := by decide +kernel
theorem d_LW_law_23 : decode b_LW_law 23 = .ok (.iload 4, 2) := by decide +kernel
theorem d_LW_law_25 : decode b_LW_law 25 = .ok (.aload_n 0, 1) := by decide +kernel
theorem d_LW_law_26 : decode b_LW_law 26 = .ok (.arraylength, 1) := by decide +kernel
theorem d_LW_law_27 : decode b_LW_law 27 = .ok (.iconst 5, 1) := by decide +kernel
theorem d_LW_law_28 : decode b_LW_law 28 = .ok (.isub, 1) := by decide +kernel
theorem d_LW_law_29 : decode b_LW_law 29 = .ok (.if_icmp .gt 1379, 3) := by decide +kernel
theorem d_LW_law_32 : decode b_LW_law 32 = .ok (.aload_n 0, 1) := by decide +kernel
theorem d_LW_law_33 : decode b_LW_law 33 = .ok (.iload 4, 2) := by decide +kernel
theorem d_LW_law_35 : decode b_LW_law 35 = .ok (.iaload, 1) := by decide +kernel
theorem d_LW_law_36 : decode b_LW_law 36 = .ok (.bipush 31, 2) := by decide +kernel
theorem d_LW_law_38 : decode b_LW_law 38 = .ok (.iand, 1) := by decide +kernel
theorem d_LW_law_39 : decode b_LW_law 39 = .ok (.tableswitch 1363 0 19 #[93, 141, 213, 285, 373, 445, 533, 633, 689, 752, 827, 902, 958, 1014, 1070, 1126, 1139, 1195, 1251, 1307], 93) := by decide +kernel
theorem d_LW_law_132 : decode b_LW_law 132 = .ok (.aload_n 1, 1) := by decide +kernel
theorem d_LW_law_133 : decode b_LW_law 133 = .ok (.aload_n 0, 1) := by decide +kernel
theorem d_LW_law_134 : decode b_LW_law 134 = .ok (.iload 4, 2) := by decide +kernel
theorem d_LW_law_136 : decode b_LW_law 136 = .ok (.iconst 1, 1) := by decide +kernel
theorem d_LW_law_137 : decode b_LW_law 137 = .ok (.iadd, 1) := by decide +kernel
theorem d_LW_law_138 : decode b_LW_law 138 = .ok (.iaload, 1) := by decide +kernel
theorem d_LW_law_139 : decode b_LW_law 139 = .ok (.aload_n 0, 1) := by decide +kernel
theorem d_LW_law_140 : decode b_LW_law 140 = .ok (.iload 4, 2) := by decide +kernel
theorem d_LW_law_142 : decode b_LW_law 142 = .ok (.iconst 2, 1) := by decide +kernel
theorem d_LW_law_143 : decode b_LW_law 143 = .ok (.iadd, 1) := by decide +kernel
theorem d_LW_law_144 : decode b_LW_law 144 = .ok (.iaload, 1) := by decide +kernel
theorem d_LW_law_145 : decode b_LW_law 145 = .ok (.invokestatic 81, 3) := by decide +kernel
theorem d_LW_law_148 : decode b_LW_law 148 = .ok (.istore 5, 2) := by decide +kernel
theorem d_LW_law_150 : decode b_LW_law 150 = .ok (.aload_n 2, 1) := by decide +kernel
theorem d_LW_law_151 : decode b_LW_law 151 = .ok (.aload_n 0, 1) := by decide +kernel
theorem d_LW_law_152 : decode b_LW_law 152 = .ok (.iload 4, 2) := by decide +kernel
theorem d_LW_law_154 : decode b_LW_law 154 = .ok (.iconst 1, 1) := by decide +kernel
theorem d_LW_law_155 : decode b_LW_law 155 = .ok (.iadd, 1) := by decide +kernel
theorem d_LW_law_156 : decode b_LW_law 156 = .ok (.iaload, 1) := by decide +kernel
theorem d_LW_law_157 : decode b_LW_law 157 = .ok (.aload_n 0, 1) := by decide +kernel
theorem d_LW_law_158 : decode b_LW_law 158 = .ok (.iload 4, 2) := by decide +kernel
theorem d_LW_law_160 : decode b_LW_law 160 = .ok (.iconst 2, 1) := by decide +kernel
theorem d_LW_law_161 : decode b_LW_law 161 = .ok (.iadd, 1) := by decide +kernel
theorem d_LW_law_162 : decode b_LW_law 162 = .ok (.iaload, 1) := by decide +kernel
theorem d_LW_law_163 : decode b_LW_law 163 = .ok (.invokevirtual 86, 3) := by decide +kernel
theorem d_LW_law_166 : decode b_LW_law 166 = .ok (.aload_n 2, 1) := by decide +kernel
theorem d_LW_law_167 : decode b_LW_law 167 = .ok (.invokevirtual 87, 3) := by decide +kernel
theorem d_LW_law_170 : decode b_LW_law 170 = .ok (.iload 5, 2) := by decide +kernel
theorem d_LW_law_172 : decode b_LW_law 172 = .ok (.if_icmp .eq 5, 3) := by decide +kernel
theorem d_LW_law_175 : decode b_LW_law 175 = .ok (.iconst 0, 1) := by decide +kernel
theorem d_LW_law_176 : decode b_LW_law 176 = .ok (.ireturn, 1) := by decide +kernel
theorem d_LW_law_177 : decode b_LW_law 177 = .ok (.goto 1225, 3) := by decide +kernel
theorem d_LW_law_180 : decode b_LW_law 180 = .ok (.aload_n 1, 1) := by decide +kernel
theorem d_LW_law_181 : decode b_LW_law 181 = .ok (.aload_n 0, 1) := by decide +kernel
theorem d_LW_law_182 : decode b_LW_law 182 = .ok (.iload 4, 2) := by decide +kernel
theorem d_LW_law_184 : decode b_LW_law 184 = .ok (.iconst 1, 1) := by decide +kernel
theorem d_LW_law_185 : decode b_LW_law 185 = .ok (.iadd, 1) := by decide +kernel
theorem d_LW_law_186 : decode b_LW_law 186 = .ok (.iaload, 1) := by decide +kernel
theorem d_LW_law_187 : decode b_LW_law 187 = .ok (.aload_n 0, 1) := by decide +kernel
theorem d_LW_law_188 : decode b_LW_law 188 = .ok (.iload 4, 2) := by decide +kernel
theorem d_LW_law_190 : decode b_LW_law 190 = .ok (.iconst 2, 1) := by decide +kernel
theorem d_LW_law_191 : decode b_LW_law 191 = .ok (.iadd, 1) := by decide +kernel
theorem d_LW_law_192 : decode b_LW_law 192 = .ok (.iaload, 1) := by decide +kernel
theorem d_LW_law_193 : decode b_LW_law 193 = .ok (.aload_n 0, 1) := by decide +kernel
theorem d_LW_law_194 : decode b_LW_law 194 = .ok (.iload 4, 2) := by decide +kernel
theorem d_LW_law_196 : decode b_LW_law 196 = .ok (.iconst 3, 1) := by decide +kernel
theorem d_LW_law_197 : decode b_LW_law 197 = .ok (.iadd, 1) := by decide +kernel
theorem d_LW_law_198 : decode b_LW_law 198 = .ok (.iaload, 1) := by decide +kernel
theorem d_LW_law_199 : decode b_LW_law 199 = .ok (.aload_n 0, 1) := by decide +kernel
theorem d_LW_law_200 : decode b_LW_law 200 = .ok (.iload 4, 2) := by decide +kernel
theorem d_LW_law_202 : decode b_LW_law 202 = .ok (.iconst 4, 1) := by decide +kernel
theorem d_LW_law_203 : decode b_LW_law 203 = .ok (.iadd, 1) := by decide +kernel
theorem d_LW_law_204 : decode b_LW_law 204 = .ok (.iaload, 1) := by decide +kernel
theorem d_LW_law_205 : decode b_LW_law 205 = .ok (.invokestatic 91, 3) := by decide +kernel
theorem d_LW_law_208 : decode b_LW_law 208 = .ok (.istore 5, 2) := by decide +kernel
theorem d_LW_law_210 : decode b_LW_law 210 = .ok (.aload_n 2, 1) := by decide +kernel
theorem d_LW_law_211 : decode b_LW_law 211 = .ok (.aload_n 0, 1) := by decide +kernel
theorem d_LW_law_212 : decode b_LW_law 212 = .ok (.iload 4, 2) := by decide +kernel
theorem d_LW_law_214 : decode b_LW_law 214 = .ok (.iconst 1, 1) := by decide +kernel
theorem d_LW_law_215 : decode b_LW_law 215 = .ok (.iadd, 1) := by decide +kernel
theorem d_LW_law_216 : decode b_LW_law 216 = .ok (.iaload, 1) := by decide +kernel
theorem d_LW_law_217 : decode b_LW_law 217 = .ok (.aload_n 0, 1) := by decide +kernel
theorem d_LW_law_218 : decode b_LW_law 218 = .ok (.iload 4, 2) := by decide +kernel
theorem d_LW_law_220 : decode b_LW_law 220 = .ok (.iconst 2, 1) := by decide +kernel
theorem d_LW_law_221 : decode b_LW_law 221 = .ok (.iadd, 1) := by decide +kernel
theorem d_LW_law_222 : decode b_LW_law 222 = .ok (.iaload, 1) := by decide +kernel
theorem d_LW_law_223 : decode b_LW_law 223 = .ok (.aload_n 0, 1) := by decide +kernel
theorem d_LW_law_224 : decode b_LW_law 224 = .ok (.iload 4, 2) := by decide +kernel
theorem d_LW_law_226 : decode b_LW_law 226 = .ok (.iconst 3, 1) := by decide +kernel
theorem d_LW_law_227 : decode b_LW_law 227 = .ok (.iadd, 1) := by decide +kernel
theorem d_LW_law_228 : decode b_LW_law 228 = .ok (.iaload, 1) := by decide +kernel
theorem d_LW_law_229 : decode b_LW_law 229 = .ok (.aload_n 0, 1) := by decide +kernel
theorem d_LW_law_230 : decode b_LW_law 230 = .ok (.iload 4, 2) := by decide +kernel
theorem d_LW_law_232 : decode b_LW_law 232 = .ok (.iconst 4, 1) := by decide +kernel
theorem d_LW_law_233 : decode b_LW_law 233 = .ok (.iadd, 1) := by decide +kernel
theorem d_LW_law_234 : decode b_LW_law 234 = .ok (.iaload, 1) := by decide +kernel
theorem d_LW_law_235 : decode b_LW_law 235 = .ok (.invokevirtual 94, 3) := by decide +kernel
theorem d_LW_law_238 : decode b_LW_law 238 = .ok (.aload_n 2, 1) := by decide +kernel
theorem d_LW_law_239 : decode b_LW_law 239 = .ok (.invokevirtual 87, 3) := by decide +kernel
theorem d_LW_law_242 : decode b_LW_law 242 = .ok (.iload 5, 2) := by decide +kernel
theorem d_LW_law_244 : decode b_LW_law 244 = .ok (.if_icmp .eq 5, 3) := by decide +kernel
theorem d_LW_law_247 : decode b_LW_law 247 = .ok (.iconst 0, 1) := by decide +kernel
theorem d_LW_law_248 : decode b_LW_law 248 = .ok (.ireturn, 1) := by decide +kernel
theorem d_LW_law_249 : decode b_LW_law 249 = .ok (.goto 1153, 3) := by decide +kernel
theorem d_LW_law_252 : decode b_LW_law 252 = .ok (.aload_n 1, 1) := by decide +kernel
theorem d_LW_law_253 : decode b_LW_law 253 = .ok (.aload_n 0, 1) := by decide +kernel
theorem d_LW_law_254 : decode b_LW_law 254 = .ok (.iload 4, 2) := by decide +kernel
theorem d_LW_law_256 : decode b_LW_law 256 = .ok (.iconst 1, 1) := by decide +kernel
theorem d_LW_law_257 : decode b_LW_law 257 = .ok (.iadd, 1) := by decide +kernel
theorem d_LW_law_258 : decode b_LW_law 258 = .ok (.iaload, 1) := by decide +kernel
theorem d_LW_law_259 : decode b_LW_law 259 = .ok (.aload_n 0, 1) := by decide +kernel
theorem d_LW_law_260 : decode b_LW_law 260 = .ok (.iload 4, 2) := by decide +kernel
theorem d_LW_law_262 : decode b_LW_law 262 = .ok (.iconst 2, 1) := by decide +kernel
theorem d_LW_law_263 : decode b_LW_law 263 = .ok (.iadd, 1) := by decide +kernel
theorem d_LW_law_264 : decode b_LW_law 264 = .ok (.iaload, 1) := by decide +kernel
theorem d_LW_law_265 : decode b_LW_law 265 = .ok (.aload_n 0, 1) := by decide +kernel
theorem d_LW_law_266 : decode b_LW_law 266 = .ok (.iload 4, 2) := by decide +kernel
theorem d_LW_law_268 : decode b_LW_law 268 = .ok (.iconst 3, 1) := by decide +kernel
theorem d_LW_law_269 : decode b_LW_law 269 = .ok (.iadd, 1) := by decide +kernel
theorem d_LW_law_270 : decode b_LW_law 270 = .ok (.iaload, 1) := by decide +kernel
theorem d_LW_law_271 : decode b_LW_law 271 = .ok (.aload_n 0, 1) := by decide +kernel
theorem d_LW_law_272 : decode b_LW_law 272 = .ok (.iload 4, 2) := by decide +kernel
theorem d_LW_law_274 : decode b_LW_law 274 = .ok (.iconst 4, 1) := by decide +kernel
theorem d_LW_law_275 : decode b_LW_law 275 = .ok (.iadd, 1) := by decide +kernel
theorem d_LW_law_276 : decode b_LW_law 276 = .ok (.iaload, 1) := by decide +kernel
theorem d_LW_law_277 : decode b_LW_law 277 = .ok (.invokestatic 95, 3) := by decide +kernel
theorem d_LW_law_280 : decode b_LW_law 280 = .ok (.istore 5, 2) := by decide +kernel
theorem d_LW_law_282 : decode b_LW_law 282 = .ok (.aload_n 2, 1) := by decide +kernel
theorem d_LW_law_283 : decode b_LW_law 283 = .ok (.aload_n 0, 1) := by decide +kernel
theorem d_LW_law_284 : decode b_LW_law 284 = .ok (.iload 4, 2) := by decide +kernel
theorem d_LW_law_286 : decode b_LW_law 286 = .ok (.iconst 1, 1) := by decide +kernel
theorem d_LW_law_287 : decode b_LW_law 287 = .ok (.iadd, 1) := by decide +kernel
theorem d_LW_law_288 : decode b_LW_law 288 = .ok (.iaload, 1) := by decide +kernel
theorem d_LW_law_289 : decode b_LW_law 289 = .ok (.aload_n 0, 1) := by decide +kernel
theorem d_LW_law_290 : decode b_LW_law 290 = .ok (.iload 4, 2) := by decide +kernel
theorem d_LW_law_292 : decode b_LW_law 292 = .ok (.iconst 2, 1) := by decide +kernel
theorem d_LW_law_293 : decode b_LW_law 293 = .ok (.iadd, 1) := by decide +kernel
theorem d_LW_law_294 : decode b_LW_law 294 = .ok (.iaload, 1) := by decide +kernel
theorem d_LW_law_295 : decode b_LW_law 295 = .ok (.aload_n 0, 1) := by decide +kernel
theorem d_LW_law_296 : decode b_LW_law 296 = .ok (.iload 4, 2) := by decide +kernel
theorem d_LW_law_298 : decode b_LW_law 298 = .ok (.iconst 3, 1) := by decide +kernel
theorem d_LW_law_299 : decode b_LW_law 299 = .ok (.iadd, 1) := by decide +kernel
theorem d_LW_law_300 : decode b_LW_law 300 = .ok (.iaload, 1) := by decide +kernel
theorem d_LW_law_301 : decode b_LW_law 301 = .ok (.aload_n 0, 1) := by decide +kernel
theorem d_LW_law_302 : decode b_LW_law 302 = .ok (.iload 4, 2) := by decide +kernel
theorem d_LW_law_304 : decode b_LW_law 304 = .ok (.iconst 4, 1) := by decide +kernel
theorem d_LW_law_305 : decode b_LW_law 305 = .ok (.iadd, 1) := by decide +kernel
theorem d_LW_law_306 : decode b_LW_law 306 = .ok (.iaload, 1) := by decide +kernel
theorem d_LW_law_307 : decode b_LW_law 307 = .ok (.invokevirtual 97, 3) := by decide +kernel
theorem d_LW_law_310 : decode b_LW_law 310 = .ok (.aload_n 2, 1) := by decide +kernel
theorem d_LW_law_311 : decode b_LW_law 311 = .ok (.invokevirtual 87, 3) := by decide +kernel
theorem d_LW_law_314 : decode b_LW_law 314 = .ok (.iload 5, 2) := by decide +kernel
theorem d_LW_law_316 : decode b_LW_law 316 = .ok (.if_icmp .eq 5, 3) := by decide +kernel
theorem d_LW_law_319 : decode b_LW_law 319 = .ok (.iconst 0, 1) := by decide +kernel
theorem d_LW_law_320 : decode b_LW_law 320 = .ok (.ireturn, 1) := by decide +kernel
theorem d_LW_law_321 : decode b_LW_law 321 = .ok (.goto 1081, 3) := by decide +kernel
theorem d_LW_law_324 : decode b_LW_law 324 = .ok (.aload_n 1, 1) := by decide +kernel
theorem d_LW_law_325 : decode b_LW_law 325 = .ok (.aload_n 0, 1) := by decide +kernel
theorem d_LW_law_326 : decode b_LW_law 326 = .ok (.iload 4, 2) := by decide +kernel
theorem d_LW_law_328 : decode b_LW_law 328 = .ok (.iconst 1, 1) := by decide +kernel
theorem d_LW_law_329 : decode b_LW_law 329 = .ok (.iadd, 1) := by decide +kernel
theorem d_LW_law_330 : decode b_LW_law 330 = .ok (.iaload, 1) := by decide +kernel
theorem d_LW_law_331 : decode b_LW_law 331 = .ok (.aload_n 0, 1) := by decide +kernel
theorem d_LW_law_332 : decode b_LW_law 332 = .ok (.iload 4, 2) := by decide +kernel
theorem d_LW_law_334 : decode b_LW_law 334 = .ok (.iconst 2, 1) := by decide +kernel
theorem d_LW_law_335 : decode b_LW_law 335 = .ok (.iadd, 1) := by decide +kernel
theorem d_LW_law_336 : decode b_LW_law 336 = .ok (.iaload, 1) := by decide +kernel
theorem d_LW_law_337 : decode b_LW_law 337 = .ok (.aload_n 0, 1) := by decide +kernel
end
section
theorem d_LW_law_338 : decode b_LW_law 338 = .ok (.iload 4, 2) := by decide +kernel
theorem d_LW_law_340 : decode b_LW_law 340 = .ok (.iconst 3, 1) := by decide +kernel
theorem d_LW_law_341 : decode b_LW_law 341 = .ok (.iadd, 1) := by decide +kernel
theorem d_LW_law_342 : decode b_LW_law 342 = .ok (.iaload, 1) := by decide +kernel
theorem d_LW_law_343 : decode b_LW_law 343 = .ok (.aload_n 0, 1) := by decide +kernel
theorem d_LW_law_344 : decode b_LW_law 344 = .ok (.iload 4, 2) := by decide +kernel
theorem d_LW_law_346 : decode b_LW_law 346 = .ok (.iconst 4, 1) := by decide +kernel
theorem d_LW_law_347 : decode b_LW_law 347 = .ok (.iadd, 1) := by decide +kernel
theorem d_LW_law_348 : decode b_LW_law 348 = .ok (.iaload, 1) := by decide +kernel
theorem d_LW_law_349 : decode b_LW_law 349 = .ok (.ifCond .eq 7, 3) := by decide +kernel
theorem d_LW_law_352 : decode b_LW_law 352 = .ok (.iconst 1, 1) := by decide +kernel
theorem d_LW_law_353 : decode b_LW_law 353 = .ok (.goto 4, 3) := by decide +kernel
theorem d_LW_law_356 : decode b_LW_law 356 = .ok (.iconst 0, 1) := by decide +kernel
theorem d_LW_law_357 : decode b_LW_law 357 = .ok (.invokestatic 98, 3) := by decide +kernel
theorem d_LW_law_360 : decode b_LW_law 360 = .ok (.istore 5, 2) := by decide +kernel
theorem d_LW_law_362 : decode b_LW_law 362 = .ok (.aload_n 2, 1) := by decide +kernel
theorem d_LW_law_363 : decode b_LW_law 363 = .ok (.aload_n 0, 1) := by decide +kernel
theorem d_LW_law_364 : decode b_LW_law 364 = .ok (.iload 4, 2) := by decide +kernel
theorem d_LW_law_366 : decode b_LW_law 366 = .ok (.iconst 1, 1) := by decide +kernel
theorem d_LW_law_367 : decode b_LW_law 367 = .ok (.iadd, 1) := by decide +kernel
theorem d_LW_law_368 : decode b_LW_law 368 = .ok (.iaload, 1) := by decide +kernel
theorem d_LW_law_369 : decode b_LW_law 369 = .ok (.aload_n 0, 1) := by decide +kernel
theorem d_LW_law_370 : decode b_LW_law 370 = .ok (.iload 4, 2) := by decide +kernel
theorem d_LW_law_372 : decode b_LW_law 372 = .ok (.iconst 2, 1) := by decide +kernel
theorem d_LW_law_373 : decode b_LW_law 373 = .ok (.iadd, 1) := by decide +kernel
theorem d_LW_law_374 : decode b_LW_law 374 = .ok (.iaload, 1) := by decide +kernel
theorem d_LW_law_375 : decode b_LW_law 375 = .ok (.aload_n 0, 1) := by decide +kernel
theorem d_LW_law_376 : decode b_LW_law 376 = .ok (.iload 4, 2) := by decide +kernel
theorem d_LW_law_378 : decode b_LW_law 378 = .ok (.iconst 3, 1) := by decide +kernel
theorem d_LW_law_379 : decode b_LW_law 379 = .ok (.iadd, 1) := by decide +kernel
theorem d_LW_law_380 : decode b_LW_law 380 = .ok (.iaload, 1) := by decide +kernel
theorem d_LW_law_381 : decode b_LW_law 381 = .ok (.aload_n 0, 1) := by decide +kernel
theorem d_LW_law_382 : decode b_LW_law 382 = .ok (.iload 4, 2) := by decide +kernel
theorem d_LW_law_384 : decode b_LW_law 384 = .ok (.iconst 4, 1) := by decide +kernel
theorem d_LW_law_385 : decode b_LW_law 385 = .ok (.iadd, 1) := by decide +kernel
theorem d_LW_law_386 : decode b_LW_law 386 = .ok (.iaload, 1) := by decide +kernel
theorem d_LW_law_387 : decode b_LW_law 387 = .ok (.ifCond .eq 7, 3) := by decide +kernel
theorem d_LW_law_390 : decode b_LW_law 390 = .ok (.iconst 1, 1) := by decide +kernel
theorem d_LW_law_391 : decode b_LW_law 391 = .ok (.goto 4, 3) := by decide +kernel
theorem d_LW_law_394 : decode b_LW_law 394 = .ok (.iconst 0, 1) := by decide +kernel
theorem d_LW_law_395 : decode b_LW_law 395 = .ok (.invokevirtual 101, 3) := by decide +kernel
theorem d_LW_law_398 : decode b_LW_law 398 = .ok (.aload_n 2, 1) := by decide +kernel
theorem d_LW_law_399 : decode b_LW_law 399 = .ok (.invokevirtual 87, 3) := by decide +kernel
theorem d_LW_law_402 : decode b_LW_law 402 = .ok (.iload 5, 2) := by decide +kernel
theorem d_LW_law_404 : decode b_LW_law 404 = .ok (.if_icmp .eq 5, 3) := by decide +kernel
theorem d_LW_law_407 : decode b_LW_law 407 = .ok (.iconst 0, 1) := by decide +kernel
theorem d_LW_law_408 : decode b_LW_law 408 = .ok (.ireturn, 1) := by decide +kernel
theorem d_LW_law_409 : decode b_LW_law 409 = .ok (.goto 993, 3) := by decide +kernel
theorem d_LW_law_412 : decode b_LW_law 412 = .ok (.aload_n 1, 1) := by decide +kernel
theorem d_LW_law_413 : decode b_LW_law 413 = .ok (.aload_n 0, 1) := by decide +kernel
theorem d_LW_law_414 : decode b_LW_law 414 = .ok (.iload 4, 2) := by decide +kernel
theorem d_LW_law_416 : decode b_LW_law 416 = .ok (.iconst 1, 1) := by decide +kernel
theorem d_LW_law_417 : decode b_LW_law 417 = .ok (.iadd, 1) := by decide +kernel
theorem d_LW_law_418 : decode b_LW_law 418 = .ok (.iaload, 1) := by decide +kernel
theorem d_LW_law_419 : decode b_LW_law 419 = .ok (.aload_n 0, 1) := by decide +kernel
theorem d_LW_law_420 : decode b_LW_law 420 = .ok (.iload 4, 2) := by decide +kernel
theorem d_LW_law_422 : decode b_LW_law 422 = .ok (.iconst 2, 1) := by decide +kernel
theorem d_LW_law_423 : decode b_LW_law 423 = .ok (.iadd, 1) := by decide +kernel
theorem d_LW_law_424 : decode b_LW_law 424 = .ok (.iaload, 1) := by decide +kernel
theorem d_LW_law_425 : decode b_LW_law 425 = .ok (.aload_n 0, 1) := by decide +kernel
theorem d_LW_law_426 : decode b_LW_law 426 = .ok (.iload 4, 2) := by decide +kernel
theorem d_LW_law_428 : decode b_LW_law 428 = .ok (.iconst 3, 1) := by decide +kernel
theorem d_LW_law_429 : decode b_LW_law 429 = .ok (.iadd, 1) := by decide +kernel
theorem d_LW_law_430 : decode b_LW_law 430 = .ok (.iaload, 1) := by decide +kernel
theorem d_LW_law_431 : decode b_LW_law 431 = .ok (.aload_n 0, 1) := by decide +kernel
theorem d_LW_law_432 : decode b_LW_law 432 = .ok (.iload 4, 2) := by decide +kernel
theorem d_LW_law_434 : decode b_LW_law 434 = .ok (.iconst 4, 1) := by decide +kernel
theorem d_LW_law_435 : decode b_LW_law 435 = .ok (.iadd, 1) := by decide +kernel
theorem d_LW_law_436 : decode b_LW_law 436 = .ok (.iaload, 1) := by decide +kernel
theorem d_LW_law_437 : decode b_LW_law 437 = .ok (.invokestatic 102, 3) := by decide +kernel
theorem d_LW_law_440 : decode b_LW_law 440 = .ok (.istore 5, 2) := by decide +kernel
theorem d_LW_law_442 : decode b_LW_law 442 = .ok (.aload_n 2, 1) := by decide +kernel
theorem d_LW_law_443 : decode b_LW_law 443 = .ok (.aload_n 0, 1) := by decide +kernel
theorem d_LW_law_444 : decode b_LW_law 444 = .ok (.iload 4, 2) := by decide +kernel
theorem d_LW_law_446 : decode b_LW_law 446 = .ok (.iconst 1, 1) := by decide +kernel
theorem d_LW_law_447 : decode b_LW_law 447 = .ok (.iadd, 1) := by decide +kernel
theorem d_LW_law_448 : decode b_LW_law 448 = .ok (.iaload, 1) := by decide +kernel
theorem d_LW_law_449 : decode b_LW_law 449 = .ok (.aload_n 0, 1) := by decide +kernel
theorem d_LW_law_450 : decode b_LW_law 450 = .ok (.iload 4, 2) := by decide +kernel
theorem d_LW_law_452 : decode b_LW_law 452 = .ok (.iconst 2, 1) := by decide +kernel
theorem d_LW_law_453 : decode b_LW_law 453 = .ok (.iadd, 1) := by decide +kernel
theorem d_LW_law_454 : decode b_LW_law 454 = .ok (.iaload, 1) := by decide +kernel
theorem d_LW_law_455 : decode b_LW_law 455 = .ok (.aload_n 0, 1) := by decide +kernel
theorem d_LW_law_456 : decode b_LW_law 456 = .ok (.iload 4, 2) := by decide +kernel
theorem d_LW_law_458 : decode b_LW_law 458 = .ok (.iconst 3, 1) := by decide +kernel
theorem d_LW_law_459 : decode b_LW_law 459 = .ok (.iadd, 1) := by decide +kernel
theorem d_LW_law_460 : decode b_LW_law 460 = .ok (.iaload, 1) := by decide +kernel
theorem d_LW_law_461 : decode b_LW_law 461 = .ok (.aload_n 0, 1) := by decide +kernel
theorem d_LW_law_462 : decode b_LW_law 462 = .ok (.iload 4, 2) := by decide +kernel
theorem d_LW_law_464 : decode b_LW_law 464 = .ok (.iconst 4, 1) := by decide +kernel
theorem d_LW_law_465 : decode b_LW_law 465 = .ok (.iadd, 1) := by decide +kernel
theorem d_LW_law_466 : decode b_LW_law 466 = .ok (.iaload, 1) := by decide +kernel
theorem d_LW_law_467 : decode b_LW_law 467 = .ok (.invokevirtual 104, 3) := by decide +kernel
theorem d_LW_law_470 : decode b_LW_law 470 = .ok (.aload_n 2, 1) := by decide +kernel
theorem d_LW_law_471 : decode b_LW_law 471 = .ok (.invokevirtual 87, 3) := by decide +kernel
theorem d_LW_law_474 : decode b_LW_law 474 = .ok (.iload 5, 2) := by decide +kernel
theorem d_LW_law_476 : decode b_LW_law 476 = .ok (.if_icmp .eq 5, 3) := by decide +kernel
theorem d_LW_law_479 : decode b_LW_law 479 = .ok (.iconst 0, 1) := by decide +kernel
theorem d_LW_law_480 : decode b_LW_law 480 = .ok (.ireturn, 1) := by decide +kernel
theorem d_LW_law_481 : decode b_LW_law 481 = .ok (.goto 921, 3) := by decide +kernel
theorem d_LW_law_484 : decode b_LW_law 484 = .ok (.aload_n 1, 1) := by decide +kernel
theorem d_LW_law_485 : decode b_LW_law 485 = .ok (.aload_n 0, 1) := by decide +kernel
theorem d_LW_law_486 : decode b_LW_law 486 = .ok (.iload 4, 2) := by decide +kernel
theorem d_LW_law_488 : decode b_LW_law 488 = .ok (.iconst 1, 1) := by decide +kernel
theorem d_LW_law_489 : decode b_LW_law 489 = .ok (.iadd, 1) := by decide +kernel
theorem d_LW_law_490 : decode b_LW_law 490 = .ok (.iaload, 1) := by decide +kernel
theorem d_LW_law_491 : decode b_LW_law 491 = .ok (.aload_n 0, 1) := by decide +kernel
theorem d_LW_law_492 : decode b_LW_law 492 = .ok (.iload 4, 2) := by decide +kernel
theorem d_LW_law_494 : decode b_LW_law 494 = .ok (.iconst 2, 1) := by decide +kernel
theorem d_LW_law_495 : decode b_LW_law 495 = .ok (.iadd, 1) := by decide +kernel
theorem d_LW_law_496 : decode b_LW_law 496 = .ok (.iaload, 1) := by decide +kernel
theorem d_LW_law_497 : decode b_LW_law 497 = .ok (.aload_n 0, 1) := by decide +kernel
theorem d_LW_law_498 : decode b_LW_law 498 = .ok (.iload 4, 2) := by decide +kernel
theorem d_LW_law_500 : decode b_LW_law 500 = .ok (.iconst 3, 1) := by decide +kernel
theorem d_LW_law_501 : decode b_LW_law 501 = .ok (.iadd, 1) := by decide +kernel
theorem d_LW_law_502 : decode b_LW_law 502 = .ok (.iaload, 1) := by decide +kernel
theorem d_LW_law_503 : decode b_LW_law 503 = .ok (.aload_n 0, 1) := by decide +kernel
theorem d_LW_law_504 : decode b_LW_law 504 = .ok (.iload 4, 2) := by decide +kernel
theorem d_LW_law_506 : decode b_LW_law 506 = .ok (.iconst 4, 1) := by decide +kernel
theorem d_LW_law_507 : decode b_LW_law 507 = .ok (.iadd, 1) := by decide +kernel
theorem d_LW_law_508 : decode b_LW_law 508 = .ok (.iaload, 1) := by decide +kernel
theorem d_LW_law_509 : decode b_LW_law 509 = .ok (.ifCond .eq 7, 3) := by decide +kernel
theorem d_LW_law_512 : decode b_LW_law 512 = .ok (.iconst 1, 1) := by decide +kernel
theorem d_LW_law_513 : decode b_LW_law 513 = .ok (.goto 4, 3) := by decide +kernel
theorem d_LW_law_516 : decode b_LW_law 516 = .ok (.iconst 0, 1) := by decide +kernel
theorem d_LW_law_517 : decode b_LW_law 517 = .ok (.invokestatic 105, 3) := by decide +kernel
theorem d_LW_law_520 : decode b_LW_law 520 = .ok (.istore 5, 2) := by decide +kernel
theorem d_LW_law_522 : decode b_LW_law 522 = .ok (.aload_n 2, 1) := by decide +kernel
theorem d_LW_law_523 : decode b_LW_law 523 = .ok (.aload_n 0, 1) := by decide +kernel
theorem d_LW_law_524 : decode b_LW_law 524 = .ok (.iload 4, 2) := by decide +kernel
theorem d_LW_law_526 : decode b_LW_law 526 = .ok (.iconst 1, 1) := by decide +kernel
theorem d_LW_law_527 : decode b_LW_law 527 = .ok (.iadd, 1) := by decide +kernel
theorem d_LW_law_528 : decode b_LW_law 528 = .ok (.iaload, 1) := by decide +kernel
theorem d_LW_law_529 : decode b_LW_law 529 = .ok (.aload_n 0, 1) := by decide +kernel
theorem d_LW_law_530 : decode b_LW_law 530 = .ok (.iload 4, 2) := by decide +kernel
theorem d_LW_law_532 : decode b_LW_law 532 = .ok (.iconst 2, 1) := by decide +kernel
theorem d_LW_law_533 : decode b_LW_law 533 = .ok (.iadd, 1) := by decide +kernel
theorem d_LW_law_534 : decode b_LW_law 534 = .ok (.iaload, 1) := by decide +kernel
theorem d_LW_law_535 : decode b_LW_law 535 = .ok (.aload_n 0, 1) := by decide +kernel
theorem d_LW_law_536 : decode b_LW_law 536 = .ok (.iload 4, 2) := by decide +kernel
theorem d_LW_law_538 : decode b_LW_law 538 = .ok (.iconst 3, 1) := by decide +kernel
theorem d_LW_law_539 : decode b_LW_law 539 = .ok (.iadd, 1) := by decide +kernel
theorem d_LW_law_540 : decode b_LW_law 540 = .ok (.iaload, 1) := by decide +kernel
theorem d_LW_law_541 : decode b_LW_law 541 = .ok (.aload_n 0, 1) := by decide +kernel
theorem d_LW_law_542 : decode b_LW_law 542 = .ok (.iload 4, 2) := by decide +kernel
theorem d_LW_law_544 : decode b_LW_law 544 = .ok (.iconst 4, 1) := by decide +kernel
theorem d_LW_law_545 : decode b_LW_law 545 = .ok (.iadd, 1) := by decide +kernel
theorem d_LW_law_546 : decode b_LW_law 546 = .ok (.iaload, 1) := by decide +kernel
theorem d_LW_law_547 : decode b_LW_law 547 = .ok (.ifCond .eq 7, 3) := by decide +kernel
theorem d_LW_law_550 : decode b_LW_law 550 = .ok (.iconst 1, 1) := by decide +kernel
theorem d_LW_law_551 : decode b_LW_law 551 = .ok (.goto 4, 3) := by decide +kernel
theorem d_LW_law_554 : decode b_LW_law 554 = .ok (.iconst 0, 1) := by decide +kernel
theorem d_LW_law_555 : decode b_LW_law 555 = .ok (.invokevirtual 107, 3) := by decide +kernel
theorem d_LW_law_558 : decode b_LW_law 558 = .ok (.aload_n 2, 1) := by decide +kernel
theorem d_LW_law_559 : decode b_LW_law 559 = .ok (.invokevirtual 87, 3) := by decide +kernel
theorem d_LW_law_562 : decode b_LW_law 562 = .ok (.iload 5, 2) := by decide +kernel
theorem d_LW_law_564 : decode b_LW_law 564 = .ok (.if_icmp .eq 5, 3) := by decide +kernel
theorem d_LW_law_567 : decode b_LW_law 567 = .ok (.iconst 0, 1) := by decide +kernel
theorem d_LW_law_568 : decode b_LW_law 568 = .ok (.ireturn, 1) := by decide +kernel
theorem d_LW_law_569 : decode b_LW_law 569 = .ok (.goto 833, 3) := by decide +kernel
theorem d_LW_law_572 : decode b_LW_law 572 = .ok (.aload_n 1, 1) := by decide +kernel
theorem d_LW_law_573 : decode b_LW_law 573 = .ok (.aload_n 0, 1) := by decide +kernel
theorem d_LW_law_574 : decode b_LW_law 574 = .ok (.iload 4, 2) := by decide +kernel
theorem d_LW_law_576 : decode b_LW_law 576 = .ok (.iconst 1, 1) := by decide +kernel
theorem d_LW_law_577 : decode b_LW_law 577 = .ok (.iadd, 1) := by decide +kernel
theorem d_LW_law_578 : decode b_LW_law 578 = .ok (.iaload, 1) := by decide +kernel
theorem d_LW_law_579 : decode b_LW_law 579 = .ok (.i2l, 1) := by decide +kernel
theorem d_LW_law_580 : decode b_LW_law 580 = .ok (.bipush 32, 2) := by decide +kernel
theorem d_LW_law_582 : decode b_LW_law 582 = .ok (.lshl, 1) := by decide +kernel
theorem d_LW_law_583 : decode b_LW_law 583 = .ok (.aload_n 0, 1) := by decide +kernel
theorem d_LW_law_584 : decode b_LW_law 584 = .ok (.iload 4, 2) := by decide +kernel
theorem d_LW_law_586 : decode b_LW_law 586 = .ok (.iconst 2, 1) := by decide +kernel
theorem d_LW_law_587 : decode b_LW_law 587 = .ok (.iadd, 1) := by decide +kernel
theorem d_LW_law_588 : decode b_LW_law 588 = .ok (.iaload, 1) := by decide +kernel
theorem d_LW_law_589 : decode b_LW_law 589 = .ok (.i2l, 1) := by decide +kernel
theorem d_LW_law_590 : decode b_LW_law 590 = .ok (.ldc2_w 108, 3) := by decide +kernel
theorem d_LW_law_593 : decode b_LW_law 593 = .ok (.land, 1) := by decide +kernel
theorem d_LW_law_594 : decode b_LW_law 594 = .ok (.lor, 1) := by decide +kernel
theorem d_LW_law_595 : decode b_LW_law 595 = .ok (.aload_n 0, 1) := by decide +kernel
theorem d_LW_law_596 : decode b_LW_law 596 = .ok (.iload 4, 2) := by decide +kernel
theorem d_LW_law_598 : decode b_LW_law 598 = .ok (.iconst 3, 1) := by decide +kernel
theorem d_LW_law_599 : decode b_LW_law 599 = .ok (.iadd, 1) := by decide +kernel
theorem d_LW_law_600 : decode b_LW_law 600 = .ok (.iaload, 1) := by decide +kernel
theorem d_LW_law_601 : decode b_LW_law 601 = .ok (.aload_n 3, 1) := by decide +kernel
theorem d_LW_law_602 : decode b_LW_law 602 = .ok (.invokestatic 110, 3) := by decide +kernel
theorem d_LW_law_605 : decode b_LW_law 605 = .ok (.istore 5, 2) := by decide +kernel
theorem d_LW_law_607 : decode b_LW_law 607 = .ok (.aload_n 2, 1) := by decide +kernel
theorem d_LW_law_608 : decode b_LW_law 608 = .ok (.aload_n 0, 1) := by decide +kernel
theorem d_LW_law_609 : decode b_LW_law 609 = .ok (.iload 4, 2) := by decide +kernel
theorem d_LW_law_611 : decode b_LW_law 611 = .ok (.iconst 1, 1) := by decide +kernel
theorem d_LW_law_612 : decode b_LW_law 612 = .ok (.iadd, 1) := by decide +kernel
theorem d_LW_law_613 : decode b_LW_law 613 = .ok (.iaload, 1) := by decide +kernel
theorem d_LW_law_614 : decode b_LW_law 614 = .ok (.i2l, 1) := by decide +kernel
theorem d_LW_law_615 : decode b_LW_law 615 = .ok (.bipush 32, 2) := by decide +kernel
theorem d_LW_law_617 : decode b_LW_law 617 = .ok (.lshl, 1) := by decide +kernel
theorem d_LW_law_618 : decode b_LW_law 618 = .ok (.aload_n 0, 1) := by decide +kernel
theorem d_LW_law_619 : decode b_LW_law 619 = .ok (.iload 4, 2) := by decide +kernel
theorem d_LW_law_621 : decode b_LW_law 621 = .ok (.iconst 2, 1) := by decide +kernel
theorem d_LW_law_622 : decode b_LW_law 622 = .ok (.iadd, 1) := by decide +kernel
theorem d_LW_law_623 : decode b_LW_law 623 = .ok (.iaload, 1) := by decide +kernel
theorem d_LW_law_624 : decode b_LW_law 624 = .ok (.i2l, 1) := by decide +kernel
theorem d_LW_law_625 : decode b_LW_law 625 = .ok (.ldc2_w 108, 3) := by decide +kernel
theorem d_LW_law_628 : decode b_LW_law 628 = .ok (.land, 1) := by decide +kernel
theorem d_LW_law_629 : decode b_LW_law 629 = .ok (.lor, 1) := by decide +kernel
theorem d_LW_law_630 : decode b_LW_law 630 = .ok (.aload_n 0, 1) := by decide +kernel
theorem d_LW_law_631 : decode b_LW_law 631 = .ok (.iload 4, 2) := by decide +kernel
theorem d_LW_law_633 : decode b_LW_law 633 = .ok (.iconst 3, 1) := by decide +kernel
theorem d_LW_law_634 : decode b_LW_law 634 = .ok (.iadd, 1) := by decide +kernel
theorem d_LW_law_635 : decode b_LW_law 635 = .ok (.iaload, 1) := by decide +kernel
theorem d_LW_law_636 : decode b_LW_law 636 = .ok (.invokevirtual 113, 3) := by decide +kernel
theorem d_LW_law_639 : decode b_LW_law 639 = .ok (.istore 6, 2) := by decide +kernel
theorem d_LW_law_641 : decode b_LW_law 641 = .ok (.aload_n 2, 1) := by decide +kernel
theorem d_LW_law_642 : decode b_LW_law 642 = .ok (.invokevirtual 87, 3) := by decide +kernel
theorem d_LW_law_645 : decode b_LW_law 645 = .ok (.iload 5, 2) := by decide +kernel
theorem d_LW_law_647 : decode b_LW_law 647 = .ok (.if_icmp .eq 5, 3) := by decide +kernel
theorem d_LW_law_650 : decode b_LW_law 650 = .ok (.iconst 0, 1) := by decide +kernel
theorem d_LW_law_651 : decode b_LW_law 651 = .ok (.ireturn, 1) := by decide +kernel
theorem d_LW_law_652 : decode b_LW_law 652 = .ok (.iload 5, 2) := by decide +kernel
theorem d_LW_law_654 : decode b_LW_law 654 = .ok (.ifCond .ne 15, 3) := by decide +kernel
theorem d_LW_law_657 : decode b_LW_law 657 = .ok (.aload_n 3, 1) := by decide +kernel
theorem d_LW_law_658 : decode b_LW_law 658 = .ok (.iconst 0, 1) := by decide +kernel
theorem d_LW_law_659 : decode b_LW_law 659 = .ok (.laload, 1) := by decide +kernel
theorem d_LW_law_660 : decode b_LW_law 660 = .ok (.iload 6, 2) := by decide +kernel
theorem d_LW_law_662 : decode b_LW_law 662 = .ok (.i2l, 1) := by decide +kernel
theorem d_LW_law_663 : decode b_LW_law 663 = .ok (.lcmp, 1) := by decide +kernel
theorem d_LW_law_664 : decode b_LW_law 664 = .ok (.ifCond .eq 5, 3) := by decide +kernel
theorem d_LW_law_667 : decode b_LW_law 667 = .ok (.iconst 0, 1) := by decide +kernel
theorem d_LW_law_668 : decode b_LW_law 668 = .ok (.ireturn, 1) := by decide +kernel
theorem d_LW_law_669 : decode b_LW_law 669 = .ok (.goto 733, 3) := by decide +kernel
theorem d_LW_law_672 : decode b_LW_law 672 = .ok (.aload_n 1, 1) := by decide +kernel
theorem d_LW_law_673 : decode b_LW_law 673 = .ok (.aload_n 0, 1) := by decide +kernel
theorem d_LW_law_674 : decode b_LW_law 674 = .ok (.iload 4, 2) := by decide +kernel
theorem d_LW_law_676 : decode b_LW_law 676 = .ok (.iconst 1, 1) := by decide +kernel
theorem d_LW_law_677 : decode b_LW_law 677 = .ok (.iadd, 1) := by decide +kernel
theorem d_LW_law_678 : decode b_LW_law 678 = .ok (.iaload, 1) := by decide +kernel
theorem d_LW_law_679 : decode b_LW_law 679 = .ok (.aload_n 3, 1) := by decide +kernel
theorem d_LW_law_680 : decode b_LW_law 680 = .ok (.invokestatic 114, 3) := by decide +kernel
theorem d_LW_law_683 : decode b_LW_law 683 = .ok (.istore 5, 2) := by decide +kernel
theorem d_LW_law_685 : decode b_LW_law 685 = .ok (.aload_n 2, 1) := by decide +kernel
theorem d_LW_law_686 : decode b_LW_law 686 = .ok (.aload_n 0, 1) := by decide +kernel
theorem d_LW_law_687 : decode b_LW_law 687 = .ok (.iload 4, 2) := by decide +kernel
theorem d_LW_law_689 : decode b_LW_law 689 = .ok (.iconst 1, 1) := by decide +kernel
theorem d_LW_law_690 : decode b_LW_law 690 = .ok (.iadd, 1) := by decide +kernel
theorem d_LW_law_691 : decode b_LW_law 691 = .ok (.iaload, 1) := by decide +kernel
theorem d_LW_law_692 : decode b_LW_law 692 = .ok (.invokevirtual 117, 3) := by decide +kernel
theorem d_LW_law_695 : decode b_LW_law 695 = .ok (.istore 6, 2) := by decide +kernel
theorem d_LW_law_697 : decode b_LW_law 697 = .ok (.aload_n 2, 1) := by decide +kernel
theorem d_LW_law_698 : decode b_LW_law 698 = .ok (.invokevirtual 87, 3) := by decide +kernel
theorem d_LW_law_701 : decode b_LW_law 701 = .ok (.iload 5, 2) := by decide +kernel
theorem d_LW_law_703 : decode b_LW_law 703 = .ok (.if_icmp .eq 5, 3) := by decide +kernel
theorem d_LW_law_706 : decode b_LW_law 706 = .ok (.iconst 0, 1) := by decide +kernel
theorem d_LW_law_707 : decode b_LW_law 707 = .ok (.ireturn, 1) := by decide +kernel
theorem d_LW_law_708 : decode b_LW_law 708 = .ok (.iload 5, 2) := by decide +kernel
theorem d_LW_law_710 : decode b_LW_law 710 = .ok (.ifCond .ne 15, 3) := by decide +kernel
theorem d_LW_law_713 : decode b_LW_law 713 = .ok (.aload_n 3, 1) := by decide +kernel
theorem d_LW_law_714 : decode b_LW_law 714 = .ok (.iconst 0, 1) := by decide +kernel
theorem d_LW_law_715 : decode b_LW_law 715 = .ok (.laload, 1) := by decide +kernel
theorem d_LW_law_716 : decode b_LW_law 716 = .ok (.iload 6, 2) := by decide +kernel
theorem d_LW_law_718 : decode b_LW_law 718 = .ok (.i2l, 1) := by decide +kernel
theorem d_LW_law_719 : decode b_LW_law 719 = .ok (.lcmp, 1) := by decide +kernel
theorem d_LW_law_720 : decode b_LW_law 720 = .ok (.ifCond .eq 5, 3) := by decide +kernel
theorem d_LW_law_723 : decode b_LW_law 723 = .ok (.iconst 0, 1) := by decide +kernel
theorem d_LW_law_724 : decode b_LW_law 724 = .ok (.ireturn, 1) := by decide +kernel
theorem d_LW_law_725 : decode b_LW_law 725 = .ok (.goto 677, 3) := by decide +kernel
theorem d_LW_law_728 : decode b_LW_law 728 = .ok (.aload_n 1, 1) := by decide +kernel
theorem d_LW_law_729 : decode b_LW_law 729 = .ok (.aload_n 0, 1) := by decide +kernel
theorem d_LW_law_730 : decode b_LW_law 730 = .ok (.iload 4, 2) := by decide +kernel
theorem d_LW_law_732 : decode b_LW_law 732 = .ok (.iconst 1, 1) := by decide +kernel
theorem d_LW_law_733 : decode b_LW_law 733 = .ok (.iadd, 1) := by decide +kernel
theorem d_LW_law_734 : decode b_LW_law 734 = .ok (.iaload, 1) := by decide +kernel
theorem d_LW_law_735 : decode b_LW_law 735 = .ok (.aload_n 3, 1) := by decide +kernel
theorem d_LW_law_736 : decode b_LW_law 736 = .ok (.invokestatic 118, 3) := by decide +kernel
theorem d_LW_law_739 : decode b_LW_law 739 = .ok (.istore 5, 2) := by decide +kernel
theorem d_LW_law_741 : decode b_LW_law 741 = .ok (.aload_n 2, 1) := by decide +kernel
theorem d_LW_law_742 : decode b_LW_law 742 = .ok (.aload_n 0, 1) := by decide +kernel
theorem d_LW_law_743 : decode b_LW_law 743 = .ok (.iload 4, 2) := by decide +kernel
theorem d_LW_law_745 : decode b_LW_law 745 = .ok (.iconst 1, 1) := by decide +kernel
theorem d_LW_law_746 : decode b_LW_law 746 = .ok (.iadd, 1) := by decide +kernel
theorem d_LW_law_747 : decode b_LW_law 747 = .ok (.iaload, 1) := by decide +kernel
theorem d_LW_law_748 : decode b_LW_law 748 = .ok (.invokevirtual 120, 3) := by decide +kernel
theorem d_LW_law_751 : decode b_LW_law 751 = .ok (.istore 6, 2) := by decide +kernel
theorem d_LW_law_753 : decode b_LW_law 753 = .ok (.aload_n 2, 1) := by decide +kernel
theorem d_LW_law_754 : decode b_LW_law 754 = .ok (.invokevirtual 87, 3) := by decide +kernel
theorem d_LW_law_757 : decode b_LW_law 757 = .ok (.iload 5, 2) := by decide +kernel
theorem d_LW_law_759 : decode b_LW_law 759 = .ok (.if_icmp .eq 5, 3) := by decide +kernel
theorem d_LW_law_762 : decode b_LW_law 762 = .ok (.iconst 0, 1) := by decide +kernel
theorem d_LW_law_763 : decode b_LW_law 763 = .ok (.ireturn, 1) := by decide +kernel
theorem d_LW_law_764 : decode b_LW_law 764 = .ok (.iload 5, 2) := by decide +kernel
theorem d_LW_law_766 : decode b_LW_law 766 = .ok (.ifCond .ne 22, 3) := by decide +kernel
theorem d_LW_law_769 : decode b_LW_law 769 = .ok (.aload_n 3, 1) := by decide +kernel
theorem d_LW_law_770 : decode b_LW_law 770 = .ok (.iconst 0, 1) := by decide +kernel
theorem d_LW_law_771 : decode b_LW_law 771 = .ok (.laload, 1) := by decide +kernel
theorem d_LW_law_772 : decode b_LW_law 772 = .ok (.iload 6, 2) := by decide +kernel
theorem d_LW_law_774 : decode b_LW_law 774 = .ok (.ifCond .eq 7, 3) := by decide +kernel
theorem d_LW_law_777 : decode b_LW_law 777 = .ok (.lconst 1, 1) := by decide +kernel
theorem d_LW_law_778 : decode b_LW_law 778 = .ok (.goto 4, 3) := by decide +kernel
theorem d_LW_law_781 : decode b_LW_law 781 = .ok (.lconst 0, 1) := by decide +kernel
theorem d_LW_law_782 : decode b_LW_law 782 = .ok (.lcmp, 1) := by decide +kernel
theorem d_LW_law_783 : decode b_LW_law 783 = .ok (.ifCond .eq 5, 3) := by decide +kernel
theorem d_LW_law_786 : decode b_LW_law 786 = .ok (.iconst 0, 1) := by decide +kernel
theorem d_LW_law_787 : decode b_LW_law 787 = .ok (.ireturn, 1) := by decide +kernel
theorem d_LW_law_788 : decode b_LW_law 788 = .ok (.goto 614, 3) := by decide +kernel
theorem d_LW_law_791 : decode b_LW_law 791 = .ok (.aload_n 1, 1) := by decide +kernel
theorem d_LW_law_792 : decode b_LW_law 792 = .ok (.aload_n 0, 1) := by decide +kernel
theorem d_LW_law_793 : decode b_LW_law 793 = .ok (.iload 4, 2) := by decide +kernel
theorem d_LW_law_795 : decode b_LW_law 795 = .ok (.iconst 1, 1) := by decide +kernel
theorem d_LW_law_796 : decode b_LW_law 796 = .ok (.iadd, 1) := by decide +kernel
theorem d_LW_law_797 : decode b_LW_law 797 = .ok (.iaload, 1) := by decide +kernel
theorem d_LW_law_798 : decode b_LW_law 798 = .ok (.aload_n 0, 1) := by decide +kernel
theorem d_LW_law_799 : decode b_LW_law 799 = .ok (.iload 4, 2) := by decide +kernel
theorem d_LW_law_801 : decode b_LW_law 801 = .ok (.iconst 2, 1) := by decide +kernel
theorem d_LW_law_802 : decode b_LW_law 802 = .ok (.iadd, 1) := by decide +kernel
theorem d_LW_law_803 : decode b_LW_law 803 = .ok (.iaload, 1) := by decide +kernel
theorem d_LW_law_804 : decode b_LW_law 804 = .ok (.aload_n 3, 1) := by decide +kernel
theorem d_LW_law_805 : decode b_LW_law 805 = .ok (.invokestatic 121, 3) := by decide +kernel
theorem d_LW_law_808 : decode b_LW_law 808 = .ok (.istore 5, 2) := by decide +kernel
theorem d_LW_law_810 : decode b_LW_law 810 = .ok (.aload_n 2, 1) := by decide +kernel
theorem d_LW_law_811 : decode b_LW_law 811 = .ok (.aload_n 0, 1) := by decide +kernel
theorem d_LW_law_812 : decode b_LW_law 812 = .ok (.iload 4, 2) := by decide +kernel
theorem d_LW_law_814 : decode b_LW_law 814 = .ok (.iconst 1, 1) := by decide +kernel
theorem d_LW_law_815 : decode b_LW_law 815 = .ok (.iadd, 1) := by decide +kernel
theorem d_LW_law_816 : decode b_LW_law 816 = .ok (.iaload, 1) := by decide +kernel
theorem d_LW_law_817 : decode b_LW_law 817 = .ok (.aload_n 0, 1) := by decide +kernel
theorem d_LW_law_818 : decode b_LW_law 818 = .ok (.iload 4, 2) := by decide +kernel
theorem d_LW_law_820 : decode b_LW_law 820 = .ok (.iconst 2, 1) := by decide +kernel
theorem d_LW_law_821 : decode b_LW_law 821 = .ok (.iadd, 1) := by decide +kernel
theorem d_LW_law_822 : decode b_LW_law 822 = .ok (.iaload, 1) := by decide +kernel
theorem d_LW_law_823 : decode b_LW_law 823 = .ok (.invokevirtual 124, 3) := by decide +kernel
theorem d_LW_law_826 : decode b_LW_law 826 = .ok (.istore 6, 2) := by decide +kernel
theorem d_LW_law_828 : decode b_LW_law 828 = .ok (.aload_n 2, 1) := by decide +kernel
theorem d_LW_law_829 : decode b_LW_law 829 = .ok (.invokevirtual 87, 3) := by decide +kernel
theorem d_LW_law_832 : decode b_LW_law 832 = .ok (.iload 5, 2) := by decide +kernel
theorem d_LW_law_834 : decode b_LW_law 834 = .ok (.if_icmp .eq 5, 3) := by decide +kernel
theorem d_LW_law_837 : decode b_LW_law 837 = .ok (.iconst 0, 1) := by decide +kernel
theorem d_LW_law_838 : decode b_LW_law 838 = .ok (.ireturn, 1) := by decide +kernel
theorem d_LW_law_839 : decode b_LW_law 839 = .ok (.iload 5, 2) := by decide +kernel
theorem d_LW_law_841 : decode b_LW_law 841 = .ok (.ifCond .ne 22, 3) := by decide +kernel
theorem d_LW_law_844 : decode b_LW_law 844 = .ok (.aload_n 3, 1) := by decide +kernel
theorem d_LW_law_845 : decode b_LW_law 845 = .ok (.iconst 0, 1) := by decide +kernel
theorem d_LW_law_846 : decode b_LW_law 846 = .ok (.laload, 1) := by decide +kernel
theorem d_LW_law_847 : decode b_LW_law 847 = .ok (.iload 6, 2) := by decide +kernel
theorem d_LW_law_849 : decode b_LW_law 849 = .ok (.ifCond .eq 7, 3) := by decide +kernel
theorem d_LW_law_852 : decode b_LW_law 852 = .ok (.lconst 1, 1) := by decide +kernel
theorem d_LW_law_853 : decode b_LW_law 853 = .ok (.goto 4, 3) := by decide +kernel
theorem d_LW_law_856 : decode b_LW_law 856 = .ok (.lconst 0, 1) := by decide +kernel
theorem d_LW_law_857 : decode b_LW_law 857 = .ok (.lcmp, 1) := by decide +kernel
theorem d_LW_law_858 : decode b_LW_law 858 = .ok (.ifCond .eq 5, 3) := by decide +kernel
theorem d_LW_law_861 : decode b_LW_law 861 = .ok (.iconst 0, 1) := by decide +kernel
theorem d_LW_law_862 : decode b_LW_law 862 = .ok (.ireturn, 1) := by decide +kernel
theorem d_LW_law_863 : decode b_LW_law 863 = .ok (.goto 539, 3) := by decide +kernel
theorem d_LW_law_866 : decode b_LW_law 866 = .ok (.aload_n 1, 1) := by decide +kernel
theorem d_LW_law_867 : decode b_LW_law 867 = .ok (.aload_n 0, 1) := by decide +kernel
theorem d_LW_law_868 : decode b_LW_law 868 = .ok (.iload 4, 2) := by decide +kernel
theorem d_LW_law_870 : decode b_LW_law 870 = .ok (.iconst 1, 1) := by decide +kernel
theorem d_LW_law_871 : decode b_LW_law 871 = .ok (.iadd, 1) := by decide +kernel
theorem d_LW_law_872 : decode b_LW_law 872 = .ok (.iaload, 1) := by decide +kernel
theorem d_LW_law_873 : decode b_LW_law 873 = .ok (.aload_n 0, 1) := by decide +kernel
theorem d_LW_law_874 : decode b_LW_law 874 = .ok (.iload 4, 2) := by decide +kernel
theorem d_LW_law_876 : decode b_LW_law 876 = .ok (.iconst 2, 1) := by decide +kernel
theorem d_LW_law_877 : decode b_LW_law 877 = .ok (.iadd, 1) := by decide +kernel
theorem d_LW_law_878 : decode b_LW_law 878 = .ok (.iaload, 1) := by decide +kernel
theorem d_LW_law_879 : decode b_LW_law 879 = .ok (.aload_n 3, 1) := by decide +kernel
theorem d_LW_law_880 : decode b_LW_law 880 = .ok (.invokestatic 125, 3) := by decide +kernel
theorem d_LW_law_883 : decode b_LW_law 883 = .ok (.istore 5, 2) := by decide +kernel
theorem d_LW_law_885 : decode b_LW_law 885 = .ok (.aload_n 2, 1) := by decide +kernel
theorem d_LW_law_886 : decode b_LW_law 886 = .ok (.aload_n 0, 1) := by decide +kernel
theorem d_LW_law_887 : decode b_LW_law 887 = .ok (.iload 4, 2) := by decide +kernel
theorem d_LW_law_889 : decode b_LW_law 889 = .ok (.iconst 1, 1) := by decide +kernel
theorem d_LW_law_890 : decode b_LW_law 890 = .ok (.iadd, 1) := by decide +kernel
theorem d_LW_law_891 : decode b_LW_law 891 = .ok (.iaload, 1) := by decide +kernel
theorem d_LW_law_892 : decode b_LW_law 892 = .ok (.aload_n 0, 1) := by decide +kernel
theorem d_LW_law_893 : decode b_LW_law 893 = .ok (.iload 4, 2) := by decide +kernel
theorem d_LW_law_895 : decode b_LW_law 895 = .ok (.iconst 2, 1) := by decide +kernel
theorem d_LW_law_896 : decode b_LW_law 896 = .ok (.iadd, 1) := by decide +kernel
theorem d_LW_law_897 : decode b_LW_law 897 = .ok (.iaload, 1) := by decide +kernel
theorem d_LW_law_898 : decode b_LW_law 898 = .ok (.invokevirtual 127, 3) := by decide +kernel
theorem d_LW_law_901 : decode b_LW_law 901 = .ok (.istore 6, 2) := by decide +kernel
theorem d_LW_law_903 : decode b_LW_law 903 = .ok (.aload_n 2, 1) := by decide +kernel
theorem d_LW_law_904 : decode b_LW_law 904 = .ok (.invokevirtual 87, 3) := by decide +kernel
theorem d_LW_law_907 : decode b_LW_law 907 = .ok (.iload 5, 2) := by decide +kernel
theorem d_LW_law_909 : decode b_LW_law 909 = .ok (.if_icmp .eq 5, 3) := by decide +kernel
theorem d_LW_law_912 : decode b_LW_law 912 = .ok (.iconst 0, 1) := by decide +kernel
theorem d_LW_law_913 : decode b_LW_law 913 = .ok (.ireturn, 1) := by decide +kernel
theorem d_LW_law_914 : decode b_LW_law 914 = .ok (.iload 5, 2) := by decide +kernel
theorem d_LW_law_916 : decode b_LW_law 916 = .ok (.ifCond .ne 22, 3) := by decide +kernel
theorem d_LW_law_919 : decode b_LW_law 919 = .ok (.aload_n 3, 1) := by decide +kernel
theorem d_LW_law_920 : decode b_LW_law 920 = .ok (.iconst 0, 1) := by decide +kernel
theorem d_LW_law_921 : decode b_LW_law 921 = .ok (.laload, 1) := by decide +kernel
theorem d_LW_law_922 : decode b_LW_law 922 = .ok (.iload 6, 2) := by decide +kernel
theorem d_LW_law_924 : decode b_LW_law 924 = .ok (.ifCond .eq 7, 3) := by decide +kernel
theorem d_LW_law_927 : decode b_LW_law 927 = .ok (.lconst 1, 1) := by decide +kernel
theorem d_LW_law_928 : decode b_LW_law 928 = .ok (.goto 4, 3) := by decide +kernel
theorem d_LW_law_931 : decode b_LW_law 931 = .ok (.lconst 0, 1) := by decide +kernel
theorem d_LW_law_932 : decode b_LW_law 932 = .ok (.lcmp, 1) := by decide +kernel
theorem d_LW_law_933 : decode b_LW_law 933 = .ok (.ifCond .eq 5, 3) := by decide +kernel
theorem d_LW_law_936 : decode b_LW_law 936 = .ok (.iconst 0, 1) := by decide +kernel
theorem d_LW_law_937 : decode b_LW_law 937 = .ok (.ireturn, 1) := by decide +kernel
theorem d_LW_law_938 : decode b_LW_law 938 = .ok (.goto 464, 3) := by decide +kernel
theorem d_LW_law_941 : decode b_LW_law 941 = .ok (.aload_n 1, 1) := by decide +kernel
theorem d_LW_law_942 : decode b_LW_law 942 = .ok (.aload_n 0, 1) := by decide +kernel
end
section
theorem d_LW_law_943 : decode b_LW_law 943 = .ok (.iload 4, 2) := by decide +kernel
theorem d_LW_law_945 : decode b_LW_law 945 = .ok (.iconst 1, 1) := by decide +kernel
theorem d_LW_law_946 : decode b_LW_law 946 = .ok (.iadd, 1) := by decide +kernel
theorem d_LW_law_947 : decode b_LW_law 947 = .ok (.iaload, 1) := by decide +kernel
theorem d_LW_law_948 : decode b_LW_law 948 = .ok (.aload_n 3, 1) := by decide +kernel
theorem d_LW_law_949 : decode b_LW_law 949 = .ok (.invokestatic 128, 3) := by decide +kernel
theorem d_LW_law_952 : decode b_LW_law 952 = .ok (.istore 5, 2) := by decide +kernel
theorem d_LW_law_954 : decode b_LW_law 954 = .ok (.aload_n 2, 1) := by decide +kernel
theorem d_LW_law_955 : decode b_LW_law 955 = .ok (.aload_n 0, 1) := by decide +kernel
theorem d_LW_law_956 : decode b_LW_law 956 = .ok (.iload 4, 2) := by decide +kernel
theorem d_LW_law_958 : decode b_LW_law 958 = .ok (.iconst 1, 1) := by decide +kernel
theorem d_LW_law_959 : decode b_LW_law 959 = .ok (.iadd, 1) := by decide +kernel
theorem d_LW_law_960 : decode b_LW_law 960 = .ok (.iaload, 1) := by decide +kernel
theorem d_LW_law_961 : decode b_LW_law 961 = .ok (.invokevirtual 130, 3) := by decide +kernel
theorem d_LW_law_964 : decode b_LW_law 964 = .ok (.istore 6, 2) := by decide +kernel
theorem d_LW_law_966 : decode b_LW_law 966 = .ok (.aload_n 2, 1) := by decide +kernel
theorem d_LW_law_967 : decode b_LW_law 967 = .ok (.invokevirtual 87, 3) := by decide +kernel
theorem d_LW_law_970 : decode b_LW_law 970 = .ok (.iload 5, 2) := by decide +kernel
theorem d_LW_law_972 : decode b_LW_law 972 = .ok (.if_icmp .eq 5, 3) := by decide +kernel
theorem d_LW_law_975 : decode b_LW_law 975 = .ok (.iconst 0, 1) := by decide +kernel
theorem d_LW_law_976 : decode b_LW_law 976 = .ok (.ireturn, 1) := by decide +kernel
theorem d_LW_law_977 : decode b_LW_law 977 = .ok (.iload 5, 2) := by decide +kernel
theorem d_LW_law_979 : decode b_LW_law 979 = .ok (.ifCond .ne 15, 3) := by decide +kernel
theorem d_LW_law_982 : decode b_LW_law 982 = .ok (.aload_n 3, 1) := by decide +kernel
theorem d_LW_law_983 : decode b_LW_law 983 = .ok (.iconst 0, 1) := by decide +kernel
theorem d_LW_law_984 : decode b_LW_law 984 = .ok (.laload, 1) := by decide +kernel
theorem d_LW_law_985 : decode b_LW_law 985 = .ok (.iload 6, 2) := by decide +kernel
theorem d_LW_law_987 : decode b_LW_law 987 = .ok (.i2l, 1) := by decide +kernel
theorem d_LW_law_988 : decode b_LW_law 988 = .ok (.lcmp, 1) := by decide +kernel
theorem d_LW_law_989 : decode b_LW_law 989 = .ok (.ifCond .eq 5, 3) := by decide +kernel
theorem d_LW_law_992 : decode b_LW_law 992 = .ok (.iconst 0, 1) := by decide +kernel
theorem d_LW_law_993 : decode b_LW_law 993 = .ok (.ireturn, 1) := by decide +kernel
theorem d_LW_law_994 : decode b_LW_law 994 = .ok (.goto 408, 3) := by decide +kernel
theorem d_LW_law_997 : decode b_LW_law 997 = .ok (.aload_n 1, 1) := by decide +kernel
theorem d_LW_law_998 : decode b_LW_law 998 = .ok (.aload_n 0, 1) := by decide +kernel
theorem d_LW_law_999 : decode b_LW_law 999 = .ok (.iload 4, 2) := by decide +kernel
theorem d_LW_law_1001 : decode b_LW_law 1001 = .ok (.iconst 1, 1) := by decide +kernel
theorem d_LW_law_1002 : decode b_LW_law 1002 = .ok (.iadd, 1) := by decide +kernel
theorem d_LW_law_1003 : decode b_LW_law 1003 = .ok (.iaload, 1) := by decide +kernel
theorem d_LW_law_1004 : decode b_LW_law 1004 = .ok (.aload_n 3, 1) := by decide +kernel
theorem d_LW_law_1005 : decode b_LW_law 1005 = .ok (.invokestatic 131, 3) := by decide +kernel
theorem d_LW_law_1008 : decode b_LW_law 1008 = .ok (.istore 5, 2) := by decide +kernel
theorem d_LW_law_1010 : decode b_LW_law 1010 = .ok (.aload_n 2, 1) := by decide +kernel
theorem d_LW_law_1011 : decode b_LW_law 1011 = .ok (.aload_n 0, 1) := by decide +kernel
theorem d_LW_law_1012 : decode b_LW_law 1012 = .ok (.iload 4, 2) := by decide +kernel
theorem d_LW_law_1014 : decode b_LW_law 1014 = .ok (.iconst 1, 1) := by decide +kernel
theorem d_LW_law_1015 : decode b_LW_law 1015 = .ok (.iadd, 1) := by decide +kernel
theorem d_LW_law_1016 : decode b_LW_law 1016 = .ok (.iaload, 1) := by decide +kernel
theorem d_LW_law_1017 : decode b_LW_law 1017 = .ok (.invokevirtual 133, 3) := by decide +kernel
theorem d_LW_law_1020 : decode b_LW_law 1020 = .ok (.istore 6, 2) := by decide +kernel
theorem d_LW_law_1022 : decode b_LW_law 1022 = .ok (.aload_n 2, 1) := by decide +kernel
theorem d_LW_law_1023 : decode b_LW_law 1023 = .ok (.invokevirtual 87, 3) := by decide +kernel
theorem d_LW_law_1026 : decode b_LW_law 1026 = .ok (.iload 5, 2) := by decide +kernel
theorem d_LW_law_1028 : decode b_LW_law 1028 = .ok (.if_icmp .eq 5, 3) := by decide +kernel
theorem d_LW_law_1031 : decode b_LW_law 1031 = .ok (.iconst 0, 1) := by decide +kernel
theorem d_LW_law_1032 : decode b_LW_law 1032 = .ok (.ireturn, 1) := by decide +kernel
theorem d_LW_law_1033 : decode b_LW_law 1033 = .ok (.iload 5, 2) := by decide +kernel
theorem d_LW_law_1035 : decode b_LW_law 1035 = .ok (.ifCond .ne 15, 3) := by decide +kernel
theorem d_LW_law_1038 : decode b_LW_law 1038 = .ok (.aload_n 3, 1) := by decide +kernel
theorem d_LW_law_1039 : decode b_LW_law 1039 = .ok (.iconst 0, 1) := by decide +kernel
theorem d_LW_law_1040 : decode b_LW_law 1040 = .ok (.laload, 1) := by decide +kernel
theorem d_LW_law_1041 : decode b_LW_law 1041 = .ok (.iload 6, 2) := by decide +kernel
theorem d_LW_law_1043 : decode b_LW_law 1043 = .ok (.i2l, 1) := by decide +kernel
theorem d_LW_law_1044 : decode b_LW_law 1044 = .ok (.lcmp, 1) := by decide +kernel
theorem d_LW_law_1045 : decode b_LW_law 1045 = .ok (.ifCond .eq 5, 3) := by decide +kernel
theorem d_LW_law_1048 : decode b_LW_law 1048 = .ok (.iconst 0, 1) := by decide +kernel
theorem d_LW_law_1049 : decode b_LW_law 1049 = .ok (.ireturn, 1) := by decide +kernel
theorem d_LW_law_1050 : decode b_LW_law 1050 = .ok (.goto 352, 3) := by decide +kernel
theorem d_LW_law_1053 : decode b_LW_law 1053 = .ok (.aload_n 1, 1) := by decide +kernel
theorem d_LW_law_1054 : decode b_LW_law 1054 = .ok (.aload_n 0, 1) := by decide +kernel
theorem d_LW_law_1055 : decode b_LW_law 1055 = .ok (.iload 4, 2) := by decide +kernel
theorem d_LW_law_1057 : decode b_LW_law 1057 = .ok (.iconst 1, 1) := by decide +kernel
theorem d_LW_law_1058 : decode b_LW_law 1058 = .ok (.iadd, 1) := by decide +kernel
theorem d_LW_law_1059 : decode b_LW_law 1059 = .ok (.iaload, 1) := by decide +kernel
theorem d_LW_law_1060 : decode b_LW_law 1060 = .ok (.aload_n 3, 1) := by decide +kernel
theorem d_LW_law_1061 : decode b_LW_law 1061 = .ok (.invokestatic 134, 3) := by decide +kernel
theorem d_LW_law_1064 : decode b_LW_law 1064 = .ok (.istore 5, 2) := by decide +kernel
theorem d_LW_law_1066 : decode b_LW_law 1066 = .ok (.aload_n 2, 1) := by decide +kernel
theorem d_LW_law_1067 : decode b_LW_law 1067 = .ok (.aload_n 0, 1) := by decide +kernel
theorem d_LW_law_1068 : decode b_LW_law 1068 = .ok (.iload 4, 2) := by decide +kernel
theorem d_LW_law_1070 : decode b_LW_law 1070 = .ok (.iconst 1, 1) := by decide +kernel
theorem d_LW_law_1071 : decode b_LW_law 1071 = .ok (.iadd, 1) := by decide +kernel
theorem d_LW_law_1072 : decode b_LW_law 1072 = .ok (.iaload, 1) := by decide +kernel
theorem d_LW_law_1073 : decode b_LW_law 1073 = .ok (.invokevirtual 136, 3) := by decide +kernel
theorem d_LW_law_1076 : decode b_LW_law 1076 = .ok (.istore 6, 2) := by decide +kernel
theorem d_LW_law_1078 : decode b_LW_law 1078 = .ok (.aload_n 2, 1) := by decide +kernel
theorem d_LW_law_1079 : decode b_LW_law 1079 = .ok (.invokevirtual 87, 3) := by decide +kernel
theorem d_LW_law_1082 : decode b_LW_law 1082 = .ok (.iload 5, 2) := by decide +kernel
theorem d_LW_law_1084 : decode b_LW_law 1084 = .ok (.if_icmp .eq 5, 3) := by decide +kernel
theorem d_LW_law_1087 : decode b_LW_law 1087 = .ok (.iconst 0, 1) := by decide +kernel
theorem d_LW_law_1088 : decode b_LW_law 1088 = .ok (.ireturn, 1) := by decide +kernel
theorem d_LW_law_1089 : decode b_LW_law 1089 = .ok (.iload 5, 2) := by decide +kernel
theorem d_LW_law_1091 : decode b_LW_law 1091 = .ok (.ifCond .ne 15, 3) := by decide +kernel
theorem d_LW_law_1094 : decode b_LW_law 1094 = .ok (.aload_n 3, 1) := by decide +kernel
theorem d_LW_law_1095 : decode b_LW_law 1095 = .ok (.iconst 0, 1) := by decide +kernel
theorem d_LW_law_1096 : decode b_LW_law 1096 = .ok (.laload, 1) := by decide +kernel
theorem d_LW_law_1097 : decode b_LW_law 1097 = .ok (.iload 6, 2) := by decide +kernel
theorem d_LW_law_1099 : decode b_LW_law 1099 = .ok (.i2l, 1) := by decide +kernel
theorem d_LW_law_1100 : decode b_LW_law 1100 = .ok (.lcmp, 1) := by decide +kernel
theorem d_LW_law_1101 : decode b_LW_law 1101 = .ok (.ifCond .eq 5, 3) := by decide +kernel
theorem d_LW_law_1104 : decode b_LW_law 1104 = .ok (.iconst 0, 1) := by decide +kernel
theorem d_LW_law_1105 : decode b_LW_law 1105 = .ok (.ireturn, 1) := by decide +kernel
theorem d_LW_law_1106 : decode b_LW_law 1106 = .ok (.goto 296, 3) := by decide +kernel
theorem d_LW_law_1109 : decode b_LW_law 1109 = .ok (.aload_n 1, 1) := by decide +kernel
theorem d_LW_law_1110 : decode b_LW_law 1110 = .ok (.aload_n 0, 1) := by decide +kernel
theorem d_LW_law_1111 : decode b_LW_law 1111 = .ok (.iload 4, 2) := by decide +kernel
theorem d_LW_law_1113 : decode b_LW_law 1113 = .ok (.iconst 1, 1) := by decide +kernel
theorem d_LW_law_1114 : decode b_LW_law 1114 = .ok (.iadd, 1) := by decide +kernel
theorem d_LW_law_1115 : decode b_LW_law 1115 = .ok (.iaload, 1) := by decide +kernel
theorem d_LW_law_1116 : decode b_LW_law 1116 = .ok (.aload_n 3, 1) := by decide +kernel
theorem d_LW_law_1117 : decode b_LW_law 1117 = .ok (.invokestatic 137, 3) := by decide +kernel
theorem d_LW_law_1120 : decode b_LW_law 1120 = .ok (.istore 5, 2) := by decide +kernel
theorem d_LW_law_1122 : decode b_LW_law 1122 = .ok (.aload_n 2, 1) := by decide +kernel
theorem d_LW_law_1123 : decode b_LW_law 1123 = .ok (.aload_n 0, 1) := by decide +kernel
theorem d_LW_law_1124 : decode b_LW_law 1124 = .ok (.iload 4, 2) := by decide +kernel
theorem d_LW_law_1126 : decode b_LW_law 1126 = .ok (.iconst 1, 1) := by decide +kernel
theorem d_LW_law_1127 : decode b_LW_law 1127 = .ok (.iadd, 1) := by decide +kernel
theorem d_LW_law_1128 : decode b_LW_law 1128 = .ok (.iaload, 1) := by decide +kernel
theorem d_LW_law_1129 : decode b_LW_law 1129 = .ok (.invokevirtual 139, 3) := by decide +kernel
theorem d_LW_law_1132 : decode b_LW_law 1132 = .ok (.istore 6, 2) := by decide +kernel
theorem d_LW_law_1134 : decode b_LW_law 1134 = .ok (.aload_n 2, 1) := by decide +kernel
theorem d_LW_law_1135 : decode b_LW_law 1135 = .ok (.invokevirtual 87, 3) := by decide +kernel
theorem d_LW_law_1138 : decode b_LW_law 1138 = .ok (.iload 5, 2) := by decide +kernel
theorem d_LW_law_1140 : decode b_LW_law 1140 = .ok (.if_icmp .eq 5, 3) := by decide +kernel
theorem d_LW_law_1143 : decode b_LW_law 1143 = .ok (.iconst 0, 1) := by decide +kernel
theorem d_LW_law_1144 : decode b_LW_law 1144 = .ok (.ireturn, 1) := by decide +kernel
theorem d_LW_law_1145 : decode b_LW_law 1145 = .ok (.iload 5, 2) := by decide +kernel
theorem d_LW_law_1147 : decode b_LW_law 1147 = .ok (.ifCond .ne 15, 3) := by decide +kernel
theorem d_LW_law_1150 : decode b_LW_law 1150 = .ok (.aload_n 3, 1) := by decide +kernel
theorem d_LW_law_1151 : decode b_LW_law 1151 = .ok (.iconst 0, 1) := by decide +kernel
theorem d_LW_law_1152 : decode b_LW_law 1152 = .ok (.laload, 1) := by decide +kernel
theorem d_LW_law_1153 : decode b_LW_law 1153 = .ok (.iload 6, 2) := by decide +kernel
theorem d_LW_law_1155 : decode b_LW_law 1155 = .ok (.i2l, 1) := by decide +kernel
theorem d_LW_law_1156 : decode b_LW_law 1156 = .ok (.lcmp, 1) := by decide +kernel
theorem d_LW_law_1157 : decode b_LW_law 1157 = .ok (.ifCond .eq 5, 3) := by decide +kernel
theorem d_LW_law_1160 : decode b_LW_law 1160 = .ok (.iconst 0, 1) := by decide +kernel
theorem d_LW_law_1161 : decode b_LW_law 1161 = .ok (.ireturn, 1) := by decide +kernel
theorem d_LW_law_1162 : decode b_LW_law 1162 = .ok (.goto 240, 3) := by decide +kernel
theorem d_LW_law_1165 : decode b_LW_law 1165 = .ok (.aload_n 1, 1) := by decide +kernel
theorem d_LW_law_1166 : decode b_LW_law 1166 = .ok (.invokevirtual 140, 3) := by decide +kernel
theorem d_LW_law_1169 : decode b_LW_law 1169 = .ok (.aload_n 2, 1) := by decide +kernel
theorem d_LW_law_1170 : decode b_LW_law 1170 = .ok (.invokevirtual 143, 3) := by decide +kernel
theorem d_LW_law_1173 : decode b_LW_law 1173 = .ok (.if_icmp .eq 229, 3) := by decide +kernel
theorem d_LW_law_1176 : decode b_LW_law 1176 = .ok (.iconst 0, 1) := by decide +kernel
theorem d_LW_law_1177 : decode b_LW_law 1177 = .ok (.ireturn, 1) := by decide +kernel
theorem d_LW_law_1178 : decode b_LW_law 1178 = .ok (.aload_n 1, 1) := by decide +kernel
theorem d_LW_law_1179 : decode b_LW_law 1179 = .ok (.aload_n 0, 1) := by decide +kernel
theorem d_LW_law_1180 : decode b_LW_law 1180 = .ok (.iload 4, 2) := by decide +kernel
theorem d_LW_law_1182 : decode b_LW_law 1182 = .ok (.iconst 1, 1) := by decide +kernel
theorem d_LW_law_1183 : decode b_LW_law 1183 = .ok (.iadd, 1) := by decide +kernel
theorem d_LW_law_1184 : decode b_LW_law 1184 = .ok (.iaload, 1) := by decide +kernel
theorem d_LW_law_1185 : decode b_LW_law 1185 = .ok (.aload_n 3, 1) := by decide +kernel
theorem d_LW_law_1186 : decode b_LW_law 1186 = .ok (.invokestatic 144, 3) := by decide +kernel
theorem d_LW_law_1189 : decode b_LW_law 1189 = .ok (.istore 5, 2) := by decide +kernel
theorem d_LW_law_1191 : decode b_LW_law 1191 = .ok (.aload_n 2, 1) := by decide +kernel
theorem d_LW_law_1192 : decode b_LW_law 1192 = .ok (.aload_n 0, 1) := by decide +kernel
theorem d_LW_law_1193 : decode b_LW_law 1193 = .ok (.iload 4, 2) := by decide +kernel
theorem d_LW_law_1195 : decode b_LW_law 1195 = .ok (.iconst 1, 1) := by decide +kernel
theorem d_LW_law_1196 : decode b_LW_law 1196 = .ok (.iadd, 1) := by decide +kernel
theorem d_LW_law_1197 : decode b_LW_law 1197 = .ok (.iaload, 1) := by decide +kernel
theorem d_LW_law_1198 : decode b_LW_law 1198 = .ok (.invokevirtual 146, 3) := by decide +kernel
theorem d_LW_law_1201 : decode b_LW_law 1201 = .ok (.istore 6, 2) := by decide +kernel
theorem d_LW_law_1203 : decode b_LW_law 1203 = .ok (.aload_n 2, 1) := by decide +kernel
theorem d_LW_law_1204 : decode b_LW_law 1204 = .ok (.invokevirtual 87, 3) := by decide +kernel
theorem d_LW_law_1207 : decode b_LW_law 1207 = .ok (.iload 5, 2) := by decide +kernel
theorem d_LW_law_1209 : decode b_LW_law 1209 = .ok (.if_icmp .eq 5, 3) := by decide +kernel
theorem d_LW_law_1212 : decode b_LW_law 1212 = .ok (.iconst 0, 1) := by decide +kernel
theorem d_LW_law_1213 : decode b_LW_law 1213 = .ok (.ireturn, 1) := by decide +kernel
theorem d_LW_law_1214 : decode b_LW_law 1214 = .ok (.iload 5, 2) := by decide +kernel
theorem d_LW_law_1216 : decode b_LW_law 1216 = .ok (.ifCond .ne 15, 3) := by decide +kernel
theorem d_LW_law_1219 : decode b_LW_law 1219 = .ok (.aload_n 3, 1) := by decide +kernel
theorem d_LW_law_1220 : decode b_LW_law 1220 = .ok (.iconst 0, 1) := by decide +kernel
theorem d_LW_law_1221 : decode b_LW_law 1221 = .ok (.laload, 1) := by decide +kernel
theorem d_LW_law_1222 : decode b_LW_law 1222 = .ok (.iload 6, 2) := by decide +kernel
theorem d_LW_law_1224 : decode b_LW_law 1224 = .ok (.i2l, 1) := by decide +kernel
theorem d_LW_law_1225 : decode b_LW_law 1225 = .ok (.lcmp, 1) := by decide +kernel
theorem d_LW_law_1226 : decode b_LW_law 1226 = .ok (.ifCond .eq 5, 3) := by decide +kernel
theorem d_LW_law_1229 : decode b_LW_law 1229 = .ok (.iconst 0, 1) := by decide +kernel
theorem d_LW_law_1230 : decode b_LW_law 1230 = .ok (.ireturn, 1) := by decide +kernel
theorem d_LW_law_1231 : decode b_LW_law 1231 = .ok (.goto 171, 3) := by decide +kernel
theorem d_LW_law_1234 : decode b_LW_law 1234 = .ok (.aload_n 1, 1) := by decide +kernel
theorem d_LW_law_1235 : decode b_LW_law 1235 = .ok (.aload_n 0, 1) := by decide +kernel
theorem d_LW_law_1236 : decode b_LW_law 1236 = .ok (.iload 4, 2) := by decide +kernel
theorem d_LW_law_1238 : decode b_LW_law 1238 = .ok (.iconst 1, 1) := by decide +kernel
theorem d_LW_law_1239 : decode b_LW_law 1239 = .ok (.iadd, 1) := by decide +kernel
theorem d_LW_law_1240 : decode b_LW_law 1240 = .ok (.iaload, 1) := by decide +kernel
theorem d_LW_law_1241 : decode b_LW_law 1241 = .ok (.aload_n 3, 1) := by decide +kernel
theorem d_LW_law_1242 : decode b_LW_law 1242 = .ok (.invokestatic 147, 3) := by decide +kernel
theorem d_LW_law_1245 : decode b_LW_law 1245 = .ok (.istore 5, 2) := by decide +kernel
theorem d_LW_law_1247 : decode b_LW_law 1247 = .ok (.aload_n 2, 1) := by decide +kernel
theorem d_LW_law_1248 : decode b_LW_law 1248 = .ok (.aload_n 0, 1) := by decide +kernel
theorem d_LW_law_1249 : decode b_LW_law 1249 = .ok (.iload 4, 2) := by decide +kernel
theorem d_LW_law_1251 : decode b_LW_law 1251 = .ok (.iconst 1, 1) := by decide +kernel
theorem d_LW_law_1252 : decode b_LW_law 1252 = .ok (.iadd, 1) := by decide +kernel
theorem d_LW_law_1253 : decode b_LW_law 1253 = .ok (.iaload, 1) := by decide +kernel
theorem d_LW_law_1254 : decode b_LW_law 1254 = .ok (.invokevirtual 149, 3) := by decide +kernel
theorem d_LW_law_1257 : decode b_LW_law 1257 = .ok (.istore 6, 2) := by decide +kernel
theorem d_LW_law_1259 : decode b_LW_law 1259 = .ok (.aload_n 2, 1) := by decide +kernel
theorem d_LW_law_1260 : decode b_LW_law 1260 = .ok (.invokevirtual 87, 3) := by decide +kernel
theorem d_LW_law_1263 : decode b_LW_law 1263 = .ok (.iload 5, 2) := by decide +kernel
theorem d_LW_law_1265 : decode b_LW_law 1265 = .ok (.if_icmp .eq 5, 3) := by decide +kernel
theorem d_LW_law_1268 : decode b_LW_law 1268 = .ok (.iconst 0, 1) := by decide +kernel
theorem d_LW_law_1269 : decode b_LW_law 1269 = .ok (.ireturn, 1) := by decide +kernel
theorem d_LW_law_1270 : decode b_LW_law 1270 = .ok (.iload 5, 2) := by decide +kernel
theorem d_LW_law_1272 : decode b_LW_law 1272 = .ok (.ifCond .ne 15, 3) := by decide +kernel
theorem d_LW_law_1275 : decode b_LW_law 1275 = .ok (.aload_n 3, 1) := by decide +kernel
theorem d_LW_law_1276 : decode b_LW_law 1276 = .ok (.iconst 0, 1) := by decide +kernel
theorem d_LW_law_1277 : decode b_LW_law 1277 = .ok (.laload, 1) := by decide +kernel
theorem d_LW_law_1278 : decode b_LW_law 1278 = .ok (.iload 6, 2) := by decide +kernel
theorem d_LW_law_1280 : decode b_LW_law 1280 = .ok (.i2l, 1) := by decide +kernel
theorem d_LW_law_1281 : decode b_LW_law 1281 = .ok (.lcmp, 1) := by decide +kernel
theorem d_LW_law_1282 : decode b_LW_law 1282 = .ok (.ifCond .eq 5, 3) := by decide +kernel
theorem d_LW_law_1285 : decode b_LW_law 1285 = .ok (.iconst 0, 1) := by decide +kernel
theorem d_LW_law_1286 : decode b_LW_law 1286 = .ok (.ireturn, 1) := by decide +kernel
theorem d_LW_law_1287 : decode b_LW_law 1287 = .ok (.goto 115, 3) := by decide +kernel
theorem d_LW_law_1290 : decode b_LW_law 1290 = .ok (.aload_n 1, 1) := by decide +kernel
theorem d_LW_law_1291 : decode b_LW_law 1291 = .ok (.aload_n 0, 1) := by decide +kernel
theorem d_LW_law_1292 : decode b_LW_law 1292 = .ok (.iload 4, 2) := by decide +kernel
theorem d_LW_law_1294 : decode b_LW_law 1294 = .ok (.iconst 1, 1) := by decide +kernel
theorem d_LW_law_1295 : decode b_LW_law 1295 = .ok (.iadd, 1) := by decide +kernel
theorem d_LW_law_1296 : decode b_LW_law 1296 = .ok (.iaload, 1) := by decide +kernel
theorem d_LW_law_1297 : decode b_LW_law 1297 = .ok (.aload_n 3, 1) := by decide +kernel
theorem d_LW_law_1298 : decode b_LW_law 1298 = .ok (.invokestatic 150, 3) := by decide +kernel
theorem d_LW_law_1301 : decode b_LW_law 1301 = .ok (.istore 5, 2) := by decide +kernel
theorem d_LW_law_1303 : decode b_LW_law 1303 = .ok (.aload_n 2, 1) := by decide +kernel
theorem d_LW_law_1304 : decode b_LW_law 1304 = .ok (.aload_n 0, 1) := by decide +kernel
theorem d_LW_law_1305 : decode b_LW_law 1305 = .ok (.iload 4, 2) := by decide +kernel
theorem d_LW_law_1307 : decode b_LW_law 1307 = .ok (.iconst 1, 1) := by decide +kernel
theorem d_LW_law_1308 : decode b_LW_law 1308 = .ok (.iadd, 1) := by decide +kernel
theorem d_LW_law_1309 : decode b_LW_law 1309 = .ok (.iaload, 1) := by decide +kernel
theorem d_LW_law_1310 : decode b_LW_law 1310 = .ok (.invokevirtual 152, 3) := by decide +kernel
theorem d_LW_law_1313 : decode b_LW_law 1313 = .ok (.istore 6, 2) := by decide +kernel
theorem d_LW_law_1315 : decode b_LW_law 1315 = .ok (.aload_n 2, 1) := by decide +kernel
theorem d_LW_law_1316 : decode b_LW_law 1316 = .ok (.invokevirtual 87, 3) := by decide +kernel
theorem d_LW_law_1319 : decode b_LW_law 1319 = .ok (.iload 5, 2) := by decide +kernel
theorem d_LW_law_1321 : decode b_LW_law 1321 = .ok (.if_icmp .eq 5, 3) := by decide +kernel
theorem d_LW_law_1324 : decode b_LW_law 1324 = .ok (.iconst 0, 1) := by decide +kernel
theorem d_LW_law_1325 : decode b_LW_law 1325 = .ok (.ireturn, 1) := by decide +kernel
theorem d_LW_law_1326 : decode b_LW_law 1326 = .ok (.iload 5, 2) := by decide +kernel
theorem d_LW_law_1328 : decode b_LW_law 1328 = .ok (.ifCond .ne 15, 3) := by decide +kernel
theorem d_LW_law_1331 : decode b_LW_law 1331 = .ok (.aload_n 3, 1) := by decide +kernel
theorem d_LW_law_1332 : decode b_LW_law 1332 = .ok (.iconst 0, 1) := by decide +kernel
theorem d_LW_law_1333 : decode b_LW_law 1333 = .ok (.laload, 1) := by decide +kernel
theorem d_LW_law_1334 : decode b_LW_law 1334 = .ok (.iload 6, 2) := by decide +kernel
theorem d_LW_law_1336 : decode b_LW_law 1336 = .ok (.i2l, 1) := by decide +kernel
theorem d_LW_law_1337 : decode b_LW_law 1337 = .ok (.lcmp, 1) := by decide +kernel
theorem d_LW_law_1338 : decode b_LW_law 1338 = .ok (.ifCond .eq 5, 3) := by decide +kernel
theorem d_LW_law_1341 : decode b_LW_law 1341 = .ok (.iconst 0, 1) := by decide +kernel
theorem d_LW_law_1342 : decode b_LW_law 1342 = .ok (.ireturn, 1) := by decide +kernel
theorem d_LW_law_1343 : decode b_LW_law 1343 = .ok (.goto 59, 3) := by decide +kernel
theorem d_LW_law_1346 : decode b_LW_law 1346 = .ok (.aload_n 1, 1) := by decide +kernel
theorem d_LW_law_1347 : decode b_LW_law 1347 = .ok (.aload_n 0, 1) := by decide +kernel
theorem d_LW_law_1348 : decode b_LW_law 1348 = .ok (.iload 4, 2) := by decide +kernel
theorem d_LW_law_1350 : decode b_LW_law 1350 = .ok (.iconst 1, 1) := by decide +kernel
theorem d_LW_law_1351 : decode b_LW_law 1351 = .ok (.iadd, 1) := by decide +kernel
theorem d_LW_law_1352 : decode b_LW_law 1352 = .ok (.iaload, 1) := by decide +kernel
theorem d_LW_law_1353 : decode b_LW_law 1353 = .ok (.aload_n 3, 1) := by decide +kernel
theorem d_LW_law_1354 : decode b_LW_law 1354 = .ok (.invokestatic 153, 3) := by decide +kernel
theorem d_LW_law_1357 : decode b_LW_law 1357 = .ok (.istore 5, 2) := by decide +kernel
theorem d_LW_law_1359 : decode b_LW_law 1359 = .ok (.aload_n 2, 1) := by decide +kernel
theorem d_LW_law_1360 : decode b_LW_law 1360 = .ok (.aload_n 0, 1) := by decide +kernel
theorem d_LW_law_1361 : decode b_LW_law 1361 = .ok (.iload 4, 2) := by decide +kernel
theorem d_LW_law_1363 : decode b_LW_law 1363 = .ok (.iconst 1, 1) := by decide +kernel
theorem d_LW_law_1364 : decode b_LW_law 1364 = .ok (.iadd, 1) := by decide +kernel
theorem d_LW_law_1365 : decode b_LW_law 1365 = .ok (.iaload, 1) := by decide +kernel
theorem d_LW_law_1366 : decode b_LW_law 1366 = .ok (.invokevirtual 155, 3) := by decide +kernel
theorem d_LW_law_1369 : decode b_LW_law 1369 = .ok (.istore 6, 2) := by decide +kernel
theorem d_LW_law_1371 : decode b_LW_law 1371 = .ok (.aload_n 2, 1) := by decide +kernel
theorem d_LW_law_1372 : decode b_LW_law 1372 = .ok (.invokevirtual 87, 3) := by decide +kernel
theorem d_LW_law_1375 : decode b_LW_law 1375 = .ok (.iload 5, 2) := by decide +kernel
theorem d_LW_law_1377 : decode b_LW_law 1377 = .ok (.if_icmp .eq 5, 3) := by decide +kernel
theorem d_LW_law_1380 : decode b_LW_law 1380 = .ok (.iconst 0, 1) := by decide +kernel
theorem d_LW_law_1381 : decode b_LW_law 1381 = .ok (.ireturn, 1) := by decide +kernel
theorem d_LW_law_1382 : decode b_LW_law 1382 = .ok (.iload 5, 2) := by decide +kernel
theorem d_LW_law_1384 : decode b_LW_law 1384 = .ok (.ifCond .ne 15, 3) := by decide +kernel
theorem d_LW_law_1387 : decode b_LW_law 1387 = .ok (.aload_n 3, 1) := by decide +kernel
theorem d_LW_law_1388 : decode b_LW_law 1388 = .ok (.iconst 0, 1) := by decide +kernel
theorem d_LW_law_1389 : decode b_LW_law 1389 = .ok (.laload, 1) := by decide +kernel
theorem d_LW_law_1390 : decode b_LW_law 1390 = .ok (.iload 6, 2) := by decide +kernel
theorem d_LW_law_1392 : decode b_LW_law 1392 = .ok (.i2l, 1) := by decide +kernel
theorem d_LW_law_1393 : decode b_LW_law 1393 = .ok (.lcmp, 1) := by decide +kernel
theorem d_LW_law_1394 : decode b_LW_law 1394 = .ok (.ifCond .eq 5, 3) := by decide +kernel
theorem d_LW_law_1397 : decode b_LW_law 1397 = .ok (.iconst 0, 1) := by decide +kernel
theorem d_LW_law_1398 : decode b_LW_law 1398 = .ok (.ireturn, 1) := by decide +kernel
theorem d_LW_law_1399 : decode b_LW_law 1399 = .ok (.goto 3, 3) := by decide +kernel
theorem d_LW_law_1402 : decode b_LW_law 1402 = .ok (.iinc 4 5, 3) := by decide +kernel
theorem d_LW_law_1405 : decode b_LW_law 1405 = .ok (.goto (-1382), 3) := by decide +kernel
theorem d_LW_law_1408 : decode b_LW_law 1408 = .ok (.iconst 1, 1) := by decide +kernel
theorem d_LW_law_1409 : decode b_LW_law 1409 = .ok (.ireturn, 1) := by decide +kernel
end
section
/-! The context of a run (g): the classes' numbers and slots, the array classes (int, long, boolean, char), the cell of Tables.OF_VARIABLES, and the addresses that may be written. -/
abbrev Gx : Type := va_G × (ClassId × ClassId × ClassId × ClassId) × Nat × (Nat → Prop)
abbrev gA (g : Gx) : Nat → Prop := g.2.2.2
abbrev tY (g : Gx) : List (ClassId × FieldType) := [(g.2.1.1, .int), (g.2.1.2.1, .long), (g.2.1.2.2.1, .boolean), (g.2.1.2.2.2, .char)]
abbrev aI (g : Gx) (n : Nat) (f : Nat → Int32) : va_E := .inl (g.2.1.1, n, .inl f)
abbrev aJ (g : Gx) (n : Nat) (f : Nat → Int64) : va_E := .inl (g.2.1.2.1, n, .inr (.inl f))
abbrev aZ (g : Gx) (n : Nat) (f : Nat → Int32) : va_E := .inl (g.2.1.2.2.1, n, .inl f)
abbrev aC (g : Gx) (n : Nat) (f : Nat → Int32) : va_E := .inl (g.2.1.2.2.2, n, .inl f)
abbrev IAE : String := "java/lang/IllegalArgumentException"
abbrev NSE : String := "java/util/NoSuchElementException"
/-- the masks of the six variables -/
def mk6 : Nat → Int64 := fun j => match j with
  | 0 => -4294967296
  | 1 => -281470681808896
  | 2 => -71777214294589696
  | 3 => -1085102592571150096
  | 4 => -3689348814741910324
  | _ => -6148914691236517206
/-- the words that a throw wants beside those of TW -/
def NG : List Cond := [.castable IAE IAE, .castable NSE NSE, .declares ⟨"java/lang/RuntimeException", "<init>", "()V"⟩, .declares ⟨"java/lang/Exception", "<init>", "()V"⟩, .declares ⟨"java/lang/Throwable", "<init>", "()V"⟩]
theorem ng_cast {a b : String} {u U : State} (hvm : u.vm.Alike U.vm) (h : (Cond.castable a b).before #[] u = true) : (Cond.castable a b).before #[] U = true := by
  obtain ⟨c, t, h1, h2, h3⟩ := Cond.castable_spec h
  have e1 : U.vm.findClass a = some c := by rw [hvm.findClass]; exact h1
  have e2 : U.vm.findClass b = some t := by rw [hvm.findClass]; exact h2
  have e3 : U.vm.assignable c t = true := by rw [hvm.assignable]; exact h3
  simp [Cond.before, Cond.holds, Cond.value, e1, e2, e3]
theorem ng_decl {x : MethodName} {u U : State} (hvm : u.vm.Alike U.vm) (h : (Cond.declares x).before #[] u = true) : (Cond.declares x).before #[] U = true := by
  have h1 : (Cond.declares x).before #[] (u.setVm U.vm) = true := by
    rw [Cond.declares_setVm hvm]
    exact h
  have e := Cond.onTables_vm (A := #[]) (A' := #[]) (U := u) (U' := U) U.vm (Cond.declares x) rfl
  have hU : U.setVm U.vm = U := rfl
  rw [hU] at e
  rw [← e]
  exact h1
def NGs (U : State) : Prop := (∀ w ∈ NG, w.before #[] U = true) ∧ va_Nc NSE IAE U
theorem NGs.moved {u U : State} (hvm : u.vm.Alike U.vm) (h : NGs u) : NGs U := by
  refine ⟨?_, va_Nc.moved hvm h.2⟩
  have h1 := h.1
  simp only [NG, List.forall_mem_cons] at h1 ⊢
  exact ⟨ng_cast hvm h1.1, ng_cast hvm h1.2.1, ng_decl hvm h1.2.2.1, ng_decl hvm h1.2.2.2.1, ng_decl hvm h1.2.2.2.2.1, fun _ h => absurd h List.not_mem_nil⟩
/-- what is known of statics and of the throwables' words -/
def ST (g : Gx) (U : State) (H : Heap) : Prop := va_Z "SiftedGraphs$Tables" "OF_VARIABLES" "[J" (.ref g.2.2.1) (gA g) U H ∧ va_T .long g.2.2.1 6 (fun j => .long (mk6 j)) (gA g) U H ∧ vx_Zq Bundle.tN "UNASSIGNED_STACK" Bundle.steD (gA g) U H ∧ vx_Zq Bundle.tN "SUPPRESSED_SENTINEL" Bundle.listD (gA g) U H ∧ NGs U
theorem ST.go {g : Gx} {u U : State} {H H1 : Heap} (hvm : u.vm.Alike U.vm) (hq : ∀ a : Nat, a < H.size → ¬ gA g a → H1[a]? = H[a]?) (h : ST g u H) : ST g U H1 :=
  ⟨va_Z.kept (va_Z.moved hvm h.1) hq, va_T.kept (va_T.moved hvm h.2.1) hq, vx_Zq.kept (vx_Zq.moved hvm h.2.2.1) hq, vx_Zq.kept (vx_Zq.moved hvm h.2.2.2.1) hq, NGs.moved hvm h.2.2.2.2⟩
/-- the world ws stands in U -/
def PR (g : Gx) (ws : va_W) (U : State) : Prop := (∀ q, U.heap.size ≤ q → gA g q) ∧ va_P g.1 cl ws U.heap ∧ va_K g.1 cl (tY g) U ∧ va_D (gA g) ws ∧ ST g U U.heap
/-- what stays the same all through a method -/
def Fx (g : Gx) (s : State) : Prop := (∀ q, s.heap.size ≤ q → gA g q) ∧ va_K g.1 cl (tY g) s ∧ ST g s s.heap
theorem PR.at {g : Gx} {ws : va_W} {s U : State} {H : Heap} {locs : List Loc} (F : Fx g s) (hP : va_P g.1 cl ws H) (hD : va_D (gA g) ws) (hS : va_S (gA g) s.heap H locs) (hU : U.heap = H) (hvm : s.vm.Alike U.vm) : PR g ws U := by
  subst hU
  exact ⟨fun q h => F.1 q (Nat.le_trans hS.1 h), hP, va_K.moved hvm F.2.1, hD, ST.go hvm hS.2.1 F.2.2⟩
theorem PR.blind {g : Gx} {ws : va_W} {av : List Value} : FrameBlind (va_Pc av (PR g ws)) := by
  intro a U gg mk h
  obtain ⟨h0, h1, h2, h3, h4, h5⟩ := h
  exact ⟨h0, h1, h2, va_K.moved (u := U) (U := U.calling gg mk a) (Vm.Alike.refl U.vm) h3, h4, ST.go (u := U) (U := U.calling gg mk a) (Vm.Alike.refl U.vm) (fun _ _ _ => rfl) h5⟩
theorem TW_gi {ws : List Cond} (h : ∀ w ∈ ws, w ∈ TW) : GoodIn TW ws := fun w hw => ⟨h w hw, good_of_word (TW_g (h w hw))⟩
/-- a method's body out of its contract's start -/
theorem mt_of {l : Launch} {y : MethodName} {cc : ByteArray} {maxL : Nat} {ret : Option FieldType} {rm : Room} {g : Gx} {w0 : va_W} {av : List Value} {Qc : Array Value → State → Outcome → State → Prop} {mc ms : Nat} (hy : plainName y.cls = true) (hn : (lg_sl av).length ≤ maxL)
    (body : ∀ (p : Program) (e : Env) (s : State) (m : MethodId) (below : List Frame) (meth : Method) (c : Code) (ls : Array Slot), p.tables.exec = Jvm.exec → c.code = cc → meth.sig.returnType = ret → c.maxLocals = maxL → meth.locks = false → s.vm.findClass y.cls = some m.cls → (∀ w ∈ TW, w.before av.toArray s = true) → meth.name = y.name → Fx g s → va_P g.1 cl w0 s.heap → va_D (gA g) w0 → lv_has ls maxL (lv_args 0 av) →
      W p l e rm s m av.toArray below meth c s.heap [] 0 0 (MQ below Qc av.toArray s mc ms (gA g)) (F0 m 0 ls [])) : Met l y (Cond.code y cc maxL ret :: TW) rm (va_Pc av (PR g w0)) Qc mc ms (gA g) := by
  refine Met.ofW (cc := cc) (maxL := maxL) (ret := ret) hy rfl ?_
  intro p e s m args below meth c s₁ B hml hv
  obtain ⟨rfl, hA, hP, hK, hD, hZ⟩ := hv
  have hl := lv_entry av hn
  rw [lg_entry_eq]
  exact body p e s m below meth c _ B.exec B.bytes B.returns hml B.notSynchronized (findClass_of_methodNamed B.named) (fun w hw => atoms_spec (ws := Cond.code y cc maxL ret :: TW) B.pre w (List.mem_cons_of_mem _ hw)) (name_of_methodNamed B.named B.method).1 ⟨hA, hK, hZ⟩ hP hD hl
/-- the same for a method that throws -/
theorem mx_of {l : Launch} {y : MethodName} {cc : ByteArray} {maxL : Nat} {ret : Option FieldType} {rm : Room} {g : Gx} {w0 : va_W} {av : List Value} {Qc : Array Value → State → Outcome → State → Prop} {XC : String → State → State → Prop} {mc ms : Nat} (hy : plainName y.cls = true) (hn : (lg_sl av).length ≤ maxL)
    (body : ∀ (p : Program) (e : Env) (s : State) (m : MethodId) (below : List Frame) (meth : Method) (c : Code) (ls : Array Slot), p.tables.exec = Jvm.exec → c.code = cc → meth.sig.returnType = ret → c.maxLocals = maxL → meth.locks = false → s.vm.findClass y.cls = some m.cls → (∀ w ∈ TW, w.before av.toArray s = true) → (∀ x ∈ c.exceptionTable.toList, False) → Fx g s → va_P g.1 cl w0 s.heap → va_D (gA g) w0 → lv_has ls maxL (lv_args 0 av) →
      W p l e rm s m av.toArray below meth c s.heap [] 0 0 (vx_MQ below Qc XC av.toArray s mc ms (gA g)) (F0 m 0 ls [])) : vx_Met l y (Cond.code y cc maxL ret :: TW) rm (va_Pc av (PR g w0)) Qc XC mc ms (gA g) := by
  refine vx_ofW (cc := cc) (maxL := maxL) (ret := ret) hy rfl ?_
  intro p e s m args below meth c s₁ B hml hex hv
  obtain ⟨rfl, hA, hP, hK, hD, hZ⟩ := hv
  have hl := lv_entry av hn
  rw [lg_entry_eq]
  exact body p e s m below meth c _ B.exec B.bytes B.returns hml B.notSynchronized (findClass_of_methodNamed B.named) (fun w hw => atoms_spec (ws := Cond.code y cc maxL ret :: TW) B.pre w (List.mem_cons_of_mem _ hw)) hex ⟨hA, hK, hZ⟩ hP hD hl
/-- what a call wants to know of its callee, an instance's method (cm_V) or a static one (cm_S) -/
def cm_V (y : MethodName) (w : Cond) (n : Nat) : Prop := (Cond.instanceMethod y ∈ TW ∧ Cond.selects y.cls y y ∈ TW ∧ Cond.initialized y.cls ∈ TW ∧ w ∈ TW) ∧ (y.cls ≠ "java/lang/invoke/MethodHandle" ∧ y.cls ≠ "java/lang/invoke/VarHandle" ∧ (parseMethodDescriptor y.desc).map (fun d => d.parameters.length) = some n)
def cm_S (y : MethodName) (w : Cond) (n : Nat) : Prop := (Cond.static y ∈ TW ∧ Cond.initialized y.cls ∈ TW ∧ w ∈ TW) ∧ (y.cls ≠ "java/lang/invoke/MethodHandle" ∧ y.cls ≠ "java/lang/invoke/VarHandle" ∧ (parseMethodDescriptor y.desc).map (fun d => d.parameters.length) = some n)
/-! worlds in another order -/
theorem wp_perm {D : va_G} {cs : List vw_C} {ws ws' : va_W} {H : Heap} (hp : ws.Perm ws') (h : va_P D cs ws H) : va_P D cs ws' H := fun k q hk => by
  have hm : q ∈ ws := hp.mem_iff.mpr (List.mem_of_getElem? hk)
  obtain ⟨i, hi⟩ := List.getElem?_of_mem hm
  exact h i q hi
theorem wd_iff {A : Nat → Prop} {ws : va_W} : va_D A ws ↔ (ws.map (fun q => q.1)).Nodup ∧ ∀ q ∈ ws, A q.1 := by
  constructor
  · intro h
    refine ⟨?_, fun q hq => ?_⟩
    · rw [List.nodup_iff_getElem?_ne_getElem?]
      intro i j hij hj he
      have hj' : j < ws.length := by simpa using hj
      have hi' : i < ws.length := by omega
      simp only [List.getElem?_map, List.getElem?_eq_getElem hi', List.getElem?_eq_getElem hj', Option.map_some, Option.some.injEq] at he
      have := h.1 i j _ _ (List.getElem?_eq_getElem hi') (List.getElem?_eq_getElem hj') he
      omega
    · obtain ⟨i, hi⟩ := List.getElem?_of_mem hq
      exact h.2 i q hi
  · intro h
    refine ⟨fun i j p q hi hj he => ?_, fun k q hk => h.2 q (List.mem_of_getElem? hk)⟩
    have hn := (List.nodup_iff_getElem?_ne_getElem?).mp h.1
    have hil : i < ws.length := (List.getElem?_eq_some_iff.mp hi).1
    have hjl : j < ws.length := (List.getElem?_eq_some_iff.mp hj).1
    rcases Nat.lt_trichotomy i j with hlt | heq | hgt
    · exact absurd (by simp [hi, hj, he]) (hn i j hlt (by simpa using hjl))
    · exact heq
    · exact absurd (by simp [hi, hj, he]) (hn j i hgt (by simpa using hil))
theorem wd_perm {A : Nat → Prop} {ws ws' : va_W} (hp : ws.Perm ws') (h : va_D A ws) : va_D A ws' := by
  rw [wd_iff] at h ⊢
  exact ⟨(hp.map _).nodup_iff.mp h.1, fun q hq => h.2 q (hp.mem_iff.mpr hq)⟩
/-- an array of numbers -/
abbrev nF (f : Nat → Nat) : Nat → Int32 := fun j => nI (f j)
def uN (f : Nat → Nat) (k x : Nat) : Nat → Nat := fun j => if j = k then x else f j
theorem nF_upd {f : Nat → Nat} {k x : Nat} : upd (nF f) k (nI x) = nF (uN f k x) := by
  funext j; unfold upd nF uN; split <;> rfl
/-- a truth value as the machine has it -/
def bI (P : Prop) [Decidable P] : Int32 := if P then 1 else 0
theorem bI_t {P : Prop} [Decidable P] (h : P) : nI 1 = bI P := by rw [bI, if_pos h]; rfl
theorem bI_f {P : Prop} [Decidable P] (h : ¬ P) : nI 0 = bI P := by rw [bI, if_neg h]; rfl
theorem bI_01 (P : Prop) [Decidable P] : bI P = 0 ∨ bI P = 1 := by unfold bI; split <;> simp
theorem bI_nar (P : Prop) [Decidable P] : narrow .boolean (.int (bI P)) = .int (bI P) := by rcases bI_01 P with h | h <;> rw [h] <;> rfl
/-- how a method that throws for sure ends: E, the world as it is then -/
def xT (g : Gx) (EE : String) (w1 : va_W) : String → State → State → Prop := fun E st t => E = EE ∧ PR g w1 t ∧ va_F (gA g) st t
def qF : Array Value → State → Outcome → State → Prop := fun _ _ _ _ => False
section PRcalls
variable {p : Program} {l : Launch} {e : Env} {R : Room} {s : State} {m : MethodId} {args : Array Value} {below : List Frame} {meth : Method} {c : Code} {H : Heap} {locs : List Loc} {cells slots : Nat} {Q : State → Prop}
variable {cc bytes : ByteArray} {pc maxL n index mc ms : Nat} {ls : Array Slot} {rest st0 As : List Value} {g : Gx} {w0 : va_W} {own : String} {y : MethodName} {ret : Option FieldType} {rm : Room}
theorem pc_W (ht : ∀ w ∈ TW, w.before args s = true) (hv : cm_V y (Cond.code y bytes maxL ret) n) (hlk : Cond.methodLink own index y ∈ TW) (hrm : rm.cells = mc ∧ rm.slots = ms) (hR : rm.frames + 1 ≤ R.frames ∧ 8 + (maxL + 11) + rm.locals ≤ R.locals) :
    CallW R s args own y.cls index y bytes maxL ret (Cond.code y bytes maxL ret :: TW) rm mc ms n := by
  obtain ⟨⟨h2, h3, h4, h5⟩, hd⟩ := hv
  refine cwV n ht (TW_gi ?_) rfl hrm.1 hrm.2 ⟨rfl, hd⟩ hR
  intro w hw
  simp only [wsV, List.cons_append, List.nil_append, List.mem_cons] at hw
  rcases hw with rfl | rfl | rfl | rfl | rfl | hw <;> assumption
theorem pc_S (ht : ∀ w ∈ TW, w.before args s = true) (hv : cm_S y (Cond.code y bytes maxL ret) n) (hlk : Cond.methodLink own index y ∈ TW) (hrm : rm.cells = mc ∧ rm.slots = ms) (hR : rm.frames + 1 ≤ R.frames ∧ 8 + (maxL + 11) + rm.locals ≤ R.locals) :
    CallB R s args own index y bytes maxL ret (Cond.code y bytes maxL ret :: TW) rm mc ms n ∧ (Cond.static y).before args s = true := by
  obtain ⟨⟨h2, h4, h5⟩, hd⟩ := hv
  refine va_cwS n ht (TW_gi ?_) rfl hrm.1 hrm.2 hd hR
  intro w hw
  simp only [va_wsS, List.cons_append, List.nil_append, List.mem_cons] at hw
  rcases hw with rfl | rfl | rfl | rfl | hw <;> assumption
theorem pc_Vi {S : Type} {post : Int32 → S → Prop} {wf : S → va_W} {b q0 ci N : Nat} {T : u_T} {fs : List Value} (hx : p.tables.exec = Jvm.exec) (hb : c.code = cc) (hml : c.maxLocals = ls.size) (hown : s.vm.findClass own = some m.cls) (ht : ∀ w ∈ TW, w.before args s = true) (F : Fx g s) (hP : va_P g.1 cl w0 H) (hD : va_D (gA g) w0) (hS : va_S (gA g) s.heap H locs)
    (hM : Met l y (Cond.code y bytes maxL ret :: TW) rm (va_Pc (.ref b :: As) (PR g w0)) (va_Qi post (fun u t => PR g (wf u) t) (gA g)) mc ms (gA g)) (hv : cm_V y (Cond.code y bytes maxL ret) n) (hlk : Cond.methodLink own index y ∈ TW) (hrm : rm.cells = mc ∧ rm.slots = ms) (hR : rm.frames + 1 ≤ R.frames ∧ 8 + (maxL + 11) + rm.locals ≤ R.locals) (he : w0[q0]? = some (b, .inr (ci, fs))) (hc : cl[ci]? = some (y.cls, T, N)) (hn : As.length = n) (hst : st0 = As.reverse ++ .ref b :: rest) (hw : (rest.map fun v => v.category).sum ≤ 8) (hf : cells + mc ≤ R.cells ∧ slots + ms ≤ R.slots) (hdg : decode cc pc = .ok (.invokevirtual index, 3))
    (kk : ∀ (r : Int32) (u : S) (H1 : Heap) (locs1 : List Loc), post r u → va_P g.1 cl (wf u) H1 → va_D (gA g) (wf u) → va_S (gA g) s.heap H1 locs1 → W p l e R s m args below meth c H1 locs1 (cells + mc) (slots + ms) Q (F0 m (pc + 3) ls (.int r :: rest))) : W p l e R s m args below meth c H locs cells slots Q (F0 m pc ls st0) := by
  subst hst
  refine va_calli (va_runV (As := As) (rest := rest) (nL := ls.size) ⟨hx, hb, hml, hown, ht⟩ hM (pc_W ht hv hlk hrm hR) ⟨PR.blind, va_recv F.2.1 hP hc he, fun U hU hW => ⟨rfl, PR.at F hP hD hS hU hW.alike⟩⟩ rfl hn rfl rfl (lv_room hw) hdg hf) hS (fun _ _ h => h) (fun _ h => h) (fun r u t H1 locs1 e1 hvm hp hB hz hk hS1 => ?_)
  obtain ⟨-, hP1, -, hD1, -⟩ := hB
  rw [e1] at hP1
  exact kk r u H1 locs1 hp hP1 hD1 hS1
theorem pc_Si {S : Type} {post : Int32 → S → Prop} {wf : S → va_W} (hx : p.tables.exec = Jvm.exec) (hb : c.code = cc) (hml : c.maxLocals = ls.size) (hown : s.vm.findClass own = some m.cls) (ht : ∀ w ∈ TW, w.before args s = true) (F : Fx g s) (hP : va_P g.1 cl w0 H) (hD : va_D (gA g) w0) (hS : va_S (gA g) s.heap H locs)
    (hM : Met l y (Cond.code y bytes maxL ret :: TW) rm (va_Pc (As) (PR g w0)) (va_Qi post (fun u t => PR g (wf u) t) (gA g)) mc ms (gA g)) (hv : cm_S y (Cond.code y bytes maxL ret) n) (hlk : Cond.methodLink own index y ∈ TW) (hrm : rm.cells = mc ∧ rm.slots = ms) (hR : rm.frames + 1 ≤ R.frames ∧ 8 + (maxL + 11) + rm.locals ≤ R.locals) (hn : As.length = n) (hst : st0 = As.reverse ++ rest) (hw : (rest.map fun v => v.category).sum ≤ 8) (hf : cells + mc ≤ R.cells ∧ slots + ms ≤ R.slots) (hdg : decode cc pc = .ok (.invokestatic index, 3))
    (kk : ∀ (r : Int32) (u : S) (H1 : Heap) (locs1 : List Loc), post r u → va_P g.1 cl (wf u) H1 → va_D (gA g) (wf u) → va_S (gA g) s.heap H1 locs1 → W p l e R s m args below meth c H1 locs1 (cells + mc) (slots + ms) Q (F0 m (pc + 3) ls (.int r :: rest))) : W p l e R s m args below meth c H locs cells slots Q (F0 m pc ls st0) := by
  subst hst
  refine va_calli (va_runS (As := As) (rest := rest) (nL := ls.size) ⟨hx, hb, hml, hown, ht⟩ hM (pc_S ht hv hlk hrm hR) ⟨PR.blind, fun U hU hW => ⟨rfl, PR.at F hP hD hS hU hW.alike⟩⟩ rfl hn rfl rfl (lv_room hw) hdg hf) hS (fun _ _ h => h) (fun _ h => h) (fun r u t H1 locs1 e1 hvm hp hB hz hk hS1 => ?_)
  obtain ⟨-, hP1, -, hD1, -⟩ := hB
  rw [e1] at hP1
  exact kk r u H1 locs1 hp hP1 hD1 hS1
theorem pc_Vl {S : Type} {post : Int64 → S → Prop} {wf : S → va_W} {b q0 ci N : Nat} {T : u_T} {fs : List Value} (hx : p.tables.exec = Jvm.exec) (hb : c.code = cc) (hml : c.maxLocals = ls.size) (hown : s.vm.findClass own = some m.cls) (ht : ∀ w ∈ TW, w.before args s = true) (F : Fx g s) (hP : va_P g.1 cl w0 H) (hD : va_D (gA g) w0) (hS : va_S (gA g) s.heap H locs)
    (hM : Met l y (Cond.code y bytes maxL ret :: TW) rm (va_Pc (.ref b :: As) (PR g w0)) (va_Ql post (fun u t => PR g (wf u) t) (gA g)) mc ms (gA g)) (hv : cm_V y (Cond.code y bytes maxL ret) n) (hlk : Cond.methodLink own index y ∈ TW) (hrm : rm.cells = mc ∧ rm.slots = ms) (hR : rm.frames + 1 ≤ R.frames ∧ 8 + (maxL + 11) + rm.locals ≤ R.locals) (he : w0[q0]? = some (b, .inr (ci, fs))) (hc : cl[ci]? = some (y.cls, T, N)) (hn : As.length = n) (hst : st0 = As.reverse ++ .ref b :: rest) (hw : (rest.map fun v => v.category).sum ≤ 8) (hf : cells + mc ≤ R.cells ∧ slots + ms ≤ R.slots) (hdg : decode cc pc = .ok (.invokevirtual index, 3))
    (kk : ∀ (r : Int64) (u : S) (H1 : Heap) (locs1 : List Loc), post r u → va_P g.1 cl (wf u) H1 → va_D (gA g) (wf u) → va_S (gA g) s.heap H1 locs1 → W p l e R s m args below meth c H1 locs1 (cells + mc) (slots + ms) Q (F0 m (pc + 3) ls (.long r :: rest))) : W p l e R s m args below meth c H locs cells slots Q (F0 m pc ls st0) := by
  subst hst
  refine va_calll (va_runV (As := As) (rest := rest) (nL := ls.size) ⟨hx, hb, hml, hown, ht⟩ hM (pc_W ht hv hlk hrm hR) ⟨PR.blind, va_recv F.2.1 hP hc he, fun U hU hW => ⟨rfl, PR.at F hP hD hS hU hW.alike⟩⟩ rfl hn rfl rfl (lv_room hw) hdg hf) hS (fun _ _ h => h) (fun _ h => h) (fun r u t H1 locs1 e1 hvm hp hB hz hk hS1 => ?_)
  obtain ⟨-, hP1, -, hD1, -⟩ := hB
  rw [e1] at hP1
  exact kk r u H1 locs1 hp hP1 hD1 hS1
theorem pc_Sl {S : Type} {post : Int64 → S → Prop} {wf : S → va_W} (hx : p.tables.exec = Jvm.exec) (hb : c.code = cc) (hml : c.maxLocals = ls.size) (hown : s.vm.findClass own = some m.cls) (ht : ∀ w ∈ TW, w.before args s = true) (F : Fx g s) (hP : va_P g.1 cl w0 H) (hD : va_D (gA g) w0) (hS : va_S (gA g) s.heap H locs)
    (hM : Met l y (Cond.code y bytes maxL ret :: TW) rm (va_Pc (As) (PR g w0)) (va_Ql post (fun u t => PR g (wf u) t) (gA g)) mc ms (gA g)) (hv : cm_S y (Cond.code y bytes maxL ret) n) (hlk : Cond.methodLink own index y ∈ TW) (hrm : rm.cells = mc ∧ rm.slots = ms) (hR : rm.frames + 1 ≤ R.frames ∧ 8 + (maxL + 11) + rm.locals ≤ R.locals) (hn : As.length = n) (hst : st0 = As.reverse ++ rest) (hw : (rest.map fun v => v.category).sum ≤ 8) (hf : cells + mc ≤ R.cells ∧ slots + ms ≤ R.slots) (hdg : decode cc pc = .ok (.invokestatic index, 3))
    (kk : ∀ (r : Int64) (u : S) (H1 : Heap) (locs1 : List Loc), post r u → va_P g.1 cl (wf u) H1 → va_D (gA g) (wf u) → va_S (gA g) s.heap H1 locs1 → W p l e R s m args below meth c H1 locs1 (cells + mc) (slots + ms) Q (F0 m (pc + 3) ls (.long r :: rest))) : W p l e R s m args below meth c H locs cells slots Q (F0 m pc ls st0) := by
  subst hst
  refine va_calll (va_runS (As := As) (rest := rest) (nL := ls.size) ⟨hx, hb, hml, hown, ht⟩ hM (pc_S ht hv hlk hrm hR) ⟨PR.blind, fun U hU hW => ⟨rfl, PR.at F hP hD hS hU hW.alike⟩⟩ rfl hn rfl rfl (lv_room hw) hdg hf) hS (fun _ _ h => h) (fun _ h => h) (fun r u t H1 locs1 e1 hvm hp hB hz hk hS1 => ?_)
  obtain ⟨-, hP1, -, hD1, -⟩ := hB
  rw [e1] at hP1
  exact kk r u H1 locs1 hp hP1 hD1 hS1
theorem pc_Vv {S : Type} {post : S → Prop} {wf : S → va_W} {b q0 ci N : Nat} {T : u_T} {fs : List Value} (hx : p.tables.exec = Jvm.exec) (hb : c.code = cc) (hml : c.maxLocals = ls.size) (hown : s.vm.findClass own = some m.cls) (ht : ∀ w ∈ TW, w.before args s = true) (F : Fx g s) (hP : va_P g.1 cl w0 H) (hD : va_D (gA g) w0) (hS : va_S (gA g) s.heap H locs)
    (hM : Met l y (Cond.code y bytes maxL ret :: TW) rm (va_Pc (.ref b :: As) (PR g w0)) (va_Qv post (fun u t => PR g (wf u) t) (gA g)) mc ms (gA g)) (hv : cm_V y (Cond.code y bytes maxL ret) n) (hlk : Cond.methodLink own index y ∈ TW) (hrm : rm.cells = mc ∧ rm.slots = ms) (hR : rm.frames + 1 ≤ R.frames ∧ 8 + (maxL + 11) + rm.locals ≤ R.locals) (he : w0[q0]? = some (b, .inr (ci, fs))) (hc : cl[ci]? = some (y.cls, T, N)) (hn : As.length = n) (hst : st0 = As.reverse ++ .ref b :: rest) (hw : (rest.map fun v => v.category).sum ≤ 8) (hf : cells + mc ≤ R.cells ∧ slots + ms ≤ R.slots) (hdg : decode cc pc = .ok (.invokevirtual index, 3))
    (kk : ∀ (u : S) (H1 : Heap) (locs1 : List Loc), post u → va_P g.1 cl (wf u) H1 → va_D (gA g) (wf u) → va_S (gA g) s.heap H1 locs1 → W p l e R s m args below meth c H1 locs1 (cells + mc) (slots + ms) Q (F0 m (pc + 3) ls (rest))) : W p l e R s m args below meth c H locs cells slots Q (F0 m pc ls st0) := by
  subst hst
  refine va_callv (va_runV (As := As) (rest := rest) (nL := ls.size) ⟨hx, hb, hml, hown, ht⟩ hM (pc_W ht hv hlk hrm hR) ⟨PR.blind, va_recv F.2.1 hP hc he, fun U hU hW => ⟨rfl, PR.at F hP hD hS hU hW.alike⟩⟩ rfl hn rfl rfl (lv_room hw) hdg hf) hS (fun _ _ h => h) (fun _ h => h) (fun u t H1 locs1 e1 hvm hp hB hz hk hS1 => ?_)
  obtain ⟨-, hP1, -, hD1, -⟩ := hB
  rw [e1] at hP1
  exact kk u H1 locs1 hp hP1 hD1 hS1
theorem pc_Sv {S : Type} {post : S → Prop} {wf : S → va_W} (hx : p.tables.exec = Jvm.exec) (hb : c.code = cc) (hml : c.maxLocals = ls.size) (hown : s.vm.findClass own = some m.cls) (ht : ∀ w ∈ TW, w.before args s = true) (F : Fx g s) (hP : va_P g.1 cl w0 H) (hD : va_D (gA g) w0) (hS : va_S (gA g) s.heap H locs)
    (hM : Met l y (Cond.code y bytes maxL ret :: TW) rm (va_Pc (As) (PR g w0)) (va_Qv post (fun u t => PR g (wf u) t) (gA g)) mc ms (gA g)) (hv : cm_S y (Cond.code y bytes maxL ret) n) (hlk : Cond.methodLink own index y ∈ TW) (hrm : rm.cells = mc ∧ rm.slots = ms) (hR : rm.frames + 1 ≤ R.frames ∧ 8 + (maxL + 11) + rm.locals ≤ R.locals) (hn : As.length = n) (hst : st0 = As.reverse ++ rest) (hw : (rest.map fun v => v.category).sum ≤ 8) (hf : cells + mc ≤ R.cells ∧ slots + ms ≤ R.slots) (hdg : decode cc pc = .ok (.invokestatic index, 3))
    (kk : ∀ (u : S) (H1 : Heap) (locs1 : List Loc), post u → va_P g.1 cl (wf u) H1 → va_D (gA g) (wf u) → va_S (gA g) s.heap H1 locs1 → W p l e R s m args below meth c H1 locs1 (cells + mc) (slots + ms) Q (F0 m (pc + 3) ls (rest))) : W p l e R s m args below meth c H locs cells slots Q (F0 m pc ls st0) := by
  subst hst
  refine va_callv (va_runS (As := As) (rest := rest) (nL := ls.size) ⟨hx, hb, hml, hown, ht⟩ hM (pc_S ht hv hlk hrm hR) ⟨PR.blind, fun U hU hW => ⟨rfl, PR.at F hP hD hS hU hW.alike⟩⟩ rfl hn rfl rfl (lv_room hw) hdg hf) hS (fun _ _ h => h) (fun _ h => h) (fun u t H1 locs1 e1 hvm hp hB hz hk hS1 => ?_)
  obtain ⟨-, hP1, -, hD1, -⟩ := hB
  rw [e1] at hP1
  exact kk u H1 locs1 hp hP1 hD1 hS1
theorem xc_V {EE : String} {w1 : va_W} {b q0 ci N : Nat} {T : u_T} {fs : List Value} (hx : p.tables.exec = Jvm.exec) (hb : c.code = cc) (hml : c.maxLocals = ls.size) (hown : s.vm.findClass own = some m.cls) (ht : ∀ w ∈ TW, w.before args s = true) (F : Fx g s) (hP : va_P g.1 cl w0 H) (hD : va_D (gA g) w0) (hS : va_S (gA g) s.heap H locs)
    (hM : vx_Met l y (Cond.code y bytes maxL ret :: TW) rm (va_Pc (.ref b :: As) (PR g w0)) qF (xT g EE w1) mc ms (gA g)) (hv : cm_V y (Cond.code y bytes maxL ret) n) (hlk : Cond.methodLink own index y ∈ TW) (hrm : rm.cells = mc ∧ rm.slots = ms) (hR : rm.frames + 1 ≤ R.frames ∧ 8 + (maxL + 11) + rm.locals ≤ R.locals) (he : w0[q0]? = some (b, .inr (ci, fs))) (hc : cl[ci]? = some (y.cls, T, N)) (hn : As.length = n) (hst : st0 = As.reverse ++ .ref b :: rest) (hw : (rest.map fun v => v.category).sum ≤ 8) (hf : cells + mc ≤ R.cells ∧ slots + ms ≤ R.slots) (hdg : decode cc pc = .ok (.invokevirtual index, 3))
    (kx : ∀ (ce : Cell) (q9 : Addr) (H1 : Heap) (locs1 : List Loc), va_P g.1 cl w1 H1 → va_D (gA g) w1 → va_S (gA g) s.heap H1 locs1 → H1[q9]? = some ce → ce.vm = .none → s.vm.findClass EE = some ce.cls → vx_W p l e R s m args below meth c H1 locs1 (cells + mc) (slots + ms) Q (F0 m pc ls rest) q9) : W p l e R s m args below meth c H locs cells slots Q (F0 m pc ls st0) := by
  subst hst
  have hr := vx_runV (As := As) (rest := rest) (nL := ls.size) (R := R) (p := p) (e := e) (below := below) (meth := meth) (locs := locs) (cells := cells) (slots := slots) (g := F0 m pc ls (As.reverse ++ .ref b :: rest)) ⟨hx, hb, hml, hown, ht⟩ hM (pc_W ht hv hlk hrm hR) ⟨PR.blind, va_recv F.2.1 hP hc he, fun U hU hW => ⟨rfl, PR.at F hP hD hS hU hW.alike⟩⟩ rfl hn rfl rfl (lv_room hw) hdg hf
  intro T0 hT X
  rcases hr T0 hT X with ⟨v, st₀, t, T', L, h0, X', hL, e1, e2, hq, st⟩ | ⟨q, st₀, t, T', L, E, ce, h0, X', hL, e1, e2, ⟨rfl, hB, hF⟩, hce, hcv, hcl, st⟩
  · exact hq.elim
  · obtain ⟨k1, k2, k3⟩ := vx_keep h0 e1 hS (fun _ _ h => h) (fun _ h => h) hL hF
    obtain ⟨-, hP1, -, hD1, -⟩ := hB
    rw [← e1] at hP1
    obtain ⟨t2, a1, b1⟩ := kx ce q T'.heap (locs ++ L) hP1 hD1 k3 (by rw [e1]; exact hce) hcv hcl T' rfl X'
    exact ⟨t2, st.trans a1, b1⟩
theorem xc_S {EE : String} {w1 : va_W} (hx : p.tables.exec = Jvm.exec) (hb : c.code = cc) (hml : c.maxLocals = ls.size) (hown : s.vm.findClass own = some m.cls) (ht : ∀ w ∈ TW, w.before args s = true) (F : Fx g s) (hP : va_P g.1 cl w0 H) (hD : va_D (gA g) w0) (hS : va_S (gA g) s.heap H locs)
    (hM : vx_Met l y (Cond.code y bytes maxL ret :: TW) rm (va_Pc (As) (PR g w0)) qF (xT g EE w1) mc ms (gA g)) (hv : cm_S y (Cond.code y bytes maxL ret) n) (hlk : Cond.methodLink own index y ∈ TW) (hrm : rm.cells = mc ∧ rm.slots = ms) (hR : rm.frames + 1 ≤ R.frames ∧ 8 + (maxL + 11) + rm.locals ≤ R.locals) (hn : As.length = n) (hst : st0 = As.reverse ++ rest) (hw : (rest.map fun v => v.category).sum ≤ 8) (hf : cells + mc ≤ R.cells ∧ slots + ms ≤ R.slots) (hdg : decode cc pc = .ok (.invokestatic index, 3))
    (kx : ∀ (ce : Cell) (q9 : Addr) (H1 : Heap) (locs1 : List Loc), va_P g.1 cl w1 H1 → va_D (gA g) w1 → va_S (gA g) s.heap H1 locs1 → H1[q9]? = some ce → ce.vm = .none → s.vm.findClass EE = some ce.cls → vx_W p l e R s m args below meth c H1 locs1 (cells + mc) (slots + ms) Q (F0 m pc ls rest) q9) : W p l e R s m args below meth c H locs cells slots Q (F0 m pc ls st0) := by
  subst hst
  have hr := vx_runS (As := As) (rest := rest) (nL := ls.size) (R := R) (p := p) (e := e) (below := below) (meth := meth) (locs := locs) (cells := cells) (slots := slots) (g := F0 m pc ls (As.reverse ++ rest)) ⟨hx, hb, hml, hown, ht⟩ hM (pc_S ht hv hlk hrm hR) ⟨PR.blind, fun U hU hW => ⟨rfl, PR.at F hP hD hS hU hW.alike⟩⟩ rfl hn rfl rfl (lv_room hw) hdg hf
  intro T0 hT X
  rcases hr T0 hT X with ⟨v, st₀, t, T', L, h0, X', hL, e1, e2, hq, st⟩ | ⟨q, st₀, t, T', L, E, ce, h0, X', hL, e1, e2, ⟨rfl, hB, hF⟩, hce, hcv, hcl, st⟩
  · exact hq.elim
  · obtain ⟨k1, k2, k3⟩ := vx_keep h0 e1 hS (fun _ _ h => h) (fun _ h => h) hL hF
    obtain ⟨-, hP1, -, hD1, -⟩ := hB
    rw [← e1] at hP1
    obtain ⟨t2, a1, b1⟩ := kx ce q T'.heap (locs ++ L) hP1 hD1 k3 (by rw [e1]; exact hce) hcv hcl T' rfl X'
    exact ⟨t2, st.trans a1, b1⟩
/-- an exception that goes on to the caller -/
theorem xc_out {EE : String} {w1 : va_W} {ce : Cell} {q : Addr} (hex : ∀ x ∈ c.exceptionTable.toList, False) (hlk : meth.locks = false) (F : Fx g s) (hP : va_P g.1 cl w1 H) (hD : va_D (gA g) w1) (hS : va_S (gA g) s.heap H locs) (hce : H[q]? = some ce) (hv : ce.vm = .none) (hcl : s.vm.findClass EE = some ce.cls) (hc : cells ≤ mc) (hs : slots ≤ ms) :
    vx_W p l e R s m args below meth c H locs cells slots (vx_MQ below qF (xT g EE w1) args s mc ms (gA g)) (F0 m pc ls rest) q :=
  vx_out (fun x hx => (hex x hx).elim) hlk hce hv hcl (fun t ht hvm => ⟨rfl, PR.at F hP hD hS ht hvm, hS.F ht⟩) hS.2.2 hc hs
/-- 'throw new E()' -/
theorem xc_new {EE : String} {names : List String} {ik ic : Nat} (hl : l.stackTraces = false) (hx : p.tables.exec = Jvm.exec) (hb : c.code = cc) (hml : c.maxLocals = ls.size) (hown : s.vm.findClass own = some m.cls) (ht : ∀ w ∈ TW, w.before args s = true) (hlk : meth.locks = false) (hex : ∀ x ∈ c.exceptionTable.toList, False) (F : Fx g s) (hP : va_P g.1 cl w0 H) (hD : va_D (gA g) w0) (hS : va_S (gA g) s.heap H locs)
    (hcls : Bundle.fit EE = true) (hnames : ∀ n ∈ names, Bundle.fit n = true) (hk : Cond.classLink own ik EE ∈ TW) (hini : Cond.initialized EE ∈ TW) (hat : ∀ w ∈ vx_at0 own ic EE names, w ∈ TW ∨ w ∈ NG) (hgood : ∀ w ∈ Cond.classLink own ik EE :: Cond.initialized EE :: vx_at0 own ic EE names, vx_ot w = true)
    (d0 : decode cc pc = .ok (.new ik, 3)) (d3 : decode cc (pc + 3) = .ok (.dup, 1)) (d4 : decode cc (pc + 4) = .ok (.invokespecial ic, 3)) (d7 : decode cc (pc + 7) = .ok (.athrow, 1))
    (hRf : names.length + 3 < R.frames) (hRl : (rest.map fun v => v.category).sum + (13 * (names.length + 1) + 42) ≤ R.locals) (hRc : cells + 1 ≤ R.cells) (hRs : slots + 6 ≤ R.slots) (hc : cells + 1 ≤ mc) (hs : slots + 6 ≤ ms) :
    W p l e R s m args below meth c H locs cells slots (vx_MQ below qF (xT g EE w0) args s mc ms (gA g)) (F0 m pc ls rest) :=
  vx_throw0 hx hb hl hown hcls hnames (ht _ hk) (ht _ hini) (fun w hw => (hat w hw).elim (fun h => ht w h) (fun h => va_any (by simp only [NG, List.mem_cons, List.not_mem_nil, or_false] at h; rcases h with rfl | rfl | rfl | rfl | rfl <;> rfl) (F.2.2.2.2.2.2.1 w h))) hgood F.2.2.2.2.1 F.2.2.2.2.2.1 hS hml.symm d0 d3 d4 d7 (fun x hx => (hex x hx).elim) hRf hRl hRc hRs hlk
    (fun t hvm hz hk => ⟨rfl, ⟨fun q h => F.1 q (Nat.le_trans hS.1 (Nat.le_trans hz h)), va_P.kept hP (fun k q hq => hk q.1 (hP k q hq).lt), va_K.moved hvm F.2.1, hD, ST.go hvm (fun a ha hA => by rw [hk a (Nat.lt_of_lt_of_le ha hS.1)]; exact hS.2.1 a ha hA) F.2.2⟩, ⟨Nat.le_trans hS.1 hz, fun q hq hA => by rw [hk q (Nat.lt_of_lt_of_le hq hS.1)]; exact hS.2.1 q hq hA⟩⟩) hS.2.2 hc hs
end PRcalls
end
section
section Rows5
variable {p : Program} {l : Launch} {e : Env} {R : Room} {s : State} {m : MethodId} {args : Array Value} {below : List Frame} {meth : Method} {c : Code} {H : Heap} {locs : List Loc} {cells slots : Nat} {Q : State → Prop}
variable {cc : ByteArray} {pc : Nat} {ls : Array Slot} {rest : List Value} {g : Gx} {w0 : va_W} {a : Nat}
theorem ra_J (hx : p.tables.exec = Jvm.exec) (hb : c.code = cc) (F : Fx g s) (hP : va_P g.1 cl w0 H) (q0 : Nat) {i n : Nat} {f : Nat → Int64} (ha : w0[q0]? = some (a, aJ g n f)) (hi : i < n) (hn : n < 2 ^ 31) (hdg : decode cc pc = .ok (.laload, 1)) (kk : W p l e R s m args below meth c H locs cells slots Q (F0 m (pc + 1) ls (.long (f i) :: rest))) : W p l e R s m args below meth c H locs cells slots Q (F0 m pc ls (.int (nI i) :: .ref a :: rest)) := by
  refine va_lald hx hb F.2.1 hP q0 1 ha rfl (vp_in_nI hi hn) hdg ?_
  rw [nI_clamp (by omega)]
  exact kk
theorem wa_J (hx : p.tables.exec = Jvm.exec) (hb : c.code = cc) (F : Fx g s) (hP : va_P g.1 cl w0 H) (hD : va_D (gA g) w0) (hS : va_S (gA g) s.heap H locs) (q0 : Nat) {i n : Nat} {f : Nat → Int64} (ha : w0[q0]? = some (a, aJ g n f)) {x : Int64} (hi : i < n) (hn : n < 2 ^ 31) (hdg : decode cc pc = .ok (.lastore, 1)) (kk : ∀ (H1 : Heap) (locs1 : List Loc), va_P g.1 cl (w0.set q0 (a, aJ g n (vp_updL f i x))) H1 → va_D (gA g) (w0.set q0 (a, aJ g n (vp_updL f i x))) → va_S (gA g) s.heap H1 locs1 → W p l e R s m args below meth c H1 locs1 cells slots Q (F0 m (pc + 1) ls rest)) : W p l e R s m args below meth c H locs cells slots Q (F0 m pc ls (.long x :: .int (nI i) :: .ref a :: rest)) := by
  refine va_last hx hb F.2.1 hP hD hS q0 1 ha rfl (vp_in_nI hi hn) hdg (fun H1 locs1 h1 h2 h3 => ?_)
  rw [nI_clamp (by omega)] at h1 h2
  exact kk H1 locs1 h1 h2 h3
theorem ra_I (hx : p.tables.exec = Jvm.exec) (hb : c.code = cc) (F : Fx g s) (hP : va_P g.1 cl w0 H) (q0 : Nat) {i n : Nat} {f : Nat → Int32} (ha : w0[q0]? = some (a, aI g n f)) (hi : i < n) (hn : n < 2 ^ 31) (hdg : decode cc pc = .ok (.iaload, 1)) (kk : W p l e R s m args below meth c H locs cells slots Q (F0 m (pc + 1) ls (.int (f i) :: rest))) : W p l e R s m args below meth c H locs cells slots Q (F0 m pc ls (.int (nI i) :: .ref a :: rest)) := by
  refine va_iald hx hb F.2.1 hP q0 0 ha rfl (vp_in_nI hi hn) hdg ?_
  rw [nI_clamp (by omega)]
  exact kk
theorem wa_I (hx : p.tables.exec = Jvm.exec) (hb : c.code = cc) (F : Fx g s) (hP : va_P g.1 cl w0 H) (hD : va_D (gA g) w0) (hS : va_S (gA g) s.heap H locs) (q0 : Nat) {i n : Nat} {f : Nat → Int32} (ha : w0[q0]? = some (a, aI g n f)) {x : Int32} (hi : i < n) (hn : n < 2 ^ 31) (hdg : decode cc pc = .ok (.iastore, 1)) (kk : ∀ (H1 : Heap) (locs1 : List Loc), va_P g.1 cl (w0.set q0 (a, aI g n (upd f i x))) H1 → va_D (gA g) (w0.set q0 (a, aI g n (upd f i x))) → va_S (gA g) s.heap H1 locs1 → W p l e R s m args below meth c H1 locs1 cells slots Q (F0 m (pc + 1) ls rest)) : W p l e R s m args below meth c H locs cells slots Q (F0 m pc ls (.int x :: .int (nI i) :: .ref a :: rest)) := by
  refine va_iast hx hb F.2.1 hP hD hS q0 0 ha rfl (vp_in_nI hi hn) hdg (fun H1 locs1 h1 h2 h3 => ?_)
  rw [nI_clamp (by omega)] at h1 h2
  exact kk H1 locs1 h1 h2 h3
theorem ra_Z (hx : p.tables.exec = Jvm.exec) (hb : c.code = cc) (F : Fx g s) (hP : va_P g.1 cl w0 H) (q0 : Nat) {i n : Nat} {f : Nat → Int32} (ha : w0[q0]? = some (a, aZ g n f)) (hi : i < n) (hn : n < 2 ^ 31) (hdg : decode cc pc = .ok (.baload, 1)) (kk : W p l e R s m args below meth c H locs cells slots Q (F0 m (pc + 1) ls (.int (f i) :: rest))) : W p l e R s m args below meth c H locs cells slots Q (F0 m pc ls (.int (nI i) :: .ref a :: rest)) := by
  refine va_zald hx hb F.2.1 hP q0 2 ha rfl (vp_in_nI hi hn) hdg ?_
  rw [nI_clamp (by omega)]
  exact kk
theorem wa_Z (hx : p.tables.exec = Jvm.exec) (hb : c.code = cc) (F : Fx g s) (hP : va_P g.1 cl w0 H) (hD : va_D (gA g) w0) (hS : va_S (gA g) s.heap H locs) (q0 : Nat) {i n : Nat} {f : Nat → Int32} (ha : w0[q0]? = some (a, aZ g n f)) {x : Int32} {y : Int32} (hy : vp_nar .boolean x = y) (hi : i < n) (hn : n < 2 ^ 31) (hdg : decode cc pc = .ok (.bastore, 1)) (kk : ∀ (H1 : Heap) (locs1 : List Loc), va_P g.1 cl (w0.set q0 (a, aZ g n (upd f i y))) H1 → va_D (gA g) (w0.set q0 (a, aZ g n (upd f i y))) → va_S (gA g) s.heap H1 locs1 → W p l e R s m args below meth c H1 locs1 cells slots Q (F0 m (pc + 1) ls rest)) : W p l e R s m args below meth c H locs cells slots Q (F0 m pc ls (.int x :: .int (nI i) :: .ref a :: rest)) := by
  refine va_zast hx hb F.2.1 hP hD hS q0 2 ha rfl (vp_in_nI hi hn) hdg (fun H1 locs1 h1 h2 h3 => ?_)
  rw [nI_clamp (by omega), hy] at h1 h2
  exact kk H1 locs1 h1 h2 h3
theorem ra_C (hx : p.tables.exec = Jvm.exec) (hb : c.code = cc) (F : Fx g s) (hP : va_P g.1 cl w0 H) (q0 : Nat) {i n : Nat} {f : Nat → Int32} (ha : w0[q0]? = some (a, aC g n f)) (hi : i < n) (hn : n < 2 ^ 31) (hdg : decode cc pc = .ok (.caload, 1)) (kk : W p l e R s m args below meth c H locs cells slots Q (F0 m (pc + 1) ls (.int (f i) :: rest))) : W p l e R s m args below meth c H locs cells slots Q (F0 m pc ls (.int (nI i) :: .ref a :: rest)) := by
  refine va_cald hx hb F.2.1 hP q0 3 ha rfl (vp_in_nI hi hn) hdg ?_
  rw [nI_clamp (by omega)]
  exact kk
theorem wa_C (hx : p.tables.exec = Jvm.exec) (hb : c.code = cc) (F : Fx g s) (hP : va_P g.1 cl w0 H) (hD : va_D (gA g) w0) (hS : va_S (gA g) s.heap H locs) (q0 : Nat) {i n : Nat} {f : Nat → Int32} (ha : w0[q0]? = some (a, aC g n f)) {x : Int32} {y : Int32} (hy : vp_nar .char x = y) (hi : i < n) (hn : n < 2 ^ 31) (hdg : decode cc pc = .ok (.castore, 1)) (kk : ∀ (H1 : Heap) (locs1 : List Loc), va_P g.1 cl (w0.set q0 (a, aC g n (upd f i y))) H1 → va_D (gA g) (w0.set q0 (a, aC g n (upd f i y))) → va_S (gA g) s.heap H1 locs1 → W p l e R s m args below meth c H1 locs1 cells slots Q (F0 m (pc + 1) ls rest)) : W p l e R s m args below meth c H locs cells slots Q (F0 m pc ls (.int x :: .int (nI i) :: .ref a :: rest)) := by
  refine va_cast hx hb F.2.1 hP hD hS q0 3 ha rfl (vp_in_nI hi hn) hdg (fun H1 locs1 h1 h2 h3 => ?_)
  rw [nI_clamp (by omega), hy] at h1 h2
  exact kk H1 locs1 h1 h2 h3
theorem rn_add (hx : p.tables.exec = Jvm.exec) (hb : c.code = cc) {i j : Nat} (hdg : decode cc pc = .ok (.iadd, 1)) (kk : W p l e R s m args below meth c H locs cells slots Q (F0 m (pc + 1) ls (.int (nI (i + j)) :: rest))) : W p l e R s m args below meth c H locs cells slots Q (F0 m pc ls (.int (nI j) :: .int (nI i) :: rest)) := lv_iadd hx hb hdg (by rw [nI_add]; exact kk)
theorem rn_sub (hx : p.tables.exec = Jvm.exec) (hb : c.code = cc) {i j : Nat} (hij : j ≤ i) (hdg : decode cc pc = .ok (.isub, 1)) (kk : W p l e R s m args below meth c H locs cells slots Q (F0 m (pc + 1) ls (.int (nI (i - j)) :: rest))) : W p l e R s m args below meth c H locs cells slots Q (F0 m pc ls (.int (nI j) :: .int (nI i) :: rest)) := lv_isub hx hb hdg (by rw [pk_sub hij]; exact kk)
theorem rc_eq (hx : p.tables.exec = Jvm.exec) (hb : c.code = cc) {i j : Nat} {off : Int} {tgt : Nat} (hi : i < 2 ^ 31) (hj : j < 2 ^ 31) (hdg : decode cc pc = .ok (.if_icmp .eq off, 3)) (ht : (pc : Int) + off = (tgt : Int)) (kt : i = j → W p l e R s m args below meth c H locs cells slots Q (F0 m tgt ls rest)) (kf : ¬ i = j → W p l e R s m args below meth c H locs cells slots Q (F0 m (pc + 3) ls rest)) : W p l e R s m args below meth c H locs cells slots Q (F0 m pc ls (.int (nI j) :: .int (nI i) :: rest)) := lv_icmp_eq hx hb hdg ht (fun h => kt (by rw [nI_eq hi hj] at h; exact h)) (fun h => kf (by rw [nI_eq hi hj] at h; exact h))
theorem rc_ne (hx : p.tables.exec = Jvm.exec) (hb : c.code = cc) {i j : Nat} {off : Int} {tgt : Nat} (hi : i < 2 ^ 31) (hj : j < 2 ^ 31) (hdg : decode cc pc = .ok (.if_icmp .ne off, 3)) (ht : (pc : Int) + off = (tgt : Int)) (kt : ¬ i = j → W p l e R s m args below meth c H locs cells slots Q (F0 m tgt ls rest)) (kf : i = j → W p l e R s m args below meth c H locs cells slots Q (F0 m (pc + 3) ls rest)) : W p l e R s m args below meth c H locs cells slots Q (F0 m pc ls (.int (nI j) :: .int (nI i) :: rest)) := lv_icmp_ne hx hb hdg ht (fun h => kt (by rw [nI_eq hi hj] at h; exact h)) (fun h => kf (by rw [nI_eq hi hj] at h; exact h))
theorem rc_lt (hx : p.tables.exec = Jvm.exec) (hb : c.code = cc) {i j : Nat} {off : Int} {tgt : Nat} (hi : i < 2 ^ 31) (hj : j < 2 ^ 31) (hdg : decode cc pc = .ok (.if_icmp .lt off, 3)) (ht : (pc : Int) + off = (tgt : Int)) (kt : i < j → W p l e R s m args below meth c H locs cells slots Q (F0 m tgt ls rest)) (kf : ¬ i < j → W p l e R s m args below meth c H locs cells slots Q (F0 m (pc + 3) ls rest)) : W p l e R s m args below meth c H locs cells slots Q (F0 m pc ls (.int (nI j) :: .int (nI i) :: rest)) := lv_icmp_lt hx hb hdg ht (fun h => kt (by rw [nI_ltI hi hj] at h; exact h)) (fun h => kf (by rw [nI_ltI hi hj] at h; exact h))
theorem rc_ge (hx : p.tables.exec = Jvm.exec) (hb : c.code = cc) {i j : Nat} {off : Int} {tgt : Nat} (hi : i < 2 ^ 31) (hj : j < 2 ^ 31) (hdg : decode cc pc = .ok (.if_icmp .ge off, 3)) (ht : (pc : Int) + off = (tgt : Int)) (kt : j ≤ i → W p l e R s m args below meth c H locs cells slots Q (F0 m tgt ls rest)) (kf : ¬ j ≤ i → W p l e R s m args below meth c H locs cells slots Q (F0 m (pc + 3) ls rest)) : W p l e R s m args below meth c H locs cells slots Q (F0 m pc ls (.int (nI j) :: .int (nI i) :: rest)) := lv_icmp_ge hx hb hdg ht (fun h => kt (by rw [nI_leI hj hi] at h; exact h)) (fun h => kf (by rw [nI_leI hj hi] at h; exact h))
theorem rc_gt (hx : p.tables.exec = Jvm.exec) (hb : c.code = cc) {i j : Nat} {off : Int} {tgt : Nat} (hi : i < 2 ^ 31) (hj : j < 2 ^ 31) (hdg : decode cc pc = .ok (.if_icmp .gt off, 3)) (ht : (pc : Int) + off = (tgt : Int)) (kt : j < i → W p l e R s m args below meth c H locs cells slots Q (F0 m tgt ls rest)) (kf : ¬ j < i → W p l e R s m args below meth c H locs cells slots Q (F0 m (pc + 3) ls rest)) : W p l e R s m args below meth c H locs cells slots Q (F0 m pc ls (.int (nI j) :: .int (nI i) :: rest)) := lv_icmp_gt hx hb hdg ht (fun h => kt (by rw [nI_ltI hj hi] at h; exact h)) (fun h => kf (by rw [nI_ltI hj hi] at h; exact h))
theorem rc_le (hx : p.tables.exec = Jvm.exec) (hb : c.code = cc) {i j : Nat} {off : Int} {tgt : Nat} (hi : i < 2 ^ 31) (hj : j < 2 ^ 31) (hdg : decode cc pc = .ok (.if_icmp .le off, 3)) (ht : (pc : Int) + off = (tgt : Int)) (kt : i ≤ j → W p l e R s m args below meth c H locs cells slots Q (F0 m tgt ls rest)) (kf : ¬ i ≤ j → W p l e R s m args below meth c H locs cells slots Q (F0 m (pc + 3) ls rest)) : W p l e R s m args below meth c H locs cells slots Q (F0 m pc ls (.int (nI j) :: .int (nI i) :: rest)) := lv_icmp_le hx hb hdg ht (fun h => kt (by rw [nI_leI hi hj] at h; exact h)) (fun h => kf (by rw [nI_leI hi hj] at h; exact h))
theorem rz_eq (hx : p.tables.exec = Jvm.exec) (hb : c.code = cc) {i : Nat} {off : Int} {tgt : Nat} (hi : i < 2 ^ 31) (hdg : decode cc pc = .ok (.ifCond .eq off, 3)) (ht : (pc : Int) + off = (tgt : Int)) (kt : i = 0 → W p l e R s m args below meth c H locs cells slots Q (F0 m tgt ls rest)) (kf : ¬ i = 0 → W p l e R s m args below meth c H locs cells slots Q (F0 m (pc + 3) ls rest)) : W p l e R s m args below meth c H locs cells slots Q (F0 m pc ls (.int (nI i) :: rest)) := lv_if_eq hx hb hdg ht (fun h => kt (by rw [← nI_0, nI_eq hi (by decide)] at h; exact h)) (fun h => kf (by rw [← nI_0, nI_eq hi (by decide)] at h; exact h))
theorem rz_ne (hx : p.tables.exec = Jvm.exec) (hb : c.code = cc) {i : Nat} {off : Int} {tgt : Nat} (hi : i < 2 ^ 31) (hdg : decode cc pc = .ok (.ifCond .ne off, 3)) (ht : (pc : Int) + off = (tgt : Int)) (kt : ¬ i = 0 → W p l e R s m args below meth c H locs cells slots Q (F0 m tgt ls rest)) (kf : i = 0 → W p l e R s m args below meth c H locs cells slots Q (F0 m (pc + 3) ls rest)) : W p l e R s m args below meth c H locs cells slots Q (F0 m pc ls (.int (nI i) :: rest)) := lv_if_ne hx hb hdg ht (fun h => kt (by rw [← nI_0, nI_eq hi (by decide)] at h; exact h)) (fun h => kf (by rw [← nI_0, nI_eq hi (by decide)] at h; exact h))
theorem rz_lt (hx : p.tables.exec = Jvm.exec) (hb : c.code = cc) {i : Nat} {off : Int} {tgt : Nat} (hi : i < 2 ^ 31) (hdg : decode cc pc = .ok (.ifCond .lt off, 3)) (ht : (pc : Int) + off = (tgt : Int)) (kt : False → W p l e R s m args below meth c H locs cells slots Q (F0 m tgt ls rest)) (kf : True → W p l e R s m args below meth c H locs cells slots Q (F0 m (pc + 3) ls rest)) : W p l e R s m args below meth c H locs cells slots Q (F0 m pc ls (.int (nI i) :: rest)) := lv_if_lt hx hb hdg ht (fun h => kt (by exact nI_pos hi h)) (fun h => kf (by trivial))
theorem rz_ge (hx : p.tables.exec = Jvm.exec) (hb : c.code = cc) {i : Nat} {off : Int} {tgt : Nat} (hi : i < 2 ^ 31) (hdg : decode cc pc = .ok (.ifCond .ge off, 3)) (ht : (pc : Int) + off = (tgt : Int)) (kt : True → W p l e R s m args below meth c H locs cells slots Q (F0 m tgt ls rest)) (kf : False → W p l e R s m args below meth c H locs cells slots Q (F0 m (pc + 3) ls rest)) : W p l e R s m args below meth c H locs cells slots Q (F0 m pc ls (.int (nI i) :: rest)) := lv_if_ge hx hb hdg ht (fun h => kt (by trivial)) (fun h => kf (by exact h (nI_pos' hi)))
theorem rz_gt (hx : p.tables.exec = Jvm.exec) (hb : c.code = cc) {i : Nat} {off : Int} {tgt : Nat} (hi : i < 2 ^ 31) (hdg : decode cc pc = .ok (.ifCond .gt off, 3)) (ht : (pc : Int) + off = (tgt : Int)) (kt : 0 < i → W p l e R s m args below meth c H locs cells slots Q (F0 m tgt ls rest)) (kf : ¬ 0 < i → W p l e R s m args below meth c H locs cells slots Q (F0 m (pc + 3) ls rest)) : W p l e R s m args below meth c H locs cells slots Q (F0 m pc ls (.int (nI i) :: rest)) := lv_if_gt hx hb hdg ht (fun h => kt (by rw [← nI_0, nI_ltI (by decide) hi] at h; exact h)) (fun h => kf (by rw [← nI_0, nI_ltI (by decide) hi] at h; exact h))
theorem rz_le (hx : p.tables.exec = Jvm.exec) (hb : c.code = cc) {i : Nat} {off : Int} {tgt : Nat} (hi : i < 2 ^ 31) (hdg : decode cc pc = .ok (.ifCond .le off, 3)) (ht : (pc : Int) + off = (tgt : Int)) (kt : i ≤ 0 → W p l e R s m args below meth c H locs cells slots Q (F0 m tgt ls rest)) (kf : ¬ i ≤ 0 → W p l e R s m args below meth c H locs cells slots Q (F0 m (pc + 3) ls rest)) : W p l e R s m args below meth c H locs cells slots Q (F0 m pc ls (.int (nI i) :: rest)) := lv_if_le hx hb hdg ht (fun h => kt (by rw [← nI_0, nI_leI hi (by decide)] at h; exact h)) (fun h => kf (by rw [← nI_0, nI_leI hi (by decide)] at h; exact h))
theorem rs_tab (hx : p.tables.exec = Jvm.exec) (hb : c.code = cc) (F : Fx g s) (hS : va_S (gA g) s.heap H locs) {i : Nat} (hi : i < 6) (hdg : decode cc pc = .ok (.laload, 1)) (kk : W p l e R s m args below meth c H locs cells slots Q (F0 m (pc + 1) ls (.long (mk6 i) :: rest))) : W p l e R s m args below meth c H locs cells slots Q (F0 m pc ls (.int (nI i) :: .ref g.2.2.1 :: rest)) := va_tl hx hb F.2.2.2.1 hS (vp_in_nI hi (by decide)) (by rw [nI_clamp (by omega)]) hdg kk
end Rows5
end
section
abbrev CW (g : Gx) (ad : Nat → Nat) (rg : Nat → Int64) (hd : Nat → Int32) (od : Nat → Int32) (tx : Nat → Int32) (ty : Int32) (sm : Nat → Int64) (pa : Nat → Int64) (pr : Nat → Int64) (fl : Nat → Int64) (op : Int32) (du : Int32) (qa : Nat) (ab : Nat → Int64) (ac : Int32) (qb : Nat) (be : Nat → Int64) (bc : Int32) (wd : Nat → Int32) : va_W := [(ad 0, .inr (3, [.ref (ad 1), .ref (ad 4), .ref (ad 5), .int ty, .ref (ad 6), .ref (ad 11)])), (ad 1, .inr (2, [.ref (ad 2), .ref (ad 3)])), (ad 2, aJ g 8 rg), (ad 3, aZ g 8 hd), (ad 4, aI g 6 od), (ad 5, aC g 40 tx), (ad 6, .inr (0, [.ref (ad 7), .ref (ad 8), .ref (ad 9), .ref (ad 10), .int op, .int du])), (ad 7, aJ g 6 sm), (ad 8, aJ g 6 pa), (ad 9, aJ g 6 pr), (ad 10, aJ g 6 fl), (ad 11, .inr (1, [.ref qa, .int ac, .ref qb, .int bc, .ref (ad 12)])), (ad 12, aI g 6 wd), (qa, aJ g 64 ab), (qb, aJ g 64 be)]
abbrev CWG (g : Gx) (ad : Nat → Nat) (rg : Nat → Int64) (hd : Nat → Int32) (od : Nat → Int32) (tx : Nat → Int32) (ty : Int32) (sm : Nat → Int64) (pa : Nat → Int64) (pr : Nat → Int64) (fl : Nat → Int64) (op : Int32) (du : Int32) (qa : Nat) (ab : Nat → Int64) (ac : Int32) (qb : Nat) (be : Nat → Int64) (bc : Int32) (wd : Nat → Int32) (fa : Nat) (fb : Nat) : va_W := [(ad 0, .inr (3, [.ref (ad 1), .ref (ad 4), .ref (ad 5), .int ty, .ref (ad 6), .ref (ad 11)])), (ad 1, .inr (2, [.ref (ad 2), .ref (ad 3)])), (ad 2, aJ g 8 rg), (ad 3, aZ g 8 hd), (ad 4, aI g 6 od), (ad 5, aC g 40 tx), (ad 6, .inr (0, [.ref (ad 7), .ref (ad 8), .ref (ad 9), .ref (ad 10), .int op, .int du])), (ad 7, aJ g 6 sm), (ad 8, aJ g 6 pa), (ad 9, aJ g 6 pr), (ad 10, aJ g 6 fl), (ad 11, .inr (1, [.ref fa, .int ac, .ref fb, .int bc, .ref (ad 12)])), (ad 12, aI g 6 wd), (qa, aJ g 64 ab), (qb, aJ g 64 be)]
abbrev MW (g : Gx) (ma : Nat → Nat) (cd : Int32) (tb : Nat → Int64) (hm : Nat → Int32) (oo : Nat → Int32) (kp : Nat → Int32) (td : Int32) (tt : Nat → Int32) (ct : Int32) (fd : Nat → Int64) (os : Int32) (oq : Nat → Int32) (vs : Int32) (sk : Nat → Int64) : va_W := [(ma 0, .inr (4, [.int cd, .ref (ma 1), .ref (ma 2), .ref (ma 3), .ref (ma 4), .int td, .ref (ma 5), .int ct, .ref (ma 6), .int os, .ref (ma 7), .int vs, .ref (ma 8)])), (ma 1, aJ g 8 tb), (ma 2, aZ g 8 hm), (ma 3, aI g 6 oo), (ma 4, aI g 6 kp), (ma 5, aI g 40 tt), (ma 6, aJ g 256 fd), (ma 7, aI g 48 oq), (ma 8, aJ g 48 sk)]
abbrev rm_SG_init : Room := { frames := 2, cells := 0, slots := 0, locals := 40 }
abbrev rm_RG_init : Room := { frames := 1, cells := 0, slots := 0, locals := 20 }
abbrev rm_FR_init : Room := { frames := 1, cells := 0, slots := 0, locals := 20 }
abbrev rm_NC_init : Room := { frames := 1, cells := 0, slots := 0, locals := 20 }
abbrev rm_SG_shared : Room := { frames := 5, cells := 0, slots := 0, locals := 115 }
abbrev rm_SG_nodesOfAll : Room := { frames := 4, cells := 0, slots := 0, locals := 94 }
abbrev rm_NC_begin : Room := { frames := 0, cells := 0, slots := 0, locals := 0 }
abbrev rm_RG_isHeld : Room := { frames := 0, cells := 0, slots := 0, locals := 0 }
abbrev rm_RG_table : Room := { frames := 0, cells := 0, slots := 0, locals := 0 }
abbrev rm_NC_add : Room := { frames := 0, cells := 0, slots := 0, locals := 0 }
abbrev rm_NC_total : Room := { frames := 3, cells := 0, slots := 0, locals := 71 }
abbrev rm_NC_goDown : Room := { frames := 0, cells := 0, slots := 0, locals := 0 }
abbrev rm_NC_branch : Room := { frames := 2, cells := 0, slots := 0, locals := 44 }
abbrev rm_TB_withZero : Room := { frames := 1, cells := 0, slots := 0, locals := 20 }
abbrev rm_TB_weight : Room := { frames := 0, cells := 0, slots := 0, locals := 0 }
abbrev rm_TB_withOne : Room := { frames := 1, cells := 0, slots := 0, locals := 20 }
abbrev rm_LW_set : Room := { frames := 3, cells := 0, slots := 0, locals := 65 }
abbrev rx_LW_set : Room := { frames := 8, cells := 1, slots := 6, locals := 134 }
abbrev rm_SG_set : Room := { frames := 2, cells := 0, slots := 0, locals := 41 }
abbrev rx_SG_set : Room := { frames := 7, cells := 1, slots := 6, locals := 110 }
abbrev rm_SG_checkBelow : Room := { frames := 1, cells := 0, slots := 0, locals := 20 }
abbrev rx_SG_checkBelow : Room := { frames := 6, cells := 1, slots := 6, locals := 89 }
abbrev rm_TB_ofVariable : Room := { frames := 0, cells := 0, slots := 0, locals := 0 }
abbrev rm_RG_put : Room := { frames := 0, cells := 0, slots := 0, locals := 0 }
abbrev rm_LW_apply : Room := { frames := 3, cells := 0, slots := 0, locals := 66 }
abbrev rx_LW_apply : Room := { frames := 8, cells := 1, slots := 6, locals := 134 }
abbrev rm_SG_apply : Room := { frames := 2, cells := 0, slots := 0, locals := 42 }
abbrev rx_SG_apply : Room := { frames := 7, cells := 1, slots := 6, locals := 110 }
abbrev rm_SG_look : Room := { frames := 1, cells := 0, slots := 0, locals := 21 }
abbrev rx_SG_look : Room := { frames := 6, cells := 1, slots := 6, locals := 89 }
abbrev rm_TB_connected : Room := { frames := 0, cells := 0, slots := 0, locals := 0 }
abbrev rm_LW_choose : Room := { frames := 3, cells := 0, slots := 0, locals := 66 }
abbrev rx_LW_choose : Room := { frames := 8, cells := 1, slots := 6, locals := 134 }
abbrev rm_SG_choose : Room := { frames := 2, cells := 0, slots := 0, locals := 42 }
abbrev rx_SG_choose : Room := { frames := 7, cells := 1, slots := 6, locals := 110 }
abbrev rm_TB_chosen : Room := { frames := 0, cells := 0, slots := 0, locals := 0 }
abbrev rm_LW_restrict : Room := { frames := 3, cells := 0, slots := 0, locals := 70 }
abbrev rx_LW_restrict : Room := { frames := 8, cells := 1, slots := 6, locals := 136 }
abbrev rm_SG_restrict : Room := { frames := 2, cells := 0, slots := 0, locals := 44 }
abbrev rx_SG_restrict : Room := { frames := 7, cells := 1, slots := 6, locals := 110 }
abbrev rm_LW_compose : Room := { frames := 3, cells := 0, slots := 0, locals := 72 }
abbrev rx_LW_compose : Room := { frames := 8, cells := 1, slots := 6, locals := 138 }
abbrev rm_SG_compose : Room := { frames := 2, cells := 0, slots := 0, locals := 44 }
abbrev rx_SG_compose : Room := { frames := 7, cells := 1, slots := 6, locals := 110 }
abbrev rm_LW_quantify : Room := { frames := 3, cells := 0, slots := 0, locals := 75 }
abbrev rx_LW_quantify : Room := { frames := 8, cells := 1, slots := 6, locals := 141 }
abbrev rm_SG_quantify : Room := { frames := 2, cells := 0, slots := 0, locals := 44 }
abbrev rx_SG_quantify : Room := { frames := 7, cells := 1, slots := 6, locals := 110 }
abbrev rm_LW_type : Room := { frames := 2, cells := 0, slots := 0, locals := 44 }
abbrev rx_LW_type : Room := { frames := 7, cells := 1, slots := 6, locals := 113 }
abbrev rm_SG_type : Room := { frames := 1, cells := 0, slots := 0, locals := 20 }
abbrev rx_SG_type : Room := { frames := 6, cells := 1, slots := 6, locals := 89 }
abbrev rm_LW_read : Room := { frames := 6, cells := 0, slots := 0, locals := 130 }
abbrev rx_LW_read : Room := { frames := 8, cells := 1, slots := 6, locals := 132 }
abbrev rm_SG_read : Room := { frames := 5, cells := 0, slots := 0, locals := 108 }
abbrev rx_SG_read : Room := { frames := 7, cells := 1, slots := 6, locals := 110 }
abbrev rm_FR_failurePlace : Room := { frames := 4, cells := 0, slots := 0, locals := 82 }
abbrev rm_FR_beginFormula : Room := { frames := 1, cells := 0, slots := 0, locals := 20 }
abbrev rm_FR_beginFactor : Room := { frames := 0, cells := 0, slots := 0, locals := 0 }
abbrev rm_FR_takeInOperand : Room := { frames := 3, cells := 0, slots := 0, locals := 60 }
abbrev rm_FR_openParenthesis : Room := { frames := 2, cells := 0, slots := 0, locals := 40 }
abbrev rm_FR_endFactor : Room := { frames := 0, cells := 0, slots := 0, locals := 0 }
abbrev rm_FR_takeBehindOperand : Room := { frames := 2, cells := 0, slots := 0, locals := 44 }
abbrev rm_FR_meaning : Room := { frames := 0, cells := 0, slots := 0, locals := 0 }
abbrev rm_FR_closeParenthesis : Room := { frames := 1, cells := 0, slots := 0, locals := 22 }
abbrev rm_LW_release : Room := { frames := 3, cells := 0, slots := 0, locals := 63 }
abbrev rx_LW_release : Room := { frames := 8, cells := 1, slots := 6, locals := 132 }
abbrev rm_SG_release : Room := { frames := 2, cells := 0, slots := 0, locals := 41 }
abbrev rx_SG_release : Room := { frames := 7, cells := 1, slots := 6, locals := 110 }
abbrev rm_RG_clear : Room := { frames := 0, cells := 0, slots := 0, locals := 0 }
abbrev rm_LW_equal : Room := { frames := 3, cells := 0, slots := 0, locals := 64 }
abbrev rx_LW_equal : Room := { frames := 8, cells := 1, slots := 6, locals := 132 }
abbrev rm_SG_equal : Room := { frames := 2, cells := 0, slots := 0, locals := 42 }
abbrev rx_SG_equal : Room := { frames := 7, cells := 1, slots := 6, locals := 110 }
abbrev rm_LW_value : Room := { frames := 3, cells := 0, slots := 0, locals := 64 }
abbrev rx_LW_value : Room := { frames := 8, cells := 1, slots := 6, locals := 132 }
abbrev rm_SG_value : Room := { frames := 2, cells := 0, slots := 0, locals := 42 }
abbrev rx_SG_value : Room := { frames := 7, cells := 1, slots := 6, locals := 110 }
abbrev rm_TB_at : Room := { frames := 0, cells := 0, slots := 0, locals := 0 }
abbrev rm_LW_count : Room := { frames := 3, cells := 0, slots := 0, locals := 63 }
abbrev rx_LW_count : Room := { frames := 8, cells := 1, slots := 6, locals := 131 }
abbrev rm_SG_count : Room := { frames := 2, cells := 0, slots := 0, locals := 42 }
abbrev rx_SG_count : Room := { frames := 7, cells := 1, slots := 6, locals := 110 }
abbrev rm_JL_bitCount : Room := { frames := 0, cells := 0, slots := 0, locals := 0 }
abbrev rm_LW_least : Room := { frames := 3, cells := 0, slots := 0, locals := 66 }
abbrev rx_LW_least : Room := { frames := 8, cells := 1, slots := 6, locals := 134 }
abbrev rm_SG_least : Room := { frames := 2, cells := 0, slots := 0, locals := 42 }
abbrev rx_SG_least : Room := { frames := 7, cells := 1, slots := 6, locals := 110 }
abbrev rm_LW_support : Room := { frames := 4, cells := 0, slots := 0, locals := 91 }
abbrev rx_LW_support : Room := { frames := 8, cells := 1, slots := 6, locals := 135 }
abbrev rm_SG_support : Room := { frames := 3, cells := 0, slots := 0, locals := 66 }
abbrev rx_SG_support : Room := { frames := 7, cells := 1, slots := 6, locals := 110 }
abbrev rm_TB_dependsOn : Room := { frames := 2, cells := 0, slots := 0, locals := 44 }
abbrev rm_LW_size : Room := { frames := 5, cells := 0, slots := 0, locals := 115 }
abbrev rx_LW_size : Room := { frames := 8, cells := 1, slots := 6, locals := 131 }
abbrev rm_SG_size : Room := { frames := 4, cells := 0, slots := 0, locals := 94 }
abbrev rx_SG_size : Room := { frames := 7, cells := 1, slots := 6, locals := 110 }
abbrev rm_LW_width : Room := { frames := 6, cells := 0, slots := 0, locals := 136 }
abbrev rx_LW_width : Room := { frames := 8, cells := 1, slots := 6, locals := 136 }
abbrev rm_SG_width : Room := { frames := 5, cells := 0, slots := 0, locals := 115 }
abbrev rx_SG_width : Room := { frames := 7, cells := 1, slots := 6, locals := 115 }
abbrev rm_NC_onLevel : Room := { frames := 0, cells := 0, slots := 0, locals := 0 }
abbrev rm_LW_variable : Room := { frames := 3, cells := 0, slots := 0, locals := 62 }
abbrev rx_LW_variable : Room := { frames := 8, cells := 1, slots := 6, locals := 131 }
abbrev rm_SG_variable : Room := { frames := 2, cells := 0, slots := 0, locals := 41 }
abbrev rx_SG_variable : Room := { frames := 7, cells := 1, slots := 6, locals := 110 }
abbrev rm_LW_swap : Room := { frames := 6, cells := 0, slots := 0, locals := 136 }
abbrev rx_LW_swap : Room := { frames := 8, cells := 1, slots := 6, locals := 136 }
abbrev rm_SG_swap : Room := { frames := 5, cells := 0, slots := 0, locals := 115 }
abbrev rx_SG_swap : Room := { frames := 7, cells := 1, slots := 6, locals := 115 }
abbrev rm_SG_exchange : Room := { frames := 0, cells := 0, slots := 0, locals := 0 }
abbrev rm_LW_sift : Room := { frames := 6, cells := 0, slots := 0, locals := 140 }
abbrev rx_LW_sift : Room := { frames := 8, cells := 1, slots := 6, locals := 140 }
abbrev rm_SG_sift : Room := { frames := 5, cells := 0, slots := 0, locals := 115 }
abbrev rx_SG_sift : Room := { frames := 7, cells := 1, slots := 6, locals := 115 }
abbrev rm_SG_levelOf : Room := { frames := 0, cells := 0, slots := 0, locals := 0 }
abbrev rm_SG_raise : Room := { frames := 1, cells := 0, slots := 0, locals := 22 }
abbrev rm_MD_init : Room := { frames := 1, cells := 0, slots := 0, locals := 20 }
abbrev rm_MD_thrown : Room := { frames := 0, cells := 0, slots := 0, locals := 0 }
abbrev rm_MD_set : Room := { frames := 2, cells := 0, slots := 0, locals := 42 }
abbrev rm_MD_isRegister : Room := { frames := 1, cells := 0, slots := 0, locals := 22 }
abbrev rm_MD_within : Room := { frames := 0, cells := 0, slots := 0, locals := 0 }
abbrev rm_MD_variableTable : Room := { frames := 0, cells := 0, slots := 0, locals := 0 }
abbrev rm_MD_put : Room := { frames := 0, cells := 0, slots := 0, locals := 0 }
abbrev rm_MD_apply : Room := { frames := 2, cells := 0, slots := 0, locals := 42 }
abbrev rm_MD_at : Room := { frames := 0, cells := 0, slots := 0, locals := 0 }
abbrev rm_MD_choose : Room := { frames := 2, cells := 0, slots := 0, locals := 42 }
abbrev rm_MD_restrict : Room := { frames := 2, cells := 0, slots := 0, locals := 51 }
abbrev rm_MD_with : Room := { frames := 1, cells := 0, slots := 0, locals := 22 }
abbrev rm_MD_compose : Room := { frames := 2, cells := 0, slots := 0, locals := 51 }
abbrev rm_MD_quantify : Room := { frames := 2, cells := 0, slots := 0, locals := 51 }
abbrev rm_MD_release : Room := { frames := 2, cells := 0, slots := 0, locals := 42 }
abbrev rm_MD_type : Room := { frames := 1, cells := 0, slots := 0, locals := 22 }
abbrev rm_MD_read : Room := { frames := 2, cells := 0, slots := 0, locals := 46 }
abbrev rm_MD_begin : Room := { frames := 1, cells := 0, slots := 0, locals := 23 }
abbrev rm_MD_later : Room := { frames := 0, cells := 0, slots := 0, locals := 0 }
abbrev rm_MD_push : Room := { frames := 0, cells := 0, slots := 0, locals := 0 }
abbrev rm_MD_reduce : Room := { frames := 1, cells := 0, slots := 0, locals := 20 }
abbrev rm_MD_strength : Room := { frames := 0, cells := 0, slots := 0, locals := 0 }
abbrev rm_MD_equal : Room := { frames := 2, cells := 0, slots := 0, locals := 42 }
abbrev rm_MD_value : Room := { frames := 2, cells := 0, slots := 0, locals := 42 }
abbrev rm_MD_count : Room := { frames := 3, cells := 0, slots := 0, locals := 63 }
abbrev rm_MD_lack : Room := { frames := 2, cells := 0, slots := 0, locals := 42 }
abbrev rm_MD_least : Room := { frames := 3, cells := 0, slots := 0, locals := 63 }
abbrev rm_MD_support : Room := { frames := 3, cells := 0, slots := 0, locals := 73 }
abbrev rm_MD_depends : Room := { frames := 2, cells := 0, slots := 0, locals := 51 }
abbrev rm_MD_size : Room := { frames := 4, cells := 0, slots := 0, locals := 100 }
abbrev rm_MD_findAll : Room := { frames := 3, cells := 0, slots := 0, locals := 73 }
abbrev rm_MD_find : Room := { frames := 0, cells := 0, slots := 0, locals := 0 }
abbrev rm_MD_shared : Room := { frames := 6, cells := 0, slots := 0, locals := 144 }
abbrev rm_MD_all : Room := { frames := 5, cells := 0, slots := 0, locals := 122 }
abbrev rm_MD_widthOf : Room := { frames := 4, cells := 0, slots := 0, locals := 100 }
abbrev rm_MD_width : Room := { frames := 5, cells := 0, slots := 0, locals := 122 }
abbrev rm_MD_variable : Room := { frames := 1, cells := 0, slots := 0, locals := 22 }
abbrev rm_MD_swap : Room := { frames := 6, cells := 0, slots := 0, locals := 144 }
abbrev rm_MD_sift : Room := { frames := 6, cells := 0, slots := 0, locals := 144 }
abbrev rm_MD_arrange : Room := { frames := 0, cells := 0, slots := 0, locals := 0 }
theorem v_SG_shared : cm_V y_SG_shared w_SG_shared 0 := ⟨⟨tw_105, tw_106, tw_1, tw_107⟩, ⟨by decide, by decide, by decide⟩⟩
theorem v_SG_nodesOfAll : cm_V y_SG_nodesOfAll w_SG_nodesOfAll 0 := ⟨⟨tw_110, ts_0, tw_1, tw_111⟩, ⟨by decide, by decide, by decide⟩⟩
theorem v_NC_begin : cm_V y_NC_begin w_NC_begin 0 := ⟨⟨tw_113, tw_114, tw_4, tw_115⟩, ⟨by decide, by decide, by decide⟩⟩
theorem v_RG_isHeld : cm_V y_RG_isHeld w_RG_isHeld 1 := ⟨⟨tw_117, tw_118, tw_2, tw_119⟩, ⟨by decide, by decide, by decide⟩⟩
theorem v_RG_table : cm_V y_RG_table w_RG_table 1 := ⟨⟨tw_121, tw_122, tw_2, tw_123⟩, ⟨by decide, by decide, by decide⟩⟩
theorem v_NC_add : cm_V y_NC_add w_NC_add 1 := ⟨⟨tw_125, tw_126, tw_4, tw_127⟩, ⟨by decide, by decide, by decide⟩⟩
theorem v_NC_total : cm_V y_NC_total w_NC_total 1 := ⟨⟨tw_129, tw_130, tw_4, tw_131⟩, ⟨by decide, by decide, by decide⟩⟩
theorem v_NC_goDown : cm_V y_NC_goDown w_NC_goDown 0 := ⟨⟨tw_134, ts_1, tw_4, tw_135⟩, ⟨by decide, by decide, by decide⟩⟩
theorem v_NC_branch : cm_V y_NC_branch w_NC_branch 1 := ⟨⟨tw_138, ts_2, tw_4, tw_139⟩, ⟨by decide, by decide, by decide⟩⟩
theorem v_TB_withZero : cm_S y_TB_withZero w_TB_withZero 2 := ⟨⟨tw_141, tw_10, tw_142⟩, ⟨by decide, by decide, by decide⟩⟩
theorem v_TB_weight : cm_S y_TB_weight w_TB_weight 1 := ⟨⟨tw_147, tw_10, tw_148⟩, ⟨by decide, by decide, by decide⟩⟩
theorem v_TB_withOne : cm_S y_TB_withOne w_TB_withOne 2 := ⟨⟨tw_150, tw_10, tw_151⟩, ⟨by decide, by decide, by decide⟩⟩
theorem v_SG_set : cm_V y_SG_set w_SG_set 2 := ⟨⟨tw_158, tw_159, tw_1, tw_160⟩, ⟨by decide, by decide, by decide⟩⟩
theorem v_SG_checkBelow : cm_S y_SG_checkBelow w_SG_checkBelow 2 := ⟨⟨tw_162, tw_1, tw_163⟩, ⟨by decide, by decide, by decide⟩⟩
theorem v_TB_ofVariable : cm_S y_TB_ofVariable w_TB_ofVariable 1 := ⟨⟨tw_227, tw_10, tw_228⟩, ⟨by decide, by decide, by decide⟩⟩
theorem v_RG_put : cm_V y_RG_put w_RG_put 2 := ⟨⟨tw_231, tw_232, tw_2, tw_233⟩, ⟨by decide, by decide, by decide⟩⟩
theorem v_SG_apply : cm_V y_SG_apply w_SG_apply 4 := ⟨⟨tw_239, tw_240, tw_1, tw_241⟩, ⟨by decide, by decide, by decide⟩⟩
theorem v_SG_look : cm_V y_SG_look w_SG_look 1 := ⟨⟨tw_244, ts_4, tw_1, tw_245⟩, ⟨by decide, by decide, by decide⟩⟩
theorem v_TB_connected : cm_S y_TB_connected w_TB_connected 3 := ⟨⟨tw_262, tw_10, tw_263⟩, ⟨by decide, by decide, by decide⟩⟩
theorem v_SG_choose : cm_V y_SG_choose w_SG_choose 4 := ⟨⟨tw_268, tw_269, tw_1, tw_270⟩, ⟨by decide, by decide, by decide⟩⟩
theorem v_TB_chosen : cm_S y_TB_chosen w_TB_chosen 3 := ⟨⟨tw_272, tw_10, tw_273⟩, ⟨by decide, by decide, by decide⟩⟩
theorem v_SG_restrict : cm_V y_SG_restrict w_SG_restrict 4 := ⟨⟨tw_278, tw_279, tw_1, tw_280⟩, ⟨by decide, by decide, by decide⟩⟩
theorem v_SG_compose : cm_V y_SG_compose w_SG_compose 4 := ⟨⟨tw_287, tw_288, tw_1, tw_289⟩, ⟨by decide, by decide, by decide⟩⟩
theorem v_SG_quantify : cm_V y_SG_quantify w_SG_quantify 4 := ⟨⟨tw_294, tw_295, tw_1, tw_296⟩, ⟨by decide, by decide, by decide⟩⟩
theorem v_SG_type : cm_V y_SG_type w_SG_type 2 := ⟨⟨tw_301, tw_302, tw_1, tw_303⟩, ⟨by decide, by decide, by decide⟩⟩
theorem v_SG_read : cm_V y_SG_read w_SG_read 1 := ⟨⟨tw_309, tw_310, tw_1, tw_311⟩, ⟨by decide, by decide, by decide⟩⟩
theorem v_FR_failurePlace : cm_V y_FR_failurePlace w_FR_failurePlace 3 := ⟨⟨tw_313, tw_314, tw_3, tw_315⟩, ⟨by decide, by decide, by decide⟩⟩
theorem v_FR_beginFormula : cm_V y_FR_beginFormula w_FR_beginFormula 0 := ⟨⟨tw_318, ts_5, tw_3, tw_319⟩, ⟨by decide, by decide, by decide⟩⟩
theorem v_FR_beginFactor : cm_V y_FR_beginFactor w_FR_beginFactor 0 := ⟨⟨tw_323, ts_6, tw_3, tw_324⟩, ⟨by decide, by decide, by decide⟩⟩
theorem v_FR_takeInOperand : cm_V y_FR_takeInOperand w_FR_takeInOperand 2 := ⟨⟨tw_327, ts_7, tw_3, tw_328⟩, ⟨by decide, by decide, by decide⟩⟩
theorem v_FR_openParenthesis : cm_V y_FR_openParenthesis w_FR_openParenthesis 0 := ⟨⟨tw_331, ts_8, tw_3, tw_332⟩, ⟨by decide, by decide, by decide⟩⟩
theorem v_FR_endFactor : cm_V y_FR_endFactor w_FR_endFactor 1 := ⟨⟨tw_335, ts_9, tw_3, tw_336⟩, ⟨by decide, by decide, by decide⟩⟩
theorem v_FR_takeBehindOperand : cm_V y_FR_takeBehindOperand w_FR_takeBehindOperand 1 := ⟨⟨tw_342, ts_10, tw_3, tw_343⟩, ⟨by decide, by decide, by decide⟩⟩
theorem v_FR_meaning : cm_V y_FR_meaning w_FR_meaning 0 := ⟨⟨tw_345, tw_346, tw_3, tw_347⟩, ⟨by decide, by decide, by decide⟩⟩
theorem v_FR_closeParenthesis : cm_V y_FR_closeParenthesis w_FR_closeParenthesis 0 := ⟨⟨tw_350, ts_11, tw_3, tw_351⟩, ⟨by decide, by decide, by decide⟩⟩
theorem v_SG_release : cm_V y_SG_release w_SG_release 1 := ⟨⟨tw_357, tw_358, tw_1, tw_359⟩, ⟨by decide, by decide, by decide⟩⟩
theorem v_RG_clear : cm_V y_RG_clear w_RG_clear 1 := ⟨⟨tw_361, tw_362, tw_2, tw_363⟩, ⟨by decide, by decide, by decide⟩⟩
theorem v_SG_equal : cm_V y_SG_equal w_SG_equal 2 := ⟨⟨tw_368, tw_369, tw_1, tw_370⟩, ⟨by decide, by decide, by decide⟩⟩
theorem v_SG_value : cm_V y_SG_value w_SG_value 2 := ⟨⟨tw_375, tw_376, tw_1, tw_377⟩, ⟨by decide, by decide, by decide⟩⟩
theorem v_TB_at : cm_S y_TB_at w_TB_at 2 := ⟨⟨tw_379, tw_10, tw_380⟩, ⟨by decide, by decide, by decide⟩⟩
theorem v_SG_count : cm_V y_SG_count w_SG_count 1 := ⟨⟨tw_385, tw_386, tw_1, tw_387⟩, ⟨by decide, by decide, by decide⟩⟩
theorem v_JL_bitCount : cm_S y_JL_bitCount w_JL_bitCount 1 := ⟨⟨tw_389, tw_12, tw_390⟩, ⟨by decide, by decide, by decide⟩⟩
theorem v_SG_least : cm_V y_SG_least w_SG_least 1 := ⟨⟨tw_398, tw_399, tw_1, tw_400⟩, ⟨by decide, by decide, by decide⟩⟩
theorem v_SG_support : cm_V y_SG_support w_SG_support 1 := ⟨⟨tw_405, tw_406, tw_1, tw_407⟩, ⟨by decide, by decide, by decide⟩⟩
theorem v_TB_dependsOn : cm_S y_TB_dependsOn w_TB_dependsOn 2 := ⟨⟨tw_409, tw_10, tw_410⟩, ⟨by decide, by decide, by decide⟩⟩
theorem v_SG_size : cm_V y_SG_size w_SG_size 1 := ⟨⟨tw_417, tw_418, tw_1, tw_419⟩, ⟨by decide, by decide, by decide⟩⟩
theorem v_SG_width : cm_V y_SG_width w_SG_width 1 := ⟨⟨tw_424, tw_425, tw_1, tw_426⟩, ⟨by decide, by decide, by decide⟩⟩
theorem v_NC_onLevel : cm_V y_NC_onLevel w_NC_onLevel 1 := ⟨⟨tw_428, tw_429, tw_4, tw_430⟩, ⟨by decide, by decide, by decide⟩⟩
theorem v_SG_variable : cm_V y_SG_variable w_SG_variable 1 := ⟨⟨tw_435, tw_436, tw_1, tw_437⟩, ⟨by decide, by decide, by decide⟩⟩
theorem v_SG_swap : cm_V y_SG_swap w_SG_swap 1 := ⟨⟨tw_442, tw_443, tw_1, tw_444⟩, ⟨by decide, by decide, by decide⟩⟩
theorem v_SG_exchange : cm_V y_SG_exchange w_SG_exchange 1 := ⟨⟨tw_447, ts_12, tw_1, tw_448⟩, ⟨by decide, by decide, by decide⟩⟩
theorem v_SG_sift : cm_V y_SG_sift w_SG_sift 1 := ⟨⟨tw_453, tw_454, tw_1, tw_455⟩, ⟨by decide, by decide, by decide⟩⟩
theorem v_SG_levelOf : cm_V y_SG_levelOf w_SG_levelOf 1 := ⟨⟨tw_458, ts_13, tw_1, tw_459⟩, ⟨by decide, by decide, by decide⟩⟩
theorem v_SG_raise : cm_V y_SG_raise w_SG_raise 2 := ⟨⟨tw_462, ts_14, tw_1, tw_463⟩, ⟨by decide, by decide, by decide⟩⟩
theorem v_MD_thrown : cm_V y_MD_thrown w_MD_thrown 0 := ⟨⟨tw_511, tw_512, tw_5, tw_513⟩, ⟨by decide, by decide, by decide⟩⟩
theorem v_MD_set : cm_V y_MD_set w_MD_set 2 := ⟨⟨tw_515, tw_516, tw_5, tw_517⟩, ⟨by decide, by decide, by decide⟩⟩
theorem v_MD_isRegister : cm_S y_MD_isRegister w_MD_isRegister 1 := ⟨⟨tw_519, tw_5, tw_520⟩, ⟨by decide, by decide, by decide⟩⟩
theorem v_MD_within : cm_S y_MD_within w_MD_within 3 := ⟨⟨tw_522, tw_5, tw_523⟩, ⟨by decide, by decide, by decide⟩⟩
theorem v_MD_variableTable : cm_S y_MD_variableTable w_MD_variableTable 1 := ⟨⟨tw_525, tw_5, tw_526⟩, ⟨by decide, by decide, by decide⟩⟩
theorem v_MD_put : cm_V y_MD_put w_MD_put 2 := ⟨⟨tw_530, ts_15, tw_5, tw_531⟩, ⟨by decide, by decide, by decide⟩⟩
theorem v_MD_apply : cm_V y_MD_apply w_MD_apply 4 := ⟨⟨tw_533, tw_534, tw_5, tw_535⟩, ⟨by decide, by decide, by decide⟩⟩
theorem v_MD_at : cm_S y_MD_at w_MD_at 2 := ⟨⟨tw_537, tw_5, tw_538⟩, ⟨by decide, by decide, by decide⟩⟩
theorem v_MD_choose : cm_V y_MD_choose w_MD_choose 4 := ⟨⟨tw_540, tw_541, tw_5, tw_542⟩, ⟨by decide, by decide, by decide⟩⟩
theorem v_MD_restrict : cm_V y_MD_restrict w_MD_restrict 4 := ⟨⟨tw_544, tw_545, tw_5, tw_546⟩, ⟨by decide, by decide, by decide⟩⟩
theorem v_MD_with : cm_S y_MD_with w_MD_with 3 := ⟨⟨tw_548, tw_5, tw_549⟩, ⟨by decide, by decide, by decide⟩⟩
theorem v_MD_compose : cm_V y_MD_compose w_MD_compose 4 := ⟨⟨tw_551, tw_552, tw_5, tw_553⟩, ⟨by decide, by decide, by decide⟩⟩
theorem v_MD_quantify : cm_V y_MD_quantify w_MD_quantify 4 := ⟨⟨tw_555, tw_556, tw_5, tw_557⟩, ⟨by decide, by decide, by decide⟩⟩
theorem v_MD_release : cm_V y_MD_release w_MD_release 1 := ⟨⟨tw_559, tw_560, tw_5, tw_561⟩, ⟨by decide, by decide, by decide⟩⟩
theorem v_MD_type : cm_V y_MD_type w_MD_type 2 := ⟨⟨tw_563, tw_564, tw_5, tw_565⟩, ⟨by decide, by decide, by decide⟩⟩
theorem v_MD_read : cm_V y_MD_read w_MD_read 1 := ⟨⟨tw_567, tw_568, tw_5, tw_569⟩, ⟨by decide, by decide, by decide⟩⟩
theorem v_MD_begin : cm_V y_MD_begin w_MD_begin 2 := ⟨⟨tw_572, ts_16, tw_5, tw_573⟩, ⟨by decide, by decide, by decide⟩⟩
theorem v_MD_later : cm_V y_MD_later w_MD_later 1 := ⟨⟨tw_576, ts_17, tw_5, tw_577⟩, ⟨by decide, by decide, by decide⟩⟩
theorem v_MD_push : cm_V y_MD_push w_MD_push 1 := ⟨⟨tw_580, ts_18, tw_5, tw_581⟩, ⟨by decide, by decide, by decide⟩⟩
theorem v_MD_reduce : cm_V y_MD_reduce w_MD_reduce 1 := ⟨⟨tw_584, ts_19, tw_5, tw_585⟩, ⟨by decide, by decide, by decide⟩⟩
theorem v_MD_strength : cm_S y_MD_strength w_MD_strength 1 := ⟨⟨tw_587, tw_5, tw_588⟩, ⟨by decide, by decide, by decide⟩⟩
theorem v_MD_equal : cm_V y_MD_equal w_MD_equal 2 := ⟨⟨tw_590, tw_591, tw_5, tw_592⟩, ⟨by decide, by decide, by decide⟩⟩
theorem v_MD_value : cm_V y_MD_value w_MD_value 2 := ⟨⟨tw_594, tw_595, tw_5, tw_596⟩, ⟨by decide, by decide, by decide⟩⟩
theorem v_MD_count : cm_V y_MD_count w_MD_count 1 := ⟨⟨tw_598, tw_599, tw_5, tw_600⟩, ⟨by decide, by decide, by decide⟩⟩
theorem v_MD_lack : cm_V y_MD_lack w_MD_lack 1 := ⟨⟨tw_603, ts_20, tw_5, tw_604⟩, ⟨by decide, by decide, by decide⟩⟩
theorem v_MD_least : cm_V y_MD_least w_MD_least 1 := ⟨⟨tw_606, tw_607, tw_5, tw_608⟩, ⟨by decide, by decide, by decide⟩⟩
theorem v_MD_support : cm_V y_MD_support w_MD_support 1 := ⟨⟨tw_610, tw_611, tw_5, tw_612⟩, ⟨by decide, by decide, by decide⟩⟩
theorem v_MD_depends : cm_S y_MD_depends w_MD_depends 2 := ⟨⟨tw_614, tw_5, tw_615⟩, ⟨by decide, by decide, by decide⟩⟩
theorem v_MD_size : cm_V y_MD_size w_MD_size 1 := ⟨⟨tw_617, tw_618, tw_5, tw_619⟩, ⟨by decide, by decide, by decide⟩⟩
theorem v_MD_findAll : cm_V y_MD_findAll w_MD_findAll 2 := ⟨⟨tw_622, ts_21, tw_5, tw_623⟩, ⟨by decide, by decide, by decide⟩⟩
theorem v_MD_find : cm_V y_MD_find w_MD_find 1 := ⟨⟨tw_626, ts_22, tw_5, tw_627⟩, ⟨by decide, by decide, by decide⟩⟩
theorem v_MD_shared : cm_V y_MD_shared w_MD_shared 0 := ⟨⟨tw_629, tw_630, tw_5, tw_631⟩, ⟨by decide, by decide, by decide⟩⟩
theorem v_MD_all : cm_V y_MD_all w_MD_all 0 := ⟨⟨tw_634, ts_23, tw_5, tw_635⟩, ⟨by decide, by decide, by decide⟩⟩
theorem v_MD_widthOf : cm_V y_MD_widthOf w_MD_widthOf 1 := ⟨⟨tw_638, ts_24, tw_5, tw_639⟩, ⟨by decide, by decide, by decide⟩⟩
theorem v_MD_width : cm_V y_MD_width w_MD_width 1 := ⟨⟨tw_641, tw_642, tw_5, tw_643⟩, ⟨by decide, by decide, by decide⟩⟩
theorem v_MD_variable : cm_V y_MD_variable w_MD_variable 1 := ⟨⟨tw_645, tw_646, tw_5, tw_647⟩, ⟨by decide, by decide, by decide⟩⟩
theorem v_MD_swap : cm_V y_MD_swap w_MD_swap 1 := ⟨⟨tw_649, tw_650, tw_5, tw_651⟩, ⟨by decide, by decide, by decide⟩⟩
theorem v_MD_sift : cm_V y_MD_sift w_MD_sift 1 := ⟨⟨tw_653, tw_654, tw_5, tw_655⟩, ⟨by decide, by decide, by decide⟩⟩
theorem v_MD_arrange : cm_V y_MD_arrange w_MD_arrange 2 := ⟨⟨tw_658, ts_25, tw_5, tw_659⟩, ⟨by decide, by decide, by decide⟩⟩
end
