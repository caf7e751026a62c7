/-! The context of a run (g): the classes' numbers and slots, the array classes (int, long, boolean, char), the cell of Tables.OF_VARIABLES, and the addresses that may be written. -/
abbrev Gx : Type := va_G × (ClassId × ClassId × ClassId × ClassId) × Nat × (Nat → Prop)
abbrev gA (g : Gx) : Nat → Prop := g.2.2.2
abbrev tY (g : Gx) : List (ClassId × FieldType) := [(g.2.1.1, .int), (g.2.1.2.1, .long), (g.2.1.2.2.1, .boolean), (g.2.1.2.2.2, .char)]
abbrev aI (g : Gx) (n : Nat) (f : Nat → Int32) : va_E := .inl (g.2.1.1, n, .inl f)
abbrev aJ (g : Gx) (n : Nat) (f : Nat → Int64) : va_E := .inl (g.2.1.2.1, n, .inr (.inl f))
abbrev aZ (g : Gx) (n : Nat) (f : Nat → Int32) : va_E := .inl (g.2.1.2.2.1, n, .inl f)
abbrev aC (g : Gx) (n : Nat) (f : Nat → Int32) : va_E := .inl (g.2.1.2.2.2, n, .inl f)
abbrev IAE : String := "java/lang/IllegalArgumentException"
abbrev NSE : String := "java/util/NoSuchElementException"
/-- the masks of the six variables -/
def mk6 : Nat → Int64 := fun j => match j with
  | 0 => -4294967296
  | 1 => -281470681808896
  | 2 => -71777214294589696
  | 3 => -1085102592571150096
  | 4 => -3689348814741910324
  | _ => -6148914691236517206
/-- the words that a throw wants beside those of TW -/
def NG : List Cond := [.castable IAE IAE, .castable NSE NSE, .declares ⟨"java/lang/RuntimeException", "<init>", "()V"⟩, .declares ⟨"java/lang/Exception", "<init>", "()V"⟩, .declares ⟨"java/lang/Throwable", "<init>", "()V"⟩]
theorem ng_cast {a b : String} {u U : State} (hvm : u.vm.Alike U.vm) (h : (Cond.castable a b).before #[] u = true) : (Cond.castable a b).before #[] U = true := by
  obtain ⟨c, t, h1, h2, h3⟩ := Cond.castable_spec h
  have e1 : U.vm.findClass a = some c := by rw [hvm.findClass]; exact h1
  have e2 : U.vm.findClass b = some t := by rw [hvm.findClass]; exact h2
  have e3 : U.vm.assignable c t = true := by rw [hvm.assignable]; exact h3
  simp [Cond.before, Cond.holds, Cond.value, e1, e2, e3]
theorem ng_decl {x : MethodName} {u U : State} (hvm : u.vm.Alike U.vm) (h : (Cond.declares x).before #[] u = true) : (Cond.declares x).before #[] U = true := by
  have h1 : (Cond.declares x).before #[] (u.setVm U.vm) = true := by
    rw [Cond.declares_setVm hvm]
    exact h
  have e := Cond.onTables_vm (A := #[]) (A' := #[]) (U := u) (U' := U) U.vm (Cond.declares x) rfl
  have hU : U.setVm U.vm = U := rfl
  rw [hU] at e
  rw [← e]
  exact h1
def NGs (U : State) : Prop := (∀ w ∈ NG, w.before #[] U = true) ∧ va_Nc NSE IAE U
theorem NGs.moved {u U : State} (hvm : u.vm.Alike U.vm) (h : NGs u) : NGs U := by
  refine ⟨?_, va_Nc.moved hvm h.2⟩
  have h1 := h.1
  simp only [NG, List.forall_mem_cons] at h1 ⊢
  exact ⟨ng_cast hvm h1.1, ng_cast hvm h1.2.1, ng_decl hvm h1.2.2.1, ng_decl hvm h1.2.2.2.1, ng_decl hvm h1.2.2.2.2.1, fun _ h => absurd h List.not_mem_nil⟩
/-- what is known of statics and of the throwables' words -/
def ST (g : Gx) (U : State) (H : Heap) : Prop := va_Z "SiftedGraphs$Tables" "OF_VARIABLES" "[J" (.ref g.2.2.1) (gA g) U H ∧ va_T .long g.2.2.1 6 (fun j => .long (mk6 j)) (gA g) U H ∧ vx_Zq Bundle.tN "UNASSIGNED_STACK" Bundle.steD (gA g) U H ∧ vx_Zq Bundle.tN "SUPPRESSED_SENTINEL" Bundle.listD (gA g) U H ∧ NGs U
theorem ST.go {g : Gx} {u U : State} {H H1 : Heap} (hvm : u.vm.Alike U.vm) (hq : ∀ a : Nat, a < H.size → ¬ gA g a → H1[a]? = H[a]?) (h : ST g u H) : ST g U H1 :=
  ⟨va_Z.kept (va_Z.moved hvm h.1) hq, va_T.kept (va_T.moved hvm h.2.1) hq, vx_Zq.kept (vx_Zq.moved hvm h.2.2.1) hq, vx_Zq.kept (vx_Zq.moved hvm h.2.2.2.1) hq, NGs.moved hvm h.2.2.2.2⟩
/-- the world ws stands in U -/
def PR (g : Gx) (ws : va_W) (U : State) : Prop := (∀ q, U.heap.size ≤ q → gA g q) ∧ va_P g.1 cl ws U.heap ∧ va_K g.1 cl (tY g) U ∧ va_D (gA g) ws ∧ ST g U U.heap
/-- what stays the same all through a method -/
def Fx (g : Gx) (s : State) : Prop := (∀ q, s.heap.size ≤ q → gA g q) ∧ va_K g.1 cl (tY g) s ∧ ST g s s.heap
theorem PR.at {g : Gx} {ws : va_W} {s U : State} {H : Heap} {locs : List Loc} (F : Fx g s) (hP : va_P g.1 cl ws H) (hD : va_D (gA g) ws) (hS : va_S (gA g) s.heap H locs) (hU : U.heap = H) (hvm : s.vm.Alike U.vm) : PR g ws U := by
  subst hU
  exact ⟨fun q h => F.1 q (Nat.le_trans hS.1 h), hP, va_K.moved hvm F.2.1, hD, ST.go hvm hS.2.1 F.2.2⟩
theorem PR.blind {g : Gx} {ws : va_W} {av : List Value} : FrameBlind (va_Pc av (PR g ws)) := by
  intro a U gg mk h
  obtain ⟨h0, h1, h2, h3, h4, h5⟩ := h
  exact ⟨h0, h1, h2, va_K.moved (u := U) (U := U.calling gg mk a) (Vm.Alike.refl U.vm) h3, h4, ST.go (u := U) (U := U.calling gg mk a) (Vm.Alike.refl U.vm) (fun _ _ _ => rfl) h5⟩
theorem TW_gi {ws : List Cond} (h : ∀ w ∈ ws, w ∈ TW) : GoodIn TW ws := fun w hw => ⟨h w hw, good_of_word (TW_g (h w hw))⟩
/-- a method's body out of its contract's start -/
theorem mt_of {l : Launch} {y : MethodName} {cc : ByteArray} {maxL : Nat} {ret : Option FieldType} {rm : Room} {g : Gx} {w0 : va_W} {av : List Value} {Qc : Array Value → State → Outcome → State → Prop} {mc ms : Nat} (hy : plainName y.cls = true) (hn : (lg_sl av).length ≤ maxL)
    (body : ∀ (p : Program) (e : Env) (s : State) (m : MethodId) (below : List Frame) (meth : Method) (c : Code) (ls : Array Slot), p.tables.exec = Jvm.exec → c.code = cc → meth.sig.returnType = ret → c.maxLocals = maxL → meth.locks = false → s.vm.findClass y.cls = some m.cls → (∀ w ∈ TW, w.before av.toArray s = true) → meth.name = y.name → Fx g s → va_P g.1 cl w0 s.heap → va_D (gA g) w0 → lv_has ls maxL (lv_args 0 av) →
      W p l e rm s m av.toArray below meth c s.heap [] 0 0 (MQ below Qc av.toArray s mc ms (gA g)) (F0 m 0 ls [])) : Met l y (Cond.code y cc maxL ret :: TW) rm (va_Pc av (PR g w0)) Qc mc ms (gA g) := by
  refine Met.ofW (cc := cc) (maxL := maxL) (ret := ret) hy rfl ?_
  intro p e s m args below meth c s₁ B hml hv
  obtain ⟨rfl, hA, hP, hK, hD, hZ⟩ := hv
  have hl := lv_entry av hn
  rw [lg_entry_eq]
  exact body p e s m below meth c _ B.exec B.bytes B.returns hml B.notSynchronized (findClass_of_methodNamed B.named) (fun w hw => atoms_spec (ws := Cond.code y cc maxL ret :: TW) B.pre w (List.mem_cons_of_mem _ hw)) (name_of_methodNamed B.named B.method).1 ⟨hA, hK, hZ⟩ hP hD hl
/-- the same for a method that throws -/
theorem mx_of {l : Launch} {y : MethodName} {cc : ByteArray} {maxL : Nat} {ret : Option FieldType} {rm : Room} {g : Gx} {w0 : va_W} {av : List Value} {Qc : Array Value → State → Outcome → State → Prop} {XC : String → State → State → Prop} {mc ms : Nat} (hy : plainName y.cls = true) (hn : (lg_sl av).length ≤ maxL)
    (body : ∀ (p : Program) (e : Env) (s : State) (m : MethodId) (below : List Frame) (meth : Method) (c : Code) (ls : Array Slot), p.tables.exec = Jvm.exec → c.code = cc → meth.sig.returnType = ret → c.maxLocals = maxL → meth.locks = false → s.vm.findClass y.cls = some m.cls → (∀ w ∈ TW, w.before av.toArray s = true) → (∀ x ∈ c.exceptionTable.toList, False) → Fx g s → va_P g.1 cl w0 s.heap → va_D (gA g) w0 → lv_has ls maxL (lv_args 0 av) →
      W p l e rm s m av.toArray below meth c s.heap [] 0 0 (vx_MQ below Qc XC av.toArray s mc ms (gA g)) (F0 m 0 ls [])) : vx_Met l y (Cond.code y cc maxL ret :: TW) rm (va_Pc av (PR g w0)) Qc XC mc ms (gA g) := by
  refine vx_ofW (cc := cc) (maxL := maxL) (ret := ret) hy rfl ?_
  intro p e s m args below meth c s₁ B hml hex hv
  obtain ⟨rfl, hA, hP, hK, hD, hZ⟩ := hv
  have hl := lv_entry av hn
  rw [lg_entry_eq]
  exact body p e s m below meth c _ B.exec B.bytes B.returns hml B.notSynchronized (findClass_of_methodNamed B.named) (fun w hw => atoms_spec (ws := Cond.code y cc maxL ret :: TW) B.pre w (List.mem_cons_of_mem _ hw)) hex ⟨hA, hK, hZ⟩ hP hD hl
/-- what a call wants to know of its callee, an instance's method (cm_V) or a static one (cm_S) -/
def cm_V (y : MethodName) (w : Cond) (n : Nat) : Prop := (Cond.instanceMethod y ∈ TW ∧ Cond.selects y.cls y y ∈ TW ∧ Cond.initialized y.cls ∈ TW ∧ w ∈ TW) ∧ (y.cls ≠ "java/lang/invoke/MethodHandle" ∧ y.cls ≠ "java/lang/invoke/VarHandle" ∧ (parseMethodDescriptor y.desc).map (fun d => d.parameters.length) = some n)
def cm_S (y : MethodName) (w : Cond) (n : Nat) : Prop := (Cond.static y ∈ TW ∧ Cond.initialized y.cls ∈ TW ∧ w ∈ TW) ∧ (y.cls ≠ "java/lang/invoke/MethodHandle" ∧ y.cls ≠ "java/lang/invoke/VarHandle" ∧ (parseMethodDescriptor y.desc).map (fun d => d.parameters.length) = some n)
/-! worlds in another order -/
theorem wp_perm {D : va_G} {cs : List vw_C} {ws ws' : va_W} {H : Heap} (hp : ws.Perm ws') (h : va_P D cs ws H) : va_P D cs ws' H := fun k q hk => by
  have hm : q ∈ ws := hp.mem_iff.mpr (List.mem_of_getElem? hk)
  obtain ⟨i, hi⟩ := List.getElem?_of_mem hm
  exact h i q hi
theorem wd_iff {A : Nat → Prop} {ws : va_W} : va_D A ws ↔ (ws.map (fun q => q.1)).Nodup ∧ ∀ q ∈ ws, A q.1 := by
  constructor
  · intro h
    refine ⟨?_, fun q hq => ?_⟩
    · unfold List.Nodup
      rw [List.pairwise_iff_getElem]
      intro i j hi hj hij he
      have hi' : i < ws.length := by simpa using hi
      have hj' : j < ws.length := by simpa using hj
      simp only [List.getElem_map] at he
      have := h.1 i j _ _ (List.getElem?_eq_getElem hi') (List.getElem?_eq_getElem hj') he
      omega
    · obtain ⟨i, hi⟩ := List.getElem?_of_mem hq
      exact h.2 i q hi
  · intro h
    refine ⟨fun i j p q hi hj he => ?_, fun k q hk => h.2 q (List.mem_of_getElem? hk)⟩
    have hn := h.1
    unfold List.Nodup at hn
    rw [List.pairwise_iff_getElem] at hn
    obtain ⟨hil, ei⟩ := List.getElem?_eq_some_iff.mp hi
    obtain ⟨hjl, ej⟩ := List.getElem?_eq_some_iff.mp hj
    rcases Nat.lt_trichotomy i j with hlt | heq | hgt
    · exact (hn i j (by simpa using hil) (by simpa using hjl) hlt (by simp only [List.getElem_map]; rw [ei, ej]; exact he)).elim
    · exact heq
    · exact (hn j i (by simpa using hjl) (by simpa using hil) hgt (by simp only [List.getElem_map]; rw [ei, ej]; exact he.symm)).elim
theorem wd_perm {A : Nat → Prop} {ws ws' : va_W} (hp : ws.Perm ws') (h : va_D A ws) : va_D A ws' := by
  rw [wd_iff] at h ⊢
  exact ⟨(hp.map _).nodup_iff.mp h.1, fun q hq => h.2 q (hp.mem_iff.mpr hq)⟩
/-- an array of numbers -/
abbrev nF (f : Nat → Nat) : Nat → Int32 := fun j => nI (f j)
def uN (f : Nat → Nat) (k x : Nat) : Nat → Nat := fun j => if j = k then x else f j
theorem nF_upd {f : Nat → Nat} {k x : Nat} : upd (nF f) k (nI x) = nF (uN f k x) := by
  funext j; unfold upd nF uN; split <;> rfl
/-- a truth value as the machine has it -/
def bI (P : Prop) [Decidable P] : Int32 := if P then 1 else 0
theorem bI_t {P : Prop} [Decidable P] (h : P) : nI 1 = bI P := by rw [bI, if_pos h]; rfl
theorem bI_f {P : Prop} [Decidable P] (h : ¬ P) : nI 0 = bI P := by rw [bI, if_neg h]; rfl
theorem bI_01 (P : Prop) [Decidable P] : bI P = 0 ∨ bI P = 1 := by unfold bI; split <;> simp
theorem bI_nar (P : Prop) [Decidable P] : narrow .boolean (.int (bI P)) = .int (bI P) := by rcases bI_01 P with h | h <;> rw [h] <;> rfl
/-- how a method that throws for sure ends: E, the world as it is then -/
def xT (g : Gx) (EE : String) (w1 : va_W) : String → State → State → Prop := fun E st t => E = EE ∧ PR g w1 t ∧ va_F (gA g) st t
def qF : Array Value → State → Outcome → State → Prop := fun _ _ _ _ => False
section PRcalls
variable {p : Program} {l : Launch} {e : Env} {R : Room} {s : State} {m : MethodId} {args : Array Value} {below : List Frame} {meth : Method} {c : Code} {H : Heap} {locs : List Loc} {cells slots : Nat} {Q : State → Prop}
variable {cc bytes : ByteArray} {pc maxL n index mc ms : Nat} {ls : Array Slot} {rest st0 As : List Value} {g : Gx} {w0 : va_W} {own : String} {y : MethodName} {ret : Option FieldType} {rm : Room}
theorem pc_W (ht : ∀ w ∈ TW, w.before args s = true) (hv : cm_V y (Cond.code y bytes maxL ret) n) (hlk : Cond.methodLink own index y ∈ TW) (hrm : rm.cells = mc ∧ rm.slots = ms) (hR : rm.frames + 1 ≤ R.frames ∧ 8 + (maxL + 11) + rm.locals ≤ R.locals) :
    CallW R s args own y.cls index y bytes maxL ret (Cond.code y bytes maxL ret :: TW) rm mc ms n := by
  obtain ⟨⟨h2, h3, h4, h5⟩, hd⟩ := hv
  refine cwV n ht (TW_gi ?_) rfl hrm.1 hrm.2 ⟨rfl, hd⟩ hR
  intro w hw
  simp only [wsV, List.cons_append, List.nil_append, List.mem_cons] at hw
  rcases hw with rfl | rfl | rfl | rfl | rfl | hw <;> assumption
theorem pc_S (ht : ∀ w ∈ TW, w.before args s = true) (hv : cm_S y (Cond.code y bytes maxL ret) n) (hlk : Cond.methodLink own index y ∈ TW) (hrm : rm.cells = mc ∧ rm.slots = ms) (hR : rm.frames + 1 ≤ R.frames ∧ 8 + (maxL + 11) + rm.locals ≤ R.locals) :
    CallB R s args own index y bytes maxL ret (Cond.code y bytes maxL ret :: TW) rm mc ms n ∧ (Cond.static y).before args s = true := by
  obtain ⟨⟨h2, h4, h5⟩, hd⟩ := hv
  refine va_cwS n ht (TW_gi ?_) rfl hrm.1 hrm.2 hd hR
  intro w hw
  simp only [va_wsS, List.cons_append, List.nil_append, List.mem_cons] at hw
  rcases hw with rfl | rfl | rfl | rfl | hw <;> assumption
theorem pc_Vi {S : Type} {post : Int32 → S → Prop} {wf : S → va_W} {b q0 ci N : Nat} {T : u_T} {fs : List Value} (hx : p.tables.exec = Jvm.exec) (hb : c.code = cc) (hml : c.maxLocals = ls.size) (hown : s.vm.findClass own = some m.cls) (ht : ∀ w ∈ TW, w.before args s = true) (F : Fx g s) (hP : va_P g.1 cl w0 H) (hD : va_D (gA g) w0) (hS : va_S (gA g) s.heap H locs)
    (hM : Met l y (Cond.code y bytes maxL ret :: TW) rm (va_Pc (.ref b :: As) (PR g w0)) (va_Qi post (fun u t => PR g (wf u) t) (gA g)) mc ms (gA g)) (hv : cm_V y (Cond.code y bytes maxL ret) n) (hlk : Cond.methodLink own index y ∈ TW) (hrm : rm.cells = mc ∧ rm.slots = ms) (hR : rm.frames + 1 ≤ R.frames ∧ 8 + (maxL + 11) + rm.locals ≤ R.locals) (he : w0[q0]? = some (b, .inr (ci, fs))) (hc : cl[ci]? = some (y.cls, T, N)) (hn : As.length = n) (hst : st0 = As.reverse ++ .ref b :: rest) (hw : (rest.map fun v => v.category).sum ≤ 8) (hf : cells + mc ≤ R.cells ∧ slots + ms ≤ R.slots) (hdg : decode cc pc = .ok (.invokevirtual index, 3))
    (kk : ∀ (r : Int32) (u : S) (H1 : Heap) (locs1 : List Loc), post r u → va_P g.1 cl (wf u) H1 → va_D (gA g) (wf u) → va_S (gA g) s.heap H1 locs1 → W p l e R s m args below meth c H1 locs1 (cells + mc) (slots + ms) Q (F0 m (pc + 3) ls (.int r :: rest))) : W p l e R s m args below meth c H locs cells slots Q (F0 m pc ls st0) := by
  subst hst
  refine va_calli (va_runV (As := As) (rest := rest) (nL := ls.size) ⟨hx, hb, hml, hown, ht⟩ hM (pc_W ht hv hlk hrm hR) ⟨PR.blind, va_recv F.2.1 hP hc he, fun U hU hW => ⟨rfl, PR.at F hP hD hS hU hW.alike⟩⟩ rfl hn rfl rfl (lv_room hw) hdg hf) hS (fun _ _ h => h) (fun _ h => h) (fun r u t H1 locs1 e1 hvm hp hB hz hk hS1 => ?_)
  obtain ⟨-, hP1, -, hD1, -⟩ := hB
  rw [e1] at hP1
  exact kk r u H1 locs1 hp hP1 hD1 hS1
theorem pc_Si {S : Type} {post : Int32 → S → Prop} {wf : S → va_W} (hx : p.tables.exec = Jvm.exec) (hb : c.code = cc) (hml : c.maxLocals = ls.size) (hown : s.vm.findClass own = some m.cls) (ht : ∀ w ∈ TW, w.before args s = true) (F : Fx g s) (hP : va_P g.1 cl w0 H) (hD : va_D (gA g) w0) (hS : va_S (gA g) s.heap H locs)
    (hM : Met l y (Cond.code y bytes maxL ret :: TW) rm (va_Pc (As) (PR g w0)) (va_Qi post (fun u t => PR g (wf u) t) (gA g)) mc ms (gA g)) (hv : cm_S y (Cond.code y bytes maxL ret) n) (hlk : Cond.methodLink own index y ∈ TW) (hrm : rm.cells = mc ∧ rm.slots = ms) (hR : rm.frames + 1 ≤ R.frames ∧ 8 + (maxL + 11) + rm.locals ≤ R.locals) (hn : As.length = n) (hst : st0 = As.reverse ++ rest) (hw : (rest.map fun v => v.category).sum ≤ 8) (hf : cells + mc ≤ R.cells ∧ slots + ms ≤ R.slots) (hdg : decode cc pc = .ok (.invokestatic index, 3))
    (kk : ∀ (r : Int32) (u : S) (H1 : Heap) (locs1 : List Loc), post r u → va_P g.1 cl (wf u) H1 → va_D (gA g) (wf u) → va_S (gA g) s.heap H1 locs1 → W p l e R s m args below meth c H1 locs1 (cells + mc) (slots + ms) Q (F0 m (pc + 3) ls (.int r :: rest))) : W p l e R s m args below meth c H locs cells slots Q (F0 m pc ls st0) := by
  subst hst
  refine va_calli (va_runS (As := As) (rest := rest) (nL := ls.size) ⟨hx, hb, hml, hown, ht⟩ hM (pc_S ht hv hlk hrm hR) ⟨PR.blind, fun U hU hW => ⟨rfl, PR.at F hP hD hS hU hW.alike⟩⟩ rfl hn rfl rfl (lv_room hw) hdg hf) hS (fun _ _ h => h) (fun _ h => h) (fun r u t H1 locs1 e1 hvm hp hB hz hk hS1 => ?_)
  obtain ⟨-, hP1, -, hD1, -⟩ := hB
  rw [e1] at hP1
  exact kk r u H1 locs1 hp hP1 hD1 hS1
theorem pc_Vl {S : Type} {post : Int64 → S → Prop} {wf : S → va_W} {b q0 ci N : Nat} {T : u_T} {fs : List Value} (hx : p.tables.exec = Jvm.exec) (hb : c.code = cc) (hml : c.maxLocals = ls.size) (hown : s.vm.findClass own = some m.cls) (ht : ∀ w ∈ TW, w.before args s = true) (F : Fx g s) (hP : va_P g.1 cl w0 H) (hD : va_D (gA g) w0) (hS : va_S (gA g) s.heap H locs)
    (hM : Met l y (Cond.code y bytes maxL ret :: TW) rm (va_Pc (.ref b :: As) (PR g w0)) (va_Ql post (fun u t => PR g (wf u) t) (gA g)) mc ms (gA g)) (hv : cm_V y (Cond.code y bytes maxL ret) n) (hlk : Cond.methodLink own index y ∈ TW) (hrm : rm.cells = mc ∧ rm.slots = ms) (hR : rm.frames + 1 ≤ R.frames ∧ 8 + (maxL + 11) + rm.locals ≤ R.locals) (he : w0[q0]? = some (b, .inr (ci, fs))) (hc : cl[ci]? = some (y.cls, T, N)) (hn : As.length = n) (hst : st0 = As.reverse ++ .ref b :: rest) (hw : (rest.map fun v => v.category).sum ≤ 8) (hf : cells + mc ≤ R.cells ∧ slots + ms ≤ R.slots) (hdg : decode cc pc = .ok (.invokevirtual index, 3))
    (kk : ∀ (r : Int64) (u : S) (H1 : Heap) (locs1 : List Loc), post r u → va_P g.1 cl (wf u) H1 → va_D (gA g) (wf u) → va_S (gA g) s.heap H1 locs1 → W p l e R s m args below meth c H1 locs1 (cells + mc) (slots + ms) Q (F0 m (pc + 3) ls (.long r :: rest))) : W p l e R s m args below meth c H locs cells slots Q (F0 m pc ls st0) := by
  subst hst
  refine va_calll (va_runV (As := As) (rest := rest) (nL := ls.size) ⟨hx, hb, hml, hown, ht⟩ hM (pc_W ht hv hlk hrm hR) ⟨PR.blind, va_recv F.2.1 hP hc he, fun U hU hW => ⟨rfl, PR.at F hP hD hS hU hW.alike⟩⟩ rfl hn rfl rfl (lv_room hw) hdg hf) hS (fun _ _ h => h) (fun _ h => h) (fun r u t H1 locs1 e1 hvm hp hB hz hk hS1 => ?_)
  obtain ⟨-, hP1, -, hD1, -⟩ := hB
  rw [e1] at hP1
  exact kk r u H1 locs1 hp hP1 hD1 hS1
theorem pc_Sl {S : Type} {post : Int64 → S → Prop} {wf : S → va_W} (hx : p.tables.exec = Jvm.exec) (hb : c.code = cc) (hml : c.maxLocals = ls.size) (hown : s.vm.findClass own = some m.cls) (ht : ∀ w ∈ TW, w.before args s = true) (F : Fx g s) (hP : va_P g.1 cl w0 H) (hD : va_D (gA g) w0) (hS : va_S (gA g) s.heap H locs)
    (hM : Met l y (Cond.code y bytes maxL ret :: TW) rm (va_Pc (As) (PR g w0)) (va_Ql post (fun u t => PR g (wf u) t) (gA g)) mc ms (gA g)) (hv : cm_S y (Cond.code y bytes maxL ret) n) (hlk : Cond.methodLink own index y ∈ TW) (hrm : rm.cells = mc ∧ rm.slots = ms) (hR : rm.frames + 1 ≤ R.frames ∧ 8 + (maxL + 11) + rm.locals ≤ R.locals) (hn : As.length = n) (hst : st0 = As.reverse ++ rest) (hw : (rest.map fun v => v.category).sum ≤ 8) (hf : cells + mc ≤ R.cells ∧ slots + ms ≤ R.slots) (hdg : decode cc pc = .ok (.invokestatic index, 3))
    (kk : ∀ (r : Int64) (u : S) (H1 : Heap) (locs1 : List Loc), post r u → va_P g.1 cl (wf u) H1 → va_D (gA g) (wf u) → va_S (gA g) s.heap H1 locs1 → W p l e R s m args below meth c H1 locs1 (cells + mc) (slots + ms) Q (F0 m (pc + 3) ls (.long r :: rest))) : W p l e R s m args below meth c H locs cells slots Q (F0 m pc ls st0) := by
  subst hst
  refine va_calll (va_runS (As := As) (rest := rest) (nL := ls.size) ⟨hx, hb, hml, hown, ht⟩ hM (pc_S ht hv hlk hrm hR) ⟨PR.blind, fun U hU hW => ⟨rfl, PR.at F hP hD hS hU hW.alike⟩⟩ rfl hn rfl rfl (lv_room hw) hdg hf) hS (fun _ _ h => h) (fun _ h => h) (fun r u t H1 locs1 e1 hvm hp hB hz hk hS1 => ?_)
  obtain ⟨-, hP1, -, hD1, -⟩ := hB
  rw [e1] at hP1
  exact kk r u H1 locs1 hp hP1 hD1 hS1
theorem pc_Vv {S : Type} {post : S → Prop} {wf : S → va_W} {b q0 ci N : Nat} {T : u_T} {fs : List Value} (hx : p.tables.exec = Jvm.exec) (hb : c.code = cc) (hml : c.maxLocals = ls.size) (hown : s.vm.findClass own = some m.cls) (ht : ∀ w ∈ TW, w.before args s = true) (F : Fx g s) (hP : va_P g.1 cl w0 H) (hD : va_D (gA g) w0) (hS : va_S (gA g) s.heap H locs)
    (hM : Met l y (Cond.code y bytes maxL ret :: TW) rm (va_Pc (.ref b :: As) (PR g w0)) (va_Qv post (fun u t => PR g (wf u) t) (gA g)) mc ms (gA g)) (hv : cm_V y (Cond.code y bytes maxL ret) n) (hlk : Cond.methodLink own index y ∈ TW) (hrm : rm.cells = mc ∧ rm.slots = ms) (hR : rm.frames + 1 ≤ R.frames ∧ 8 + (maxL + 11) + rm.locals ≤ R.locals) (he : w0[q0]? = some (b, .inr (ci, fs))) (hc : cl[ci]? = some (y.cls, T, N)) (hn : As.length = n) (hst : st0 = As.reverse ++ .ref b :: rest) (hw : (rest.map fun v => v.category).sum ≤ 8) (hf : cells + mc ≤ R.cells ∧ slots + ms ≤ R.slots) (hdg : decode cc pc = .ok (.invokevirtual index, 3))
    (kk : ∀ (u : S) (H1 : Heap) (locs1 : List Loc), post u → va_P g.1 cl (wf u) H1 → va_D (gA g) (wf u) → va_S (gA g) s.heap H1 locs1 → W p l e R s m args below meth c H1 locs1 (cells + mc) (slots + ms) Q (F0 m (pc + 3) ls (rest))) : W p l e R s m args below meth c H locs cells slots Q (F0 m pc ls st0) := by
  subst hst
  refine va_callv (va_runV (As := As) (rest := rest) (nL := ls.size) ⟨hx, hb, hml, hown, ht⟩ hM (pc_W ht hv hlk hrm hR) ⟨PR.blind, va_recv F.2.1 hP hc he, fun U hU hW => ⟨rfl, PR.at F hP hD hS hU hW.alike⟩⟩ rfl hn rfl rfl (lv_room hw) hdg hf) hS (fun _ _ h => h) (fun _ h => h) (fun u t H1 locs1 e1 hvm hp hB hz hk hS1 => ?_)
  obtain ⟨-, hP1, -, hD1, -⟩ := hB
  rw [e1] at hP1
  exact kk u H1 locs1 hp hP1 hD1 hS1
theorem pc_Sv {S : Type} {post : S → Prop} {wf : S → va_W} (hx : p.tables.exec = Jvm.exec) (hb : c.code = cc) (hml : c.maxLocals = ls.size) (hown : s.vm.findClass own = some m.cls) (ht : ∀ w ∈ TW, w.before args s = true) (F : Fx g s) (hP : va_P g.1 cl w0 H) (hD : va_D (gA g) w0) (hS : va_S (gA g) s.heap H locs)
    (hM : Met l y (Cond.code y bytes maxL ret :: TW) rm (va_Pc (As) (PR g w0)) (va_Qv post (fun u t => PR g (wf u) t) (gA g)) mc ms (gA g)) (hv : cm_S y (Cond.code y bytes maxL ret) n) (hlk : Cond.methodLink own index y ∈ TW) (hrm : rm.cells = mc ∧ rm.slots = ms) (hR : rm.frames + 1 ≤ R.frames ∧ 8 + (maxL + 11) + rm.locals ≤ R.locals) (hn : As.length = n) (hst : st0 = As.reverse ++ rest) (hw : (rest.map fun v => v.category).sum ≤ 8) (hf : cells + mc ≤ R.cells ∧ slots + ms ≤ R.slots) (hdg : decode cc pc = .ok (.invokestatic index, 3))
    (kk : ∀ (u : S) (H1 : Heap) (locs1 : List Loc), post u → va_P g.1 cl (wf u) H1 → va_D (gA g) (wf u) → va_S (gA g) s.heap H1 locs1 → W p l e R s m args below meth c H1 locs1 (cells + mc) (slots + ms) Q (F0 m (pc + 3) ls (rest))) : W p l e R s m args below meth c H locs cells slots Q (F0 m pc ls st0) := by
  subst hst
  refine va_callv (va_runS (As := As) (rest := rest) (nL := ls.size) ⟨hx, hb, hml, hown, ht⟩ hM (pc_S ht hv hlk hrm hR) ⟨PR.blind, fun U hU hW => ⟨rfl, PR.at F hP hD hS hU hW.alike⟩⟩ rfl hn rfl rfl (lv_room hw) hdg hf) hS (fun _ _ h => h) (fun _ h => h) (fun u t H1 locs1 e1 hvm hp hB hz hk hS1 => ?_)
  obtain ⟨-, hP1, -, hD1, -⟩ := hB
  rw [e1] at hP1
  exact kk u H1 locs1 hp hP1 hD1 hS1
theorem xc_V {EE : String} {w1 : va_W} {b q0 ci N : Nat} {T : u_T} {fs : List Value} (hx : p.tables.exec = Jvm.exec) (hb : c.code = cc) (hml : c.maxLocals = ls.size) (hown : s.vm.findClass own = some m.cls) (ht : ∀ w ∈ TW, w.before args s = true) (F : Fx g s) (hP : va_P g.1 cl w0 H) (hD : va_D (gA g) w0) (hS : va_S (gA g) s.heap H locs)
    (hM : vx_Met l y (Cond.code y bytes maxL ret :: TW) rm (va_Pc (.ref b :: As) (PR g w0)) qF (xT g EE w1) mc ms (gA g)) (hv : cm_V y (Cond.code y bytes maxL ret) n) (hlk : Cond.methodLink own index y ∈ TW) (hrm : rm.cells = mc ∧ rm.slots = ms) (hR : rm.frames + 1 ≤ R.frames ∧ 8 + (maxL + 11) + rm.locals ≤ R.locals) (he : w0[q0]? = some (b, .inr (ci, fs))) (hc : cl[ci]? = some (y.cls, T, N)) (hn : As.length = n) (hst : st0 = As.reverse ++ .ref b :: rest) (hw : (rest.map fun v => v.category).sum ≤ 8) (hf : cells + mc ≤ R.cells ∧ slots + ms ≤ R.slots) (hdg : decode cc pc = .ok (.invokevirtual index, 3))
    (kx : ∀ (ce : Cell) (q9 : Addr) (H1 : Heap) (locs1 : List Loc), va_P g.1 cl w1 H1 → va_D (gA g) w1 → va_S (gA g) s.heap H1 locs1 → H1[q9]? = some ce → ce.vm = .none → s.vm.findClass EE = some ce.cls → vx_W p l e R s m args below meth c H1 locs1 (cells + mc) (slots + ms) Q (F0 m pc ls rest) q9) : W p l e R s m args below meth c H locs cells slots Q (F0 m pc ls st0) := by
  subst hst
  have hr := vx_runV (As := As) (rest := rest) (nL := ls.size) (R := R) (p := p) (e := e) (below := below) (meth := meth) (locs := locs) (cells := cells) (slots := slots) (g := F0 m pc ls (As.reverse ++ .ref b :: rest)) ⟨hx, hb, hml, hown, ht⟩ hM (pc_W ht hv hlk hrm hR) ⟨PR.blind, va_recv F.2.1 hP hc he, fun U hU hW => ⟨rfl, PR.at F hP hD hS hU hW.alike⟩⟩ rfl hn rfl rfl (lv_room hw) hdg hf
  intro T0 hT X
  rcases hr T0 hT X with ⟨v, st₀, t, T', L, h0, X', hL, e1, e2, hq, st⟩ | ⟨q, st₀, t, T', L, E, ce, h0, X', hL, e1, e2, ⟨rfl, hB, hF⟩, hce, hcv, hcl, st⟩
  · exact hq.elim
  · obtain ⟨k1, k2, k3⟩ := vx_keep h0 e1 hS (fun _ _ h => h) (fun _ h => h) hL hF
    obtain ⟨-, hP1, -, hD1, -⟩ := hB
    rw [← e1] at hP1
    obtain ⟨t2, a1, b1⟩ := kx ce q T'.heap (locs ++ L) hP1 hD1 k3 (by rw [e1]; exact hce) hcv hcl T' rfl X'
    exact ⟨t2, st.trans a1, b1⟩
theorem xc_S {EE : String} {w1 : va_W} (hx : p.tables.exec = Jvm.exec) (hb : c.code = cc) (hml : c.maxLocals = ls.size) (hown : s.vm.findClass own = some m.cls) (ht : ∀ w ∈ TW, w.before args s = true) (F : Fx g s) (hP : va_P g.1 cl w0 H) (hD : va_D (gA g) w0) (hS : va_S (gA g) s.heap H locs)
    (hM : vx_Met l y (Cond.code y bytes maxL ret :: TW) rm (va_Pc (As) (PR g w0)) qF (xT g EE w1) mc ms (gA g)) (hv : cm_S y (Cond.code y bytes maxL ret) n) (hlk : Cond.methodLink own index y ∈ TW) (hrm : rm.cells = mc ∧ rm.slots = ms) (hR : rm.frames + 1 ≤ R.frames ∧ 8 + (maxL + 11) + rm.locals ≤ R.locals) (hn : As.length = n) (hst : st0 = As.reverse ++ rest) (hw : (rest.map fun v => v.category).sum ≤ 8) (hf : cells + mc ≤ R.cells ∧ slots + ms ≤ R.slots) (hdg : decode cc pc = .ok (.invokestatic index, 3))
    (kx : ∀ (ce : Cell) (q9 : Addr) (H1 : Heap) (locs1 : List Loc), va_P g.1 cl w1 H1 → va_D (gA g) w1 → va_S (gA g) s.heap H1 locs1 → H1[q9]? = some ce → ce.vm = .none → s.vm.findClass EE = some ce.cls → vx_W p l e R s m args below meth c H1 locs1 (cells + mc) (slots + ms) Q (F0 m pc ls rest) q9) : W p l e R s m args below meth c H locs cells slots Q (F0 m pc ls st0) := by
  subst hst
  have hr := vx_runS (As := As) (rest := rest) (nL := ls.size) (R := R) (p := p) (e := e) (below := below) (meth := meth) (locs := locs) (cells := cells) (slots := slots) (g := F0 m pc ls (As.reverse ++ rest)) ⟨hx, hb, hml, hown, ht⟩ hM (pc_S ht hv hlk hrm hR) ⟨PR.blind, fun U hU hW => ⟨rfl, PR.at F hP hD hS hU hW.alike⟩⟩ rfl hn rfl rfl (lv_room hw) hdg hf
  intro T0 hT X
  rcases hr T0 hT X with ⟨v, st₀, t, T', L, h0, X', hL, e1, e2, hq, st⟩ | ⟨q, st₀, t, T', L, E, ce, h0, X', hL, e1, e2, ⟨rfl, hB, hF⟩, hce, hcv, hcl, st⟩
  · exact hq.elim
  · obtain ⟨k1, k2, k3⟩ := vx_keep h0 e1 hS (fun _ _ h => h) (fun _ h => h) hL hF
    obtain ⟨-, hP1, -, hD1, -⟩ := hB
    rw [← e1] at hP1
    obtain ⟨t2, a1, b1⟩ := kx ce q T'.heap (locs ++ L) hP1 hD1 k3 (by rw [e1]; exact hce) hcv hcl T' rfl X'
    exact ⟨t2, st.trans a1, b1⟩
/-- an exception that goes on to the caller -/
theorem xc_out {EE : String} {w1 : va_W} {ce : Cell} {q : Addr} (hex : ∀ x ∈ c.exceptionTable.toList, False) (hlk : meth.locks = false) (F : Fx g s) (hP : va_P g.1 cl w1 H) (hD : va_D (gA g) w1) (hS : va_S (gA g) s.heap H locs) (hce : H[q]? = some ce) (hv : ce.vm = .none) (hcl : s.vm.findClass EE = some ce.cls) (hc : cells ≤ mc) (hs : slots ≤ ms) :
    vx_W p l e R s m args below meth c H locs cells slots (vx_MQ below qF (xT g EE w1) args s mc ms (gA g)) (F0 m pc ls rest) q :=
  vx_out (fun x hx => (hex x hx).elim) hlk hce hv hcl (fun t ht hvm => ⟨rfl, PR.at F hP hD hS ht hvm, hS.F ht⟩) hS.2.2 hc hs
/-- 'throw new E()' -/
theorem xc_new {EE : String} {names : List String} {ik ic : Nat} (hl : l.stackTraces = false) (hx : p.tables.exec = Jvm.exec) (hb : c.code = cc) (hml : c.maxLocals = ls.size) (hown : s.vm.findClass own = some m.cls) (ht : ∀ w ∈ TW, w.before args s = true) (hlk : meth.locks = false) (hex : ∀ x ∈ c.exceptionTable.toList, False) (F : Fx g s) (hP : va_P g.1 cl w0 H) (hD : va_D (gA g) w0) (hS : va_S (gA g) s.heap H locs)
    (hcls : Bundle.fit EE = true) (hnames : ∀ n ∈ names, Bundle.fit n = true) (hk : Cond.classLink own ik EE ∈ TW) (hini : Cond.initialized EE ∈ TW) (hat : ∀ w ∈ vx_at0 own ic EE names, w ∈ TW ∨ w ∈ NG) (hgood : ∀ w ∈ Cond.classLink own ik EE :: Cond.initialized EE :: vx_at0 own ic EE names, vx_ot w = true)
    (d0 : decode cc pc = .ok (.new ik, 3)) (d3 : decode cc (pc + 3) = .ok (.dup, 1)) (d4 : decode cc (pc + 4) = .ok (.invokespecial ic, 3)) (d7 : decode cc (pc + 7) = .ok (.athrow, 1))
    (hRf : names.length + 3 < R.frames) (hRl : (rest.map fun v => v.category).sum + (13 * (names.length + 1) + 42) ≤ R.locals) (hRc : cells + 1 ≤ R.cells) (hRs : slots + 6 ≤ R.slots) (hc : cells + 1 ≤ mc) (hs : slots + 6 ≤ ms) :
    W p l e R s m args below meth c H locs cells slots (vx_MQ below qF (xT g EE w0) args s mc ms (gA g)) (F0 m pc ls rest) :=
  vx_throw0 hx hb hl hown hcls hnames (ht _ hk) (ht _ hini) (fun w hw => (hat w hw).elim (fun h => ht w h) (fun h => va_any (by simp only [NG, List.mem_cons, List.not_mem_nil, or_false] at h; rcases h with rfl | rfl | rfl | rfl | rfl <;> rfl) (F.2.2.2.2.2.2.1 w h))) hgood F.2.2.2.2.1 F.2.2.2.2.2.1 hS hml.symm d0 d3 d4 d7 (fun x hx => (hex x hx).elim) hRf hRl hRc hRs hlk
    (fun t hvm hz hk => ⟨rfl, ⟨fun q h => F.1 q (Nat.le_trans hS.1 (Nat.le_trans hz h)), va_P.kept hP (fun k q hq => hk q.1 (hP k q hq).lt), va_K.moved hvm F.2.1, hD, ST.go hvm (fun a ha hA => by rw [hk a (Nat.lt_of_lt_of_le ha hS.1)]; exact hS.2.1 a ha hA) F.2.2⟩, ⟨Nat.le_trans hS.1 hz, fun q hq hA => by rw [hk q (Nat.lt_of_lt_of_le hq hS.1)]; exact hS.2.1 q hq hA⟩⟩) hS.2.2 hc hs
end PRcalls
