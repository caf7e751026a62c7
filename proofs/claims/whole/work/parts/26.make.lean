section Makes
variable {p : Program} {l : Launch} {e : Env} {R : Room} {s : State} {m : MethodId} {args : Array Value} {below : List Frame} {meth : Method} {c : Code} {H : Heap} {locs : List Loc} {cells slots : Nat} {Q : State → Prop}
variable {cc bytes : ByteArray} {pc maxL n index mc ms : Nat} {ls : Array Slot} {rest st0 As : List Value} {g : Gx} {w0 : va_W} {own : String} {y : MethodName} {rm : Room}
theorem nw_J (hx : p.tables.exec = Jvm.exec) (hb : c.code = cc) (ht : ∀ w ∈ TW, w.before args s = true) (F : Fx g s) (hP : va_P g.1 cl w0 H) (hD : va_D (gA g) w0) (hS : va_S (gA g) s.heap H locs) {N9 : Nat} (harr : Cond.arrayClass .long ∈ TW) (hn : N9 < 2 ^ 31) (hby : N9 * 8 ≤ 536870912) (hc : cells + 1 ≤ R.cells) (hs : slots + N9 ≤ R.slots) (hdg : decode cc pc = .ok (.newarray .long, 2)) (kk : ∀ (q : Nat) (H1 : Heap), va_P g.1 cl ((q, aJ g N9 (fun _ => (0 : Int64))) :: w0) H1 → va_D (gA g) ((q, aJ g N9 (fun _ => (0 : Int64))) :: w0) → va_S (gA g) s.heap H1 locs → W p l e R s m args below meth c H1 locs (cells + 1) (slots + N9) Q (F0 m (pc + 2) ls (.ref q :: rest))) : W p l e R s m args below meth c H locs cells slots Q (F0 m pc ls (.int (nI N9) :: rest)) := by
  refine va_newa (atype := .long) (ty := .long) (a0 := (N9, .inr (.inl (fun _ => (0 : Int64))))) hx hb (ht _ harr) rfl F.2.1 hP hD hS F.1 (fun _ => rfl) (by rw [← nI_0, nI_ltI (by omega) (by omega)]; omega) (nI_clamp (by omega)) hby hc hs hdg (fun q cA H1 hK1 hP1 hD1 hS1 => ?_)
  have e1 : s.vm.findClass ("[" ++ (FieldType.long).toString) = some cA := (hK1.2 4 _ rfl).2
  have e2 : s.vm.findClass ("[" ++ (FieldType.long).toString) = some g.2.1.2.1 := (F.2.1.2 1 _ rfl).2
  obtain rfl : g.2.1.2.1 = cA := Option.some.inj (e2.symm.trans e1)
  exact kk q H1 (wp_perm (List.perm_append_singleton _ _) hP1) (wd_perm (List.perm_append_singleton _ _) hD1) hS1
theorem nw_I (hx : p.tables.exec = Jvm.exec) (hb : c.code = cc) (ht : ∀ w ∈ TW, w.before args s = true) (F : Fx g s) (hP : va_P g.1 cl w0 H) (hD : va_D (gA g) w0) (hS : va_S (gA g) s.heap H locs) {N9 : Nat} (harr : Cond.arrayClass .int ∈ TW) (hn : N9 < 2 ^ 31) (hby : N9 * 4 ≤ 536870912) (hc : cells + 1 ≤ R.cells) (hs : slots + N9 ≤ R.slots) (hdg : decode cc pc = .ok (.newarray .int, 2)) (kk : ∀ (q : Nat) (H1 : Heap), va_P g.1 cl ((q, aI g N9 (nF (fun _ => 0))) :: w0) H1 → va_D (gA g) ((q, aI g N9 (nF (fun _ => 0))) :: w0) → va_S (gA g) s.heap H1 locs → W p l e R s m args below meth c H1 locs (cells + 1) (slots + N9) Q (F0 m (pc + 2) ls (.ref q :: rest))) : W p l e R s m args below meth c H locs cells slots Q (F0 m pc ls (.int (nI N9) :: rest)) := by
  refine va_newa (atype := .int) (ty := .int) (a0 := (N9, .inl (nF (fun _ => 0)))) hx hb (ht _ harr) rfl F.2.1 hP hD hS F.1 (fun _ => rfl) (by rw [← nI_0, nI_ltI (by omega) (by omega)]; omega) (nI_clamp (by omega)) hby hc hs hdg (fun q cA H1 hK1 hP1 hD1 hS1 => ?_)
  have e1 : s.vm.findClass ("[" ++ (FieldType.int).toString) = some cA := (hK1.2 4 _ rfl).2
  have e2 : s.vm.findClass ("[" ++ (FieldType.int).toString) = some g.2.1.1 := (F.2.1.2 0 _ rfl).2
  obtain rfl : g.2.1.1 = cA := Option.some.inj (e2.symm.trans e1)
  exact kk q H1 (wp_perm (List.perm_append_singleton _ _) hP1) (wd_perm (List.perm_append_singleton _ _) hD1) hS1
theorem nw_Z (hx : p.tables.exec = Jvm.exec) (hb : c.code = cc) (ht : ∀ w ∈ TW, w.before args s = true) (F : Fx g s) (hP : va_P g.1 cl w0 H) (hD : va_D (gA g) w0) (hS : va_S (gA g) s.heap H locs) {N9 : Nat} (harr : Cond.arrayClass .boolean ∈ TW) (hn : N9 < 2 ^ 31) (hby : N9 * 1 ≤ 536870912) (hc : cells + 1 ≤ R.cells) (hs : slots + N9 ≤ R.slots) (hdg : decode cc pc = .ok (.newarray .boolean, 2)) (kk : ∀ (q : Nat) (H1 : Heap), va_P g.1 cl ((q, aZ g N9 (nF (fun _ => 0))) :: w0) H1 → va_D (gA g) ((q, aZ g N9 (nF (fun _ => 0))) :: w0) → va_S (gA g) s.heap H1 locs → W p l e R s m args below meth c H1 locs (cells + 1) (slots + N9) Q (F0 m (pc + 2) ls (.ref q :: rest))) : W p l e R s m args below meth c H locs cells slots Q (F0 m pc ls (.int (nI N9) :: rest)) := by
  refine va_newa (atype := .boolean) (ty := .boolean) (a0 := (N9, .inl (nF (fun _ => 0)))) hx hb (ht _ harr) rfl F.2.1 hP hD hS F.1 (fun _ => rfl) (by rw [← nI_0, nI_ltI (by omega) (by omega)]; omega) (nI_clamp (by omega)) hby hc hs hdg (fun q cA H1 hK1 hP1 hD1 hS1 => ?_)
  have e1 : s.vm.findClass ("[" ++ (FieldType.boolean).toString) = some cA := (hK1.2 4 _ rfl).2
  have e2 : s.vm.findClass ("[" ++ (FieldType.boolean).toString) = some g.2.1.2.2.1 := (F.2.1.2 2 _ rfl).2
  obtain rfl : g.2.1.2.2.1 = cA := Option.some.inj (e2.symm.trans e1)
  exact kk q H1 (wp_perm (List.perm_append_singleton _ _) hP1) (wd_perm (List.perm_append_singleton _ _) hD1) hS1
theorem nw_C (hx : p.tables.exec = Jvm.exec) (hb : c.code = cc) (ht : ∀ w ∈ TW, w.before args s = true) (F : Fx g s) (hP : va_P g.1 cl w0 H) (hD : va_D (gA g) w0) (hS : va_S (gA g) s.heap H locs) {N9 : Nat} (harr : Cond.arrayClass .char ∈ TW) (hn : N9 < 2 ^ 31) (hby : N9 * 2 ≤ 536870912) (hc : cells + 1 ≤ R.cells) (hs : slots + N9 ≤ R.slots) (hdg : decode cc pc = .ok (.newarray .char, 2)) (kk : ∀ (q : Nat) (H1 : Heap), va_P g.1 cl ((q, aC g N9 (nF (fun _ => 0))) :: w0) H1 → va_D (gA g) ((q, aC g N9 (nF (fun _ => 0))) :: w0) → va_S (gA g) s.heap H1 locs → W p l e R s m args below meth c H1 locs (cells + 1) (slots + N9) Q (F0 m (pc + 2) ls (.ref q :: rest))) : W p l e R s m args below meth c H locs cells slots Q (F0 m pc ls (.int (nI N9) :: rest)) := by
  refine va_newa (atype := .char) (ty := .char) (a0 := (N9, .inl (nF (fun _ => 0)))) hx hb (ht _ harr) rfl F.2.1 hP hD hS F.1 (fun _ => rfl) (by rw [← nI_0, nI_ltI (by omega) (by omega)]; omega) (nI_clamp (by omega)) hby hc hs hdg (fun q cA H1 hK1 hP1 hD1 hS1 => ?_)
  have e1 : s.vm.findClass ("[" ++ (FieldType.char).toString) = some cA := (hK1.2 4 _ rfl).2
  have e2 : s.vm.findClass ("[" ++ (FieldType.char).toString) = some g.2.1.2.2.2 := (F.2.1.2 3 _ rfl).2
  obtain rfl : g.2.1.2.2.2 = cA := Option.some.inj (e2.symm.trans e1)
  exact kk q H1 (wp_perm (List.perm_append_singleton _ _) hP1) (wd_perm (List.perm_append_singleton _ _) hD1) hS1
theorem pc_I {S : Type} {post : S → Prop} {wf : S → va_W} {b : Nat} (hx : p.tables.exec = Jvm.exec) (hb : c.code = cc) (hml : c.maxLocals = ls.size) (hown : s.vm.findClass own = some m.cls) (ht : ∀ w ∈ TW, w.before args s = true) (F : Fx g s) (hP : va_P g.1 cl w0 H) (hD : va_D (gA g) w0) (hS : va_S (gA g) s.heap H locs)
    (hM : Met l y (Cond.code y bytes maxL none :: TW) rm (va_Pc (.ref b :: As) (PR g w0)) (va_Qv post (fun u t => PR g (wf u) t) (gA g)) mc ms (gA g)) (hv : (Cond.instanceMethod y ∈ TW ∧ Cond.initialized y.cls ∈ TW ∧ Cond.code y bytes maxL none ∈ TW) ∧ y.name = "<init>" ∧ y.cls ≠ "java/lang/invoke/MethodHandle" ∧ y.cls ≠ "java/lang/invoke/VarHandle" ∧ (parseMethodDescriptor y.desc).map (fun d => d.parameters.length) = some n) (hlk : Cond.methodLink own index y ∈ TW) (hrm : rm.cells = mc ∧ rm.slots = ms) (hR : rm.frames + 1 ≤ R.frames ∧ 8 + (maxL + 11) + rm.locals ≤ R.locals) (hn : As.length = n) (hst : st0 = As.reverse ++ .ref b :: rest) (hw : (rest.map fun v => v.category).sum ≤ 8) (hf : cells + mc ≤ R.cells ∧ slots + ms ≤ R.slots) (hdg : decode cc pc = .ok (.invokespecial index, 3))
    (kk : ∀ (u : S) (H1 : Heap) (locs1 : List Loc), post u → va_P g.1 cl (wf u) H1 → va_D (gA g) (wf u) → va_S (gA g) s.heap H1 locs1 → W p l e R s m args below meth c H1 locs1 (cells + mc) (slots + ms) Q (F0 m (pc + 3) ls rest)) : W p l e R s m args below meth c H locs cells slots Q (F0 m pc ls st0) := by
  subst hst
  obtain ⟨⟨h2, h4, h5⟩, h6, h7⟩ := hv
  refine va_callv (va_runI (As := As) (rest := rest) (nL := ls.size) ⟨hx, hb, hml, hown, ht⟩ hM (cwI n ht (TW_gi (fun w hw => (List.mem_cons.mp hw).elim (fun e => e ▸ h5) (fun h => h))) rfl hrm.1 hrm.2 (ht _ h4) (ht _ hlk) (ht _ h2) h6 h7 hR) ⟨PR.blind, fun U hU hW => ⟨rfl, PR.at F hP hD hS hU hW.alike⟩⟩ rfl hn rfl rfl (lv_room hw) hdg hf) hS (fun _ _ h => h) (fun _ h => h) (fun u t H1 locs1 e1 hvm hp hB hz hk hS1 => ?_)
  obtain ⟨-, hP1, -, hD1, -⟩ := hB
  rw [e1] at hP1
  exact kk u H1 locs1 hp hP1 hD1 hS1
end Makes
theorem perm_ix {α : Type} {L1 L2 : List α} (is : List Nat) (h : is.map (fun i => L1[i]?) = L2.map some) (hp : is.Perm (List.range L1.length)) : L1.Perm L2 := by
  have e : (List.range L1.length).map (fun i => L1[i]?) = L1.map some := by
    apply List.ext_getElem?
    intro i
    by_cases hi : i < L1.length
    · simp [hi]
    · simp [hi]
  have h1 : (L2.map some).Perm (L1.map some) := by
    rw [← h, ← e]
    exact hp.map _
  have h2 := h1.filterMap id
  simp only [List.filterMap_map, Function.comp_def, id] at h2
  simpa using h2.symm
/-- the first i variables stand on their own levels -/
def idF (i : Nat) : Nat → Nat := fun j => if j < i then j else 0
theorem idF_s (i : Nat) : uN (idF i) i i = idF (i + 1) := by
  funext j
  unfold uN idF
  by_cases h : j = i
  · subst h; rw [if_pos rfl, if_pos (by omega)]
  · rw [if_neg h]
    by_cases h2 : j < i
    · rw [if_pos h2, if_pos (by omega)]
    · rw [if_neg h2, if_neg (by omega)]
