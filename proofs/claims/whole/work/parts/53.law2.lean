section Laws
variable {p : Program} {l : Launch} {e : Env} {R : Room} {s : State} {m : MethodId} {args : Array Value} {below : List Frame} {meth : Method} {c : Code} {H : Heap} {locs : List Loc} {cells slots : Nat} {Q : State → Prop}
variable {cc bytes : ByteArray} {pc maxL n index mc ms : Nat} {ls : Array Slot} {rest st0 As : List Value} {g : Gx} {w0 : va_W} {own : String} {y : MethodName} {ret : Option FieldType} {rm : Room} {hh : List (Nat × Nat × Nat × Nat)}
/-- a static call of a method with handlers -/
theorem pc_T {S : Type} {post : Int32 → S → Prop} {wf : S → va_W} (hx : p.tables.exec = Jvm.exec) (hb : c.code = cc) (hml : c.maxLocals = ls.size) (hown : s.vm.findClass own = some m.cls) (ht : ∀ w ∈ TW, w.before args s = true) (F : Fx g s) (hP : va_P g.1 cl w0 H) (hD : va_D (gA g) w0) (hS : va_S (gA g) s.heap H locs)
    (hM : Met l y (Cond.codeWith y bytes maxL ret hh :: TW) rm (va_Pc As (PR g w0)) (va_Qi post (fun u t => PR g (wf u) t) (gA g)) mc ms (gA g)) (hv : cm_S y (Cond.codeWith y bytes maxL ret hh) n) (hlk : Cond.methodLink own index y ∈ TW) (hrm : rm.cells = mc ∧ rm.slots = ms) (hR : rm.frames + 1 ≤ R.frames ∧ 8 + (maxL + 11) + rm.locals ≤ R.locals) (hn : As.length = n) (hst : st0 = As.reverse ++ rest) (hw : (rest.map fun v => v.category).sum ≤ 8) (hf : cells + mc ≤ R.cells ∧ slots + ms ≤ R.slots) (hdg : decode cc pc = .ok (.invokestatic index, 3))
    (kk : ∀ (r : Int32) (u : S) (H1 : Heap) (locs1 : List Loc), post r u → va_P g.1 cl (wf u) H1 → va_D (gA g) (wf u) → va_S (gA g) s.heap H1 locs1 → W p l e R s m args below meth c H1 locs1 (cells + mc) (slots + ms) Q (F0 m (pc + 3) ls (.int r :: rest))) : W p l e R s m args below meth c H locs cells slots Q (F0 m pc ls st0) := by
  subst hst
  obtain ⟨⟨h2, h4, h5⟩, hd⟩ := hv
  refine va_calli (vx_runSW (As := As) (rest := rest) (nL := ls.size) ⟨hx, hb, hml, hown, ht⟩ hM (vx_cwSW n ht (TW_gi (fun w hw => ?_)) rfl hrm.1 hrm.2 hd hR) ⟨PR.blind, fun U hU hW => ⟨rfl, PR.at F hP hD hS hU hW.alike⟩⟩ rfl hn rfl rfl (lv_room hw) hdg hf) hS (fun _ _ h => h) (fun _ h => h) (fun r u t H1 locs1 e1 hvm hp hB hz hk hS1 => ?_)
  · simp only [va_wsS, List.cons_append, List.nil_append, List.mem_cons] at hw
    rcases hw with rfl | rfl | rfl | rfl | hw <;> assumption
  · obtain ⟨-, hP1, -, hD1, -⟩ := hB
    rw [e1] at hP1
    exact kk r u H1 locs1 hp hP1 hD1 hS1
/-- the script's element k -/
theorem rl_s (hx : p.tables.exec = Jvm.exec) (hb : c.code = cc) {b L k : Nat} {xs : Nat → Int32} {x : Int32} (hX : va_X b L xs s s.heap) (hbl : b < s.heap.size) (hbA : ¬ gA g b) (hS : va_S (gA g) s.heap H locs) (hk : k < L) (hL : L < 2 ^ 31) (he : xs k = x) (hdg : decode cc pc = .ok (.iaload, 1)) (kk : W p l e R s m args below meth c H locs cells slots Q (F0 m (pc + 1) ls (.int x :: rest))) : W p l e R s m args below meth c H locs cells slots Q (F0 m pc ls (.int (nI k) :: .ref b :: rest)) := by
  refine va_sld hx hb hX hbl hbA hS (vp_in_nI hk hL) hdg ?_
  rw [nI_clamp (by omega), he]
  exact kk
end Laws
theorem v_LW_set : cm_S y_LW_set w_LW_set 3 := ⟨⟨tw_154, tw_0, tw_155⟩, ⟨by decide, by decide, by decide⟩⟩
theorem v_LW_apply : cm_S y_LW_apply w_LW_apply 5 := ⟨⟨tw_235, tw_0, tw_236⟩, ⟨by decide, by decide, by decide⟩⟩
theorem v_LW_choose : cm_S y_LW_choose w_LW_choose 5 := ⟨⟨tw_265, tw_0, tw_266⟩, ⟨by decide, by decide, by decide⟩⟩
theorem v_LW_restrict : cm_S y_LW_restrict w_LW_restrict 5 := ⟨⟨tw_275, tw_0, tw_276⟩, ⟨by decide, by decide, by decide⟩⟩
theorem v_LW_compose : cm_S y_LW_compose w_LW_compose 5 := ⟨⟨tw_284, tw_0, tw_285⟩, ⟨by decide, by decide, by decide⟩⟩
theorem v_LW_quantify : cm_S y_LW_quantify w_LW_quantify 5 := ⟨⟨tw_291, tw_0, tw_292⟩, ⟨by decide, by decide, by decide⟩⟩
theorem v_LW_type : cm_S y_LW_type w_LW_type 4 := ⟨⟨tw_298, tw_0, tw_299⟩, ⟨by decide, by decide, by decide⟩⟩
theorem v_LW_read : cm_S y_LW_read w_LW_read 3 := ⟨⟨tw_306, tw_0, tw_307⟩, ⟨by decide, by decide, by decide⟩⟩
theorem v_LW_release : cm_S y_LW_release w_LW_release 3 := ⟨⟨tw_354, tw_0, tw_355⟩, ⟨by decide, by decide, by decide⟩⟩
theorem v_LW_equal : cm_S y_LW_equal w_LW_equal 4 := ⟨⟨tw_365, tw_0, tw_366⟩, ⟨by decide, by decide, by decide⟩⟩
theorem v_LW_value : cm_S y_LW_value w_LW_value 4 := ⟨⟨tw_372, tw_0, tw_373⟩, ⟨by decide, by decide, by decide⟩⟩
theorem v_LW_count : cm_S y_LW_count w_LW_count 3 := ⟨⟨tw_382, tw_0, tw_383⟩, ⟨by decide, by decide, by decide⟩⟩
theorem v_LW_least : cm_S y_LW_least w_LW_least 3 := ⟨⟨tw_395, tw_0, tw_396⟩, ⟨by decide, by decide, by decide⟩⟩
theorem v_LW_support : cm_S y_LW_support w_LW_support 3 := ⟨⟨tw_402, tw_0, tw_403⟩, ⟨by decide, by decide, by decide⟩⟩
theorem v_LW_size : cm_S y_LW_size w_LW_size 3 := ⟨⟨tw_414, tw_0, tw_415⟩, ⟨by decide, by decide, by decide⟩⟩
theorem v_LW_width : cm_S y_LW_width w_LW_width 3 := ⟨⟨tw_421, tw_0, tw_422⟩, ⟨by decide, by decide, by decide⟩⟩
theorem v_LW_variable : cm_S y_LW_variable w_LW_variable 3 := ⟨⟨tw_432, tw_0, tw_433⟩, ⟨by decide, by decide, by decide⟩⟩
theorem v_LW_swap : cm_S y_LW_swap w_LW_swap 3 := ⟨⟨tw_439, tw_0, tw_440⟩, ⟨by decide, by decide, by decide⟩⟩
theorem v_LW_sift : cm_S y_LW_sift w_LW_sift 3 := ⟨⟨tw_450, tw_0, tw_451⟩, ⟨by decide, by decide, by decide⟩⟩
/-- both worlds between two calls -/
def LST (g : Gx) (ad ma : Nat → Nat) (oa : Nat) (H : Heap) : Prop := ∃ (rg : Nat → Int64) (hd : Nat → Int32) (od : Nat → Nat) (tx : Nat → Nat) (td : Nat) (sm : Nat → Int64) (pa : Nat → Int64) (pr : Nat → Int64) (fl : Nat → Int64) (op : Int32) (du : Int32) (qa : Nat) (ab : Nat → Int64) (ac : Int32) (qb : Nat) (be : Nat → Int64) (bc : Int32) (wd : Nat → Int32) (ou : Nat → Int64) (cd : Int32) (oo : Nat → Nat) (kp : Nat → Nat) (ct : Int32) (fd : Nat → Int64) (os : Int32) (oq : Nat → Int32) (vs : Int32) (sk : Nat → Int64), INV od oo tx hd td ∧ va_P g.1 cl (CW g ad rg hd (nF od) (nF tx) (nI td) sm pa pr fl op du qa ab ac qb be bc wd ++ ((oa, aJ g 1 ou) :: (MW g ma cd rg hd (nF oo) (nF kp) (nI td) (nF tx) ct fd os oq vs sk ++ []))) H ∧ va_D (gA g) (CW g ad rg hd (nF od) (nF tx) (nI td) sm pa pr fl op du qa ab ac qb be bc wd ++ ((oa, aJ g 1 ou) :: (MW g ma cd rg hd (nF oo) (nF kp) (nI td) (nF tx) ct fd os oq vs sk ++ [])))
