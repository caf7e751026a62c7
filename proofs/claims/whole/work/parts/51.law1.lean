/-- a method with handlers: its body out of its contract's start -/
theorem mw_of {l : Launch} {y : MethodName} {cc : ByteArray} {maxL : Nat} {ret : Option FieldType} {hh : List (Nat × Nat × Nat × Nat)} {rm : Room} {g : Gx} {w0 : va_W} {av : List Value} {Qc : Array Value → State → Outcome → State → Prop} {mc ms : Nat} (hy : plainName y.cls = true) (hn : (lg_sl av).length ≤ maxL)
    (body : ∀ (p : Program) (e : Env) (s : State) (m : MethodId) (below : List Frame) (meth : Method) (c : Code) (ls : Array Slot), p.tables.exec = Jvm.exec → c.code = cc → meth.sig.returnType = ret → c.maxLocals = maxL → meth.locks = false → s.vm.findClass y.cls = some m.cls → (∀ w ∈ TW, w.before av.toArray s = true) → c.exceptionTable.toList = tableOf hh → Fx g s → va_P g.1 cl w0 s.heap → va_D (gA g) w0 → lv_has ls maxL (lv_args 0 av) →
      W p l e rm s m av.toArray below meth c s.heap [] 0 0 (MQ below Qc av.toArray s mc ms (gA g)) (F0 m 0 ls [])) : Met l y (Cond.codeWith y cc maxL ret hh :: TW) rm (va_Pc av (PR g w0)) Qc mc ms (gA g) := by
  refine va_MetW (cc := cc) (maxL := maxL) (ret := ret) (hh := hh) hy rfl ?_
  intro p e s m args below meth c s₁ B hml hv
  obtain ⟨rfl, hA, hP, hK, hD, hZ⟩ := hv
  have hl := lv_entry av hn
  rw [lg_entry_eq]
  exact body p e s m below meth c _ B.exec B.bytes B.returns hml B.notSynchronized (findClass_of_methodNamed B.named) (fun w hw => atoms_spec (ws := Cond.codeWith y cc maxL ret hh :: TW) B.pre w (List.mem_cons_of_mem _ hw)) (vx_table (x := y) B (atoms_spec (ws := Cond.codeWith y cc maxL ret hh :: TW) B.pre _ List.mem_cons_self)) ⟨hA, hK, hZ⟩ hP hD hl
theorem ng_IAE {g : Gx} {s : State} {args : Array Value} (F : Fx g s) : (Cond.castable IAE IAE).before args s = true := va_any rfl (F.2.2.2.2.2.2.1 _ List.mem_cons_self)
theorem ng_NSE {g : Gx} {s : State} {args : Array Value} (F : Fx g s) : (Cond.castable NSE NSE).before args s = true := va_any rfl (F.2.2.2.2.2.2.1 _ (List.mem_cons_of_mem _ List.mem_cons_self))
set_option maxRecDepth 100000 in
set_option maxHeartbeats 4000000 in
theorem c_LW_set (l : Launch) (g : Gx) (ad : Nat → Nat) (oa : Nat) (rg : Nat → Int64) (hd : Nat → Int32) (od : Nat → Int32) (tx : Nat → Int32) (ty : Int32) (sm : Nat → Int64) (pa : Nat → Int64) (pr : Nat → Int64) (fl : Nat → Int64) (op : Int32) (du : Int32) (qa : Nat) (ab : Nat → Int64) (ac : Int32) (qb : Nat) (be : Nat → Int64) (bc : Int32) (wd : Nat → Int32) (ou : Nat → Int64) (X : va_W) (r k : Nat) (h1 : r < 8) (h2 : k < 14) : Met l y_LW_set (w_LW_set :: TW) rm_LW_set (va_Pc [.ref (ad 0), .int (nI r), .int (nI k)] (PR g (CW g ad rg hd od tx ty sm pa pr fl op du qa ab ac qb be bc wd ++ ((oa, aJ g 1 ou) :: X)))) (va_Qi (fun r9 (u9 : Unit) => r9 = nI 0) (fun u9 t9 => PR g (CW g ad (vp_updL rg r (SETT k)) (upd hd r (nI 1)) od tx ty sm pa pr fl op du qa ab ac qb be bc wd ++ ((oa, aJ g 1 ou) :: X)) t9) (gA g)) 0 0 (gA g) := by
  refine mw_of (by decide) (Nat.le_of_ble_eq_true rfl) ?_
  intro p e s m below meth c ls hx hb hr hml hlk hown ht hex F hP hD hl
  have hl : lv_has ls 4 [(0, .ref (ad 0)), (1, .int (nI r)), (2, .int (nI k))] := hl
  have hS : va_S (gA g) s.heap s.heap [] := va_S.rf
  refine lv_aload_n hx hb d_LW_set_0 rfl (lv_at hl 0 rfl) ?_
  refine lv_iload_n hx hb d_LW_set_1 rfl (lv_at hl 1 rfl) ?_
  refine lv_iload_n hx hb d_LW_set_2 rfl (lv_at hl 2 rfl) ?_
  refine pc_Vv (q0 := 0) (As := [.int (nI r), .int (nI k)]) (rest := []) hx hb (hml.trans hl.1.symm) hown ht F hP hD hS (c_SG_set l g ad rg hd od tx ty sm pa pr fl op du qa ab ac qb be bc wd ((oa, aJ g 1 ou) :: X) r k h1 h2) v_SG_set tw_157 ⟨rfl, rfl⟩ ⟨by decide, by decide⟩ rfl rfl rfl rfl (Nat.le_of_ble_eq_true rfl) ⟨Nat.zero_le _, Nat.zero_le _⟩ d_LW_set_3 (fun u9 H locs hq hP hD hS => ?_)
  have hP : va_P g.1 cl (CW g ad (vp_updL rg r (SETT k)) (upd hd r (nI 1)) od tx ty sm pa pr fl op du qa ab ac qb be bc wd ++ ((oa, aJ g 1 ou) :: X)) H := hP
  have hD : va_D (gA g) (CW g ad (vp_updL rg r (SETT k)) (upd hd r (nI 1)) od tx ty sm pa pr fl op du qa ab ac qb be bc wd ++ ((oa, aJ g 1 ou) :: X)) := hD
  refine lv_goto (tgt := 12) hx hb d_LW_set_6 (by decide) ?_
  refine lv_iconst (v := nI 0) hx hb d_LW_set_12 (by decide) ?_
  exact W.iret (v := nI 0) hx hb hr (fun t9 e1 hW => ⟨⟨_, (), rfl, rfl, PR.at F hP hD hS e1 hW.alike⟩, hS.F e1⟩) hS.2.2 d_LW_set_13
set_option maxRecDepth 100000 in
set_option maxHeartbeats 4000000 in
theorem c1_LW_set (l : Launch) (hl0 : l.stackTraces = false) (g : Gx) (ad : Nat → Nat) (oa : Nat) (rg : Nat → Int64) (hd : Nat → Int32) (od : Nat → Int32) (tx : Nat → Int32) (ty : Int32) (sm : Nat → Int64) (pa : Nat → Int64) (pr : Nat → Int64) (fl : Nat → Int64) (op : Int32) (du : Int32) (qa : Nat) (ab : Nat → Int64) (ac : Int32) (qb : Nat) (be : Nat → Int64) (bc : Int32) (wd : Nat → Int32) (ou : Nat → Int64) (X : va_W) (r k : Int32) (hbad : ¬ (inR r 8 ∧ inR k 14)) : Met l y_LW_set (w_LW_set :: TW) rx_LW_set (va_Pc [.ref (ad 0), .int r, .int k] (PR g (CW g ad rg hd od tx ty sm pa pr fl op du qa ab ac qb be bc wd ++ ((oa, aJ g 1 ou) :: X)))) (va_Qi (fun r9 (u9 : Unit) => r9 = nI 1) (fun u9 t9 => PR g (CW g ad rg hd od tx ty sm pa pr fl op du qa ab ac qb be bc wd ++ ((oa, aJ g 1 ou) :: X)) t9) (gA g)) 1 6 (gA g) := by
  refine mw_of (by decide) (Nat.le_of_ble_eq_true rfl) ?_
  intro p e s m below meth c ls hx hb hr hml hlk hown ht hex F hP hD hl
  have hl : lv_has ls 4 [(0, .ref (ad 0)), (1, .int r), (2, .int k)] := hl
  have hS : va_S (gA g) s.heap s.heap [] := va_S.rf
  refine lv_aload_n hx hb d_LW_set_0 rfl (lv_at hl 0 rfl) ?_
  refine lv_iload_n hx hb d_LW_set_1 rfl (lv_at hl 1 rfl) ?_
  refine lv_iload_n hx hb d_LW_set_2 rfl (lv_at hl 2 rfl) ?_
  refine xc_V (q0 := 0) (As := [.int r, .int k]) (rest := []) hx hb (hml.trans hl.1.symm) hown ht F hP hD hS (x1_SG_set l hl0 g ad rg hd od tx ty sm pa pr fl op du qa ab ac qb be bc wd ((oa, aJ g 1 ou) :: X) r k hbad) v_SG_set tw_157 ⟨rfl, rfl⟩ ⟨by decide, by decide⟩ rfl rfl rfl rfl (Nat.le_of_ble_eq_true rfl) ⟨by decide, by decide⟩ d_LW_set_3 (fun ce q9 H locs hP hD hS z1 z2 z3 => ?_)
  refine vx_catch hown [] ⟨0, 6, 9, 13⟩ [] (hex.trans rfl) (fun _ h => absurd h List.not_mem_nil) (by decide) (by decide) (ht _ tw_156) (ng_IAE F) z1 z2 z3 ?_
  have hP : va_P g.1 cl (CW g ad rg hd od tx ty sm pa pr fl op du qa ab ac qb be bc wd ++ ((oa, aJ g 1 ou) :: X)) H := hP
  have hD : va_D (gA g) (CW g ad rg hd od tx ty sm pa pr fl op du qa ab ac qb be bc wd ++ ((oa, aJ g 1 ou) :: X)) := hD
  refine lv_astore_n (lv' := [(3, .ref q9), (0, .ref (ad 0)), (1, .int r), (2, .int k)]) hx hb d_LW_set_9 rfl hl (by decide) rfl (fun ls hl => ?_)
  refine lv_iconst (v := nI 1) hx hb d_LW_set_10 (by decide) ?_
  exact W.iret (v := nI 1) hx hb hr (fun t9 e1 hW => ⟨⟨_, (), rfl, rfl, PR.at F hP hD hS e1 hW.alike⟩, hS.F e1⟩) hS.2.2 d_LW_set_11
set_option maxRecDepth 100000 in
set_option maxHeartbeats 4000000 in
theorem c_LW_apply (l : Launch) (g : Gx) (ad : Nat → Nat) (oa : Nat) (rg : Nat → Int64) (hd : Nat → Int32) (od : Nat → Int32) (tx : Nat → Int32) (ty : Int32) (sm : Nat → Int64) (pa : Nat → Int64) (pr : Nat → Int64) (fl : Nat → Int64) (op : Int32) (du : Int32) (qa : Nat) (ab : Nat → Int64) (ac : Int32) (qb : Nat) (be : Nat → Int64) (bc : Int32) (wd : Nat → Int32) (ou : Nat → Int64) (X : va_W) (r a b o : Nat) (h1 : r < 8) (h2 : a < 8) (h3 : b < 8) (h4 : o < 16) (h5 : hd a = 1) (h6 : hd b = 1) : Met l y_LW_apply (w_LW_apply :: TW) rm_LW_apply (va_Pc [.ref (ad 0), .int (nI r), .int (nI a), .int (nI b), .int (nI o)] (PR g (CW g ad rg hd od tx ty sm pa pr fl op du qa ab ac qb be bc wd ++ ((oa, aJ g 1 ou) :: X)))) (va_Qi (fun r9 (u9 : Unit) => r9 = nI 0) (fun u9 t9 => PR g (CW g ad (vp_updL rg r (CNN (rg a) (rg b) o)) (upd hd r (nI 1)) od tx ty sm pa pr fl op du qa ab ac qb be bc wd ++ ((oa, aJ g 1 ou) :: X)) t9) (gA g)) 0 0 (gA g) := by
  refine mw_of (by decide) (Nat.le_of_ble_eq_true rfl) ?_
  intro p e s m below meth c ls hx hb hr hml hlk hown ht hex F hP hD hl
  have hl : lv_has ls 6 [(0, .ref (ad 0)), (1, .int (nI r)), (2, .int (nI a)), (3, .int (nI b)), (4, .int (nI o))] := hl
  have hS : va_S (gA g) s.heap s.heap [] := va_S.rf
  refine lv_aload_n hx hb d_LW_apply_0 rfl (lv_at hl 0 rfl) ?_
  refine lv_iload_n hx hb d_LW_apply_1 rfl (lv_at hl 1 rfl) ?_
  refine lv_iload_n hx hb d_LW_apply_2 rfl (lv_at hl 2 rfl) ?_
  refine lv_iload_n hx hb d_LW_apply_3 rfl (lv_at hl 3 rfl) ?_
  refine lv_iload hx hb d_LW_apply_4 (lv_at hl 4 rfl) ?_
  refine pc_Vv (q0 := 0) (As := [.int (nI r), .int (nI a), .int (nI b), .int (nI o)]) (rest := []) hx hb (hml.trans hl.1.symm) hown ht F hP hD hS (c_SG_apply l g ad rg hd od tx ty sm pa pr fl op du qa ab ac qb be bc wd ((oa, aJ g 1 ou) :: X) r a b o h1 h2 h3 h4 h5 h6) v_SG_apply tw_238 ⟨rfl, rfl⟩ ⟨by decide, by decide⟩ rfl rfl rfl rfl (Nat.le_of_ble_eq_true rfl) ⟨Nat.zero_le _, Nat.zero_le _⟩ d_LW_apply_6 (fun u9 H locs hq hP hD hS => ?_)
  have hP : va_P g.1 cl (CW g ad (vp_updL rg r (CNN (rg a) (rg b) o)) (upd hd r (nI 1)) od tx ty sm pa pr fl op du qa ab ac qb be bc wd ++ ((oa, aJ g 1 ou) :: X)) H := hP
  have hD : va_D (gA g) (CW g ad (vp_updL rg r (CNN (rg a) (rg b) o)) (upd hd r (nI 1)) od tx ty sm pa pr fl op du qa ab ac qb be bc wd ++ ((oa, aJ g 1 ou) :: X)) := hD
  refine lv_goto (tgt := 20) hx hb d_LW_apply_9 (by decide) ?_
  refine lv_iconst (v := nI 0) hx hb d_LW_apply_20 (by decide) ?_
  exact W.iret (v := nI 0) hx hb hr (fun t9 e1 hW => ⟨⟨_, (), rfl, rfl, PR.at F hP hD hS e1 hW.alike⟩, hS.F e1⟩) hS.2.2 d_LW_apply_21
set_option maxRecDepth 100000 in
set_option maxHeartbeats 4000000 in
theorem c1_LW_apply (l : Launch) (hl0 : l.stackTraces = false) (g : Gx) (ad : Nat → Nat) (oa : Nat) (rg : Nat → Int64) (hd : Nat → Int32) (od : Nat → Int32) (tx : Nat → Int32) (ty : Int32) (sm : Nat → Int64) (pa : Nat → Int64) (pr : Nat → Int64) (fl : Nat → Int64) (op : Int32) (du : Int32) (qa : Nat) (ab : Nat → Int64) (ac : Int32) (qb : Nat) (be : Nat → Int64) (bc : Int32) (wd : Nat → Int32) (ou : Nat → Int64) (X : va_W) (r a b o : Int32) (hbad : ¬ (inR r 8 ∧ inR a 8 ∧ inR b 8 ∧ inR o 16)) : Met l y_LW_apply (w_LW_apply :: TW) rx_LW_apply (va_Pc [.ref (ad 0), .int r, .int a, .int b, .int o] (PR g (CW g ad rg hd od tx ty sm pa pr fl op du qa ab ac qb be bc wd ++ ((oa, aJ g 1 ou) :: X)))) (va_Qi (fun r9 (u9 : Unit) => r9 = nI 1) (fun u9 t9 => PR g (CW g ad rg hd od tx ty sm pa pr fl op du qa ab ac qb be bc wd ++ ((oa, aJ g 1 ou) :: X)) t9) (gA g)) 1 6 (gA g) := by
  refine mw_of (by decide) (Nat.le_of_ble_eq_true rfl) ?_
  intro p e s m below meth c ls hx hb hr hml hlk hown ht hex F hP hD hl
  have hl : lv_has ls 6 [(0, .ref (ad 0)), (1, .int r), (2, .int a), (3, .int b), (4, .int o)] := hl
  have hS : va_S (gA g) s.heap s.heap [] := va_S.rf
  refine lv_aload_n hx hb d_LW_apply_0 rfl (lv_at hl 0 rfl) ?_
  refine lv_iload_n hx hb d_LW_apply_1 rfl (lv_at hl 1 rfl) ?_
  refine lv_iload_n hx hb d_LW_apply_2 rfl (lv_at hl 2 rfl) ?_
  refine lv_iload_n hx hb d_LW_apply_3 rfl (lv_at hl 3 rfl) ?_
  refine lv_iload hx hb d_LW_apply_4 (lv_at hl 4 rfl) ?_
  refine xc_V (q0 := 0) (As := [.int r, .int a, .int b, .int o]) (rest := []) hx hb (hml.trans hl.1.symm) hown ht F hP hD hS (x1_SG_apply l hl0 g ad rg hd od tx ty sm pa pr fl op du qa ab ac qb be bc wd ((oa, aJ g 1 ou) :: X) r a b o hbad) v_SG_apply tw_238 ⟨rfl, rfl⟩ ⟨by decide, by decide⟩ rfl rfl rfl rfl (Nat.le_of_ble_eq_true rfl) ⟨by decide, by decide⟩ d_LW_apply_6 (fun ce q9 H locs hP hD hS z1 z2 z3 => ?_)
  refine vx_catch hown [] ⟨0, 9, 12, 13⟩ [⟨0, 9, 16, 19⟩] (hex.trans rfl) (fun _ h => absurd h List.not_mem_nil) (by decide) (by decide) (ht _ tw_156) (ng_IAE F) z1 z2 z3 ?_
  have hP : va_P g.1 cl (CW g ad rg hd od tx ty sm pa pr fl op du qa ab ac qb be bc wd ++ ((oa, aJ g 1 ou) :: X)) H := hP
  have hD : va_D (gA g) (CW g ad rg hd od tx ty sm pa pr fl op du qa ab ac qb be bc wd ++ ((oa, aJ g 1 ou) :: X)) := hD
  refine lv_astore (lv' := [(5, .ref q9), (0, .ref (ad 0)), (1, .int r), (2, .int a), (3, .int b), (4, .int o)]) hx hb d_LW_apply_12 hl (by decide) rfl (fun ls hl => ?_)
  refine lv_iconst (v := nI 1) hx hb d_LW_apply_14 (by decide) ?_
  exact W.iret (v := nI 1) hx hb hr (fun t9 e1 hW => ⟨⟨_, (), rfl, rfl, PR.at F hP hD hS e1 hW.alike⟩, hS.F e1⟩) hS.2.2 d_LW_apply_15
set_option maxRecDepth 100000 in
set_option maxHeartbeats 4000000 in
theorem c2_LW_apply (l : Launch) (hl0 : l.stackTraces = false) (g : Gx) (ad : Nat → Nat) (oa : Nat) (rg : Nat → Int64) (hd : Nat → Int32) (od : Nat → Int32) (tx : Nat → Int32) (ty : Int32) (sm : Nat → Int64) (pa : Nat → Int64) (pr : Nat → Int64) (fl : Nat → Int64) (op : Int32) (du : Int32) (qa : Nat) (ab : Nat → Int64) (ac : Int32) (qb : Nat) (be : Nat → Int64) (bc : Int32) (wd : Nat → Int32) (ou : Nat → Int64) (X : va_W) (r a b o : Nat) (g0 : r < 8) (g1 : a < 8) (g2 : b < 8) (g3 : o < 16) (h9 : ∀ i, i < 8 → hd i = 0 ∨ hd i = 1) (hbad : ¬ (hd a = 1 ∧ hd b = 1)) : Met l y_LW_apply (w_LW_apply :: TW) rx_LW_apply (va_Pc [.ref (ad 0), .int (nI r), .int (nI a), .int (nI b), .int (nI o)] (PR g (CW g ad rg hd od tx ty sm pa pr fl op du qa ab ac qb be bc wd ++ ((oa, aJ g 1 ou) :: X)))) (va_Qi (fun r9 (u9 : Unit) => r9 = nI 2) (fun u9 t9 => PR g (CW g ad rg hd od tx ty sm pa pr fl op du qa ab ac qb be bc wd ++ ((oa, aJ g 1 ou) :: X)) t9) (gA g)) 1 6 (gA g) := by
  refine mw_of (by decide) (Nat.le_of_ble_eq_true rfl) ?_
  intro p e s m below meth c ls hx hb hr hml hlk hown ht hex F hP hD hl
  have hl : lv_has ls 6 [(0, .ref (ad 0)), (1, .int (nI r)), (2, .int (nI a)), (3, .int (nI b)), (4, .int (nI o))] := hl
  have hS : va_S (gA g) s.heap s.heap [] := va_S.rf
  refine lv_aload_n hx hb d_LW_apply_0 rfl (lv_at hl 0 rfl) ?_
  refine lv_iload_n hx hb d_LW_apply_1 rfl (lv_at hl 1 rfl) ?_
  refine lv_iload_n hx hb d_LW_apply_2 rfl (lv_at hl 2 rfl) ?_
  refine lv_iload_n hx hb d_LW_apply_3 rfl (lv_at hl 3 rfl) ?_
  refine lv_iload hx hb d_LW_apply_4 (lv_at hl 4 rfl) ?_
  refine xc_V (q0 := 0) (As := [.int (nI r), .int (nI a), .int (nI b), .int (nI o)]) (rest := []) hx hb (hml.trans hl.1.symm) hown ht F hP hD hS (x2_SG_apply l hl0 g ad rg hd od tx ty sm pa pr fl op du qa ab ac qb be bc wd ((oa, aJ g 1 ou) :: X) r a b o g0 g1 g2 g3 h9 hbad) v_SG_apply tw_238 ⟨rfl, rfl⟩ ⟨by decide, by decide⟩ rfl rfl rfl rfl (Nat.le_of_ble_eq_true rfl) ⟨by decide, by decide⟩ d_LW_apply_6 (fun ce q9 H locs hP hD hS z1 z2 z3 => ?_)
  refine vx_catch hown [⟨0, 9, 12, 13⟩] ⟨0, 9, 16, 19⟩ [] (hex.trans rfl) (List.forall_mem_cons.mpr ⟨Or.inr ⟨by decide, IAE, ht _ tw_156, F.2.2.2.2.2.2.2⟩, fun _ h => absurd h List.not_mem_nil⟩) (by decide) (by decide) (ht _ tw_237) (ng_NSE F) z1 z2 z3 ?_
  have hP : va_P g.1 cl (CW g ad rg hd od tx ty sm pa pr fl op du qa ab ac qb be bc wd ++ ((oa, aJ g 1 ou) :: X)) H := hP
  have hD : va_D (gA g) (CW g ad rg hd od tx ty sm pa pr fl op du qa ab ac qb be bc wd ++ ((oa, aJ g 1 ou) :: X)) := hD
  refine lv_astore (lv' := [(5, .ref q9), (0, .ref (ad 0)), (1, .int (nI r)), (2, .int (nI a)), (3, .int (nI b)), (4, .int (nI o))]) hx hb d_LW_apply_16 hl (by decide) rfl (fun ls hl => ?_)
  refine lv_iconst (v := nI 2) hx hb d_LW_apply_18 (by decide) ?_
  exact W.iret (v := nI 2) hx hb hr (fun t9 e1 hW => ⟨⟨_, (), rfl, rfl, PR.at F hP hD hS e1 hW.alike⟩, hS.F e1⟩) hS.2.2 d_LW_apply_19
set_option maxRecDepth 100000 in
set_option maxHeartbeats 4000000 in
theorem c_LW_choose (l : Launch) (g : Gx) (ad : Nat → Nat) (oa : Nat) (rg : Nat → Int64) (hd : Nat → Int32) (od : Nat → Int32) (tx : Nat → Int32) (ty : Int32) (sm : Nat → Int64) (pa : Nat → Int64) (pr : Nat → Int64) (fl : Nat → Int64) (op : Int32) (du : Int32) (qa : Nat) (ab : Nat → Int64) (ac : Int32) (qb : Nat) (be : Nat → Int64) (bc : Int32) (wd : Nat → Int32) (ou : Nat → Int64) (X : va_W) (r a b d : Nat) (h1 : r < 8) (h2 : a < 8) (h3 : b < 8) (h4 : d < 8) (h5 : hd a = 1) (h6 : hd b = 1) (h7 : hd d = 1) : Met l y_LW_choose (w_LW_choose :: TW) rm_LW_choose (va_Pc [.ref (ad 0), .int (nI r), .int (nI a), .int (nI b), .int (nI d)] (PR g (CW g ad rg hd od tx ty sm pa pr fl op du qa ab ac qb be bc wd ++ ((oa, aJ g 1 ou) :: X)))) (va_Qi (fun r9 (u9 : Unit) => r9 = nI 0) (fun u9 t9 => PR g (CW g ad (vp_updL rg r (CH (rg a) (rg b) (rg d))) (upd hd r (nI 1)) od tx ty sm pa pr fl op du qa ab ac qb be bc wd ++ ((oa, aJ g 1 ou) :: X)) t9) (gA g)) 0 0 (gA g) := by
  refine mw_of (by decide) (Nat.le_of_ble_eq_true rfl) ?_
  intro p e s m below meth c ls hx hb hr hml hlk hown ht hex F hP hD hl
  have hl : lv_has ls 6 [(0, .ref (ad 0)), (1, .int (nI r)), (2, .int (nI a)), (3, .int (nI b)), (4, .int (nI d))] := hl
  have hS : va_S (gA g) s.heap s.heap [] := va_S.rf
  refine lv_aload_n hx hb d_LW_choose_0 rfl (lv_at hl 0 rfl) ?_
  refine lv_iload_n hx hb d_LW_choose_1 rfl (lv_at hl 1 rfl) ?_
  refine lv_iload_n hx hb d_LW_choose_2 rfl (lv_at hl 2 rfl) ?_
  refine lv_iload_n hx hb d_LW_choose_3 rfl (lv_at hl 3 rfl) ?_
  refine lv_iload hx hb d_LW_choose_4 (lv_at hl 4 rfl) ?_
  refine pc_Vv (q0 := 0) (As := [.int (nI r), .int (nI a), .int (nI b), .int (nI d)]) (rest := []) hx hb (hml.trans hl.1.symm) hown ht F hP hD hS (c_SG_choose l g ad rg hd od tx ty sm pa pr fl op du qa ab ac qb be bc wd ((oa, aJ g 1 ou) :: X) r a b d h1 h2 h3 h4 h5 h6 h7) v_SG_choose tw_267 ⟨rfl, rfl⟩ ⟨by decide, by decide⟩ rfl rfl rfl rfl (Nat.le_of_ble_eq_true rfl) ⟨Nat.zero_le _, Nat.zero_le _⟩ d_LW_choose_6 (fun u9 H locs hq hP hD hS => ?_)
  have hP : va_P g.1 cl (CW g ad (vp_updL rg r (CH (rg a) (rg b) (rg d))) (upd hd r (nI 1)) od tx ty sm pa pr fl op du qa ab ac qb be bc wd ++ ((oa, aJ g 1 ou) :: X)) H := hP
  have hD : va_D (gA g) (CW g ad (vp_updL rg r (CH (rg a) (rg b) (rg d))) (upd hd r (nI 1)) od tx ty sm pa pr fl op du qa ab ac qb be bc wd ++ ((oa, aJ g 1 ou) :: X)) := hD
  refine lv_goto (tgt := 20) hx hb d_LW_choose_9 (by decide) ?_
  refine lv_iconst (v := nI 0) hx hb d_LW_choose_20 (by decide) ?_
  exact W.iret (v := nI 0) hx hb hr (fun t9 e1 hW => ⟨⟨_, (), rfl, rfl, PR.at F hP hD hS e1 hW.alike⟩, hS.F e1⟩) hS.2.2 d_LW_choose_21
set_option maxRecDepth 100000 in
set_option maxHeartbeats 4000000 in
theorem c1_LW_choose (l : Launch) (hl0 : l.stackTraces = false) (g : Gx) (ad : Nat → Nat) (oa : Nat) (rg : Nat → Int64) (hd : Nat → Int32) (od : Nat → Int32) (tx : Nat → Int32) (ty : Int32) (sm : Nat → Int64) (pa : Nat → Int64) (pr : Nat → Int64) (fl : Nat → Int64) (op : Int32) (du : Int32) (qa : Nat) (ab : Nat → Int64) (ac : Int32) (qb : Nat) (be : Nat → Int64) (bc : Int32) (wd : Nat → Int32) (ou : Nat → Int64) (X : va_W) (r a b d : Int32) (hbad : ¬ (inR r 8 ∧ inR a 8 ∧ inR b 8 ∧ inR d 8)) : Met l y_LW_choose (w_LW_choose :: TW) rx_LW_choose (va_Pc [.ref (ad 0), .int r, .int a, .int b, .int d] (PR g (CW g ad rg hd od tx ty sm pa pr fl op du qa ab ac qb be bc wd ++ ((oa, aJ g 1 ou) :: X)))) (va_Qi (fun r9 (u9 : Unit) => r9 = nI 1) (fun u9 t9 => PR g (CW g ad rg hd od tx ty sm pa pr fl op du qa ab ac qb be bc wd ++ ((oa, aJ g 1 ou) :: X)) t9) (gA g)) 1 6 (gA g) := by
  refine mw_of (by decide) (Nat.le_of_ble_eq_true rfl) ?_
  intro p e s m below meth c ls hx hb hr hml hlk hown ht hex F hP hD hl
  have hl : lv_has ls 6 [(0, .ref (ad 0)), (1, .int r), (2, .int a), (3, .int b), (4, .int d)] := hl
  have hS : va_S (gA g) s.heap s.heap [] := va_S.rf
  refine lv_aload_n hx hb d_LW_choose_0 rfl (lv_at hl 0 rfl) ?_
  refine lv_iload_n hx hb d_LW_choose_1 rfl (lv_at hl 1 rfl) ?_
  refine lv_iload_n hx hb d_LW_choose_2 rfl (lv_at hl 2 rfl) ?_
  refine lv_iload_n hx hb d_LW_choose_3 rfl (lv_at hl 3 rfl) ?_
  refine lv_iload hx hb d_LW_choose_4 (lv_at hl 4 rfl) ?_
  refine xc_V (q0 := 0) (As := [.int r, .int a, .int b, .int d]) (rest := []) hx hb (hml.trans hl.1.symm) hown ht F hP hD hS (x1_SG_choose l hl0 g ad rg hd od tx ty sm pa pr fl op du qa ab ac qb be bc wd ((oa, aJ g 1 ou) :: X) r a b d hbad) v_SG_choose tw_267 ⟨rfl, rfl⟩ ⟨by decide, by decide⟩ rfl rfl rfl rfl (Nat.le_of_ble_eq_true rfl) ⟨by decide, by decide⟩ d_LW_choose_6 (fun ce q9 H locs hP hD hS z1 z2 z3 => ?_)
  refine vx_catch hown [] ⟨0, 9, 12, 13⟩ [⟨0, 9, 16, 19⟩] (hex.trans rfl) (fun _ h => absurd h List.not_mem_nil) (by decide) (by decide) (ht _ tw_156) (ng_IAE F) z1 z2 z3 ?_
  have hP : va_P g.1 cl (CW g ad rg hd od tx ty sm pa pr fl op du qa ab ac qb be bc wd ++ ((oa, aJ g 1 ou) :: X)) H := hP
  have hD : va_D (gA g) (CW g ad rg hd od tx ty sm pa pr fl op du qa ab ac qb be bc wd ++ ((oa, aJ g 1 ou) :: X)) := hD
  refine lv_astore (lv' := [(5, .ref q9), (0, .ref (ad 0)), (1, .int r), (2, .int a), (3, .int b), (4, .int d)]) hx hb d_LW_choose_12 hl (by decide) rfl (fun ls hl => ?_)
  refine lv_iconst (v := nI 1) hx hb d_LW_choose_14 (by decide) ?_
  exact W.iret (v := nI 1) hx hb hr (fun t9 e1 hW => ⟨⟨_, (), rfl, rfl, PR.at F hP hD hS e1 hW.alike⟩, hS.F e1⟩) hS.2.2 d_LW_choose_15
set_option maxRecDepth 100000 in
set_option maxHeartbeats 4000000 in
theorem c2_LW_choose (l : Launch) (hl0 : l.stackTraces = false) (g : Gx) (ad : Nat → Nat) (oa : Nat) (rg : Nat → Int64) (hd : Nat → Int32) (od : Nat → Int32) (tx : Nat → Int32) (ty : Int32) (sm : Nat → Int64) (pa : Nat → Int64) (pr : Nat → Int64) (fl : Nat → Int64) (op : Int32) (du : Int32) (qa : Nat) (ab : Nat → Int64) (ac : Int32) (qb : Nat) (be : Nat → Int64) (bc : Int32) (wd : Nat → Int32) (ou : Nat → Int64) (X : va_W) (r a b d : Nat) (g0 : r < 8) (g1 : a < 8) (g2 : b < 8) (g3 : d < 8) (h9 : ∀ i, i < 8 → hd i = 0 ∨ hd i = 1) (hbad : ¬ (hd a = 1 ∧ hd b = 1 ∧ hd d = 1)) : Met l y_LW_choose (w_LW_choose :: TW) rx_LW_choose (va_Pc [.ref (ad 0), .int (nI r), .int (nI a), .int (nI b), .int (nI d)] (PR g (CW g ad rg hd od tx ty sm pa pr fl op du qa ab ac qb be bc wd ++ ((oa, aJ g 1 ou) :: X)))) (va_Qi (fun r9 (u9 : Unit) => r9 = nI 2) (fun u9 t9 => PR g (CW g ad rg hd od tx ty sm pa pr fl op du qa ab ac qb be bc wd ++ ((oa, aJ g 1 ou) :: X)) t9) (gA g)) 1 6 (gA g) := by
  refine mw_of (by decide) (Nat.le_of_ble_eq_true rfl) ?_
  intro p e s m below meth c ls hx hb hr hml hlk hown ht hex F hP hD hl
  have hl : lv_has ls 6 [(0, .ref (ad 0)), (1, .int (nI r)), (2, .int (nI a)), (3, .int (nI b)), (4, .int (nI d))] := hl
  have hS : va_S (gA g) s.heap s.heap [] := va_S.rf
  refine lv_aload_n hx hb d_LW_choose_0 rfl (lv_at hl 0 rfl) ?_
  refine lv_iload_n hx hb d_LW_choose_1 rfl (lv_at hl 1 rfl) ?_
  refine lv_iload_n hx hb d_LW_choose_2 rfl (lv_at hl 2 rfl) ?_
  refine lv_iload_n hx hb d_LW_choose_3 rfl (lv_at hl 3 rfl) ?_
  refine lv_iload hx hb d_LW_choose_4 (lv_at hl 4 rfl) ?_
  refine xc_V (q0 := 0) (As := [.int (nI r), .int (nI a), .int (nI b), .int (nI d)]) (rest := []) hx hb (hml.trans hl.1.symm) hown ht F hP hD hS (x2_SG_choose l hl0 g ad rg hd od tx ty sm pa pr fl op du qa ab ac qb be bc wd ((oa, aJ g 1 ou) :: X) r a b d g0 g1 g2 g3 h9 hbad) v_SG_choose tw_267 ⟨rfl, rfl⟩ ⟨by decide, by decide⟩ rfl rfl rfl rfl (Nat.le_of_ble_eq_true rfl) ⟨by decide, by decide⟩ d_LW_choose_6 (fun ce q9 H locs hP hD hS z1 z2 z3 => ?_)
  refine vx_catch hown [⟨0, 9, 12, 13⟩] ⟨0, 9, 16, 19⟩ [] (hex.trans rfl) (List.forall_mem_cons.mpr ⟨Or.inr ⟨by decide, IAE, ht _ tw_156, F.2.2.2.2.2.2.2⟩, fun _ h => absurd h List.not_mem_nil⟩) (by decide) (by decide) (ht _ tw_237) (ng_NSE F) z1 z2 z3 ?_
  have hP : va_P g.1 cl (CW g ad rg hd od tx ty sm pa pr fl op du qa ab ac qb be bc wd ++ ((oa, aJ g 1 ou) :: X)) H := hP
  have hD : va_D (gA g) (CW g ad rg hd od tx ty sm pa pr fl op du qa ab ac qb be bc wd ++ ((oa, aJ g 1 ou) :: X)) := hD
  refine lv_astore (lv' := [(5, .ref q9), (0, .ref (ad 0)), (1, .int (nI r)), (2, .int (nI a)), (3, .int (nI b)), (4, .int (nI d))]) hx hb d_LW_choose_16 hl (by decide) rfl (fun ls hl => ?_)
  refine lv_iconst (v := nI 2) hx hb d_LW_choose_18 (by decide) ?_
  exact W.iret (v := nI 2) hx hb hr (fun t9 e1 hW => ⟨⟨_, (), rfl, rfl, PR.at F hP hD hS e1 hW.alike⟩, hS.F e1⟩) hS.2.2 d_LW_choose_19
set_option maxRecDepth 100000 in
set_option maxHeartbeats 4000000 in
theorem c_LW_restrict (l : Launch) (g : Gx) (ad : Nat → Nat) (oa : Nat) (rg : Nat → Int64) (hd : Nat → Int32) (od : Nat → Int32) (tx : Nat → Int32) (ty : Int32) (sm : Nat → Int64) (pa : Nat → Int64) (pr : Nat → Int64) (fl : Nat → Int64) (op : Int32) (du : Int32) (qa : Nat) (ab : Nat → Int64) (ac : Int32) (qb : Nat) (be : Nat → Int64) (bc : Int32) (wd : Nat → Int32) (ou : Nat → Int64) (X : va_W) (r a v : Nat) (z : Int32) (h1 : r < 8) (h2 : a < 8) (h3 : v < 6) (h5 : hd a = 1) : Met l y_LW_restrict (w_LW_restrict :: TW) rm_LW_restrict (va_Pc [.ref (ad 0), .int (nI r), .int (nI a), .int (nI v), .int z] (PR g (CW g ad rg hd od tx ty sm pa pr fl op du qa ab ac qb be bc wd ++ ((oa, aJ g 1 ou) :: X)))) (va_Qi (fun r9 (u9 : Unit) => r9 = nI 0) (fun u9 t9 => PR g (CW g ad (vp_updL rg r (if z = 0 then W0 (rg a) v else W1 (rg a) v)) (upd hd r (nI 1)) od tx ty sm pa pr fl op du qa ab ac qb be bc wd ++ ((oa, aJ g 1 ou) :: X)) t9) (gA g)) 0 0 (gA g) := by
  refine mw_of (by decide) (Nat.le_of_ble_eq_true rfl) ?_
  intro p e s m below meth c ls hx hb hr hml hlk hown ht hex F hP hD hl
  have hl : lv_has ls 6 [(0, .ref (ad 0)), (1, .int (nI r)), (2, .int (nI a)), (3, .int (nI v)), (4, .int z)] := hl
  have hS : va_S (gA g) s.heap s.heap [] := va_S.rf
  refine lv_aload_n hx hb d_LW_restrict_0 rfl (lv_at hl 0 rfl) ?_
  refine lv_iload_n hx hb d_LW_restrict_1 rfl (lv_at hl 1 rfl) ?_
  refine lv_iload_n hx hb d_LW_restrict_2 rfl (lv_at hl 2 rfl) ?_
  refine lv_iload_n hx hb d_LW_restrict_3 rfl (lv_at hl 3 rfl) ?_
  refine lv_iload hx hb d_LW_restrict_4 (lv_at hl 4 rfl) ?_
  refine pc_Vv (q0 := 0) (As := [.int (nI r), .int (nI a), .int (nI v), .int z]) (rest := []) hx hb (hml.trans hl.1.symm) hown ht F hP hD hS (c_SG_restrict l g ad rg hd od tx ty sm pa pr fl op du qa ab ac qb be bc wd ((oa, aJ g 1 ou) :: X) r a v z h1 h2 h3 h5) v_SG_restrict tw_277 ⟨rfl, rfl⟩ ⟨by decide, by decide⟩ rfl rfl rfl rfl (Nat.le_of_ble_eq_true rfl) ⟨Nat.zero_le _, Nat.zero_le _⟩ d_LW_restrict_6 (fun u9 H locs hq hP hD hS => ?_)
  have hP : va_P g.1 cl (CW g ad (vp_updL rg r (if z = 0 then W0 (rg a) v else W1 (rg a) v)) (upd hd r (nI 1)) od tx ty sm pa pr fl op du qa ab ac qb be bc wd ++ ((oa, aJ g 1 ou) :: X)) H := hP
  have hD : va_D (gA g) (CW g ad (vp_updL rg r (if z = 0 then W0 (rg a) v else W1 (rg a) v)) (upd hd r (nI 1)) od tx ty sm pa pr fl op du qa ab ac qb be bc wd ++ ((oa, aJ g 1 ou) :: X)) := hD
  refine lv_goto (tgt := 20) hx hb d_LW_restrict_9 (by decide) ?_
  refine lv_iconst (v := nI 0) hx hb d_LW_restrict_20 (by decide) ?_
  exact W.iret (v := nI 0) hx hb hr (fun t9 e1 hW => ⟨⟨_, (), rfl, rfl, PR.at F hP hD hS e1 hW.alike⟩, hS.F e1⟩) hS.2.2 d_LW_restrict_21
set_option maxRecDepth 100000 in
set_option maxHeartbeats 4000000 in
theorem c1_LW_restrict (l : Launch) (hl0 : l.stackTraces = false) (g : Gx) (ad : Nat → Nat) (oa : Nat) (rg : Nat → Int64) (hd : Nat → Int32) (od : Nat → Int32) (tx : Nat → Int32) (ty : Int32) (sm : Nat → Int64) (pa : Nat → Int64) (pr : Nat → Int64) (fl : Nat → Int64) (op : Int32) (du : Int32) (qa : Nat) (ab : Nat → Int64) (ac : Int32) (qb : Nat) (be : Nat → Int64) (bc : Int32) (wd : Nat → Int32) (ou : Nat → Int64) (X : va_W) (r a v z : Int32) (hbad : ¬ (inR r 8 ∧ inR a 8 ∧ inR v 6)) : Met l y_LW_restrict (w_LW_restrict :: TW) rx_LW_restrict (va_Pc [.ref (ad 0), .int r, .int a, .int v, .int z] (PR g (CW g ad rg hd od tx ty sm pa pr fl op du qa ab ac qb be bc wd ++ ((oa, aJ g 1 ou) :: X)))) (va_Qi (fun r9 (u9 : Unit) => r9 = nI 1) (fun u9 t9 => PR g (CW g ad rg hd od tx ty sm pa pr fl op du qa ab ac qb be bc wd ++ ((oa, aJ g 1 ou) :: X)) t9) (gA g)) 1 6 (gA g) := by
  refine mw_of (by decide) (Nat.le_of_ble_eq_true rfl) ?_
  intro p e s m below meth c ls hx hb hr hml hlk hown ht hex F hP hD hl
  have hl : lv_has ls 6 [(0, .ref (ad 0)), (1, .int r), (2, .int a), (3, .int v), (4, .int z)] := hl
  have hS : va_S (gA g) s.heap s.heap [] := va_S.rf
  refine lv_aload_n hx hb d_LW_restrict_0 rfl (lv_at hl 0 rfl) ?_
  refine lv_iload_n hx hb d_LW_restrict_1 rfl (lv_at hl 1 rfl) ?_
  refine lv_iload_n hx hb d_LW_restrict_2 rfl (lv_at hl 2 rfl) ?_
  refine lv_iload_n hx hb d_LW_restrict_3 rfl (lv_at hl 3 rfl) ?_
  refine lv_iload hx hb d_LW_restrict_4 (lv_at hl 4 rfl) ?_
  refine xc_V (q0 := 0) (As := [.int r, .int a, .int v, .int z]) (rest := []) hx hb (hml.trans hl.1.symm) hown ht F hP hD hS (x1_SG_restrict l hl0 g ad rg hd od tx ty sm pa pr fl op du qa ab ac qb be bc wd ((oa, aJ g 1 ou) :: X) r a v z hbad) v_SG_restrict tw_277 ⟨rfl, rfl⟩ ⟨by decide, by decide⟩ rfl rfl rfl rfl (Nat.le_of_ble_eq_true rfl) ⟨by decide, by decide⟩ d_LW_restrict_6 (fun ce q9 H locs hP hD hS z1 z2 z3 => ?_)
  refine vx_catch hown [] ⟨0, 9, 12, 13⟩ [⟨0, 9, 16, 19⟩] (hex.trans rfl) (fun _ h => absurd h List.not_mem_nil) (by decide) (by decide) (ht _ tw_156) (ng_IAE F) z1 z2 z3 ?_
  have hP : va_P g.1 cl (CW g ad rg hd od tx ty sm pa pr fl op du qa ab ac qb be bc wd ++ ((oa, aJ g 1 ou) :: X)) H := hP
  have hD : va_D (gA g) (CW g ad rg hd od tx ty sm pa pr fl op du qa ab ac qb be bc wd ++ ((oa, aJ g 1 ou) :: X)) := hD
  refine lv_astore (lv' := [(5, .ref q9), (0, .ref (ad 0)), (1, .int r), (2, .int a), (3, .int v), (4, .int z)]) hx hb d_LW_restrict_12 hl (by decide) rfl (fun ls hl => ?_)
  refine lv_iconst (v := nI 1) hx hb d_LW_restrict_14 (by decide) ?_
  exact W.iret (v := nI 1) hx hb hr (fun t9 e1 hW => ⟨⟨_, (), rfl, rfl, PR.at F hP hD hS e1 hW.alike⟩, hS.F e1⟩) hS.2.2 d_LW_restrict_15
set_option maxRecDepth 100000 in
set_option maxHeartbeats 4000000 in
theorem c2_LW_restrict (l : Launch) (hl0 : l.stackTraces = false) (g : Gx) (ad : Nat → Nat) (oa : Nat) (rg : Nat → Int64) (hd : Nat → Int32) (od : Nat → Int32) (tx : Nat → Int32) (ty : Int32) (sm : Nat → Int64) (pa : Nat → Int64) (pr : Nat → Int64) (fl : Nat → Int64) (op : Int32) (du : Int32) (qa : Nat) (ab : Nat → Int64) (ac : Int32) (qb : Nat) (be : Nat → Int64) (bc : Int32) (wd : Nat → Int32) (ou : Nat → Int64) (X : va_W) (r a v : Nat) (z : Int32) (g0 : r < 8) (g1 : a < 8) (g2 : v < 6) (h9 : ∀ i, i < 8 → hd i = 0 ∨ hd i = 1) (hbad : ¬ (hd a = 1)) : Met l y_LW_restrict (w_LW_restrict :: TW) rx_LW_restrict (va_Pc [.ref (ad 0), .int (nI r), .int (nI a), .int (nI v), .int z] (PR g (CW g ad rg hd od tx ty sm pa pr fl op du qa ab ac qb be bc wd ++ ((oa, aJ g 1 ou) :: X)))) (va_Qi (fun r9 (u9 : Unit) => r9 = nI 2) (fun u9 t9 => PR g (CW g ad rg hd od tx ty sm pa pr fl op du qa ab ac qb be bc wd ++ ((oa, aJ g 1 ou) :: X)) t9) (gA g)) 1 6 (gA g) := by
  refine mw_of (by decide) (Nat.le_of_ble_eq_true rfl) ?_
  intro p e s m below meth c ls hx hb hr hml hlk hown ht hex F hP hD hl
  have hl : lv_has ls 6 [(0, .ref (ad 0)), (1, .int (nI r)), (2, .int (nI a)), (3, .int (nI v)), (4, .int z)] := hl
  have hS : va_S (gA g) s.heap s.heap [] := va_S.rf
  refine lv_aload_n hx hb d_LW_restrict_0 rfl (lv_at hl 0 rfl) ?_
  refine lv_iload_n hx hb d_LW_restrict_1 rfl (lv_at hl 1 rfl) ?_
  refine lv_iload_n hx hb d_LW_restrict_2 rfl (lv_at hl 2 rfl) ?_
  refine lv_iload_n hx hb d_LW_restrict_3 rfl (lv_at hl 3 rfl) ?_
  refine lv_iload hx hb d_LW_restrict_4 (lv_at hl 4 rfl) ?_
  refine xc_V (q0 := 0) (As := [.int (nI r), .int (nI a), .int (nI v), .int z]) (rest := []) hx hb (hml.trans hl.1.symm) hown ht F hP hD hS (x2_SG_restrict l hl0 g ad rg hd od tx ty sm pa pr fl op du qa ab ac qb be bc wd ((oa, aJ g 1 ou) :: X) r a v z g0 g1 g2 h9 hbad) v_SG_restrict tw_277 ⟨rfl, rfl⟩ ⟨by decide, by decide⟩ rfl rfl rfl rfl (Nat.le_of_ble_eq_true rfl) ⟨by decide, by decide⟩ d_LW_restrict_6 (fun ce q9 H locs hP hD hS z1 z2 z3 => ?_)
  refine vx_catch hown [⟨0, 9, 12, 13⟩] ⟨0, 9, 16, 19⟩ [] (hex.trans rfl) (List.forall_mem_cons.mpr ⟨Or.inr ⟨by decide, IAE, ht _ tw_156, F.2.2.2.2.2.2.2⟩, fun _ h => absurd h List.not_mem_nil⟩) (by decide) (by decide) (ht _ tw_237) (ng_NSE F) z1 z2 z3 ?_
  have hP : va_P g.1 cl (CW g ad rg hd od tx ty sm pa pr fl op du qa ab ac qb be bc wd ++ ((oa, aJ g 1 ou) :: X)) H := hP
  have hD : va_D (gA g) (CW g ad rg hd od tx ty sm pa pr fl op du qa ab ac qb be bc wd ++ ((oa, aJ g 1 ou) :: X)) := hD
  refine lv_astore (lv' := [(5, .ref q9), (0, .ref (ad 0)), (1, .int (nI r)), (2, .int (nI a)), (3, .int (nI v)), (4, .int z)]) hx hb d_LW_restrict_16 hl (by decide) rfl (fun ls hl => ?_)
  refine lv_iconst (v := nI 2) hx hb d_LW_restrict_18 (by decide) ?_
  exact W.iret (v := nI 2) hx hb hr (fun t9 e1 hW => ⟨⟨_, (), rfl, rfl, PR.at F hP hD hS e1 hW.alike⟩, hS.F e1⟩) hS.2.2 d_LW_restrict_19
set_option maxRecDepth 100000 in
set_option maxHeartbeats 4000000 in
theorem c_LW_compose (l : Launch) (g : Gx) (ad : Nat → Nat) (oa : Nat) (rg : Nat → Int64) (hd : Nat → Int32) (od : Nat → Int32) (tx : Nat → Int32) (ty : Int32) (sm : Nat → Int64) (pa : Nat → Int64) (pr : Nat → Int64) (fl : Nat → Int64) (op : Int32) (du : Int32) (qa : Nat) (ab : Nat → Int64) (ac : Int32) (qb : Nat) (be : Nat → Int64) (bc : Int32) (wd : Nat → Int32) (ou : Nat → Int64) (X : va_W) (r a v b : Nat) (h1 : r < 8) (h2 : a < 8) (h3 : v < 6) (h4 : b < 8) (h5 : hd a = 1) (h6 : hd b = 1) : Met l y_LW_compose (w_LW_compose :: TW) rm_LW_compose (va_Pc [.ref (ad 0), .int (nI r), .int (nI a), .int (nI v), .int (nI b)] (PR g (CW g ad rg hd od tx ty sm pa pr fl op du qa ab ac qb be bc wd ++ ((oa, aJ g 1 ou) :: X)))) (va_Qi (fun r9 (u9 : Unit) => r9 = nI 0) (fun u9 t9 => PR g (CW g ad (vp_updL rg r (CH (rg b) (W1 (rg a) v) (W0 (rg a) v))) (upd hd r (nI 1)) od tx ty sm pa pr fl op du qa ab ac qb be bc wd ++ ((oa, aJ g 1 ou) :: X)) t9) (gA g)) 0 0 (gA g) := by
  refine mw_of (by decide) (Nat.le_of_ble_eq_true rfl) ?_
  intro p e s m below meth c ls hx hb hr hml hlk hown ht hex F hP hD hl
  have hl : lv_has ls 6 [(0, .ref (ad 0)), (1, .int (nI r)), (2, .int (nI a)), (3, .int (nI v)), (4, .int (nI b))] := hl
  have hS : va_S (gA g) s.heap s.heap [] := va_S.rf
  refine lv_aload_n hx hb d_LW_compose_0 rfl (lv_at hl 0 rfl) ?_
  refine lv_iload_n hx hb d_LW_compose_1 rfl (lv_at hl 1 rfl) ?_
  refine lv_iload_n hx hb d_LW_compose_2 rfl (lv_at hl 2 rfl) ?_
  refine lv_iload_n hx hb d_LW_compose_3 rfl (lv_at hl 3 rfl) ?_
  refine lv_iload hx hb d_LW_compose_4 (lv_at hl 4 rfl) ?_
  refine pc_Vv (q0 := 0) (As := [.int (nI r), .int (nI a), .int (nI v), .int (nI b)]) (rest := []) hx hb (hml.trans hl.1.symm) hown ht F hP hD hS (c_SG_compose l g ad rg hd od tx ty sm pa pr fl op du qa ab ac qb be bc wd ((oa, aJ g 1 ou) :: X) r a v b h1 h2 h3 h4 h5 h6) v_SG_compose tw_286 ⟨rfl, rfl⟩ ⟨by decide, by decide⟩ rfl rfl rfl rfl (Nat.le_of_ble_eq_true rfl) ⟨Nat.zero_le _, Nat.zero_le _⟩ d_LW_compose_6 (fun u9 H locs hq hP hD hS => ?_)
  have hP : va_P g.1 cl (CW g ad (vp_updL rg r (CH (rg b) (W1 (rg a) v) (W0 (rg a) v))) (upd hd r (nI 1)) od tx ty sm pa pr fl op du qa ab ac qb be bc wd ++ ((oa, aJ g 1 ou) :: X)) H := hP
  have hD : va_D (gA g) (CW g ad (vp_updL rg r (CH (rg b) (W1 (rg a) v) (W0 (rg a) v))) (upd hd r (nI 1)) od tx ty sm pa pr fl op du qa ab ac qb be bc wd ++ ((oa, aJ g 1 ou) :: X)) := hD
  refine lv_goto (tgt := 20) hx hb d_LW_compose_9 (by decide) ?_
  refine lv_iconst (v := nI 0) hx hb d_LW_compose_20 (by decide) ?_
  exact W.iret (v := nI 0) hx hb hr (fun t9 e1 hW => ⟨⟨_, (), rfl, rfl, PR.at F hP hD hS e1 hW.alike⟩, hS.F e1⟩) hS.2.2 d_LW_compose_21
set_option maxRecDepth 100000 in
set_option maxHeartbeats 4000000 in
theorem c1_LW_compose (l : Launch) (hl0 : l.stackTraces = false) (g : Gx) (ad : Nat → Nat) (oa : Nat) (rg : Nat → Int64) (hd : Nat → Int32) (od : Nat → Int32) (tx : Nat → Int32) (ty : Int32) (sm : Nat → Int64) (pa : Nat → Int64) (pr : Nat → Int64) (fl : Nat → Int64) (op : Int32) (du : Int32) (qa : Nat) (ab : Nat → Int64) (ac : Int32) (qb : Nat) (be : Nat → Int64) (bc : Int32) (wd : Nat → Int32) (ou : Nat → Int64) (X : va_W) (r a v b : Int32) (hbad : ¬ (inR r 8 ∧ inR a 8 ∧ inR v 6 ∧ inR b 8)) : Met l y_LW_compose (w_LW_compose :: TW) rx_LW_compose (va_Pc [.ref (ad 0), .int r, .int a, .int v, .int b] (PR g (CW g ad rg hd od tx ty sm pa pr fl op du qa ab ac qb be bc wd ++ ((oa, aJ g 1 ou) :: X)))) (va_Qi (fun r9 (u9 : Unit) => r9 = nI 1) (fun u9 t9 => PR g (CW g ad rg hd od tx ty sm pa pr fl op du qa ab ac qb be bc wd ++ ((oa, aJ g 1 ou) :: X)) t9) (gA g)) 1 6 (gA g) := by
  refine mw_of (by decide) (Nat.le_of_ble_eq_true rfl) ?_
  intro p e s m below meth c ls hx hb hr hml hlk hown ht hex F hP hD hl
  have hl : lv_has ls 6 [(0, .ref (ad 0)), (1, .int r), (2, .int a), (3, .int v), (4, .int b)] := hl
  have hS : va_S (gA g) s.heap s.heap [] := va_S.rf
  refine lv_aload_n hx hb d_LW_compose_0 rfl (lv_at hl 0 rfl) ?_
  refine lv_iload_n hx hb d_LW_compose_1 rfl (lv_at hl 1 rfl) ?_
  refine lv_iload_n hx hb d_LW_compose_2 rfl (lv_at hl 2 rfl) ?_
  refine lv_iload_n hx hb d_LW_compose_3 rfl (lv_at hl 3 rfl) ?_
  refine lv_iload hx hb d_LW_compose_4 (lv_at hl 4 rfl) ?_
  refine xc_V (q0 := 0) (As := [.int r, .int a, .int v, .int b]) (rest := []) hx hb (hml.trans hl.1.symm) hown ht F hP hD hS (x1_SG_compose l hl0 g ad rg hd od tx ty sm pa pr fl op du qa ab ac qb be bc wd ((oa, aJ g 1 ou) :: X) r a v b hbad) v_SG_compose tw_286 ⟨rfl, rfl⟩ ⟨by decide, by decide⟩ rfl rfl rfl rfl (Nat.le_of_ble_eq_true rfl) ⟨by decide, by decide⟩ d_LW_compose_6 (fun ce q9 H locs hP hD hS z1 z2 z3 => ?_)
  refine vx_catch hown [] ⟨0, 9, 12, 13⟩ [⟨0, 9, 16, 19⟩] (hex.trans rfl) (fun _ h => absurd h List.not_mem_nil) (by decide) (by decide) (ht _ tw_156) (ng_IAE F) z1 z2 z3 ?_
  have hP : va_P g.1 cl (CW g ad rg hd od tx ty sm pa pr fl op du qa ab ac qb be bc wd ++ ((oa, aJ g 1 ou) :: X)) H := hP
  have hD : va_D (gA g) (CW g ad rg hd od tx ty sm pa pr fl op du qa ab ac qb be bc wd ++ ((oa, aJ g 1 ou) :: X)) := hD
  refine lv_astore (lv' := [(5, .ref q9), (0, .ref (ad 0)), (1, .int r), (2, .int a), (3, .int v), (4, .int b)]) hx hb d_LW_compose_12 hl (by decide) rfl (fun ls hl => ?_)
  refine lv_iconst (v := nI 1) hx hb d_LW_compose_14 (by decide) ?_
  exact W.iret (v := nI 1) hx hb hr (fun t9 e1 hW => ⟨⟨_, (), rfl, rfl, PR.at F hP hD hS e1 hW.alike⟩, hS.F e1⟩) hS.2.2 d_LW_compose_15
set_option maxRecDepth 100000 in
set_option maxHeartbeats 4000000 in
theorem c2_LW_compose (l : Launch) (hl0 : l.stackTraces = false) (g : Gx) (ad : Nat → Nat) (oa : Nat) (rg : Nat → Int64) (hd : Nat → Int32) (od : Nat → Int32) (tx : Nat → Int32) (ty : Int32) (sm : Nat → Int64) (pa : Nat → Int64) (pr : Nat → Int64) (fl : Nat → Int64) (op : Int32) (du : Int32) (qa : Nat) (ab : Nat → Int64) (ac : Int32) (qb : Nat) (be : Nat → Int64) (bc : Int32) (wd : Nat → Int32) (ou : Nat → Int64) (X : va_W) (r a v b : Nat) (g0 : r < 8) (g1 : a < 8) (g2 : v < 6) (g3 : b < 8) (h9 : ∀ i, i < 8 → hd i = 0 ∨ hd i = 1) (hbad : ¬ (hd a = 1 ∧ hd b = 1)) : Met l y_LW_compose (w_LW_compose :: TW) rx_LW_compose (va_Pc [.ref (ad 0), .int (nI r), .int (nI a), .int (nI v), .int (nI b)] (PR g (CW g ad rg hd od tx ty sm pa pr fl op du qa ab ac qb be bc wd ++ ((oa, aJ g 1 ou) :: X)))) (va_Qi (fun r9 (u9 : Unit) => r9 = nI 2) (fun u9 t9 => PR g (CW g ad rg hd od tx ty sm pa pr fl op du qa ab ac qb be bc wd ++ ((oa, aJ g 1 ou) :: X)) t9) (gA g)) 1 6 (gA g) := by
  refine mw_of (by decide) (Nat.le_of_ble_eq_true rfl) ?_
  intro p e s m below meth c ls hx hb hr hml hlk hown ht hex F hP hD hl
  have hl : lv_has ls 6 [(0, .ref (ad 0)), (1, .int (nI r)), (2, .int (nI a)), (3, .int (nI v)), (4, .int (nI b))] := hl
  have hS : va_S (gA g) s.heap s.heap [] := va_S.rf
  refine lv_aload_n hx hb d_LW_compose_0 rfl (lv_at hl 0 rfl) ?_
  refine lv_iload_n hx hb d_LW_compose_1 rfl (lv_at hl 1 rfl) ?_
  refine lv_iload_n hx hb d_LW_compose_2 rfl (lv_at hl 2 rfl) ?_
  refine lv_iload_n hx hb d_LW_compose_3 rfl (lv_at hl 3 rfl) ?_
  refine lv_iload hx hb d_LW_compose_4 (lv_at hl 4 rfl) ?_
  refine xc_V (q0 := 0) (As := [.int (nI r), .int (nI a), .int (nI v), .int (nI b)]) (rest := []) hx hb (hml.trans hl.1.symm) hown ht F hP hD hS (x2_SG_compose l hl0 g ad rg hd od tx ty sm pa pr fl op du qa ab ac qb be bc wd ((oa, aJ g 1 ou) :: X) r a v b g0 g1 g2 g3 h9 hbad) v_SG_compose tw_286 ⟨rfl, rfl⟩ ⟨by decide, by decide⟩ rfl rfl rfl rfl (Nat.le_of_ble_eq_true rfl) ⟨by decide, by decide⟩ d_LW_compose_6 (fun ce q9 H locs hP hD hS z1 z2 z3 => ?_)
  refine vx_catch hown [⟨0, 9, 12, 13⟩] ⟨0, 9, 16, 19⟩ [] (hex.trans rfl) (List.forall_mem_cons.mpr ⟨Or.inr ⟨by decide, IAE, ht _ tw_156, F.2.2.2.2.2.2.2⟩, fun _ h => absurd h List.not_mem_nil⟩) (by decide) (by decide) (ht _ tw_237) (ng_NSE F) z1 z2 z3 ?_
  have hP : va_P g.1 cl (CW g ad rg hd od tx ty sm pa pr fl op du qa ab ac qb be bc wd ++ ((oa, aJ g 1 ou) :: X)) H := hP
  have hD : va_D (gA g) (CW g ad rg hd od tx ty sm pa pr fl op du qa ab ac qb be bc wd ++ ((oa, aJ g 1 ou) :: X)) := hD
  refine lv_astore (lv' := [(5, .ref q9), (0, .ref (ad 0)), (1, .int (nI r)), (2, .int (nI a)), (3, .int (nI v)), (4, .int (nI b))]) hx hb d_LW_compose_16 hl (by decide) rfl (fun ls hl => ?_)
  refine lv_iconst (v := nI 2) hx hb d_LW_compose_18 (by decide) ?_
  exact W.iret (v := nI 2) hx hb hr (fun t9 e1 hW => ⟨⟨_, (), rfl, rfl, PR.at F hP hD hS e1 hW.alike⟩, hS.F e1⟩) hS.2.2 d_LW_compose_19
set_option maxRecDepth 100000 in
set_option maxHeartbeats 4000000 in
theorem c_LW_quantify (l : Launch) (g : Gx) (ad : Nat → Nat) (oa : Nat) (rg : Nat → Int64) (hd : Nat → Int32) (od : Nat → Int32) (tx : Nat → Int32) (ty : Int32) (sm : Nat → Int64) (pa : Nat → Int64) (pr : Nat → Int64) (fl : Nat → Int64) (op : Int32) (du : Int32) (qa : Nat) (ab : Nat → Int64) (ac : Int32) (qb : Nat) (be : Nat → Int64) (bc : Int32) (wd : Nat → Int32) (ou : Nat → Int64) (X : va_W) (r a k : Nat) (z : Int32) (h1 : r < 8) (h2 : a < 8) (h3 : k < 64) (h5 : hd a = 1) : Met l y_LW_quantify (w_LW_quantify :: TW) rm_LW_quantify (va_Pc [.ref (ad 0), .int (nI r), .int (nI a), .int (nI k), .int z] (PR g (CW g ad rg hd od tx ty sm pa pr fl op du qa ab ac qb be bc wd ++ ((oa, aJ g 1 ou) :: X)))) (va_Qi (fun r9 (u9 : Unit) => r9 = nI 0) (fun u9 t9 => PR g (CW g ad (vp_updL rg r (qnF k z (rg a) 6)) (upd hd r (nI 1)) od tx ty sm pa pr fl op du qa ab ac qb be bc wd ++ ((oa, aJ g 1 ou) :: X)) t9) (gA g)) 0 0 (gA g) := by
  refine mw_of (by decide) (Nat.le_of_ble_eq_true rfl) ?_
  intro p e s m below meth c ls hx hb hr hml hlk hown ht hex F hP hD hl
  have hl : lv_has ls 6 [(0, .ref (ad 0)), (1, .int (nI r)), (2, .int (nI a)), (3, .int (nI k)), (4, .int z)] := hl
  have hS : va_S (gA g) s.heap s.heap [] := va_S.rf
  refine lv_aload_n hx hb d_LW_quantify_0 rfl (lv_at hl 0 rfl) ?_
  refine lv_iload_n hx hb d_LW_quantify_1 rfl (lv_at hl 1 rfl) ?_
  refine lv_iload_n hx hb d_LW_quantify_2 rfl (lv_at hl 2 rfl) ?_
  refine lv_iload_n hx hb d_LW_quantify_3 rfl (lv_at hl 3 rfl) ?_
  refine lv_iload hx hb d_LW_quantify_4 (lv_at hl 4 rfl) ?_
  refine pc_Vv (q0 := 0) (As := [.int (nI r), .int (nI a), .int (nI k), .int z]) (rest := []) hx hb (hml.trans hl.1.symm) hown ht F hP hD hS (c_SG_quantify l g ad rg hd od tx ty sm pa pr fl op du qa ab ac qb be bc wd ((oa, aJ g 1 ou) :: X) r a k z h1 h2 h3 h5) v_SG_quantify tw_293 ⟨rfl, rfl⟩ ⟨by decide, by decide⟩ rfl rfl rfl rfl (Nat.le_of_ble_eq_true rfl) ⟨Nat.zero_le _, Nat.zero_le _⟩ d_LW_quantify_6 (fun u9 H locs hq hP hD hS => ?_)
  have hP : va_P g.1 cl (CW g ad (vp_updL rg r (qnF k z (rg a) 6)) (upd hd r (nI 1)) od tx ty sm pa pr fl op du qa ab ac qb be bc wd ++ ((oa, aJ g 1 ou) :: X)) H := hP
  have hD : va_D (gA g) (CW g ad (vp_updL rg r (qnF k z (rg a) 6)) (upd hd r (nI 1)) od tx ty sm pa pr fl op du qa ab ac qb be bc wd ++ ((oa, aJ g 1 ou) :: X)) := hD
  refine lv_goto (tgt := 20) hx hb d_LW_quantify_9 (by decide) ?_
  refine lv_iconst (v := nI 0) hx hb d_LW_quantify_20 (by decide) ?_
  exact W.iret (v := nI 0) hx hb hr (fun t9 e1 hW => ⟨⟨_, (), rfl, rfl, PR.at F hP hD hS e1 hW.alike⟩, hS.F e1⟩) hS.2.2 d_LW_quantify_21
set_option maxRecDepth 100000 in
set_option maxHeartbeats 4000000 in
theorem c1_LW_quantify (l : Launch) (hl0 : l.stackTraces = false) (g : Gx) (ad : Nat → Nat) (oa : Nat) (rg : Nat → Int64) (hd : Nat → Int32) (od : Nat → Int32) (tx : Nat → Int32) (ty : Int32) (sm : Nat → Int64) (pa : Nat → Int64) (pr : Nat → Int64) (fl : Nat → Int64) (op : Int32) (du : Int32) (qa : Nat) (ab : Nat → Int64) (ac : Int32) (qb : Nat) (be : Nat → Int64) (bc : Int32) (wd : Nat → Int32) (ou : Nat → Int64) (X : va_W) (r a k z : Int32) (hbad : ¬ (inR r 8 ∧ inR a 8 ∧ inR k 64)) : Met l y_LW_quantify (w_LW_quantify :: TW) rx_LW_quantify (va_Pc [.ref (ad 0), .int r, .int a, .int k, .int z] (PR g (CW g ad rg hd od tx ty sm pa pr fl op du qa ab ac qb be bc wd ++ ((oa, aJ g 1 ou) :: X)))) (va_Qi (fun r9 (u9 : Unit) => r9 = nI 1) (fun u9 t9 => PR g (CW g ad rg hd od tx ty sm pa pr fl op du qa ab ac qb be bc wd ++ ((oa, aJ g 1 ou) :: X)) t9) (gA g)) 1 6 (gA g) := by
  refine mw_of (by decide) (Nat.le_of_ble_eq_true rfl) ?_
  intro p e s m below meth c ls hx hb hr hml hlk hown ht hex F hP hD hl
  have hl : lv_has ls 6 [(0, .ref (ad 0)), (1, .int r), (2, .int a), (3, .int k), (4, .int z)] := hl
  have hS : va_S (gA g) s.heap s.heap [] := va_S.rf
  refine lv_aload_n hx hb d_LW_quantify_0 rfl (lv_at hl 0 rfl) ?_
  refine lv_iload_n hx hb d_LW_quantify_1 rfl (lv_at hl 1 rfl) ?_
  refine lv_iload_n hx hb d_LW_quantify_2 rfl (lv_at hl 2 rfl) ?_
  refine lv_iload_n hx hb d_LW_quantify_3 rfl (lv_at hl 3 rfl) ?_
  refine lv_iload hx hb d_LW_quantify_4 (lv_at hl 4 rfl) ?_
  refine xc_V (q0 := 0) (As := [.int r, .int a, .int k, .int z]) (rest := []) hx hb (hml.trans hl.1.symm) hown ht F hP hD hS (x1_SG_quantify l hl0 g ad rg hd od tx ty sm pa pr fl op du qa ab ac qb be bc wd ((oa, aJ g 1 ou) :: X) r a k z hbad) v_SG_quantify tw_293 ⟨rfl, rfl⟩ ⟨by decide, by decide⟩ rfl rfl rfl rfl (Nat.le_of_ble_eq_true rfl) ⟨by decide, by decide⟩ d_LW_quantify_6 (fun ce q9 H locs hP hD hS z1 z2 z3 => ?_)
  refine vx_catch hown [] ⟨0, 9, 12, 13⟩ [⟨0, 9, 16, 19⟩] (hex.trans rfl) (fun _ h => absurd h List.not_mem_nil) (by decide) (by decide) (ht _ tw_156) (ng_IAE F) z1 z2 z3 ?_
  have hP : va_P g.1 cl (CW g ad rg hd od tx ty sm pa pr fl op du qa ab ac qb be bc wd ++ ((oa, aJ g 1 ou) :: X)) H := hP
  have hD : va_D (gA g) (CW g ad rg hd od tx ty sm pa pr fl op du qa ab ac qb be bc wd ++ ((oa, aJ g 1 ou) :: X)) := hD
  refine lv_astore (lv' := [(5, .ref q9), (0, .ref (ad 0)), (1, .int r), (2, .int a), (3, .int k), (4, .int z)]) hx hb d_LW_quantify_12 hl (by decide) rfl (fun ls hl => ?_)
  refine lv_iconst (v := nI 1) hx hb d_LW_quantify_14 (by decide) ?_
  exact W.iret (v := nI 1) hx hb hr (fun t9 e1 hW => ⟨⟨_, (), rfl, rfl, PR.at F hP hD hS e1 hW.alike⟩, hS.F e1⟩) hS.2.2 d_LW_quantify_15
set_option maxRecDepth 100000 in
set_option maxHeartbeats 4000000 in
theorem c2_LW_quantify (l : Launch) (hl0 : l.stackTraces = false) (g : Gx) (ad : Nat → Nat) (oa : Nat) (rg : Nat → Int64) (hd : Nat → Int32) (od : Nat → Int32) (tx : Nat → Int32) (ty : Int32) (sm : Nat → Int64) (pa : Nat → Int64) (pr : Nat → Int64) (fl : Nat → Int64) (op : Int32) (du : Int32) (qa : Nat) (ab : Nat → Int64) (ac : Int32) (qb : Nat) (be : Nat → Int64) (bc : Int32) (wd : Nat → Int32) (ou : Nat → Int64) (X : va_W) (r a k : Nat) (z : Int32) (g0 : r < 8) (g1 : a < 8) (g2 : k < 64) (h9 : ∀ i, i < 8 → hd i = 0 ∨ hd i = 1) (hbad : ¬ (hd a = 1)) : Met l y_LW_quantify (w_LW_quantify :: TW) rx_LW_quantify (va_Pc [.ref (ad 0), .int (nI r), .int (nI a), .int (nI k), .int z] (PR g (CW g ad rg hd od tx ty sm pa pr fl op du qa ab ac qb be bc wd ++ ((oa, aJ g 1 ou) :: X)))) (va_Qi (fun r9 (u9 : Unit) => r9 = nI 2) (fun u9 t9 => PR g (CW g ad rg hd od tx ty sm pa pr fl op du qa ab ac qb be bc wd ++ ((oa, aJ g 1 ou) :: X)) t9) (gA g)) 1 6 (gA g) := by
  refine mw_of (by decide) (Nat.le_of_ble_eq_true rfl) ?_
  intro p e s m below meth c ls hx hb hr hml hlk hown ht hex F hP hD hl
  have hl : lv_has ls 6 [(0, .ref (ad 0)), (1, .int (nI r)), (2, .int (nI a)), (3, .int (nI k)), (4, .int z)] := hl
  have hS : va_S (gA g) s.heap s.heap [] := va_S.rf
  refine lv_aload_n hx hb d_LW_quantify_0 rfl (lv_at hl 0 rfl) ?_
  refine lv_iload_n hx hb d_LW_quantify_1 rfl (lv_at hl 1 rfl) ?_
  refine lv_iload_n hx hb d_LW_quantify_2 rfl (lv_at hl 2 rfl) ?_
  refine lv_iload_n hx hb d_LW_quantify_3 rfl (lv_at hl 3 rfl) ?_
  refine lv_iload hx hb d_LW_quantify_4 (lv_at hl 4 rfl) ?_
  refine xc_V (q0 := 0) (As := [.int (nI r), .int (nI a), .int (nI k), .int z]) (rest := []) hx hb (hml.trans hl.1.symm) hown ht F hP hD hS (x2_SG_quantify l hl0 g ad rg hd od tx ty sm pa pr fl op du qa ab ac qb be bc wd ((oa, aJ g 1 ou) :: X) r a k z g0 g1 g2 h9 hbad) v_SG_quantify tw_293 ⟨rfl, rfl⟩ ⟨by decide, by decide⟩ rfl rfl rfl rfl (Nat.le_of_ble_eq_true rfl) ⟨by decide, by decide⟩ d_LW_quantify_6 (fun ce q9 H locs hP hD hS z1 z2 z3 => ?_)
  refine vx_catch hown [⟨0, 9, 12, 13⟩] ⟨0, 9, 16, 19⟩ [] (hex.trans rfl) (List.forall_mem_cons.mpr ⟨Or.inr ⟨by decide, IAE, ht _ tw_156, F.2.2.2.2.2.2.2⟩, fun _ h => absurd h List.not_mem_nil⟩) (by decide) (by decide) (ht _ tw_237) (ng_NSE F) z1 z2 z3 ?_
  have hP : va_P g.1 cl (CW g ad rg hd od tx ty sm pa pr fl op du qa ab ac qb be bc wd ++ ((oa, aJ g 1 ou) :: X)) H := hP
  have hD : va_D (gA g) (CW g ad rg hd od tx ty sm pa pr fl op du qa ab ac qb be bc wd ++ ((oa, aJ g 1 ou) :: X)) := hD
  refine lv_astore (lv' := [(5, .ref q9), (0, .ref (ad 0)), (1, .int (nI r)), (2, .int (nI a)), (3, .int (nI k)), (4, .int z)]) hx hb d_LW_quantify_16 hl (by decide) rfl (fun ls hl => ?_)
  refine lv_iconst (v := nI 2) hx hb d_LW_quantify_18 (by decide) ?_
  exact W.iret (v := nI 2) hx hb hr (fun t9 e1 hW => ⟨⟨_, (), rfl, rfl, PR.at F hP hD hS e1 hW.alike⟩, hS.F e1⟩) hS.2.2 d_LW_quantify_19
set_option maxRecDepth 100000 in
set_option maxHeartbeats 4000000 in
theorem c_LW_type (l : Launch) (g : Gx) (ad : Nat → Nat) (oa : Nat) (rg : Nat → Int64) (hd : Nat → Int32) (od : Nat → Int32) (sm : Nat → Int64) (pa : Nat → Int64) (pr : Nat → Int64) (fl : Nat → Int64) (op : Int32) (du : Int32) (qa : Nat) (ab : Nat → Int64) (ac : Int32) (qb : Nat) (be : Nat → Int64) (bc : Int32) (wd : Nat → Int32) (ou : Nat → Int64) (X : va_W) (tx : Nat → Nat) (td : Nat) (x : Int64) (n : Nat) (h1 : 1 ≤ n) (h2 : n ≤ 8) (h3 : td + n ≤ 40) : Met l y_LW_type (w_LW_type :: TW) rm_LW_type (va_Pc [.ref (ad 0), .long x, .int (nI n), .ref oa] (PR g (CW g ad rg hd od (nF tx) (nI td) sm pa pr fl op du qa ab ac qb be bc wd ++ ((oa, aJ g 1 ou) :: X)))) (va_Qi (fun r9 (u9 : Unit) => r9 = nI 0) (fun u9 t9 => PR g (CW g ad rg hd od (nF (tyW tx td x n)) (nI (td + n)) sm pa pr fl op du qa ab ac qb be bc wd ++ ((oa, aJ g 1 (vp_updL ou 0 ((nI (td + n)).toInt64))) :: X)) t9) (gA g)) 0 0 (gA g) := by
  refine mw_of (by decide) (Nat.le_of_ble_eq_true rfl) ?_
  intro p e s m below meth c ls hx hb hr hml hlk hown ht hex F hP hD hl
  have hl : lv_has ls 6 [(0, .ref (ad 0)), (1, .long x), (3, .int (nI n)), (4, .ref oa)] := hl
  have hS : va_S (gA g) s.heap s.heap [] := va_S.rf
  refine lv_aload hx hb d_LW_type_0 (lv_at hl 3 rfl) ?_
  refine lv_iconst (v := nI 0) hx hb d_LW_type_2 (by decide) ?_
  refine lv_aload_n hx hb d_LW_type_3 rfl (lv_at hl 0 rfl) ?_
  refine lv_lload_n hx hb d_LW_type_4 rfl (lv_at hl 1 rfl) ?_
  refine lv_iload_n hx hb d_LW_type_5 rfl (lv_at hl 2 rfl) ?_
  refine pc_Vi (q0 := 0) (As := [.long x, .int (nI n)]) (rest := [.int (nI 0), .ref oa]) hx hb (hml.trans hl.1.symm) hown ht F hP hD hS (c_SG_type l g ad rg hd od sm pa pr fl op du qa ab ac qb be bc wd ((oa, aJ g 1 ou) :: X) tx td x n h1 h2 h3) v_SG_type tw_300 ⟨rfl, rfl⟩ ⟨by decide, by decide⟩ rfl rfl rfl rfl (Nat.le_of_ble_eq_true rfl) ⟨Nat.zero_le _, Nat.zero_le _⟩ d_LW_type_6 (fun r9 u9 H locs hq hP hD hS => ?_)
  subst hq
  have hP : va_P g.1 cl (CW g ad rg hd od (nF (tyW tx td x n)) (nI (td + n)) sm pa pr fl op du qa ab ac qb be bc wd ++ ((oa, aJ g 1 ou) :: X)) H := hP
  have hD : va_D (gA g) (CW g ad rg hd od (nF (tyW tx td x n)) (nI (td + n)) sm pa pr fl op du qa ab ac qb be bc wd ++ ((oa, aJ g 1 ou) :: X)) := hD
  refine lv_i2l hx hb d_LW_type_9 rfl ?_
  refine wa_J hx hb F hP hD hS 15 rfl (by omega) (by decide) d_LW_type_10 (fun H locs hP hD hS => ?_)
  have hP : va_P g.1 cl (CW g ad rg hd od (nF (tyW tx td x n)) (nI (td + n)) sm pa pr fl op du qa ab ac qb be bc wd ++ ((oa, aJ g 1 (vp_updL ou 0 ((nI (td + n)).toInt64))) :: X)) H := hP
  have hD : va_D (gA g) (CW g ad rg hd od (nF (tyW tx td x n)) (nI (td + n)) sm pa pr fl op du qa ab ac qb be bc wd ++ ((oa, aJ g 1 (vp_updL ou 0 ((nI (td + n)).toInt64))) :: X)) := hD
  refine lv_goto (tgt := 18) hx hb d_LW_type_11 (by decide) ?_
  refine lv_iconst (v := nI 0) hx hb d_LW_type_18 (by decide) ?_
  exact W.iret (v := nI 0) hx hb hr (fun t9 e1 hW => ⟨⟨_, (), rfl, rfl, PR.at F hP hD hS e1 hW.alike⟩, hS.F e1⟩) hS.2.2 d_LW_type_19
set_option maxRecDepth 100000 in
set_option maxHeartbeats 4000000 in
theorem c1_LW_type (l : Launch) (hl0 : l.stackTraces = false) (g : Gx) (ad : Nat → Nat) (oa : Nat) (rg : Nat → Int64) (hd : Nat → Int32) (od : Nat → Int32) (tx : Nat → Int32) (sm : Nat → Int64) (pa : Nat → Int64) (pr : Nat → Int64) (fl : Nat → Int64) (op : Int32) (du : Int32) (qa : Nat) (ab : Nat → Int64) (ac : Int32) (qb : Nat) (be : Nat → Int64) (bc : Int32) (wd : Nat → Int32) (ou : Nat → Int64) (X : va_W) (td : Nat) (x : Int64) (n : Int32) (h1 : td ≤ 40) (hbad : ¬ ∃ k, 1 ≤ k ∧ k ≤ 8 ∧ td + k ≤ 40 ∧ n = nI k) : Met l y_LW_type (w_LW_type :: TW) rx_LW_type (va_Pc [.ref (ad 0), .long x, .int n, .ref oa] (PR g (CW g ad rg hd od tx (nI td) sm pa pr fl op du qa ab ac qb be bc wd ++ ((oa, aJ g 1 ou) :: X)))) (va_Qi (fun r9 (u9 : Unit) => r9 = nI 1) (fun u9 t9 => PR g (CW g ad rg hd od tx (nI td) sm pa pr fl op du qa ab ac qb be bc wd ++ ((oa, aJ g 1 ou) :: X)) t9) (gA g)) 1 6 (gA g) := by
  refine mw_of (by decide) (Nat.le_of_ble_eq_true rfl) ?_
  intro p e s m below meth c ls hx hb hr hml hlk hown ht hex F hP hD hl
  have hl : lv_has ls 6 [(0, .ref (ad 0)), (1, .long x), (3, .int n), (4, .ref oa)] := hl
  have hS : va_S (gA g) s.heap s.heap [] := va_S.rf
  refine lv_aload hx hb d_LW_type_0 (lv_at hl 3 rfl) ?_
  refine lv_iconst (v := nI 0) hx hb d_LW_type_2 (by decide) ?_
  refine lv_aload_n hx hb d_LW_type_3 rfl (lv_at hl 0 rfl) ?_
  refine lv_lload_n hx hb d_LW_type_4 rfl (lv_at hl 1 rfl) ?_
  refine lv_iload_n hx hb d_LW_type_5 rfl (lv_at hl 2 rfl) ?_
  refine xc_V (q0 := 0) (As := [.long x, .int n]) (rest := [.int (nI 0), .ref oa]) hx hb (hml.trans hl.1.symm) hown ht F hP hD hS (x1_SG_type l hl0 g ad rg hd od tx sm pa pr fl op du qa ab ac qb be bc wd ((oa, aJ g 1 ou) :: X) td x n h1 hbad) v_SG_type tw_300 ⟨rfl, rfl⟩ ⟨by decide, by decide⟩ rfl rfl rfl rfl (Nat.le_of_ble_eq_true rfl) ⟨by decide, by decide⟩ d_LW_type_6 (fun ce q9 H locs hP hD hS z1 z2 z3 => ?_)
  refine vx_catch hown [] ⟨0, 11, 14, 13⟩ [] (hex.trans rfl) (fun _ h => absurd h List.not_mem_nil) (by decide) (by decide) (ht _ tw_156) (ng_IAE F) z1 z2 z3 ?_
  have hP : va_P g.1 cl (CW g ad rg hd od tx (nI td) sm pa pr fl op du qa ab ac qb be bc wd ++ ((oa, aJ g 1 ou) :: X)) H := hP
  have hD : va_D (gA g) (CW g ad rg hd od tx (nI td) sm pa pr fl op du qa ab ac qb be bc wd ++ ((oa, aJ g 1 ou) :: X)) := hD
  refine lv_astore (lv' := [(5, .ref q9), (0, .ref (ad 0)), (1, .long x), (3, .int n), (4, .ref oa)]) hx hb d_LW_type_14 hl (by decide) rfl (fun ls hl => ?_)
  refine lv_iconst (v := nI 1) hx hb d_LW_type_16 (by decide) ?_
  exact W.iret (v := nI 1) hx hb hr (fun t9 e1 hW => ⟨⟨_, (), rfl, rfl, PR.at F hP hD hS e1 hW.alike⟩, hS.F e1⟩) hS.2.2 d_LW_type_17
set_option maxRecDepth 100000 in
set_option maxHeartbeats 4000000 in
theorem c_LW_read (l : Launch) (g : Gx) (ad : Nat → Nat) (oa : Nat) (rg : Nat → Int64) (hd : Nat → Int32) (od : Nat → Int32) (sm : Nat → Int64) (pa : Nat → Int64) (pr : Nat → Int64) (fl : Nat → Int64) (op : Int32) (du : Int32) (qa : Nat) (ab : Nat → Int64) (ac : Int32) (qb : Nat) (be : Nat → Int64) (bc : Int32) (wd : Nat → Int32) (ou : Nat → Int64) (X : va_W) (tx : Nat → Nat) (td r : Nat) (h1 : r < 8) (h2 : td ≤ 40) (h3 : ∀ i, i < 40 → tx i < 65536) (h9 : ∀ i, i < 8 → hd i = 0 ∨ hd i = 1) : Met l y_LW_read (w_LW_read :: TW) rm_LW_read (va_Pc [.ref (ad 0), .int (nI r), .ref oa] (PR g (CW g ad rg hd od (nF tx) (nI td) sm pa pr fl op du qa ab ac qb be bc wd ++ ((oa, aJ g 1 ou) :: X)))) (va_Qi (fun r9 (u9 : Unit) => r9 = nI 0) (fun u9 t9 => PR g (CW g ad (if (rdG rg hd tx td 0 (bfF (sm, pa, pr, fl, 0, 1))).1 < 0 then vp_updL rg r (meF (rdG rg hd tx td 0 (bfF (sm, pa, pr, fl, 0, 1))).2) else rg) (if (rdG rg hd tx td 0 (bfF (sm, pa, pr, fl, 0, 1))).1 < 0 then upd hd r (nI 1) else hd) od (nF tx) (nI 0) (((rdG rg hd tx td 0 (bfF (sm, pa, pr, fl, 0, 1))).2).1) (((rdG rg hd tx td 0 (bfF (sm, pa, pr, fl, 0, 1))).2).2.1) (((rdG rg hd tx td 0 (bfF (sm, pa, pr, fl, 0, 1))).2).2.2.1) (((rdG rg hd tx td 0 (bfF (sm, pa, pr, fl, 0, 1))).2).2.2.2.1) (nI (((rdG rg hd tx td 0 (bfF (sm, pa, pr, fl, 0, 1))).2).2.2.2.2.1)) (nI (((rdG rg hd tx td 0 (bfF (sm, pa, pr, fl, 0, 1))).2).2.2.2.2.2)) qa ab ac qb be bc wd ++ ((oa, aJ g 1 (vp_updL ou 0 (((rdG rg hd tx td 0 (bfF (sm, pa, pr, fl, 0, 1))).1).toInt64))) :: X)) t9) (gA g)) 0 0 (gA g) := by
  refine mw_of (by decide) (Nat.le_of_ble_eq_true rfl) ?_
  intro p e s m below meth c ls hx hb hr hml hlk hown ht hex F hP hD hl
  have hl : lv_has ls 4 [(0, .ref (ad 0)), (1, .int (nI r)), (2, .ref oa)] := hl
  have hS : va_S (gA g) s.heap s.heap [] := va_S.rf
  refine lv_aload_n hx hb d_LW_read_0 rfl (lv_at hl 2 rfl) ?_
  refine lv_iconst (v := nI 0) hx hb d_LW_read_1 (by decide) ?_
  refine lv_aload_n hx hb d_LW_read_2 rfl (lv_at hl 0 rfl) ?_
  refine lv_iload_n hx hb d_LW_read_3 rfl (lv_at hl 1 rfl) ?_
  refine pc_Vi (q0 := 0) (As := [.int (nI r)]) (rest := [.int (nI 0), .ref oa]) hx hb (hml.trans hl.1.symm) hown ht F hP hD hS (c_SG_read l g ad rg hd od sm pa pr fl op du qa ab ac qb be bc wd ((oa, aJ g 1 ou) :: X) tx td r h1 h2 h3 h9) v_SG_read tw_308 ⟨rfl, rfl⟩ ⟨by decide, by decide⟩ rfl rfl rfl rfl (Nat.le_of_ble_eq_true rfl) ⟨Nat.zero_le _, Nat.zero_le _⟩ d_LW_read_4 (fun r9 u9 H locs hq hP hD hS => ?_)
  subst hq
  have hP : va_P g.1 cl (CW g ad (if (rdG rg hd tx td 0 (bfF (sm, pa, pr, fl, 0, 1))).1 < 0 then vp_updL rg r (meF (rdG rg hd tx td 0 (bfF (sm, pa, pr, fl, 0, 1))).2) else rg) (if (rdG rg hd tx td 0 (bfF (sm, pa, pr, fl, 0, 1))).1 < 0 then upd hd r (nI 1) else hd) od (nF tx) (nI 0) (((rdG rg hd tx td 0 (bfF (sm, pa, pr, fl, 0, 1))).2).1) (((rdG rg hd tx td 0 (bfF (sm, pa, pr, fl, 0, 1))).2).2.1) (((rdG rg hd tx td 0 (bfF (sm, pa, pr, fl, 0, 1))).2).2.2.1) (((rdG rg hd tx td 0 (bfF (sm, pa, pr, fl, 0, 1))).2).2.2.2.1) (nI (((rdG rg hd tx td 0 (bfF (sm, pa, pr, fl, 0, 1))).2).2.2.2.2.1)) (nI (((rdG rg hd tx td 0 (bfF (sm, pa, pr, fl, 0, 1))).2).2.2.2.2.2)) qa ab ac qb be bc wd ++ ((oa, aJ g 1 ou) :: X)) H := hP
  have hD : va_D (gA g) (CW g ad (if (rdG rg hd tx td 0 (bfF (sm, pa, pr, fl, 0, 1))).1 < 0 then vp_updL rg r (meF (rdG rg hd tx td 0 (bfF (sm, pa, pr, fl, 0, 1))).2) else rg) (if (rdG rg hd tx td 0 (bfF (sm, pa, pr, fl, 0, 1))).1 < 0 then upd hd r (nI 1) else hd) od (nF tx) (nI 0) (((rdG rg hd tx td 0 (bfF (sm, pa, pr, fl, 0, 1))).2).1) (((rdG rg hd tx td 0 (bfF (sm, pa, pr, fl, 0, 1))).2).2.1) (((rdG rg hd tx td 0 (bfF (sm, pa, pr, fl, 0, 1))).2).2.2.1) (((rdG rg hd tx td 0 (bfF (sm, pa, pr, fl, 0, 1))).2).2.2.2.1) (nI (((rdG rg hd tx td 0 (bfF (sm, pa, pr, fl, 0, 1))).2).2.2.2.2.1)) (nI (((rdG rg hd tx td 0 (bfF (sm, pa, pr, fl, 0, 1))).2).2.2.2.2.2)) qa ab ac qb be bc wd ++ ((oa, aJ g 1 ou) :: X)) := hD
  refine lv_i2l hx hb d_LW_read_7 rfl ?_
  refine wa_J hx hb F hP hD hS 15 rfl (by omega) (by decide) d_LW_read_8 (fun H locs hP hD hS => ?_)
  have hP : va_P g.1 cl (CW g ad (if (rdG rg hd tx td 0 (bfF (sm, pa, pr, fl, 0, 1))).1 < 0 then vp_updL rg r (meF (rdG rg hd tx td 0 (bfF (sm, pa, pr, fl, 0, 1))).2) else rg) (if (rdG rg hd tx td 0 (bfF (sm, pa, pr, fl, 0, 1))).1 < 0 then upd hd r (nI 1) else hd) od (nF tx) (nI 0) (((rdG rg hd tx td 0 (bfF (sm, pa, pr, fl, 0, 1))).2).1) (((rdG rg hd tx td 0 (bfF (sm, pa, pr, fl, 0, 1))).2).2.1) (((rdG rg hd tx td 0 (bfF (sm, pa, pr, fl, 0, 1))).2).2.2.1) (((rdG rg hd tx td 0 (bfF (sm, pa, pr, fl, 0, 1))).2).2.2.2.1) (nI (((rdG rg hd tx td 0 (bfF (sm, pa, pr, fl, 0, 1))).2).2.2.2.2.1)) (nI (((rdG rg hd tx td 0 (bfF (sm, pa, pr, fl, 0, 1))).2).2.2.2.2.2)) qa ab ac qb be bc wd ++ ((oa, aJ g 1 (vp_updL ou 0 (((rdG rg hd tx td 0 (bfF (sm, pa, pr, fl, 0, 1))).1).toInt64))) :: X)) H := hP
  have hD : va_D (gA g) (CW g ad (if (rdG rg hd tx td 0 (bfF (sm, pa, pr, fl, 0, 1))).1 < 0 then vp_updL rg r (meF (rdG rg hd tx td 0 (bfF (sm, pa, pr, fl, 0, 1))).2) else rg) (if (rdG rg hd tx td 0 (bfF (sm, pa, pr, fl, 0, 1))).1 < 0 then upd hd r (nI 1) else hd) od (nF tx) (nI 0) (((rdG rg hd tx td 0 (bfF (sm, pa, pr, fl, 0, 1))).2).1) (((rdG rg hd tx td 0 (bfF (sm, pa, pr, fl, 0, 1))).2).2.1) (((rdG rg hd tx td 0 (bfF (sm, pa, pr, fl, 0, 1))).2).2.2.1) (((rdG rg hd tx td 0 (bfF (sm, pa, pr, fl, 0, 1))).2).2.2.2.1) (nI (((rdG rg hd tx td 0 (bfF (sm, pa, pr, fl, 0, 1))).2).2.2.2.2.1)) (nI (((rdG rg hd tx td 0 (bfF (sm, pa, pr, fl, 0, 1))).2).2.2.2.2.2)) qa ab ac qb be bc wd ++ ((oa, aJ g 1 (vp_updL ou 0 (((rdG rg hd tx td 0 (bfF (sm, pa, pr, fl, 0, 1))).1).toInt64))) :: X)) := hD
  refine lv_goto (tgt := 15) hx hb d_LW_read_9 (by decide) ?_
  refine lv_iconst (v := nI 0) hx hb d_LW_read_15 (by decide) ?_
  exact W.iret (v := nI 0) hx hb hr (fun t9 e1 hW => ⟨⟨_, (), rfl, rfl, PR.at F hP hD hS e1 hW.alike⟩, hS.F e1⟩) hS.2.2 d_LW_read_16
set_option maxRecDepth 100000 in
set_option maxHeartbeats 4000000 in
theorem c1_LW_read (l : Launch) (hl0 : l.stackTraces = false) (g : Gx) (ad : Nat → Nat) (oa : Nat) (rg : Nat → Int64) (hd : Nat → Int32) (od : Nat → Int32) (tx : Nat → Int32) (ty : Int32) (sm : Nat → Int64) (pa : Nat → Int64) (pr : Nat → Int64) (fl : Nat → Int64) (op : Int32) (du : Int32) (qa : Nat) (ab : Nat → Int64) (ac : Int32) (qb : Nat) (be : Nat → Int64) (bc : Int32) (wd : Nat → Int32) (ou : Nat → Int64) (X : va_W) (r : Int32) (hbad : ¬ (inR r 8)) : Met l y_LW_read (w_LW_read :: TW) rx_LW_read (va_Pc [.ref (ad 0), .int r, .ref oa] (PR g (CW g ad rg hd od tx ty sm pa pr fl op du qa ab ac qb be bc wd ++ ((oa, aJ g 1 ou) :: X)))) (va_Qi (fun r9 (u9 : Unit) => r9 = nI 1) (fun u9 t9 => PR g (CW g ad rg hd od tx ty sm pa pr fl op du qa ab ac qb be bc wd ++ ((oa, aJ g 1 ou) :: X)) t9) (gA g)) 1 6 (gA g) := by
  refine mw_of (by decide) (Nat.le_of_ble_eq_true rfl) ?_
  intro p e s m below meth c ls hx hb hr hml hlk hown ht hex F hP hD hl
  have hl : lv_has ls 4 [(0, .ref (ad 0)), (1, .int r), (2, .ref oa)] := hl
  have hS : va_S (gA g) s.heap s.heap [] := va_S.rf
  refine lv_aload_n hx hb d_LW_read_0 rfl (lv_at hl 2 rfl) ?_
  refine lv_iconst (v := nI 0) hx hb d_LW_read_1 (by decide) ?_
  refine lv_aload_n hx hb d_LW_read_2 rfl (lv_at hl 0 rfl) ?_
  refine lv_iload_n hx hb d_LW_read_3 rfl (lv_at hl 1 rfl) ?_
  refine xc_V (q0 := 0) (As := [.int r]) (rest := [.int (nI 0), .ref oa]) hx hb (hml.trans hl.1.symm) hown ht F hP hD hS (x1_SG_read l hl0 g ad rg hd od tx ty sm pa pr fl op du qa ab ac qb be bc wd ((oa, aJ g 1 ou) :: X) r hbad) v_SG_read tw_308 ⟨rfl, rfl⟩ ⟨by decide, by decide⟩ rfl rfl rfl rfl (Nat.le_of_ble_eq_true rfl) ⟨by decide, by decide⟩ d_LW_read_4 (fun ce q9 H locs hP hD hS z1 z2 z3 => ?_)
  refine vx_catch hown [] ⟨0, 9, 12, 13⟩ [] (hex.trans rfl) (fun _ h => absurd h List.not_mem_nil) (by decide) (by decide) (ht _ tw_156) (ng_IAE F) z1 z2 z3 ?_
  have hP : va_P g.1 cl (CW g ad rg hd od tx ty sm pa pr fl op du qa ab ac qb be bc wd ++ ((oa, aJ g 1 ou) :: X)) H := hP
  have hD : va_D (gA g) (CW g ad rg hd od tx ty sm pa pr fl op du qa ab ac qb be bc wd ++ ((oa, aJ g 1 ou) :: X)) := hD
  refine lv_astore_n (lv' := [(3, .ref q9), (0, .ref (ad 0)), (1, .int r), (2, .ref oa)]) hx hb d_LW_read_12 rfl hl (by decide) rfl (fun ls hl => ?_)
  refine lv_iconst (v := nI 1) hx hb d_LW_read_13 (by decide) ?_
  exact W.iret (v := nI 1) hx hb hr (fun t9 e1 hW => ⟨⟨_, (), rfl, rfl, PR.at F hP hD hS e1 hW.alike⟩, hS.F e1⟩) hS.2.2 d_LW_read_14
set_option maxRecDepth 100000 in
set_option maxHeartbeats 4000000 in
theorem c_LW_release (l : Launch) (g : Gx) (ad : Nat → Nat) (oa : Nat) (rg : Nat → Int64) (hd : Nat → Int32) (od : Nat → Int32) (tx : Nat → Int32) (ty : Int32) (sm : Nat → Int64) (pa : Nat → Int64) (pr : Nat → Int64) (fl : Nat → Int64) (op : Int32) (du : Int32) (qa : Nat) (ab : Nat → Int64) (ac : Int32) (qb : Nat) (be : Nat → Int64) (bc : Int32) (wd : Nat → Int32) (ou : Nat → Int64) (X : va_W) (r : Nat) (h1 : r < 8) (h2 : hd r = 0 ∨ hd r = 1) : Met l y_LW_release (w_LW_release :: TW) rm_LW_release (va_Pc [.ref (ad 0), .int (nI r), .ref oa] (PR g (CW g ad rg hd od tx ty sm pa pr fl op du qa ab ac qb be bc wd ++ ((oa, aJ g 1 ou) :: X)))) (va_Qi (fun r9 (u9 : Unit) => r9 = nI 0) (fun u9 t9 => PR g (CW g ad rg (upd hd r (nI 0)) od tx ty sm pa pr fl op du qa ab ac qb be bc wd ++ ((oa, aJ g 1 (vp_updL ou 0 (if (hd r) = 0 then 0 else 1))) :: X)) t9) (gA g)) 0 0 (gA g) := by
  refine mw_of (by decide) (Nat.le_of_ble_eq_true rfl) ?_
  intro p e s m below meth c ls hx hb hr hml hlk hown ht hex F hP hD hl
  have hl : lv_has ls 4 [(0, .ref (ad 0)), (1, .int (nI r)), (2, .ref oa)] := hl
  have hS : va_S (gA g) s.heap s.heap [] := va_S.rf
  refine lv_aload_n hx hb d_LW_release_0 rfl (lv_at hl 2 rfl) ?_
  refine lv_iconst (v := nI 0) hx hb d_LW_release_1 (by decide) ?_
  refine lv_aload_n hx hb d_LW_release_2 rfl (lv_at hl 0 rfl) ?_
  refine lv_iload_n hx hb d_LW_release_3 rfl (lv_at hl 1 rfl) ?_
  refine pc_Vi (q0 := 0) (As := [.int (nI r)]) (rest := [.int (nI 0), .ref oa]) hx hb (hml.trans hl.1.symm) hown ht F hP hD hS (c_SG_release l g ad rg hd od tx ty sm pa pr fl op du qa ab ac qb be bc wd ((oa, aJ g 1 ou) :: X) r h1 h2) v_SG_release tw_356 ⟨rfl, rfl⟩ ⟨by decide, by decide⟩ rfl rfl rfl rfl (Nat.le_of_ble_eq_true rfl) ⟨Nat.zero_le _, Nat.zero_le _⟩ d_LW_release_4 (fun r9 u9 H locs hq hP hD hS => ?_)
  subst hq
  have hP : va_P g.1 cl (CW g ad rg (upd hd r (nI 0)) od tx ty sm pa pr fl op du qa ab ac qb be bc wd ++ ((oa, aJ g 1 ou) :: X)) H := hP
  have hD : va_D (gA g) (CW g ad rg (upd hd r (nI 0)) od tx ty sm pa pr fl op du qa ab ac qb be bc wd ++ ((oa, aJ g 1 ou) :: X)) := hD
  refine lv_if_eq (tgt := 14) hx hb d_LW_release_7 (by decide) (fun c7 => ?_) (fun c7 => ?_)
  · refine lv_lconst (v := 0) hx hb d_LW_release_14 (by decide) ?_
    refine wa_J hx hb F hP hD hS 15 rfl (by omega) (by decide) d_LW_release_15 (fun H locs hP hD hS => ?_)
    have hP : va_P g.1 cl (CW g ad rg (upd hd r (nI 0)) od tx ty sm pa pr fl op du qa ab ac qb be bc wd ++ ((oa, aJ g 1 (vp_updL ou 0 0)) :: X)) H := hP
    have hD : va_D (gA g) (CW g ad rg (upd hd r (nI 0)) od tx ty sm pa pr fl op du qa ab ac qb be bc wd ++ ((oa, aJ g 1 (vp_updL ou 0 0)) :: X)) := hD
    refine lv_goto (tgt := 22) hx hb d_LW_release_16 (by decide) ?_
    refine lv_iconst (v := nI 0) hx hb d_LW_release_22 (by decide) ?_
    have hP : va_P g.1 cl (CW g ad rg (upd hd r (nI 0)) od tx ty sm pa pr fl op du qa ab ac qb be bc wd ++ ((oa, aJ g 1 (vp_updL ou 0 (if (hd r) = 0 then 0 else 1))) :: X)) H := by rw [if_pos c7]; exact hP
    have hD : va_D (gA g) (CW g ad rg (upd hd r (nI 0)) od tx ty sm pa pr fl op du qa ab ac qb be bc wd ++ ((oa, aJ g 1 (vp_updL ou 0 (if (hd r) = 0 then 0 else 1))) :: X)) := by rw [if_pos c7]; exact hD
    exact W.iret (v := nI 0) hx hb hr (fun t9 e1 hW => ⟨⟨_, (), rfl, rfl, PR.at F hP hD hS e1 hW.alike⟩, hS.F e1⟩) hS.2.2 d_LW_release_23
  · refine lv_lconst (v := 1) hx hb d_LW_release_10 (by decide) ?_
    refine lv_goto (tgt := 15) hx hb d_LW_release_11 (by decide) ?_
    refine wa_J hx hb F hP hD hS 15 rfl (by omega) (by decide) d_LW_release_15 (fun H locs hP hD hS => ?_)
    have hP : va_P g.1 cl (CW g ad rg (upd hd r (nI 0)) od tx ty sm pa pr fl op du qa ab ac qb be bc wd ++ ((oa, aJ g 1 (vp_updL ou 0 1)) :: X)) H := hP
    have hD : va_D (gA g) (CW g ad rg (upd hd r (nI 0)) od tx ty sm pa pr fl op du qa ab ac qb be bc wd ++ ((oa, aJ g 1 (vp_updL ou 0 1)) :: X)) := hD
    refine lv_goto (tgt := 22) hx hb d_LW_release_16 (by decide) ?_
    refine lv_iconst (v := nI 0) hx hb d_LW_release_22 (by decide) ?_
    have hP : va_P g.1 cl (CW g ad rg (upd hd r (nI 0)) od tx ty sm pa pr fl op du qa ab ac qb be bc wd ++ ((oa, aJ g 1 (vp_updL ou 0 (if (hd r) = 0 then 0 else 1))) :: X)) H := by rw [if_neg c7]; exact hP
    have hD : va_D (gA g) (CW g ad rg (upd hd r (nI 0)) od tx ty sm pa pr fl op du qa ab ac qb be bc wd ++ ((oa, aJ g 1 (vp_updL ou 0 (if (hd r) = 0 then 0 else 1))) :: X)) := by rw [if_neg c7]; exact hD
    exact W.iret (v := nI 0) hx hb hr (fun t9 e1 hW => ⟨⟨_, (), rfl, rfl, PR.at F hP hD hS e1 hW.alike⟩, hS.F e1⟩) hS.2.2 d_LW_release_23
set_option maxRecDepth 100000 in
set_option maxHeartbeats 4000000 in
theorem c1_LW_release (l : Launch) (hl0 : l.stackTraces = false) (g : Gx) (ad : Nat → Nat) (oa : Nat) (rg : Nat → Int64) (hd : Nat → Int32) (od : Nat → Int32) (tx : Nat → Int32) (ty : Int32) (sm : Nat → Int64) (pa : Nat → Int64) (pr : Nat → Int64) (fl : Nat → Int64) (op : Int32) (du : Int32) (qa : Nat) (ab : Nat → Int64) (ac : Int32) (qb : Nat) (be : Nat → Int64) (bc : Int32) (wd : Nat → Int32) (ou : Nat → Int64) (X : va_W) (r : Int32) (hbad : ¬ (inR r 8)) : Met l y_LW_release (w_LW_release :: TW) rx_LW_release (va_Pc [.ref (ad 0), .int r, .ref oa] (PR g (CW g ad rg hd od tx ty sm pa pr fl op du qa ab ac qb be bc wd ++ ((oa, aJ g 1 ou) :: X)))) (va_Qi (fun r9 (u9 : Unit) => r9 = nI 1) (fun u9 t9 => PR g (CW g ad rg hd od tx ty sm pa pr fl op du qa ab ac qb be bc wd ++ ((oa, aJ g 1 ou) :: X)) t9) (gA g)) 1 6 (gA g) := by
  refine mw_of (by decide) (Nat.le_of_ble_eq_true rfl) ?_
  intro p e s m below meth c ls hx hb hr hml hlk hown ht hex F hP hD hl
  have hl : lv_has ls 4 [(0, .ref (ad 0)), (1, .int r), (2, .ref oa)] := hl
  have hS : va_S (gA g) s.heap s.heap [] := va_S.rf
  refine lv_aload_n hx hb d_LW_release_0 rfl (lv_at hl 2 rfl) ?_
  refine lv_iconst (v := nI 0) hx hb d_LW_release_1 (by decide) ?_
  refine lv_aload_n hx hb d_LW_release_2 rfl (lv_at hl 0 rfl) ?_
  refine lv_iload_n hx hb d_LW_release_3 rfl (lv_at hl 1 rfl) ?_
  refine xc_V (q0 := 0) (As := [.int r]) (rest := [.int (nI 0), .ref oa]) hx hb (hml.trans hl.1.symm) hown ht F hP hD hS (x1_SG_release l hl0 g ad rg hd od tx ty sm pa pr fl op du qa ab ac qb be bc wd ((oa, aJ g 1 ou) :: X) r hbad) v_SG_release tw_356 ⟨rfl, rfl⟩ ⟨by decide, by decide⟩ rfl rfl rfl rfl (Nat.le_of_ble_eq_true rfl) ⟨by decide, by decide⟩ d_LW_release_4 (fun ce q9 H locs hP hD hS z1 z2 z3 => ?_)
  refine vx_catch hown [] ⟨0, 16, 19, 13⟩ [] (hex.trans rfl) (fun _ h => absurd h List.not_mem_nil) (by decide) (by decide) (ht _ tw_156) (ng_IAE F) z1 z2 z3 ?_
  have hP : va_P g.1 cl (CW g ad rg hd od tx ty sm pa pr fl op du qa ab ac qb be bc wd ++ ((oa, aJ g 1 ou) :: X)) H := hP
  have hD : va_D (gA g) (CW g ad rg hd od tx ty sm pa pr fl op du qa ab ac qb be bc wd ++ ((oa, aJ g 1 ou) :: X)) := hD
  refine lv_astore_n (lv' := [(3, .ref q9), (0, .ref (ad 0)), (1, .int r), (2, .ref oa)]) hx hb d_LW_release_19 rfl hl (by decide) rfl (fun ls hl => ?_)
  refine lv_iconst (v := nI 1) hx hb d_LW_release_20 (by decide) ?_
  exact W.iret (v := nI 1) hx hb hr (fun t9 e1 hW => ⟨⟨_, (), rfl, rfl, PR.at F hP hD hS e1 hW.alike⟩, hS.F e1⟩) hS.2.2 d_LW_release_21
set_option maxRecDepth 100000 in
set_option maxHeartbeats 4000000 in
theorem c_LW_equal (l : Launch) (g : Gx) (ad : Nat → Nat) (oa : Nat) (rg : Nat → Int64) (hd : Nat → Int32) (od : Nat → Int32) (tx : Nat → Int32) (ty : Int32) (sm : Nat → Int64) (pa : Nat → Int64) (pr : Nat → Int64) (fl : Nat → Int64) (op : Int32) (du : Int32) (qa : Nat) (ab : Nat → Int64) (ac : Int32) (qb : Nat) (be : Nat → Int64) (bc : Int32) (wd : Nat → Int32) (ou : Nat → Int64) (X : va_W) (a b : Nat) (h1 : a < 8) (h2 : b < 8) (h5 : hd a = 1) (h6 : hd b = 1) : Met l y_LW_equal (w_LW_equal :: TW) rm_LW_equal (va_Pc [.ref (ad 0), .int (nI a), .int (nI b), .ref oa] (PR g (CW g ad rg hd od tx ty sm pa pr fl op du qa ab ac qb be bc wd ++ ((oa, aJ g 1 ou) :: X)))) (va_Qi (fun r9 (u9 : Unit) => r9 = nI 0) (fun u9 t9 => PR g (CW g ad rg hd od tx ty sm pa pr fl op du qa ab ac qb be bc wd ++ ((oa, aJ g 1 (vp_updL ou 0 (if (bI (rg a = rg b)) = 0 then 0 else 1))) :: X)) t9) (gA g)) 0 0 (gA g) := by
  refine mw_of (by decide) (Nat.le_of_ble_eq_true rfl) ?_
  intro p e s m below meth c ls hx hb hr hml hlk hown ht hex F hP hD hl
  have hl : lv_has ls 5 [(0, .ref (ad 0)), (1, .int (nI a)), (2, .int (nI b)), (3, .ref oa)] := hl
  have hS : va_S (gA g) s.heap s.heap [] := va_S.rf
  refine lv_aload_n hx hb d_LW_equal_0 rfl (lv_at hl 3 rfl) ?_
  refine lv_iconst (v := nI 0) hx hb d_LW_equal_1 (by decide) ?_
  refine lv_aload_n hx hb d_LW_equal_2 rfl (lv_at hl 0 rfl) ?_
  refine lv_iload_n hx hb d_LW_equal_3 rfl (lv_at hl 1 rfl) ?_
  refine lv_iload_n hx hb d_LW_equal_4 rfl (lv_at hl 2 rfl) ?_
  refine pc_Vi (q0 := 0) (As := [.int (nI a), .int (nI b)]) (rest := [.int (nI 0), .ref oa]) hx hb (hml.trans hl.1.symm) hown ht F hP hD hS (c_SG_equal l g ad rg hd od tx ty sm pa pr fl op du qa ab ac qb be bc wd ((oa, aJ g 1 ou) :: X) a b h1 h2 h5 h6) v_SG_equal tw_367 ⟨rfl, rfl⟩ ⟨by decide, by decide⟩ rfl rfl rfl rfl (Nat.le_of_ble_eq_true rfl) ⟨Nat.zero_le _, Nat.zero_le _⟩ d_LW_equal_5 (fun r9 u9 H locs hq hP hD hS => ?_)
  subst hq
  refine lv_if_eq (tgt := 15) hx hb d_LW_equal_8 (by decide) (fun c8 => ?_) (fun c8 => ?_)
  · refine lv_lconst (v := 0) hx hb d_LW_equal_15 (by decide) ?_
    refine wa_J hx hb F hP hD hS 15 rfl (by omega) (by decide) d_LW_equal_16 (fun H locs hP hD hS => ?_)
    have hP : va_P g.1 cl (CW g ad rg hd od tx ty sm pa pr fl op du qa ab ac qb be bc wd ++ ((oa, aJ g 1 (vp_updL ou 0 0)) :: X)) H := hP
    have hD : va_D (gA g) (CW g ad rg hd od tx ty sm pa pr fl op du qa ab ac qb be bc wd ++ ((oa, aJ g 1 (vp_updL ou 0 0)) :: X)) := hD
    refine lv_goto (tgt := 28) hx hb d_LW_equal_17 (by decide) ?_
    refine lv_iconst (v := nI 0) hx hb d_LW_equal_28 (by decide) ?_
    have hP : va_P g.1 cl (CW g ad rg hd od tx ty sm pa pr fl op du qa ab ac qb be bc wd ++ ((oa, aJ g 1 (vp_updL ou 0 (if (bI (rg a = rg b)) = 0 then 0 else 1))) :: X)) H := by rw [if_pos c8]; exact hP
    have hD : va_D (gA g) (CW g ad rg hd od tx ty sm pa pr fl op du qa ab ac qb be bc wd ++ ((oa, aJ g 1 (vp_updL ou 0 (if (bI (rg a = rg b)) = 0 then 0 else 1))) :: X)) := by rw [if_pos c8]; exact hD
    exact W.iret (v := nI 0) hx hb hr (fun t9 e1 hW => ⟨⟨_, (), rfl, rfl, PR.at F hP hD hS e1 hW.alike⟩, hS.F e1⟩) hS.2.2 d_LW_equal_29
  · refine lv_lconst (v := 1) hx hb d_LW_equal_11 (by decide) ?_
    refine lv_goto (tgt := 16) hx hb d_LW_equal_12 (by decide) ?_
    refine wa_J hx hb F hP hD hS 15 rfl (by omega) (by decide) d_LW_equal_16 (fun H locs hP hD hS => ?_)
    have hP : va_P g.1 cl (CW g ad rg hd od tx ty sm pa pr fl op du qa ab ac qb be bc wd ++ ((oa, aJ g 1 (vp_updL ou 0 1)) :: X)) H := hP
    have hD : va_D (gA g) (CW g ad rg hd od tx ty sm pa pr fl op du qa ab ac qb be bc wd ++ ((oa, aJ g 1 (vp_updL ou 0 1)) :: X)) := hD
    refine lv_goto (tgt := 28) hx hb d_LW_equal_17 (by decide) ?_
    refine lv_iconst (v := nI 0) hx hb d_LW_equal_28 (by decide) ?_
    have hP : va_P g.1 cl (CW g ad rg hd od tx ty sm pa pr fl op du qa ab ac qb be bc wd ++ ((oa, aJ g 1 (vp_updL ou 0 (if (bI (rg a = rg b)) = 0 then 0 else 1))) :: X)) H := by rw [if_neg c8]; exact hP
    have hD : va_D (gA g) (CW g ad rg hd od tx ty sm pa pr fl op du qa ab ac qb be bc wd ++ ((oa, aJ g 1 (vp_updL ou 0 (if (bI (rg a = rg b)) = 0 then 0 else 1))) :: X)) := by rw [if_neg c8]; exact hD
    exact W.iret (v := nI 0) hx hb hr (fun t9 e1 hW => ⟨⟨_, (), rfl, rfl, PR.at F hP hD hS e1 hW.alike⟩, hS.F e1⟩) hS.2.2 d_LW_equal_29
set_option maxRecDepth 100000 in
set_option maxHeartbeats 4000000 in
theorem c1_LW_equal (l : Launch) (hl0 : l.stackTraces = false) (g : Gx) (ad : Nat → Nat) (oa : Nat) (rg : Nat → Int64) (hd : Nat → Int32) (od : Nat → Int32) (tx : Nat → Int32) (ty : Int32) (sm : Nat → Int64) (pa : Nat → Int64) (pr : Nat → Int64) (fl : Nat → Int64) (op : Int32) (du : Int32) (qa : Nat) (ab : Nat → Int64) (ac : Int32) (qb : Nat) (be : Nat → Int64) (bc : Int32) (wd : Nat → Int32) (ou : Nat → Int64) (X : va_W) (a b : Int32) (hbad : ¬ (inR a 8 ∧ inR b 8)) : Met l y_LW_equal (w_LW_equal :: TW) rx_LW_equal (va_Pc [.ref (ad 0), .int a, .int b, .ref oa] (PR g (CW g ad rg hd od tx ty sm pa pr fl op du qa ab ac qb be bc wd ++ ((oa, aJ g 1 ou) :: X)))) (va_Qi (fun r9 (u9 : Unit) => r9 = nI 1) (fun u9 t9 => PR g (CW g ad rg hd od tx ty sm pa pr fl op du qa ab ac qb be bc wd ++ ((oa, aJ g 1 ou) :: X)) t9) (gA g)) 1 6 (gA g) := by
  refine mw_of (by decide) (Nat.le_of_ble_eq_true rfl) ?_
  intro p e s m below meth c ls hx hb hr hml hlk hown ht hex F hP hD hl
  have hl : lv_has ls 5 [(0, .ref (ad 0)), (1, .int a), (2, .int b), (3, .ref oa)] := hl
  have hS : va_S (gA g) s.heap s.heap [] := va_S.rf
  refine lv_aload_n hx hb d_LW_equal_0 rfl (lv_at hl 3 rfl) ?_
  refine lv_iconst (v := nI 0) hx hb d_LW_equal_1 (by decide) ?_
  refine lv_aload_n hx hb d_LW_equal_2 rfl (lv_at hl 0 rfl) ?_
  refine lv_iload_n hx hb d_LW_equal_3 rfl (lv_at hl 1 rfl) ?_
  refine lv_iload_n hx hb d_LW_equal_4 rfl (lv_at hl 2 rfl) ?_
  refine xc_V (q0 := 0) (As := [.int a, .int b]) (rest := [.int (nI 0), .ref oa]) hx hb (hml.trans hl.1.symm) hown ht F hP hD hS (x1_SG_equal l hl0 g ad rg hd od tx ty sm pa pr fl op du qa ab ac qb be bc wd ((oa, aJ g 1 ou) :: X) a b hbad) v_SG_equal tw_367 ⟨rfl, rfl⟩ ⟨by decide, by decide⟩ rfl rfl rfl rfl (Nat.le_of_ble_eq_true rfl) ⟨by decide, by decide⟩ d_LW_equal_5 (fun ce q9 H locs hP hD hS z1 z2 z3 => ?_)
  refine vx_catch hown [] ⟨0, 17, 20, 13⟩ [⟨0, 17, 24, 19⟩] (hex.trans rfl) (fun _ h => absurd h List.not_mem_nil) (by decide) (by decide) (ht _ tw_156) (ng_IAE F) z1 z2 z3 ?_
  have hP : va_P g.1 cl (CW g ad rg hd od tx ty sm pa pr fl op du qa ab ac qb be bc wd ++ ((oa, aJ g 1 ou) :: X)) H := hP
  have hD : va_D (gA g) (CW g ad rg hd od tx ty sm pa pr fl op du qa ab ac qb be bc wd ++ ((oa, aJ g 1 ou) :: X)) := hD
  refine lv_astore (lv' := [(4, .ref q9), (0, .ref (ad 0)), (1, .int a), (2, .int b), (3, .ref oa)]) hx hb d_LW_equal_20 hl (by decide) rfl (fun ls hl => ?_)
  refine lv_iconst (v := nI 1) hx hb d_LW_equal_22 (by decide) ?_
  exact W.iret (v := nI 1) hx hb hr (fun t9 e1 hW => ⟨⟨_, (), rfl, rfl, PR.at F hP hD hS e1 hW.alike⟩, hS.F e1⟩) hS.2.2 d_LW_equal_23
set_option maxRecDepth 100000 in
set_option maxHeartbeats 4000000 in
theorem c2_LW_equal (l : Launch) (hl0 : l.stackTraces = false) (g : Gx) (ad : Nat → Nat) (oa : Nat) (rg : Nat → Int64) (hd : Nat → Int32) (od : Nat → Int32) (tx : Nat → Int32) (ty : Int32) (sm : Nat → Int64) (pa : Nat → Int64) (pr : Nat → Int64) (fl : Nat → Int64) (op : Int32) (du : Int32) (qa : Nat) (ab : Nat → Int64) (ac : Int32) (qb : Nat) (be : Nat → Int64) (bc : Int32) (wd : Nat → Int32) (ou : Nat → Int64) (X : va_W) (a b : Nat) (g0 : a < 8) (g1 : b < 8) (h9 : ∀ i, i < 8 → hd i = 0 ∨ hd i = 1) (hbad : ¬ (hd a = 1 ∧ hd b = 1)) : Met l y_LW_equal (w_LW_equal :: TW) rx_LW_equal (va_Pc [.ref (ad 0), .int (nI a), .int (nI b), .ref oa] (PR g (CW g ad rg hd od tx ty sm pa pr fl op du qa ab ac qb be bc wd ++ ((oa, aJ g 1 ou) :: X)))) (va_Qi (fun r9 (u9 : Unit) => r9 = nI 2) (fun u9 t9 => PR g (CW g ad rg hd od tx ty sm pa pr fl op du qa ab ac qb be bc wd ++ ((oa, aJ g 1 ou) :: X)) t9) (gA g)) 1 6 (gA g) := by
  refine mw_of (by decide) (Nat.le_of_ble_eq_true rfl) ?_
  intro p e s m below meth c ls hx hb hr hml hlk hown ht hex F hP hD hl
  have hl : lv_has ls 5 [(0, .ref (ad 0)), (1, .int (nI a)), (2, .int (nI b)), (3, .ref oa)] := hl
  have hS : va_S (gA g) s.heap s.heap [] := va_S.rf
  refine lv_aload_n hx hb d_LW_equal_0 rfl (lv_at hl 3 rfl) ?_
  refine lv_iconst (v := nI 0) hx hb d_LW_equal_1 (by decide) ?_
  refine lv_aload_n hx hb d_LW_equal_2 rfl (lv_at hl 0 rfl) ?_
  refine lv_iload_n hx hb d_LW_equal_3 rfl (lv_at hl 1 rfl) ?_
  refine lv_iload_n hx hb d_LW_equal_4 rfl (lv_at hl 2 rfl) ?_
  refine xc_V (q0 := 0) (As := [.int (nI a), .int (nI b)]) (rest := [.int (nI 0), .ref oa]) hx hb (hml.trans hl.1.symm) hown ht F hP hD hS (x2_SG_equal l hl0 g ad rg hd od tx ty sm pa pr fl op du qa ab ac qb be bc wd ((oa, aJ g 1 ou) :: X) a b g0 g1 h9 hbad) v_SG_equal tw_367 ⟨rfl, rfl⟩ ⟨by decide, by decide⟩ rfl rfl rfl rfl (Nat.le_of_ble_eq_true rfl) ⟨by decide, by decide⟩ d_LW_equal_5 (fun ce q9 H locs hP hD hS z1 z2 z3 => ?_)
  refine vx_catch hown [⟨0, 17, 20, 13⟩] ⟨0, 17, 24, 19⟩ [] (hex.trans rfl) (List.forall_mem_cons.mpr ⟨Or.inr ⟨by decide, IAE, ht _ tw_156, F.2.2.2.2.2.2.2⟩, fun _ h => absurd h List.not_mem_nil⟩) (by decide) (by decide) (ht _ tw_237) (ng_NSE F) z1 z2 z3 ?_
  have hP : va_P g.1 cl (CW g ad rg hd od tx ty sm pa pr fl op du qa ab ac qb be bc wd ++ ((oa, aJ g 1 ou) :: X)) H := hP
  have hD : va_D (gA g) (CW g ad rg hd od tx ty sm pa pr fl op du qa ab ac qb be bc wd ++ ((oa, aJ g 1 ou) :: X)) := hD
  refine lv_astore (lv' := [(4, .ref q9), (0, .ref (ad 0)), (1, .int (nI a)), (2, .int (nI b)), (3, .ref oa)]) hx hb d_LW_equal_24 hl (by decide) rfl (fun ls hl => ?_)
  refine lv_iconst (v := nI 2) hx hb d_LW_equal_26 (by decide) ?_
  exact W.iret (v := nI 2) hx hb hr (fun t9 e1 hW => ⟨⟨_, (), rfl, rfl, PR.at F hP hD hS e1 hW.alike⟩, hS.F e1⟩) hS.2.2 d_LW_equal_27
set_option maxRecDepth 100000 in
set_option maxHeartbeats 4000000 in
theorem c_LW_value (l : Launch) (g : Gx) (ad : Nat → Nat) (oa : Nat) (rg : Nat → Int64) (hd : Nat → Int32) (od : Nat → Int32) (tx : Nat → Int32) (ty : Int32) (sm : Nat → Int64) (pa : Nat → Int64) (pr : Nat → Int64) (fl : Nat → Int64) (op : Int32) (du : Int32) (qa : Nat) (ab : Nat → Int64) (ac : Int32) (qb : Nat) (be : Nat → Int64) (bc : Int32) (wd : Nat → Int32) (ou : Nat → Int64) (X : va_W) (a k : Nat) (h1 : a < 8) (h2 : k < 64) (h5 : hd a = 1) : Met l y_LW_value (w_LW_value :: TW) rm_LW_value (va_Pc [.ref (ad 0), .int (nI a), .int (nI k), .ref oa] (PR g (CW g ad rg hd od tx ty sm pa pr fl op du qa ab ac qb be bc wd ++ ((oa, aJ g 1 ou) :: X)))) (va_Qi (fun r9 (u9 : Unit) => r9 = nI 0) (fun u9 t9 => PR g (CW g ad rg hd od tx ty sm pa pr fl op du qa ab ac qb be bc wd ++ ((oa, aJ g 1 (vp_updL ou 0 (if (bI (bt (rg a) k = true)) = 0 then 0 else 1))) :: X)) t9) (gA g)) 0 0 (gA g) := by
  refine mw_of (by decide) (Nat.le_of_ble_eq_true rfl) ?_
  intro p e s m below meth c ls hx hb hr hml hlk hown ht hex F hP hD hl
  have hl : lv_has ls 5 [(0, .ref (ad 0)), (1, .int (nI a)), (2, .int (nI k)), (3, .ref oa)] := hl
  have hS : va_S (gA g) s.heap s.heap [] := va_S.rf
  refine lv_aload_n hx hb d_LW_value_0 rfl (lv_at hl 3 rfl) ?_
  refine lv_iconst (v := nI 0) hx hb d_LW_value_1 (by decide) ?_
  refine lv_aload_n hx hb d_LW_value_2 rfl (lv_at hl 0 rfl) ?_
  refine lv_iload_n hx hb d_LW_value_3 rfl (lv_at hl 1 rfl) ?_
  refine lv_iload_n hx hb d_LW_value_4 rfl (lv_at hl 2 rfl) ?_
  refine pc_Vi (q0 := 0) (As := [.int (nI a), .int (nI k)]) (rest := [.int (nI 0), .ref oa]) hx hb (hml.trans hl.1.symm) hown ht F hP hD hS (c_SG_value l g ad rg hd od tx ty sm pa pr fl op du qa ab ac qb be bc wd ((oa, aJ g 1 ou) :: X) a k h1 h2 h5) v_SG_value tw_374 ⟨rfl, rfl⟩ ⟨by decide, by decide⟩ rfl rfl rfl rfl (Nat.le_of_ble_eq_true rfl) ⟨Nat.zero_le _, Nat.zero_le _⟩ d_LW_value_5 (fun r9 u9 H locs hq hP hD hS => ?_)
  subst hq
  refine lv_if_eq (tgt := 15) hx hb d_LW_value_8 (by decide) (fun c8 => ?_) (fun c8 => ?_)
  · refine lv_lconst (v := 0) hx hb d_LW_value_15 (by decide) ?_
    refine wa_J hx hb F hP hD hS 15 rfl (by omega) (by decide) d_LW_value_16 (fun H locs hP hD hS => ?_)
    have hP : va_P g.1 cl (CW g ad rg hd od tx ty sm pa pr fl op du qa ab ac qb be bc wd ++ ((oa, aJ g 1 (vp_updL ou 0 0)) :: X)) H := hP
    have hD : va_D (gA g) (CW g ad rg hd od tx ty sm pa pr fl op du qa ab ac qb be bc wd ++ ((oa, aJ g 1 (vp_updL ou 0 0)) :: X)) := hD
    refine lv_goto (tgt := 28) hx hb d_LW_value_17 (by decide) ?_
    refine lv_iconst (v := nI 0) hx hb d_LW_value_28 (by decide) ?_
    have hP : va_P g.1 cl (CW g ad rg hd od tx ty sm pa pr fl op du qa ab ac qb be bc wd ++ ((oa, aJ g 1 (vp_updL ou 0 (if (bI (bt (rg a) k = true)) = 0 then 0 else 1))) :: X)) H := by rw [if_pos c8]; exact hP
    have hD : va_D (gA g) (CW g ad rg hd od tx ty sm pa pr fl op du qa ab ac qb be bc wd ++ ((oa, aJ g 1 (vp_updL ou 0 (if (bI (bt (rg a) k = true)) = 0 then 0 else 1))) :: X)) := by rw [if_pos c8]; exact hD
    exact W.iret (v := nI 0) hx hb hr (fun t9 e1 hW => ⟨⟨_, (), rfl, rfl, PR.at F hP hD hS e1 hW.alike⟩, hS.F e1⟩) hS.2.2 d_LW_value_29
  · refine lv_lconst (v := 1) hx hb d_LW_value_11 (by decide) ?_
    refine lv_goto (tgt := 16) hx hb d_LW_value_12 (by decide) ?_
    refine wa_J hx hb F hP hD hS 15 rfl (by omega) (by decide) d_LW_value_16 (fun H locs hP hD hS => ?_)
    have hP : va_P g.1 cl (CW g ad rg hd od tx ty sm pa pr fl op du qa ab ac qb be bc wd ++ ((oa, aJ g 1 (vp_updL ou 0 1)) :: X)) H := hP
    have hD : va_D (gA g) (CW g ad rg hd od tx ty sm pa pr fl op du qa ab ac qb be bc wd ++ ((oa, aJ g 1 (vp_updL ou 0 1)) :: X)) := hD
    refine lv_goto (tgt := 28) hx hb d_LW_value_17 (by decide) ?_
    refine lv_iconst (v := nI 0) hx hb d_LW_value_28 (by decide) ?_
    have hP : va_P g.1 cl (CW g ad rg hd od tx ty sm pa pr fl op du qa ab ac qb be bc wd ++ ((oa, aJ g 1 (vp_updL ou 0 (if (bI (bt (rg a) k = true)) = 0 then 0 else 1))) :: X)) H := by rw [if_neg c8]; exact hP
    have hD : va_D (gA g) (CW g ad rg hd od tx ty sm pa pr fl op du qa ab ac qb be bc wd ++ ((oa, aJ g 1 (vp_updL ou 0 (if (bI (bt (rg a) k = true)) = 0 then 0 else 1))) :: X)) := by rw [if_neg c8]; exact hD
    exact W.iret (v := nI 0) hx hb hr (fun t9 e1 hW => ⟨⟨_, (), rfl, rfl, PR.at F hP hD hS e1 hW.alike⟩, hS.F e1⟩) hS.2.2 d_LW_value_29
set_option maxRecDepth 100000 in
set_option maxHeartbeats 4000000 in
theorem c1_LW_value (l : Launch) (hl0 : l.stackTraces = false) (g : Gx) (ad : Nat → Nat) (oa : Nat) (rg : Nat → Int64) (hd : Nat → Int32) (od : Nat → Int32) (tx : Nat → Int32) (ty : Int32) (sm : Nat → Int64) (pa : Nat → Int64) (pr : Nat → Int64) (fl : Nat → Int64) (op : Int32) (du : Int32) (qa : Nat) (ab : Nat → Int64) (ac : Int32) (qb : Nat) (be : Nat → Int64) (bc : Int32) (wd : Nat → Int32) (ou : Nat → Int64) (X : va_W) (a k : Int32) (hbad : ¬ (inR a 8 ∧ inR k 64)) : Met l y_LW_value (w_LW_value :: TW) rx_LW_value (va_Pc [.ref (ad 0), .int a, .int k, .ref oa] (PR g (CW g ad rg hd od tx ty sm pa pr fl op du qa ab ac qb be bc wd ++ ((oa, aJ g 1 ou) :: X)))) (va_Qi (fun r9 (u9 : Unit) => r9 = nI 1) (fun u9 t9 => PR g (CW g ad rg hd od tx ty sm pa pr fl op du qa ab ac qb be bc wd ++ ((oa, aJ g 1 ou) :: X)) t9) (gA g)) 1 6 (gA g) := by
  refine mw_of (by decide) (Nat.le_of_ble_eq_true rfl) ?_
  intro p e s m below meth c ls hx hb hr hml hlk hown ht hex F hP hD hl
  have hl : lv_has ls 5 [(0, .ref (ad 0)), (1, .int a), (2, .int k), (3, .ref oa)] := hl
  have hS : va_S (gA g) s.heap s.heap [] := va_S.rf
  refine lv_aload_n hx hb d_LW_value_0 rfl (lv_at hl 3 rfl) ?_
  refine lv_iconst (v := nI 0) hx hb d_LW_value_1 (by decide) ?_
  refine lv_aload_n hx hb d_LW_value_2 rfl (lv_at hl 0 rfl) ?_
  refine lv_iload_n hx hb d_LW_value_3 rfl (lv_at hl 1 rfl) ?_
  refine lv_iload_n hx hb d_LW_value_4 rfl (lv_at hl 2 rfl) ?_
  refine xc_V (q0 := 0) (As := [.int a, .int k]) (rest := [.int (nI 0), .ref oa]) hx hb (hml.trans hl.1.symm) hown ht F hP hD hS (x1_SG_value l hl0 g ad rg hd od tx ty sm pa pr fl op du qa ab ac qb be bc wd ((oa, aJ g 1 ou) :: X) a k hbad) v_SG_value tw_374 ⟨rfl, rfl⟩ ⟨by decide, by decide⟩ rfl rfl rfl rfl (Nat.le_of_ble_eq_true rfl) ⟨by decide, by decide⟩ d_LW_value_5 (fun ce q9 H locs hP hD hS z1 z2 z3 => ?_)
  refine vx_catch hown [] ⟨0, 17, 20, 13⟩ [⟨0, 17, 24, 19⟩] (hex.trans rfl) (fun _ h => absurd h List.not_mem_nil) (by decide) (by decide) (ht _ tw_156) (ng_IAE F) z1 z2 z3 ?_
  have hP : va_P g.1 cl (CW g ad rg hd od tx ty sm pa pr fl op du qa ab ac qb be bc wd ++ ((oa, aJ g 1 ou) :: X)) H := hP
  have hD : va_D (gA g) (CW g ad rg hd od tx ty sm pa pr fl op du qa ab ac qb be bc wd ++ ((oa, aJ g 1 ou) :: X)) := hD
  refine lv_astore (lv' := [(4, .ref q9), (0, .ref (ad 0)), (1, .int a), (2, .int k), (3, .ref oa)]) hx hb d_LW_value_20 hl (by decide) rfl (fun ls hl => ?_)
  refine lv_iconst (v := nI 1) hx hb d_LW_value_22 (by decide) ?_
  exact W.iret (v := nI 1) hx hb hr (fun t9 e1 hW => ⟨⟨_, (), rfl, rfl, PR.at F hP hD hS e1 hW.alike⟩, hS.F e1⟩) hS.2.2 d_LW_value_23
set_option maxRecDepth 100000 in
set_option maxHeartbeats 4000000 in
theorem c2_LW_value (l : Launch) (hl0 : l.stackTraces = false) (g : Gx) (ad : Nat → Nat) (oa : Nat) (rg : Nat → Int64) (hd : Nat → Int32) (od : Nat → Int32) (tx : Nat → Int32) (ty : Int32) (sm : Nat → Int64) (pa : Nat → Int64) (pr : Nat → Int64) (fl : Nat → Int64) (op : Int32) (du : Int32) (qa : Nat) (ab : Nat → Int64) (ac : Int32) (qb : Nat) (be : Nat → Int64) (bc : Int32) (wd : Nat → Int32) (ou : Nat → Int64) (X : va_W) (a k : Nat) (g0 : a < 8) (g1 : k < 64) (h9 : ∀ i, i < 8 → hd i = 0 ∨ hd i = 1) (hbad : ¬ (hd a = 1)) : Met l y_LW_value (w_LW_value :: TW) rx_LW_value (va_Pc [.ref (ad 0), .int (nI a), .int (nI k), .ref oa] (PR g (CW g ad rg hd od tx ty sm pa pr fl op du qa ab ac qb be bc wd ++ ((oa, aJ g 1 ou) :: X)))) (va_Qi (fun r9 (u9 : Unit) => r9 = nI 2) (fun u9 t9 => PR g (CW g ad rg hd od tx ty sm pa pr fl op du qa ab ac qb be bc wd ++ ((oa, aJ g 1 ou) :: X)) t9) (gA g)) 1 6 (gA g) := by
  refine mw_of (by decide) (Nat.le_of_ble_eq_true rfl) ?_
  intro p e s m below meth c ls hx hb hr hml hlk hown ht hex F hP hD hl
  have hl : lv_has ls 5 [(0, .ref (ad 0)), (1, .int (nI a)), (2, .int (nI k)), (3, .ref oa)] := hl
  have hS : va_S (gA g) s.heap s.heap [] := va_S.rf
  refine lv_aload_n hx hb d_LW_value_0 rfl (lv_at hl 3 rfl) ?_
  refine lv_iconst (v := nI 0) hx hb d_LW_value_1 (by decide) ?_
  refine lv_aload_n hx hb d_LW_value_2 rfl (lv_at hl 0 rfl) ?_
  refine lv_iload_n hx hb d_LW_value_3 rfl (lv_at hl 1 rfl) ?_
  refine lv_iload_n hx hb d_LW_value_4 rfl (lv_at hl 2 rfl) ?_
  refine xc_V (q0 := 0) (As := [.int (nI a), .int (nI k)]) (rest := [.int (nI 0), .ref oa]) hx hb (hml.trans hl.1.symm) hown ht F hP hD hS (x2_SG_value l hl0 g ad rg hd od tx ty sm pa pr fl op du qa ab ac qb be bc wd ((oa, aJ g 1 ou) :: X) a k g0 g1 h9 hbad) v_SG_value tw_374 ⟨rfl, rfl⟩ ⟨by decide, by decide⟩ rfl rfl rfl rfl (Nat.le_of_ble_eq_true rfl) ⟨by decide, by decide⟩ d_LW_value_5 (fun ce q9 H locs hP hD hS z1 z2 z3 => ?_)
  refine vx_catch hown [⟨0, 17, 20, 13⟩] ⟨0, 17, 24, 19⟩ [] (hex.trans rfl) (List.forall_mem_cons.mpr ⟨Or.inr ⟨by decide, IAE, ht _ tw_156, F.2.2.2.2.2.2.2⟩, fun _ h => absurd h List.not_mem_nil⟩) (by decide) (by decide) (ht _ tw_237) (ng_NSE F) z1 z2 z3 ?_
  have hP : va_P g.1 cl (CW g ad rg hd od tx ty sm pa pr fl op du qa ab ac qb be bc wd ++ ((oa, aJ g 1 ou) :: X)) H := hP
  have hD : va_D (gA g) (CW g ad rg hd od tx ty sm pa pr fl op du qa ab ac qb be bc wd ++ ((oa, aJ g 1 ou) :: X)) := hD
  refine lv_astore (lv' := [(4, .ref q9), (0, .ref (ad 0)), (1, .int (nI a)), (2, .int (nI k)), (3, .ref oa)]) hx hb d_LW_value_24 hl (by decide) rfl (fun ls hl => ?_)
  refine lv_iconst (v := nI 2) hx hb d_LW_value_26 (by decide) ?_
  exact W.iret (v := nI 2) hx hb hr (fun t9 e1 hW => ⟨⟨_, (), rfl, rfl, PR.at F hP hD hS e1 hW.alike⟩, hS.F e1⟩) hS.2.2 d_LW_value_27
set_option maxRecDepth 100000 in
set_option maxHeartbeats 4000000 in
theorem c_LW_count (l : Launch) (g : Gx) (ad : Nat → Nat) (oa : Nat) (rg : Nat → Int64) (hd : Nat → Int32) (od : Nat → Int32) (tx : Nat → Int32) (ty : Int32) (sm : Nat → Int64) (pa : Nat → Int64) (pr : Nat → Int64) (fl : Nat → Int64) (op : Int32) (du : Int32) (qa : Nat) (ab : Nat → Int64) (ac : Int32) (qb : Nat) (be : Nat → Int64) (bc : Int32) (wd : Nat → Int32) (ou : Nat → Int64) (X : va_W) (a : Nat) (h1 : a < 8) (h5 : hd a = 1) : Met l y_LW_count (w_LW_count :: TW) rm_LW_count (va_Pc [.ref (ad 0), .int (nI a), .ref oa] (PR g (CW g ad rg hd od tx ty sm pa pr fl op du qa ab ac qb be bc wd ++ ((oa, aJ g 1 ou) :: X)))) (va_Qi (fun r9 (u9 : Unit) => r9 = nI 0) (fun u9 t9 => PR g (CW g ad rg hd od tx ty sm pa pr fl op du qa ab ac qb be bc wd ++ ((oa, aJ g 1 (vp_updL ou 0 ((BC (rg a)).toInt64))) :: X)) t9) (gA g)) 0 0 (gA g) := by
  refine mw_of (by decide) (Nat.le_of_ble_eq_true rfl) ?_
  intro p e s m below meth c ls hx hb hr hml hlk hown ht hex F hP hD hl
  have hl : lv_has ls 4 [(0, .ref (ad 0)), (1, .int (nI a)), (2, .ref oa)] := hl
  have hS : va_S (gA g) s.heap s.heap [] := va_S.rf
  refine lv_aload_n hx hb d_LW_count_0 rfl (lv_at hl 2 rfl) ?_
  refine lv_iconst (v := nI 0) hx hb d_LW_count_1 (by decide) ?_
  refine lv_aload_n hx hb d_LW_count_2 rfl (lv_at hl 0 rfl) ?_
  refine lv_iload_n hx hb d_LW_count_3 rfl (lv_at hl 1 rfl) ?_
  refine pc_Vi (q0 := 0) (As := [.int (nI a)]) (rest := [.int (nI 0), .ref oa]) hx hb (hml.trans hl.1.symm) hown ht F hP hD hS (c_SG_count l g ad rg hd od tx ty sm pa pr fl op du qa ab ac qb be bc wd ((oa, aJ g 1 ou) :: X) a h1 h5) v_SG_count tw_384 ⟨rfl, rfl⟩ ⟨by decide, by decide⟩ rfl rfl rfl rfl (Nat.le_of_ble_eq_true rfl) ⟨Nat.zero_le _, Nat.zero_le _⟩ d_LW_count_4 (fun r9 u9 H locs hq hP hD hS => ?_)
  subst hq
  refine lv_i2l hx hb d_LW_count_7 rfl ?_
  refine wa_J hx hb F hP hD hS 15 rfl (by omega) (by decide) d_LW_count_8 (fun H locs hP hD hS => ?_)
  have hP : va_P g.1 cl (CW g ad rg hd od tx ty sm pa pr fl op du qa ab ac qb be bc wd ++ ((oa, aJ g 1 (vp_updL ou 0 ((BC (rg a)).toInt64))) :: X)) H := hP
  have hD : va_D (gA g) (CW g ad rg hd od tx ty sm pa pr fl op du qa ab ac qb be bc wd ++ ((oa, aJ g 1 (vp_updL ou 0 ((BC (rg a)).toInt64))) :: X)) := hD
  refine lv_goto (tgt := 18) hx hb d_LW_count_9 (by decide) ?_
  refine lv_iconst (v := nI 0) hx hb d_LW_count_18 (by decide) ?_
  exact W.iret (v := nI 0) hx hb hr (fun t9 e1 hW => ⟨⟨_, (), rfl, rfl, PR.at F hP hD hS e1 hW.alike⟩, hS.F e1⟩) hS.2.2 d_LW_count_19
set_option maxRecDepth 100000 in
set_option maxHeartbeats 4000000 in
theorem c1_LW_count (l : Launch) (hl0 : l.stackTraces = false) (g : Gx) (ad : Nat → Nat) (oa : Nat) (rg : Nat → Int64) (hd : Nat → Int32) (od : Nat → Int32) (tx : Nat → Int32) (ty : Int32) (sm : Nat → Int64) (pa : Nat → Int64) (pr : Nat → Int64) (fl : Nat → Int64) (op : Int32) (du : Int32) (qa : Nat) (ab : Nat → Int64) (ac : Int32) (qb : Nat) (be : Nat → Int64) (bc : Int32) (wd : Nat → Int32) (ou : Nat → Int64) (X : va_W) (a : Int32) (hbad : ¬ (inR a 8)) : Met l y_LW_count (w_LW_count :: TW) rx_LW_count (va_Pc [.ref (ad 0), .int a, .ref oa] (PR g (CW g ad rg hd od tx ty sm pa pr fl op du qa ab ac qb be bc wd ++ ((oa, aJ g 1 ou) :: X)))) (va_Qi (fun r9 (u9 : Unit) => r9 = nI 1) (fun u9 t9 => PR g (CW g ad rg hd od tx ty sm pa pr fl op du qa ab ac qb be bc wd ++ ((oa, aJ g 1 ou) :: X)) t9) (gA g)) 1 6 (gA g) := by
  refine mw_of (by decide) (Nat.le_of_ble_eq_true rfl) ?_
  intro p e s m below meth c ls hx hb hr hml hlk hown ht hex F hP hD hl
  have hl : lv_has ls 4 [(0, .ref (ad 0)), (1, .int a), (2, .ref oa)] := hl
  have hS : va_S (gA g) s.heap s.heap [] := va_S.rf
  refine lv_aload_n hx hb d_LW_count_0 rfl (lv_at hl 2 rfl) ?_
  refine lv_iconst (v := nI 0) hx hb d_LW_count_1 (by decide) ?_
  refine lv_aload_n hx hb d_LW_count_2 rfl (lv_at hl 0 rfl) ?_
  refine lv_iload_n hx hb d_LW_count_3 rfl (lv_at hl 1 rfl) ?_
  refine xc_V (q0 := 0) (As := [.int a]) (rest := [.int (nI 0), .ref oa]) hx hb (hml.trans hl.1.symm) hown ht F hP hD hS (x1_SG_count l hl0 g ad rg hd od tx ty sm pa pr fl op du qa ab ac qb be bc wd ((oa, aJ g 1 ou) :: X) a hbad) v_SG_count tw_384 ⟨rfl, rfl⟩ ⟨by decide, by decide⟩ rfl rfl rfl rfl (Nat.le_of_ble_eq_true rfl) ⟨by decide, by decide⟩ d_LW_count_4 (fun ce q9 H locs hP hD hS z1 z2 z3 => ?_)
  refine vx_catch hown [] ⟨0, 9, 12, 13⟩ [⟨0, 9, 15, 19⟩] (hex.trans rfl) (fun _ h => absurd h List.not_mem_nil) (by decide) (by decide) (ht _ tw_156) (ng_IAE F) z1 z2 z3 ?_
  have hP : va_P g.1 cl (CW g ad rg hd od tx ty sm pa pr fl op du qa ab ac qb be bc wd ++ ((oa, aJ g 1 ou) :: X)) H := hP
  have hD : va_D (gA g) (CW g ad rg hd od tx ty sm pa pr fl op du qa ab ac qb be bc wd ++ ((oa, aJ g 1 ou) :: X)) := hD
  refine lv_astore_n (lv' := [(3, .ref q9), (0, .ref (ad 0)), (1, .int a), (2, .ref oa)]) hx hb d_LW_count_12 rfl hl (by decide) rfl (fun ls hl => ?_)
  refine lv_iconst (v := nI 1) hx hb d_LW_count_13 (by decide) ?_
  exact W.iret (v := nI 1) hx hb hr (fun t9 e1 hW => ⟨⟨_, (), rfl, rfl, PR.at F hP hD hS e1 hW.alike⟩, hS.F e1⟩) hS.2.2 d_LW_count_14
set_option maxRecDepth 100000 in
set_option maxHeartbeats 4000000 in
theorem c2_LW_count (l : Launch) (hl0 : l.stackTraces = false) (g : Gx) (ad : Nat → Nat) (oa : Nat) (rg : Nat → Int64) (hd : Nat → Int32) (od : Nat → Int32) (tx : Nat → Int32) (ty : Int32) (sm : Nat → Int64) (pa : Nat → Int64) (pr : Nat → Int64) (fl : Nat → Int64) (op : Int32) (du : Int32) (qa : Nat) (ab : Nat → Int64) (ac : Int32) (qb : Nat) (be : Nat → Int64) (bc : Int32) (wd : Nat → Int32) (ou : Nat → Int64) (X : va_W) (a : Nat) (g0 : a < 8) (h9 : ∀ i, i < 8 → hd i = 0 ∨ hd i = 1) (hbad : ¬ (hd a = 1)) : Met l y_LW_count (w_LW_count :: TW) rx_LW_count (va_Pc [.ref (ad 0), .int (nI a), .ref oa] (PR g (CW g ad rg hd od tx ty sm pa pr fl op du qa ab ac qb be bc wd ++ ((oa, aJ g 1 ou) :: X)))) (va_Qi (fun r9 (u9 : Unit) => r9 = nI 2) (fun u9 t9 => PR g (CW g ad rg hd od tx ty sm pa pr fl op du qa ab ac qb be bc wd ++ ((oa, aJ g 1 ou) :: X)) t9) (gA g)) 1 6 (gA g) := by
  refine mw_of (by decide) (Nat.le_of_ble_eq_true rfl) ?_
  intro p e s m below meth c ls hx hb hr hml hlk hown ht hex F hP hD hl
  have hl : lv_has ls 4 [(0, .ref (ad 0)), (1, .int (nI a)), (2, .ref oa)] := hl
  have hS : va_S (gA g) s.heap s.heap [] := va_S.rf
  refine lv_aload_n hx hb d_LW_count_0 rfl (lv_at hl 2 rfl) ?_
  refine lv_iconst (v := nI 0) hx hb d_LW_count_1 (by decide) ?_
  refine lv_aload_n hx hb d_LW_count_2 rfl (lv_at hl 0 rfl) ?_
  refine lv_iload_n hx hb d_LW_count_3 rfl (lv_at hl 1 rfl) ?_
  refine xc_V (q0 := 0) (As := [.int (nI a)]) (rest := [.int (nI 0), .ref oa]) hx hb (hml.trans hl.1.symm) hown ht F hP hD hS (x2_SG_count l hl0 g ad rg hd od tx ty sm pa pr fl op du qa ab ac qb be bc wd ((oa, aJ g 1 ou) :: X) a g0 h9 hbad) v_SG_count tw_384 ⟨rfl, rfl⟩ ⟨by decide, by decide⟩ rfl rfl rfl rfl (Nat.le_of_ble_eq_true rfl) ⟨by decide, by decide⟩ d_LW_count_4 (fun ce q9 H locs hP hD hS z1 z2 z3 => ?_)
  refine vx_catch hown [⟨0, 9, 12, 13⟩] ⟨0, 9, 15, 19⟩ [] (hex.trans rfl) (List.forall_mem_cons.mpr ⟨Or.inr ⟨by decide, IAE, ht _ tw_156, F.2.2.2.2.2.2.2⟩, fun _ h => absurd h List.not_mem_nil⟩) (by decide) (by decide) (ht _ tw_237) (ng_NSE F) z1 z2 z3 ?_
  have hP : va_P g.1 cl (CW g ad rg hd od tx ty sm pa pr fl op du qa ab ac qb be bc wd ++ ((oa, aJ g 1 ou) :: X)) H := hP
  have hD : va_D (gA g) (CW g ad rg hd od tx ty sm pa pr fl op du qa ab ac qb be bc wd ++ ((oa, aJ g 1 ou) :: X)) := hD
  refine lv_astore_n (lv' := [(3, .ref q9), (0, .ref (ad 0)), (1, .int (nI a)), (2, .ref oa)]) hx hb d_LW_count_15 rfl hl (by decide) rfl (fun ls hl => ?_)
  refine lv_iconst (v := nI 2) hx hb d_LW_count_16 (by decide) ?_
  exact W.iret (v := nI 2) hx hb hr (fun t9 e1 hW => ⟨⟨_, (), rfl, rfl, PR.at F hP hD hS e1 hW.alike⟩, hS.F e1⟩) hS.2.2 d_LW_count_17
set_option maxRecDepth 100000 in
set_option maxHeartbeats 4000000 in
theorem c_LW_least (l : Launch) (g : Gx) (ad : Nat → Nat) (oa : Nat) (rg : Nat → Int64) (hd : Nat → Int32) (od : Nat → Int32) (tx : Nat → Int32) (ty : Int32) (sm : Nat → Int64) (pa : Nat → Int64) (pr : Nat → Int64) (fl : Nat → Int64) (op : Int32) (du : Int32) (qa : Nat) (ab : Nat → Int64) (ac : Int32) (qb : Nat) (be : Nat → Int64) (bc : Int32) (wd : Nat → Int32) (ou : Nat → Int64) (X : va_W) (a : Nat) (h1 : a < 8) (h5 : hd a = 1) : Met l y_LW_least (w_LW_least :: TW) rm_LW_least (va_Pc [.ref (ad 0), .int (nI a), .ref oa] (PR g (CW g ad rg hd od tx ty sm pa pr fl op du qa ab ac qb be bc wd ++ ((oa, aJ g 1 ou) :: X)))) (va_Qi (fun r9 (u9 : Unit) => r9 = nI 0) (fun u9 t9 => PR g (CW g ad rg hd od tx ty sm pa pr fl op du qa ab ac qb be bc wd ++ ((oa, aJ g 1 (vp_updL ou 0 ((lsF (rg a) 0 64).toInt64))) :: X)) t9) (gA g)) 0 0 (gA g) := by
  refine mw_of (by decide) (Nat.le_of_ble_eq_true rfl) ?_
  intro p e s m below meth c ls hx hb hr hml hlk hown ht hex F hP hD hl
  have hl : lv_has ls 4 [(0, .ref (ad 0)), (1, .int (nI a)), (2, .ref oa)] := hl
  have hS : va_S (gA g) s.heap s.heap [] := va_S.rf
  refine lv_aload_n hx hb d_LW_least_0 rfl (lv_at hl 2 rfl) ?_
  refine lv_iconst (v := nI 0) hx hb d_LW_least_1 (by decide) ?_
  refine lv_aload_n hx hb d_LW_least_2 rfl (lv_at hl 0 rfl) ?_
  refine lv_iload_n hx hb d_LW_least_3 rfl (lv_at hl 1 rfl) ?_
  refine pc_Vi (q0 := 0) (As := [.int (nI a)]) (rest := [.int (nI 0), .ref oa]) hx hb (hml.trans hl.1.symm) hown ht F hP hD hS (c_SG_least l g ad rg hd od tx ty sm pa pr fl op du qa ab ac qb be bc wd ((oa, aJ g 1 ou) :: X) a h1 h5) v_SG_least tw_397 ⟨rfl, rfl⟩ ⟨by decide, by decide⟩ rfl rfl rfl rfl (Nat.le_of_ble_eq_true rfl) ⟨Nat.zero_le _, Nat.zero_le _⟩ d_LW_least_4 (fun r9 u9 H locs hq hP hD hS => ?_)
  subst hq
  refine lv_i2l hx hb d_LW_least_7 rfl ?_
  refine wa_J hx hb F hP hD hS 15 rfl (by omega) (by decide) d_LW_least_8 (fun H locs hP hD hS => ?_)
  have hP : va_P g.1 cl (CW g ad rg hd od tx ty sm pa pr fl op du qa ab ac qb be bc wd ++ ((oa, aJ g 1 (vp_updL ou 0 ((lsF (rg a) 0 64).toInt64))) :: X)) H := hP
  have hD : va_D (gA g) (CW g ad rg hd od tx ty sm pa pr fl op du qa ab ac qb be bc wd ++ ((oa, aJ g 1 (vp_updL ou 0 ((lsF (rg a) 0 64).toInt64))) :: X)) := hD
  refine lv_goto (tgt := 18) hx hb d_LW_least_9 (by decide) ?_
  refine lv_iconst (v := nI 0) hx hb d_LW_least_18 (by decide) ?_
  exact W.iret (v := nI 0) hx hb hr (fun t9 e1 hW => ⟨⟨_, (), rfl, rfl, PR.at F hP hD hS e1 hW.alike⟩, hS.F e1⟩) hS.2.2 d_LW_least_19
set_option maxRecDepth 100000 in
set_option maxHeartbeats 4000000 in
theorem c1_LW_least (l : Launch) (hl0 : l.stackTraces = false) (g : Gx) (ad : Nat → Nat) (oa : Nat) (rg : Nat → Int64) (hd : Nat → Int32) (od : Nat → Int32) (tx : Nat → Int32) (ty : Int32) (sm : Nat → Int64) (pa : Nat → Int64) (pr : Nat → Int64) (fl : Nat → Int64) (op : Int32) (du : Int32) (qa : Nat) (ab : Nat → Int64) (ac : Int32) (qb : Nat) (be : Nat → Int64) (bc : Int32) (wd : Nat → Int32) (ou : Nat → Int64) (X : va_W) (a : Int32) (hbad : ¬ (inR a 8)) : Met l y_LW_least (w_LW_least :: TW) rx_LW_least (va_Pc [.ref (ad 0), .int a, .ref oa] (PR g (CW g ad rg hd od tx ty sm pa pr fl op du qa ab ac qb be bc wd ++ ((oa, aJ g 1 ou) :: X)))) (va_Qi (fun r9 (u9 : Unit) => r9 = nI 1) (fun u9 t9 => PR g (CW g ad rg hd od tx ty sm pa pr fl op du qa ab ac qb be bc wd ++ ((oa, aJ g 1 ou) :: X)) t9) (gA g)) 1 6 (gA g) := by
  refine mw_of (by decide) (Nat.le_of_ble_eq_true rfl) ?_
  intro p e s m below meth c ls hx hb hr hml hlk hown ht hex F hP hD hl
  have hl : lv_has ls 4 [(0, .ref (ad 0)), (1, .int a), (2, .ref oa)] := hl
  have hS : va_S (gA g) s.heap s.heap [] := va_S.rf
  refine lv_aload_n hx hb d_LW_least_0 rfl (lv_at hl 2 rfl) ?_
  refine lv_iconst (v := nI 0) hx hb d_LW_least_1 (by decide) ?_
  refine lv_aload_n hx hb d_LW_least_2 rfl (lv_at hl 0 rfl) ?_
  refine lv_iload_n hx hb d_LW_least_3 rfl (lv_at hl 1 rfl) ?_
  refine xc_V (q0 := 0) (As := [.int a]) (rest := [.int (nI 0), .ref oa]) hx hb (hml.trans hl.1.symm) hown ht F hP hD hS (x1_SG_least l hl0 g ad rg hd od tx ty sm pa pr fl op du qa ab ac qb be bc wd ((oa, aJ g 1 ou) :: X) a hbad) v_SG_least tw_397 ⟨rfl, rfl⟩ ⟨by decide, by decide⟩ rfl rfl rfl rfl (Nat.le_of_ble_eq_true rfl) ⟨by decide, by decide⟩ d_LW_least_4 (fun ce q9 H locs hP hD hS z1 z2 z3 => ?_)
  refine vx_catch hown [] ⟨0, 9, 12, 13⟩ [⟨0, 9, 15, 19⟩] (hex.trans rfl) (fun _ h => absurd h List.not_mem_nil) (by decide) (by decide) (ht _ tw_156) (ng_IAE F) z1 z2 z3 ?_
  have hP : va_P g.1 cl (CW g ad rg hd od tx ty sm pa pr fl op du qa ab ac qb be bc wd ++ ((oa, aJ g 1 ou) :: X)) H := hP
  have hD : va_D (gA g) (CW g ad rg hd od tx ty sm pa pr fl op du qa ab ac qb be bc wd ++ ((oa, aJ g 1 ou) :: X)) := hD
  refine lv_astore_n (lv' := [(3, .ref q9), (0, .ref (ad 0)), (1, .int a), (2, .ref oa)]) hx hb d_LW_least_12 rfl hl (by decide) rfl (fun ls hl => ?_)
  refine lv_iconst (v := nI 1) hx hb d_LW_least_13 (by decide) ?_
  exact W.iret (v := nI 1) hx hb hr (fun t9 e1 hW => ⟨⟨_, (), rfl, rfl, PR.at F hP hD hS e1 hW.alike⟩, hS.F e1⟩) hS.2.2 d_LW_least_14
set_option maxRecDepth 100000 in
set_option maxHeartbeats 4000000 in
theorem c2_LW_least (l : Launch) (hl0 : l.stackTraces = false) (g : Gx) (ad : Nat → Nat) (oa : Nat) (rg : Nat → Int64) (hd : Nat → Int32) (od : Nat → Int32) (tx : Nat → Int32) (ty : Int32) (sm : Nat → Int64) (pa : Nat → Int64) (pr : Nat → Int64) (fl : Nat → Int64) (op : Int32) (du : Int32) (qa : Nat) (ab : Nat → Int64) (ac : Int32) (qb : Nat) (be : Nat → Int64) (bc : Int32) (wd : Nat → Int32) (ou : Nat → Int64) (X : va_W) (a : Nat) (g0 : a < 8) (h9 : ∀ i, i < 8 → hd i = 0 ∨ hd i = 1) (hbad : ¬ (hd a = 1)) : Met l y_LW_least (w_LW_least :: TW) rx_LW_least (va_Pc [.ref (ad 0), .int (nI a), .ref oa] (PR g (CW g ad rg hd od tx ty sm pa pr fl op du qa ab ac qb be bc wd ++ ((oa, aJ g 1 ou) :: X)))) (va_Qi (fun r9 (u9 : Unit) => r9 = nI 2) (fun u9 t9 => PR g (CW g ad rg hd od tx ty sm pa pr fl op du qa ab ac qb be bc wd ++ ((oa, aJ g 1 ou) :: X)) t9) (gA g)) 1 6 (gA g) := by
  refine mw_of (by decide) (Nat.le_of_ble_eq_true rfl) ?_
  intro p e s m below meth c ls hx hb hr hml hlk hown ht hex F hP hD hl
  have hl : lv_has ls 4 [(0, .ref (ad 0)), (1, .int (nI a)), (2, .ref oa)] := hl
  have hS : va_S (gA g) s.heap s.heap [] := va_S.rf
  refine lv_aload_n hx hb d_LW_least_0 rfl (lv_at hl 2 rfl) ?_
  refine lv_iconst (v := nI 0) hx hb d_LW_least_1 (by decide) ?_
  refine lv_aload_n hx hb d_LW_least_2 rfl (lv_at hl 0 rfl) ?_
  refine lv_iload_n hx hb d_LW_least_3 rfl (lv_at hl 1 rfl) ?_
  refine xc_V (q0 := 0) (As := [.int (nI a)]) (rest := [.int (nI 0), .ref oa]) hx hb (hml.trans hl.1.symm) hown ht F hP hD hS (x2_SG_least l hl0 g ad rg hd od tx ty sm pa pr fl op du qa ab ac qb be bc wd ((oa, aJ g 1 ou) :: X) a g0 h9 hbad) v_SG_least tw_397 ⟨rfl, rfl⟩ ⟨by decide, by decide⟩ rfl rfl rfl rfl (Nat.le_of_ble_eq_true rfl) ⟨by decide, by decide⟩ d_LW_least_4 (fun ce q9 H locs hP hD hS z1 z2 z3 => ?_)
  refine vx_catch hown [⟨0, 9, 12, 13⟩] ⟨0, 9, 15, 19⟩ [] (hex.trans rfl) (List.forall_mem_cons.mpr ⟨Or.inr ⟨by decide, IAE, ht _ tw_156, F.2.2.2.2.2.2.2⟩, fun _ h => absurd h List.not_mem_nil⟩) (by decide) (by decide) (ht _ tw_237) (ng_NSE F) z1 z2 z3 ?_
  have hP : va_P g.1 cl (CW g ad rg hd od tx ty sm pa pr fl op du qa ab ac qb be bc wd ++ ((oa, aJ g 1 ou) :: X)) H := hP
  have hD : va_D (gA g) (CW g ad rg hd od tx ty sm pa pr fl op du qa ab ac qb be bc wd ++ ((oa, aJ g 1 ou) :: X)) := hD
  refine lv_astore_n (lv' := [(3, .ref q9), (0, .ref (ad 0)), (1, .int (nI a)), (2, .ref oa)]) hx hb d_LW_least_15 rfl hl (by decide) rfl (fun ls hl => ?_)
  refine lv_iconst (v := nI 2) hx hb d_LW_least_16 (by decide) ?_
  exact W.iret (v := nI 2) hx hb hr (fun t9 e1 hW => ⟨⟨_, (), rfl, rfl, PR.at F hP hD hS e1 hW.alike⟩, hS.F e1⟩) hS.2.2 d_LW_least_17
set_option maxRecDepth 100000 in
set_option maxHeartbeats 4000000 in
theorem c_LW_support (l : Launch) (g : Gx) (ad : Nat → Nat) (oa : Nat) (rg : Nat → Int64) (hd : Nat → Int32) (od : Nat → Int32) (tx : Nat → Int32) (ty : Int32) (sm : Nat → Int64) (pa : Nat → Int64) (pr : Nat → Int64) (fl : Nat → Int64) (op : Int32) (du : Int32) (qa : Nat) (ab : Nat → Int64) (ac : Int32) (qb : Nat) (be : Nat → Int64) (bc : Int32) (wd : Nat → Int32) (ou : Nat → Int64) (X : va_W) (a : Nat) (h1 : a < 8) (h5 : hd a = 1) : Met l y_LW_support (w_LW_support :: TW) rm_LW_support (va_Pc [.ref (ad 0), .int (nI a), .ref oa] (PR g (CW g ad rg hd od tx ty sm pa pr fl op du qa ab ac qb be bc wd ++ ((oa, aJ g 1 ou) :: X)))) (va_Qi (fun r9 (u9 : Unit) => r9 = nI 0) (fun u9 t9 => PR g (CW g ad rg hd od tx ty sm pa pr fl op du qa ab ac qb be bc wd ++ ((oa, aJ g 1 (vp_updL ou 0 ((spF (rg a) 6).toInt64))) :: X)) t9) (gA g)) 0 0 (gA g) := by
  refine mw_of (by decide) (Nat.le_of_ble_eq_true rfl) ?_
  intro p e s m below meth c ls hx hb hr hml hlk hown ht hex F hP hD hl
  have hl : lv_has ls 4 [(0, .ref (ad 0)), (1, .int (nI a)), (2, .ref oa)] := hl
  have hS : va_S (gA g) s.heap s.heap [] := va_S.rf
  refine lv_aload_n hx hb d_LW_support_0 rfl (lv_at hl 2 rfl) ?_
  refine lv_iconst (v := nI 0) hx hb d_LW_support_1 (by decide) ?_
  refine lv_aload_n hx hb d_LW_support_2 rfl (lv_at hl 0 rfl) ?_
  refine lv_iload_n hx hb d_LW_support_3 rfl (lv_at hl 1 rfl) ?_
  refine pc_Vi (q0 := 0) (As := [.int (nI a)]) (rest := [.int (nI 0), .ref oa]) hx hb (hml.trans hl.1.symm) hown ht F hP hD hS (c_SG_support l g ad rg hd od tx ty sm pa pr fl op du qa ab ac qb be bc wd ((oa, aJ g 1 ou) :: X) a h1 h5) v_SG_support tw_404 ⟨rfl, rfl⟩ ⟨by decide, by decide⟩ rfl rfl rfl rfl (Nat.le_of_ble_eq_true rfl) ⟨Nat.zero_le _, Nat.zero_le _⟩ d_LW_support_4 (fun r9 u9 H locs hq hP hD hS => ?_)
  subst hq
  refine lv_i2l hx hb d_LW_support_7 rfl ?_
  refine wa_J hx hb F hP hD hS 15 rfl (by omega) (by decide) d_LW_support_8 (fun H locs hP hD hS => ?_)
  have hP : va_P g.1 cl (CW g ad rg hd od tx ty sm pa pr fl op du qa ab ac qb be bc wd ++ ((oa, aJ g 1 (vp_updL ou 0 ((spF (rg a) 6).toInt64))) :: X)) H := hP
  have hD : va_D (gA g) (CW g ad rg hd od tx ty sm pa pr fl op du qa ab ac qb be bc wd ++ ((oa, aJ g 1 (vp_updL ou 0 ((spF (rg a) 6).toInt64))) :: X)) := hD
  refine lv_goto (tgt := 18) hx hb d_LW_support_9 (by decide) ?_
  refine lv_iconst (v := nI 0) hx hb d_LW_support_18 (by decide) ?_
  exact W.iret (v := nI 0) hx hb hr (fun t9 e1 hW => ⟨⟨_, (), rfl, rfl, PR.at F hP hD hS e1 hW.alike⟩, hS.F e1⟩) hS.2.2 d_LW_support_19
set_option maxRecDepth 100000 in
set_option maxHeartbeats 4000000 in
theorem c1_LW_support (l : Launch) (hl0 : l.stackTraces = false) (g : Gx) (ad : Nat → Nat) (oa : Nat) (rg : Nat → Int64) (hd : Nat → Int32) (od : Nat → Int32) (tx : Nat → Int32) (ty : Int32) (sm : Nat → Int64) (pa : Nat → Int64) (pr : Nat → Int64) (fl : Nat → Int64) (op : Int32) (du : Int32) (qa : Nat) (ab : Nat → Int64) (ac : Int32) (qb : Nat) (be : Nat → Int64) (bc : Int32) (wd : Nat → Int32) (ou : Nat → Int64) (X : va_W) (a : Int32) (hbad : ¬ (inR a 8)) : Met l y_LW_support (w_LW_support :: TW) rx_LW_support (va_Pc [.ref (ad 0), .int a, .ref oa] (PR g (CW g ad rg hd od tx ty sm pa pr fl op du qa ab ac qb be bc wd ++ ((oa, aJ g 1 ou) :: X)))) (va_Qi (fun r9 (u9 : Unit) => r9 = nI 1) (fun u9 t9 => PR g (CW g ad rg hd od tx ty sm pa pr fl op du qa ab ac qb be bc wd ++ ((oa, aJ g 1 ou) :: X)) t9) (gA g)) 1 6 (gA g) := by
  refine mw_of (by decide) (Nat.le_of_ble_eq_true rfl) ?_
  intro p e s m below meth c ls hx hb hr hml hlk hown ht hex F hP hD hl
  have hl : lv_has ls 4 [(0, .ref (ad 0)), (1, .int a), (2, .ref oa)] := hl
  have hS : va_S (gA g) s.heap s.heap [] := va_S.rf
  refine lv_aload_n hx hb d_LW_support_0 rfl (lv_at hl 2 rfl) ?_
  refine lv_iconst (v := nI 0) hx hb d_LW_support_1 (by decide) ?_
  refine lv_aload_n hx hb d_LW_support_2 rfl (lv_at hl 0 rfl) ?_
  refine lv_iload_n hx hb d_LW_support_3 rfl (lv_at hl 1 rfl) ?_
  refine xc_V (q0 := 0) (As := [.int a]) (rest := [.int (nI 0), .ref oa]) hx hb (hml.trans hl.1.symm) hown ht F hP hD hS (x1_SG_support l hl0 g ad rg hd od tx ty sm pa pr fl op du qa ab ac qb be bc wd ((oa, aJ g 1 ou) :: X) a hbad) v_SG_support tw_404 ⟨rfl, rfl⟩ ⟨by decide, by decide⟩ rfl rfl rfl rfl (Nat.le_of_ble_eq_true rfl) ⟨by decide, by decide⟩ d_LW_support_4 (fun ce q9 H locs hP hD hS z1 z2 z3 => ?_)
  refine vx_catch hown [] ⟨0, 9, 12, 13⟩ [⟨0, 9, 15, 19⟩] (hex.trans rfl) (fun _ h => absurd h List.not_mem_nil) (by decide) (by decide) (ht _ tw_156) (ng_IAE F) z1 z2 z3 ?_
  have hP : va_P g.1 cl (CW g ad rg hd od tx ty sm pa pr fl op du qa ab ac qb be bc wd ++ ((oa, aJ g 1 ou) :: X)) H := hP
  have hD : va_D (gA g) (CW g ad rg hd od tx ty sm pa pr fl op du qa ab ac qb be bc wd ++ ((oa, aJ g 1 ou) :: X)) := hD
  refine lv_astore_n (lv' := [(3, .ref q9), (0, .ref (ad 0)), (1, .int a), (2, .ref oa)]) hx hb d_LW_support_12 rfl hl (by decide) rfl (fun ls hl => ?_)
  refine lv_iconst (v := nI 1) hx hb d_LW_support_13 (by decide) ?_
  exact W.iret (v := nI 1) hx hb hr (fun t9 e1 hW => ⟨⟨_, (), rfl, rfl, PR.at F hP hD hS e1 hW.alike⟩, hS.F e1⟩) hS.2.2 d_LW_support_14
set_option maxRecDepth 100000 in
set_option maxHeartbeats 4000000 in
theorem c2_LW_support (l : Launch) (hl0 : l.stackTraces = false) (g : Gx) (ad : Nat → Nat) (oa : Nat) (rg : Nat → Int64) (hd : Nat → Int32) (od : Nat → Int32) (tx : Nat → Int32) (ty : Int32) (sm : Nat → Int64) (pa : Nat → Int64) (pr : Nat → Int64) (fl : Nat → Int64) (op : Int32) (du : Int32) (qa : Nat) (ab : Nat → Int64) (ac : Int32) (qb : Nat) (be : Nat → Int64) (bc : Int32) (wd : Nat → Int32) (ou : Nat → Int64) (X : va_W) (a : Nat) (g0 : a < 8) (h9 : ∀ i, i < 8 → hd i = 0 ∨ hd i = 1) (hbad : ¬ (hd a = 1)) : Met l y_LW_support (w_LW_support :: TW) rx_LW_support (va_Pc [.ref (ad 0), .int (nI a), .ref oa] (PR g (CW g ad rg hd od tx ty sm pa pr fl op du qa ab ac qb be bc wd ++ ((oa, aJ g 1 ou) :: X)))) (va_Qi (fun r9 (u9 : Unit) => r9 = nI 2) (fun u9 t9 => PR g (CW g ad rg hd od tx ty sm pa pr fl op du qa ab ac qb be bc wd ++ ((oa, aJ g 1 ou) :: X)) t9) (gA g)) 1 6 (gA g) := by
  refine mw_of (by decide) (Nat.le_of_ble_eq_true rfl) ?_
  intro p e s m below meth c ls hx hb hr hml hlk hown ht hex F hP hD hl
  have hl : lv_has ls 4 [(0, .ref (ad 0)), (1, .int (nI a)), (2, .ref oa)] := hl
  have hS : va_S (gA g) s.heap s.heap [] := va_S.rf
  refine lv_aload_n hx hb d_LW_support_0 rfl (lv_at hl 2 rfl) ?_
  refine lv_iconst (v := nI 0) hx hb d_LW_support_1 (by decide) ?_
  refine lv_aload_n hx hb d_LW_support_2 rfl (lv_at hl 0 rfl) ?_
  refine lv_iload_n hx hb d_LW_support_3 rfl (lv_at hl 1 rfl) ?_
  refine xc_V (q0 := 0) (As := [.int (nI a)]) (rest := [.int (nI 0), .ref oa]) hx hb (hml.trans hl.1.symm) hown ht F hP hD hS (x2_SG_support l hl0 g ad rg hd od tx ty sm pa pr fl op du qa ab ac qb be bc wd ((oa, aJ g 1 ou) :: X) a g0 h9 hbad) v_SG_support tw_404 ⟨rfl, rfl⟩ ⟨by decide, by decide⟩ rfl rfl rfl rfl (Nat.le_of_ble_eq_true rfl) ⟨by decide, by decide⟩ d_LW_support_4 (fun ce q9 H locs hP hD hS z1 z2 z3 => ?_)
  refine vx_catch hown [⟨0, 9, 12, 13⟩] ⟨0, 9, 15, 19⟩ [] (hex.trans rfl) (List.forall_mem_cons.mpr ⟨Or.inr ⟨by decide, IAE, ht _ tw_156, F.2.2.2.2.2.2.2⟩, fun _ h => absurd h List.not_mem_nil⟩) (by decide) (by decide) (ht _ tw_237) (ng_NSE F) z1 z2 z3 ?_
  have hP : va_P g.1 cl (CW g ad rg hd od tx ty sm pa pr fl op du qa ab ac qb be bc wd ++ ((oa, aJ g 1 ou) :: X)) H := hP
  have hD : va_D (gA g) (CW g ad rg hd od tx ty sm pa pr fl op du qa ab ac qb be bc wd ++ ((oa, aJ g 1 ou) :: X)) := hD
  refine lv_astore_n (lv' := [(3, .ref q9), (0, .ref (ad 0)), (1, .int (nI a)), (2, .ref oa)]) hx hb d_LW_support_15 rfl hl (by decide) rfl (fun ls hl => ?_)
  refine lv_iconst (v := nI 2) hx hb d_LW_support_16 (by decide) ?_
  exact W.iret (v := nI 2) hx hb hr (fun t9 e1 hW => ⟨⟨_, (), rfl, rfl, PR.at F hP hD hS e1 hW.alike⟩, hS.F e1⟩) hS.2.2 d_LW_support_17
set_option maxRecDepth 100000 in
set_option maxHeartbeats 4000000 in
theorem c_LW_size (l : Launch) (g : Gx) (ad : Nat → Nat) (oa : Nat) (rg : Nat → Int64) (hd : Nat → Int32) (tx : Nat → Int32) (ty : Int32) (sm : Nat → Int64) (pa : Nat → Int64) (pr : Nat → Int64) (fl : Nat → Int64) (op : Int32) (du : Int32) (qa : Nat) (ab : Nat → Int64) (ac : Int32) (qb : Nat) (be : Nat → Int64) (bc : Int32) (wd : Nat → Int32) (ou : Nat → Int64) (X : va_W) (od : Nat → Nat) (a : Nat) (h1 : a < 8) (h5 : hd a = 1) (h8 : ∀ i, i < 6 → od i < 6) : Met l y_LW_size (w_LW_size :: TW) rm_LW_size (va_Pc [.ref (ad 0), .int (nI a), .ref oa] (PR g (CW g ad rg hd (nF od) tx ty sm pa pr fl op du qa ab ac qb be bc wd ++ ((oa, aJ g 1 ou) :: X)))) (va_Qi (fun r9 (u9 : (Nat) × (Nat → Int64) × (Int32) × (Nat) × (Nat → Int64) × (Int32) × (Nat → Int32)) => r9 = nI 0) (fun u9 t9 => PR g (CW g ad rg hd (nF od) tx ty sm pa pr fl op du u9.1 u9.2.1 u9.2.2.1 u9.2.2.2.1 u9.2.2.2.2.1 u9.2.2.2.2.2.1 u9.2.2.2.2.2.2 ++ ((oa, aJ g 1 (vp_updL ou 0 ((nI (toL od (adL [] (rg a)) 6)).toInt64))) :: X)) t9) (gA g)) 0 0 (gA g) := by
  refine mw_of (by decide) (Nat.le_of_ble_eq_true rfl) ?_
  intro p e s m below meth c ls hx hb hr hml hlk hown ht hex F hP hD hl
  have hl : lv_has ls 4 [(0, .ref (ad 0)), (1, .int (nI a)), (2, .ref oa)] := hl
  have hS : va_S (gA g) s.heap s.heap [] := va_S.rf
  refine lv_aload_n hx hb d_LW_size_0 rfl (lv_at hl 2 rfl) ?_
  refine lv_iconst (v := nI 0) hx hb d_LW_size_1 (by decide) ?_
  refine lv_aload_n hx hb d_LW_size_2 rfl (lv_at hl 0 rfl) ?_
  refine lv_iload_n hx hb d_LW_size_3 rfl (lv_at hl 1 rfl) ?_
  refine pc_Vi (q0 := 0) (As := [.int (nI a)]) (rest := [.int (nI 0), .ref oa]) hx hb (hml.trans hl.1.symm) hown ht F hP hD hS (c_SG_size l g ad rg hd tx ty sm pa pr fl op du qa ab ac qb be bc wd ((oa, aJ g 1 ou) :: X) od a h1 h5 h8) v_SG_size tw_416 ⟨rfl, rfl⟩ ⟨by decide, by decide⟩ rfl rfl rfl rfl (Nat.le_of_ble_eq_true rfl) ⟨Nat.zero_le _, Nat.zero_le _⟩ d_LW_size_4 (fun r9 u9 H locs hq hP hD hS => ?_)
  obtain ⟨qa4, ab4, ac4, qb4, be4, bc4, wd4⟩ := u9
  subst hq
  have hP : va_P g.1 cl (CW g ad rg hd (nF od) tx ty sm pa pr fl op du qa4 ab4 ac4 qb4 be4 bc4 wd4 ++ ((oa, aJ g 1 ou) :: X)) H := hP
  have hD : va_D (gA g) (CW g ad rg hd (nF od) tx ty sm pa pr fl op du qa4 ab4 ac4 qb4 be4 bc4 wd4 ++ ((oa, aJ g 1 ou) :: X)) := hD
  refine lv_i2l hx hb d_LW_size_7 rfl ?_
  refine wa_J hx hb F hP hD hS 15 rfl (by omega) (by decide) d_LW_size_8 (fun H locs hP hD hS => ?_)
  have hP : va_P g.1 cl (CW g ad rg hd (nF od) tx ty sm pa pr fl op du qa4 ab4 ac4 qb4 be4 bc4 wd4 ++ ((oa, aJ g 1 (vp_updL ou 0 ((nI (toL od (adL [] (rg a)) 6)).toInt64))) :: X)) H := hP
  have hD : va_D (gA g) (CW g ad rg hd (nF od) tx ty sm pa pr fl op du qa4 ab4 ac4 qb4 be4 bc4 wd4 ++ ((oa, aJ g 1 (vp_updL ou 0 ((nI (toL od (adL [] (rg a)) 6)).toInt64))) :: X)) := hD
  refine lv_goto (tgt := 18) hx hb d_LW_size_9 (by decide) ?_
  refine lv_iconst (v := nI 0) hx hb d_LW_size_18 (by decide) ?_
  exact W.iret (v := nI 0) hx hb hr (fun t9 e1 hW => ⟨⟨_, (qa4, ab4, ac4, qb4, be4, bc4, wd4), rfl, rfl, PR.at F hP hD hS e1 hW.alike⟩, hS.F e1⟩) hS.2.2 d_LW_size_19
set_option maxRecDepth 100000 in
set_option maxHeartbeats 4000000 in
theorem c1_LW_size (l : Launch) (hl0 : l.stackTraces = false) (g : Gx) (ad : Nat → Nat) (oa : Nat) (rg : Nat → Int64) (hd : Nat → Int32) (od : Nat → Int32) (tx : Nat → Int32) (ty : Int32) (sm : Nat → Int64) (pa : Nat → Int64) (pr : Nat → Int64) (fl : Nat → Int64) (op : Int32) (du : Int32) (qa : Nat) (ab : Nat → Int64) (ac : Int32) (qb : Nat) (be : Nat → Int64) (bc : Int32) (wd : Nat → Int32) (ou : Nat → Int64) (X : va_W) (a : Int32) (hbad : ¬ (inR a 8)) : Met l y_LW_size (w_LW_size :: TW) rx_LW_size (va_Pc [.ref (ad 0), .int a, .ref oa] (PR g (CW g ad rg hd od tx ty sm pa pr fl op du qa ab ac qb be bc wd ++ ((oa, aJ g 1 ou) :: X)))) (va_Qi (fun r9 (u9 : Unit) => r9 = nI 1) (fun u9 t9 => PR g (CW g ad rg hd od tx ty sm pa pr fl op du qa ab ac qb be bc wd ++ ((oa, aJ g 1 ou) :: X)) t9) (gA g)) 1 6 (gA g) := by
  refine mw_of (by decide) (Nat.le_of_ble_eq_true rfl) ?_
  intro p e s m below meth c ls hx hb hr hml hlk hown ht hex F hP hD hl
  have hl : lv_has ls 4 [(0, .ref (ad 0)), (1, .int a), (2, .ref oa)] := hl
  have hS : va_S (gA g) s.heap s.heap [] := va_S.rf
  refine lv_aload_n hx hb d_LW_size_0 rfl (lv_at hl 2 rfl) ?_
  refine lv_iconst (v := nI 0) hx hb d_LW_size_1 (by decide) ?_
  refine lv_aload_n hx hb d_LW_size_2 rfl (lv_at hl 0 rfl) ?_
  refine lv_iload_n hx hb d_LW_size_3 rfl (lv_at hl 1 rfl) ?_
  refine xc_V (q0 := 0) (As := [.int a]) (rest := [.int (nI 0), .ref oa]) hx hb (hml.trans hl.1.symm) hown ht F hP hD hS (x1_SG_size l hl0 g ad rg hd od tx ty sm pa pr fl op du qa ab ac qb be bc wd ((oa, aJ g 1 ou) :: X) a hbad) v_SG_size tw_416 ⟨rfl, rfl⟩ ⟨by decide, by decide⟩ rfl rfl rfl rfl (Nat.le_of_ble_eq_true rfl) ⟨by decide, by decide⟩ d_LW_size_4 (fun ce q9 H locs hP hD hS z1 z2 z3 => ?_)
  refine vx_catch hown [] ⟨0, 9, 12, 13⟩ [⟨0, 9, 15, 19⟩] (hex.trans rfl) (fun _ h => absurd h List.not_mem_nil) (by decide) (by decide) (ht _ tw_156) (ng_IAE F) z1 z2 z3 ?_
  have hP : va_P g.1 cl (CW g ad rg hd od tx ty sm pa pr fl op du qa ab ac qb be bc wd ++ ((oa, aJ g 1 ou) :: X)) H := hP
  have hD : va_D (gA g) (CW g ad rg hd od tx ty sm pa pr fl op du qa ab ac qb be bc wd ++ ((oa, aJ g 1 ou) :: X)) := hD
  refine lv_astore_n (lv' := [(3, .ref q9), (0, .ref (ad 0)), (1, .int a), (2, .ref oa)]) hx hb d_LW_size_12 rfl hl (by decide) rfl (fun ls hl => ?_)
  refine lv_iconst (v := nI 1) hx hb d_LW_size_13 (by decide) ?_
  exact W.iret (v := nI 1) hx hb hr (fun t9 e1 hW => ⟨⟨_, (), rfl, rfl, PR.at F hP hD hS e1 hW.alike⟩, hS.F e1⟩) hS.2.2 d_LW_size_14
set_option maxRecDepth 100000 in
set_option maxHeartbeats 4000000 in
theorem c2_LW_size (l : Launch) (hl0 : l.stackTraces = false) (g : Gx) (ad : Nat → Nat) (oa : Nat) (rg : Nat → Int64) (hd : Nat → Int32) (od : Nat → Int32) (tx : Nat → Int32) (ty : Int32) (sm : Nat → Int64) (pa : Nat → Int64) (pr : Nat → Int64) (fl : Nat → Int64) (op : Int32) (du : Int32) (qa : Nat) (ab : Nat → Int64) (ac : Int32) (qb : Nat) (be : Nat → Int64) (bc : Int32) (wd : Nat → Int32) (ou : Nat → Int64) (X : va_W) (a : Nat) (g0 : a < 8) (h9 : ∀ i, i < 8 → hd i = 0 ∨ hd i = 1) (hbad : ¬ (hd a = 1)) : Met l y_LW_size (w_LW_size :: TW) rx_LW_size (va_Pc [.ref (ad 0), .int (nI a), .ref oa] (PR g (CW g ad rg hd od tx ty sm pa pr fl op du qa ab ac qb be bc wd ++ ((oa, aJ g 1 ou) :: X)))) (va_Qi (fun r9 (u9 : Unit) => r9 = nI 2) (fun u9 t9 => PR g (CW g ad rg hd od tx ty sm pa pr fl op du qa ab ac qb be (nI 0) wd ++ ((oa, aJ g 1 ou) :: X)) t9) (gA g)) 1 6 (gA g) := by
  refine mw_of (by decide) (Nat.le_of_ble_eq_true rfl) ?_
  intro p e s m below meth c ls hx hb hr hml hlk hown ht hex F hP hD hl
  have hl : lv_has ls 4 [(0, .ref (ad 0)), (1, .int (nI a)), (2, .ref oa)] := hl
  have hS : va_S (gA g) s.heap s.heap [] := va_S.rf
  refine lv_aload_n hx hb d_LW_size_0 rfl (lv_at hl 2 rfl) ?_
  refine lv_iconst (v := nI 0) hx hb d_LW_size_1 (by decide) ?_
  refine lv_aload_n hx hb d_LW_size_2 rfl (lv_at hl 0 rfl) ?_
  refine lv_iload_n hx hb d_LW_size_3 rfl (lv_at hl 1 rfl) ?_
  refine xc_V (q0 := 0) (As := [.int (nI a)]) (rest := [.int (nI 0), .ref oa]) hx hb (hml.trans hl.1.symm) hown ht F hP hD hS (x2_SG_size l hl0 g ad rg hd od tx ty sm pa pr fl op du qa ab ac qb be bc wd ((oa, aJ g 1 ou) :: X) a g0 h9 hbad) v_SG_size tw_416 ⟨rfl, rfl⟩ ⟨by decide, by decide⟩ rfl rfl rfl rfl (Nat.le_of_ble_eq_true rfl) ⟨by decide, by decide⟩ d_LW_size_4 (fun ce q9 H locs hP hD hS z1 z2 z3 => ?_)
  refine vx_catch hown [⟨0, 9, 12, 13⟩] ⟨0, 9, 15, 19⟩ [] (hex.trans rfl) (List.forall_mem_cons.mpr ⟨Or.inr ⟨by decide, IAE, ht _ tw_156, F.2.2.2.2.2.2.2⟩, fun _ h => absurd h List.not_mem_nil⟩) (by decide) (by decide) (ht _ tw_237) (ng_NSE F) z1 z2 z3 ?_
  have hP : va_P g.1 cl (CW g ad rg hd od tx ty sm pa pr fl op du qa ab ac qb be (nI 0) wd ++ ((oa, aJ g 1 ou) :: X)) H := hP
  have hD : va_D (gA g) (CW g ad rg hd od tx ty sm pa pr fl op du qa ab ac qb be (nI 0) wd ++ ((oa, aJ g 1 ou) :: X)) := hD
  refine lv_astore_n (lv' := [(3, .ref q9), (0, .ref (ad 0)), (1, .int (nI a)), (2, .ref oa)]) hx hb d_LW_size_15 rfl hl (by decide) rfl (fun ls hl => ?_)
  refine lv_iconst (v := nI 2) hx hb d_LW_size_16 (by decide) ?_
  exact W.iret (v := nI 2) hx hb hr (fun t9 e1 hW => ⟨⟨_, (), rfl, rfl, PR.at F hP hD hS e1 hW.alike⟩, hS.F e1⟩) hS.2.2 d_LW_size_17
set_option maxRecDepth 100000 in
set_option maxHeartbeats 4000000 in
theorem c_LW_width (l : Launch) (g : Gx) (ad : Nat → Nat) (oa : Nat) (rg : Nat → Int64) (hd : Nat → Int32) (tx : Nat → Int32) (ty : Int32) (sm : Nat → Int64) (pa : Nat → Int64) (pr : Nat → Int64) (fl : Nat → Int64) (op : Int32) (du : Int32) (qa : Nat) (ab : Nat → Int64) (ac : Int32) (qb : Nat) (be : Nat → Int64) (bc : Int32) (wd : Nat → Int32) (ou : Nat → Int64) (X : va_W) (od : Nat → Nat) (k : Nat) (h1 : k < 6) (h8 : ∀ i, i < 6 → od i < 6) (h9 : ∀ i, i < 8 → hd i = 0 ∨ hd i = 1) : Met l y_LW_width (w_LW_width :: TW) rm_LW_width (va_Pc [.ref (ad 0), .int (nI k), .ref oa] (PR g (CW g ad rg hd (nF od) tx ty sm pa pr fl op du qa ab ac qb be bc wd ++ ((oa, aJ g 1 ou) :: X)))) (va_Qi (fun r9 (u9 : (Nat) × (Nat → Int64) × (Int32) × (Nat) × (Nat → Int64) × (Int32) × (Nat → Int32)) => r9 = nI 0) (fun u9 t9 => PR g (CW g ad rg hd (nF od) tx ty sm pa pr fl op du u9.1 u9.2.1 u9.2.2.1 u9.2.2.2.1 u9.2.2.2.2.1 u9.2.2.2.2.2.1 u9.2.2.2.2.2.2 ++ ((oa, aJ g 1 (vp_updL ou 0 ((nI (wdL od (rgL rg hd 8) k)).toInt64))) :: X)) t9) (gA g)) 0 0 (gA g) := by
  refine mw_of (by decide) (Nat.le_of_ble_eq_true rfl) ?_
  intro p e s m below meth c ls hx hb hr hml hlk hown ht hex F hP hD hl
  have hl : lv_has ls 4 [(0, .ref (ad 0)), (1, .int (nI k)), (2, .ref oa)] := hl
  have hS : va_S (gA g) s.heap s.heap [] := va_S.rf
  refine lv_aload_n hx hb d_LW_width_0 rfl (lv_at hl 2 rfl) ?_
  refine lv_iconst (v := nI 0) hx hb d_LW_width_1 (by decide) ?_
  refine lv_aload_n hx hb d_LW_width_2 rfl (lv_at hl 0 rfl) ?_
  refine lv_iload_n hx hb d_LW_width_3 rfl (lv_at hl 1 rfl) ?_
  refine pc_Vi (q0 := 0) (As := [.int (nI k)]) (rest := [.int (nI 0), .ref oa]) hx hb (hml.trans hl.1.symm) hown ht F hP hD hS (c_SG_width l g ad rg hd tx ty sm pa pr fl op du qa ab ac qb be bc wd ((oa, aJ g 1 ou) :: X) od k h1 h8 h9) v_SG_width tw_423 ⟨rfl, rfl⟩ ⟨by decide, by decide⟩ rfl rfl rfl rfl (Nat.le_of_ble_eq_true rfl) ⟨Nat.zero_le _, Nat.zero_le _⟩ d_LW_width_4 (fun r9 u9 H locs hq hP hD hS => ?_)
  obtain ⟨qa4, ab4, ac4, qb4, be4, bc4, wd4⟩ := u9
  subst hq
  have hP : va_P g.1 cl (CW g ad rg hd (nF od) tx ty sm pa pr fl op du qa4 ab4 ac4 qb4 be4 bc4 wd4 ++ ((oa, aJ g 1 ou) :: X)) H := hP
  have hD : va_D (gA g) (CW g ad rg hd (nF od) tx ty sm pa pr fl op du qa4 ab4 ac4 qb4 be4 bc4 wd4 ++ ((oa, aJ g 1 ou) :: X)) := hD
  refine lv_i2l hx hb d_LW_width_7 rfl ?_
  refine wa_J hx hb F hP hD hS 15 rfl (by omega) (by decide) d_LW_width_8 (fun H locs hP hD hS => ?_)
  have hP : va_P g.1 cl (CW g ad rg hd (nF od) tx ty sm pa pr fl op du qa4 ab4 ac4 qb4 be4 bc4 wd4 ++ ((oa, aJ g 1 (vp_updL ou 0 ((nI (wdL od (rgL rg hd 8) k)).toInt64))) :: X)) H := hP
  have hD : va_D (gA g) (CW g ad rg hd (nF od) tx ty sm pa pr fl op du qa4 ab4 ac4 qb4 be4 bc4 wd4 ++ ((oa, aJ g 1 (vp_updL ou 0 ((nI (wdL od (rgL rg hd 8) k)).toInt64))) :: X)) := hD
  refine lv_goto (tgt := 15) hx hb d_LW_width_9 (by decide) ?_
  refine lv_iconst (v := nI 0) hx hb d_LW_width_15 (by decide) ?_
  exact W.iret (v := nI 0) hx hb hr (fun t9 e1 hW => ⟨⟨_, (qa4, ab4, ac4, qb4, be4, bc4, wd4), rfl, rfl, PR.at F hP hD hS e1 hW.alike⟩, hS.F e1⟩) hS.2.2 d_LW_width_16
set_option maxRecDepth 100000 in
set_option maxHeartbeats 4000000 in
theorem c1_LW_width (l : Launch) (hl0 : l.stackTraces = false) (g : Gx) (ad : Nat → Nat) (oa : Nat) (rg : Nat → Int64) (hd : Nat → Int32) (od : Nat → Int32) (tx : Nat → Int32) (ty : Int32) (sm : Nat → Int64) (pa : Nat → Int64) (pr : Nat → Int64) (fl : Nat → Int64) (op : Int32) (du : Int32) (qa : Nat) (ab : Nat → Int64) (ac : Int32) (qb : Nat) (be : Nat → Int64) (bc : Int32) (wd : Nat → Int32) (ou : Nat → Int64) (X : va_W) (k : Int32) (hbad : ¬ (inR k 6)) : Met l y_LW_width (w_LW_width :: TW) rx_LW_width (va_Pc [.ref (ad 0), .int k, .ref oa] (PR g (CW g ad rg hd od tx ty sm pa pr fl op du qa ab ac qb be bc wd ++ ((oa, aJ g 1 ou) :: X)))) (va_Qi (fun r9 (u9 : Unit) => r9 = nI 1) (fun u9 t9 => PR g (CW g ad rg hd od tx ty sm pa pr fl op du qa ab ac qb be bc wd ++ ((oa, aJ g 1 ou) :: X)) t9) (gA g)) 1 6 (gA g) := by
  refine mw_of (by decide) (Nat.le_of_ble_eq_true rfl) ?_
  intro p e s m below meth c ls hx hb hr hml hlk hown ht hex F hP hD hl
  have hl : lv_has ls 4 [(0, .ref (ad 0)), (1, .int k), (2, .ref oa)] := hl
  have hS : va_S (gA g) s.heap s.heap [] := va_S.rf
  refine lv_aload_n hx hb d_LW_width_0 rfl (lv_at hl 2 rfl) ?_
  refine lv_iconst (v := nI 0) hx hb d_LW_width_1 (by decide) ?_
  refine lv_aload_n hx hb d_LW_width_2 rfl (lv_at hl 0 rfl) ?_
  refine lv_iload_n hx hb d_LW_width_3 rfl (lv_at hl 1 rfl) ?_
  refine xc_V (q0 := 0) (As := [.int k]) (rest := [.int (nI 0), .ref oa]) hx hb (hml.trans hl.1.symm) hown ht F hP hD hS (x1_SG_width l hl0 g ad rg hd od tx ty sm pa pr fl op du qa ab ac qb be bc wd ((oa, aJ g 1 ou) :: X) k hbad) v_SG_width tw_423 ⟨rfl, rfl⟩ ⟨by decide, by decide⟩ rfl rfl rfl rfl (Nat.le_of_ble_eq_true rfl) ⟨by decide, by decide⟩ d_LW_width_4 (fun ce q9 H locs hP hD hS z1 z2 z3 => ?_)
  refine vx_catch hown [] ⟨0, 9, 12, 13⟩ [] (hex.trans rfl) (fun _ h => absurd h List.not_mem_nil) (by decide) (by decide) (ht _ tw_156) (ng_IAE F) z1 z2 z3 ?_
  have hP : va_P g.1 cl (CW g ad rg hd od tx ty sm pa pr fl op du qa ab ac qb be bc wd ++ ((oa, aJ g 1 ou) :: X)) H := hP
  have hD : va_D (gA g) (CW g ad rg hd od tx ty sm pa pr fl op du qa ab ac qb be bc wd ++ ((oa, aJ g 1 ou) :: X)) := hD
  refine lv_astore_n (lv' := [(3, .ref q9), (0, .ref (ad 0)), (1, .int k), (2, .ref oa)]) hx hb d_LW_width_12 rfl hl (by decide) rfl (fun ls hl => ?_)
  refine lv_iconst (v := nI 1) hx hb d_LW_width_13 (by decide) ?_
  exact W.iret (v := nI 1) hx hb hr (fun t9 e1 hW => ⟨⟨_, (), rfl, rfl, PR.at F hP hD hS e1 hW.alike⟩, hS.F e1⟩) hS.2.2 d_LW_width_14
set_option maxRecDepth 100000 in
set_option maxHeartbeats 4000000 in
theorem c_LW_variable (l : Launch) (g : Gx) (ad : Nat → Nat) (oa : Nat) (rg : Nat → Int64) (hd : Nat → Int32) (tx : Nat → Int32) (ty : Int32) (sm : Nat → Int64) (pa : Nat → Int64) (pr : Nat → Int64) (fl : Nat → Int64) (op : Int32) (du : Int32) (qa : Nat) (ab : Nat → Int64) (ac : Int32) (qb : Nat) (be : Nat → Int64) (bc : Int32) (wd : Nat → Int32) (ou : Nat → Int64) (X : va_W) (od : Nat → Nat) (k : Nat) (h1 : k < 6) : Met l y_LW_variable (w_LW_variable :: TW) rm_LW_variable (va_Pc [.ref (ad 0), .int (nI k), .ref oa] (PR g (CW g ad rg hd (nF od) tx ty sm pa pr fl op du qa ab ac qb be bc wd ++ ((oa, aJ g 1 ou) :: X)))) (va_Qi (fun r9 (u9 : Unit) => r9 = nI 0) (fun u9 t9 => PR g (CW g ad rg hd (nF od) tx ty sm pa pr fl op du qa ab ac qb be bc wd ++ ((oa, aJ g 1 (vp_updL ou 0 ((nI (od k)).toInt64))) :: X)) t9) (gA g)) 0 0 (gA g) := by
  refine mw_of (by decide) (Nat.le_of_ble_eq_true rfl) ?_
  intro p e s m below meth c ls hx hb hr hml hlk hown ht hex F hP hD hl
  have hl : lv_has ls 4 [(0, .ref (ad 0)), (1, .int (nI k)), (2, .ref oa)] := hl
  have hS : va_S (gA g) s.heap s.heap [] := va_S.rf
  refine lv_aload_n hx hb d_LW_variable_0 rfl (lv_at hl 2 rfl) ?_
  refine lv_iconst (v := nI 0) hx hb d_LW_variable_1 (by decide) ?_
  refine lv_aload_n hx hb d_LW_variable_2 rfl (lv_at hl 0 rfl) ?_
  refine lv_iload_n hx hb d_LW_variable_3 rfl (lv_at hl 1 rfl) ?_
  refine pc_Vi (q0 := 0) (As := [.int (nI k)]) (rest := [.int (nI 0), .ref oa]) hx hb (hml.trans hl.1.symm) hown ht F hP hD hS (c_SG_variable l g ad rg hd tx ty sm pa pr fl op du qa ab ac qb be bc wd ((oa, aJ g 1 ou) :: X) od k h1) v_SG_variable tw_434 ⟨rfl, rfl⟩ ⟨by decide, by decide⟩ rfl rfl rfl rfl (Nat.le_of_ble_eq_true rfl) ⟨Nat.zero_le _, Nat.zero_le _⟩ d_LW_variable_4 (fun r9 u9 H locs hq hP hD hS => ?_)
  subst hq
  refine lv_i2l hx hb d_LW_variable_7 rfl ?_
  refine wa_J hx hb F hP hD hS 15 rfl (by omega) (by decide) d_LW_variable_8 (fun H locs hP hD hS => ?_)
  have hP : va_P g.1 cl (CW g ad rg hd (nF od) tx ty sm pa pr fl op du qa ab ac qb be bc wd ++ ((oa, aJ g 1 (vp_updL ou 0 ((nI (od k)).toInt64))) :: X)) H := hP
  have hD : va_D (gA g) (CW g ad rg hd (nF od) tx ty sm pa pr fl op du qa ab ac qb be bc wd ++ ((oa, aJ g 1 (vp_updL ou 0 ((nI (od k)).toInt64))) :: X)) := hD
  refine lv_goto (tgt := 15) hx hb d_LW_variable_9 (by decide) ?_
  refine lv_iconst (v := nI 0) hx hb d_LW_variable_15 (by decide) ?_
  exact W.iret (v := nI 0) hx hb hr (fun t9 e1 hW => ⟨⟨_, (), rfl, rfl, PR.at F hP hD hS e1 hW.alike⟩, hS.F e1⟩) hS.2.2 d_LW_variable_16
set_option maxRecDepth 100000 in
set_option maxHeartbeats 4000000 in
theorem c1_LW_variable (l : Launch) (hl0 : l.stackTraces = false) (g : Gx) (ad : Nat → Nat) (oa : Nat) (rg : Nat → Int64) (hd : Nat → Int32) (od : Nat → Int32) (tx : Nat → Int32) (ty : Int32) (sm : Nat → Int64) (pa : Nat → Int64) (pr : Nat → Int64) (fl : Nat → Int64) (op : Int32) (du : Int32) (qa : Nat) (ab : Nat → Int64) (ac : Int32) (qb : Nat) (be : Nat → Int64) (bc : Int32) (wd : Nat → Int32) (ou : Nat → Int64) (X : va_W) (k : Int32) (hbad : ¬ (inR k 6)) : Met l y_LW_variable (w_LW_variable :: TW) rx_LW_variable (va_Pc [.ref (ad 0), .int k, .ref oa] (PR g (CW g ad rg hd od tx ty sm pa pr fl op du qa ab ac qb be bc wd ++ ((oa, aJ g 1 ou) :: X)))) (va_Qi (fun r9 (u9 : Unit) => r9 = nI 1) (fun u9 t9 => PR g (CW g ad rg hd od tx ty sm pa pr fl op du qa ab ac qb be bc wd ++ ((oa, aJ g 1 ou) :: X)) t9) (gA g)) 1 6 (gA g) := by
  refine mw_of (by decide) (Nat.le_of_ble_eq_true rfl) ?_
  intro p e s m below meth c ls hx hb hr hml hlk hown ht hex F hP hD hl
  have hl : lv_has ls 4 [(0, .ref (ad 0)), (1, .int k), (2, .ref oa)] := hl
  have hS : va_S (gA g) s.heap s.heap [] := va_S.rf
  refine lv_aload_n hx hb d_LW_variable_0 rfl (lv_at hl 2 rfl) ?_
  refine lv_iconst (v := nI 0) hx hb d_LW_variable_1 (by decide) ?_
  refine lv_aload_n hx hb d_LW_variable_2 rfl (lv_at hl 0 rfl) ?_
  refine lv_iload_n hx hb d_LW_variable_3 rfl (lv_at hl 1 rfl) ?_
  refine xc_V (q0 := 0) (As := [.int k]) (rest := [.int (nI 0), .ref oa]) hx hb (hml.trans hl.1.symm) hown ht F hP hD hS (x1_SG_variable l hl0 g ad rg hd od tx ty sm pa pr fl op du qa ab ac qb be bc wd ((oa, aJ g 1 ou) :: X) k hbad) v_SG_variable tw_434 ⟨rfl, rfl⟩ ⟨by decide, by decide⟩ rfl rfl rfl rfl (Nat.le_of_ble_eq_true rfl) ⟨by decide, by decide⟩ d_LW_variable_4 (fun ce q9 H locs hP hD hS z1 z2 z3 => ?_)
  refine vx_catch hown [] ⟨0, 9, 12, 13⟩ [] (hex.trans rfl) (fun _ h => absurd h List.not_mem_nil) (by decide) (by decide) (ht _ tw_156) (ng_IAE F) z1 z2 z3 ?_
  have hP : va_P g.1 cl (CW g ad rg hd od tx ty sm pa pr fl op du qa ab ac qb be bc wd ++ ((oa, aJ g 1 ou) :: X)) H := hP
  have hD : va_D (gA g) (CW g ad rg hd od tx ty sm pa pr fl op du qa ab ac qb be bc wd ++ ((oa, aJ g 1 ou) :: X)) := hD
  refine lv_astore_n (lv' := [(3, .ref q9), (0, .ref (ad 0)), (1, .int k), (2, .ref oa)]) hx hb d_LW_variable_12 rfl hl (by decide) rfl (fun ls hl => ?_)
  refine lv_iconst (v := nI 1) hx hb d_LW_variable_13 (by decide) ?_
  exact W.iret (v := nI 1) hx hb hr (fun t9 e1 hW => ⟨⟨_, (), rfl, rfl, PR.at F hP hD hS e1 hW.alike⟩, hS.F e1⟩) hS.2.2 d_LW_variable_14
set_option maxRecDepth 100000 in
set_option maxHeartbeats 4000000 in
theorem c_LW_swap (l : Launch) (g : Gx) (ad : Nat → Nat) (oa : Nat) (rg : Nat → Int64) (hd : Nat → Int32) (tx : Nat → Int32) (ty : Int32) (sm : Nat → Int64) (pa : Nat → Int64) (pr : Nat → Int64) (fl : Nat → Int64) (op : Int32) (du : Int32) (qa : Nat) (ab : Nat → Int64) (ac : Int32) (qb : Nat) (be : Nat → Int64) (bc : Int32) (wd : Nat → Int32) (ou : Nat → Int64) (X : va_W) (od : Nat → Nat) (k : Nat) (h1 : k < 5) (h8 : ∀ i, i < 6 → od i < 6) (h9 : ∀ i, i < 8 → hd i = 0 ∨ hd i = 1) : Met l y_LW_swap (w_LW_swap :: TW) rm_LW_swap (va_Pc [.ref (ad 0), .int (nI k), .ref oa] (PR g (CW g ad rg hd (nF od) tx ty sm pa pr fl op du qa ab ac qb be bc wd ++ ((oa, aJ g 1 ou) :: X)))) (va_Qi (fun r9 (u9 : (Nat) × (Nat → Int64) × (Int32) × (Nat) × (Nat → Int64) × (Int32) × (Nat → Int32)) => r9 = nI 0) (fun u9 t9 => PR g (CW g ad rg hd (nF (xch od k)) tx ty sm pa pr fl op du u9.1 u9.2.1 u9.2.2.1 u9.2.2.2.1 u9.2.2.2.2.1 u9.2.2.2.2.2.1 u9.2.2.2.2.2.2 ++ ((oa, aJ g 1 (vp_updL ou 0 ((nI (toL (xch od k) (rgL rg hd 8) 6)).toInt64))) :: X)) t9) (gA g)) 0 0 (gA g) := by
  refine mw_of (by decide) (Nat.le_of_ble_eq_true rfl) ?_
  intro p e s m below meth c ls hx hb hr hml hlk hown ht hex F hP hD hl
  have hl : lv_has ls 4 [(0, .ref (ad 0)), (1, .int (nI k)), (2, .ref oa)] := hl
  have hS : va_S (gA g) s.heap s.heap [] := va_S.rf
  refine lv_aload_n hx hb d_LW_swap_0 rfl (lv_at hl 2 rfl) ?_
  refine lv_iconst (v := nI 0) hx hb d_LW_swap_1 (by decide) ?_
  refine lv_aload_n hx hb d_LW_swap_2 rfl (lv_at hl 0 rfl) ?_
  refine lv_iload_n hx hb d_LW_swap_3 rfl (lv_at hl 1 rfl) ?_
  refine pc_Vi (q0 := 0) (As := [.int (nI k)]) (rest := [.int (nI 0), .ref oa]) hx hb (hml.trans hl.1.symm) hown ht F hP hD hS (c_SG_swap l g ad rg hd tx ty sm pa pr fl op du qa ab ac qb be bc wd ((oa, aJ g 1 ou) :: X) od k h1 h8 h9) v_SG_swap tw_441 ⟨rfl, rfl⟩ ⟨by decide, by decide⟩ rfl rfl rfl rfl (Nat.le_of_ble_eq_true rfl) ⟨Nat.zero_le _, Nat.zero_le _⟩ d_LW_swap_4 (fun r9 u9 H locs hq hP hD hS => ?_)
  obtain ⟨qa4, ab4, ac4, qb4, be4, bc4, wd4⟩ := u9
  subst hq
  have hP : va_P g.1 cl (CW g ad rg hd (nF (xch od k)) tx ty sm pa pr fl op du qa4 ab4 ac4 qb4 be4 bc4 wd4 ++ ((oa, aJ g 1 ou) :: X)) H := hP
  have hD : va_D (gA g) (CW g ad rg hd (nF (xch od k)) tx ty sm pa pr fl op du qa4 ab4 ac4 qb4 be4 bc4 wd4 ++ ((oa, aJ g 1 ou) :: X)) := hD
  refine lv_i2l hx hb d_LW_swap_7 rfl ?_
  refine wa_J hx hb F hP hD hS 15 rfl (by omega) (by decide) d_LW_swap_8 (fun H locs hP hD hS => ?_)
  have hP : va_P g.1 cl (CW g ad rg hd (nF (xch od k)) tx ty sm pa pr fl op du qa4 ab4 ac4 qb4 be4 bc4 wd4 ++ ((oa, aJ g 1 (vp_updL ou 0 ((nI (toL (xch od k) (rgL rg hd 8) 6)).toInt64))) :: X)) H := hP
  have hD : va_D (gA g) (CW g ad rg hd (nF (xch od k)) tx ty sm pa pr fl op du qa4 ab4 ac4 qb4 be4 bc4 wd4 ++ ((oa, aJ g 1 (vp_updL ou 0 ((nI (toL (xch od k) (rgL rg hd 8) 6)).toInt64))) :: X)) := hD
  refine lv_goto (tgt := 15) hx hb d_LW_swap_9 (by decide) ?_
  refine lv_iconst (v := nI 0) hx hb d_LW_swap_15 (by decide) ?_
  exact W.iret (v := nI 0) hx hb hr (fun t9 e1 hW => ⟨⟨_, (qa4, ab4, ac4, qb4, be4, bc4, wd4), rfl, rfl, PR.at F hP hD hS e1 hW.alike⟩, hS.F e1⟩) hS.2.2 d_LW_swap_16
set_option maxRecDepth 100000 in
set_option maxHeartbeats 4000000 in
theorem c1_LW_swap (l : Launch) (hl0 : l.stackTraces = false) (g : Gx) (ad : Nat → Nat) (oa : Nat) (rg : Nat → Int64) (hd : Nat → Int32) (od : Nat → Int32) (tx : Nat → Int32) (ty : Int32) (sm : Nat → Int64) (pa : Nat → Int64) (pr : Nat → Int64) (fl : Nat → Int64) (op : Int32) (du : Int32) (qa : Nat) (ab : Nat → Int64) (ac : Int32) (qb : Nat) (be : Nat → Int64) (bc : Int32) (wd : Nat → Int32) (ou : Nat → Int64) (X : va_W) (k : Int32) (hbad : ¬ (inR k 5)) : Met l y_LW_swap (w_LW_swap :: TW) rx_LW_swap (va_Pc [.ref (ad 0), .int k, .ref oa] (PR g (CW g ad rg hd od tx ty sm pa pr fl op du qa ab ac qb be bc wd ++ ((oa, aJ g 1 ou) :: X)))) (va_Qi (fun r9 (u9 : Unit) => r9 = nI 1) (fun u9 t9 => PR g (CW g ad rg hd od tx ty sm pa pr fl op du qa ab ac qb be bc wd ++ ((oa, aJ g 1 ou) :: X)) t9) (gA g)) 1 6 (gA g) := by
  refine mw_of (by decide) (Nat.le_of_ble_eq_true rfl) ?_
  intro p e s m below meth c ls hx hb hr hml hlk hown ht hex F hP hD hl
  have hl : lv_has ls 4 [(0, .ref (ad 0)), (1, .int k), (2, .ref oa)] := hl
  have hS : va_S (gA g) s.heap s.heap [] := va_S.rf
  refine lv_aload_n hx hb d_LW_swap_0 rfl (lv_at hl 2 rfl) ?_
  refine lv_iconst (v := nI 0) hx hb d_LW_swap_1 (by decide) ?_
  refine lv_aload_n hx hb d_LW_swap_2 rfl (lv_at hl 0 rfl) ?_
  refine lv_iload_n hx hb d_LW_swap_3 rfl (lv_at hl 1 rfl) ?_
  refine xc_V (q0 := 0) (As := [.int k]) (rest := [.int (nI 0), .ref oa]) hx hb (hml.trans hl.1.symm) hown ht F hP hD hS (x1_SG_swap l hl0 g ad rg hd od tx ty sm pa pr fl op du qa ab ac qb be bc wd ((oa, aJ g 1 ou) :: X) k hbad) v_SG_swap tw_441 ⟨rfl, rfl⟩ ⟨by decide, by decide⟩ rfl rfl rfl rfl (Nat.le_of_ble_eq_true rfl) ⟨by decide, by decide⟩ d_LW_swap_4 (fun ce q9 H locs hP hD hS z1 z2 z3 => ?_)
  refine vx_catch hown [] ⟨0, 9, 12, 13⟩ [] (hex.trans rfl) (fun _ h => absurd h List.not_mem_nil) (by decide) (by decide) (ht _ tw_156) (ng_IAE F) z1 z2 z3 ?_
  have hP : va_P g.1 cl (CW g ad rg hd od tx ty sm pa pr fl op du qa ab ac qb be bc wd ++ ((oa, aJ g 1 ou) :: X)) H := hP
  have hD : va_D (gA g) (CW g ad rg hd od tx ty sm pa pr fl op du qa ab ac qb be bc wd ++ ((oa, aJ g 1 ou) :: X)) := hD
  refine lv_astore_n (lv' := [(3, .ref q9), (0, .ref (ad 0)), (1, .int k), (2, .ref oa)]) hx hb d_LW_swap_12 rfl hl (by decide) rfl (fun ls hl => ?_)
  refine lv_iconst (v := nI 1) hx hb d_LW_swap_13 (by decide) ?_
  exact W.iret (v := nI 1) hx hb hr (fun t9 e1 hW => ⟨⟨_, (), rfl, rfl, PR.at F hP hD hS e1 hW.alike⟩, hS.F e1⟩) hS.2.2 d_LW_swap_14
set_option maxRecDepth 100000 in
set_option maxHeartbeats 4000000 in
theorem c_LW_sift (l : Launch) (g : Gx) (ad : Nat → Nat) (oa : Nat) (rg : Nat → Int64) (hd : Nat → Int32) (tx : Nat → Int32) (ty : Int32) (sm : Nat → Int64) (pa : Nat → Int64) (pr : Nat → Int64) (fl : Nat → Int64) (op : Int32) (du : Int32) (qa : Nat) (ab : Nat → Int64) (ac : Int32) (qb : Nat) (be : Nat → Int64) (bc : Int32) (wd : Nat → Int32) (ou : Nat → Int64) (X : va_W) (od : Nat → Nat) (v : Nat) (h1 : v < 6) (h8 : ∀ i, i < 6 → od i < 6) (h9 : ∀ i, i < 8 → hd i = 0 ∨ hd i = 1) : Met l y_LW_sift (w_LW_sift :: TW) rm_LW_sift (va_Pc [.ref (ad 0), .int (nI v), .ref oa] (PR g (CW g ad rg hd (nF od) tx ty sm pa pr fl op du qa ab ac qb be bc wd ++ ((oa, aJ g 1 ou) :: X)))) (va_Qi (fun r9 (u9 : (Nat) × (Nat → Int64) × (Int32) × (Nat) × (Nat → Int64) × (Int32) × (Nat → Int32)) => r9 = nI 0) (fun u9 t9 => PR g (CW g ad rg hd (nF (rsU (sfF (rgL rg hd 8) (rsU 0 (fdL od v 6 - 0) od) 5).1 (5 - (sfF (rgL rg hd 8) (rsU 0 (fdL od v 6 - 0) od) 5).1) (dnU 5 (rsU 0 (fdL od v 6 - 0) od)))) tx ty sm pa pr fl op du u9.1 u9.2.1 u9.2.2.1 u9.2.2.2.1 u9.2.2.2.2.1 u9.2.2.2.2.2.1 u9.2.2.2.2.2.2 ++ ((oa, aJ g 1 (vp_updL ou 0 ((nI ((sfF (rgL rg hd 8) (rsU 0 (fdL od v 6 - 0) od) 5).1)).toInt64))) :: X)) t9) (gA g)) 0 0 (gA g) := by
  refine mw_of (by decide) (Nat.le_of_ble_eq_true rfl) ?_
  intro p e s m below meth c ls hx hb hr hml hlk hown ht hex F hP hD hl
  have hl : lv_has ls 4 [(0, .ref (ad 0)), (1, .int (nI v)), (2, .ref oa)] := hl
  have hS : va_S (gA g) s.heap s.heap [] := va_S.rf
  refine lv_aload_n hx hb d_LW_sift_0 rfl (lv_at hl 2 rfl) ?_
  refine lv_iconst (v := nI 0) hx hb d_LW_sift_1 (by decide) ?_
  refine lv_aload_n hx hb d_LW_sift_2 rfl (lv_at hl 0 rfl) ?_
  refine lv_iload_n hx hb d_LW_sift_3 rfl (lv_at hl 1 rfl) ?_
  refine pc_Vi (q0 := 0) (As := [.int (nI v)]) (rest := [.int (nI 0), .ref oa]) hx hb (hml.trans hl.1.symm) hown ht F hP hD hS (c_SG_sift l g ad rg hd tx ty sm pa pr fl op du qa ab ac qb be bc wd ((oa, aJ g 1 ou) :: X) od v h1 h8 h9) v_SG_sift tw_452 ⟨rfl, rfl⟩ ⟨by decide, by decide⟩ rfl rfl rfl rfl (Nat.le_of_ble_eq_true rfl) ⟨Nat.zero_le _, Nat.zero_le _⟩ d_LW_sift_4 (fun r9 u9 H locs hq hP hD hS => ?_)
  obtain ⟨qa4, ab4, ac4, qb4, be4, bc4, wd4⟩ := u9
  subst hq
  have hP : va_P g.1 cl (CW g ad rg hd (nF (rsU (sfF (rgL rg hd 8) (rsU 0 (fdL od v 6 - 0) od) 5).1 (5 - (sfF (rgL rg hd 8) (rsU 0 (fdL od v 6 - 0) od) 5).1) (dnU 5 (rsU 0 (fdL od v 6 - 0) od)))) tx ty sm pa pr fl op du qa4 ab4 ac4 qb4 be4 bc4 wd4 ++ ((oa, aJ g 1 ou) :: X)) H := hP
  have hD : va_D (gA g) (CW g ad rg hd (nF (rsU (sfF (rgL rg hd 8) (rsU 0 (fdL od v 6 - 0) od) 5).1 (5 - (sfF (rgL rg hd 8) (rsU 0 (fdL od v 6 - 0) od) 5).1) (dnU 5 (rsU 0 (fdL od v 6 - 0) od)))) tx ty sm pa pr fl op du qa4 ab4 ac4 qb4 be4 bc4 wd4 ++ ((oa, aJ g 1 ou) :: X)) := hD
  refine lv_i2l hx hb d_LW_sift_7 rfl ?_
  refine wa_J hx hb F hP hD hS 15 rfl (by omega) (by decide) d_LW_sift_8 (fun H locs hP hD hS => ?_)
  have hP : va_P g.1 cl (CW g ad rg hd (nF (rsU (sfF (rgL rg hd 8) (rsU 0 (fdL od v 6 - 0) od) 5).1 (5 - (sfF (rgL rg hd 8) (rsU 0 (fdL od v 6 - 0) od) 5).1) (dnU 5 (rsU 0 (fdL od v 6 - 0) od)))) tx ty sm pa pr fl op du qa4 ab4 ac4 qb4 be4 bc4 wd4 ++ ((oa, aJ g 1 (vp_updL ou 0 ((nI ((sfF (rgL rg hd 8) (rsU 0 (fdL od v 6 - 0) od) 5).1)).toInt64))) :: X)) H := hP
  have hD : va_D (gA g) (CW g ad rg hd (nF (rsU (sfF (rgL rg hd 8) (rsU 0 (fdL od v 6 - 0) od) 5).1 (5 - (sfF (rgL rg hd 8) (rsU 0 (fdL od v 6 - 0) od) 5).1) (dnU 5 (rsU 0 (fdL od v 6 - 0) od)))) tx ty sm pa pr fl op du qa4 ab4 ac4 qb4 be4 bc4 wd4 ++ ((oa, aJ g 1 (vp_updL ou 0 ((nI ((sfF (rgL rg hd 8) (rsU 0 (fdL od v 6 - 0) od) 5).1)).toInt64))) :: X)) := hD
  refine lv_goto (tgt := 15) hx hb d_LW_sift_9 (by decide) ?_
  refine lv_iconst (v := nI 0) hx hb d_LW_sift_15 (by decide) ?_
  exact W.iret (v := nI 0) hx hb hr (fun t9 e1 hW => ⟨⟨_, (qa4, ab4, ac4, qb4, be4, bc4, wd4), rfl, rfl, PR.at F hP hD hS e1 hW.alike⟩, hS.F e1⟩) hS.2.2 d_LW_sift_16
set_option maxRecDepth 100000 in
set_option maxHeartbeats 4000000 in
theorem c1_LW_sift (l : Launch) (hl0 : l.stackTraces = false) (g : Gx) (ad : Nat → Nat) (oa : Nat) (rg : Nat → Int64) (hd : Nat → Int32) (od : Nat → Int32) (tx : Nat → Int32) (ty : Int32) (sm : Nat → Int64) (pa : Nat → Int64) (pr : Nat → Int64) (fl : Nat → Int64) (op : Int32) (du : Int32) (qa : Nat) (ab : Nat → Int64) (ac : Int32) (qb : Nat) (be : Nat → Int64) (bc : Int32) (wd : Nat → Int32) (ou : Nat → Int64) (X : va_W) (v : Int32) (hbad : ¬ (inR v 6)) : Met l y_LW_sift (w_LW_sift :: TW) rx_LW_sift (va_Pc [.ref (ad 0), .int v, .ref oa] (PR g (CW g ad rg hd od tx ty sm pa pr fl op du qa ab ac qb be bc wd ++ ((oa, aJ g 1 ou) :: X)))) (va_Qi (fun r9 (u9 : Unit) => r9 = nI 1) (fun u9 t9 => PR g (CW g ad rg hd od tx ty sm pa pr fl op du qa ab ac qb be bc wd ++ ((oa, aJ g 1 ou) :: X)) t9) (gA g)) 1 6 (gA g) := by
  refine mw_of (by decide) (Nat.le_of_ble_eq_true rfl) ?_
  intro p e s m below meth c ls hx hb hr hml hlk hown ht hex F hP hD hl
  have hl : lv_has ls 4 [(0, .ref (ad 0)), (1, .int v), (2, .ref oa)] := hl
  have hS : va_S (gA g) s.heap s.heap [] := va_S.rf
  refine lv_aload_n hx hb d_LW_sift_0 rfl (lv_at hl 2 rfl) ?_
  refine lv_iconst (v := nI 0) hx hb d_LW_sift_1 (by decide) ?_
  refine lv_aload_n hx hb d_LW_sift_2 rfl (lv_at hl 0 rfl) ?_
  refine lv_iload_n hx hb d_LW_sift_3 rfl (lv_at hl 1 rfl) ?_
  refine xc_V (q0 := 0) (As := [.int v]) (rest := [.int (nI 0), .ref oa]) hx hb (hml.trans hl.1.symm) hown ht F hP hD hS (x1_SG_sift l hl0 g ad rg hd od tx ty sm pa pr fl op du qa ab ac qb be bc wd ((oa, aJ g 1 ou) :: X) v hbad) v_SG_sift tw_452 ⟨rfl, rfl⟩ ⟨by decide, by decide⟩ rfl rfl rfl rfl (Nat.le_of_ble_eq_true rfl) ⟨by decide, by decide⟩ d_LW_sift_4 (fun ce q9 H locs hP hD hS z1 z2 z3 => ?_)
  refine vx_catch hown [] ⟨0, 9, 12, 13⟩ [] (hex.trans rfl) (fun _ h => absurd h List.not_mem_nil) (by decide) (by decide) (ht _ tw_156) (ng_IAE F) z1 z2 z3 ?_
  have hP : va_P g.1 cl (CW g ad rg hd od tx ty sm pa pr fl op du qa ab ac qb be bc wd ++ ((oa, aJ g 1 ou) :: X)) H := hP
  have hD : va_D (gA g) (CW g ad rg hd od tx ty sm pa pr fl op du qa ab ac qb be bc wd ++ ((oa, aJ g 1 ou) :: X)) := hD
  refine lv_astore_n (lv' := [(3, .ref q9), (0, .ref (ad 0)), (1, .int v), (2, .ref oa)]) hx hb d_LW_sift_12 rfl hl (by decide) rfl (fun ls hl => ?_)
  refine lv_iconst (v := nI 1) hx hb d_LW_sift_13 (by decide) ?_
  exact W.iret (v := nI 1) hx hb hr (fun t9 e1 hW => ⟨⟨_, (), rfl, rfl, PR.at F hP hD hS e1 hW.alike⟩, hS.F e1⟩) hS.2.2 d_LW_sift_14
