/-- a table with variable v set to 1, to 0; as the class counts it -/
def W1 (t : Int64) (v : Nat) : Int64 := (t &&& mk6 v) ||| ((t &&& mk6 v).toUInt64 >>> ((nI (2 ^ (5 - v))).toInt64.toUInt64 &&& Int64.toUInt64 63)).toInt64
def W0 (t : Int64) (v : Nat) : Int64 := (t &&& (mk6 v ^^^ -1)) ||| ((t &&& (mk6 v ^^^ -1)) <<< ((nI (2 ^ (5 - v))).toInt64 &&& 63))
def CH (x y z : Int64) : Int64 := (x &&& y) ||| ((x ^^^ -1) &&& z)
def CN1 (x y : Int64) (o : Nat) (t : Int64) : Int64 := if nI o &&& nI 1 = 0 then t else t ||| ((x ^^^ -1) &&& (y ^^^ -1))
def CN2 (x y : Int64) (o : Nat) (t : Int64) : Int64 := if nI o &&& nI 2 = 0 then t else t ||| ((x ^^^ -1) &&& y)
def CN4 (x y : Int64) (o : Nat) (t : Int64) : Int64 := if nI o &&& nI 4 = 0 then t else t ||| (x &&& (y ^^^ -1))
def CN8 (x y : Int64) (o : Nat) (t : Int64) : Int64 := if nI o &&& nI 8 = 0 then t else t ||| (x &&& y)
def CNN (x y : Int64) (o : Nat) : Int64 := CN8 x y o (CN4 x y o (CN2 x y o (CN1 x y o 0)))
/-- bit a of a table -/
def bt (t : Int64) (a : Nat) : Bool := t.toBitVec.getLsbD a
theorem wt_eq : ∀ v, v < 6 → nI 1 <<< (nI (5 - v) &&& 31) = nI (2 ^ (5 - v)) := by decide +kernel
theorem cnt64 : ∀ a, a < 64 → (((nI a).toInt64.toUInt64 &&& Int64.toUInt64 63)).toBitVec.toNat = a := by decide +kernel
theorem at_eq {a : Nat} (ha : a < 64) (t : Int64) : lg_cmp ((t.toUInt64 >>> ((nI a).toInt64.toUInt64 &&& Int64.toUInt64 63)).toInt64 &&& 1) 1 = 0 ↔ bt t a = true := by
  rw [lg_cmp_eq]
  have hc := cnt64 a ha
  generalize ((nI a).toInt64.toUInt64 &&& Int64.toUInt64 63) = k at hc
  have key : ((t.toUInt64 >>> k).toInt64 &&& 1).toBitVec = (t.toBitVec >>> a) &&& 1#64 := by
    have : (t.toUInt64 >>> k).toInt64.toBitVec = t.toBitVec >>> a := by
      show (t.toUInt64 >>> k).toBitVec = _
      rw [UInt64.toBitVec_shiftRight]
      show t.toBitVec >>> (k.toBitVec % 64) = _
      rw [BitVec.ushiftRight_eq']
      congr 1
      rw [BitVec.toNat_umod, hc]
      exact Nat.mod_eq_of_lt ha
    rw [Int64.toBitVec_and, this]; rfl
  constructor
  · intro h
    have h1 := congrArg Int64.toBitVec h
    rw [key] at h1
    have h2 := congrArg (fun z => BitVec.getLsbD z 0) h1
    simpa [bt] using h2
  · intro h
    apply Int64.toBitVec_inj.mp
    rw [key]
    apply BitVec.eq_of_getLsbD_eq
    intro i hi
    by_cases h0 : i = 0
    · subst h0; simpa [bt] using h
    · have h9 : (1#64).getLsbD i = false := by
        rw [BitVec.getLsbD_one]; simp [h0]
      show ((t.toBitVec >>> a) &&& 1#64).getLsbD i = (1 : Int64).toBitVec.getLsbD i
      rw [BitVec.getLsbD_and, h9, Bool.and_false]
      exact h9.symm
/-- the words of the two throws -/
abbrev NM : List String := ["java/lang/RuntimeException", "java/lang/Exception"]
theorem at_IAE : ∀ w ∈ vx_at0 "SiftedGraphs" 78 IAE NM, w ∈ TW ∨ w ∈ NG := by decide +kernel
theorem at_NSE : ∀ w ∈ vx_at0 "SiftedGraphs" 140 NSE NM, w ∈ TW ∨ w ∈ NG := by decide +kernel
theorem gd_IAE : ∀ w ∈ Cond.classLink "SiftedGraphs" 76 IAE :: Cond.initialized IAE :: vx_at0 "SiftedGraphs" 78 IAE NM, vx_ot w = true := by decide +kernel
theorem gd_NSE : ∀ w ∈ Cond.classLink "SiftedGraphs" 138 NSE :: Cond.initialized NSE :: vx_at0 "SiftedGraphs" 140 NSE NM, vx_ot w = true := by decide +kernel
/-- a number below n -/
def inR (x : Int32) (n : Nat) : Prop := ∃ k, k < n ∧ x = nI k
theorem inR_of {x : Int32} {n : Nat} (hn : n < 2 ^ 31) (h0 : ¬ x < 0) (h1 : x < nI n) : inR x n := by
  rcases pk_ix x hn with h | h | ⟨j, hj, e⟩
  · exact absurd h h0
  · exact absurd h (by rw [Int32.le_iff_toInt_le]; rw [Int32.lt_iff_toInt_lt] at h1; omega)
  · exact ⟨j, hj, e⟩
theorem inR_nI {k n : Nat} (h : k < n) : inR (nI k) n := ⟨k, h, rfl⟩
set_option maxRecDepth 100000 in
set_option maxHeartbeats 4000000 in
theorem c_TB_weight (l : Launch) (g : Gx) (X : va_W) (v : Nat) (h1 : v < 6) : Met l y_TB_weight (w_TB_weight :: TW) rm_TB_weight (va_Pc [.int (nI v)] (PR g (X))) (va_Qi (fun r9 (u9 : Unit) => r9 = nI (2 ^ (5 - v))) (fun u9 t9 => PR g (X) t9) (gA g)) 0 0 (gA g) := by
  refine mt_of (by decide) (Nat.le_of_ble_eq_true rfl) ?_
  intro p e s m below meth c ls hx hb hr hml hlk hown ht hnm F hP hD hl
  have hl : lv_has ls 1 [(0, .int (nI v))] := hl
  have hS : va_S (gA g) s.heap s.heap [] := va_S.rf
  refine lv_iconst (v := nI 1) hx hb d_TB_weight_0 (by decide) ?_
  refine lv_iconst (v := nI 5) hx hb d_TB_weight_1 (by decide) ?_
  refine lv_iload_n hx hb d_TB_weight_2 rfl (lv_at hl 0 rfl) ?_
  refine rn_sub hx hb (by omega) d_TB_weight_3 ?_
  refine lv_ishl hx hb d_TB_weight_4 ?_
  exact W.iret (v := (nI 1) <<< (nI (5 - v) &&& 31)) hx hb hr (fun t9 e1 hW => ⟨⟨_, (), rfl, (wt_eq v h1), PR.at F hP hD hS e1 hW.alike⟩, hS.F e1⟩) hS.2.2 d_TB_weight_5
set_option maxRecDepth 100000 in
set_option maxHeartbeats 4000000 in
theorem c_TB_ofVariable (l : Launch) (g : Gx) (X : va_W) (v : Nat) (h1 : v < 6) : Met l y_TB_ofVariable (w_TB_ofVariable :: TW) rm_TB_ofVariable (va_Pc [.int (nI v)] (PR g (X))) (va_Ql (fun r9 (u9 : Unit) => r9 = mk6 v) (fun u9 t9 => PR g (X) t9) (gA g)) 0 0 (gA g) := by
  refine mt_of (by decide) (Nat.le_of_ble_eq_true rfl) ?_
  intro p e s m below meth c ls hx hb hr hml hlk hown ht hnm F hP hD hl
  have hl : lv_has ls 1 [(0, .int (nI v))] := hl
  have hS : va_S (gA g) s.heap s.heap [] := va_S.rf
  refine va_gets hx hb F.2.2.1 hS hown (ht _ tw_143) (fun _ h9 => h9) d_TB_ofVariable_0 ?_
  refine lv_iload_n hx hb d_TB_ofVariable_3 rfl (lv_at hl 0 rfl) ?_
  refine rs_tab hx hb F hS (by omega) d_TB_ofVariable_4 ?_
  exact W.lret (v := mk6 v) hx hb hr (fun t9 e1 hW => ⟨⟨_, (), rfl, rfl, PR.at F hP hD hS e1 hW.alike⟩, hS.F e1⟩) hS.2.2 d_TB_ofVariable_5
set_option maxRecDepth 100000 in
set_option maxHeartbeats 4000000 in
theorem c_TB_withOne (l : Launch) (g : Gx) (X : va_W) (t : Int64) (v : Nat) (h1 : v < 6) : Met l y_TB_withOne (w_TB_withOne :: TW) rm_TB_withOne (va_Pc [.long t, .int (nI v)] (PR g (X))) (va_Ql (fun r9 (u9 : Unit) => r9 = W1 t v) (fun u9 t9 => PR g (X) t9) (gA g)) 0 0 (gA g) := by
  refine mt_of (by decide) (Nat.le_of_ble_eq_true rfl) ?_
  intro p e s m below meth c ls hx hb hr hml hlk hown ht hnm F hP hD hl
  have hl : lv_has ls 5 [(0, .long t), (2, .int (nI v))] := hl
  have hS : va_S (gA g) s.heap s.heap [] := va_S.rf
  refine lv_lload_n hx hb d_TB_withOne_0 rfl (lv_at hl 0 rfl) ?_
  refine va_gets hx hb F.2.2.1 hS hown (ht _ tw_143) (fun _ h9 => h9) d_TB_withOne_1 ?_
  refine lv_iload_n hx hb d_TB_withOne_4 rfl (lv_at hl 1 rfl) ?_
  refine rs_tab hx hb F hS (by omega) d_TB_withOne_5 ?_
  refine lv_land hx hb d_TB_withOne_6 ?_
  refine lv_lstore_n (lv' := [(3, .long (t &&& (mk6 v))), (0, .long t), (2, .int (nI v))]) hx hb d_TB_withOne_7 rfl hl (by decide) rfl (fun ls hl => ?_)
  refine lv_lload_n hx hb d_TB_withOne_8 rfl (lv_at hl 0 rfl) ?_
  refine lv_lload_n hx hb d_TB_withOne_9 rfl (lv_at hl 0 rfl) ?_
  refine lv_iload_n hx hb d_TB_withOne_10 rfl (lv_at hl 2 rfl) ?_
  refine pc_Si (As := [.int (nI v)]) (rest := [.long (t &&& (mk6 v)), .long (t &&& (mk6 v))]) hx hb (hml.trans hl.1.symm) hown ht F hP hD hS (c_TB_weight l g (X) v (by omega)) v_TB_weight tw_146 ⟨rfl, rfl⟩ ⟨by decide, by decide⟩ rfl rfl (Nat.le_of_ble_eq_true rfl) ⟨Nat.zero_le _, Nat.zero_le _⟩ d_TB_withOne_11 (fun r9 u9 H locs hq hP hD hS => ?_)
  subst hq
  refine lv_lushr hx hb d_TB_withOne_14 rfl ?_
  refine lv_lor hx hb d_TB_withOne_15 ?_
  exact W.lret (v := (t &&& (mk6 v)) ||| (((t &&& (mk6 v)).toUInt64 >>> ((nI (2 ^ (5 - v))).toInt64.toUInt64 &&& Int64.toUInt64 63)).toInt64)) hx hb hr (fun t9 e1 hW => ⟨⟨_, (), rfl, rfl, PR.at F hP hD hS e1 hW.alike⟩, hS.F e1⟩) hS.2.2 d_TB_withOne_16
set_option maxRecDepth 100000 in
set_option maxHeartbeats 4000000 in
theorem c_TB_withZero (l : Launch) (g : Gx) (X : va_W) (t : Int64) (v : Nat) (h1 : v < 6) : Met l y_TB_withZero (w_TB_withZero :: TW) rm_TB_withZero (va_Pc [.long t, .int (nI v)] (PR g (X))) (va_Ql (fun r9 (u9 : Unit) => r9 = W0 t v) (fun u9 t9 => PR g (X) t9) (gA g)) 0 0 (gA g) := by
  refine mt_of (by decide) (Nat.le_of_ble_eq_true rfl) ?_
  intro p e s m below meth c ls hx hb hr hml hlk hown ht hnm F hP hD hl
  have hl : lv_has ls 5 [(0, .long t), (2, .int (nI v))] := hl
  have hS : va_S (gA g) s.heap s.heap [] := va_S.rf
  refine lv_lload_n hx hb d_TB_withZero_0 rfl (lv_at hl 0 rfl) ?_
  refine va_gets hx hb F.2.2.1 hS hown (ht _ tw_143) (fun _ h9 => h9) d_TB_withZero_1 ?_
  refine lv_iload_n hx hb d_TB_withZero_4 rfl (lv_at hl 1 rfl) ?_
  refine rs_tab hx hb F hS (by omega) d_TB_withZero_5 ?_
  refine lv_ldc2 (v := (-1)) hx hb hown (ht _ tw_145) d_TB_withZero_6 ?_
  refine lv_lxor hx hb d_TB_withZero_9 ?_
  refine lv_land hx hb d_TB_withZero_10 ?_
  refine lv_lstore_n (lv' := [(3, .long (t &&& ((mk6 v) ^^^ (-1)))), (0, .long t), (2, .int (nI v))]) hx hb d_TB_withZero_11 rfl hl (by decide) rfl (fun ls hl => ?_)
  refine lv_lload_n hx hb d_TB_withZero_12 rfl (lv_at hl 0 rfl) ?_
  refine lv_lload_n hx hb d_TB_withZero_13 rfl (lv_at hl 0 rfl) ?_
  refine lv_iload_n hx hb d_TB_withZero_14 rfl (lv_at hl 2 rfl) ?_
  refine pc_Si (As := [.int (nI v)]) (rest := [.long (t &&& ((mk6 v) ^^^ (-1))), .long (t &&& ((mk6 v) ^^^ (-1)))]) hx hb (hml.trans hl.1.symm) hown ht F hP hD hS (c_TB_weight l g (X) v (by omega)) v_TB_weight tw_146 ⟨rfl, rfl⟩ ⟨by decide, by decide⟩ rfl rfl (Nat.le_of_ble_eq_true rfl) ⟨Nat.zero_le _, Nat.zero_le _⟩ d_TB_withZero_15 (fun r9 u9 H locs hq hP hD hS => ?_)
  subst hq
  refine lv_lshl hx hb d_TB_withZero_18 rfl ?_
  refine lv_lor hx hb d_TB_withZero_19 ?_
  exact W.lret (v := (t &&& ((mk6 v) ^^^ (-1))) ||| ((t &&& ((mk6 v) ^^^ (-1))) <<< ((nI (2 ^ (5 - v))).toInt64 &&& 63))) hx hb hr (fun t9 e1 hW => ⟨⟨_, (), rfl, rfl, PR.at F hP hD hS e1 hW.alike⟩, hS.F e1⟩) hS.2.2 d_TB_withZero_20
set_option maxRecDepth 100000 in
set_option maxHeartbeats 4000000 in
theorem c_TB_dependsOn (l : Launch) (g : Gx) (X : va_W) (t : Int64) (v : Nat) (h1 : v < 6) : Met l y_TB_dependsOn (w_TB_dependsOn :: TW) rm_TB_dependsOn (va_Pc [.long t, .int (nI v)] (PR g (X))) (va_Qi (fun r9 (u9 : Unit) => r9 = bI (¬ W1 t v = W0 t v)) (fun u9 t9 => PR g (X) t9) (gA g)) 0 0 (gA g) := by
  refine mt_of (by decide) (Nat.le_of_ble_eq_true rfl) ?_
  intro p e s m below meth c ls hx hb hr hml hlk hown ht hnm F hP hD hl
  have hl : lv_has ls 3 [(0, .long t), (2, .int (nI v))] := hl
  have hS : va_S (gA g) s.heap s.heap [] := va_S.rf
  refine lv_lload_n hx hb d_TB_dependsOn_0 rfl (lv_at hl 0 rfl) ?_
  refine lv_iload_n hx hb d_TB_dependsOn_1 rfl (lv_at hl 1 rfl) ?_
  refine pc_Sl (As := [.long t, .int (nI v)]) (rest := []) hx hb (hml.trans hl.1.symm) hown ht F hP hD hS (c_TB_withOne l g (X) t v (by omega)) v_TB_withOne tw_411 ⟨rfl, rfl⟩ ⟨by decide, by decide⟩ rfl rfl (Nat.le_of_ble_eq_true rfl) ⟨Nat.zero_le _, Nat.zero_le _⟩ d_TB_dependsOn_2 (fun r9 u9 H locs hq hP hD hS => ?_)
  subst hq
  refine lv_lload_n hx hb d_TB_dependsOn_5 rfl (lv_at hl 0 rfl) ?_
  refine lv_iload_n hx hb d_TB_dependsOn_6 rfl (lv_at hl 1 rfl) ?_
  refine pc_Sl (As := [.long t, .int (nI v)]) (rest := [.long (W1 t v)]) hx hb (hml.trans hl.1.symm) hown ht F hP hD hS (c_TB_withZero l g (X) t v (by omega)) v_TB_withZero tw_412 ⟨rfl, rfl⟩ ⟨by decide, by decide⟩ rfl rfl (Nat.le_of_ble_eq_true rfl) ⟨Nat.zero_le _, Nat.zero_le _⟩ d_TB_dependsOn_7 (fun r9 u9 H locs hq hP hD hS => ?_)
  subst hq
  refine W.lcmp hx hb d_TB_dependsOn_10 ?_
  refine lv_if_eq (tgt := 18) hx hb d_TB_dependsOn_11 (by decide) (fun c11 => ?_) (fun c11 => ?_)
  · refine lv_iconst (v := nI 0) hx hb d_TB_dependsOn_18 (by decide) ?_
    exact W.zret (v := nI 0) hx hb hr (by decide) (fun t9 e1 hW => ⟨⟨_, (), rfl, (bI_f (fun h => h ((lg_cmp_eq _ _).mp c11))), PR.at F hP hD hS e1 hW.alike⟩, hS.F e1⟩) hS.2.2 d_TB_dependsOn_19
  · refine lv_iconst (v := nI 1) hx hb d_TB_dependsOn_14 (by decide) ?_
    refine lv_goto (tgt := 19) hx hb d_TB_dependsOn_15 (by decide) ?_
    exact W.zret (v := nI 1) hx hb hr (by decide) (fun t9 e1 hW => ⟨⟨_, (), rfl, (bI_t (fun h => c11 ((lg_cmp_eq _ _).mpr h))), PR.at F hP hD hS e1 hW.alike⟩, hS.F e1⟩) hS.2.2 d_TB_dependsOn_19
set_option maxRecDepth 100000 in
set_option maxHeartbeats 4000000 in
theorem c_TB_at (l : Launch) (g : Gx) (X : va_W) (t : Int64) (a : Nat) (h1 : a < 64) : Met l y_TB_at (w_TB_at :: TW) rm_TB_at (va_Pc [.long t, .int (nI a)] (PR g (X))) (va_Qi (fun r9 (u9 : Unit) => r9 = bI (bt t a = true)) (fun u9 t9 => PR g (X) t9) (gA g)) 0 0 (gA g) := by
  refine mt_of (by decide) (Nat.le_of_ble_eq_true rfl) ?_
  intro p e s m below meth c ls hx hb hr hml hlk hown ht hnm F hP hD hl
  have hl : lv_has ls 3 [(0, .long t), (2, .int (nI a))] := hl
  have hS : va_S (gA g) s.heap s.heap [] := va_S.rf
  refine lv_lload_n hx hb d_TB_at_0 rfl (lv_at hl 0 rfl) ?_
  refine lv_iload_n hx hb d_TB_at_1 rfl (lv_at hl 1 rfl) ?_
  refine lv_lushr hx hb d_TB_at_2 rfl ?_
  refine lv_lconst (v := 1) hx hb d_TB_at_3 (by decide) ?_
  refine lv_land hx hb d_TB_at_4 ?_
  refine lv_lconst (v := 1) hx hb d_TB_at_5 (by decide) ?_
  refine W.lcmp hx hb d_TB_at_6 ?_
  refine lv_if_ne (tgt := 14) hx hb d_TB_at_7 (by decide) (fun c7 => ?_) (fun c7 => ?_)
  · refine lv_iconst (v := nI 0) hx hb d_TB_at_14 (by decide) ?_
    exact W.zret (v := nI 0) hx hb hr (by decide) (fun t9 e1 hW => ⟨⟨_, (), rfl, (bI_f (fun h => c7 ((at_eq h1 t).mpr h))), PR.at F hP hD hS e1 hW.alike⟩, hS.F e1⟩) hS.2.2 d_TB_at_15
  · refine lv_iconst (v := nI 1) hx hb d_TB_at_10 (by decide) ?_
    refine lv_goto (tgt := 15) hx hb d_TB_at_11 (by decide) ?_
    exact W.zret (v := nI 1) hx hb hr (by decide) (fun t9 e1 hW => ⟨⟨_, (), rfl, (bI_t ((at_eq h1 t).mp c7)), PR.at F hP hD hS e1 hW.alike⟩, hS.F e1⟩) hS.2.2 d_TB_at_15
set_option maxRecDepth 100000 in
set_option maxHeartbeats 4000000 in
theorem c_TB_chosen (l : Launch) (g : Gx) (X : va_W) (x y z : Int64) : Met l y_TB_chosen (w_TB_chosen :: TW) rm_TB_chosen (va_Pc [.long x, .long y, .long z] (PR g (X))) (va_Ql (fun r9 (u9 : Unit) => r9 = CH x y z) (fun u9 t9 => PR g (X) t9) (gA g)) 0 0 (gA g) := by
  refine mt_of (by decide) (Nat.le_of_ble_eq_true rfl) ?_
  intro p e s m below meth c ls hx hb hr hml hlk hown ht hnm F hP hD hl
  have hl : lv_has ls 6 [(0, .long x), (2, .long y), (4, .long z)] := hl
  have hS : va_S (gA g) s.heap s.heap [] := va_S.rf
  refine lv_lload_n hx hb d_TB_chosen_0 rfl (lv_at hl 0 rfl) ?_
  refine lv_lload_n hx hb d_TB_chosen_1 rfl (lv_at hl 1 rfl) ?_
  refine lv_land hx hb d_TB_chosen_2 ?_
  refine lv_lload_n hx hb d_TB_chosen_3 rfl (lv_at hl 0 rfl) ?_
  refine lv_ldc2 (v := (-1)) hx hb hown (ht _ tw_145) d_TB_chosen_4 ?_
  refine lv_lxor hx hb d_TB_chosen_7 ?_
  refine lv_lload hx hb d_TB_chosen_8 (lv_at hl 2 rfl) ?_
  refine lv_land hx hb d_TB_chosen_10 ?_
  refine lv_lor hx hb d_TB_chosen_11 ?_
  exact W.lret (v := (x &&& y) ||| ((x ^^^ (-1)) &&& z)) hx hb hr (fun t9 e1 hW => ⟨⟨_, (), rfl, rfl, PR.at F hP hD hS e1 hW.alike⟩, hS.F e1⟩) hS.2.2 d_TB_chosen_12
set_option maxRecDepth 100000 in
set_option maxHeartbeats 4000000 in
theorem c_TB_connected (l : Launch) (g : Gx) (X : va_W) (x y : Int64) (o : Nat) : Met l y_TB_connected (w_TB_connected :: TW) rm_TB_connected (va_Pc [.long x, .long y, .int (nI o)] (PR g (X))) (va_Ql (fun r9 (u9 : Unit) => r9 = CNN x y o) (fun u9 t9 => PR g (X) t9) (gA g)) 0 0 (gA g) := by
  refine mt_of (by decide) (Nat.le_of_ble_eq_true rfl) ?_
  intro p e s m below meth c ls hx hb hr hml hlk hown ht hnm F hP hD hl
  have hl : lv_has ls 7 [(0, .long x), (2, .long y), (4, .int (nI o))] := hl
  have hS : va_S (gA g) s.heap s.heap [] := va_S.rf
  refine lv_lconst (v := 0) hx hb d_TB_connected_0 (by decide) ?_
  refine lv_lstore (lv' := [(5, .long 0), (0, .long x), (2, .long y), (4, .int (nI o))]) hx hb d_TB_connected_1 hl (by decide) rfl (fun ls hl => ?_)
  refine lv_iload hx hb d_TB_connected_3 (lv_at hl 3 rfl) ?_
  refine lv_iconst (v := nI 1) hx hb d_TB_connected_5 (by decide) ?_
  refine lv_iand hx hb d_TB_connected_6 ?_
  refine lv_if_eq (tgt := 26) hx hb d_TB_connected_7 (by decide) (fun c7 => ?_) (fun c7 => ?_)
  · refine lv_iload hx hb d_TB_connected_26 (lv_at hl 3 rfl) ?_
    refine lv_iconst (v := nI 2) hx hb d_TB_connected_28 (by decide) ?_
    refine lv_iand hx hb d_TB_connected_29 ?_
    refine lv_if_eq (tgt := 45) hx hb d_TB_connected_30 (by decide) (fun c30 => ?_) (fun c30 => ?_)
    · refine lv_iload hx hb d_TB_connected_45 (lv_at hl 3 rfl) ?_
      refine lv_iconst (v := nI 4) hx hb d_TB_connected_47 (by decide) ?_
      refine lv_iand hx hb d_TB_connected_48 ?_
      refine lv_if_eq (tgt := 64) hx hb d_TB_connected_49 (by decide) (fun c49 => ?_) (fun c49 => ?_)
      · refine lv_iload hx hb d_TB_connected_64 (lv_at hl 3 rfl) ?_
        refine lv_bipush (v := nI 8) hx hb d_TB_connected_66 (by decide) ?_
        refine lv_iand hx hb d_TB_connected_68 ?_
        refine lv_if_eq (tgt := 80) hx hb d_TB_connected_69 (by decide) (fun c69 => ?_) (fun c69 => ?_)
        · refine lv_lload hx hb d_TB_connected_80 (lv_at hl 0 rfl) ?_
          exact W.lret (v := 0) hx hb hr (fun t9 e1 hW => ⟨⟨_, (), rfl, (by unfold CNN CN8 CN4 CN2 CN1; rw [if_pos c69, if_pos c49, if_pos c30, if_pos c7]), PR.at F hP hD hS e1 hW.alike⟩, hS.F e1⟩) hS.2.2 d_TB_connected_82
        · refine lv_lload hx hb d_TB_connected_72 (lv_at hl 0 rfl) ?_
          refine lv_lload_n hx hb d_TB_connected_74 rfl (lv_at hl 1 rfl) ?_
          refine lv_lload_n hx hb d_TB_connected_75 rfl (lv_at hl 2 rfl) ?_
          refine lv_land hx hb d_TB_connected_76 ?_
          refine lv_lor hx hb d_TB_connected_77 ?_
          refine lv_lstore (lv' := [(5, .long (0 ||| (x &&& y))), (0, .long x), (2, .long y), (4, .int (nI o))]) hx hb d_TB_connected_78 hl (by decide) rfl (fun ls hl => ?_)
          refine lv_lload hx hb d_TB_connected_80 (lv_at hl 0 rfl) ?_
          exact W.lret (v := 0 ||| (x &&& y)) hx hb hr (fun t9 e1 hW => ⟨⟨_, (), rfl, (by unfold CNN CN8 CN4 CN2 CN1; rw [if_neg c69, if_pos c49, if_pos c30, if_pos c7]), PR.at F hP hD hS e1 hW.alike⟩, hS.F e1⟩) hS.2.2 d_TB_connected_82
      · refine lv_lload hx hb d_TB_connected_52 (lv_at hl 0 rfl) ?_
        refine lv_lload_n hx hb d_TB_connected_54 rfl (lv_at hl 1 rfl) ?_
        refine lv_lload_n hx hb d_TB_connected_55 rfl (lv_at hl 2 rfl) ?_
        refine lv_ldc2 (v := (-1)) hx hb hown (ht _ tw_145) d_TB_connected_56 ?_
        refine lv_lxor hx hb d_TB_connected_59 ?_
        refine lv_land hx hb d_TB_connected_60 ?_
        refine lv_lor hx hb d_TB_connected_61 ?_
        refine lv_lstore (lv' := [(5, .long (0 ||| (x &&& (y ^^^ (-1))))), (0, .long x), (2, .long y), (4, .int (nI o))]) hx hb d_TB_connected_62 hl (by decide) rfl (fun ls hl => ?_)
        refine lv_iload hx hb d_TB_connected_64 (lv_at hl 3 rfl) ?_
        refine lv_bipush (v := nI 8) hx hb d_TB_connected_66 (by decide) ?_
        refine lv_iand hx hb d_TB_connected_68 ?_
        refine lv_if_eq (tgt := 80) hx hb d_TB_connected_69 (by decide) (fun c69 => ?_) (fun c69 => ?_)
        · refine lv_lload hx hb d_TB_connected_80 (lv_at hl 0 rfl) ?_
          exact W.lret (v := 0 ||| (x &&& (y ^^^ (-1)))) hx hb hr (fun t9 e1 hW => ⟨⟨_, (), rfl, (by unfold CNN CN8 CN4 CN2 CN1; rw [if_pos c69, if_neg c49, if_pos c30, if_pos c7]), PR.at F hP hD hS e1 hW.alike⟩, hS.F e1⟩) hS.2.2 d_TB_connected_82
        · refine lv_lload hx hb d_TB_connected_72 (lv_at hl 0 rfl) ?_
          refine lv_lload_n hx hb d_TB_connected_74 rfl (lv_at hl 1 rfl) ?_
          refine lv_lload_n hx hb d_TB_connected_75 rfl (lv_at hl 2 rfl) ?_
          refine lv_land hx hb d_TB_connected_76 ?_
          refine lv_lor hx hb d_TB_connected_77 ?_
          refine lv_lstore (lv' := [(5, .long ((0 ||| (x &&& (y ^^^ (-1)))) ||| (x &&& y))), (0, .long x), (2, .long y), (4, .int (nI o))]) hx hb d_TB_connected_78 hl (by decide) rfl (fun ls hl => ?_)
          refine lv_lload hx hb d_TB_connected_80 (lv_at hl 0 rfl) ?_
          exact W.lret (v := (0 ||| (x &&& (y ^^^ (-1)))) ||| (x &&& y)) hx hb hr (fun t9 e1 hW => ⟨⟨_, (), rfl, (by unfold CNN CN8 CN4 CN2 CN1; rw [if_neg c69, if_neg c49, if_pos c30, if_pos c7]), PR.at F hP hD hS e1 hW.alike⟩, hS.F e1⟩) hS.2.2 d_TB_connected_82
    · refine lv_lload hx hb d_TB_connected_33 (lv_at hl 0 rfl) ?_
      refine lv_lload_n hx hb d_TB_connected_35 rfl (lv_at hl 1 rfl) ?_
      refine lv_ldc2 (v := (-1)) hx hb hown (ht _ tw_145) d_TB_connected_36 ?_
      refine lv_lxor hx hb d_TB_connected_39 ?_
      refine lv_lload_n hx hb d_TB_connected_40 rfl (lv_at hl 2 rfl) ?_
      refine lv_land hx hb d_TB_connected_41 ?_
      refine lv_lor hx hb d_TB_connected_42 ?_
      refine lv_lstore (lv' := [(5, .long (0 ||| ((x ^^^ (-1)) &&& y))), (0, .long x), (2, .long y), (4, .int (nI o))]) hx hb d_TB_connected_43 hl (by decide) rfl (fun ls hl => ?_)
      refine lv_iload hx hb d_TB_connected_45 (lv_at hl 3 rfl) ?_
      refine lv_iconst (v := nI 4) hx hb d_TB_connected_47 (by decide) ?_
      refine lv_iand hx hb d_TB_connected_48 ?_
      refine lv_if_eq (tgt := 64) hx hb d_TB_connected_49 (by decide) (fun c49 => ?_) (fun c49 => ?_)
      · refine lv_iload hx hb d_TB_connected_64 (lv_at hl 3 rfl) ?_
        refine lv_bipush (v := nI 8) hx hb d_TB_connected_66 (by decide) ?_
        refine lv_iand hx hb d_TB_connected_68 ?_
        refine lv_if_eq (tgt := 80) hx hb d_TB_connected_69 (by decide) (fun c69 => ?_) (fun c69 => ?_)
        · refine lv_lload hx hb d_TB_connected_80 (lv_at hl 0 rfl) ?_
          exact W.lret (v := 0 ||| ((x ^^^ (-1)) &&& y)) hx hb hr (fun t9 e1 hW => ⟨⟨_, (), rfl, (by unfold CNN CN8 CN4 CN2 CN1; rw [if_pos c69, if_pos c49, if_neg c30, if_pos c7]), PR.at F hP hD hS e1 hW.alike⟩, hS.F e1⟩) hS.2.2 d_TB_connected_82
        · refine lv_lload hx hb d_TB_connected_72 (lv_at hl 0 rfl) ?_
          refine lv_lload_n hx hb d_TB_connected_74 rfl (lv_at hl 1 rfl) ?_
          refine lv_lload_n hx hb d_TB_connected_75 rfl (lv_at hl 2 rfl) ?_
          refine lv_land hx hb d_TB_connected_76 ?_
          refine lv_lor hx hb d_TB_connected_77 ?_
          refine lv_lstore (lv' := [(5, .long ((0 ||| ((x ^^^ (-1)) &&& y)) ||| (x &&& y))), (0, .long x), (2, .long y), (4, .int (nI o))]) hx hb d_TB_connected_78 hl (by decide) rfl (fun ls hl => ?_)
          refine lv_lload hx hb d_TB_connected_80 (lv_at hl 0 rfl) ?_
          exact W.lret (v := (0 ||| ((x ^^^ (-1)) &&& y)) ||| (x &&& y)) hx hb hr (fun t9 e1 hW => ⟨⟨_, (), rfl, (by unfold CNN CN8 CN4 CN2 CN1; rw [if_neg c69, if_pos c49, if_neg c30, if_pos c7]), PR.at F hP hD hS e1 hW.alike⟩, hS.F e1⟩) hS.2.2 d_TB_connected_82
      · refine lv_lload hx hb d_TB_connected_52 (lv_at hl 0 rfl) ?_
        refine lv_lload_n hx hb d_TB_connected_54 rfl (lv_at hl 1 rfl) ?_
        refine lv_lload_n hx hb d_TB_connected_55 rfl (lv_at hl 2 rfl) ?_
        refine lv_ldc2 (v := (-1)) hx hb hown (ht _ tw_145) d_TB_connected_56 ?_
        refine lv_lxor hx hb d_TB_connected_59 ?_
        refine lv_land hx hb d_TB_connected_60 ?_
        refine lv_lor hx hb d_TB_connected_61 ?_
        refine lv_lstore (lv' := [(5, .long ((0 ||| ((x ^^^ (-1)) &&& y)) ||| (x &&& (y ^^^ (-1))))), (0, .long x), (2, .long y), (4, .int (nI o))]) hx hb d_TB_connected_62 hl (by decide) rfl (fun ls hl => ?_)
        refine lv_iload hx hb d_TB_connected_64 (lv_at hl 3 rfl) ?_
        refine lv_bipush (v := nI 8) hx hb d_TB_connected_66 (by decide) ?_
        refine lv_iand hx hb d_TB_connected_68 ?_
        refine lv_if_eq (tgt := 80) hx hb d_TB_connected_69 (by decide) (fun c69 => ?_) (fun c69 => ?_)
        · refine lv_lload hx hb d_TB_connected_80 (lv_at hl 0 rfl) ?_
          exact W.lret (v := (0 ||| ((x ^^^ (-1)) &&& y)) ||| (x &&& (y ^^^ (-1)))) hx hb hr (fun t9 e1 hW => ⟨⟨_, (), rfl, (by unfold CNN CN8 CN4 CN2 CN1; rw [if_pos c69, if_neg c49, if_neg c30, if_pos c7]), PR.at F hP hD hS e1 hW.alike⟩, hS.F e1⟩) hS.2.2 d_TB_connected_82
        · refine lv_lload hx hb d_TB_connected_72 (lv_at hl 0 rfl) ?_
          refine lv_lload_n hx hb d_TB_connected_74 rfl (lv_at hl 1 rfl) ?_
          refine lv_lload_n hx hb d_TB_connected_75 rfl (lv_at hl 2 rfl) ?_
          refine lv_land hx hb d_TB_connected_76 ?_
          refine lv_lor hx hb d_TB_connected_77 ?_
          refine lv_lstore (lv' := [(5, .long (((0 ||| ((x ^^^ (-1)) &&& y)) ||| (x &&& (y ^^^ (-1)))) ||| (x &&& y))), (0, .long x), (2, .long y), (4, .int (nI o))]) hx hb d_TB_connected_78 hl (by decide) rfl (fun ls hl => ?_)
          refine lv_lload hx hb d_TB_connected_80 (lv_at hl 0 rfl) ?_
          exact W.lret (v := ((0 ||| ((x ^^^ (-1)) &&& y)) ||| (x &&& (y ^^^ (-1)))) ||| (x &&& y)) hx hb hr (fun t9 e1 hW => ⟨⟨_, (), rfl, (by unfold CNN CN8 CN4 CN2 CN1; rw [if_neg c69, if_neg c49, if_neg c30, if_pos c7]), PR.at F hP hD hS e1 hW.alike⟩, hS.F e1⟩) hS.2.2 d_TB_connected_82
  · refine lv_lload hx hb d_TB_connected_10 (lv_at hl 0 rfl) ?_
    refine lv_lload_n hx hb d_TB_connected_12 rfl (lv_at hl 1 rfl) ?_
    refine lv_ldc2 (v := (-1)) hx hb hown (ht _ tw_145) d_TB_connected_13 ?_
    refine lv_lxor hx hb d_TB_connected_16 ?_
    refine lv_lload_n hx hb d_TB_connected_17 rfl (lv_at hl 2 rfl) ?_
    refine lv_ldc2 (v := (-1)) hx hb hown (ht _ tw_145) d_TB_connected_18 ?_
    refine lv_lxor hx hb d_TB_connected_21 ?_
    refine lv_land hx hb d_TB_connected_22 ?_
    refine lv_lor hx hb d_TB_connected_23 ?_
    refine lv_lstore (lv' := [(5, .long (0 ||| ((x ^^^ (-1)) &&& (y ^^^ (-1))))), (0, .long x), (2, .long y), (4, .int (nI o))]) hx hb d_TB_connected_24 hl (by decide) rfl (fun ls hl => ?_)
    refine lv_iload hx hb d_TB_connected_26 (lv_at hl 3 rfl) ?_
    refine lv_iconst (v := nI 2) hx hb d_TB_connected_28 (by decide) ?_
    refine lv_iand hx hb d_TB_connected_29 ?_
    refine lv_if_eq (tgt := 45) hx hb d_TB_connected_30 (by decide) (fun c30 => ?_) (fun c30 => ?_)
    · refine lv_iload hx hb d_TB_connected_45 (lv_at hl 3 rfl) ?_
      refine lv_iconst (v := nI 4) hx hb d_TB_connected_47 (by decide) ?_
      refine lv_iand hx hb d_TB_connected_48 ?_
      refine lv_if_eq (tgt := 64) hx hb d_TB_connected_49 (by decide) (fun c49 => ?_) (fun c49 => ?_)
      · refine lv_iload hx hb d_TB_connected_64 (lv_at hl 3 rfl) ?_
        refine lv_bipush (v := nI 8) hx hb d_TB_connected_66 (by decide) ?_
        refine lv_iand hx hb d_TB_connected_68 ?_
        refine lv_if_eq (tgt := 80) hx hb d_TB_connected_69 (by decide) (fun c69 => ?_) (fun c69 => ?_)
        · refine lv_lload hx hb d_TB_connected_80 (lv_at hl 0 rfl) ?_
          exact W.lret (v := 0 ||| ((x ^^^ (-1)) &&& (y ^^^ (-1)))) hx hb hr (fun t9 e1 hW => ⟨⟨_, (), rfl, (by unfold CNN CN8 CN4 CN2 CN1; rw [if_pos c69, if_pos c49, if_pos c30, if_neg c7]), PR.at F hP hD hS e1 hW.alike⟩, hS.F e1⟩) hS.2.2 d_TB_connected_82
        · refine lv_lload hx hb d_TB_connected_72 (lv_at hl 0 rfl) ?_
          refine lv_lload_n hx hb d_TB_connected_74 rfl (lv_at hl 1 rfl) ?_
          refine lv_lload_n hx hb d_TB_connected_75 rfl (lv_at hl 2 rfl) ?_
          refine lv_land hx hb d_TB_connected_76 ?_
          refine lv_lor hx hb d_TB_connected_77 ?_
          refine lv_lstore (lv' := [(5, .long ((0 ||| ((x ^^^ (-1)) &&& (y ^^^ (-1)))) ||| (x &&& y))), (0, .long x), (2, .long y), (4, .int (nI o))]) hx hb d_TB_connected_78 hl (by decide) rfl (fun ls hl => ?_)
          refine lv_lload hx hb d_TB_connected_80 (lv_at hl 0 rfl) ?_
          exact W.lret (v := (0 ||| ((x ^^^ (-1)) &&& (y ^^^ (-1)))) ||| (x &&& y)) hx hb hr (fun t9 e1 hW => ⟨⟨_, (), rfl, (by unfold CNN CN8 CN4 CN2 CN1; rw [if_neg c69, if_pos c49, if_pos c30, if_neg c7]), PR.at F hP hD hS e1 hW.alike⟩, hS.F e1⟩) hS.2.2 d_TB_connected_82
      · refine lv_lload hx hb d_TB_connected_52 (lv_at hl 0 rfl) ?_
        refine lv_lload_n hx hb d_TB_connected_54 rfl (lv_at hl 1 rfl) ?_
        refine lv_lload_n hx hb d_TB_connected_55 rfl (lv_at hl 2 rfl) ?_
        refine lv_ldc2 (v := (-1)) hx hb hown (ht _ tw_145) d_TB_connected_56 ?_
        refine lv_lxor hx hb d_TB_connected_59 ?_
        refine lv_land hx hb d_TB_connected_60 ?_
        refine lv_lor hx hb d_TB_connected_61 ?_
        refine lv_lstore (lv' := [(5, .long ((0 ||| ((x ^^^ (-1)) &&& (y ^^^ (-1)))) ||| (x &&& (y ^^^ (-1))))), (0, .long x), (2, .long y), (4, .int (nI o))]) hx hb d_TB_connected_62 hl (by decide) rfl (fun ls hl => ?_)
        refine lv_iload hx hb d_TB_connected_64 (lv_at hl 3 rfl) ?_
        refine lv_bipush (v := nI 8) hx hb d_TB_connected_66 (by decide) ?_
        refine lv_iand hx hb d_TB_connected_68 ?_
        refine lv_if_eq (tgt := 80) hx hb d_TB_connected_69 (by decide) (fun c69 => ?_) (fun c69 => ?_)
        · refine lv_lload hx hb d_TB_connected_80 (lv_at hl 0 rfl) ?_
          exact W.lret (v := (0 ||| ((x ^^^ (-1)) &&& (y ^^^ (-1)))) ||| (x &&& (y ^^^ (-1)))) hx hb hr (fun t9 e1 hW => ⟨⟨_, (), rfl, (by unfold CNN CN8 CN4 CN2 CN1; rw [if_pos c69, if_neg c49, if_pos c30, if_neg c7]), PR.at F hP hD hS e1 hW.alike⟩, hS.F e1⟩) hS.2.2 d_TB_connected_82
        · refine lv_lload hx hb d_TB_connected_72 (lv_at hl 0 rfl) ?_
          refine lv_lload_n hx hb d_TB_connected_74 rfl (lv_at hl 1 rfl) ?_
          refine lv_lload_n hx hb d_TB_connected_75 rfl (lv_at hl 2 rfl) ?_
          refine lv_land hx hb d_TB_connected_76 ?_
          refine lv_lor hx hb d_TB_connected_77 ?_
          refine lv_lstore (lv' := [(5, .long (((0 ||| ((x ^^^ (-1)) &&& (y ^^^ (-1)))) ||| (x &&& (y ^^^ (-1)))) ||| (x &&& y))), (0, .long x), (2, .long y), (4, .int (nI o))]) hx hb d_TB_connected_78 hl (by decide) rfl (fun ls hl => ?_)
          refine lv_lload hx hb d_TB_connected_80 (lv_at hl 0 rfl) ?_
          exact W.lret (v := ((0 ||| ((x ^^^ (-1)) &&& (y ^^^ (-1)))) ||| (x &&& (y ^^^ (-1)))) ||| (x &&& y)) hx hb hr (fun t9 e1 hW => ⟨⟨_, (), rfl, (by unfold CNN CN8 CN4 CN2 CN1; rw [if_neg c69, if_neg c49, if_pos c30, if_neg c7]), PR.at F hP hD hS e1 hW.alike⟩, hS.F e1⟩) hS.2.2 d_TB_connected_82
    · refine lv_lload hx hb d_TB_connected_33 (lv_at hl 0 rfl) ?_
      refine lv_lload_n hx hb d_TB_connected_35 rfl (lv_at hl 1 rfl) ?_
      refine lv_ldc2 (v := (-1)) hx hb hown (ht _ tw_145) d_TB_connected_36 ?_
      refine lv_lxor hx hb d_TB_connected_39 ?_
      refine lv_lload_n hx hb d_TB_connected_40 rfl (lv_at hl 2 rfl) ?_
      refine lv_land hx hb d_TB_connected_41 ?_
      refine lv_lor hx hb d_TB_connected_42 ?_
      refine lv_lstore (lv' := [(5, .long ((0 ||| ((x ^^^ (-1)) &&& (y ^^^ (-1)))) ||| ((x ^^^ (-1)) &&& y))), (0, .long x), (2, .long y), (4, .int (nI o))]) hx hb d_TB_connected_43 hl (by decide) rfl (fun ls hl => ?_)
      refine lv_iload hx hb d_TB_connected_45 (lv_at hl 3 rfl) ?_
      refine lv_iconst (v := nI 4) hx hb d_TB_connected_47 (by decide) ?_
      refine lv_iand hx hb d_TB_connected_48 ?_
      refine lv_if_eq (tgt := 64) hx hb d_TB_connected_49 (by decide) (fun c49 => ?_) (fun c49 => ?_)
      · refine lv_iload hx hb d_TB_connected_64 (lv_at hl 3 rfl) ?_
        refine lv_bipush (v := nI 8) hx hb d_TB_connected_66 (by decide) ?_
        refine lv_iand hx hb d_TB_connected_68 ?_
        refine lv_if_eq (tgt := 80) hx hb d_TB_connected_69 (by decide) (fun c69 => ?_) (fun c69 => ?_)
        · refine lv_lload hx hb d_TB_connected_80 (lv_at hl 0 rfl) ?_
          exact W.lret (v := (0 ||| ((x ^^^ (-1)) &&& (y ^^^ (-1)))) ||| ((x ^^^ (-1)) &&& y)) hx hb hr (fun t9 e1 hW => ⟨⟨_, (), rfl, (by unfold CNN CN8 CN4 CN2 CN1; rw [if_pos c69, if_pos c49, if_neg c30, if_neg c7]), PR.at F hP hD hS e1 hW.alike⟩, hS.F e1⟩) hS.2.2 d_TB_connected_82
        · refine lv_lload hx hb d_TB_connected_72 (lv_at hl 0 rfl) ?_
          refine lv_lload_n hx hb d_TB_connected_74 rfl (lv_at hl 1 rfl) ?_
          refine lv_lload_n hx hb d_TB_connected_75 rfl (lv_at hl 2 rfl) ?_
          refine lv_land hx hb d_TB_connected_76 ?_
          refine lv_lor hx hb d_TB_connected_77 ?_
          refine lv_lstore (lv' := [(5, .long (((0 ||| ((x ^^^ (-1)) &&& (y ^^^ (-1)))) ||| ((x ^^^ (-1)) &&& y)) ||| (x &&& y))), (0, .long x), (2, .long y), (4, .int (nI o))]) hx hb d_TB_connected_78 hl (by decide) rfl (fun ls hl => ?_)
          refine lv_lload hx hb d_TB_connected_80 (lv_at hl 0 rfl) ?_
          exact W.lret (v := ((0 ||| ((x ^^^ (-1)) &&& (y ^^^ (-1)))) ||| ((x ^^^ (-1)) &&& y)) ||| (x &&& y)) hx hb hr (fun t9 e1 hW => ⟨⟨_, (), rfl, (by unfold CNN CN8 CN4 CN2 CN1; rw [if_neg c69, if_pos c49, if_neg c30, if_neg c7]), PR.at F hP hD hS e1 hW.alike⟩, hS.F e1⟩) hS.2.2 d_TB_connected_82
      · refine lv_lload hx hb d_TB_connected_52 (lv_at hl 0 rfl) ?_
        refine lv_lload_n hx hb d_TB_connected_54 rfl (lv_at hl 1 rfl) ?_
        refine lv_lload_n hx hb d_TB_connected_55 rfl (lv_at hl 2 rfl) ?_
        refine lv_ldc2 (v := (-1)) hx hb hown (ht _ tw_145) d_TB_connected_56 ?_
        refine lv_lxor hx hb d_TB_connected_59 ?_
        refine lv_land hx hb d_TB_connected_60 ?_
        refine lv_lor hx hb d_TB_connected_61 ?_
        refine lv_lstore (lv' := [(5, .long (((0 ||| ((x ^^^ (-1)) &&& (y ^^^ (-1)))) ||| ((x ^^^ (-1)) &&& y)) ||| (x &&& (y ^^^ (-1))))), (0, .long x), (2, .long y), (4, .int (nI o))]) hx hb d_TB_connected_62 hl (by decide) rfl (fun ls hl => ?_)
        refine lv_iload hx hb d_TB_connected_64 (lv_at hl 3 rfl) ?_
        refine lv_bipush (v := nI 8) hx hb d_TB_connected_66 (by decide) ?_
        refine lv_iand hx hb d_TB_connected_68 ?_
        refine lv_if_eq (tgt := 80) hx hb d_TB_connected_69 (by decide) (fun c69 => ?_) (fun c69 => ?_)
        · refine lv_lload hx hb d_TB_connected_80 (lv_at hl 0 rfl) ?_
          exact W.lret (v := ((0 ||| ((x ^^^ (-1)) &&& (y ^^^ (-1)))) ||| ((x ^^^ (-1)) &&& y)) ||| (x &&& (y ^^^ (-1)))) hx hb hr (fun t9 e1 hW => ⟨⟨_, (), rfl, (by unfold CNN CN8 CN4 CN2 CN1; rw [if_pos c69, if_neg c49, if_neg c30, if_neg c7]), PR.at F hP hD hS e1 hW.alike⟩, hS.F e1⟩) hS.2.2 d_TB_connected_82
        · refine lv_lload hx hb d_TB_connected_72 (lv_at hl 0 rfl) ?_
          refine lv_lload_n hx hb d_TB_connected_74 rfl (lv_at hl 1 rfl) ?_
          refine lv_lload_n hx hb d_TB_connected_75 rfl (lv_at hl 2 rfl) ?_
          refine lv_land hx hb d_TB_connected_76 ?_
          refine lv_lor hx hb d_TB_connected_77 ?_
          refine lv_lstore (lv' := [(5, .long ((((0 ||| ((x ^^^ (-1)) &&& (y ^^^ (-1)))) ||| ((x ^^^ (-1)) &&& y)) ||| (x &&& (y ^^^ (-1)))) ||| (x &&& y))), (0, .long x), (2, .long y), (4, .int (nI o))]) hx hb d_TB_connected_78 hl (by decide) rfl (fun ls hl => ?_)
          refine lv_lload hx hb d_TB_connected_80 (lv_at hl 0 rfl) ?_
          exact W.lret (v := (((0 ||| ((x ^^^ (-1)) &&& (y ^^^ (-1)))) ||| ((x ^^^ (-1)) &&& y)) ||| (x &&& (y ^^^ (-1)))) ||| (x &&& y)) hx hb hr (fun t9 e1 hW => ⟨⟨_, (), rfl, (by unfold CNN CN8 CN4 CN2 CN1; rw [if_neg c69, if_neg c49, if_neg c30, if_neg c7]), PR.at F hP hD hS e1 hW.alike⟩, hS.F e1⟩) hS.2.2 d_TB_connected_82
set_option maxRecDepth 100000 in
set_option maxHeartbeats 4000000 in
theorem c_RG_isHeld (l : Launch) (g : Gx) (ad : Nat → Nat) (rg : Nat → Int64) (hd : Nat → Int32) (od : Nat → Int32) (tx : Nat → Int32) (ty : Int32) (sm : Nat → Int64) (pa : Nat → Int64) (pr : Nat → Int64) (fl : Nat → Int64) (op : Int32) (du : Int32) (qa : Nat) (ab : Nat → Int64) (ac : Int32) (qb : Nat) (be : Nat → Int64) (bc : Int32) (wd : Nat → Int32) (X : va_W) (k : Nat) (h1 : k < 8) (h2 : hd k = 0 ∨ hd k = 1) : Met l y_RG_isHeld (w_RG_isHeld :: TW) rm_RG_isHeld (va_Pc [.ref (ad 1), .int (nI k)] (PR g (CW g ad rg hd od tx ty sm pa pr fl op du qa ab ac qb be bc wd ++ X))) (va_Qi (fun r9 (u9 : Unit) => r9 = hd k) (fun u9 t9 => PR g (CW g ad rg hd od tx ty sm pa pr fl op du qa ab ac qb be bc wd ++ X) t9) (gA g)) 0 0 (gA g) := by
  refine mt_of (by decide) (Nat.le_of_ble_eq_true rfl) ?_
  intro p e s m below meth c ls hx hb hr hml hlk hown ht hnm F hP hD hl
  have hl : lv_has ls 2 [(0, .ref (ad 1)), (1, .int (nI k))] := hl
  have hS : va_S (gA g) s.heap s.heap [] := va_S.rf
  refine lv_aload_n hx hb d_RG_isHeld_0 rfl (lv_at hl 0 rfl) ?_
  refine va_get (ci := 2) (v := .ref (ad 3)) (C := R_RG) (T := T_RG) (N := 2) hx hb ht i_RG hown F.2.1 hP 1 rfl rfl 1 (by decide) (ht _ tw_28) (fun _ h9 => h9) rfl d_RG_isHeld_1 ?_
  refine lv_iload_n hx hb d_RG_isHeld_4 rfl (lv_at hl 1 rfl) ?_
  refine ra_Z hx hb F hP 3 rfl (by omega) (by decide) d_RG_isHeld_5 ?_
  exact W.zret (v := hd k) hx hb hr (by rcases h2 with h | h <;> rw [h] <;> rfl) (fun t9 e1 hW => ⟨⟨_, (), rfl, rfl, PR.at F hP hD hS e1 hW.alike⟩, hS.F e1⟩) hS.2.2 d_RG_isHeld_6
set_option maxRecDepth 100000 in
set_option maxHeartbeats 4000000 in
theorem c_RG_table (l : Launch) (g : Gx) (ad : Nat → Nat) (rg : Nat → Int64) (hd : Nat → Int32) (od : Nat → Int32) (tx : Nat → Int32) (ty : Int32) (sm : Nat → Int64) (pa : Nat → Int64) (pr : Nat → Int64) (fl : Nat → Int64) (op : Int32) (du : Int32) (qa : Nat) (ab : Nat → Int64) (ac : Int32) (qb : Nat) (be : Nat → Int64) (bc : Int32) (wd : Nat → Int32) (X : va_W) (k : Nat) (h1 : k < 8) : Met l y_RG_table (w_RG_table :: TW) rm_RG_table (va_Pc [.ref (ad 1), .int (nI k)] (PR g (CW g ad rg hd od tx ty sm pa pr fl op du qa ab ac qb be bc wd ++ X))) (va_Ql (fun r9 (u9 : Unit) => r9 = rg k) (fun u9 t9 => PR g (CW g ad rg hd od tx ty sm pa pr fl op du qa ab ac qb be bc wd ++ X) t9) (gA g)) 0 0 (gA g) := by
  refine mt_of (by decide) (Nat.le_of_ble_eq_true rfl) ?_
  intro p e s m below meth c ls hx hb hr hml hlk hown ht hnm F hP hD hl
  have hl : lv_has ls 2 [(0, .ref (ad 1)), (1, .int (nI k))] := hl
  have hS : va_S (gA g) s.heap s.heap [] := va_S.rf
  refine lv_aload_n hx hb d_RG_table_0 rfl (lv_at hl 0 rfl) ?_
  refine va_get (ci := 2) (v := .ref (ad 2)) (C := R_RG) (T := T_RG) (N := 2) hx hb ht i_RG hown F.2.1 hP 1 rfl rfl 0 (by decide) (ht _ tw_27) (fun _ h9 => h9) rfl d_RG_table_1 ?_
  refine lv_iload_n hx hb d_RG_table_4 rfl (lv_at hl 1 rfl) ?_
  refine ra_J hx hb F hP 2 rfl (by omega) (by decide) d_RG_table_5 ?_
  exact W.lret (v := rg k) hx hb hr (fun t9 e1 hW => ⟨⟨_, (), rfl, rfl, PR.at F hP hD hS e1 hW.alike⟩, hS.F e1⟩) hS.2.2 d_RG_table_6
set_option maxRecDepth 100000 in
set_option maxHeartbeats 4000000 in
theorem c_RG_put (l : Launch) (g : Gx) (ad : Nat → Nat) (rg : Nat → Int64) (hd : Nat → Int32) (od : Nat → Int32) (tx : Nat → Int32) (ty : Int32) (sm : Nat → Int64) (pa : Nat → Int64) (pr : Nat → Int64) (fl : Nat → Int64) (op : Int32) (du : Int32) (qa : Nat) (ab : Nat → Int64) (ac : Int32) (qb : Nat) (be : Nat → Int64) (bc : Int32) (wd : Nat → Int32) (X : va_W) (k : Nat) (t : Int64) (h1 : k < 8) : Met l y_RG_put (w_RG_put :: TW) rm_RG_put (va_Pc [.ref (ad 1), .int (nI k), .long t] (PR g (CW g ad rg hd od tx ty sm pa pr fl op du qa ab ac qb be bc wd ++ X))) (va_Qv (fun (u9 : Unit) => True) (fun u9 t9 => PR g (CW g ad (vp_updL rg k t) (upd hd k (nI 1)) od tx ty sm pa pr fl op du qa ab ac qb be bc wd ++ X) t9) (gA g)) 0 0 (gA g) := by
  refine mt_of (by decide) (Nat.le_of_ble_eq_true rfl) ?_
  intro p e s m below meth c ls hx hb hr hml hlk hown ht hnm F hP hD hl
  have hl : lv_has ls 4 [(0, .ref (ad 1)), (1, .int (nI k)), (2, .long t)] := hl
  have hS : va_S (gA g) s.heap s.heap [] := va_S.rf
  refine lv_aload_n hx hb d_RG_put_0 rfl (lv_at hl 0 rfl) ?_
  refine va_get (ci := 2) (v := .ref (ad 2)) (C := R_RG) (T := T_RG) (N := 2) hx hb ht i_RG hown F.2.1 hP 1 rfl rfl 0 (by decide) (ht _ tw_27) (fun _ h9 => h9) rfl d_RG_put_1 ?_
  refine lv_iload_n hx hb d_RG_put_4 rfl (lv_at hl 1 rfl) ?_
  refine lv_lload_n hx hb d_RG_put_5 rfl (lv_at hl 2 rfl) ?_
  refine wa_J hx hb F hP hD hS 2 rfl (by omega) (by decide) d_RG_put_6 (fun H locs hP hD hS => ?_)
  have hP : va_P g.1 cl (CW g ad (vp_updL rg k t) hd od tx ty sm pa pr fl op du qa ab ac qb be bc wd ++ X) H := hP
  have hD : va_D (gA g) (CW g ad (vp_updL rg k t) hd od tx ty sm pa pr fl op du qa ab ac qb be bc wd ++ X) := hD
  refine lv_aload_n hx hb d_RG_put_7 rfl (lv_at hl 0 rfl) ?_
  refine va_get (ci := 2) (v := .ref (ad 3)) (C := R_RG) (T := T_RG) (N := 2) hx hb ht i_RG hown F.2.1 hP 1 rfl rfl 1 (by decide) (ht _ tw_28) (fun _ h9 => h9) rfl d_RG_put_8 ?_
  refine lv_iload_n hx hb d_RG_put_11 rfl (lv_at hl 1 rfl) ?_
  refine lv_iconst (v := nI 1) hx hb d_RG_put_12 (by decide) ?_
  refine wa_Z (y := nI 1) hx hb F hP hD hS 3 rfl (by decide) (by omega) (by decide) d_RG_put_13 (fun H locs hP hD hS => ?_)
  have hP : va_P g.1 cl (CW g ad (vp_updL rg k t) (upd hd k (nI 1)) od tx ty sm pa pr fl op du qa ab ac qb be bc wd ++ X) H := hP
  have hD : va_D (gA g) (CW g ad (vp_updL rg k t) (upd hd k (nI 1)) od tx ty sm pa pr fl op du qa ab ac qb be bc wd ++ X) := hD
  exact W.vret hx hb hr (fun t9 e1 hW => ⟨⟨(), rfl, trivial, PR.at F hP hD hS e1 hW.alike⟩, hS.F e1⟩) hS.2.2 d_RG_put_14
set_option maxRecDepth 100000 in
set_option maxHeartbeats 4000000 in
theorem c_RG_clear (l : Launch) (g : Gx) (ad : Nat → Nat) (rg : Nat → Int64) (hd : Nat → Int32) (od : Nat → Int32) (tx : Nat → Int32) (ty : Int32) (sm : Nat → Int64) (pa : Nat → Int64) (pr : Nat → Int64) (fl : Nat → Int64) (op : Int32) (du : Int32) (qa : Nat) (ab : Nat → Int64) (ac : Int32) (qb : Nat) (be : Nat → Int64) (bc : Int32) (wd : Nat → Int32) (X : va_W) (k : Nat) (h1 : k < 8) : Met l y_RG_clear (w_RG_clear :: TW) rm_RG_clear (va_Pc [.ref (ad 1), .int (nI k)] (PR g (CW g ad rg hd od tx ty sm pa pr fl op du qa ab ac qb be bc wd ++ X))) (va_Qv (fun (u9 : Unit) => True) (fun u9 t9 => PR g (CW g ad rg (upd hd k (nI 0)) od tx ty sm pa pr fl op du qa ab ac qb be bc wd ++ X) t9) (gA g)) 0 0 (gA g) := by
  refine mt_of (by decide) (Nat.le_of_ble_eq_true rfl) ?_
  intro p e s m below meth c ls hx hb hr hml hlk hown ht hnm F hP hD hl
  have hl : lv_has ls 2 [(0, .ref (ad 1)), (1, .int (nI k))] := hl
  have hS : va_S (gA g) s.heap s.heap [] := va_S.rf
  refine lv_aload_n hx hb d_RG_clear_0 rfl (lv_at hl 0 rfl) ?_
  refine va_get (ci := 2) (v := .ref (ad 3)) (C := R_RG) (T := T_RG) (N := 2) hx hb ht i_RG hown F.2.1 hP 1 rfl rfl 1 (by decide) (ht _ tw_28) (fun _ h9 => h9) rfl d_RG_clear_1 ?_
  refine lv_iload_n hx hb d_RG_clear_4 rfl (lv_at hl 1 rfl) ?_
  refine lv_iconst (v := nI 0) hx hb d_RG_clear_5 (by decide) ?_
  refine wa_Z (y := nI 0) hx hb F hP hD hS 3 rfl (by decide) (by omega) (by decide) d_RG_clear_6 (fun H locs hP hD hS => ?_)
  have hP : va_P g.1 cl (CW g ad rg (upd hd k (nI 0)) od tx ty sm pa pr fl op du qa ab ac qb be bc wd ++ X) H := hP
  have hD : va_D (gA g) (CW g ad rg (upd hd k (nI 0)) od tx ty sm pa pr fl op du qa ab ac qb be bc wd ++ X) := hD
  exact W.vret hx hb hr (fun t9 e1 hW => ⟨⟨(), rfl, trivial, PR.at F hP hD hS e1 hW.alike⟩, hS.F e1⟩) hS.2.2 d_RG_clear_7
set_option maxRecDepth 100000 in
set_option maxHeartbeats 4000000 in
theorem c_NC_begin (l : Launch) (g : Gx) (ad : Nat → Nat) (rg : Nat → Int64) (hd : Nat → Int32) (od : Nat → Int32) (tx : Nat → Int32) (ty : Int32) (sm : Nat → Int64) (pa : Nat → Int64) (pr : Nat → Int64) (fl : Nat → Int64) (op : Int32) (du : Int32) (qa : Nat) (ab : Nat → Int64) (ac : Int32) (qb : Nat) (be : Nat → Int64) (bc : Int32) (wd : Nat → Int32) (X : va_W) : Met l y_NC_begin (w_NC_begin :: TW) rm_NC_begin (va_Pc [.ref (ad 11)] (PR g (CW g ad rg hd od tx ty sm pa pr fl op du qa ab ac qb be bc wd ++ X))) (va_Qv (fun (u9 : Unit) => True) (fun u9 t9 => PR g (CW g ad rg hd od tx ty sm pa pr fl op du qa ab ac qb be (nI 0) wd ++ X) t9) (gA g)) 0 0 (gA g) := by
  refine mt_of (by decide) (Nat.le_of_ble_eq_true rfl) ?_
  intro p e s m below meth c ls hx hb hr hml hlk hown ht hnm F hP hD hl
  have hl : lv_has ls 1 [(0, .ref (ad 11))] := hl
  have hS : va_S (gA g) s.heap s.heap [] := va_S.rf
  refine lv_aload_n hx hb d_NC_begin_0 rfl (lv_at hl 0 rfl) ?_
  refine lv_iconst (v := nI 0) hx hb d_NC_begin_1 (by decide) ?_
  refine va_put (ci := 1) (v := .int (nI 0)) (ty := .int) (C := R_NC) (T := T_NC) (N := 5) hx hb ht i_NC t_NC t_NC_ok n_NC hown F.2.1 hP hD hS 11 rfl rfl 3 (by decide) (ht _ tw_72) (fun _ h9 => h9) rfl (by decide +kernel) rfl rfl (Nat.le_of_ble_eq_true rfl) d_NC_begin_2 (fun H locs hP hD hS => ?_)
  have hP : va_P g.1 cl (CW g ad rg hd od tx ty sm pa pr fl op du qa ab ac qb be (nI 0) wd ++ X) H := hP
  have hD : va_D (gA g) (CW g ad rg hd od tx ty sm pa pr fl op du qa ab ac qb be (nI 0) wd ++ X) := hD
  exact W.vret hx hb hr (fun t9 e1 hW => ⟨⟨(), rfl, trivial, PR.at F hP hD hS e1 hW.alike⟩, hS.F e1⟩) hS.2.2 d_NC_begin_5
set_option maxRecDepth 100000 in
set_option maxHeartbeats 4000000 in
theorem c_NC_onLevel (l : Launch) (g : Gx) (ad : Nat → Nat) (rg : Nat → Int64) (hd : Nat → Int32) (od : Nat → Int32) (tx : Nat → Int32) (ty : Int32) (sm : Nat → Int64) (pa : Nat → Int64) (pr : Nat → Int64) (fl : Nat → Int64) (op : Int32) (du : Int32) (qa : Nat) (ab : Nat → Int64) (ac : Int32) (qb : Nat) (be : Nat → Int64) (bc : Int32) (wd : Nat → Int32) (X : va_W) (k : Nat) (h1 : k < 6) : Met l y_NC_onLevel (w_NC_onLevel :: TW) rm_NC_onLevel (va_Pc [.ref (ad 11), .int (nI k)] (PR g (CW g ad rg hd od tx ty sm pa pr fl op du qa ab ac qb be bc wd ++ X))) (va_Qi (fun r9 (u9 : Unit) => r9 = wd k) (fun u9 t9 => PR g (CW g ad rg hd od tx ty sm pa pr fl op du qa ab ac qb be bc wd ++ X) t9) (gA g)) 0 0 (gA g) := by
  refine mt_of (by decide) (Nat.le_of_ble_eq_true rfl) ?_
  intro p e s m below meth c ls hx hb hr hml hlk hown ht hnm F hP hD hl
  have hl : lv_has ls 2 [(0, .ref (ad 11)), (1, .int (nI k))] := hl
  have hS : va_S (gA g) s.heap s.heap [] := va_S.rf
  refine lv_aload_n hx hb d_NC_onLevel_0 rfl (lv_at hl 0 rfl) ?_
  refine va_get (ci := 1) (v := .ref (ad 12)) (C := R_NC) (T := T_NC) (N := 5) hx hb ht i_NC hown F.2.1 hP 11 rfl rfl 4 (by decide) (ht _ tw_73) (fun _ h9 => h9) rfl d_NC_onLevel_1 ?_
  refine lv_iload_n hx hb d_NC_onLevel_4 rfl (lv_at hl 1 rfl) ?_
  refine ra_I hx hb F hP 12 rfl (by omega) (by decide) d_NC_onLevel_5 ?_
  exact W.iret (v := wd k) hx hb hr (fun t9 e1 hW => ⟨⟨_, (), rfl, rfl, PR.at F hP hD hS e1 hW.alike⟩, hS.F e1⟩) hS.2.2 d_NC_onLevel_6
set_option maxRecDepth 100000 in
set_option maxHeartbeats 4000000 in
theorem c_FR_beginFactor (l : Launch) (g : Gx) (ad : Nat → Nat) (rg : Nat → Int64) (hd : Nat → Int32) (od : Nat → Int32) (tx : Nat → Int32) (ty : Int32) (sm : Nat → Int64) (pa : Nat → Int64) (pr : Nat → Int64) (fl : Nat → Int64) (du : Int32) (qa : Nat) (ab : Nat → Int64) (ac : Int32) (qb : Nat) (be : Nat → Int64) (bc : Int32) (wd : Nat → Int32) (X : va_W) (k : Nat) (h1 : k < 6) : Met l y_FR_beginFactor (w_FR_beginFactor :: TW) rm_FR_beginFactor (va_Pc [.ref (ad 6)] (PR g (CW g ad rg hd od tx ty sm pa pr fl (nI k) du qa ab ac qb be bc wd ++ X))) (va_Qv (fun (u9 : Unit) => True) (fun u9 t9 => PR g (CW g ad rg hd od tx ty sm pa pr (vp_updL fl k 0) (nI k) (nI 1) qa ab ac qb be bc wd ++ X) t9) (gA g)) 0 0 (gA g) := by
  refine mt_of (by decide) (Nat.le_of_ble_eq_true rfl) ?_
  intro p e s m below meth c ls hx hb hr hml hlk hown ht hnm F hP hD hl
  have hl : lv_has ls 1 [(0, .ref (ad 6))] := hl
  have hS : va_S (gA g) s.heap s.heap [] := va_S.rf
  refine lv_aload_n hx hb d_FR_beginFactor_0 rfl (lv_at hl 0 rfl) ?_
  refine va_get (ci := 0) (v := .ref (ad 10)) (C := R_FR) (T := T_FR) (N := 6) hx hb ht i_FR hown F.2.1 hP 6 rfl rfl 3 (by decide) (ht _ tw_45) (fun _ h9 => h9) rfl d_FR_beginFactor_1 ?_
  refine lv_aload_n hx hb d_FR_beginFactor_4 rfl (lv_at hl 0 rfl) ?_
  refine va_get (ci := 0) (v := .int (nI k)) (C := R_FR) (T := T_FR) (N := 6) hx hb ht i_FR hown F.2.1 hP 6 rfl rfl 4 (by decide) (ht _ tw_46) (fun _ h9 => h9) rfl d_FR_beginFactor_5 ?_
  refine lv_lconst (v := 0) hx hb d_FR_beginFactor_8 (by decide) ?_
  refine wa_J hx hb F hP hD hS 10 rfl (by omega) (by decide) d_FR_beginFactor_9 (fun H locs hP hD hS => ?_)
  have hP : va_P g.1 cl (CW g ad rg hd od tx ty sm pa pr (vp_updL fl k 0) (nI k) du qa ab ac qb be bc wd ++ X) H := hP
  have hD : va_D (gA g) (CW g ad rg hd od tx ty sm pa pr (vp_updL fl k 0) (nI k) du qa ab ac qb be bc wd ++ X) := hD
  refine lv_aload_n hx hb d_FR_beginFactor_10 rfl (lv_at hl 0 rfl) ?_
  refine lv_iconst (v := nI 1) hx hb d_FR_beginFactor_11 (by decide) ?_
  refine va_put (ci := 0) (v := .int (nI 1)) (ty := .boolean) (C := R_FR) (T := T_FR) (N := 6) hx hb ht i_FR t_FR t_FR_ok n_FR hown F.2.1 hP hD hS 6 rfl rfl 5 (by decide) (ht _ tw_47) (fun _ h9 => h9) rfl (by decide +kernel) (by decide) (by decide) (Nat.le_of_ble_eq_true rfl) d_FR_beginFactor_12 (fun H locs hP hD hS => ?_)
  have hP : va_P g.1 cl (CW g ad rg hd od tx ty sm pa pr (vp_updL fl k 0) (nI k) (nI 1) qa ab ac qb be bc wd ++ X) H := hP
  have hD : va_D (gA g) (CW g ad rg hd od tx ty sm pa pr (vp_updL fl k 0) (nI k) (nI 1) qa ab ac qb be bc wd ++ X) := hD
  exact W.vret hx hb hr (fun t9 e1 hW => ⟨⟨(), rfl, trivial, PR.at F hP hD hS e1 hW.alike⟩, hS.F e1⟩) hS.2.2 d_FR_beginFactor_15
set_option maxRecDepth 100000 in
set_option maxHeartbeats 4000000 in
theorem c_FR_beginFormula (l : Launch) (g : Gx) (ad : Nat → Nat) (rg : Nat → Int64) (hd : Nat → Int32) (od : Nat → Int32) (tx : Nat → Int32) (ty : Int32) (sm : Nat → Int64) (pa : Nat → Int64) (pr : Nat → Int64) (fl : Nat → Int64) (du : Int32) (qa : Nat) (ab : Nat → Int64) (ac : Int32) (qb : Nat) (be : Nat → Int64) (bc : Int32) (wd : Nat → Int32) (X : va_W) (k : Nat) (h1 : k < 6) : Met l y_FR_beginFormula (w_FR_beginFormula :: TW) rm_FR_beginFormula (va_Pc [.ref (ad 6)] (PR g (CW g ad rg hd od tx ty sm pa pr fl (nI k) du qa ab ac qb be bc wd ++ X))) (va_Qv (fun (u9 : Unit) => True) (fun u9 t9 => PR g (CW g ad rg hd od tx ty (vp_updL sm k 0) (vp_updL pa k 0) (vp_updL pr k (-1)) (vp_updL fl k 0) (nI k) (nI 1) qa ab ac qb be bc wd ++ X) t9) (gA g)) 0 0 (gA g) := by
  refine mt_of (by decide) (Nat.le_of_ble_eq_true rfl) ?_
  intro p e s m below meth c ls hx hb hr hml hlk hown ht hnm F hP hD hl
  have hl : lv_has ls 1 [(0, .ref (ad 6))] := hl
  have hS : va_S (gA g) s.heap s.heap [] := va_S.rf
  refine lv_aload_n hx hb d_FR_beginFormula_0 rfl (lv_at hl 0 rfl) ?_
  refine va_get (ci := 0) (v := .ref (ad 7)) (C := R_FR) (T := T_FR) (N := 6) hx hb ht i_FR hown F.2.1 hP 6 rfl rfl 0 (by decide) (ht _ tw_42) (fun _ h9 => h9) rfl d_FR_beginFormula_1 ?_
  refine lv_aload_n hx hb d_FR_beginFormula_4 rfl (lv_at hl 0 rfl) ?_
  refine va_get (ci := 0) (v := .int (nI k)) (C := R_FR) (T := T_FR) (N := 6) hx hb ht i_FR hown F.2.1 hP 6 rfl rfl 4 (by decide) (ht _ tw_46) (fun _ h9 => h9) rfl d_FR_beginFormula_5 ?_
  refine lv_lconst (v := 0) hx hb d_FR_beginFormula_8 (by decide) ?_
  refine wa_J hx hb F hP hD hS 7 rfl (by omega) (by decide) d_FR_beginFormula_9 (fun H locs hP hD hS => ?_)
  have hP : va_P g.1 cl (CW g ad rg hd od tx ty (vp_updL sm k 0) pa pr fl (nI k) du qa ab ac qb be bc wd ++ X) H := hP
  have hD : va_D (gA g) (CW g ad rg hd od tx ty (vp_updL sm k 0) pa pr fl (nI k) du qa ab ac qb be bc wd ++ X) := hD
  refine lv_aload_n hx hb d_FR_beginFormula_10 rfl (lv_at hl 0 rfl) ?_
  refine va_get (ci := 0) (v := .ref (ad 8)) (C := R_FR) (T := T_FR) (N := 6) hx hb ht i_FR hown F.2.1 hP 6 rfl rfl 1 (by decide) (ht _ tw_43) (fun _ h9 => h9) rfl d_FR_beginFormula_11 ?_
  refine lv_aload_n hx hb d_FR_beginFormula_14 rfl (lv_at hl 0 rfl) ?_
  refine va_get (ci := 0) (v := .int (nI k)) (C := R_FR) (T := T_FR) (N := 6) hx hb ht i_FR hown F.2.1 hP 6 rfl rfl 4 (by decide) (ht _ tw_46) (fun _ h9 => h9) rfl d_FR_beginFormula_15 ?_
  refine lv_lconst (v := 0) hx hb d_FR_beginFormula_18 (by decide) ?_
  refine wa_J hx hb F hP hD hS 8 rfl (by omega) (by decide) d_FR_beginFormula_19 (fun H locs hP hD hS => ?_)
  have hP : va_P g.1 cl (CW g ad rg hd od tx ty (vp_updL sm k 0) (vp_updL pa k 0) pr fl (nI k) du qa ab ac qb be bc wd ++ X) H := hP
  have hD : va_D (gA g) (CW g ad rg hd od tx ty (vp_updL sm k 0) (vp_updL pa k 0) pr fl (nI k) du qa ab ac qb be bc wd ++ X) := hD
  refine lv_aload_n hx hb d_FR_beginFormula_20 rfl (lv_at hl 0 rfl) ?_
  refine va_get (ci := 0) (v := .ref (ad 9)) (C := R_FR) (T := T_FR) (N := 6) hx hb ht i_FR hown F.2.1 hP 6 rfl rfl 2 (by decide) (ht _ tw_44) (fun _ h9 => h9) rfl d_FR_beginFormula_21 ?_
  refine lv_aload_n hx hb d_FR_beginFormula_24 rfl (lv_at hl 0 rfl) ?_
  refine va_get (ci := 0) (v := .int (nI k)) (C := R_FR) (T := T_FR) (N := 6) hx hb ht i_FR hown F.2.1 hP 6 rfl rfl 4 (by decide) (ht _ tw_46) (fun _ h9 => h9) rfl d_FR_beginFormula_25 ?_
  refine lv_ldc2 (v := (-1)) hx hb hown (ht _ tw_320) d_FR_beginFormula_28 ?_
  refine wa_J hx hb F hP hD hS 9 rfl (by omega) (by decide) d_FR_beginFormula_31 (fun H locs hP hD hS => ?_)
  have hP : va_P g.1 cl (CW g ad rg hd od tx ty (vp_updL sm k 0) (vp_updL pa k 0) (vp_updL pr k (-1)) fl (nI k) du qa ab ac qb be bc wd ++ X) H := hP
  have hD : va_D (gA g) (CW g ad rg hd od tx ty (vp_updL sm k 0) (vp_updL pa k 0) (vp_updL pr k (-1)) fl (nI k) du qa ab ac qb be bc wd ++ X) := hD
  refine lv_aload_n hx hb d_FR_beginFormula_32 rfl (lv_at hl 0 rfl) ?_
  refine pc_Vv (q0 := 6) (As := []) (rest := []) hx hb (hml.trans hl.1.symm) hown ht F hP hD hS (c_FR_beginFactor l g ad rg hd od tx ty (vp_updL sm k 0) (vp_updL pa k 0) (vp_updL pr k (-1)) fl du qa ab ac qb be bc wd X k (by omega)) v_FR_beginFactor tw_321 ⟨rfl, rfl⟩ ⟨by decide, by decide⟩ rfl rfl rfl rfl (Nat.le_of_ble_eq_true rfl) ⟨Nat.zero_le _, Nat.zero_le _⟩ d_FR_beginFormula_33 (fun u9 H locs hq hP hD hS => ?_)
  have hP : va_P g.1 cl (CW g ad rg hd od tx ty (vp_updL sm k 0) (vp_updL pa k 0) (vp_updL pr k (-1)) (vp_updL fl k 0) (nI k) (nI 1) qa ab ac qb be bc wd ++ X) H := hP
  have hD : va_D (gA g) (CW g ad rg hd od tx ty (vp_updL sm k 0) (vp_updL pa k 0) (vp_updL pr k (-1)) (vp_updL fl k 0) (nI k) (nI 1) qa ab ac qb be bc wd ++ X) := hD
  exact W.vret hx hb hr (fun t9 e1 hW => ⟨⟨(), rfl, trivial, PR.at F hP hD hS e1 hW.alike⟩, hS.F e1⟩) hS.2.2 d_FR_beginFormula_36
set_option maxRecDepth 100000 in
set_option maxHeartbeats 4000000 in
theorem c_FR_meaning (l : Launch) (g : Gx) (ad : Nat → Nat) (rg : Nat → Int64) (hd : Nat → Int32) (od : Nat → Int32) (tx : Nat → Int32) (ty : Int32) (sm : Nat → Int64) (pa : Nat → Int64) (pr : Nat → Int64) (fl : Nat → Int64) (du : Int32) (qa : Nat) (ab : Nat → Int64) (ac : Int32) (qb : Nat) (be : Nat → Int64) (bc : Int32) (wd : Nat → Int32) (X : va_W) (k : Nat) (h1 : k < 6) : Met l y_FR_meaning (w_FR_meaning :: TW) rm_FR_meaning (va_Pc [.ref (ad 6)] (PR g (CW g ad rg hd od tx ty sm pa pr fl (nI k) du qa ab ac qb be bc wd ++ X))) (va_Ql (fun r9 (u9 : Unit) => r9 = sm k ||| (pa k ^^^ pr k)) (fun u9 t9 => PR g (CW g ad rg hd od tx ty sm pa pr fl (nI k) du qa ab ac qb be bc wd ++ X) t9) (gA g)) 0 0 (gA g) := by
  refine mt_of (by decide) (Nat.le_of_ble_eq_true rfl) ?_
  intro p e s m below meth c ls hx hb hr hml hlk hown ht hnm F hP hD hl
  have hl : lv_has ls 1 [(0, .ref (ad 6))] := hl
  have hS : va_S (gA g) s.heap s.heap [] := va_S.rf
  refine lv_aload_n hx hb d_FR_meaning_0 rfl (lv_at hl 0 rfl) ?_
  refine va_get (ci := 0) (v := .ref (ad 7)) (C := R_FR) (T := T_FR) (N := 6) hx hb ht i_FR hown F.2.1 hP 6 rfl rfl 0 (by decide) (ht _ tw_42) (fun _ h9 => h9) rfl d_FR_meaning_1 ?_
  refine lv_aload_n hx hb d_FR_meaning_4 rfl (lv_at hl 0 rfl) ?_
  refine va_get (ci := 0) (v := .int (nI k)) (C := R_FR) (T := T_FR) (N := 6) hx hb ht i_FR hown F.2.1 hP 6 rfl rfl 4 (by decide) (ht _ tw_46) (fun _ h9 => h9) rfl d_FR_meaning_5 ?_
  refine ra_J hx hb F hP 7 rfl (by omega) (by decide) d_FR_meaning_8 ?_
  refine lv_aload_n hx hb d_FR_meaning_9 rfl (lv_at hl 0 rfl) ?_
  refine va_get (ci := 0) (v := .ref (ad 8)) (C := R_FR) (T := T_FR) (N := 6) hx hb ht i_FR hown F.2.1 hP 6 rfl rfl 1 (by decide) (ht _ tw_43) (fun _ h9 => h9) rfl d_FR_meaning_10 ?_
  refine lv_aload_n hx hb d_FR_meaning_13 rfl (lv_at hl 0 rfl) ?_
  refine va_get (ci := 0) (v := .int (nI k)) (C := R_FR) (T := T_FR) (N := 6) hx hb ht i_FR hown F.2.1 hP 6 rfl rfl 4 (by decide) (ht _ tw_46) (fun _ h9 => h9) rfl d_FR_meaning_14 ?_
  refine ra_J hx hb F hP 8 rfl (by omega) (by decide) d_FR_meaning_17 ?_
  refine lv_aload_n hx hb d_FR_meaning_18 rfl (lv_at hl 0 rfl) ?_
  refine va_get (ci := 0) (v := .ref (ad 9)) (C := R_FR) (T := T_FR) (N := 6) hx hb ht i_FR hown F.2.1 hP 6 rfl rfl 2 (by decide) (ht _ tw_44) (fun _ h9 => h9) rfl d_FR_meaning_19 ?_
  refine lv_aload_n hx hb d_FR_meaning_22 rfl (lv_at hl 0 rfl) ?_
  refine va_get (ci := 0) (v := .int (nI k)) (C := R_FR) (T := T_FR) (N := 6) hx hb ht i_FR hown F.2.1 hP 6 rfl rfl 4 (by decide) (ht _ tw_46) (fun _ h9 => h9) rfl d_FR_meaning_23 ?_
  refine ra_J hx hb F hP 9 rfl (by omega) (by decide) d_FR_meaning_26 ?_
  refine lv_lxor hx hb d_FR_meaning_27 ?_
  refine lv_lor hx hb d_FR_meaning_28 ?_
  exact W.lret (v := (sm k) ||| ((pa k) ^^^ (pr k))) hx hb hr (fun t9 e1 hW => ⟨⟨_, (), rfl, rfl, PR.at F hP hD hS e1 hW.alike⟩, hS.F e1⟩) hS.2.2 d_FR_meaning_29
set_option maxRecDepth 100000 in
set_option maxHeartbeats 4000000 in
theorem c_FR_endFactor (l : Launch) (g : Gx) (ad : Nat → Nat) (rg : Nat → Int64) (hd : Nat → Int32) (od : Nat → Int32) (tx : Nat → Int32) (ty : Int32) (sm : Nat → Int64) (pa : Nat → Int64) (pr : Nat → Int64) (fl : Nat → Int64) (du : Int32) (qa : Nat) (ab : Nat → Int64) (ac : Int32) (qb : Nat) (be : Nat → Int64) (bc : Int32) (wd : Nat → Int32) (X : va_W) (k : Nat) (t : Int64) (h1 : k < 6) : Met l y_FR_endFactor (w_FR_endFactor :: TW) rm_FR_endFactor (va_Pc [.ref (ad 6), .long t] (PR g (CW g ad rg hd od tx ty sm pa pr fl (nI k) du qa ab ac qb be bc wd ++ X))) (va_Qv (fun (u9 : Unit) => True) (fun u9 t9 => PR g (CW g ad rg hd od tx ty sm pa (vp_updL pr k (pr k &&& (t ^^^ fl k))) fl (nI k) (nI 0) qa ab ac qb be bc wd ++ X) t9) (gA g)) 0 0 (gA g) := by
  refine mt_of (by decide) (Nat.le_of_ble_eq_true rfl) ?_
  intro p e s m below meth c ls hx hb hr hml hlk hown ht hnm F hP hD hl
  have hl : lv_has ls 3 [(0, .ref (ad 6)), (1, .long t)] := hl
  have hS : va_S (gA g) s.heap s.heap [] := va_S.rf
  refine lv_aload_n hx hb d_FR_endFactor_0 rfl (lv_at hl 0 rfl) ?_
  refine va_get (ci := 0) (v := .ref (ad 9)) (C := R_FR) (T := T_FR) (N := 6) hx hb ht i_FR hown F.2.1 hP 6 rfl rfl 2 (by decide) (ht _ tw_44) (fun _ h9 => h9) rfl d_FR_endFactor_1 ?_
  refine lv_aload_n hx hb d_FR_endFactor_4 rfl (lv_at hl 0 rfl) ?_
  refine va_get (ci := 0) (v := .int (nI k)) (C := R_FR) (T := T_FR) (N := 6) hx hb ht i_FR hown F.2.1 hP 6 rfl rfl 4 (by decide) (ht _ tw_46) (fun _ h9 => h9) rfl d_FR_endFactor_5 ?_
  refine lv_dup2_11 hx hb d_FR_endFactor_8 rfl rfl ?_
  refine ra_J hx hb F hP 9 rfl (by omega) (by decide) d_FR_endFactor_9 ?_
  refine lv_lload_n hx hb d_FR_endFactor_10 rfl (lv_at hl 1 rfl) ?_
  refine lv_aload_n hx hb d_FR_endFactor_11 rfl (lv_at hl 0 rfl) ?_
  refine va_get (ci := 0) (v := .ref (ad 10)) (C := R_FR) (T := T_FR) (N := 6) hx hb ht i_FR hown F.2.1 hP 6 rfl rfl 3 (by decide) (ht _ tw_45) (fun _ h9 => h9) rfl d_FR_endFactor_12 ?_
  refine lv_aload_n hx hb d_FR_endFactor_15 rfl (lv_at hl 0 rfl) ?_
  refine va_get (ci := 0) (v := .int (nI k)) (C := R_FR) (T := T_FR) (N := 6) hx hb ht i_FR hown F.2.1 hP 6 rfl rfl 4 (by decide) (ht _ tw_46) (fun _ h9 => h9) rfl d_FR_endFactor_16 ?_
  refine ra_J hx hb F hP 10 rfl (by omega) (by decide) d_FR_endFactor_19 ?_
  refine lv_lxor hx hb d_FR_endFactor_20 ?_
  refine lv_land hx hb d_FR_endFactor_21 ?_
  refine wa_J hx hb F hP hD hS 9 rfl (by omega) (by decide) d_FR_endFactor_22 (fun H locs hP hD hS => ?_)
  have hP : va_P g.1 cl (CW g ad rg hd od tx ty sm pa (vp_updL pr k ((pr k) &&& (t ^^^ (fl k)))) fl (nI k) du qa ab ac qb be bc wd ++ X) H := hP
  have hD : va_D (gA g) (CW g ad rg hd od tx ty sm pa (vp_updL pr k ((pr k) &&& (t ^^^ (fl k)))) fl (nI k) du qa ab ac qb be bc wd ++ X) := hD
  refine lv_aload_n hx hb d_FR_endFactor_23 rfl (lv_at hl 0 rfl) ?_
  refine lv_iconst (v := nI 0) hx hb d_FR_endFactor_24 (by decide) ?_
  refine va_put (ci := 0) (v := .int (nI 0)) (ty := .boolean) (C := R_FR) (T := T_FR) (N := 6) hx hb ht i_FR t_FR t_FR_ok n_FR hown F.2.1 hP hD hS 6 rfl rfl 5 (by decide) (ht _ tw_47) (fun _ h9 => h9) rfl (by decide +kernel) (by decide) (by decide) (Nat.le_of_ble_eq_true rfl) d_FR_endFactor_25 (fun H locs hP hD hS => ?_)
  have hP : va_P g.1 cl (CW g ad rg hd od tx ty sm pa (vp_updL pr k ((pr k) &&& (t ^^^ (fl k)))) fl (nI k) (nI 0) qa ab ac qb be bc wd ++ X) H := hP
  have hD : va_D (gA g) (CW g ad rg hd od tx ty sm pa (vp_updL pr k ((pr k) &&& (t ^^^ (fl k)))) fl (nI k) (nI 0) qa ab ac qb be bc wd ++ X) := hD
  exact W.vret hx hb hr (fun t9 e1 hW => ⟨⟨(), rfl, trivial, PR.at F hP hD hS e1 hW.alike⟩, hS.F e1⟩) hS.2.2 d_FR_endFactor_28
set_option maxRecDepth 100000 in
set_option maxHeartbeats 4000000 in
theorem c_SG_checkBelow (l : Launch) (g : Gx) (X : va_W) (k b : Nat) (h1 : k < b) (h2 : b < 2 ^ 31) : Met l y_SG_checkBelow (w_SG_checkBelow :: TW) rm_SG_checkBelow (va_Pc [.int (nI k), .int (nI b)] (PR g (X))) (va_Qv (fun (u9 : Unit) => True) (fun u9 t9 => PR g (X) t9) (gA g)) 0 0 (gA g) := by
  refine mt_of (by decide) (Nat.le_of_ble_eq_true rfl) ?_
  intro p e s m below meth c ls hx hb hr hml hlk hown ht hnm F hP hD hl
  have hl : lv_has ls 2 [(0, .int (nI k)), (1, .int (nI b))] := hl
  have hS : va_S (gA g) s.heap s.heap [] := va_S.rf
  refine lv_iload_n hx hb d_SG_checkBelow_0 rfl (lv_at hl 0 rfl) ?_
  refine rz_lt (tgt := 9) hx hb (by omega) d_SG_checkBelow_1 (by decide) (fun c1 => ?_) (fun c1 => ?_)
  · exact c1.elim
  · refine lv_iload_n hx hb d_SG_checkBelow_4 rfl (lv_at hl 0 rfl) ?_
    refine lv_iload_n hx hb d_SG_checkBelow_5 rfl (lv_at hl 1 rfl) ?_
    refine rc_lt (tgt := 17) hx hb (by omega) (by omega) d_SG_checkBelow_6 (by decide) (fun c6 => ?_) (fun c6 => ?_)
    · exact W.vret hx hb hr (fun t9 e1 hW => ⟨⟨(), rfl, trivial, PR.at F hP hD hS e1 hW.alike⟩, hS.F e1⟩) hS.2.2 d_SG_checkBelow_17
    · exact absurd h1 c6
set_option maxRecDepth 100000 in
set_option maxHeartbeats 4000000 in
theorem x_SG_checkBelow (l : Launch) (hl0 : l.stackTraces = false) (g : Gx) (X : va_W) (n : Int32) (b : Nat) (h1 : ¬ inR n b) (h2 : b < 2 ^ 31) : vx_Met l y_SG_checkBelow (w_SG_checkBelow :: TW) rx_SG_checkBelow (va_Pc [.int n, .int (nI b)] (PR g (X))) qF (xT g IAE (X)) 1 6 (gA g) := by
  refine mx_of (by decide) (Nat.le_of_ble_eq_true rfl) ?_
  intro p e s m below meth c ls hx hb hr hml hlk hown ht hex F hP hD hl
  have hl : lv_has ls 2 [(0, .int n), (1, .int (nI b))] := hl
  have hS : va_S (gA g) s.heap s.heap [] := va_S.rf
  refine lv_iload_n hx hb d_SG_checkBelow_0 rfl (lv_at hl 0 rfl) ?_
  refine lv_if_lt (tgt := 9) hx hb d_SG_checkBelow_1 (by decide) (fun c1 => ?_) (fun c1 => ?_)
  · exact xc_new (names := NM) hl0 hx hb (hml.trans hl.1.symm) hown ht hlk hex F hP hD hS (by decide) (by decide) tw_164 tw_9 at_IAE gd_IAE d_SG_checkBelow_9 d_SG_checkBelow_12 d_SG_checkBelow_13 d_SG_checkBelow_16 (by decide) (Nat.le_of_ble_eq_true rfl) (by decide) (by decide) (by decide) (by decide)
  · refine lv_iload_n hx hb d_SG_checkBelow_4 rfl (lv_at hl 0 rfl) ?_
    refine lv_iload_n hx hb d_SG_checkBelow_5 rfl (lv_at hl 1 rfl) ?_
    refine lv_icmp_lt (tgt := 17) hx hb d_SG_checkBelow_6 (by decide) (fun c6 => ?_) (fun c6 => ?_)
    · exact absurd (inR_of h2 c1 c6) h1
    · exact xc_new (names := NM) hl0 hx hb (hml.trans hl.1.symm) hown ht hlk hex F hP hD hS (by decide) (by decide) tw_164 tw_9 at_IAE gd_IAE d_SG_checkBelow_9 d_SG_checkBelow_12 d_SG_checkBelow_13 d_SG_checkBelow_16 (by decide) (Nat.le_of_ble_eq_true rfl) (by decide) (by decide) (by decide) (by decide)
set_option maxRecDepth 100000 in
set_option maxHeartbeats 4000000 in
theorem c_SG_look (l : Launch) (g : Gx) (ad : Nat → Nat) (rg : Nat → Int64) (hd : Nat → Int32) (od : Nat → Int32) (tx : Nat → Int32) (ty : Int32) (sm : Nat → Int64) (pa : Nat → Int64) (pr : Nat → Int64) (fl : Nat → Int64) (op : Int32) (du : Int32) (qa : Nat) (ab : Nat → Int64) (ac : Int32) (qb : Nat) (be : Nat → Int64) (bc : Int32) (wd : Nat → Int32) (X : va_W) (k : Nat) (h1 : k < 8) (h2 : hd k = 1) : Met l y_SG_look (w_SG_look :: TW) rm_SG_look (va_Pc [.ref (ad 0), .int (nI k)] (PR g (CW g ad rg hd od tx ty sm pa pr fl op du qa ab ac qb be bc wd ++ X))) (va_Ql (fun r9 (u9 : Unit) => r9 = rg k) (fun u9 t9 => PR g (CW g ad rg hd od tx ty sm pa pr fl op du qa ab ac qb be bc wd ++ X) t9) (gA g)) 0 0 (gA g) := by
  refine mt_of (by decide) (Nat.le_of_ble_eq_true rfl) ?_
  intro p e s m below meth c ls hx hb hr hml hlk hown ht hnm F hP hD hl
  have hl : lv_has ls 2 [(0, .ref (ad 0)), (1, .int (nI k))] := hl
  have hS : va_S (gA g) s.heap s.heap [] := va_S.rf
  refine lv_aload_n hx hb d_SG_look_0 rfl (lv_at hl 0 rfl) ?_
  refine va_get (ci := 3) (v := .ref (ad 1)) (C := R_SG) (T := T_SG) (N := 6) hx hb ht i_SG hown F.2.1 hP 0 rfl rfl 0 (by decide) (ht _ tw_85) (fun _ h9 => h9) rfl d_SG_look_1 ?_
  refine lv_iload_n hx hb d_SG_look_4 rfl (lv_at hl 1 rfl) ?_
  refine pc_Vi (q0 := 1) (As := [.int (nI k)]) (rest := []) hx hb (hml.trans hl.1.symm) hown ht F hP hD hS (c_RG_isHeld l g ad rg hd od tx ty sm pa pr fl op du qa ab ac qb be bc wd X k (by omega) (Or.inr h2)) v_RG_isHeld tw_116 ⟨rfl, rfl⟩ ⟨by decide, by decide⟩ rfl rfl rfl rfl (Nat.le_of_ble_eq_true rfl) ⟨Nat.zero_le _, Nat.zero_le _⟩ d_SG_look_5 (fun r9 u9 H locs hq hP hD hS => ?_)
  subst hq
  refine lv_if_ne (tgt := 19) hx hb d_SG_look_8 (by decide) (fun c8 => ?_) (fun c8 => ?_)
  · refine lv_aload_n hx hb d_SG_look_19 rfl (lv_at hl 0 rfl) ?_
    refine va_get (ci := 3) (v := .ref (ad 1)) (C := R_SG) (T := T_SG) (N := 6) hx hb ht i_SG hown F.2.1 hP 0 rfl rfl 0 (by decide) (ht _ tw_85) (fun _ h9 => h9) rfl d_SG_look_20 ?_
    refine lv_iload_n hx hb d_SG_look_23 rfl (lv_at hl 1 rfl) ?_
    refine pc_Vl (q0 := 1) (As := [.int (nI k)]) (rest := []) hx hb (hml.trans hl.1.symm) hown ht F hP hD hS (c_RG_table l g ad rg hd od tx ty sm pa pr fl op du qa ab ac qb be bc wd X k (by omega)) v_RG_table tw_120 ⟨rfl, rfl⟩ ⟨by decide, by decide⟩ rfl rfl rfl rfl (Nat.le_of_ble_eq_true rfl) ⟨Nat.zero_le _, Nat.zero_le _⟩ d_SG_look_24 (fun r9 u9 H locs hq hP hD hS => ?_)
    subst hq
    exact W.lret (v := rg k) hx hb hr (fun t9 e1 hW => ⟨⟨_, (), rfl, rfl, PR.at F hP hD hS e1 hW.alike⟩, hS.F e1⟩) hS.2.2 d_SG_look_27
  · exact absurd (h2.symm.trans c8) (by decide)
set_option maxRecDepth 100000 in
set_option maxHeartbeats 4000000 in
theorem x_SG_look (l : Launch) (hl0 : l.stackTraces = false) (g : Gx) (ad : Nat → Nat) (rg : Nat → Int64) (hd : Nat → Int32) (od : Nat → Int32) (tx : Nat → Int32) (ty : Int32) (sm : Nat → Int64) (pa : Nat → Int64) (pr : Nat → Int64) (fl : Nat → Int64) (op : Int32) (du : Int32) (qa : Nat) (ab : Nat → Int64) (ac : Int32) (qb : Nat) (be : Nat → Int64) (bc : Int32) (wd : Nat → Int32) (X : va_W) (k : Nat) (h1 : k < 8) (h2 : hd k = 0) : vx_Met l y_SG_look (w_SG_look :: TW) rx_SG_look (va_Pc [.ref (ad 0), .int (nI k)] (PR g (CW g ad rg hd od tx ty sm pa pr fl op du qa ab ac qb be bc wd ++ X))) qF (xT g NSE (CW g ad rg hd od tx ty sm pa pr fl op du qa ab ac qb be bc wd ++ X)) 1 6 (gA g) := by
  refine mx_of (by decide) (Nat.le_of_ble_eq_true rfl) ?_
  intro p e s m below meth c ls hx hb hr hml hlk hown ht hex F hP hD hl
  have hl : lv_has ls 2 [(0, .ref (ad 0)), (1, .int (nI k))] := hl
  have hS : va_S (gA g) s.heap s.heap [] := va_S.rf
  refine lv_aload_n hx hb d_SG_look_0 rfl (lv_at hl 0 rfl) ?_
  refine va_get (ci := 3) (v := .ref (ad 1)) (C := R_SG) (T := T_SG) (N := 6) hx hb ht i_SG hown F.2.1 hP 0 rfl rfl 0 (by decide) (ht _ tw_85) (fun _ h9 => h9) rfl d_SG_look_1 ?_
  refine lv_iload_n hx hb d_SG_look_4 rfl (lv_at hl 1 rfl) ?_
  refine pc_Vi (q0 := 1) (As := [.int (nI k)]) (rest := []) hx hb (hml.trans hl.1.symm) hown ht F hP hD hS (c_RG_isHeld l g ad rg hd od tx ty sm pa pr fl op du qa ab ac qb be bc wd X k (by omega) (Or.inl h2)) v_RG_isHeld tw_116 ⟨rfl, rfl⟩ ⟨by decide, by decide⟩ rfl rfl rfl rfl (Nat.le_of_ble_eq_true rfl) ⟨Nat.zero_le _, Nat.zero_le _⟩ d_SG_look_5 (fun r9 u9 H locs hq hP hD hS => ?_)
  subst hq
  refine lv_if_ne (tgt := 19) hx hb d_SG_look_8 (by decide) (fun c8 => ?_) (fun c8 => ?_)
  · exact absurd h2 c8
  · exact xc_new (names := NM) hl0 hx hb (hml.trans hl.1.symm) hown ht hlk hex F hP hD hS (by decide) (by decide) tw_246 tw_11 at_NSE gd_NSE d_SG_look_11 d_SG_look_14 d_SG_look_15 d_SG_look_18 (by decide) (Nat.le_of_ble_eq_true rfl) (by decide) (by decide) (by decide) (by decide)
set_option maxRecDepth 100000 in
set_option maxHeartbeats 4000000 in
theorem c_FR_openParenthesis (l : Launch) (g : Gx) (ad : Nat → Nat) (rg : Nat → Int64) (hd : Nat → Int32) (od : Nat → Int32) (tx : Nat → Int32) (ty : Int32) (sm : Nat → Int64) (pa : Nat → Int64) (pr : Nat → Int64) (fl : Nat → Int64) (du : Int32) (qa : Nat) (ab : Nat → Int64) (ac : Int32) (qb : Nat) (be : Nat → Int64) (bc : Int32) (wd : Nat → Int32) (X : va_W) (k : Nat) (h1 : k < 5) : Met l y_FR_openParenthesis (w_FR_openParenthesis :: TW) rm_FR_openParenthesis (va_Pc [.ref (ad 6)] (PR g (CW g ad rg hd od tx ty sm pa pr fl (nI k) du qa ab ac qb be bc wd ++ X))) (va_Qi (fun r9 (u9 : Unit) => r9 = nI 1) (fun u9 t9 => PR g (CW g ad rg hd od tx ty (vp_updL sm (k + 1) 0) (vp_updL pa (k + 1) 0) (vp_updL pr (k + 1) (-1)) (vp_updL fl (k + 1) 0) (nI (k + 1)) (nI 1) qa ab ac qb be bc wd ++ X) t9) (gA g)) 0 0 (gA g) := by
  refine mt_of (by decide) (Nat.le_of_ble_eq_true rfl) ?_
  intro p e s m below meth c ls hx hb hr hml hlk hown ht hnm F hP hD hl
  have hl : lv_has ls 1 [(0, .ref (ad 6))] := hl
  have hS : va_S (gA g) s.heap s.heap [] := va_S.rf
  refine lv_aload_n hx hb d_FR_openParenthesis_0 rfl (lv_at hl 0 rfl) ?_
  refine va_get (ci := 0) (v := .int (nI k)) (C := R_FR) (T := T_FR) (N := 6) hx hb ht i_FR hown F.2.1 hP 6 rfl rfl 4 (by decide) (ht _ tw_46) (fun _ h9 => h9) rfl d_FR_openParenthesis_1 ?_
  refine lv_iconst (v := nI 5) hx hb d_FR_openParenthesis_4 (by decide) ?_
  refine rc_lt (tgt := 10) hx hb (by omega) (by omega) d_FR_openParenthesis_5 (by decide) (fun c5 => ?_) (fun c5 => ?_)
  · refine lv_aload_n hx hb d_FR_openParenthesis_10 rfl (lv_at hl 0 rfl) ?_
    refine lv_dup hx hb d_FR_openParenthesis_11 rfl ?_
    refine va_get (ci := 0) (v := .int (nI k)) (C := R_FR) (T := T_FR) (N := 6) hx hb ht i_FR hown F.2.1 hP 6 rfl rfl 4 (by decide) (ht _ tw_46) (fun _ h9 => h9) rfl d_FR_openParenthesis_12 ?_
    refine lv_iconst (v := nI 1) hx hb d_FR_openParenthesis_15 (by decide) ?_
    refine rn_add hx hb d_FR_openParenthesis_16 ?_
    refine va_put (ci := 0) (v := .int (nI (k + 1))) (ty := .int) (C := R_FR) (T := T_FR) (N := 6) hx hb ht i_FR t_FR t_FR_ok n_FR hown F.2.1 hP hD hS 6 rfl rfl 4 (by decide) (ht _ tw_46) (fun _ h9 => h9) rfl (by decide +kernel) rfl rfl (Nat.le_of_ble_eq_true rfl) d_FR_openParenthesis_17 (fun H locs hP hD hS => ?_)
    have hP : va_P g.1 cl (CW g ad rg hd od tx ty sm pa pr fl (nI (k + 1)) du qa ab ac qb be bc wd ++ X) H := hP
    have hD : va_D (gA g) (CW g ad rg hd od tx ty sm pa pr fl (nI (k + 1)) du qa ab ac qb be bc wd ++ X) := hD
    refine lv_aload_n hx hb d_FR_openParenthesis_20 rfl (lv_at hl 0 rfl) ?_
    refine pc_Vv (q0 := 6) (As := []) (rest := []) hx hb (hml.trans hl.1.symm) hown ht F hP hD hS (c_FR_beginFormula l g ad rg hd od tx ty sm pa pr fl du qa ab ac qb be bc wd X (k + 1) (by omega)) v_FR_beginFormula tw_316 ⟨rfl, rfl⟩ ⟨by decide, by decide⟩ rfl rfl rfl rfl (Nat.le_of_ble_eq_true rfl) ⟨Nat.zero_le _, Nat.zero_le _⟩ d_FR_openParenthesis_21 (fun u9 H locs hq hP hD hS => ?_)
    have hP : va_P g.1 cl (CW g ad rg hd od tx ty (vp_updL sm (k + 1) 0) (vp_updL pa (k + 1) 0) (vp_updL pr (k + 1) (-1)) (vp_updL fl (k + 1) 0) (nI (k + 1)) (nI 1) qa ab ac qb be bc wd ++ X) H := hP
    have hD : va_D (gA g) (CW g ad rg hd od tx ty (vp_updL sm (k + 1) 0) (vp_updL pa (k + 1) 0) (vp_updL pr (k + 1) (-1)) (vp_updL fl (k + 1) 0) (nI (k + 1)) (nI 1) qa ab ac qb be bc wd ++ X) := hD
    refine lv_iconst (v := nI 1) hx hb d_FR_openParenthesis_24 (by decide) ?_
    exact W.zret (v := nI 1) hx hb hr (by decide) (fun t9 e1 hW => ⟨⟨_, (), rfl, rfl, PR.at F hP hD hS e1 hW.alike⟩, hS.F e1⟩) hS.2.2 d_FR_openParenthesis_25
  · exact (by omega : False).elim
set_option maxRecDepth 100000 in
set_option maxHeartbeats 4000000 in
theorem c_FR_openParenthesis_5 (l : Launch) (g : Gx) (ad : Nat → Nat) (rg : Nat → Int64) (hd : Nat → Int32) (od : Nat → Int32) (tx : Nat → Int32) (ty : Int32) (sm : Nat → Int64) (pa : Nat → Int64) (pr : Nat → Int64) (fl : Nat → Int64) (du : Int32) (qa : Nat) (ab : Nat → Int64) (ac : Int32) (qb : Nat) (be : Nat → Int64) (bc : Int32) (wd : Nat → Int32) (X : va_W) (k : Nat) (h1 : k = 5) : Met l y_FR_openParenthesis (w_FR_openParenthesis :: TW) rm_FR_openParenthesis (va_Pc [.ref (ad 6)] (PR g (CW g ad rg hd od tx ty sm pa pr fl (nI k) du qa ab ac qb be bc wd ++ X))) (va_Qi (fun r9 (u9 : Unit) => r9 = nI 0) (fun u9 t9 => PR g (CW g ad rg hd od tx ty sm pa pr fl (nI k) du qa ab ac qb be bc wd ++ X) t9) (gA g)) 0 0 (gA g) := by
  refine mt_of (by decide) (Nat.le_of_ble_eq_true rfl) ?_
  intro p e s m below meth c ls hx hb hr hml hlk hown ht hnm F hP hD hl
  have hl : lv_has ls 1 [(0, .ref (ad 6))] := hl
  have hS : va_S (gA g) s.heap s.heap [] := va_S.rf
  refine lv_aload_n hx hb d_FR_openParenthesis_0 rfl (lv_at hl 0 rfl) ?_
  refine va_get (ci := 0) (v := .int (nI k)) (C := R_FR) (T := T_FR) (N := 6) hx hb ht i_FR hown F.2.1 hP 6 rfl rfl 4 (by decide) (ht _ tw_46) (fun _ h9 => h9) rfl d_FR_openParenthesis_1 ?_
  refine lv_iconst (v := nI 5) hx hb d_FR_openParenthesis_4 (by decide) ?_
  refine rc_lt (tgt := 10) hx hb (by omega) (by omega) d_FR_openParenthesis_5 (by decide) (fun c5 => ?_) (fun c5 => ?_)
  · exact (by omega : False).elim
  · refine lv_iconst (v := nI 0) hx hb d_FR_openParenthesis_8 (by decide) ?_
    exact W.zret (v := nI 0) hx hb hr (by decide) (fun t9 e1 hW => ⟨⟨_, (), rfl, rfl, PR.at F hP hD hS e1 hW.alike⟩, hS.F e1⟩) hS.2.2 d_FR_openParenthesis_9
