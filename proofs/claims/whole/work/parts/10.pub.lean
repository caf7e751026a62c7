/-- Long.bitCount, step by step -/
def bc1 (t : Int64) : Int64 := t - ((t.toUInt64 >>> ((nI 1).toInt64.toUInt64 &&& Int64.toUInt64 63)).toInt64 &&& 6148914691236517205)
def bc2 (t : Int64) : Int64 := (t &&& 3689348814741910323) + ((t.toUInt64 >>> ((nI 2).toInt64.toUInt64 &&& Int64.toUInt64 63)).toInt64 &&& 3689348814741910323)
def bc3 (t : Int64) : Int64 := (t + (t.toUInt64 >>> ((nI 4).toInt64.toUInt64 &&& Int64.toUInt64 63)).toInt64) &&& 1085102592571150095
def bc4 (t : Int64) : Int64 := t + (t.toUInt64 >>> ((nI 8).toInt64.toUInt64 &&& Int64.toUInt64 63)).toInt64
def bc5 (t : Int64) : Int64 := t + (t.toUInt64 >>> ((nI 16).toInt64.toUInt64 &&& Int64.toUInt64 63)).toInt64
def bc6 (t : Int64) : Int64 := t + (t.toUInt64 >>> ((nI 32).toInt64.toUInt64 &&& Int64.toUInt64 63)).toInt64
def BC (t : Int64) : Int32 := (bc6 (bc5 (bc4 (bc3 (bc2 (bc1 t)))))).toInt32 &&& nI 127
theorem bI_0 {P : Prop} [Decidable P] : bI P = 0 ↔ ¬ P := by unfold bI; split <;> simp_all
theorem bI_n0 {P : Prop} [Decidable P] (h : ¬ bI P = 0) : P := Decidable.byContradiction (fun z => h (bI_0.mpr z))
theorem bI_nn {P : Prop} [Decidable P] (h : bI (¬ P) = 0) : P := Decidable.byContradiction (fun z => bI_0.mp h z)
/-- what a code says -/
def SETT (k : Nat) : Int64 := if k % 2 = 0 then (if 2 ≤ k then mk6 ((k - 2) / 2) else 0) else (if 2 ≤ k then mk6 ((k - 2) / 2) else 0) ^^^ -1
/-- quantifying over the first i variables -/
def qnF (k : Nat) (z : Int32) (t : Int64) : Nat → Int64
  | 0 => t
  | i + 1 => if nI k >>> (nI i &&& 31) &&& nI 1 = nI 1 then (if z = 0 then W0 (qnF k z t i) i ||| W1 (qnF k z t i) i else W0 (qnF k z t i) i &&& W1 (qnF k z t i) i) else qnF k z t i
/-- the least assignment from i on, j of them looked at -/
def lsF (t : Int64) : Nat → Nat → Int32
  | _, 0 => -1
  | i, j + 1 => if bt t i = true then nI i else lsF t (i + 1) j
def spF (t : Int64) : Nat → Int32
  | 0 => nI 0
  | i + 1 => if W1 t i = W0 t i then spF t i else spF t i ||| (nI 1 <<< (nI i &&& 31))
theorem xch_lt {od : Nat → Nat} {u : Nat} (h : ∀ i, i < 6 → od i < 6) (hu : u + 1 < 6) : ∀ i, i < 6 → xch od u i < 6 := by
  intro i hi
  unfold xch uN
  split
  · exact h u (by omega)
  · split
    · exact h (u + 1) (by omega)
    · exact h i hi
set_option maxRecDepth 100000 in
set_option maxHeartbeats 4000000 in
theorem c_JL_bitCount (l : Launch) (g : Gx) (X : va_W) (t : Int64) : Met l y_JL_bitCount (w_JL_bitCount :: TW) rm_JL_bitCount (va_Pc [.long t] (PR g (X))) (va_Qi (fun r9 (u9 : Unit) => r9 = BC t) (fun u9 t9 => PR g (X) t9) (gA g)) 0 0 (gA g) := by
  refine mt_of (by decide) (Nat.le_of_ble_eq_true rfl) ?_
  intro p e s m below meth c ls hx hb hr hml hlk hown ht hnm F hP hD hl
  have hl : lv_has ls 2 [(0, .long t)] := hl
  have hS : va_S (gA g) s.heap s.heap [] := va_S.rf
  refine lv_lload_n hx hb d_JL_bitCount_0 rfl (lv_at hl 0 rfl) ?_
  refine lv_lload_n hx hb d_JL_bitCount_1 rfl (lv_at hl 0 rfl) ?_
  refine lv_iconst (v := nI 1) hx hb d_JL_bitCount_2 (by decide) ?_
  refine lv_lushr hx hb d_JL_bitCount_3 rfl ?_
  refine lv_ldc2 (v := 6148914691236517205) hx hb hown (ht _ tw_391) d_JL_bitCount_4 ?_
  refine lv_land hx hb d_JL_bitCount_7 ?_
  refine lv_lsub hx hb d_JL_bitCount_8 ?_
  refine lv_topl (fun x1 e_x1 => ?_)
  refine lv_lstore_n (lv' := [(0, .long x1)]) hx hb d_JL_bitCount_9 rfl hl (by decide) rfl (fun ls hl => ?_)
  refine lv_lload_n hx hb d_JL_bitCount_10 rfl (lv_at hl 0 rfl) ?_
  refine lv_ldc2 (v := 3689348814741910323) hx hb hown (ht _ tw_392) d_JL_bitCount_11 ?_
  refine lv_land hx hb d_JL_bitCount_14 ?_
  refine lv_lload_n hx hb d_JL_bitCount_15 rfl (lv_at hl 0 rfl) ?_
  refine lv_iconst (v := nI 2) hx hb d_JL_bitCount_16 (by decide) ?_
  refine lv_lushr hx hb d_JL_bitCount_17 rfl ?_
  refine lv_ldc2 (v := 3689348814741910323) hx hb hown (ht _ tw_392) d_JL_bitCount_18 ?_
  refine lv_land hx hb d_JL_bitCount_21 ?_
  refine lv_ladd hx hb d_JL_bitCount_22 ?_
  refine lv_topl (fun x2 e_x2 => ?_)
  refine lv_lstore_n (lv' := [(0, .long x2)]) hx hb d_JL_bitCount_23 rfl hl (by decide) rfl (fun ls hl => ?_)
  refine lv_lload_n hx hb d_JL_bitCount_24 rfl (lv_at hl 0 rfl) ?_
  refine lv_lload_n hx hb d_JL_bitCount_25 rfl (lv_at hl 0 rfl) ?_
  refine lv_iconst (v := nI 4) hx hb d_JL_bitCount_26 (by decide) ?_
  refine lv_lushr hx hb d_JL_bitCount_27 rfl ?_
  refine lv_ladd hx hb d_JL_bitCount_28 ?_
  refine lv_ldc2 (v := 1085102592571150095) hx hb hown (ht _ tw_393) d_JL_bitCount_29 ?_
  refine lv_land hx hb d_JL_bitCount_32 ?_
  refine lv_topl (fun x3 e_x3 => ?_)
  refine lv_lstore_n (lv' := [(0, .long x3)]) hx hb d_JL_bitCount_33 rfl hl (by decide) rfl (fun ls hl => ?_)
  refine lv_lload_n hx hb d_JL_bitCount_34 rfl (lv_at hl 0 rfl) ?_
  refine lv_lload_n hx hb d_JL_bitCount_35 rfl (lv_at hl 0 rfl) ?_
  refine lv_bipush (v := nI 8) hx hb d_JL_bitCount_36 (by decide) ?_
  refine lv_lushr hx hb d_JL_bitCount_38 rfl ?_
  refine lv_ladd hx hb d_JL_bitCount_39 ?_
  refine lv_topl (fun x4 e_x4 => ?_)
  refine lv_lstore_n (lv' := [(0, .long x4)]) hx hb d_JL_bitCount_40 rfl hl (by decide) rfl (fun ls hl => ?_)
  refine lv_lload_n hx hb d_JL_bitCount_41 rfl (lv_at hl 0 rfl) ?_
  refine lv_lload_n hx hb d_JL_bitCount_42 rfl (lv_at hl 0 rfl) ?_
  refine lv_bipush (v := nI 16) hx hb d_JL_bitCount_43 (by decide) ?_
  refine lv_lushr hx hb d_JL_bitCount_45 rfl ?_
  refine lv_ladd hx hb d_JL_bitCount_46 ?_
  refine lv_topl (fun x5 e_x5 => ?_)
  refine lv_lstore_n (lv' := [(0, .long x5)]) hx hb d_JL_bitCount_47 rfl hl (by decide) rfl (fun ls hl => ?_)
  refine lv_lload_n hx hb d_JL_bitCount_48 rfl (lv_at hl 0 rfl) ?_
  refine lv_lload_n hx hb d_JL_bitCount_49 rfl (lv_at hl 0 rfl) ?_
  refine lv_bipush (v := nI 32) hx hb d_JL_bitCount_50 (by decide) ?_
  refine lv_lushr hx hb d_JL_bitCount_52 rfl ?_
  refine lv_ladd hx hb d_JL_bitCount_53 ?_
  refine lv_topl (fun x6 e_x6 => ?_)
  refine lv_lstore_n (lv' := [(0, .long x6)]) hx hb d_JL_bitCount_54 rfl hl (by decide) rfl (fun ls hl => ?_)
  refine lv_lload_n hx hb d_JL_bitCount_55 rfl (lv_at hl 0 rfl) ?_
  refine lv_l2i hx hb d_JL_bitCount_56 rfl ?_
  refine lv_bipush (v := nI 127) hx hb d_JL_bitCount_57 (by decide) ?_
  refine lv_iand hx hb d_JL_bitCount_59 ?_
  exact W.iret (v := x6.toInt32 &&& (nI 127)) hx hb hr (fun t9 e1 hW => ⟨⟨_, (), rfl, (by rw [e_x6, e_x5, e_x4, e_x3, e_x2, e_x1]; rfl), PR.at F hP hD hS e1 hW.alike⟩, hS.F e1⟩) hS.2.2 d_JL_bitCount_60
set_option maxRecDepth 100000 in
set_option maxHeartbeats 4000000 in
theorem c_SG_set (l : Launch) (g : Gx) (ad : Nat → Nat) (rg : Nat → Int64) (hd : Nat → Int32) (od : Nat → Int32) (tx : Nat → Int32) (ty : Int32) (sm : Nat → Int64) (pa : Nat → Int64) (pr : Nat → Int64) (fl : Nat → Int64) (op : Int32) (du : Int32) (qa : Nat) (ab : Nat → Int64) (ac : Int32) (qb : Nat) (be : Nat → Int64) (bc : Int32) (wd : Nat → Int32) (X : va_W) (r k : Nat) (h1 : r < 8) (h2 : k < 14) : Met l y_SG_set (w_SG_set :: TW) rm_SG_set (va_Pc [.ref (ad 0), .int (nI r), .int (nI k)] (PR g (CW g ad rg hd od tx ty sm pa pr fl op du qa ab ac qb be bc wd ++ X))) (va_Qv (fun (u9 : Unit) => True) (fun u9 t9 => PR g (CW g ad (vp_updL rg r (SETT k)) (upd hd r (nI 1)) od tx ty sm pa pr fl op du qa ab ac qb be bc wd ++ X) t9) (gA g)) 0 0 (gA g) := by
  refine mt_of (by decide) (Nat.le_of_ble_eq_true rfl) ?_
  intro p e s m below meth c ls hx hb hr hml hlk hown ht hnm F hP hD hl
  have hl : lv_has ls 5 [(0, .ref (ad 0)), (1, .int (nI r)), (2, .int (nI k))] := hl
  have hS : va_S (gA g) s.heap s.heap [] := va_S.rf
  refine lv_iload_n hx hb d_SG_set_0 rfl (lv_at hl 1 rfl) ?_
  refine lv_bipush (v := nI 8) hx hb d_SG_set_1 (by decide) ?_
  refine pc_Sv (As := [.int (nI r), .int (nI 8)]) (rest := []) hx hb (hml.trans hl.1.symm) hown ht F hP hD hS (c_SG_checkBelow l g (CW g ad rg hd od tx ty sm pa pr fl op du qa ab ac qb be bc wd ++ X) r 8 (by omega) (by omega)) v_SG_checkBelow tw_161 ⟨rfl, rfl⟩ ⟨by decide, by decide⟩ rfl rfl (Nat.le_of_ble_eq_true rfl) ⟨Nat.zero_le _, Nat.zero_le _⟩ d_SG_set_3 (fun u9 H locs hq hP hD hS => ?_)
  refine lv_iload_n hx hb d_SG_set_6 rfl (lv_at hl 2 rfl) ?_
  refine lv_bipush (v := nI 14) hx hb d_SG_set_7 (by decide) ?_
  refine pc_Sv (As := [.int (nI k), .int (nI 14)]) (rest := []) hx hb (hml.trans hl.1.symm) hown ht F hP hD hS (c_SG_checkBelow l g (CW g ad rg hd od tx ty sm pa pr fl op du qa ab ac qb be bc wd ++ X) k 14 (by omega) (by omega)) v_SG_checkBelow tw_161 ⟨rfl, rfl⟩ ⟨by decide, by decide⟩ rfl rfl (Nat.le_of_ble_eq_true rfl) ⟨Nat.zero_le _, Nat.zero_le _⟩ d_SG_set_9 (fun u9 H locs hq hP hD hS => ?_)
  refine lv_iload_n hx hb d_SG_set_12 rfl (lv_at hl 2 rfl) ?_
  refine lv_iconst (v := nI 2) hx hb d_SG_set_13 (by decide) ?_
  refine rc_ge (tgt := 21) hx hb (by omega) (by omega) d_SG_set_14 (by decide) (fun c14 => ?_) (fun c14 => ?_)
  · refine lv_iload_n hx hb d_SG_set_21 rfl (lv_at hl 2 rfl) ?_
    refine lv_iconst (v := nI 2) hx hb d_SG_set_22 (by decide) ?_
    refine rn_sub hx hb (by omega) d_SG_set_23 ?_
    refine lv_iconst (v := nI 2) hx hb d_SG_set_24 (by decide) ?_
    refine lv_idiv hx hb d_SG_set_25 (by decide) ?_
    rw [pk_div (by omega) (by decide) (by decide)]
    refine pc_Sl (As := [.int (nI ((k - 2) / 2))]) (rest := []) hx hb (hml.trans hl.1.symm) hown ht F hP hD hS (c_TB_ofVariable l g (CW g ad rg hd od tx ty sm pa pr fl op du qa ab ac qb be bc wd ++ X) ((k - 2) / 2) (by omega)) v_TB_ofVariable tw_226 ⟨rfl, rfl⟩ ⟨by decide, by decide⟩ rfl rfl (Nat.le_of_ble_eq_true rfl) ⟨Nat.zero_le _, Nat.zero_le _⟩ d_SG_set_26 (fun r9 u9 H locs hq hP hD hS => ?_)
    subst hq
    refine lv_lstore_n (lv' := [(3, .long (mk6 ((k - 2) / 2))), (0, .ref (ad 0)), (1, .int (nI r)), (2, .int (nI k))]) hx hb d_SG_set_29 rfl hl (by decide) rfl (fun ls hl => ?_)
    refine lv_aload_n hx hb d_SG_set_30 rfl (lv_at hl 1 rfl) ?_
    refine va_get (ci := 3) (v := .ref (ad 1)) (C := R_SG) (T := T_SG) (N := 6) hx hb ht i_SG hown F.2.1 hP 0 rfl rfl 0 (by decide) (ht _ tw_85) (fun _ h9 => h9) rfl d_SG_set_31 ?_
    refine lv_iload_n hx hb d_SG_set_34 rfl (lv_at hl 2 rfl) ?_
    refine lv_iload_n hx hb d_SG_set_35 rfl (lv_at hl 3 rfl) ?_
    refine lv_iconst (v := nI 2) hx hb d_SG_set_36 (by decide) ?_
    refine lv_irem hx hb d_SG_set_37 (by decide) ?_
    rw [pk_rem (by omega) (by decide) (by decide)]
    refine rz_ne (tgt := 45) hx hb (by omega) d_SG_set_38 (by decide) (fun c38 => ?_) (fun c38 => ?_)
    · refine lv_lload_n hx hb d_SG_set_45 rfl (lv_at hl 0 rfl) ?_
      refine lv_ldc2 (v := (-1)) hx hb hown (ht _ tw_229) d_SG_set_46 ?_
      refine lv_lxor hx hb d_SG_set_49 ?_
      refine pc_Vv (q0 := 1) (As := [.int (nI r), .long ((mk6 ((k - 2) / 2)) ^^^ (-1))]) (rest := []) hx hb (hml.trans hl.1.symm) hown ht F hP hD hS (c_RG_put l g ad rg hd od tx ty sm pa pr fl op du qa ab ac qb be bc wd X r ((mk6 ((k - 2) / 2)) ^^^ (-1)) (by omega)) v_RG_put tw_230 ⟨rfl, rfl⟩ ⟨by decide, by decide⟩ rfl rfl rfl rfl (Nat.le_of_ble_eq_true rfl) ⟨Nat.zero_le _, Nat.zero_le _⟩ d_SG_set_50 (fun u9 H locs hq hP hD hS => ?_)
      have hP : va_P g.1 cl (CW g ad (vp_updL rg r ((mk6 ((k - 2) / 2)) ^^^ (-1))) (upd hd r (nI 1)) od tx ty sm pa pr fl op du qa ab ac qb be bc wd ++ X) H := hP
      have hD : va_D (gA g) (CW g ad (vp_updL rg r ((mk6 ((k - 2) / 2)) ^^^ (-1))) (upd hd r (nI 1)) od tx ty sm pa pr fl op du qa ab ac qb be bc wd ++ X) := hD
      have hP : va_P g.1 cl (CW g ad (vp_updL rg r (SETT k)) (upd hd r (nI 1)) od tx ty sm pa pr fl op du qa ab ac qb be bc wd ++ X) H := by rw [show SETT k = _ from (if_neg c38).trans (by rw [if_pos c14])]; exact hP
      have hD : va_D (gA g) (CW g ad (vp_updL rg r (SETT k)) (upd hd r (nI 1)) od tx ty sm pa pr fl op du qa ab ac qb be bc wd ++ X) := by rw [show SETT k = _ from (if_neg c38).trans (by rw [if_pos c14])]; exact hD
      exact W.vret hx hb hr (fun t9 e1 hW => ⟨⟨(), rfl, trivial, PR.at F hP hD hS e1 hW.alike⟩, hS.F e1⟩) hS.2.2 d_SG_set_53
    · refine lv_lload_n hx hb d_SG_set_41 rfl (lv_at hl 0 rfl) ?_
      refine lv_goto (tgt := 50) hx hb d_SG_set_42 (by decide) ?_
      refine pc_Vv (q0 := 1) (As := [.int (nI r), .long (mk6 ((k - 2) / 2))]) (rest := []) hx hb (hml.trans hl.1.symm) hown ht F hP hD hS (c_RG_put l g ad rg hd od tx ty sm pa pr fl op du qa ab ac qb be bc wd X r (mk6 ((k - 2) / 2)) (by omega)) v_RG_put tw_230 ⟨rfl, rfl⟩ ⟨by decide, by decide⟩ rfl rfl rfl rfl (Nat.le_of_ble_eq_true rfl) ⟨Nat.zero_le _, Nat.zero_le _⟩ d_SG_set_50 (fun u9 H locs hq hP hD hS => ?_)
      have hP : va_P g.1 cl (CW g ad (vp_updL rg r (mk6 ((k - 2) / 2))) (upd hd r (nI 1)) od tx ty sm pa pr fl op du qa ab ac qb be bc wd ++ X) H := hP
      have hD : va_D (gA g) (CW g ad (vp_updL rg r (mk6 ((k - 2) / 2))) (upd hd r (nI 1)) od tx ty sm pa pr fl op du qa ab ac qb be bc wd ++ X) := hD
      have hP : va_P g.1 cl (CW g ad (vp_updL rg r (SETT k)) (upd hd r (nI 1)) od tx ty sm pa pr fl op du qa ab ac qb be bc wd ++ X) H := by rw [show SETT k = _ from (if_pos c38).trans (by rw [if_pos c14])]; exact hP
      have hD : va_D (gA g) (CW g ad (vp_updL rg r (SETT k)) (upd hd r (nI 1)) od tx ty sm pa pr fl op du qa ab ac qb be bc wd ++ X) := by rw [show SETT k = _ from (if_pos c38).trans (by rw [if_pos c14])]; exact hD
      exact W.vret hx hb hr (fun t9 e1 hW => ⟨⟨(), rfl, trivial, PR.at F hP hD hS e1 hW.alike⟩, hS.F e1⟩) hS.2.2 d_SG_set_53
  · refine lv_lconst (v := 0) hx hb d_SG_set_17 (by decide) ?_
    refine lv_goto (tgt := 29) hx hb d_SG_set_18 (by decide) ?_
    refine lv_lstore_n (lv' := [(3, .long 0), (0, .ref (ad 0)), (1, .int (nI r)), (2, .int (nI k))]) hx hb d_SG_set_29 rfl hl (by decide) rfl (fun ls hl => ?_)
    refine lv_aload_n hx hb d_SG_set_30 rfl (lv_at hl 1 rfl) ?_
    refine va_get (ci := 3) (v := .ref (ad 1)) (C := R_SG) (T := T_SG) (N := 6) hx hb ht i_SG hown F.2.1 hP 0 rfl rfl 0 (by decide) (ht _ tw_85) (fun _ h9 => h9) rfl d_SG_set_31 ?_
    refine lv_iload_n hx hb d_SG_set_34 rfl (lv_at hl 2 rfl) ?_
    refine lv_iload_n hx hb d_SG_set_35 rfl (lv_at hl 3 rfl) ?_
    refine lv_iconst (v := nI 2) hx hb d_SG_set_36 (by decide) ?_
    refine lv_irem hx hb d_SG_set_37 (by decide) ?_
    rw [pk_rem (by omega) (by decide) (by decide)]
    refine rz_ne (tgt := 45) hx hb (by omega) d_SG_set_38 (by decide) (fun c38 => ?_) (fun c38 => ?_)
    · refine lv_lload_n hx hb d_SG_set_45 rfl (lv_at hl 0 rfl) ?_
      refine lv_ldc2 (v := (-1)) hx hb hown (ht _ tw_229) d_SG_set_46 ?_
      refine lv_lxor hx hb d_SG_set_49 ?_
      refine pc_Vv (q0 := 1) (As := [.int (nI r), .long (0 ^^^ (-1))]) (rest := []) hx hb (hml.trans hl.1.symm) hown ht F hP hD hS (c_RG_put l g ad rg hd od tx ty sm pa pr fl op du qa ab ac qb be bc wd X r (0 ^^^ (-1)) (by omega)) v_RG_put tw_230 ⟨rfl, rfl⟩ ⟨by decide, by decide⟩ rfl rfl rfl rfl (Nat.le_of_ble_eq_true rfl) ⟨Nat.zero_le _, Nat.zero_le _⟩ d_SG_set_50 (fun u9 H locs hq hP hD hS => ?_)
      have hP : va_P g.1 cl (CW g ad (vp_updL rg r (0 ^^^ (-1))) (upd hd r (nI 1)) od tx ty sm pa pr fl op du qa ab ac qb be bc wd ++ X) H := hP
      have hD : va_D (gA g) (CW g ad (vp_updL rg r (0 ^^^ (-1))) (upd hd r (nI 1)) od tx ty sm pa pr fl op du qa ab ac qb be bc wd ++ X) := hD
      have hP : va_P g.1 cl (CW g ad (vp_updL rg r (SETT k)) (upd hd r (nI 1)) od tx ty sm pa pr fl op du qa ab ac qb be bc wd ++ X) H := by rw [show SETT k = _ from (if_neg c38).trans (by rw [if_neg c14])]; exact hP
      have hD : va_D (gA g) (CW g ad (vp_updL rg r (SETT k)) (upd hd r (nI 1)) od tx ty sm pa pr fl op du qa ab ac qb be bc wd ++ X) := by rw [show SETT k = _ from (if_neg c38).trans (by rw [if_neg c14])]; exact hD
      exact W.vret hx hb hr (fun t9 e1 hW => ⟨⟨(), rfl, trivial, PR.at F hP hD hS e1 hW.alike⟩, hS.F e1⟩) hS.2.2 d_SG_set_53
    · refine lv_lload_n hx hb d_SG_set_41 rfl (lv_at hl 0 rfl) ?_
      refine lv_goto (tgt := 50) hx hb d_SG_set_42 (by decide) ?_
      refine pc_Vv (q0 := 1) (As := [.int (nI r), .long 0]) (rest := []) hx hb (hml.trans hl.1.symm) hown ht F hP hD hS (c_RG_put l g ad rg hd od tx ty sm pa pr fl op du qa ab ac qb be bc wd X r 0 (by omega)) v_RG_put tw_230 ⟨rfl, rfl⟩ ⟨by decide, by decide⟩ rfl rfl rfl rfl (Nat.le_of_ble_eq_true rfl) ⟨Nat.zero_le _, Nat.zero_le _⟩ d_SG_set_50 (fun u9 H locs hq hP hD hS => ?_)
      have hP : va_P g.1 cl (CW g ad (vp_updL rg r 0) (upd hd r (nI 1)) od tx ty sm pa pr fl op du qa ab ac qb be bc wd ++ X) H := hP
      have hD : va_D (gA g) (CW g ad (vp_updL rg r 0) (upd hd r (nI 1)) od tx ty sm pa pr fl op du qa ab ac qb be bc wd ++ X) := hD
      have hP : va_P g.1 cl (CW g ad (vp_updL rg r (SETT k)) (upd hd r (nI 1)) od tx ty sm pa pr fl op du qa ab ac qb be bc wd ++ X) H := by rw [show SETT k = _ from (if_pos c38).trans (by rw [if_neg c14])]; exact hP
      have hD : va_D (gA g) (CW g ad (vp_updL rg r (SETT k)) (upd hd r (nI 1)) od tx ty sm pa pr fl op du qa ab ac qb be bc wd ++ X) := by rw [show SETT k = _ from (if_pos c38).trans (by rw [if_neg c14])]; exact hD
      exact W.vret hx hb hr (fun t9 e1 hW => ⟨⟨(), rfl, trivial, PR.at F hP hD hS e1 hW.alike⟩, hS.F e1⟩) hS.2.2 d_SG_set_53
set_option maxRecDepth 100000 in
set_option maxHeartbeats 4000000 in
theorem c_SG_apply (l : Launch) (g : Gx) (ad : Nat → Nat) (rg : Nat → Int64) (hd : Nat → Int32) (od : Nat → Int32) (tx : Nat → Int32) (ty : Int32) (sm : Nat → Int64) (pa : Nat → Int64) (pr : Nat → Int64) (fl : Nat → Int64) (op : Int32) (du : Int32) (qa : Nat) (ab : Nat → Int64) (ac : Int32) (qb : Nat) (be : Nat → Int64) (bc : Int32) (wd : Nat → Int32) (X : va_W) (r a b o : Nat) (h1 : r < 8) (h2 : a < 8) (h3 : b < 8) (h4 : o < 16) (h5 : hd a = 1) (h6 : hd b = 1) : Met l y_SG_apply (w_SG_apply :: TW) rm_SG_apply (va_Pc [.ref (ad 0), .int (nI r), .int (nI a), .int (nI b), .int (nI o)] (PR g (CW g ad rg hd od tx ty sm pa pr fl op du qa ab ac qb be bc wd ++ X))) (va_Qv (fun (u9 : Unit) => True) (fun u9 t9 => PR g (CW g ad (vp_updL rg r (CNN (rg a) (rg b) o)) (upd hd r (nI 1)) od tx ty sm pa pr fl op du qa ab ac qb be bc wd ++ X) t9) (gA g)) 0 0 (gA g) := by
  refine mt_of (by decide) (Nat.le_of_ble_eq_true rfl) ?_
  intro p e s m below meth c ls hx hb hr hml hlk hown ht hnm F hP hD hl
  have hl : lv_has ls 5 [(0, .ref (ad 0)), (1, .int (nI r)), (2, .int (nI a)), (3, .int (nI b)), (4, .int (nI o))] := hl
  have hS : va_S (gA g) s.heap s.heap [] := va_S.rf
  refine lv_iload_n hx hb d_SG_apply_0 rfl (lv_at hl 1 rfl) ?_
  refine lv_bipush (v := nI 8) hx hb d_SG_apply_1 (by decide) ?_
  refine pc_Sv (As := [.int (nI r), .int (nI 8)]) (rest := []) hx hb (hml.trans hl.1.symm) hown ht F hP hD hS (c_SG_checkBelow l g (CW g ad rg hd od tx ty sm pa pr fl op du qa ab ac qb be bc wd ++ X) r 8 (by omega) (by omega)) v_SG_checkBelow tw_161 ⟨rfl, rfl⟩ ⟨by decide, by decide⟩ rfl rfl (Nat.le_of_ble_eq_true rfl) ⟨Nat.zero_le _, Nat.zero_le _⟩ d_SG_apply_3 (fun u9 H locs hq hP hD hS => ?_)
  refine lv_iload_n hx hb d_SG_apply_6 rfl (lv_at hl 2 rfl) ?_
  refine lv_bipush (v := nI 8) hx hb d_SG_apply_7 (by decide) ?_
  refine pc_Sv (As := [.int (nI a), .int (nI 8)]) (rest := []) hx hb (hml.trans hl.1.symm) hown ht F hP hD hS (c_SG_checkBelow l g (CW g ad rg hd od tx ty sm pa pr fl op du qa ab ac qb be bc wd ++ X) a 8 (by omega) (by omega)) v_SG_checkBelow tw_161 ⟨rfl, rfl⟩ ⟨by decide, by decide⟩ rfl rfl (Nat.le_of_ble_eq_true rfl) ⟨Nat.zero_le _, Nat.zero_le _⟩ d_SG_apply_9 (fun u9 H locs hq hP hD hS => ?_)
  refine lv_iload_n hx hb d_SG_apply_12 rfl (lv_at hl 3 rfl) ?_
  refine lv_bipush (v := nI 8) hx hb d_SG_apply_13 (by decide) ?_
  refine pc_Sv (As := [.int (nI b), .int (nI 8)]) (rest := []) hx hb (hml.trans hl.1.symm) hown ht F hP hD hS (c_SG_checkBelow l g (CW g ad rg hd od tx ty sm pa pr fl op du qa ab ac qb be bc wd ++ X) b 8 (by omega) (by omega)) v_SG_checkBelow tw_161 ⟨rfl, rfl⟩ ⟨by decide, by decide⟩ rfl rfl (Nat.le_of_ble_eq_true rfl) ⟨Nat.zero_le _, Nat.zero_le _⟩ d_SG_apply_15 (fun u9 H locs hq hP hD hS => ?_)
  refine lv_iload hx hb d_SG_apply_18 (lv_at hl 4 rfl) ?_
  refine lv_bipush (v := nI 16) hx hb d_SG_apply_20 (by decide) ?_
  refine pc_Sv (As := [.int (nI o), .int (nI 16)]) (rest := []) hx hb (hml.trans hl.1.symm) hown ht F hP hD hS (c_SG_checkBelow l g (CW g ad rg hd od tx ty sm pa pr fl op du qa ab ac qb be bc wd ++ X) o 16 (by omega) (by omega)) v_SG_checkBelow tw_161 ⟨rfl, rfl⟩ ⟨by decide, by decide⟩ rfl rfl (Nat.le_of_ble_eq_true rfl) ⟨Nat.zero_le _, Nat.zero_le _⟩ d_SG_apply_22 (fun u9 H locs hq hP hD hS => ?_)
  refine lv_aload_n hx hb d_SG_apply_25 rfl (lv_at hl 0 rfl) ?_
  refine va_get (ci := 3) (v := .ref (ad 1)) (C := R_SG) (T := T_SG) (N := 6) hx hb ht i_SG hown F.2.1 hP 0 rfl rfl 0 (by decide) (ht _ tw_85) (fun _ h9 => h9) rfl d_SG_apply_26 ?_
  refine lv_iload_n hx hb d_SG_apply_29 rfl (lv_at hl 1 rfl) ?_
  refine lv_aload_n hx hb d_SG_apply_30 rfl (lv_at hl 0 rfl) ?_
  refine lv_iload_n hx hb d_SG_apply_31 rfl (lv_at hl 2 rfl) ?_
  refine pc_Vl (q0 := 0) (As := [.int (nI a)]) (rest := [.int (nI r), .ref (ad 1)]) hx hb (hml.trans hl.1.symm) hown ht F hP hD hS (c_SG_look l g ad rg hd od tx ty sm pa pr fl op du qa ab ac qb be bc wd X a (by omega) h5) v_SG_look tw_242 ⟨rfl, rfl⟩ ⟨by decide, by decide⟩ rfl rfl rfl rfl (Nat.le_of_ble_eq_true rfl) ⟨Nat.zero_le _, Nat.zero_le _⟩ d_SG_apply_32 (fun r9 u9 H locs hq hP hD hS => ?_)
  subst hq
  refine lv_aload_n hx hb d_SG_apply_35 rfl (lv_at hl 0 rfl) ?_
  refine lv_iload_n hx hb d_SG_apply_36 rfl (lv_at hl 3 rfl) ?_
  refine pc_Vl (q0 := 0) (As := [.int (nI b)]) (rest := [.long (rg a), .int (nI r), .ref (ad 1)]) hx hb (hml.trans hl.1.symm) hown ht F hP hD hS (c_SG_look l g ad rg hd od tx ty sm pa pr fl op du qa ab ac qb be bc wd X b (by omega) h6) v_SG_look tw_242 ⟨rfl, rfl⟩ ⟨by decide, by decide⟩ rfl rfl rfl rfl (Nat.le_of_ble_eq_true rfl) ⟨Nat.zero_le _, Nat.zero_le _⟩ d_SG_apply_37 (fun r9 u9 H locs hq hP hD hS => ?_)
  subst hq
  refine lv_iload hx hb d_SG_apply_40 (lv_at hl 4 rfl) ?_
  refine pc_Sl (As := [.long (rg a), .long (rg b), .int (nI o)]) (rest := [.int (nI r), .ref (ad 1)]) hx hb (hml.trans hl.1.symm) hown ht F hP hD hS (c_TB_connected l g (CW g ad rg hd od tx ty sm pa pr fl op du qa ab ac qb be bc wd ++ X) (rg a) (rg b) o) v_TB_connected tw_261 ⟨rfl, rfl⟩ ⟨by decide, by decide⟩ rfl rfl (Nat.le_of_ble_eq_true rfl) ⟨Nat.zero_le _, Nat.zero_le _⟩ d_SG_apply_42 (fun r9 u9 H locs hq hP hD hS => ?_)
  subst hq
  refine pc_Vv (q0 := 1) (As := [.int (nI r), .long (CNN (rg a) (rg b) o)]) (rest := []) hx hb (hml.trans hl.1.symm) hown ht F hP hD hS (c_RG_put l g ad rg hd od tx ty sm pa pr fl op du qa ab ac qb be bc wd X r (CNN (rg a) (rg b) o) (by omega)) v_RG_put tw_230 ⟨rfl, rfl⟩ ⟨by decide, by decide⟩ rfl rfl rfl rfl (Nat.le_of_ble_eq_true rfl) ⟨Nat.zero_le _, Nat.zero_le _⟩ d_SG_apply_45 (fun u9 H locs hq hP hD hS => ?_)
  have hP : va_P g.1 cl (CW g ad (vp_updL rg r (CNN (rg a) (rg b) o)) (upd hd r (nI 1)) od tx ty sm pa pr fl op du qa ab ac qb be bc wd ++ X) H := hP
  have hD : va_D (gA g) (CW g ad (vp_updL rg r (CNN (rg a) (rg b) o)) (upd hd r (nI 1)) od tx ty sm pa pr fl op du qa ab ac qb be bc wd ++ X) := hD
  exact W.vret hx hb hr (fun t9 e1 hW => ⟨⟨(), rfl, trivial, PR.at F hP hD hS e1 hW.alike⟩, hS.F e1⟩) hS.2.2 d_SG_apply_48
set_option maxRecDepth 100000 in
set_option maxHeartbeats 4000000 in
theorem c_SG_choose (l : Launch) (g : Gx) (ad : Nat → Nat) (rg : Nat → Int64) (hd : Nat → Int32) (od : Nat → Int32) (tx : Nat → Int32) (ty : Int32) (sm : Nat → Int64) (pa : Nat → Int64) (pr : Nat → Int64) (fl : Nat → Int64) (op : Int32) (du : Int32) (qa : Nat) (ab : Nat → Int64) (ac : Int32) (qb : Nat) (be : Nat → Int64) (bc : Int32) (wd : Nat → Int32) (X : va_W) (r a b d : Nat) (h1 : r < 8) (h2 : a < 8) (h3 : b < 8) (h4 : d < 8) (h5 : hd a = 1) (h6 : hd b = 1) (h7 : hd d = 1) : Met l y_SG_choose (w_SG_choose :: TW) rm_SG_choose (va_Pc [.ref (ad 0), .int (nI r), .int (nI a), .int (nI b), .int (nI d)] (PR g (CW g ad rg hd od tx ty sm pa pr fl op du qa ab ac qb be bc wd ++ X))) (va_Qv (fun (u9 : Unit) => True) (fun u9 t9 => PR g (CW g ad (vp_updL rg r (CH (rg a) (rg b) (rg d))) (upd hd r (nI 1)) od tx ty sm pa pr fl op du qa ab ac qb be bc wd ++ X) t9) (gA g)) 0 0 (gA g) := by
  refine mt_of (by decide) (Nat.le_of_ble_eq_true rfl) ?_
  intro p e s m below meth c ls hx hb hr hml hlk hown ht hnm F hP hD hl
  have hl : lv_has ls 5 [(0, .ref (ad 0)), (1, .int (nI r)), (2, .int (nI a)), (3, .int (nI b)), (4, .int (nI d))] := hl
  have hS : va_S (gA g) s.heap s.heap [] := va_S.rf
  refine lv_iload_n hx hb d_SG_choose_0 rfl (lv_at hl 1 rfl) ?_
  refine lv_bipush (v := nI 8) hx hb d_SG_choose_1 (by decide) ?_
  refine pc_Sv (As := [.int (nI r), .int (nI 8)]) (rest := []) hx hb (hml.trans hl.1.symm) hown ht F hP hD hS (c_SG_checkBelow l g (CW g ad rg hd od tx ty sm pa pr fl op du qa ab ac qb be bc wd ++ X) r 8 (by omega) (by omega)) v_SG_checkBelow tw_161 ⟨rfl, rfl⟩ ⟨by decide, by decide⟩ rfl rfl (Nat.le_of_ble_eq_true rfl) ⟨Nat.zero_le _, Nat.zero_le _⟩ d_SG_choose_3 (fun u9 H locs hq hP hD hS => ?_)
  refine lv_iload_n hx hb d_SG_choose_6 rfl (lv_at hl 2 rfl) ?_
  refine lv_bipush (v := nI 8) hx hb d_SG_choose_7 (by decide) ?_
  refine pc_Sv (As := [.int (nI a), .int (nI 8)]) (rest := []) hx hb (hml.trans hl.1.symm) hown ht F hP hD hS (c_SG_checkBelow l g (CW g ad rg hd od tx ty sm pa pr fl op du qa ab ac qb be bc wd ++ X) a 8 (by omega) (by omega)) v_SG_checkBelow tw_161 ⟨rfl, rfl⟩ ⟨by decide, by decide⟩ rfl rfl (Nat.le_of_ble_eq_true rfl) ⟨Nat.zero_le _, Nat.zero_le _⟩ d_SG_choose_9 (fun u9 H locs hq hP hD hS => ?_)
  refine lv_iload_n hx hb d_SG_choose_12 rfl (lv_at hl 3 rfl) ?_
  refine lv_bipush (v := nI 8) hx hb d_SG_choose_13 (by decide) ?_
  refine pc_Sv (As := [.int (nI b), .int (nI 8)]) (rest := []) hx hb (hml.trans hl.1.symm) hown ht F hP hD hS (c_SG_checkBelow l g (CW g ad rg hd od tx ty sm pa pr fl op du qa ab ac qb be bc wd ++ X) b 8 (by omega) (by omega)) v_SG_checkBelow tw_161 ⟨rfl, rfl⟩ ⟨by decide, by decide⟩ rfl rfl (Nat.le_of_ble_eq_true rfl) ⟨Nat.zero_le _, Nat.zero_le _⟩ d_SG_choose_15 (fun u9 H locs hq hP hD hS => ?_)
  refine lv_iload hx hb d_SG_choose_18 (lv_at hl 4 rfl) ?_
  refine lv_bipush (v := nI 8) hx hb d_SG_choose_20 (by decide) ?_
  refine pc_Sv (As := [.int (nI d), .int (nI 8)]) (rest := []) hx hb (hml.trans hl.1.symm) hown ht F hP hD hS (c_SG_checkBelow l g (CW g ad rg hd od tx ty sm pa pr fl op du qa ab ac qb be bc wd ++ X) d 8 (by omega) (by omega)) v_SG_checkBelow tw_161 ⟨rfl, rfl⟩ ⟨by decide, by decide⟩ rfl rfl (Nat.le_of_ble_eq_true rfl) ⟨Nat.zero_le _, Nat.zero_le _⟩ d_SG_choose_22 (fun u9 H locs hq hP hD hS => ?_)
  refine lv_aload_n hx hb d_SG_choose_25 rfl (lv_at hl 0 rfl) ?_
  refine va_get (ci := 3) (v := .ref (ad 1)) (C := R_SG) (T := T_SG) (N := 6) hx hb ht i_SG hown F.2.1 hP 0 rfl rfl 0 (by decide) (ht _ tw_85) (fun _ h9 => h9) rfl d_SG_choose_26 ?_
  refine lv_iload_n hx hb d_SG_choose_29 rfl (lv_at hl 1 rfl) ?_
  refine lv_aload_n hx hb d_SG_choose_30 rfl (lv_at hl 0 rfl) ?_
  refine lv_iload_n hx hb d_SG_choose_31 rfl (lv_at hl 2 rfl) ?_
  refine pc_Vl (q0 := 0) (As := [.int (nI a)]) (rest := [.int (nI r), .ref (ad 1)]) hx hb (hml.trans hl.1.symm) hown ht F hP hD hS (c_SG_look l g ad rg hd od tx ty sm pa pr fl op du qa ab ac qb be bc wd X a (by omega) h5) v_SG_look tw_242 ⟨rfl, rfl⟩ ⟨by decide, by decide⟩ rfl rfl rfl rfl (Nat.le_of_ble_eq_true rfl) ⟨Nat.zero_le _, Nat.zero_le _⟩ d_SG_choose_32 (fun r9 u9 H locs hq hP hD hS => ?_)
  subst hq
  refine lv_aload_n hx hb d_SG_choose_35 rfl (lv_at hl 0 rfl) ?_
  refine lv_iload_n hx hb d_SG_choose_36 rfl (lv_at hl 3 rfl) ?_
  refine pc_Vl (q0 := 0) (As := [.int (nI b)]) (rest := [.long (rg a), .int (nI r), .ref (ad 1)]) hx hb (hml.trans hl.1.symm) hown ht F hP hD hS (c_SG_look l g ad rg hd od tx ty sm pa pr fl op du qa ab ac qb be bc wd X b (by omega) h6) v_SG_look tw_242 ⟨rfl, rfl⟩ ⟨by decide, by decide⟩ rfl rfl rfl rfl (Nat.le_of_ble_eq_true rfl) ⟨Nat.zero_le _, Nat.zero_le _⟩ d_SG_choose_37 (fun r9 u9 H locs hq hP hD hS => ?_)
  subst hq
  refine lv_aload_n hx hb d_SG_choose_40 rfl (lv_at hl 0 rfl) ?_
  refine lv_iload hx hb d_SG_choose_41 (lv_at hl 4 rfl) ?_
  refine pc_Vl (q0 := 0) (As := [.int (nI d)]) (rest := [.long (rg b), .long (rg a), .int (nI r), .ref (ad 1)]) hx hb (hml.trans hl.1.symm) hown ht F hP hD hS (c_SG_look l g ad rg hd od tx ty sm pa pr fl op du qa ab ac qb be bc wd X d (by omega) h7) v_SG_look tw_242 ⟨rfl, rfl⟩ ⟨by decide, by decide⟩ rfl rfl rfl rfl (Nat.le_of_ble_eq_true rfl) ⟨Nat.zero_le _, Nat.zero_le _⟩ d_SG_choose_43 (fun r9 u9 H locs hq hP hD hS => ?_)
  subst hq
  refine pc_Sl (As := [.long (rg a), .long (rg b), .long (rg d)]) (rest := [.int (nI r), .ref (ad 1)]) hx hb (hml.trans hl.1.symm) hown ht F hP hD hS (c_TB_chosen l g (CW g ad rg hd od tx ty sm pa pr fl op du qa ab ac qb be bc wd ++ X) (rg a) (rg b) (rg d)) v_TB_chosen tw_271 ⟨rfl, rfl⟩ ⟨by decide, by decide⟩ rfl rfl (Nat.le_of_ble_eq_true rfl) ⟨Nat.zero_le _, Nat.zero_le _⟩ d_SG_choose_46 (fun r9 u9 H locs hq hP hD hS => ?_)
  subst hq
  refine pc_Vv (q0 := 1) (As := [.int (nI r), .long (CH (rg a) (rg b) (rg d))]) (rest := []) hx hb (hml.trans hl.1.symm) hown ht F hP hD hS (c_RG_put l g ad rg hd od tx ty sm pa pr fl op du qa ab ac qb be bc wd X r (CH (rg a) (rg b) (rg d)) (by omega)) v_RG_put tw_230 ⟨rfl, rfl⟩ ⟨by decide, by decide⟩ rfl rfl rfl rfl (Nat.le_of_ble_eq_true rfl) ⟨Nat.zero_le _, Nat.zero_le _⟩ d_SG_choose_49 (fun u9 H locs hq hP hD hS => ?_)
  have hP : va_P g.1 cl (CW g ad (vp_updL rg r (CH (rg a) (rg b) (rg d))) (upd hd r (nI 1)) od tx ty sm pa pr fl op du qa ab ac qb be bc wd ++ X) H := hP
  have hD : va_D (gA g) (CW g ad (vp_updL rg r (CH (rg a) (rg b) (rg d))) (upd hd r (nI 1)) od tx ty sm pa pr fl op du qa ab ac qb be bc wd ++ X) := hD
  exact W.vret hx hb hr (fun t9 e1 hW => ⟨⟨(), rfl, trivial, PR.at F hP hD hS e1 hW.alike⟩, hS.F e1⟩) hS.2.2 d_SG_choose_52
set_option maxRecDepth 100000 in
set_option maxHeartbeats 4000000 in
theorem c_SG_restrict (l : Launch) (g : Gx) (ad : Nat → Nat) (rg : Nat → Int64) (hd : Nat → Int32) (od : Nat → Int32) (tx : Nat → Int32) (ty : Int32) (sm : Nat → Int64) (pa : Nat → Int64) (pr : Nat → Int64) (fl : Nat → Int64) (op : Int32) (du : Int32) (qa : Nat) (ab : Nat → Int64) (ac : Int32) (qb : Nat) (be : Nat → Int64) (bc : Int32) (wd : Nat → Int32) (X : va_W) (r a v : Nat) (z : Int32) (h1 : r < 8) (h2 : a < 8) (h3 : v < 6) (h5 : hd a = 1) : Met l y_SG_restrict (w_SG_restrict :: TW) rm_SG_restrict (va_Pc [.ref (ad 0), .int (nI r), .int (nI a), .int (nI v), .int z] (PR g (CW g ad rg hd od tx ty sm pa pr fl op du qa ab ac qb be bc wd ++ X))) (va_Qv (fun (u9 : Unit) => True) (fun u9 t9 => PR g (CW g ad (vp_updL rg r (if z = 0 then W0 (rg a) v else W1 (rg a) v)) (upd hd r (nI 1)) od tx ty sm pa pr fl op du qa ab ac qb be bc wd ++ X) t9) (gA g)) 0 0 (gA g) := by
  refine mt_of (by decide) (Nat.le_of_ble_eq_true rfl) ?_
  intro p e s m below meth c ls hx hb hr hml hlk hown ht hnm F hP hD hl
  have hl : lv_has ls 7 [(0, .ref (ad 0)), (1, .int (nI r)), (2, .int (nI a)), (3, .int (nI v)), (4, .int z)] := hl
  have hS : va_S (gA g) s.heap s.heap [] := va_S.rf
  refine lv_iload_n hx hb d_SG_restrict_0 rfl (lv_at hl 1 rfl) ?_
  refine lv_bipush (v := nI 8) hx hb d_SG_restrict_1 (by decide) ?_
  refine pc_Sv (As := [.int (nI r), .int (nI 8)]) (rest := []) hx hb (hml.trans hl.1.symm) hown ht F hP hD hS (c_SG_checkBelow l g (CW g ad rg hd od tx ty sm pa pr fl op du qa ab ac qb be bc wd ++ X) r 8 (by omega) (by omega)) v_SG_checkBelow tw_161 ⟨rfl, rfl⟩ ⟨by decide, by decide⟩ rfl rfl (Nat.le_of_ble_eq_true rfl) ⟨Nat.zero_le _, Nat.zero_le _⟩ d_SG_restrict_3 (fun u9 H locs hq hP hD hS => ?_)
  refine lv_iload_n hx hb d_SG_restrict_6 rfl (lv_at hl 2 rfl) ?_
  refine lv_bipush (v := nI 8) hx hb d_SG_restrict_7 (by decide) ?_
  refine pc_Sv (As := [.int (nI a), .int (nI 8)]) (rest := []) hx hb (hml.trans hl.1.symm) hown ht F hP hD hS (c_SG_checkBelow l g (CW g ad rg hd od tx ty sm pa pr fl op du qa ab ac qb be bc wd ++ X) a 8 (by omega) (by omega)) v_SG_checkBelow tw_161 ⟨rfl, rfl⟩ ⟨by decide, by decide⟩ rfl rfl (Nat.le_of_ble_eq_true rfl) ⟨Nat.zero_le _, Nat.zero_le _⟩ d_SG_restrict_9 (fun u9 H locs hq hP hD hS => ?_)
  refine lv_iload_n hx hb d_SG_restrict_12 rfl (lv_at hl 3 rfl) ?_
  refine lv_bipush (v := nI 6) hx hb d_SG_restrict_13 (by decide) ?_
  refine pc_Sv (As := [.int (nI v), .int (nI 6)]) (rest := []) hx hb (hml.trans hl.1.symm) hown ht F hP hD hS (c_SG_checkBelow l g (CW g ad rg hd od tx ty sm pa pr fl op du qa ab ac qb be bc wd ++ X) v 6 (by omega) (by omega)) v_SG_checkBelow tw_161 ⟨rfl, rfl⟩ ⟨by decide, by decide⟩ rfl rfl (Nat.le_of_ble_eq_true rfl) ⟨Nat.zero_le _, Nat.zero_le _⟩ d_SG_restrict_15 (fun u9 H locs hq hP hD hS => ?_)
  refine lv_aload_n hx hb d_SG_restrict_18 rfl (lv_at hl 0 rfl) ?_
  refine lv_iload_n hx hb d_SG_restrict_19 rfl (lv_at hl 2 rfl) ?_
  refine pc_Vl (q0 := 0) (As := [.int (nI a)]) (rest := []) hx hb (hml.trans hl.1.symm) hown ht F hP hD hS (c_SG_look l g ad rg hd od tx ty sm pa pr fl op du qa ab ac qb be bc wd X a (by omega) h5) v_SG_look tw_242 ⟨rfl, rfl⟩ ⟨by decide, by decide⟩ rfl rfl rfl rfl (Nat.le_of_ble_eq_true rfl) ⟨Nat.zero_le _, Nat.zero_le _⟩ d_SG_restrict_20 (fun r9 u9 H locs hq hP hD hS => ?_)
  subst hq
  refine lv_lstore (lv' := [(5, .long (rg a)), (0, .ref (ad 0)), (1, .int (nI r)), (2, .int (nI a)), (3, .int (nI v)), (4, .int z)]) hx hb d_SG_restrict_23 hl (by decide) rfl (fun ls hl => ?_)
  refine lv_aload_n hx hb d_SG_restrict_25 rfl (lv_at hl 1 rfl) ?_
  refine va_get (ci := 3) (v := .ref (ad 1)) (C := R_SG) (T := T_SG) (N := 6) hx hb ht i_SG hown F.2.1 hP 0 rfl rfl 0 (by decide) (ht _ tw_85) (fun _ h9 => h9) rfl d_SG_restrict_26 ?_
  refine lv_iload_n hx hb d_SG_restrict_29 rfl (lv_at hl 2 rfl) ?_
  refine lv_iload hx hb d_SG_restrict_30 (lv_at hl 5 rfl) ?_
  refine lv_if_eq (tgt := 44) hx hb d_SG_restrict_32 (by decide) (fun c32 => ?_) (fun c32 => ?_)
  · refine lv_lload hx hb d_SG_restrict_44 (lv_at hl 0 rfl) ?_
    refine lv_iload_n hx hb d_SG_restrict_46 rfl (lv_at hl 4 rfl) ?_
    refine pc_Sl (As := [.long (rg a), .int (nI v)]) (rest := [.int (nI r), .ref (ad 1)]) hx hb (hml.trans hl.1.symm) hown ht F hP hD hS (c_TB_withZero l g (CW g ad rg hd od tx ty sm pa pr fl op du qa ab ac qb be bc wd ++ X) (rg a) v (by omega)) v_TB_withZero tw_282 ⟨rfl, rfl⟩ ⟨by decide, by decide⟩ rfl rfl (Nat.le_of_ble_eq_true rfl) ⟨Nat.zero_le _, Nat.zero_le _⟩ d_SG_restrict_47 (fun r9 u9 H locs hq hP hD hS => ?_)
    subst hq
    refine pc_Vv (q0 := 1) (As := [.int (nI r), .long (W0 (rg a) v)]) (rest := []) hx hb (hml.trans hl.1.symm) hown ht F hP hD hS (c_RG_put l g ad rg hd od tx ty sm pa pr fl op du qa ab ac qb be bc wd X r (W0 (rg a) v) (by omega)) v_RG_put tw_230 ⟨rfl, rfl⟩ ⟨by decide, by decide⟩ rfl rfl rfl rfl (Nat.le_of_ble_eq_true rfl) ⟨Nat.zero_le _, Nat.zero_le _⟩ d_SG_restrict_50 (fun u9 H locs hq hP hD hS => ?_)
    have hP : va_P g.1 cl (CW g ad (vp_updL rg r (W0 (rg a) v)) (upd hd r (nI 1)) od tx ty sm pa pr fl op du qa ab ac qb be bc wd ++ X) H := hP
    have hD : va_D (gA g) (CW g ad (vp_updL rg r (W0 (rg a) v)) (upd hd r (nI 1)) od tx ty sm pa pr fl op du qa ab ac qb be bc wd ++ X) := hD
    have hP : va_P g.1 cl (CW g ad (vp_updL rg r (if z = 0 then W0 (rg a) v else W1 (rg a) v)) (upd hd r (nI 1)) od tx ty sm pa pr fl op du qa ab ac qb be bc wd ++ X) H := by rw [if_pos c32]; exact hP
    have hD : va_D (gA g) (CW g ad (vp_updL rg r (if z = 0 then W0 (rg a) v else W1 (rg a) v)) (upd hd r (nI 1)) od tx ty sm pa pr fl op du qa ab ac qb be bc wd ++ X) := by rw [if_pos c32]; exact hD
    exact W.vret hx hb hr (fun t9 e1 hW => ⟨⟨(), rfl, trivial, PR.at F hP hD hS e1 hW.alike⟩, hS.F e1⟩) hS.2.2 d_SG_restrict_53
  · refine lv_lload hx hb d_SG_restrict_35 (lv_at hl 0 rfl) ?_
    refine lv_iload_n hx hb d_SG_restrict_37 rfl (lv_at hl 4 rfl) ?_
    refine pc_Sl (As := [.long (rg a), .int (nI v)]) (rest := [.int (nI r), .ref (ad 1)]) hx hb (hml.trans hl.1.symm) hown ht F hP hD hS (c_TB_withOne l g (CW g ad rg hd od tx ty sm pa pr fl op du qa ab ac qb be bc wd ++ X) (rg a) v (by omega)) v_TB_withOne tw_281 ⟨rfl, rfl⟩ ⟨by decide, by decide⟩ rfl rfl (Nat.le_of_ble_eq_true rfl) ⟨Nat.zero_le _, Nat.zero_le _⟩ d_SG_restrict_38 (fun r9 u9 H locs hq hP hD hS => ?_)
    subst hq
    refine lv_goto (tgt := 50) hx hb d_SG_restrict_41 (by decide) ?_
    refine pc_Vv (q0 := 1) (As := [.int (nI r), .long (W1 (rg a) v)]) (rest := []) hx hb (hml.trans hl.1.symm) hown ht F hP hD hS (c_RG_put l g ad rg hd od tx ty sm pa pr fl op du qa ab ac qb be bc wd X r (W1 (rg a) v) (by omega)) v_RG_put tw_230 ⟨rfl, rfl⟩ ⟨by decide, by decide⟩ rfl rfl rfl rfl (Nat.le_of_ble_eq_true rfl) ⟨Nat.zero_le _, Nat.zero_le _⟩ d_SG_restrict_50 (fun u9 H locs hq hP hD hS => ?_)
    have hP : va_P g.1 cl (CW g ad (vp_updL rg r (W1 (rg a) v)) (upd hd r (nI 1)) od tx ty sm pa pr fl op du qa ab ac qb be bc wd ++ X) H := hP
    have hD : va_D (gA g) (CW g ad (vp_updL rg r (W1 (rg a) v)) (upd hd r (nI 1)) od tx ty sm pa pr fl op du qa ab ac qb be bc wd ++ X) := hD
    have hP : va_P g.1 cl (CW g ad (vp_updL rg r (if z = 0 then W0 (rg a) v else W1 (rg a) v)) (upd hd r (nI 1)) od tx ty sm pa pr fl op du qa ab ac qb be bc wd ++ X) H := by rw [if_neg c32]; exact hP
    have hD : va_D (gA g) (CW g ad (vp_updL rg r (if z = 0 then W0 (rg a) v else W1 (rg a) v)) (upd hd r (nI 1)) od tx ty sm pa pr fl op du qa ab ac qb be bc wd ++ X) := by rw [if_neg c32]; exact hD
    exact W.vret hx hb hr (fun t9 e1 hW => ⟨⟨(), rfl, trivial, PR.at F hP hD hS e1 hW.alike⟩, hS.F e1⟩) hS.2.2 d_SG_restrict_53
set_option maxRecDepth 100000 in
set_option maxHeartbeats 4000000 in
theorem c_SG_compose (l : Launch) (g : Gx) (ad : Nat → Nat) (rg : Nat → Int64) (hd : Nat → Int32) (od : Nat → Int32) (tx : Nat → Int32) (ty : Int32) (sm : Nat → Int64) (pa : Nat → Int64) (pr : Nat → Int64) (fl : Nat → Int64) (op : Int32) (du : Int32) (qa : Nat) (ab : Nat → Int64) (ac : Int32) (qb : Nat) (be : Nat → Int64) (bc : Int32) (wd : Nat → Int32) (X : va_W) (r a v b : Nat) (h1 : r < 8) (h2 : a < 8) (h3 : v < 6) (h4 : b < 8) (h5 : hd a = 1) (h6 : hd b = 1) : Met l y_SG_compose (w_SG_compose :: TW) rm_SG_compose (va_Pc [.ref (ad 0), .int (nI r), .int (nI a), .int (nI v), .int (nI b)] (PR g (CW g ad rg hd od tx ty sm pa pr fl op du qa ab ac qb be bc wd ++ X))) (va_Qv (fun (u9 : Unit) => True) (fun u9 t9 => PR g (CW g ad (vp_updL rg r (CH (rg b) (W1 (rg a) v) (W0 (rg a) v))) (upd hd r (nI 1)) od tx ty sm pa pr fl op du qa ab ac qb be bc wd ++ X) t9) (gA g)) 0 0 (gA g) := by
  refine mt_of (by decide) (Nat.le_of_ble_eq_true rfl) ?_
  intro p e s m below meth c ls hx hb hr hml hlk hown ht hnm F hP hD hl
  have hl : lv_has ls 9 [(0, .ref (ad 0)), (1, .int (nI r)), (2, .int (nI a)), (3, .int (nI v)), (4, .int (nI b))] := hl
  have hS : va_S (gA g) s.heap s.heap [] := va_S.rf
  refine lv_iload_n hx hb d_SG_compose_0 rfl (lv_at hl 1 rfl) ?_
  refine lv_bipush (v := nI 8) hx hb d_SG_compose_1 (by decide) ?_
  refine pc_Sv (As := [.int (nI r), .int (nI 8)]) (rest := []) hx hb (hml.trans hl.1.symm) hown ht F hP hD hS (c_SG_checkBelow l g (CW g ad rg hd od tx ty sm pa pr fl op du qa ab ac qb be bc wd ++ X) r 8 (by omega) (by omega)) v_SG_checkBelow tw_161 ⟨rfl, rfl⟩ ⟨by decide, by decide⟩ rfl rfl (Nat.le_of_ble_eq_true rfl) ⟨Nat.zero_le _, Nat.zero_le _⟩ d_SG_compose_3 (fun u9 H locs hq hP hD hS => ?_)
  refine lv_iload_n hx hb d_SG_compose_6 rfl (lv_at hl 2 rfl) ?_
  refine lv_bipush (v := nI 8) hx hb d_SG_compose_7 (by decide) ?_
  refine pc_Sv (As := [.int (nI a), .int (nI 8)]) (rest := []) hx hb (hml.trans hl.1.symm) hown ht F hP hD hS (c_SG_checkBelow l g (CW g ad rg hd od tx ty sm pa pr fl op du qa ab ac qb be bc wd ++ X) a 8 (by omega) (by omega)) v_SG_checkBelow tw_161 ⟨rfl, rfl⟩ ⟨by decide, by decide⟩ rfl rfl (Nat.le_of_ble_eq_true rfl) ⟨Nat.zero_le _, Nat.zero_le _⟩ d_SG_compose_9 (fun u9 H locs hq hP hD hS => ?_)
  refine lv_iload_n hx hb d_SG_compose_12 rfl (lv_at hl 3 rfl) ?_
  refine lv_bipush (v := nI 6) hx hb d_SG_compose_13 (by decide) ?_
  refine pc_Sv (As := [.int (nI v), .int (nI 6)]) (rest := []) hx hb (hml.trans hl.1.symm) hown ht F hP hD hS (c_SG_checkBelow l g (CW g ad rg hd od tx ty sm pa pr fl op du qa ab ac qb be bc wd ++ X) v 6 (by omega) (by omega)) v_SG_checkBelow tw_161 ⟨rfl, rfl⟩ ⟨by decide, by decide⟩ rfl rfl (Nat.le_of_ble_eq_true rfl) ⟨Nat.zero_le _, Nat.zero_le _⟩ d_SG_compose_15 (fun u9 H locs hq hP hD hS => ?_)
  refine lv_iload hx hb d_SG_compose_18 (lv_at hl 4 rfl) ?_
  refine lv_bipush (v := nI 8) hx hb d_SG_compose_20 (by decide) ?_
  refine pc_Sv (As := [.int (nI b), .int (nI 8)]) (rest := []) hx hb (hml.trans hl.1.symm) hown ht F hP hD hS (c_SG_checkBelow l g (CW g ad rg hd od tx ty sm pa pr fl op du qa ab ac qb be bc wd ++ X) b 8 (by omega) (by omega)) v_SG_checkBelow tw_161 ⟨rfl, rfl⟩ ⟨by decide, by decide⟩ rfl rfl (Nat.le_of_ble_eq_true rfl) ⟨Nat.zero_le _, Nat.zero_le _⟩ d_SG_compose_22 (fun u9 H locs hq hP hD hS => ?_)
  refine lv_aload_n hx hb d_SG_compose_25 rfl (lv_at hl 0 rfl) ?_
  refine lv_iload_n hx hb d_SG_compose_26 rfl (lv_at hl 2 rfl) ?_
  refine pc_Vl (q0 := 0) (As := [.int (nI a)]) (rest := []) hx hb (hml.trans hl.1.symm) hown ht F hP hD hS (c_SG_look l g ad rg hd od tx ty sm pa pr fl op du qa ab ac qb be bc wd X a (by omega) h5) v_SG_look tw_242 ⟨rfl, rfl⟩ ⟨by decide, by decide⟩ rfl rfl rfl rfl (Nat.le_of_ble_eq_true rfl) ⟨Nat.zero_le _, Nat.zero_le _⟩ d_SG_compose_27 (fun r9 u9 H locs hq hP hD hS => ?_)
  subst hq
  refine lv_lstore (lv' := [(5, .long (rg a)), (0, .ref (ad 0)), (1, .int (nI r)), (2, .int (nI a)), (3, .int (nI v)), (4, .int (nI b))]) hx hb d_SG_compose_30 hl (by decide) rfl (fun ls hl => ?_)
  refine lv_aload_n hx hb d_SG_compose_32 rfl (lv_at hl 1 rfl) ?_
  refine lv_iload hx hb d_SG_compose_33 (lv_at hl 5 rfl) ?_
  refine pc_Vl (q0 := 0) (As := [.int (nI b)]) (rest := []) hx hb (hml.trans hl.1.symm) hown ht F hP hD hS (c_SG_look l g ad rg hd od tx ty sm pa pr fl op du qa ab ac qb be bc wd X b (by omega) h6) v_SG_look tw_242 ⟨rfl, rfl⟩ ⟨by decide, by decide⟩ rfl rfl rfl rfl (Nat.le_of_ble_eq_true rfl) ⟨Nat.zero_le _, Nat.zero_le _⟩ d_SG_compose_35 (fun r9 u9 H locs hq hP hD hS => ?_)
  subst hq
  refine lv_lstore (lv' := [(7, .long (rg b)), (5, .long (rg a)), (0, .ref (ad 0)), (1, .int (nI r)), (2, .int (nI a)), (3, .int (nI v)), (4, .int (nI b))]) hx hb d_SG_compose_38 hl (by decide) rfl (fun ls hl => ?_)
  refine lv_aload_n hx hb d_SG_compose_40 rfl (lv_at hl 2 rfl) ?_
  refine va_get (ci := 3) (v := .ref (ad 1)) (C := R_SG) (T := T_SG) (N := 6) hx hb ht i_SG hown F.2.1 hP 0 rfl rfl 0 (by decide) (ht _ tw_85) (fun _ h9 => h9) rfl d_SG_compose_41 ?_
  refine lv_iload_n hx hb d_SG_compose_44 rfl (lv_at hl 3 rfl) ?_
  refine lv_lload hx hb d_SG_compose_45 (lv_at hl 0 rfl) ?_
  refine lv_lload hx hb d_SG_compose_47 (lv_at hl 1 rfl) ?_
  refine lv_iload_n hx hb d_SG_compose_49 rfl (lv_at hl 5 rfl) ?_
  refine pc_Sl (As := [.long (rg a), .int (nI v)]) (rest := [.long (rg b), .int (nI r), .ref (ad 1)]) hx hb (hml.trans hl.1.symm) hown ht F hP hD hS (c_TB_withOne l g (CW g ad rg hd od tx ty sm pa pr fl op du qa ab ac qb be bc wd ++ X) (rg a) v (by omega)) v_TB_withOne tw_281 ⟨rfl, rfl⟩ ⟨by decide, by decide⟩ rfl rfl (Nat.le_of_ble_eq_true rfl) ⟨Nat.zero_le _, Nat.zero_le _⟩ d_SG_compose_50 (fun r9 u9 H locs hq hP hD hS => ?_)
  subst hq
  refine lv_lload hx hb d_SG_compose_53 (lv_at hl 1 rfl) ?_
  refine lv_iload_n hx hb d_SG_compose_55 rfl (lv_at hl 5 rfl) ?_
  refine pc_Sl (As := [.long (rg a), .int (nI v)]) (rest := [.long (W1 (rg a) v), .long (rg b), .int (nI r), .ref (ad 1)]) hx hb (hml.trans hl.1.symm) hown ht F hP hD hS (c_TB_withZero l g (CW g ad rg hd od tx ty sm pa pr fl op du qa ab ac qb be bc wd ++ X) (rg a) v (by omega)) v_TB_withZero tw_282 ⟨rfl, rfl⟩ ⟨by decide, by decide⟩ rfl rfl (Nat.le_of_ble_eq_true rfl) ⟨Nat.zero_le _, Nat.zero_le _⟩ d_SG_compose_56 (fun r9 u9 H locs hq hP hD hS => ?_)
  subst hq
  refine pc_Sl (As := [.long (rg b), .long (W1 (rg a) v), .long (W0 (rg a) v)]) (rest := [.int (nI r), .ref (ad 1)]) hx hb (hml.trans hl.1.symm) hown ht F hP hD hS (c_TB_chosen l g (CW g ad rg hd od tx ty sm pa pr fl op du qa ab ac qb be bc wd ++ X) (rg b) (W1 (rg a) v) (W0 (rg a) v)) v_TB_chosen tw_271 ⟨rfl, rfl⟩ ⟨by decide, by decide⟩ rfl rfl (Nat.le_of_ble_eq_true rfl) ⟨Nat.zero_le _, Nat.zero_le _⟩ d_SG_compose_59 (fun r9 u9 H locs hq hP hD hS => ?_)
  subst hq
  refine pc_Vv (q0 := 1) (As := [.int (nI r), .long (CH (rg b) (W1 (rg a) v) (W0 (rg a) v))]) (rest := []) hx hb (hml.trans hl.1.symm) hown ht F hP hD hS (c_RG_put l g ad rg hd od tx ty sm pa pr fl op du qa ab ac qb be bc wd X r (CH (rg b) (W1 (rg a) v) (W0 (rg a) v)) (by omega)) v_RG_put tw_230 ⟨rfl, rfl⟩ ⟨by decide, by decide⟩ rfl rfl rfl rfl (Nat.le_of_ble_eq_true rfl) ⟨Nat.zero_le _, Nat.zero_le _⟩ d_SG_compose_62 (fun u9 H locs hq hP hD hS => ?_)
  have hP : va_P g.1 cl (CW g ad (vp_updL rg r (CH (rg b) (W1 (rg a) v) (W0 (rg a) v))) (upd hd r (nI 1)) od tx ty sm pa pr fl op du qa ab ac qb be bc wd ++ X) H := hP
  have hD : va_D (gA g) (CW g ad (vp_updL rg r (CH (rg b) (W1 (rg a) v) (W0 (rg a) v))) (upd hd r (nI 1)) od tx ty sm pa pr fl op du qa ab ac qb be bc wd ++ X) := hD
  exact W.vret hx hb hr (fun t9 e1 hW => ⟨⟨(), rfl, trivial, PR.at F hP hD hS e1 hW.alike⟩, hS.F e1⟩) hS.2.2 d_SG_compose_65
set_option maxRecDepth 100000 in
set_option maxHeartbeats 4000000 in
theorem c_SG_quantify (l : Launch) (g : Gx) (ad : Nat → Nat) (rg : Nat → Int64) (hd : Nat → Int32) (od : Nat → Int32) (tx : Nat → Int32) (ty : Int32) (sm : Nat → Int64) (pa : Nat → Int64) (pr : Nat → Int64) (fl : Nat → Int64) (op : Int32) (du : Int32) (qa : Nat) (ab : Nat → Int64) (ac : Int32) (qb : Nat) (be : Nat → Int64) (bc : Int32) (wd : Nat → Int32) (X : va_W) (r a k : Nat) (z : Int32) (h1 : r < 8) (h2 : a < 8) (h3 : k < 64) (h5 : hd a = 1) : Met l y_SG_quantify (w_SG_quantify :: TW) rm_SG_quantify (va_Pc [.ref (ad 0), .int (nI r), .int (nI a), .int (nI k), .int z] (PR g (CW g ad rg hd od tx ty sm pa pr fl op du qa ab ac qb be bc wd ++ X))) (va_Qv (fun (u9 : Unit) => True) (fun u9 t9 => PR g (CW g ad (vp_updL rg r (qnF k z (rg a) 6)) (upd hd r (nI 1)) od tx ty sm pa pr fl op du qa ab ac qb be bc wd ++ X) t9) (gA g)) 0 0 (gA g) := by
  refine mt_of (by decide) (Nat.le_of_ble_eq_true rfl) ?_
  intro p e s m below meth c ls hx hb hr hml hlk hown ht hnm F hP hD hl
  have hl : lv_has ls 12 [(0, .ref (ad 0)), (1, .int (nI r)), (2, .int (nI a)), (3, .int (nI k)), (4, .int z)] := hl
  have hS : va_S (gA g) s.heap s.heap [] := va_S.rf
  refine lv_iload_n hx hb d_SG_quantify_0 rfl (lv_at hl 1 rfl) ?_
  refine lv_bipush (v := nI 8) hx hb d_SG_quantify_1 (by decide) ?_
  refine pc_Sv (As := [.int (nI r), .int (nI 8)]) (rest := []) hx hb (hml.trans hl.1.symm) hown ht F hP hD hS (c_SG_checkBelow l g (CW g ad rg hd od tx ty sm pa pr fl op du qa ab ac qb be bc wd ++ X) r 8 (by omega) (by omega)) v_SG_checkBelow tw_161 ⟨rfl, rfl⟩ ⟨by decide, by decide⟩ rfl rfl (Nat.le_of_ble_eq_true rfl) ⟨Nat.zero_le _, Nat.zero_le _⟩ d_SG_quantify_3 (fun u9 H locs hq hP hD hS => ?_)
  refine lv_iload_n hx hb d_SG_quantify_6 rfl (lv_at hl 2 rfl) ?_
  refine lv_bipush (v := nI 8) hx hb d_SG_quantify_7 (by decide) ?_
  refine pc_Sv (As := [.int (nI a), .int (nI 8)]) (rest := []) hx hb (hml.trans hl.1.symm) hown ht F hP hD hS (c_SG_checkBelow l g (CW g ad rg hd od tx ty sm pa pr fl op du qa ab ac qb be bc wd ++ X) a 8 (by omega) (by omega)) v_SG_checkBelow tw_161 ⟨rfl, rfl⟩ ⟨by decide, by decide⟩ rfl rfl (Nat.le_of_ble_eq_true rfl) ⟨Nat.zero_le _, Nat.zero_le _⟩ d_SG_quantify_9 (fun u9 H locs hq hP hD hS => ?_)
  refine lv_iload_n hx hb d_SG_quantify_12 rfl (lv_at hl 3 rfl) ?_
  refine lv_bipush (v := nI 64) hx hb d_SG_quantify_13 (by decide) ?_
  refine pc_Sv (As := [.int (nI k), .int (nI 64)]) (rest := []) hx hb (hml.trans hl.1.symm) hown ht F hP hD hS (c_SG_checkBelow l g (CW g ad rg hd od tx ty sm pa pr fl op du qa ab ac qb be bc wd ++ X) k 64 (by omega) (by omega)) v_SG_checkBelow tw_161 ⟨rfl, rfl⟩ ⟨by decide, by decide⟩ rfl rfl (Nat.le_of_ble_eq_true rfl) ⟨Nat.zero_le _, Nat.zero_le _⟩ d_SG_quantify_15 (fun u9 H locs hq hP hD hS => ?_)
  refine lv_aload_n hx hb d_SG_quantify_18 rfl (lv_at hl 0 rfl) ?_
  refine lv_iload_n hx hb d_SG_quantify_19 rfl (lv_at hl 2 rfl) ?_
  refine pc_Vl (q0 := 0) (As := [.int (nI a)]) (rest := []) hx hb (hml.trans hl.1.symm) hown ht F hP hD hS (c_SG_look l g ad rg hd od tx ty sm pa pr fl op du qa ab ac qb be bc wd X a (by omega) h5) v_SG_look tw_242 ⟨rfl, rfl⟩ ⟨by decide, by decide⟩ rfl rfl rfl rfl (Nat.le_of_ble_eq_true rfl) ⟨Nat.zero_le _, Nat.zero_le _⟩ d_SG_quantify_20 (fun r9 u9 H locs hq hP hD hS => ?_)
  subst hq
  refine lv_lstore (lv' := [(5, .long (rg a)), (0, .ref (ad 0)), (1, .int (nI r)), (2, .int (nI a)), (3, .int (nI k)), (4, .int z)]) hx hb d_SG_quantify_23 hl (by decide) rfl (fun ls hl => ?_)
  refine lv_iconst (v := nI 0) hx hb d_SG_quantify_25 (by decide) ?_
  refine lv_istore (lv' := [(7, .int (nI 0)), (5, .long (rg a)), (0, .ref (ad 0)), (1, .int (nI r)), (2, .int (nI a)), (3, .int (nI k)), (4, .int z)]) hx hb d_SG_quantify_26 hl (by decide) rfl (fun ls hl => ?_)
  have lp28 : ∀ (j28 : Nat) (i : Nat) (H : Heap) (locs : List Loc) (ls : Array Slot), i + j28 = 6 → va_P g.1 cl (CW g ad rg hd od tx ty sm pa pr fl op du qa ab ac qb be bc wd ++ X) H → va_D (gA g) (CW g ad rg hd od tx ty sm pa pr fl op du qa ab ac qb be bc wd ++ X) → va_S (gA g) s.heap H locs → lv_has ls 12 [(7, .int (nI i)), (5, .long (qnF k z (rg a) i)), (0, .ref (ad 0)), (1, .int (nI r)), (2, .int (nI a)), (3, .int (nI k)), (4, .int z)] → W p l e rm_SG_quantify s m [.ref (ad 0), .int (nI r), .int (nI a), .int (nI k), .int z].toArray below meth c H locs 0 0 (MQ below (va_Qv (fun (u9 : Unit) => True) (fun u9 t9 => PR g (CW g ad (vp_updL rg r (qnF k z (rg a) 6)) (upd hd r (nI 1)) od tx ty sm pa pr fl op du qa ab ac qb be bc wd ++ X) t9) (gA g)) [.ref (ad 0), .int (nI r), .int (nI a), .int (nI k), .int z].toArray s 0 0 (gA g)) (F0 m 28 ls []) := by
    intro j28
    induction j28 with
    | zero =>
      intro i H locs ls hj28 hP hD hS hl
      refine lv_iload hx hb d_SG_quantify_28 (lv_at hl 0 rfl) ?_
      refine lv_bipush (v := nI 6) hx hb d_SG_quantify_30 (by decide) ?_
      refine rc_ge (tgt := 89) hx hb (by omega) (by omega) d_SG_quantify_32 (by decide) (fun c32 => ?_) (fun c32 => ?_)
      · refine lv_aload_n hx hb d_SG_quantify_89 rfl (lv_at hl 2 rfl) ?_
        refine va_get (ci := 3) (v := .ref (ad 1)) (C := R_SG) (T := T_SG) (N := 6) hx hb ht i_SG hown F.2.1 hP 0 rfl rfl 0 (by decide) (ht _ tw_85) (fun _ h9 => h9) rfl d_SG_quantify_90 ?_
        refine lv_iload_n hx hb d_SG_quantify_93 rfl (lv_at hl 3 rfl) ?_
        refine lv_lload hx hb d_SG_quantify_94 (lv_at hl 1 rfl) ?_
        refine pc_Vv (q0 := 1) (As := [.int (nI r), .long (qnF k z (rg a) i)]) (rest := []) hx hb (hml.trans hl.1.symm) hown ht F hP hD hS (c_RG_put l g ad rg hd od tx ty sm pa pr fl op du qa ab ac qb be bc wd X r (qnF k z (rg a) i) (by omega)) v_RG_put tw_230 ⟨rfl, rfl⟩ ⟨by decide, by decide⟩ rfl rfl rfl rfl (Nat.le_of_ble_eq_true rfl) ⟨Nat.zero_le _, Nat.zero_le _⟩ d_SG_quantify_96 (fun u9 H locs hq hP hD hS => ?_)
        have hP : va_P g.1 cl (CW g ad (vp_updL rg r (qnF k z (rg a) i)) (upd hd r (nI 1)) od tx ty sm pa pr fl op du qa ab ac qb be bc wd ++ X) H := hP
        have hD : va_D (gA g) (CW g ad (vp_updL rg r (qnF k z (rg a) i)) (upd hd r (nI 1)) od tx ty sm pa pr fl op du qa ab ac qb be bc wd ++ X) := hD
        have hP : va_P g.1 cl (CW g ad (vp_updL rg r (qnF k z (rg a) 6)) (upd hd r (nI 1)) od tx ty sm pa pr fl op du qa ab ac qb be bc wd ++ X) H := by obtain rfl : i = 6 := (by omega); exact hP
        have hD : va_D (gA g) (CW g ad (vp_updL rg r (qnF k z (rg a) 6)) (upd hd r (nI 1)) od tx ty sm pa pr fl op du qa ab ac qb be bc wd ++ X) := by obtain rfl : i = 6 := (by omega); exact hD
        exact W.vret hx hb hr (fun t9 e1 hW => ⟨⟨(), rfl, trivial, PR.at F hP hD hS e1 hW.alike⟩, hS.F e1⟩) hS.2.2 d_SG_quantify_99
      · exact (by omega : False).elim
    | succ j28 ih28 =>
      intro i H locs ls hj28 hP hD hS hl
      refine lv_iload hx hb d_SG_quantify_28 (lv_at hl 0 rfl) ?_
      refine lv_bipush (v := nI 6) hx hb d_SG_quantify_30 (by decide) ?_
      refine rc_ge (tgt := 89) hx hb (by omega) (by omega) d_SG_quantify_32 (by decide) (fun c32 => ?_) (fun c32 => ?_)
      · exact (by omega : False).elim
      · refine lv_iload_n hx hb d_SG_quantify_35 rfl (lv_at hl 5 rfl) ?_
        refine lv_iload hx hb d_SG_quantify_36 (lv_at hl 0 rfl) ?_
        refine lv_ishr hx hb d_SG_quantify_38 ?_
        refine lv_iconst (v := nI 1) hx hb d_SG_quantify_39 (by decide) ?_
        refine lv_iand hx hb d_SG_quantify_40 ?_
        refine lv_iconst (v := nI 1) hx hb d_SG_quantify_41 (by decide) ?_
        refine lv_icmp_ne (tgt := 83) hx hb d_SG_quantify_42 (by decide) (fun c42 => ?_) (fun c42 => ?_)
        · refine lv_iinc (lv' := [(7, .int (nI (i + 1))), (5, .long (qnF k z (rg a) i)), (0, .ref (ad 0)), (1, .int (nI r)), (2, .int (nI a)), (3, .int (nI k)), (4, .int z)]) hx hb d_SG_quantify_83 hl (k := 0) rfl (nI_1 _) (by decide) rfl (fun ls hl => ?_)
          refine lv_goto (tgt := 28) hx hb d_SG_quantify_86 (by decide) ?_
          have hl := lv_sub hl [0, 1, 2, 3, 4, 5, 6] rfl
          have hl : lv_has ls 12 [(7, .int (nI ((i + 1)))), (5, .long (qnF k z (rg a) (i + 1))), (0, .ref (ad 0)), (1, .int (nI r)), (2, .int (nI a)), (3, .int (nI k)), (4, .int z)] := by rw [show qnF k z (rg a) (i + 1) = qnF k z (rg a) i from if_neg c42]; exact hl
          exact ih28 (i + 1) H locs ls (by omega)  hP hD hS hl
        · refine lv_lload hx hb d_SG_quantify_45 (lv_at hl 1 rfl) ?_
          refine lv_iload hx hb d_SG_quantify_47 (lv_at hl 0 rfl) ?_
          refine pc_Sl (As := [.long (qnF k z (rg a) i), .int (nI i)]) (rest := []) hx hb (hml.trans hl.1.symm) hown ht F hP hD hS (c_TB_withZero l g (CW g ad rg hd od tx ty sm pa pr fl op du qa ab ac qb be bc wd ++ X) (qnF k z (rg a) i) i (by omega)) v_TB_withZero tw_282 ⟨rfl, rfl⟩ ⟨by decide, by decide⟩ rfl rfl (Nat.le_of_ble_eq_true rfl) ⟨Nat.zero_le _, Nat.zero_le _⟩ d_SG_quantify_49 (fun r9 u9 H locs hq hP hD hS => ?_)
          subst hq
          refine lv_lstore (lv' := [(8, .long (W0 (qnF k z (rg a) i) i)), (7, .int (nI i)), (5, .long (qnF k z (rg a) i)), (0, .ref (ad 0)), (1, .int (nI r)), (2, .int (nI a)), (3, .int (nI k)), (4, .int z)]) hx hb d_SG_quantify_52 hl (by decide) rfl (fun ls hl => ?_)
          refine lv_lload hx hb d_SG_quantify_54 (lv_at hl 2 rfl) ?_
          refine lv_iload hx hb d_SG_quantify_56 (lv_at hl 1 rfl) ?_
          refine pc_Sl (As := [.long (qnF k z (rg a) i), .int (nI i)]) (rest := []) hx hb (hml.trans hl.1.symm) hown ht F hP hD hS (c_TB_withOne l g (CW g ad rg hd od tx ty sm pa pr fl op du qa ab ac qb be bc wd ++ X) (qnF k z (rg a) i) i (by omega)) v_TB_withOne tw_281 ⟨rfl, rfl⟩ ⟨by decide, by decide⟩ rfl rfl (Nat.le_of_ble_eq_true rfl) ⟨Nat.zero_le _, Nat.zero_le _⟩ d_SG_quantify_58 (fun r9 u9 H locs hq hP hD hS => ?_)
          subst hq
          refine lv_lstore (lv' := [(10, .long (W1 (qnF k z (rg a) i) i)), (8, .long (W0 (qnF k z (rg a) i) i)), (7, .int (nI i)), (5, .long (qnF k z (rg a) i)), (0, .ref (ad 0)), (1, .int (nI r)), (2, .int (nI a)), (3, .int (nI k)), (4, .int z)]) hx hb d_SG_quantify_61 hl (by decide) rfl (fun ls hl => ?_)
          refine lv_iload hx hb d_SG_quantify_63 (lv_at hl 8 rfl) ?_
          refine lv_if_eq (tgt := 76) hx hb d_SG_quantify_65 (by decide) (fun c65 => ?_) (fun c65 => ?_)
          · refine lv_lload hx hb d_SG_quantify_76 (lv_at hl 1 rfl) ?_
            refine lv_lload hx hb d_SG_quantify_78 (lv_at hl 0 rfl) ?_
            refine lv_lor hx hb d_SG_quantify_80 ?_
            refine lv_lstore (lv' := [(5, .long ((W0 (qnF k z (rg a) i) i) ||| (W1 (qnF k z (rg a) i) i))), (10, .long (W1 (qnF k z (rg a) i) i)), (8, .long (W0 (qnF k z (rg a) i) i)), (7, .int (nI i)), (0, .ref (ad 0)), (1, .int (nI r)), (2, .int (nI a)), (3, .int (nI k)), (4, .int z)]) hx hb d_SG_quantify_81 hl (by decide) rfl (fun ls hl => ?_)
            refine lv_iinc (lv' := [(7, .int (nI (i + 1))), (5, .long ((W0 (qnF k z (rg a) i) i) ||| (W1 (qnF k z (rg a) i) i))), (10, .long (W1 (qnF k z (rg a) i) i)), (8, .long (W0 (qnF k z (rg a) i) i)), (0, .ref (ad 0)), (1, .int (nI r)), (2, .int (nI a)), (3, .int (nI k)), (4, .int z)]) hx hb d_SG_quantify_83 hl (k := 3) rfl (nI_1 _) (by decide) rfl (fun ls hl => ?_)
            refine lv_goto (tgt := 28) hx hb d_SG_quantify_86 (by decide) ?_
            have hl := lv_sub hl [0, 1, 4, 5, 6, 7, 8] rfl
            have hl : lv_has ls 12 [(7, .int (nI ((i + 1)))), (5, .long (qnF k z (rg a) (i + 1))), (0, .ref (ad 0)), (1, .int (nI r)), (2, .int (nI a)), (3, .int (nI k)), (4, .int z)] := by rw [show qnF k z (rg a) (i + 1) = _ from (if_pos c42).trans (if_pos c65)]; exact hl
            exact ih28 (i + 1) H locs ls (by omega)  hP hD hS hl
          · refine lv_lload hx hb d_SG_quantify_68 (lv_at hl 1 rfl) ?_
            refine lv_lload hx hb d_SG_quantify_70 (lv_at hl 0 rfl) ?_
            refine lv_land hx hb d_SG_quantify_72 ?_
            refine lv_goto (tgt := 81) hx hb d_SG_quantify_73 (by decide) ?_
            refine lv_lstore (lv' := [(5, .long ((W0 (qnF k z (rg a) i) i) &&& (W1 (qnF k z (rg a) i) i))), (10, .long (W1 (qnF k z (rg a) i) i)), (8, .long (W0 (qnF k z (rg a) i) i)), (7, .int (nI i)), (0, .ref (ad 0)), (1, .int (nI r)), (2, .int (nI a)), (3, .int (nI k)), (4, .int z)]) hx hb d_SG_quantify_81 hl (by decide) rfl (fun ls hl => ?_)
            refine lv_iinc (lv' := [(7, .int (nI (i + 1))), (5, .long ((W0 (qnF k z (rg a) i) i) &&& (W1 (qnF k z (rg a) i) i))), (10, .long (W1 (qnF k z (rg a) i) i)), (8, .long (W0 (qnF k z (rg a) i) i)), (0, .ref (ad 0)), (1, .int (nI r)), (2, .int (nI a)), (3, .int (nI k)), (4, .int z)]) hx hb d_SG_quantify_83 hl (k := 3) rfl (nI_1 _) (by decide) rfl (fun ls hl => ?_)
            refine lv_goto (tgt := 28) hx hb d_SG_quantify_86 (by decide) ?_
            have hl := lv_sub hl [0, 1, 4, 5, 6, 7, 8] rfl
            have hl : lv_has ls 12 [(7, .int (nI ((i + 1)))), (5, .long (qnF k z (rg a) (i + 1))), (0, .ref (ad 0)), (1, .int (nI r)), (2, .int (nI a)), (3, .int (nI k)), (4, .int z)] := by rw [show qnF k z (rg a) (i + 1) = _ from (if_pos c42).trans (if_neg c65)]; exact hl
            exact ih28 (i + 1) H locs ls (by omega)  hP hD hS hl
  have hl := lv_sub hl [0, 1, 2, 3, 4, 5, 6] rfl
  have hl : lv_has ls 12 [(7, .int (nI 0)), (5, .long (qnF k z (rg a) 0)), (0, .ref (ad 0)), (1, .int (nI r)), (2, .int (nI a)), (3, .int (nI k)), (4, .int z)] := hl
  exact lp28 (6 - 0) 0 _ _ ls (by omega)  hP hD hS hl
set_option maxRecDepth 100000 in
set_option maxHeartbeats 4000000 in
theorem c_SG_release (l : Launch) (g : Gx) (ad : Nat → Nat) (rg : Nat → Int64) (hd : Nat → Int32) (od : Nat → Int32) (tx : Nat → Int32) (ty : Int32) (sm : Nat → Int64) (pa : Nat → Int64) (pr : Nat → Int64) (fl : Nat → Int64) (op : Int32) (du : Int32) (qa : Nat) (ab : Nat → Int64) (ac : Int32) (qb : Nat) (be : Nat → Int64) (bc : Int32) (wd : Nat → Int32) (X : va_W) (r : Nat) (h1 : r < 8) (h2 : hd r = 0 ∨ hd r = 1) : Met l y_SG_release (w_SG_release :: TW) rm_SG_release (va_Pc [.ref (ad 0), .int (nI r)] (PR g (CW g ad rg hd od tx ty sm pa pr fl op du qa ab ac qb be bc wd ++ X))) (va_Qi (fun r9 (u9 : Unit) => r9 = hd r) (fun u9 t9 => PR g (CW g ad rg (upd hd r (nI 0)) od tx ty sm pa pr fl op du qa ab ac qb be bc wd ++ X) t9) (gA g)) 0 0 (gA g) := by
  refine mt_of (by decide) (Nat.le_of_ble_eq_true rfl) ?_
  intro p e s m below meth c ls hx hb hr hml hlk hown ht hnm F hP hD hl
  have hl : lv_has ls 3 [(0, .ref (ad 0)), (1, .int (nI r))] := hl
  have hS : va_S (gA g) s.heap s.heap [] := va_S.rf
  refine lv_iload_n hx hb d_SG_release_0 rfl (lv_at hl 1 rfl) ?_
  refine lv_bipush (v := nI 8) hx hb d_SG_release_1 (by decide) ?_
  refine pc_Sv (As := [.int (nI r), .int (nI 8)]) (rest := []) hx hb (hml.trans hl.1.symm) hown ht F hP hD hS (c_SG_checkBelow l g (CW g ad rg hd od tx ty sm pa pr fl op du qa ab ac qb be bc wd ++ X) r 8 (by omega) (by omega)) v_SG_checkBelow tw_161 ⟨rfl, rfl⟩ ⟨by decide, by decide⟩ rfl rfl (Nat.le_of_ble_eq_true rfl) ⟨Nat.zero_le _, Nat.zero_le _⟩ d_SG_release_3 (fun u9 H locs hq hP hD hS => ?_)
  refine lv_aload_n hx hb d_SG_release_6 rfl (lv_at hl 0 rfl) ?_
  refine va_get (ci := 3) (v := .ref (ad 1)) (C := R_SG) (T := T_SG) (N := 6) hx hb ht i_SG hown F.2.1 hP 0 rfl rfl 0 (by decide) (ht _ tw_85) (fun _ h9 => h9) rfl d_SG_release_7 ?_
  refine lv_iload_n hx hb d_SG_release_10 rfl (lv_at hl 1 rfl) ?_
  refine pc_Vi (q0 := 1) (As := [.int (nI r)]) (rest := []) hx hb (hml.trans hl.1.symm) hown ht F hP hD hS (c_RG_isHeld l g ad rg hd od tx ty sm pa pr fl op du qa ab ac qb be bc wd X r (by omega) h2) v_RG_isHeld tw_116 ⟨rfl, rfl⟩ ⟨by decide, by decide⟩ rfl rfl rfl rfl (Nat.le_of_ble_eq_true rfl) ⟨Nat.zero_le _, Nat.zero_le _⟩ d_SG_release_11 (fun r9 u9 H locs hq hP hD hS => ?_)
  subst hq
  refine lv_istore_n (lv' := [(2, .int (hd r)), (0, .ref (ad 0)), (1, .int (nI r))]) hx hb d_SG_release_14 rfl hl (by decide) rfl (fun ls hl => ?_)
  refine lv_aload_n hx hb d_SG_release_15 rfl (lv_at hl 1 rfl) ?_
  refine va_get (ci := 3) (v := .ref (ad 1)) (C := R_SG) (T := T_SG) (N := 6) hx hb ht i_SG hown F.2.1 hP 0 rfl rfl 0 (by decide) (ht _ tw_85) (fun _ h9 => h9) rfl d_SG_release_16 ?_
  refine lv_iload_n hx hb d_SG_release_19 rfl (lv_at hl 2 rfl) ?_
  refine pc_Vv (q0 := 1) (As := [.int (nI r)]) (rest := []) hx hb (hml.trans hl.1.symm) hown ht F hP hD hS (c_RG_clear l g ad rg hd od tx ty sm pa pr fl op du qa ab ac qb be bc wd X r (by omega)) v_RG_clear tw_360 ⟨rfl, rfl⟩ ⟨by decide, by decide⟩ rfl rfl rfl rfl (Nat.le_of_ble_eq_true rfl) ⟨Nat.zero_le _, Nat.zero_le _⟩ d_SG_release_20 (fun u9 H locs hq hP hD hS => ?_)
  have hP : va_P g.1 cl (CW g ad rg (upd hd r (nI 0)) od tx ty sm pa pr fl op du qa ab ac qb be bc wd ++ X) H := hP
  have hD : va_D (gA g) (CW g ad rg (upd hd r (nI 0)) od tx ty sm pa pr fl op du qa ab ac qb be bc wd ++ X) := hD
  refine lv_iload_n hx hb d_SG_release_23 rfl (lv_at hl 0 rfl) ?_
  exact W.zret (v := hd r) hx hb hr (by rcases h2 with h | h <;> rw [h] <;> rfl) (fun t9 e1 hW => ⟨⟨_, (), rfl, rfl, PR.at F hP hD hS e1 hW.alike⟩, hS.F e1⟩) hS.2.2 d_SG_release_24
set_option maxRecDepth 100000 in
set_option maxHeartbeats 4000000 in
theorem c_SG_equal (l : Launch) (g : Gx) (ad : Nat → Nat) (rg : Nat → Int64) (hd : Nat → Int32) (od : Nat → Int32) (tx : Nat → Int32) (ty : Int32) (sm : Nat → Int64) (pa : Nat → Int64) (pr : Nat → Int64) (fl : Nat → Int64) (op : Int32) (du : Int32) (qa : Nat) (ab : Nat → Int64) (ac : Int32) (qb : Nat) (be : Nat → Int64) (bc : Int32) (wd : Nat → Int32) (X : va_W) (a b : Nat) (h1 : a < 8) (h2 : b < 8) (h5 : hd a = 1) (h6 : hd b = 1) : Met l y_SG_equal (w_SG_equal :: TW) rm_SG_equal (va_Pc [.ref (ad 0), .int (nI a), .int (nI b)] (PR g (CW g ad rg hd od tx ty sm pa pr fl op du qa ab ac qb be bc wd ++ X))) (va_Qi (fun r9 (u9 : Unit) => r9 = bI (rg a = rg b)) (fun u9 t9 => PR g (CW g ad rg hd od tx ty sm pa pr fl op du qa ab ac qb be bc wd ++ X) t9) (gA g)) 0 0 (gA g) := by
  refine mt_of (by decide) (Nat.le_of_ble_eq_true rfl) ?_
  intro p e s m below meth c ls hx hb hr hml hlk hown ht hnm F hP hD hl
  have hl : lv_has ls 3 [(0, .ref (ad 0)), (1, .int (nI a)), (2, .int (nI b))] := hl
  have hS : va_S (gA g) s.heap s.heap [] := va_S.rf
  refine lv_iload_n hx hb d_SG_equal_0 rfl (lv_at hl 1 rfl) ?_
  refine lv_bipush (v := nI 8) hx hb d_SG_equal_1 (by decide) ?_
  refine pc_Sv (As := [.int (nI a), .int (nI 8)]) (rest := []) hx hb (hml.trans hl.1.symm) hown ht F hP hD hS (c_SG_checkBelow l g (CW g ad rg hd od tx ty sm pa pr fl op du qa ab ac qb be bc wd ++ X) a 8 (by omega) (by omega)) v_SG_checkBelow tw_161 ⟨rfl, rfl⟩ ⟨by decide, by decide⟩ rfl rfl (Nat.le_of_ble_eq_true rfl) ⟨Nat.zero_le _, Nat.zero_le _⟩ d_SG_equal_3 (fun u9 H locs hq hP hD hS => ?_)
  refine lv_iload_n hx hb d_SG_equal_6 rfl (lv_at hl 2 rfl) ?_
  refine lv_bipush (v := nI 8) hx hb d_SG_equal_7 (by decide) ?_
  refine pc_Sv (As := [.int (nI b), .int (nI 8)]) (rest := []) hx hb (hml.trans hl.1.symm) hown ht F hP hD hS (c_SG_checkBelow l g (CW g ad rg hd od tx ty sm pa pr fl op du qa ab ac qb be bc wd ++ X) b 8 (by omega) (by omega)) v_SG_checkBelow tw_161 ⟨rfl, rfl⟩ ⟨by decide, by decide⟩ rfl rfl (Nat.le_of_ble_eq_true rfl) ⟨Nat.zero_le _, Nat.zero_le _⟩ d_SG_equal_9 (fun u9 H locs hq hP hD hS => ?_)
  refine lv_aload_n hx hb d_SG_equal_12 rfl (lv_at hl 0 rfl) ?_
  refine lv_iload_n hx hb d_SG_equal_13 rfl (lv_at hl 1 rfl) ?_
  refine pc_Vl (q0 := 0) (As := [.int (nI a)]) (rest := []) hx hb (hml.trans hl.1.symm) hown ht F hP hD hS (c_SG_look l g ad rg hd od tx ty sm pa pr fl op du qa ab ac qb be bc wd X a (by omega) h5) v_SG_look tw_242 ⟨rfl, rfl⟩ ⟨by decide, by decide⟩ rfl rfl rfl rfl (Nat.le_of_ble_eq_true rfl) ⟨Nat.zero_le _, Nat.zero_le _⟩ d_SG_equal_14 (fun r9 u9 H locs hq hP hD hS => ?_)
  subst hq
  refine lv_aload_n hx hb d_SG_equal_17 rfl (lv_at hl 0 rfl) ?_
  refine lv_iload_n hx hb d_SG_equal_18 rfl (lv_at hl 2 rfl) ?_
  refine pc_Vl (q0 := 0) (As := [.int (nI b)]) (rest := [.long (rg a)]) hx hb (hml.trans hl.1.symm) hown ht F hP hD hS (c_SG_look l g ad rg hd od tx ty sm pa pr fl op du qa ab ac qb be bc wd X b (by omega) h6) v_SG_look tw_242 ⟨rfl, rfl⟩ ⟨by decide, by decide⟩ rfl rfl rfl rfl (Nat.le_of_ble_eq_true rfl) ⟨Nat.zero_le _, Nat.zero_le _⟩ d_SG_equal_19 (fun r9 u9 H locs hq hP hD hS => ?_)
  subst hq
  refine W.lcmp hx hb d_SG_equal_22 ?_
  refine lv_if_ne (tgt := 30) hx hb d_SG_equal_23 (by decide) (fun c23 => ?_) (fun c23 => ?_)
  · refine lv_iconst (v := nI 0) hx hb d_SG_equal_30 (by decide) ?_
    exact W.zret (v := nI 0) hx hb hr (by decide) (fun t9 e1 hW => ⟨⟨_, (), rfl, (bI_f (fun h => c23 ((lg_cmp_eq _ _).mpr h))), PR.at F hP hD hS e1 hW.alike⟩, hS.F e1⟩) hS.2.2 d_SG_equal_31
  · refine lv_iconst (v := nI 1) hx hb d_SG_equal_26 (by decide) ?_
    refine lv_goto (tgt := 31) hx hb d_SG_equal_27 (by decide) ?_
    exact W.zret (v := nI 1) hx hb hr (by decide) (fun t9 e1 hW => ⟨⟨_, (), rfl, (bI_t ((lg_cmp_eq _ _).mp c23)), PR.at F hP hD hS e1 hW.alike⟩, hS.F e1⟩) hS.2.2 d_SG_equal_31
set_option maxRecDepth 100000 in
set_option maxHeartbeats 4000000 in
theorem c_SG_value (l : Launch) (g : Gx) (ad : Nat → Nat) (rg : Nat → Int64) (hd : Nat → Int32) (od : Nat → Int32) (tx : Nat → Int32) (ty : Int32) (sm : Nat → Int64) (pa : Nat → Int64) (pr : Nat → Int64) (fl : Nat → Int64) (op : Int32) (du : Int32) (qa : Nat) (ab : Nat → Int64) (ac : Int32) (qb : Nat) (be : Nat → Int64) (bc : Int32) (wd : Nat → Int32) (X : va_W) (a k : Nat) (h1 : a < 8) (h2 : k < 64) (h5 : hd a = 1) : Met l y_SG_value (w_SG_value :: TW) rm_SG_value (va_Pc [.ref (ad 0), .int (nI a), .int (nI k)] (PR g (CW g ad rg hd od tx ty sm pa pr fl op du qa ab ac qb be bc wd ++ X))) (va_Qi (fun r9 (u9 : Unit) => r9 = bI (bt (rg a) k = true)) (fun u9 t9 => PR g (CW g ad rg hd od tx ty sm pa pr fl op du qa ab ac qb be bc wd ++ X) t9) (gA g)) 0 0 (gA g) := by
  refine mt_of (by decide) (Nat.le_of_ble_eq_true rfl) ?_
  intro p e s m below meth c ls hx hb hr hml hlk hown ht hnm F hP hD hl
  have hl : lv_has ls 3 [(0, .ref (ad 0)), (1, .int (nI a)), (2, .int (nI k))] := hl
  have hS : va_S (gA g) s.heap s.heap [] := va_S.rf
  refine lv_iload_n hx hb d_SG_value_0 rfl (lv_at hl 1 rfl) ?_
  refine lv_bipush (v := nI 8) hx hb d_SG_value_1 (by decide) ?_
  refine pc_Sv (As := [.int (nI a), .int (nI 8)]) (rest := []) hx hb (hml.trans hl.1.symm) hown ht F hP hD hS (c_SG_checkBelow l g (CW g ad rg hd od tx ty sm pa pr fl op du qa ab ac qb be bc wd ++ X) a 8 (by omega) (by omega)) v_SG_checkBelow tw_161 ⟨rfl, rfl⟩ ⟨by decide, by decide⟩ rfl rfl (Nat.le_of_ble_eq_true rfl) ⟨Nat.zero_le _, Nat.zero_le _⟩ d_SG_value_3 (fun u9 H locs hq hP hD hS => ?_)
  refine lv_iload_n hx hb d_SG_value_6 rfl (lv_at hl 2 rfl) ?_
  refine lv_bipush (v := nI 64) hx hb d_SG_value_7 (by decide) ?_
  refine pc_Sv (As := [.int (nI k), .int (nI 64)]) (rest := []) hx hb (hml.trans hl.1.symm) hown ht F hP hD hS (c_SG_checkBelow l g (CW g ad rg hd od tx ty sm pa pr fl op du qa ab ac qb be bc wd ++ X) k 64 (by omega) (by omega)) v_SG_checkBelow tw_161 ⟨rfl, rfl⟩ ⟨by decide, by decide⟩ rfl rfl (Nat.le_of_ble_eq_true rfl) ⟨Nat.zero_le _, Nat.zero_le _⟩ d_SG_value_9 (fun u9 H locs hq hP hD hS => ?_)
  refine lv_aload_n hx hb d_SG_value_12 rfl (lv_at hl 0 rfl) ?_
  refine lv_iload_n hx hb d_SG_value_13 rfl (lv_at hl 1 rfl) ?_
  refine pc_Vl (q0 := 0) (As := [.int (nI a)]) (rest := []) hx hb (hml.trans hl.1.symm) hown ht F hP hD hS (c_SG_look l g ad rg hd od tx ty sm pa pr fl op du qa ab ac qb be bc wd X a (by omega) h5) v_SG_look tw_242 ⟨rfl, rfl⟩ ⟨by decide, by decide⟩ rfl rfl rfl rfl (Nat.le_of_ble_eq_true rfl) ⟨Nat.zero_le _, Nat.zero_le _⟩ d_SG_value_14 (fun r9 u9 H locs hq hP hD hS => ?_)
  subst hq
  refine lv_iload_n hx hb d_SG_value_17 rfl (lv_at hl 2 rfl) ?_
  refine pc_Si (As := [.long (rg a), .int (nI k)]) (rest := []) hx hb (hml.trans hl.1.symm) hown ht F hP hD hS (c_TB_at l g (CW g ad rg hd od tx ty sm pa pr fl op du qa ab ac qb be bc wd ++ X) (rg a) k (by omega)) v_TB_at tw_378 ⟨rfl, rfl⟩ ⟨by decide, by decide⟩ rfl rfl (Nat.le_of_ble_eq_true rfl) ⟨Nat.zero_le _, Nat.zero_le _⟩ d_SG_value_18 (fun r9 u9 H locs hq hP hD hS => ?_)
  subst hq
  exact W.zret (v := bI (bt (rg a) k = true)) hx hb hr (bI_nar _) (fun t9 e1 hW => ⟨⟨_, (), rfl, rfl, PR.at F hP hD hS e1 hW.alike⟩, hS.F e1⟩) hS.2.2 d_SG_value_21
set_option maxRecDepth 100000 in
set_option maxHeartbeats 4000000 in
theorem c_SG_count (l : Launch) (g : Gx) (ad : Nat → Nat) (rg : Nat → Int64) (hd : Nat → Int32) (od : Nat → Int32) (tx : Nat → Int32) (ty : Int32) (sm : Nat → Int64) (pa : Nat → Int64) (pr : Nat → Int64) (fl : Nat → Int64) (op : Int32) (du : Int32) (qa : Nat) (ab : Nat → Int64) (ac : Int32) (qb : Nat) (be : Nat → Int64) (bc : Int32) (wd : Nat → Int32) (X : va_W) (a : Nat) (h1 : a < 8) (h5 : hd a = 1) : Met l y_SG_count (w_SG_count :: TW) rm_SG_count (va_Pc [.ref (ad 0), .int (nI a)] (PR g (CW g ad rg hd od tx ty sm pa pr fl op du qa ab ac qb be bc wd ++ X))) (va_Qi (fun r9 (u9 : Unit) => r9 = BC (rg a)) (fun u9 t9 => PR g (CW g ad rg hd od tx ty sm pa pr fl op du qa ab ac qb be bc wd ++ X) t9) (gA g)) 0 0 (gA g) := by
  refine mt_of (by decide) (Nat.le_of_ble_eq_true rfl) ?_
  intro p e s m below meth c ls hx hb hr hml hlk hown ht hnm F hP hD hl
  have hl : lv_has ls 2 [(0, .ref (ad 0)), (1, .int (nI a))] := hl
  have hS : va_S (gA g) s.heap s.heap [] := va_S.rf
  refine lv_iload_n hx hb d_SG_count_0 rfl (lv_at hl 1 rfl) ?_
  refine lv_bipush (v := nI 8) hx hb d_SG_count_1 (by decide) ?_
  refine pc_Sv (As := [.int (nI a), .int (nI 8)]) (rest := []) hx hb (hml.trans hl.1.symm) hown ht F hP hD hS (c_SG_checkBelow l g (CW g ad rg hd od tx ty sm pa pr fl op du qa ab ac qb be bc wd ++ X) a 8 (by omega) (by omega)) v_SG_checkBelow tw_161 ⟨rfl, rfl⟩ ⟨by decide, by decide⟩ rfl rfl (Nat.le_of_ble_eq_true rfl) ⟨Nat.zero_le _, Nat.zero_le _⟩ d_SG_count_3 (fun u9 H locs hq hP hD hS => ?_)
  refine lv_aload_n hx hb d_SG_count_6 rfl (lv_at hl 0 rfl) ?_
  refine lv_iload_n hx hb d_SG_count_7 rfl (lv_at hl 1 rfl) ?_
  refine pc_Vl (q0 := 0) (As := [.int (nI a)]) (rest := []) hx hb (hml.trans hl.1.symm) hown ht F hP hD hS (c_SG_look l g ad rg hd od tx ty sm pa pr fl op du qa ab ac qb be bc wd X a (by omega) h5) v_SG_look tw_242 ⟨rfl, rfl⟩ ⟨by decide, by decide⟩ rfl rfl rfl rfl (Nat.le_of_ble_eq_true rfl) ⟨Nat.zero_le _, Nat.zero_le _⟩ d_SG_count_8 (fun r9 u9 H locs hq hP hD hS => ?_)
  subst hq
  refine pc_Si (As := [.long (rg a)]) (rest := []) hx hb (hml.trans hl.1.symm) hown ht F hP hD hS (c_JL_bitCount l g (CW g ad rg hd od tx ty sm pa pr fl op du qa ab ac qb be bc wd ++ X) (rg a)) v_JL_bitCount tw_388 ⟨rfl, rfl⟩ ⟨by decide, by decide⟩ rfl rfl (Nat.le_of_ble_eq_true rfl) ⟨Nat.zero_le _, Nat.zero_le _⟩ d_SG_count_11 (fun r9 u9 H locs hq hP hD hS => ?_)
  subst hq
  exact W.iret (v := BC (rg a)) hx hb hr (fun t9 e1 hW => ⟨⟨_, (), rfl, rfl, PR.at F hP hD hS e1 hW.alike⟩, hS.F e1⟩) hS.2.2 d_SG_count_14
set_option maxRecDepth 100000 in
set_option maxHeartbeats 4000000 in
theorem c_SG_least (l : Launch) (g : Gx) (ad : Nat → Nat) (rg : Nat → Int64) (hd : Nat → Int32) (od : Nat → Int32) (tx : Nat → Int32) (ty : Int32) (sm : Nat → Int64) (pa : Nat → Int64) (pr : Nat → Int64) (fl : Nat → Int64) (op : Int32) (du : Int32) (qa : Nat) (ab : Nat → Int64) (ac : Int32) (qb : Nat) (be : Nat → Int64) (bc : Int32) (wd : Nat → Int32) (X : va_W) (a : Nat) (h1 : a < 8) (h5 : hd a = 1) : Met l y_SG_least (w_SG_least :: TW) rm_SG_least (va_Pc [.ref (ad 0), .int (nI a)] (PR g (CW g ad rg hd od tx ty sm pa pr fl op du qa ab ac qb be bc wd ++ X))) (va_Qi (fun r9 (u9 : Unit) => r9 = lsF (rg a) 0 64) (fun u9 t9 => PR g (CW g ad rg hd od tx ty sm pa pr fl op du qa ab ac qb be bc wd ++ X) t9) (gA g)) 0 0 (gA g) := by
  refine mt_of (by decide) (Nat.le_of_ble_eq_true rfl) ?_
  intro p e s m below meth c ls hx hb hr hml hlk hown ht hnm F hP hD hl
  have hl : lv_has ls 5 [(0, .ref (ad 0)), (1, .int (nI a))] := hl
  have hS : va_S (gA g) s.heap s.heap [] := va_S.rf
  refine lv_iload_n hx hb d_SG_least_0 rfl (lv_at hl 1 rfl) ?_
  refine lv_bipush (v := nI 8) hx hb d_SG_least_1 (by decide) ?_
  refine pc_Sv (As := [.int (nI a), .int (nI 8)]) (rest := []) hx hb (hml.trans hl.1.symm) hown ht F hP hD hS (c_SG_checkBelow l g (CW g ad rg hd od tx ty sm pa pr fl op du qa ab ac qb be bc wd ++ X) a 8 (by omega) (by omega)) v_SG_checkBelow tw_161 ⟨rfl, rfl⟩ ⟨by decide, by decide⟩ rfl rfl (Nat.le_of_ble_eq_true rfl) ⟨Nat.zero_le _, Nat.zero_le _⟩ d_SG_least_3 (fun u9 H locs hq hP hD hS => ?_)
  refine lv_aload_n hx hb d_SG_least_6 rfl (lv_at hl 0 rfl) ?_
  refine lv_iload_n hx hb d_SG_least_7 rfl (lv_at hl 1 rfl) ?_
  refine pc_Vl (q0 := 0) (As := [.int (nI a)]) (rest := []) hx hb (hml.trans hl.1.symm) hown ht F hP hD hS (c_SG_look l g ad rg hd od tx ty sm pa pr fl op du qa ab ac qb be bc wd X a (by omega) h5) v_SG_look tw_242 ⟨rfl, rfl⟩ ⟨by decide, by decide⟩ rfl rfl rfl rfl (Nat.le_of_ble_eq_true rfl) ⟨Nat.zero_le _, Nat.zero_le _⟩ d_SG_least_8 (fun r9 u9 H locs hq hP hD hS => ?_)
  subst hq
  refine lv_lstore_n (lv' := [(2, .long (rg a)), (0, .ref (ad 0)), (1, .int (nI a))]) hx hb d_SG_least_11 rfl hl (by decide) rfl (fun ls hl => ?_)
  refine lv_iconst (v := nI 0) hx hb d_SG_least_12 (by decide) ?_
  refine lv_istore (lv' := [(4, .int (nI 0)), (2, .long (rg a)), (0, .ref (ad 0)), (1, .int (nI a))]) hx hb d_SG_least_13 hl (by decide) rfl (fun ls hl => ?_)
  have lp15 : ∀ (j15 : Nat) (i : Nat) (H : Heap) (locs : List Loc) (ls : Array Slot), i + j15 = 64 → (lsF (rg a) 0 64 = lsF (rg a) i j15) → va_P g.1 cl (CW g ad rg hd od tx ty sm pa pr fl op du qa ab ac qb be bc wd ++ X) H → va_D (gA g) (CW g ad rg hd od tx ty sm pa pr fl op du qa ab ac qb be bc wd ++ X) → va_S (gA g) s.heap H locs → lv_has ls 5 [(4, .int (nI i)), (2, .long (rg a)), (0, .ref (ad 0)), (1, .int (nI a))] → W p l e rm_SG_least s m [.ref (ad 0), .int (nI a)].toArray below meth c H locs 0 0 (MQ below (va_Qi (fun r9 (u9 : Unit) => r9 = lsF (rg a) 0 64) (fun u9 t9 => PR g (CW g ad rg hd od tx ty sm pa pr fl op du qa ab ac qb be bc wd ++ X) t9) (gA g)) [.ref (ad 0), .int (nI a)].toArray s 0 0 (gA g)) (F0 m 15 ls []) := by
    intro j15
    induction j15 with
    | zero =>
      intro i H locs ls hj15 q1 hP hD hS hl
      refine lv_iload hx hb d_SG_least_15 (lv_at hl 0 rfl) ?_
      refine lv_bipush (v := nI 64) hx hb d_SG_least_17 (by decide) ?_
      refine rc_ge (tgt := 40) hx hb (by omega) (by omega) d_SG_least_19 (by decide) (fun c19 => ?_) (fun c19 => ?_)
      · refine lv_iconst (v := -1) hx hb d_SG_least_40 (by decide) ?_
        exact W.iret (v := -1) hx hb hr (fun t9 e1 hW => ⟨⟨_, (), rfl, q1.symm, PR.at F hP hD hS e1 hW.alike⟩, hS.F e1⟩) hS.2.2 d_SG_least_41
      · exact (by omega : False).elim
    | succ j15 ih15 =>
      intro i H locs ls hj15 q1 hP hD hS hl
      refine lv_iload hx hb d_SG_least_15 (lv_at hl 0 rfl) ?_
      refine lv_bipush (v := nI 64) hx hb d_SG_least_17 (by decide) ?_
      refine rc_ge (tgt := 40) hx hb (by omega) (by omega) d_SG_least_19 (by decide) (fun c19 => ?_) (fun c19 => ?_)
      · exact (by omega : False).elim
      · refine lv_lload_n hx hb d_SG_least_22 rfl (lv_at hl 1 rfl) ?_
        refine lv_iload hx hb d_SG_least_23 (lv_at hl 0 rfl) ?_
        refine pc_Si (As := [.long (rg a), .int (nI i)]) (rest := []) hx hb (hml.trans hl.1.symm) hown ht F hP hD hS (c_TB_at l g (CW g ad rg hd od tx ty sm pa pr fl op du qa ab ac qb be bc wd ++ X) (rg a) i (by omega)) v_TB_at tw_378 ⟨rfl, rfl⟩ ⟨by decide, by decide⟩ rfl rfl (Nat.le_of_ble_eq_true rfl) ⟨Nat.zero_le _, Nat.zero_le _⟩ d_SG_least_25 (fun r9 u9 H locs hq hP hD hS => ?_)
        subst hq
        refine lv_if_eq (tgt := 34) hx hb d_SG_least_28 (by decide) (fun c28 => ?_) (fun c28 => ?_)
        · refine lv_iinc (lv' := [(4, .int (nI (i + 1))), (2, .long (rg a)), (0, .ref (ad 0)), (1, .int (nI a))]) hx hb d_SG_least_34 hl (k := 0) rfl (nI_1 _) (by decide) rfl (fun ls hl => ?_)
          refine lv_goto (tgt := 15) hx hb d_SG_least_37 (by decide) ?_
          have hl := lv_sub hl [0, 1, 2, 3] rfl
          have hl : lv_has ls 5 [(4, .int (nI ((i + 1)))), (2, .long (rg a)), (0, .ref (ad 0)), (1, .int (nI a))] := hl
          exact ih15 (i + 1) H locs ls (by omega) (q1.trans (if_neg (bI_0.mp c28))) hP hD hS hl
        · refine lv_iload hx hb d_SG_least_31 (lv_at hl 0 rfl) ?_
          exact W.iret (v := nI i) hx hb hr (fun t9 e1 hW => ⟨⟨_, (), rfl, (q1.trans (if_pos (bI_n0 c28))).symm, PR.at F hP hD hS e1 hW.alike⟩, hS.F e1⟩) hS.2.2 d_SG_least_33
  have hl := lv_sub hl [0, 1, 2, 3] rfl
  have hl : lv_has ls 5 [(4, .int (nI 0)), (2, .long (rg a)), (0, .ref (ad 0)), (1, .int (nI a))] := hl
  exact lp15 (64 - 0) 0 _ _ ls (by omega) rfl hP hD hS hl
set_option maxRecDepth 100000 in
set_option maxHeartbeats 4000000 in
theorem c_SG_support (l : Launch) (g : Gx) (ad : Nat → Nat) (rg : Nat → Int64) (hd : Nat → Int32) (od : Nat → Int32) (tx : Nat → Int32) (ty : Int32) (sm : Nat → Int64) (pa : Nat → Int64) (pr : Nat → Int64) (fl : Nat → Int64) (op : Int32) (du : Int32) (qa : Nat) (ab : Nat → Int64) (ac : Int32) (qb : Nat) (be : Nat → Int64) (bc : Int32) (wd : Nat → Int32) (X : va_W) (a : Nat) (h1 : a < 8) (h5 : hd a = 1) : Met l y_SG_support (w_SG_support :: TW) rm_SG_support (va_Pc [.ref (ad 0), .int (nI a)] (PR g (CW g ad rg hd od tx ty sm pa pr fl op du qa ab ac qb be bc wd ++ X))) (va_Qi (fun r9 (u9 : Unit) => r9 = spF (rg a) 6) (fun u9 t9 => PR g (CW g ad rg hd od tx ty sm pa pr fl op du qa ab ac qb be bc wd ++ X) t9) (gA g)) 0 0 (gA g) := by
  refine mt_of (by decide) (Nat.le_of_ble_eq_true rfl) ?_
  intro p e s m below meth c ls hx hb hr hml hlk hown ht hnm F hP hD hl
  have hl : lv_has ls 6 [(0, .ref (ad 0)), (1, .int (nI a))] := hl
  have hS : va_S (gA g) s.heap s.heap [] := va_S.rf
  refine lv_iload_n hx hb d_SG_support_0 rfl (lv_at hl 1 rfl) ?_
  refine lv_bipush (v := nI 8) hx hb d_SG_support_1 (by decide) ?_
  refine pc_Sv (As := [.int (nI a), .int (nI 8)]) (rest := []) hx hb (hml.trans hl.1.symm) hown ht F hP hD hS (c_SG_checkBelow l g (CW g ad rg hd od tx ty sm pa pr fl op du qa ab ac qb be bc wd ++ X) a 8 (by omega) (by omega)) v_SG_checkBelow tw_161 ⟨rfl, rfl⟩ ⟨by decide, by decide⟩ rfl rfl (Nat.le_of_ble_eq_true rfl) ⟨Nat.zero_le _, Nat.zero_le _⟩ d_SG_support_3 (fun u9 H locs hq hP hD hS => ?_)
  refine lv_aload_n hx hb d_SG_support_6 rfl (lv_at hl 0 rfl) ?_
  refine lv_iload_n hx hb d_SG_support_7 rfl (lv_at hl 1 rfl) ?_
  refine pc_Vl (q0 := 0) (As := [.int (nI a)]) (rest := []) hx hb (hml.trans hl.1.symm) hown ht F hP hD hS (c_SG_look l g ad rg hd od tx ty sm pa pr fl op du qa ab ac qb be bc wd X a (by omega) h5) v_SG_look tw_242 ⟨rfl, rfl⟩ ⟨by decide, by decide⟩ rfl rfl rfl rfl (Nat.le_of_ble_eq_true rfl) ⟨Nat.zero_le _, Nat.zero_le _⟩ d_SG_support_8 (fun r9 u9 H locs hq hP hD hS => ?_)
  subst hq
  refine lv_lstore_n (lv' := [(2, .long (rg a)), (0, .ref (ad 0)), (1, .int (nI a))]) hx hb d_SG_support_11 rfl hl (by decide) rfl (fun ls hl => ?_)
  refine lv_iconst (v := nI 0) hx hb d_SG_support_12 (by decide) ?_
  refine lv_istore (lv' := [(4, .int (nI 0)), (2, .long (rg a)), (0, .ref (ad 0)), (1, .int (nI a))]) hx hb d_SG_support_13 hl (by decide) rfl (fun ls hl => ?_)
  refine lv_iconst (v := nI 0) hx hb d_SG_support_15 (by decide) ?_
  refine lv_istore (lv' := [(5, .int (nI 0)), (4, .int (nI 0)), (2, .long (rg a)), (0, .ref (ad 0)), (1, .int (nI a))]) hx hb d_SG_support_16 hl (by decide) rfl (fun ls hl => ?_)
  have lp18 : ∀ (j18 : Nat) (i : Nat) (H : Heap) (locs : List Loc) (ls : Array Slot), i + j18 = 6 → va_P g.1 cl (CW g ad rg hd od tx ty sm pa pr fl op du qa ab ac qb be bc wd ++ X) H → va_D (gA g) (CW g ad rg hd od tx ty sm pa pr fl op du qa ab ac qb be bc wd ++ X) → va_S (gA g) s.heap H locs → lv_has ls 6 [(5, .int (nI i)), (4, .int (spF (rg a) i)), (2, .long (rg a)), (0, .ref (ad 0)), (1, .int (nI a))] → W p l e rm_SG_support s m [.ref (ad 0), .int (nI a)].toArray below meth c H locs 0 0 (MQ below (va_Qi (fun r9 (u9 : Unit) => r9 = spF (rg a) 6) (fun u9 t9 => PR g (CW g ad rg hd od tx ty sm pa pr fl op du qa ab ac qb be bc wd ++ X) t9) (gA g)) [.ref (ad 0), .int (nI a)].toArray s 0 0 (gA g)) (F0 m 18 ls []) := by
    intro j18
    induction j18 with
    | zero =>
      intro i H locs ls hj18 hP hD hS hl
      refine lv_iload hx hb d_SG_support_18 (lv_at hl 0 rfl) ?_
      refine lv_bipush (v := nI 6) hx hb d_SG_support_20 (by decide) ?_
      refine rc_ge (tgt := 49) hx hb (by omega) (by omega) d_SG_support_22 (by decide) (fun c22 => ?_) (fun c22 => ?_)
      · refine lv_iload hx hb d_SG_support_49 (lv_at hl 1 rfl) ?_
        exact W.iret (v := spF (rg a) i) hx hb hr (fun t9 e1 hW => ⟨⟨_, (), rfl, (by rw [show i = 6 by omega]), PR.at F hP hD hS e1 hW.alike⟩, hS.F e1⟩) hS.2.2 d_SG_support_51
      · exact (by omega : False).elim
    | succ j18 ih18 =>
      intro i H locs ls hj18 hP hD hS hl
      refine lv_iload hx hb d_SG_support_18 (lv_at hl 0 rfl) ?_
      refine lv_bipush (v := nI 6) hx hb d_SG_support_20 (by decide) ?_
      refine rc_ge (tgt := 49) hx hb (by omega) (by omega) d_SG_support_22 (by decide) (fun c22 => ?_) (fun c22 => ?_)
      · exact (by omega : False).elim
      · refine lv_lload_n hx hb d_SG_support_25 rfl (lv_at hl 2 rfl) ?_
        refine lv_iload hx hb d_SG_support_26 (lv_at hl 0 rfl) ?_
        refine pc_Si (As := [.long (rg a), .int (nI i)]) (rest := []) hx hb (hml.trans hl.1.symm) hown ht F hP hD hS (c_TB_dependsOn l g (CW g ad rg hd od tx ty sm pa pr fl op du qa ab ac qb be bc wd ++ X) (rg a) i (by omega)) v_TB_dependsOn tw_408 ⟨rfl, rfl⟩ ⟨by decide, by decide⟩ rfl rfl (Nat.le_of_ble_eq_true rfl) ⟨Nat.zero_le _, Nat.zero_le _⟩ d_SG_support_28 (fun r9 u9 H locs hq hP hD hS => ?_)
        subst hq
        refine lv_if_eq (tgt := 43) hx hb d_SG_support_31 (by decide) (fun c31 => ?_) (fun c31 => ?_)
        · refine lv_iinc (lv' := [(5, .int (nI (i + 1))), (4, .int (spF (rg a) i)), (2, .long (rg a)), (0, .ref (ad 0)), (1, .int (nI a))]) hx hb d_SG_support_43 hl (k := 0) rfl (nI_1 _) (by decide) rfl (fun ls hl => ?_)
          refine lv_goto (tgt := 18) hx hb d_SG_support_46 (by decide) ?_
          have hl := lv_sub hl [0, 1, 2, 3, 4] rfl
          have hl : lv_has ls 6 [(5, .int (nI ((i + 1)))), (4, .int (spF (rg a) (i + 1))), (2, .long (rg a)), (0, .ref (ad 0)), (1, .int (nI a))] := by rw [show spF (rg a) (i + 1) = spF (rg a) i from if_pos (bI_nn c31)]; exact hl
          exact ih18 (i + 1) H locs ls (by omega)  hP hD hS hl
        · refine lv_iload hx hb d_SG_support_34 (lv_at hl 1 rfl) ?_
          refine lv_iconst (v := nI 1) hx hb d_SG_support_36 (by decide) ?_
          refine lv_iload hx hb d_SG_support_37 (lv_at hl 0 rfl) ?_
          refine lv_ishl hx hb d_SG_support_39 ?_
          refine lv_ior hx hb d_SG_support_40 ?_
          refine lv_istore (lv' := [(4, .int ((spF (rg a) i) ||| ((nI 1) <<< (nI i &&& 31)))), (5, .int (nI i)), (2, .long (rg a)), (0, .ref (ad 0)), (1, .int (nI a))]) hx hb d_SG_support_41 hl (by decide) rfl (fun ls hl => ?_)
          refine lv_iinc (lv' := [(5, .int (nI (i + 1))), (4, .int ((spF (rg a) i) ||| ((nI 1) <<< (nI i &&& 31)))), (2, .long (rg a)), (0, .ref (ad 0)), (1, .int (nI a))]) hx hb d_SG_support_43 hl (k := 1) rfl (nI_1 _) (by decide) rfl (fun ls hl => ?_)
          refine lv_goto (tgt := 18) hx hb d_SG_support_46 (by decide) ?_
          have hl := lv_sub hl [0, 1, 2, 3, 4] rfl
          have hl : lv_has ls 6 [(5, .int (nI ((i + 1)))), (4, .int (spF (rg a) (i + 1))), (2, .long (rg a)), (0, .ref (ad 0)), (1, .int (nI a))] := by rw [show spF (rg a) (i + 1) = _ from if_neg (bI_n0 c31)]; exact hl
          exact ih18 (i + 1) H locs ls (by omega)  hP hD hS hl
  have hl := lv_sub hl [0, 1, 2, 3, 4] rfl
  have hl : lv_has ls 6 [(5, .int (nI 0)), (4, .int (spF (rg a) 0)), (2, .long (rg a)), (0, .ref (ad 0)), (1, .int (nI a))] := hl
  exact lp18 (6 - 0) 0 _ _ ls (by omega)  hP hD hS hl
set_option maxRecDepth 100000 in
set_option maxHeartbeats 4000000 in
theorem c_SG_size (l : Launch) (g : Gx) (ad : Nat → Nat) (rg : Nat → Int64) (hd : Nat → Int32) (tx : Nat → Int32) (ty : Int32) (sm : Nat → Int64) (pa : Nat → Int64) (pr : Nat → Int64) (fl : Nat → Int64) (op : Int32) (du : Int32) (qa : Nat) (ab : Nat → Int64) (ac : Int32) (qb : Nat) (be : Nat → Int64) (bc : Int32) (wd : Nat → Int32) (X : va_W) (od : Nat → Nat) (a : Nat) (h1 : a < 8) (h5 : hd a = 1) (h8 : ∀ i, i < 6 → od i < 6) : Met l y_SG_size (w_SG_size :: TW) rm_SG_size (va_Pc [.ref (ad 0), .int (nI a)] (PR g (CW g ad rg hd (nF od) tx ty sm pa pr fl op du qa ab ac qb be bc wd ++ X))) (va_Qi (fun r9 (u9 : (Nat) × (Nat → Int64) × (Int32) × (Nat) × (Nat → Int64) × (Int32) × (Nat → Int32)) => r9 = nI (toL od (adL [] (rg a)) 6)) (fun u9 t9 => PR g (CW g ad rg hd (nF od) tx ty sm pa pr fl op du u9.1 u9.2.1 u9.2.2.1 u9.2.2.2.1 u9.2.2.2.2.1 u9.2.2.2.2.2.1 u9.2.2.2.2.2.2 ++ X) t9) (gA g)) 0 0 (gA g) := by
  refine mt_of (by decide) (Nat.le_of_ble_eq_true rfl) ?_
  intro p e s m below meth c ls hx hb hr hml hlk hown ht hnm F hP hD hl
  have hl : lv_has ls 2 [(0, .ref (ad 0)), (1, .int (nI a))] := hl
  have hS : va_S (gA g) s.heap s.heap [] := va_S.rf
  refine lv_iload_n hx hb d_SG_size_0 rfl (lv_at hl 1 rfl) ?_
  refine lv_bipush (v := nI 8) hx hb d_SG_size_1 (by decide) ?_
  refine pc_Sv (As := [.int (nI a), .int (nI 8)]) (rest := []) hx hb (hml.trans hl.1.symm) hown ht F hP hD hS (c_SG_checkBelow l g (CW g ad rg hd (nF od) tx ty sm pa pr fl op du qa ab ac qb be bc wd ++ X) a 8 (by omega) (by omega)) v_SG_checkBelow tw_161 ⟨rfl, rfl⟩ ⟨by decide, by decide⟩ rfl rfl (Nat.le_of_ble_eq_true rfl) ⟨Nat.zero_le _, Nat.zero_le _⟩ d_SG_size_3 (fun u9 H locs hq hP hD hS => ?_)
  refine lv_aload_n hx hb d_SG_size_6 rfl (lv_at hl 0 rfl) ?_
  refine va_get (ci := 3) (v := .ref (ad 11)) (C := R_SG) (T := T_SG) (N := 6) hx hb ht i_SG hown F.2.1 hP 0 rfl rfl 5 (by decide) (ht _ tw_90) (fun _ h9 => h9) rfl d_SG_size_7 ?_
  refine pc_Vv (q0 := 11) (As := []) (rest := []) hx hb (hml.trans hl.1.symm) hown ht F hP hD hS (c_NC_begin l g ad rg hd (nF od) tx ty sm pa pr fl op du qa ab ac qb be bc wd X) v_NC_begin tw_112 ⟨rfl, rfl⟩ ⟨by decide, by decide⟩ rfl rfl rfl rfl (Nat.le_of_ble_eq_true rfl) ⟨Nat.zero_le _, Nat.zero_le _⟩ d_SG_size_10 (fun u9 H locs hq hP hD hS => ?_)
  have hP : va_P g.1 cl (CW g ad rg hd (nF od) tx ty sm pa pr fl op du qa ab ac qb be (nI 0) wd ++ X) H := hP
  have hD : va_D (gA g) (CW g ad rg hd (nF od) tx ty sm pa pr fl op du qa ab ac qb be (nI 0) wd ++ X) := hD
  refine lv_aload_n hx hb d_SG_size_13 rfl (lv_at hl 0 rfl) ?_
  refine va_get (ci := 3) (v := .ref (ad 11)) (C := R_SG) (T := T_SG) (N := 6) hx hb ht i_SG hown F.2.1 hP 0 rfl rfl 5 (by decide) (ht _ tw_90) (fun _ h9 => h9) rfl d_SG_size_14 ?_
  refine lv_aload_n hx hb d_SG_size_17 rfl (lv_at hl 0 rfl) ?_
  refine lv_iload_n hx hb d_SG_size_18 rfl (lv_at hl 1 rfl) ?_
  refine pc_Vl (q0 := 0) (As := [.int (nI a)]) (rest := [.ref (ad 11)]) hx hb (hml.trans hl.1.symm) hown ht F hP hD hS (c_SG_look l g ad rg hd (nF od) tx ty sm pa pr fl op du qa ab ac qb be (nI 0) wd X a (by omega) h5) v_SG_look tw_242 ⟨rfl, rfl⟩ ⟨by decide, by decide⟩ rfl rfl rfl rfl (Nat.le_of_ble_eq_true rfl) ⟨Nat.zero_le _, Nat.zero_le _⟩ d_SG_size_19 (fun r9 u9 H locs hq hP hD hS => ?_)
  subst hq
  refine pc_Vv (q0 := 11) (As := [.long (rg a)]) (rest := []) hx hb (hml.trans hl.1.symm) hown ht F hP hD hS (c_NC_add l g ad rg hd (nF od) tx ty sm pa pr fl op du qa ab ac qb be wd X 0 (rg a) (by omega)) v_NC_add tw_124 ⟨rfl, rfl⟩ ⟨by decide, by decide⟩ rfl rfl rfl rfl (Nat.le_of_ble_eq_true rfl) ⟨Nat.zero_le _, Nat.zero_le _⟩ d_SG_size_22 (fun u9 H locs hq hP hD hS => ?_)
  have hP : va_P g.1 cl (CW g ad rg hd (nF od) tx ty sm pa pr fl op du qa ab ac qb (adF be 0 (rg a)) (nI (adN be 0 (rg a))) wd ++ X) H := hP
  have hD : va_D (gA g) (CW g ad rg hd (nF od) tx ty sm pa pr fl op du qa ab ac qb (adF be 0 (rg a)) (nI (adN be 0 (rg a))) wd ++ X) := hD
  refine lv_aload_n hx hb d_SG_size_25 rfl (lv_at hl 0 rfl) ?_
  refine va_get (ci := 3) (v := .ref (ad 11)) (C := R_SG) (T := T_SG) (N := 6) hx hb ht i_SG hown F.2.1 hP 0 rfl rfl 5 (by decide) (ht _ tw_90) (fun _ h9 => h9) rfl d_SG_size_26 ?_
  refine lv_aload_n hx hb d_SG_size_29 rfl (lv_at hl 0 rfl) ?_
  refine va_get (ci := 3) (v := .ref (ad 4)) (C := R_SG) (T := T_SG) (N := 6) hx hb ht i_SG hown F.2.1 hP 0 rfl rfl 1 (by decide) (ht _ tw_86) (fun _ h9 => h9) rfl d_SG_size_30 ?_
  refine pc_Vi (q0 := 11) (As := [.ref (ad 4)]) (rest := []) hx hb (hml.trans hl.1.symm) hown ht F hP hD hS (c_NC_total l g ad rg hd tx ty sm pa pr fl op du qa ab ac qb (adF be 0 (rg a)) wd X od (adN be 0 (rg a)) (adL [] (rg a)) h8 (adN_le (by omega)) (rep_add rfl _)) v_NC_total tw_128 ⟨rfl, rfl⟩ ⟨by decide, by decide⟩ rfl rfl rfl rfl (Nat.le_of_ble_eq_true rfl) ⟨Nat.zero_le _, Nat.zero_le _⟩ d_SG_size_33 (fun r9 u9 H locs hq hP hD hS => ?_)
  obtain ⟨qa33, ab33, ac33, qb33, be33, bc33, wd33⟩ := u9
  obtain ⟨hq, pq33⟩ := hq
  have pq33 : ∀ j, j < 6 → wd33 j = nI (wdL od (adL [] (rg a)) j) := pq33
  subst hq
  have hP : va_P g.1 cl (CW g ad rg hd (nF od) tx ty sm pa pr fl op du qa33 ab33 ac33 qb33 be33 bc33 wd33 ++ X) H := hP
  have hD : va_D (gA g) (CW g ad rg hd (nF od) tx ty sm pa pr fl op du qa33 ab33 ac33 qb33 be33 bc33 wd33 ++ X) := hD
  exact W.iret (v := nI (toL od (adL [] (rg a)) 6)) hx hb hr (fun t9 e1 hW => ⟨⟨_, (qa33, ab33, ac33, qb33, be33, bc33, wd33), rfl, rfl, PR.at F hP hD hS e1 hW.alike⟩, hS.F e1⟩) hS.2.2 d_SG_size_36
set_option maxRecDepth 100000 in
set_option maxHeartbeats 4000000 in
theorem c_SG_shared (l : Launch) (g : Gx) (ad : Nat → Nat) (rg : Nat → Int64) (hd : Nat → Int32) (tx : Nat → Int32) (ty : Int32) (sm : Nat → Int64) (pa : Nat → Int64) (pr : Nat → Int64) (fl : Nat → Int64) (op : Int32) (du : Int32) (qa : Nat) (ab : Nat → Int64) (ac : Int32) (qb : Nat) (be : Nat → Int64) (bc : Int32) (wd : Nat → Int32) (X : va_W) (od : Nat → Nat) (h8 : ∀ i, i < 6 → od i < 6) (h9 : ∀ i, i < 8 → hd i = 0 ∨ hd i = 1) : Met l y_SG_shared (w_SG_shared :: TW) rm_SG_shared (va_Pc [.ref (ad 0)] (PR g (CW g ad rg hd (nF od) tx ty sm pa pr fl op du qa ab ac qb be bc wd ++ X))) (va_Qi (fun r9 (u9 : (Nat) × (Nat → Int64) × (Int32) × (Nat) × (Nat → Int64) × (Int32) × (Nat → Int32)) => r9 = nI (toL od (rgL rg hd 8) 6)) (fun u9 t9 => PR g (CW g ad rg hd (nF od) tx ty sm pa pr fl op du u9.1 u9.2.1 u9.2.2.1 u9.2.2.2.1 u9.2.2.2.2.1 u9.2.2.2.2.2.1 u9.2.2.2.2.2.2 ++ X) t9) (gA g)) 0 0 (gA g) := by
  refine mt_of (by decide) (Nat.le_of_ble_eq_true rfl) ?_
  intro p e s m below meth c ls hx hb hr hml hlk hown ht hnm F hP hD hl
  have hl : lv_has ls 1 [(0, .ref (ad 0))] := hl
  have hS : va_S (gA g) s.heap s.heap [] := va_S.rf
  refine lv_aload_n hx hb d_SG_shared_0 rfl (lv_at hl 0 rfl) ?_
  refine pc_Vi (q0 := 0) (As := []) (rest := []) hx hb (hml.trans hl.1.symm) hown ht F hP hD hS (c_SG_nodesOfAll l g ad rg hd tx ty sm pa pr fl op du qa ab ac qb be bc wd X od h8 h9) v_SG_nodesOfAll tw_108 ⟨rfl, rfl⟩ ⟨by decide, by decide⟩ rfl rfl rfl rfl (Nat.le_of_ble_eq_true rfl) ⟨Nat.zero_le _, Nat.zero_le _⟩ d_SG_shared_1 (fun r9 u9 H locs hq hP hD hS => ?_)
  obtain ⟨qa1, ab1, ac1, qb1, be1, bc1, wd1⟩ := u9
  obtain ⟨hq, pq1⟩ := hq
  have pq1 : ∀ j, j < 6 → wd1 j = nI (wdL od (rgL rg hd 8) j) := pq1
  subst hq
  have hP : va_P g.1 cl (CW g ad rg hd (nF od) tx ty sm pa pr fl op du qa1 ab1 ac1 qb1 be1 bc1 wd1 ++ X) H := hP
  have hD : va_D (gA g) (CW g ad rg hd (nF od) tx ty sm pa pr fl op du qa1 ab1 ac1 qb1 be1 bc1 wd1 ++ X) := hD
  exact W.iret (v := nI (toL od (rgL rg hd 8) 6)) hx hb hr (fun t9 e1 hW => ⟨⟨_, (qa1, ab1, ac1, qb1, be1, bc1, wd1), rfl, rfl, PR.at F hP hD hS e1 hW.alike⟩, hS.F e1⟩) hS.2.2 d_SG_shared_4
set_option maxRecDepth 100000 in
set_option maxHeartbeats 4000000 in
theorem c_SG_width (l : Launch) (g : Gx) (ad : Nat → Nat) (rg : Nat → Int64) (hd : Nat → Int32) (tx : Nat → Int32) (ty : Int32) (sm : Nat → Int64) (pa : Nat → Int64) (pr : Nat → Int64) (fl : Nat → Int64) (op : Int32) (du : Int32) (qa : Nat) (ab : Nat → Int64) (ac : Int32) (qb : Nat) (be : Nat → Int64) (bc : Int32) (wd : Nat → Int32) (X : va_W) (od : Nat → Nat) (k : Nat) (h1 : k < 6) (h8 : ∀ i, i < 6 → od i < 6) (h9 : ∀ i, i < 8 → hd i = 0 ∨ hd i = 1) : Met l y_SG_width (w_SG_width :: TW) rm_SG_width (va_Pc [.ref (ad 0), .int (nI k)] (PR g (CW g ad rg hd (nF od) tx ty sm pa pr fl op du qa ab ac qb be bc wd ++ X))) (va_Qi (fun r9 (u9 : (Nat) × (Nat → Int64) × (Int32) × (Nat) × (Nat → Int64) × (Int32) × (Nat → Int32)) => r9 = nI (wdL od (rgL rg hd 8) k)) (fun u9 t9 => PR g (CW g ad rg hd (nF od) tx ty sm pa pr fl op du u9.1 u9.2.1 u9.2.2.1 u9.2.2.2.1 u9.2.2.2.2.1 u9.2.2.2.2.2.1 u9.2.2.2.2.2.2 ++ X) t9) (gA g)) 0 0 (gA g) := by
  refine mt_of (by decide) (Nat.le_of_ble_eq_true rfl) ?_
  intro p e s m below meth c ls hx hb hr hml hlk hown ht hnm F hP hD hl
  have hl : lv_has ls 2 [(0, .ref (ad 0)), (1, .int (nI k))] := hl
  have hS : va_S (gA g) s.heap s.heap [] := va_S.rf
  refine lv_iload_n hx hb d_SG_width_0 rfl (lv_at hl 1 rfl) ?_
  refine lv_bipush (v := nI 6) hx hb d_SG_width_1 (by decide) ?_
  refine pc_Sv (As := [.int (nI k), .int (nI 6)]) (rest := []) hx hb (hml.trans hl.1.symm) hown ht F hP hD hS (c_SG_checkBelow l g (CW g ad rg hd (nF od) tx ty sm pa pr fl op du qa ab ac qb be bc wd ++ X) k 6 (by omega) (by omega)) v_SG_checkBelow tw_161 ⟨rfl, rfl⟩ ⟨by decide, by decide⟩ rfl rfl (Nat.le_of_ble_eq_true rfl) ⟨Nat.zero_le _, Nat.zero_le _⟩ d_SG_width_3 (fun u9 H locs hq hP hD hS => ?_)
  refine lv_aload_n hx hb d_SG_width_6 rfl (lv_at hl 0 rfl) ?_
  refine pc_Vi (q0 := 0) (As := []) (rest := []) hx hb (hml.trans hl.1.symm) hown ht F hP hD hS (c_SG_nodesOfAll l g ad rg hd tx ty sm pa pr fl op du qa ab ac qb be bc wd X od h8 h9) v_SG_nodesOfAll tw_108 ⟨rfl, rfl⟩ ⟨by decide, by decide⟩ rfl rfl rfl rfl (Nat.le_of_ble_eq_true rfl) ⟨Nat.zero_le _, Nat.zero_le _⟩ d_SG_width_7 (fun r9 u9 H locs hq hP hD hS => ?_)
  obtain ⟨qa7, ab7, ac7, qb7, be7, bc7, wd7⟩ := u9
  obtain ⟨hq, pq7⟩ := hq
  have pq7 : ∀ j, j < 6 → wd7 j = nI (wdL od (rgL rg hd 8) j) := pq7
  subst hq
  have hP : va_P g.1 cl (CW g ad rg hd (nF od) tx ty sm pa pr fl op du qa7 ab7 ac7 qb7 be7 bc7 wd7 ++ X) H := hP
  have hD : va_D (gA g) (CW g ad rg hd (nF od) tx ty sm pa pr fl op du qa7 ab7 ac7 qb7 be7 bc7 wd7 ++ X) := hD
  refine lv_pop hx hb d_SG_width_10 rfl ?_
  refine lv_aload_n hx hb d_SG_width_11 rfl (lv_at hl 0 rfl) ?_
  refine va_get (ci := 3) (v := .ref (ad 11)) (C := R_SG) (T := T_SG) (N := 6) hx hb ht i_SG hown F.2.1 hP 0 rfl rfl 5 (by decide) (ht _ tw_90) (fun _ h9 => h9) rfl d_SG_width_12 ?_
  refine lv_iload_n hx hb d_SG_width_15 rfl (lv_at hl 1 rfl) ?_
  refine pc_Vi (q0 := 11) (As := [.int (nI k)]) (rest := []) hx hb (hml.trans hl.1.symm) hown ht F hP hD hS (c_NC_onLevel l g ad rg hd (nF od) tx ty sm pa pr fl op du qa7 ab7 ac7 qb7 be7 bc7 wd7 X k (by omega)) v_NC_onLevel tw_427 ⟨rfl, rfl⟩ ⟨by decide, by decide⟩ rfl rfl rfl rfl (Nat.le_of_ble_eq_true rfl) ⟨Nat.zero_le _, Nat.zero_le _⟩ d_SG_width_16 (fun r9 u9 H locs hq hP hD hS => ?_)
  subst hq
  exact W.iret (v := wd7 k) hx hb hr (fun t9 e1 hW => ⟨⟨_, (qa7, ab7, ac7, qb7, be7, bc7, wd7), rfl, (pq7 k (by omega)), PR.at F hP hD hS e1 hW.alike⟩, hS.F e1⟩) hS.2.2 d_SG_width_19
set_option maxRecDepth 100000 in
set_option maxHeartbeats 4000000 in
theorem c_SG_variable (l : Launch) (g : Gx) (ad : Nat → Nat) (rg : Nat → Int64) (hd : Nat → Int32) (tx : Nat → Int32) (ty : Int32) (sm : Nat → Int64) (pa : Nat → Int64) (pr : Nat → Int64) (fl : Nat → Int64) (op : Int32) (du : Int32) (qa : Nat) (ab : Nat → Int64) (ac : Int32) (qb : Nat) (be : Nat → Int64) (bc : Int32) (wd : Nat → Int32) (X : va_W) (od : Nat → Nat) (k : Nat) (h1 : k < 6) : Met l y_SG_variable (w_SG_variable :: TW) rm_SG_variable (va_Pc [.ref (ad 0), .int (nI k)] (PR g (CW g ad rg hd (nF od) tx ty sm pa pr fl op du qa ab ac qb be bc wd ++ X))) (va_Qi (fun r9 (u9 : Unit) => r9 = nI (od k)) (fun u9 t9 => PR g (CW g ad rg hd (nF od) tx ty sm pa pr fl op du qa ab ac qb be bc wd ++ X) t9) (gA g)) 0 0 (gA g) := by
  refine mt_of (by decide) (Nat.le_of_ble_eq_true rfl) ?_
  intro p e s m below meth c ls hx hb hr hml hlk hown ht hnm F hP hD hl
  have hl : lv_has ls 2 [(0, .ref (ad 0)), (1, .int (nI k))] := hl
  have hS : va_S (gA g) s.heap s.heap [] := va_S.rf
  refine lv_iload_n hx hb d_SG_variable_0 rfl (lv_at hl 1 rfl) ?_
  refine lv_bipush (v := nI 6) hx hb d_SG_variable_1 (by decide) ?_
  refine pc_Sv (As := [.int (nI k), .int (nI 6)]) (rest := []) hx hb (hml.trans hl.1.symm) hown ht F hP hD hS (c_SG_checkBelow l g (CW g ad rg hd (nF od) tx ty sm pa pr fl op du qa ab ac qb be bc wd ++ X) k 6 (by omega) (by omega)) v_SG_checkBelow tw_161 ⟨rfl, rfl⟩ ⟨by decide, by decide⟩ rfl rfl (Nat.le_of_ble_eq_true rfl) ⟨Nat.zero_le _, Nat.zero_le _⟩ d_SG_variable_3 (fun u9 H locs hq hP hD hS => ?_)
  refine lv_aload_n hx hb d_SG_variable_6 rfl (lv_at hl 0 rfl) ?_
  refine va_get (ci := 3) (v := .ref (ad 4)) (C := R_SG) (T := T_SG) (N := 6) hx hb ht i_SG hown F.2.1 hP 0 rfl rfl 1 (by decide) (ht _ tw_86) (fun _ h9 => h9) rfl d_SG_variable_7 ?_
  refine lv_iload_n hx hb d_SG_variable_10 rfl (lv_at hl 1 rfl) ?_
  refine ra_I hx hb F hP 4 rfl (by omega) (by decide) d_SG_variable_11 ?_
  refine W.eq (g2 := F0 m 12 ls [.int (nI (od k))]) rfl ?_
  exact W.iret (v := nI (od k)) hx hb hr (fun t9 e1 hW => ⟨⟨_, (), rfl, rfl, PR.at F hP hD hS e1 hW.alike⟩, hS.F e1⟩) hS.2.2 d_SG_variable_12
set_option maxRecDepth 100000 in
set_option maxHeartbeats 4000000 in
theorem c_SG_swap (l : Launch) (g : Gx) (ad : Nat → Nat) (rg : Nat → Int64) (hd : Nat → Int32) (tx : Nat → Int32) (ty : Int32) (sm : Nat → Int64) (pa : Nat → Int64) (pr : Nat → Int64) (fl : Nat → Int64) (op : Int32) (du : Int32) (qa : Nat) (ab : Nat → Int64) (ac : Int32) (qb : Nat) (be : Nat → Int64) (bc : Int32) (wd : Nat → Int32) (X : va_W) (od : Nat → Nat) (k : Nat) (h1 : k < 5) (h8 : ∀ i, i < 6 → od i < 6) (h9 : ∀ i, i < 8 → hd i = 0 ∨ hd i = 1) : Met l y_SG_swap (w_SG_swap :: TW) rm_SG_swap (va_Pc [.ref (ad 0), .int (nI k)] (PR g (CW g ad rg hd (nF od) tx ty sm pa pr fl op du qa ab ac qb be bc wd ++ X))) (va_Qi (fun r9 (u9 : (Nat) × (Nat → Int64) × (Int32) × (Nat) × (Nat → Int64) × (Int32) × (Nat → Int32)) => r9 = nI (toL (xch od k) (rgL rg hd 8) 6)) (fun u9 t9 => PR g (CW g ad rg hd (nF (xch od k)) tx ty sm pa pr fl op du u9.1 u9.2.1 u9.2.2.1 u9.2.2.2.1 u9.2.2.2.2.1 u9.2.2.2.2.2.1 u9.2.2.2.2.2.2 ++ X) t9) (gA g)) 0 0 (gA g) := by
  refine mt_of (by decide) (Nat.le_of_ble_eq_true rfl) ?_
  intro p e s m below meth c ls hx hb hr hml hlk hown ht hnm F hP hD hl
  have hl : lv_has ls 2 [(0, .ref (ad 0)), (1, .int (nI k))] := hl
  have hS : va_S (gA g) s.heap s.heap [] := va_S.rf
  refine lv_iload_n hx hb d_SG_swap_0 rfl (lv_at hl 1 rfl) ?_
  refine lv_iconst (v := nI 5) hx hb d_SG_swap_1 (by decide) ?_
  refine pc_Sv (As := [.int (nI k), .int (nI 5)]) (rest := []) hx hb (hml.trans hl.1.symm) hown ht F hP hD hS (c_SG_checkBelow l g (CW g ad rg hd (nF od) tx ty sm pa pr fl op du qa ab ac qb be bc wd ++ X) k 5 (by omega) (by omega)) v_SG_checkBelow tw_161 ⟨rfl, rfl⟩ ⟨by decide, by decide⟩ rfl rfl (Nat.le_of_ble_eq_true rfl) ⟨Nat.zero_le _, Nat.zero_le _⟩ d_SG_swap_2 (fun u9 H locs hq hP hD hS => ?_)
  refine lv_aload_n hx hb d_SG_swap_5 rfl (lv_at hl 0 rfl) ?_
  refine lv_iload_n hx hb d_SG_swap_6 rfl (lv_at hl 1 rfl) ?_
  refine pc_Vv (q0 := 0) (As := [.int (nI k)]) (rest := []) hx hb (hml.trans hl.1.symm) hown ht F hP hD hS (c_SG_exchange l g ad rg hd tx ty sm pa pr fl op du qa ab ac qb be bc wd X od k (by omega)) v_SG_exchange tw_445 ⟨rfl, rfl⟩ ⟨by decide, by decide⟩ rfl rfl rfl rfl (Nat.le_of_ble_eq_true rfl) ⟨Nat.zero_le _, Nat.zero_le _⟩ d_SG_swap_7 (fun u9 H locs hq hP hD hS => ?_)
  have hP : va_P g.1 cl (CW g ad rg hd (nF (xch od k)) tx ty sm pa pr fl op du qa ab ac qb be bc wd ++ X) H := hP
  have hD : va_D (gA g) (CW g ad rg hd (nF (xch od k)) tx ty sm pa pr fl op du qa ab ac qb be bc wd ++ X) := hD
  refine lv_aload_n hx hb d_SG_swap_10 rfl (lv_at hl 0 rfl) ?_
  refine pc_Vi (q0 := 0) (As := []) (rest := []) hx hb (hml.trans hl.1.symm) hown ht F hP hD hS (c_SG_nodesOfAll l g ad rg hd tx ty sm pa pr fl op du qa ab ac qb be bc wd X (xch od k) (xch_lt h8 (by omega)) h9) v_SG_nodesOfAll tw_108 ⟨rfl, rfl⟩ ⟨by decide, by decide⟩ rfl rfl rfl rfl (Nat.le_of_ble_eq_true rfl) ⟨Nat.zero_le _, Nat.zero_le _⟩ d_SG_swap_11 (fun r9 u9 H locs hq hP hD hS => ?_)
  obtain ⟨qa11, ab11, ac11, qb11, be11, bc11, wd11⟩ := u9
  obtain ⟨hq, pq11⟩ := hq
  have pq11 : ∀ j, j < 6 → wd11 j = nI (wdL (xch od k) (rgL rg hd 8) j) := pq11
  subst hq
  have hP : va_P g.1 cl (CW g ad rg hd (nF (xch od k)) tx ty sm pa pr fl op du qa11 ab11 ac11 qb11 be11 bc11 wd11 ++ X) H := hP
  have hD : va_D (gA g) (CW g ad rg hd (nF (xch od k)) tx ty sm pa pr fl op du qa11 ab11 ac11 qb11 be11 bc11 wd11 ++ X) := hD
  exact W.iret (v := nI (toL (xch od k) (rgL rg hd 8) 6)) hx hb hr (fun t9 e1 hW => ⟨⟨_, (qa11, ab11, ac11, qb11, be11, bc11, wd11), rfl, rfl, PR.at F hP hD hS e1 hW.alike⟩, hS.F e1⟩) hS.2.2 d_SG_swap_14
