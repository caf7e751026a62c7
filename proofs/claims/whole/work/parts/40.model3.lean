theorem cnB_le (t : Int64) : ∀ n, cnB t n ≤ n
  | 0 => Nat.le_refl _
  | n + 1 => by
    have := cnB_le t n
    show (if bt t n = true then cnB t n + 1 else cnB t n) ≤ n + 1
    split <;> omega
theorem cnt8s : ∀ i, i < 8 → ((nI (8 * i)).toInt64 &&& 63).toBitVec.smod 64 = BitVec.ofNat 64 (8 * i) := by decide +kernel
theorem ch_eqS {i : Nat} (hi : i < 8) (x : Int64) : (x >>> ((nI (8 * i)).toInt64 &&& 63)).toInt32 &&& nI 255 = nI (chN x i) := by
  have hc := cnt8s i hi
  generalize ((nI (8 * i)).toInt64 &&& 63) = k at hc
  have e1 : (x >>> k).toBitVec = x.toBitVec.sshiftRight (8 * i) := by
    show x.toBitVec.sshiftRight' (k.toBitVec.smod 64) = _
    rw [hc]
    show x.toBitVec.sshiftRight (BitVec.ofNat 64 (8 * i)).toNat = _
    rw [BitVec.toNat_ofNat, Nat.mod_eq_of_lt (by omega)]
  generalize x >>> k = z at e1
  have hz : z = lN (un z) := by
    apply Int64.toBitVec_inj.mp
    apply BitVec.eq_of_toNat_eq
    show un z = (BitVec.ofNat 64 (un z)).toNat
    rw [BitVec.toNat_ofNat, Nat.mod_eq_of_lt (un_lt z)]
  rw [show z.toInt32 = nI (un z) from (congrArg Int64.toInt32 hz).trans (lN_i _)]
  apply Int32.toBitVec_inj.mp
  apply BitVec.eq_of_toNat_eq
  rw [Int32.toBitVec_and, BitVec.toNat_and]
  have h7 : (nI 255).toBitVec.toNat = 2 ^ 8 - 1 := by decide
  have ha : (nI (un z)).toBitVec.toNat = un z % 2 ^ 32 := by
    show (BitVec.ofNat 32 (un z)).toNat = _
    rw [BitVec.toNat_ofNat]
  have hb : (nI (chN x i)).toBitVec.toNat = chN x i := by
    show (BitVec.ofNat 32 (chN x i)).toNat = _
    rw [BitVec.toNat_ofNat, Nat.mod_eq_of_lt (Nat.lt_trans (chN_lt x i) (by decide))]
  rw [h7, Nat.and_two_pow_sub_one_eq_mod, ha, hb]
  have e2 : un z % 2 ^ 8 = chN x i := by
    apply Nat.eq_of_testBit_eq
    intro j
    rw [Nat.testBit_mod_two_pow]
    unfold chN
    rw [show (256 : Nat) = 2 ^ 8 from rfl, Nat.testBit_mod_two_pow]
    by_cases hj : j < 8
    · simp only [hj, decide_true, Bool.true_and]
      show z.toBitVec.toNat.testBit j = (x.toBitVec >>> (8 * i)).toNat.testBit j
      rw [e1]
      show (x.toBitVec.sshiftRight (8 * i)).getLsbD j = (x.toBitVec >>> (8 * i)).getLsbD j
      rw [BitVec.getLsbD_sshiftRight, BitVec.getLsbD_ushiftRight]
      have h1 : ¬ 64 ≤ j := by omega
      have h2 : 8 * i + j < 64 := by omega
      simp [h1, h2]
    · simp [hj]
  omega
set_option maxRecDepth 100000 in
set_option maxHeartbeats 4000000 in
theorem c_MD_equal (l : Launch) (g : Gx) (ma : Nat → Nat) (cd : Int32) (tb : Nat → Int64) (hm : Nat → Int32) (oo : Nat → Int32) (kp : Nat → Int32) (td : Int32) (tt : Nat → Int32) (ct : Int32) (fd : Nat → Int64) (os : Int32) (oq : Nat → Int32) (vs : Int32) (sk : Nat → Int64) (X : va_W) (a b : Nat) (g_a : a < 8) (g_b : b < 8) (e_a : hm a = 1) (e_b : hm b = 1) : Met l y_MD_equal (w_MD_equal :: TW) rm_MD_equal (va_Pc [.ref (ma 0), .int (nI a), .int (nI b)] (PR g (MW g ma cd tb hm oo kp td tt ct fd os oq vs sk ++ X))) (va_Qi (fun r9 (u9 : Unit) => r9 = bI (tb a = tb b)) (fun u9 t9 => PR g (MW g ma (nI 0) tb hm oo kp td tt ct fd os oq vs sk ++ X) t9) (gA g)) 0 0 (gA g) := by
  refine mt_of (by decide) (Nat.le_of_ble_eq_true rfl) ?_
  intro p e s m below meth c ls hx hb hr hml hlk hown ht hnm F hP hD hl
  have hl : lv_has ls 3 [(0, .ref (ma 0)), (1, .int (nI a)), (2, .int (nI b))] := hl
  have hS : va_S (gA g) s.heap s.heap [] := va_S.rf
  refine lv_aload_n hx hb d_MD_equal_0 rfl (lv_at hl 0 rfl) ?_
  refine lv_iload_n hx hb d_MD_equal_1 rfl (lv_at hl 1 rfl) ?_
  refine pc_Si (As := [.int (nI a)]) (rest := [.ref (ma 0)]) hx hb (hml.trans hl.1.symm) hown ht F hP hD hS (c_MD_isRegister l g (MW g ma cd tb hm oo kp td tt ct fd os oq vs sk ++ X) a (by omega)) v_MD_isRegister tw_518 ⟨rfl, rfl⟩ ⟨by decide, by decide⟩ rfl rfl (Nat.le_of_ble_eq_true rfl) ⟨Nat.zero_le _, Nat.zero_le _⟩ d_MD_equal_2 (fun r9 u9 H locs hq hP hD hS => ?_)
  subst hq
  refine rz_eq (tgt := 15) hx hb (by omega) d_MD_equal_5 (by decide) (fun c5 => ?_) (fun c5 => ?_)
  · exact (by omega : False).elim
  · refine lv_iload_n hx hb d_MD_equal_8 rfl (lv_at hl 2 rfl) ?_
    refine pc_Si (As := [.int (nI b)]) (rest := [.ref (ma 0)]) hx hb (hml.trans hl.1.symm) hown ht F hP hD hS (c_MD_isRegister l g (MW g ma cd tb hm oo kp td tt ct fd os oq vs sk ++ X) b (by omega)) v_MD_isRegister tw_518 ⟨rfl, rfl⟩ ⟨by decide, by decide⟩ rfl rfl (Nat.le_of_ble_eq_true rfl) ⟨Nat.zero_le _, Nat.zero_le _⟩ d_MD_equal_9 (fun r9 u9 H locs hq hP hD hS => ?_)
    subst hq
    refine rz_ne (tgt := 19) hx hb (by omega) d_MD_equal_12 (by decide) (fun c12 => ?_) (fun c12 => ?_)
    · refine lv_aload_n hx hb d_MD_equal_19 rfl (lv_at hl 0 rfl) ?_
      refine va_get (ci := 4) (v := .ref (ma 2)) (C := R_MD) (T := T_MD) (N := 13) hx hb ht i_MD hown F.2.1 hP 0 rfl rfl 2 (by decide) (ht _ tw_472) (fun _ h9 => h9) rfl d_MD_equal_20 ?_
      refine lv_iload_n hx hb d_MD_equal_23 rfl (lv_at hl 1 rfl) ?_
      refine ra_Z hx hb F hP 2 rfl (by omega) (by decide) d_MD_equal_24 ?_
      refine lv_if_eq (tgt := 41) hx hb d_MD_equal_25 (by decide) (fun c25 => ?_) (fun c25 => ?_)
      · exact absurd (e_a.symm.trans c25) (by decide)
      · refine lv_aload_n hx hb d_MD_equal_28 rfl (lv_at hl 0 rfl) ?_
        refine va_get (ci := 4) (v := .ref (ma 2)) (C := R_MD) (T := T_MD) (N := 13) hx hb ht i_MD hown F.2.1 hP 0 rfl rfl 2 (by decide) (ht _ tw_472) (fun _ h9 => h9) rfl d_MD_equal_29 ?_
        refine lv_iload_n hx hb d_MD_equal_32 rfl (lv_at hl 2 rfl) ?_
        refine ra_Z hx hb F hP 2 rfl (by omega) (by decide) d_MD_equal_33 ?_
        refine lv_if_eq (tgt := 41) hx hb d_MD_equal_34 (by decide) (fun c34 => ?_) (fun c34 => ?_)
        · exact absurd (e_b.symm.trans c34) (by decide)
        · refine lv_iconst (v := nI 0) hx hb d_MD_equal_37 (by decide) ?_
          refine lv_goto (tgt := 42) hx hb d_MD_equal_38 (by decide) ?_
          refine va_put (ci := 4) (v := .int (nI 0)) (ty := .int) (C := R_MD) (T := T_MD) (N := 13) hx hb ht i_MD t_MD t_MD_ok n_MD hown F.2.1 hP hD hS 0 rfl rfl 0 (by decide) (ht _ tw_470) (fun _ h9 => h9) rfl (by decide +kernel) rfl rfl (Nat.le_of_ble_eq_true rfl) d_MD_equal_42 (fun H locs hP hD hS => ?_)
          have hP : va_P g.1 cl (MW g ma (nI 0) tb hm oo kp td tt ct fd os oq vs sk ++ X) H := hP
          have hD : va_D (gA g) (MW g ma (nI 0) tb hm oo kp td tt ct fd os oq vs sk ++ X) := hD
          refine lv_aload_n hx hb d_MD_equal_45 rfl (lv_at hl 0 rfl) ?_
          refine va_get (ci := 4) (v := .int (nI 0)) (C := R_MD) (T := T_MD) (N := 13) hx hb ht i_MD hown F.2.1 hP 0 rfl rfl 0 (by decide) (ht _ tw_470) (fun _ h9 => h9) rfl d_MD_equal_46 ?_
          refine rz_ne (tgt := 72) hx hb (by omega) d_MD_equal_49 (by decide) (fun c49 => ?_) (fun c49 => ?_)
          · exact (by omega : False).elim
          · refine lv_aload_n hx hb d_MD_equal_52 rfl (lv_at hl 0 rfl) ?_
            refine va_get (ci := 4) (v := .ref (ma 1)) (C := R_MD) (T := T_MD) (N := 13) hx hb ht i_MD hown F.2.1 hP 0 rfl rfl 1 (by decide) (ht _ tw_471) (fun _ h9 => h9) rfl d_MD_equal_53 ?_
            refine lv_iload_n hx hb d_MD_equal_56 rfl (lv_at hl 1 rfl) ?_
            refine ra_J hx hb F hP 1 rfl (by omega) (by decide) d_MD_equal_57 ?_
            refine lv_aload_n hx hb d_MD_equal_58 rfl (lv_at hl 0 rfl) ?_
            refine va_get (ci := 4) (v := .ref (ma 1)) (C := R_MD) (T := T_MD) (N := 13) hx hb ht i_MD hown F.2.1 hP 0 rfl rfl 1 (by decide) (ht _ tw_471) (fun _ h9 => h9) rfl d_MD_equal_59 ?_
            refine lv_iload_n hx hb d_MD_equal_62 rfl (lv_at hl 2 rfl) ?_
            refine ra_J hx hb F hP 1 rfl (by omega) (by decide) d_MD_equal_63 ?_
            refine W.lcmp hx hb d_MD_equal_64 ?_
            refine lv_if_ne (tgt := 72) hx hb d_MD_equal_65 (by decide) (fun c65 => ?_) (fun c65 => ?_)
            · refine lv_iconst (v := nI 0) hx hb d_MD_equal_72 (by decide) ?_
              exact W.zret (v := nI 0) hx hb hr (by decide) (fun t9 e1 hW => ⟨⟨_, (), rfl, (bI_f (fun h => c65 ((lg_cmp_eq _ _).mpr h))), PR.at F hP hD hS e1 hW.alike⟩, hS.F e1⟩) hS.2.2 d_MD_equal_73
            · refine lv_iconst (v := nI 1) hx hb d_MD_equal_68 (by decide) ?_
              refine lv_goto (tgt := 73) hx hb d_MD_equal_69 (by decide) ?_
              exact W.zret (v := nI 1) hx hb hr (by decide) (fun t9 e1 hW => ⟨⟨_, (), rfl, (bI_t ((lg_cmp_eq _ _).mp c65)), PR.at F hP hD hS e1 hW.alike⟩, hS.F e1⟩) hS.2.2 d_MD_equal_73
    · exact (by omega : False).elim
set_option maxRecDepth 100000 in
set_option maxHeartbeats 4000000 in
theorem c2_MD_equal (l : Launch) (g : Gx) (ma : Nat → Nat) (cd : Int32) (tb : Nat → Int64) (hm : Nat → Int32) (oo : Nat → Int32) (kp : Nat → Int32) (td : Int32) (tt : Nat → Int32) (ct : Int32) (fd : Nat → Int64) (os : Int32) (oq : Nat → Int32) (vs : Int32) (sk : Nat → Int64) (X : va_W) (a b : Nat) (g_a : a < 8) (g_b : b < 8) (h9 : ∀ i, i < 8 → hm i = 0 ∨ hm i = 1) (hbad : ¬ (hm a = 1 ∧ hm b = 1)) : Met l y_MD_equal (w_MD_equal :: TW) rm_MD_equal (va_Pc [.ref (ma 0), .int (nI a), .int (nI b)] (PR g (MW g ma cd tb hm oo kp td tt ct fd os oq vs sk ++ X))) (va_Qi (fun r9 (u9 : Unit) => r9 = nI 0) (fun u9 t9 => PR g (MW g ma (nI 2) tb hm oo kp td tt ct fd os oq vs sk ++ X) t9) (gA g)) 0 0 (gA g) := by
  refine mt_of (by decide) (Nat.le_of_ble_eq_true rfl) ?_
  intro p e s m below meth c ls hx hb hr hml hlk hown ht hnm F hP hD hl
  have hl : lv_has ls 3 [(0, .ref (ma 0)), (1, .int (nI a)), (2, .int (nI b))] := hl
  have hS : va_S (gA g) s.heap s.heap [] := va_S.rf
  refine lv_aload_n hx hb d_MD_equal_0 rfl (lv_at hl 0 rfl) ?_
  refine lv_iload_n hx hb d_MD_equal_1 rfl (lv_at hl 1 rfl) ?_
  refine pc_Si (As := [.int (nI a)]) (rest := [.ref (ma 0)]) hx hb (hml.trans hl.1.symm) hown ht F hP hD hS (c_MD_isRegister l g (MW g ma cd tb hm oo kp td tt ct fd os oq vs sk ++ X) a (by omega)) v_MD_isRegister tw_518 ⟨rfl, rfl⟩ ⟨by decide, by decide⟩ rfl rfl (Nat.le_of_ble_eq_true rfl) ⟨Nat.zero_le _, Nat.zero_le _⟩ d_MD_equal_2 (fun r9 u9 H locs hq hP hD hS => ?_)
  subst hq
  refine rz_eq (tgt := 15) hx hb (by omega) d_MD_equal_5 (by decide) (fun c5 => ?_) (fun c5 => ?_)
  · exact (by omega : False).elim
  · refine lv_iload_n hx hb d_MD_equal_8 rfl (lv_at hl 2 rfl) ?_
    refine pc_Si (As := [.int (nI b)]) (rest := [.ref (ma 0)]) hx hb (hml.trans hl.1.symm) hown ht F hP hD hS (c_MD_isRegister l g (MW g ma cd tb hm oo kp td tt ct fd os oq vs sk ++ X) b (by omega)) v_MD_isRegister tw_518 ⟨rfl, rfl⟩ ⟨by decide, by decide⟩ rfl rfl (Nat.le_of_ble_eq_true rfl) ⟨Nat.zero_le _, Nat.zero_le _⟩ d_MD_equal_9 (fun r9 u9 H locs hq hP hD hS => ?_)
    subst hq
    refine rz_ne (tgt := 19) hx hb (by omega) d_MD_equal_12 (by decide) (fun c12 => ?_) (fun c12 => ?_)
    · refine lv_aload_n hx hb d_MD_equal_19 rfl (lv_at hl 0 rfl) ?_
      refine va_get (ci := 4) (v := .ref (ma 2)) (C := R_MD) (T := T_MD) (N := 13) hx hb ht i_MD hown F.2.1 hP 0 rfl rfl 2 (by decide) (ht _ tw_472) (fun _ h9 => h9) rfl d_MD_equal_20 ?_
      refine lv_iload_n hx hb d_MD_equal_23 rfl (lv_at hl 1 rfl) ?_
      refine ra_Z hx hb F hP 2 rfl (by omega) (by decide) d_MD_equal_24 ?_
      refine lv_if_eq (tgt := 41) hx hb d_MD_equal_25 (by decide) (fun c25 => ?_) (fun c25 => ?_)
      · refine lv_iconst (v := nI 2) hx hb d_MD_equal_41 (by decide) ?_
        refine va_put (ci := 4) (v := .int (nI 2)) (ty := .int) (C := R_MD) (T := T_MD) (N := 13) hx hb ht i_MD t_MD t_MD_ok n_MD hown F.2.1 hP hD hS 0 rfl rfl 0 (by decide) (ht _ tw_470) (fun _ h9 => h9) rfl (by decide +kernel) rfl rfl (Nat.le_of_ble_eq_true rfl) d_MD_equal_42 (fun H locs hP hD hS => ?_)
        have hP : va_P g.1 cl (MW g ma (nI 2) tb hm oo kp td tt ct fd os oq vs sk ++ X) H := hP
        have hD : va_D (gA g) (MW g ma (nI 2) tb hm oo kp td tt ct fd os oq vs sk ++ X) := hD
        refine lv_aload_n hx hb d_MD_equal_45 rfl (lv_at hl 0 rfl) ?_
        refine va_get (ci := 4) (v := .int (nI 2)) (C := R_MD) (T := T_MD) (N := 13) hx hb ht i_MD hown F.2.1 hP 0 rfl rfl 0 (by decide) (ht _ tw_470) (fun _ h9 => h9) rfl d_MD_equal_46 ?_
        refine rz_ne (tgt := 72) hx hb (by omega) d_MD_equal_49 (by decide) (fun c49 => ?_) (fun c49 => ?_)
        · refine lv_iconst (v := nI 0) hx hb d_MD_equal_72 (by decide) ?_
          exact W.zret (v := nI 0) hx hb hr (by decide) (fun t9 e1 hW => ⟨⟨_, (), rfl, rfl, PR.at F hP hD hS e1 hW.alike⟩, hS.F e1⟩) hS.2.2 d_MD_equal_73
        · exact (by omega : False).elim
      · refine lv_aload_n hx hb d_MD_equal_28 rfl (lv_at hl 0 rfl) ?_
        refine va_get (ci := 4) (v := .ref (ma 2)) (C := R_MD) (T := T_MD) (N := 13) hx hb ht i_MD hown F.2.1 hP 0 rfl rfl 2 (by decide) (ht _ tw_472) (fun _ h9 => h9) rfl d_MD_equal_29 ?_
        refine lv_iload_n hx hb d_MD_equal_32 rfl (lv_at hl 2 rfl) ?_
        refine ra_Z hx hb F hP 2 rfl (by omega) (by decide) d_MD_equal_33 ?_
        refine lv_if_eq (tgt := 41) hx hb d_MD_equal_34 (by decide) (fun c34 => ?_) (fun c34 => ?_)
        · refine lv_iconst (v := nI 2) hx hb d_MD_equal_41 (by decide) ?_
          refine va_put (ci := 4) (v := .int (nI 2)) (ty := .int) (C := R_MD) (T := T_MD) (N := 13) hx hb ht i_MD t_MD t_MD_ok n_MD hown F.2.1 hP hD hS 0 rfl rfl 0 (by decide) (ht _ tw_470) (fun _ h9 => h9) rfl (by decide +kernel) rfl rfl (Nat.le_of_ble_eq_true rfl) d_MD_equal_42 (fun H locs hP hD hS => ?_)
          have hP : va_P g.1 cl (MW g ma (nI 2) tb hm oo kp td tt ct fd os oq vs sk ++ X) H := hP
          have hD : va_D (gA g) (MW g ma (nI 2) tb hm oo kp td tt ct fd os oq vs sk ++ X) := hD
          refine lv_aload_n hx hb d_MD_equal_45 rfl (lv_at hl 0 rfl) ?_
          refine va_get (ci := 4) (v := .int (nI 2)) (C := R_MD) (T := T_MD) (N := 13) hx hb ht i_MD hown F.2.1 hP 0 rfl rfl 0 (by decide) (ht _ tw_470) (fun _ h9 => h9) rfl d_MD_equal_46 ?_
          refine rz_ne (tgt := 72) hx hb (by omega) d_MD_equal_49 (by decide) (fun c49 => ?_) (fun c49 => ?_)
          · refine lv_iconst (v := nI 0) hx hb d_MD_equal_72 (by decide) ?_
            exact W.zret (v := nI 0) hx hb hr (by decide) (fun t9 e1 hW => ⟨⟨_, (), rfl, rfl, PR.at F hP hD hS e1 hW.alike⟩, hS.F e1⟩) hS.2.2 d_MD_equal_73
          · exact (by omega : False).elim
        · exact (hbad ⟨((h9 a (by omega)).resolve_left c25), ((h9 b (by omega)).resolve_left c34)⟩).elim
    · exact (by omega : False).elim
set_option maxRecDepth 100000 in
set_option maxHeartbeats 4000000 in
theorem c_MD_value (l : Launch) (g : Gx) (ma : Nat → Nat) (cd : Int32) (tb : Nat → Int64) (hm : Nat → Int32) (oo : Nat → Int32) (kp : Nat → Int32) (td : Int32) (tt : Nat → Int32) (ct : Int32) (fd : Nat → Int64) (os : Int32) (oq : Nat → Int32) (vs : Int32) (sk : Nat → Int64) (X : va_W) (a k : Nat) (g_a : a < 8) (g_k : k < 64) (e_a : hm a = 1) : Met l y_MD_value (w_MD_value :: TW) rm_MD_value (va_Pc [.ref (ma 0), .int (nI a), .int (nI k)] (PR g (MW g ma cd tb hm oo kp td tt ct fd os oq vs sk ++ X))) (va_Qi (fun r9 (u9 : Unit) => r9 = bI (bt (tb a) k = true)) (fun u9 t9 => PR g (MW g ma (nI 0) tb hm oo kp td tt ct fd os oq vs sk ++ X) t9) (gA g)) 0 0 (gA g) := by
  refine mt_of (by decide) (Nat.le_of_ble_eq_true rfl) ?_
  intro p e s m below meth c ls hx hb hr hml hlk hown ht hnm F hP hD hl
  have hl : lv_has ls 3 [(0, .ref (ma 0)), (1, .int (nI a)), (2, .int (nI k))] := hl
  have hS : va_S (gA g) s.heap s.heap [] := va_S.rf
  refine lv_aload_n hx hb d_MD_value_0 rfl (lv_at hl 0 rfl) ?_
  refine lv_iload_n hx hb d_MD_value_1 rfl (lv_at hl 1 rfl) ?_
  refine pc_Si (As := [.int (nI a)]) (rest := [.ref (ma 0)]) hx hb (hml.trans hl.1.symm) hown ht F hP hD hS (c_MD_isRegister l g (MW g ma cd tb hm oo kp td tt ct fd os oq vs sk ++ X) a (by omega)) v_MD_isRegister tw_518 ⟨rfl, rfl⟩ ⟨by decide, by decide⟩ rfl rfl (Nat.le_of_ble_eq_true rfl) ⟨Nat.zero_le _, Nat.zero_le _⟩ d_MD_value_2 (fun r9 u9 H locs hq hP hD hS => ?_)
  subst hq
  refine rz_eq (tgt := 18) hx hb (by omega) d_MD_value_5 (by decide) (fun c5 => ?_) (fun c5 => ?_)
  · exact (by omega : False).elim
  · refine lv_iload_n hx hb d_MD_value_8 rfl (lv_at hl 2 rfl) ?_
    refine lv_iconst (v := nI 0) hx hb d_MD_value_9 (by decide) ?_
    refine lv_bipush (v := nI 63) hx hb d_MD_value_10 (by decide) ?_
    refine pc_Si (As := [.int (nI k), .int (nI 0), .int (nI 63)]) (rest := [.ref (ma 0)]) hx hb (hml.trans hl.1.symm) hown ht F hP hD hS (c_MD_within l g (MW g ma cd tb hm oo kp td tt ct fd os oq vs sk ++ X) k 0 63 (by omega) (by omega) (by omega)) v_MD_within tw_521 ⟨rfl, rfl⟩ ⟨by decide, by decide⟩ rfl rfl (Nat.le_of_ble_eq_true rfl) ⟨Nat.zero_le _, Nat.zero_le _⟩ d_MD_value_12 (fun r9 u9 H locs hq hP hD hS => ?_)
    subst hq
    refine rz_ne (tgt := 22) hx hb (by omega) d_MD_value_15 (by decide) (fun c15 => ?_) (fun c15 => ?_)
    · refine lv_aload_n hx hb d_MD_value_22 rfl (lv_at hl 0 rfl) ?_
      refine va_get (ci := 4) (v := .ref (ma 2)) (C := R_MD) (T := T_MD) (N := 13) hx hb ht i_MD hown F.2.1 hP 0 rfl rfl 2 (by decide) (ht _ tw_472) (fun _ h9 => h9) rfl d_MD_value_23 ?_
      refine lv_iload_n hx hb d_MD_value_26 rfl (lv_at hl 1 rfl) ?_
      refine ra_Z hx hb F hP 2 rfl (by omega) (by decide) d_MD_value_27 ?_
      refine lv_if_eq (tgt := 35) hx hb d_MD_value_28 (by decide) (fun c28 => ?_) (fun c28 => ?_)
      · exact absurd (e_a.symm.trans c28) (by decide)
      · refine lv_iconst (v := nI 0) hx hb d_MD_value_31 (by decide) ?_
        refine lv_goto (tgt := 36) hx hb d_MD_value_32 (by decide) ?_
        refine va_put (ci := 4) (v := .int (nI 0)) (ty := .int) (C := R_MD) (T := T_MD) (N := 13) hx hb ht i_MD t_MD t_MD_ok n_MD hown F.2.1 hP hD hS 0 rfl rfl 0 (by decide) (ht _ tw_470) (fun _ h9 => h9) rfl (by decide +kernel) rfl rfl (Nat.le_of_ble_eq_true rfl) d_MD_value_36 (fun H locs hP hD hS => ?_)
        have hP : va_P g.1 cl (MW g ma (nI 0) tb hm oo kp td tt ct fd os oq vs sk ++ X) H := hP
        have hD : va_D (gA g) (MW g ma (nI 0) tb hm oo kp td tt ct fd os oq vs sk ++ X) := hD
        refine lv_aload_n hx hb d_MD_value_39 rfl (lv_at hl 0 rfl) ?_
        refine va_get (ci := 4) (v := .int (nI 0)) (C := R_MD) (T := T_MD) (N := 13) hx hb ht i_MD hown F.2.1 hP 0 rfl rfl 0 (by decide) (ht _ tw_470) (fun _ h9 => h9) rfl d_MD_value_40 ?_
        refine rz_ne (tgt := 63) hx hb (by omega) d_MD_value_43 (by decide) (fun c43 => ?_) (fun c43 => ?_)
        · exact (by omega : False).elim
        · refine lv_aload_n hx hb d_MD_value_46 rfl (lv_at hl 0 rfl) ?_
          refine va_get (ci := 4) (v := .ref (ma 1)) (C := R_MD) (T := T_MD) (N := 13) hx hb ht i_MD hown F.2.1 hP 0 rfl rfl 1 (by decide) (ht _ tw_471) (fun _ h9 => h9) rfl d_MD_value_47 ?_
          refine lv_iload_n hx hb d_MD_value_50 rfl (lv_at hl 1 rfl) ?_
          refine ra_J hx hb F hP 1 rfl (by omega) (by decide) d_MD_value_51 ?_
          refine lv_iload_n hx hb d_MD_value_52 rfl (lv_at hl 2 rfl) ?_
          refine pc_Si (As := [.long (tb a), .int (nI k)]) (rest := []) hx hb (hml.trans hl.1.symm) hown ht F hP hD hS (c_MD_at l g (MW g ma (nI 0) tb hm oo kp td tt ct fd os oq vs sk ++ X) (tb a) k (by omega)) v_MD_at tw_536 ⟨rfl, rfl⟩ ⟨by decide, by decide⟩ rfl rfl (Nat.le_of_ble_eq_true rfl) ⟨Nat.zero_le _, Nat.zero_le _⟩ d_MD_value_53 (fun r9 u9 H locs hq hP hD hS => ?_)
          subst hq
          refine lv_if_eq (tgt := 63) hx hb d_MD_value_56 (by decide) (fun c56 => ?_) (fun c56 => ?_)
          · refine lv_iconst (v := nI 0) hx hb d_MD_value_63 (by decide) ?_
            exact W.zret (v := nI 0) hx hb hr (by decide) (fun t9 e1 hW => ⟨⟨_, (), rfl, (bI_f (bI_0.mp c56)), PR.at F hP hD hS e1 hW.alike⟩, hS.F e1⟩) hS.2.2 d_MD_value_64
          · refine lv_iconst (v := nI 1) hx hb d_MD_value_59 (by decide) ?_
            refine lv_goto (tgt := 64) hx hb d_MD_value_60 (by decide) ?_
            exact W.zret (v := nI 1) hx hb hr (by decide) (fun t9 e1 hW => ⟨⟨_, (), rfl, (bI_t (bI_n0 c56)), PR.at F hP hD hS e1 hW.alike⟩, hS.F e1⟩) hS.2.2 d_MD_value_64
    · exact (by omega : False).elim
set_option maxRecDepth 100000 in
set_option maxHeartbeats 4000000 in
theorem c2_MD_value (l : Launch) (g : Gx) (ma : Nat → Nat) (cd : Int32) (tb : Nat → Int64) (hm : Nat → Int32) (oo : Nat → Int32) (kp : Nat → Int32) (td : Int32) (tt : Nat → Int32) (ct : Int32) (fd : Nat → Int64) (os : Int32) (oq : Nat → Int32) (vs : Int32) (sk : Nat → Int64) (X : va_W) (a k : Nat) (g_a : a < 8) (g_k : k < 64) (h9 : ∀ i, i < 8 → hm i = 0 ∨ hm i = 1) (hbad : ¬ (hm a = 1)) : Met l y_MD_value (w_MD_value :: TW) rm_MD_value (va_Pc [.ref (ma 0), .int (nI a), .int (nI k)] (PR g (MW g ma cd tb hm oo kp td tt ct fd os oq vs sk ++ X))) (va_Qi (fun r9 (u9 : Unit) => r9 = nI 0) (fun u9 t9 => PR g (MW g ma (nI 2) tb hm oo kp td tt ct fd os oq vs sk ++ X) t9) (gA g)) 0 0 (gA g) := by
  refine mt_of (by decide) (Nat.le_of_ble_eq_true rfl) ?_
  intro p e s m below meth c ls hx hb hr hml hlk hown ht hnm F hP hD hl
  have hl : lv_has ls 3 [(0, .ref (ma 0)), (1, .int (nI a)), (2, .int (nI k))] := hl
  have hS : va_S (gA g) s.heap s.heap [] := va_S.rf
  refine lv_aload_n hx hb d_MD_value_0 rfl (lv_at hl 0 rfl) ?_
  refine lv_iload_n hx hb d_MD_value_1 rfl (lv_at hl 1 rfl) ?_
  refine pc_Si (As := [.int (nI a)]) (rest := [.ref (ma 0)]) hx hb (hml.trans hl.1.symm) hown ht F hP hD hS (c_MD_isRegister l g (MW g ma cd tb hm oo kp td tt ct fd os oq vs sk ++ X) a (by omega)) v_MD_isRegister tw_518 ⟨rfl, rfl⟩ ⟨by decide, by decide⟩ rfl rfl (Nat.le_of_ble_eq_true rfl) ⟨Nat.zero_le _, Nat.zero_le _⟩ d_MD_value_2 (fun r9 u9 H locs hq hP hD hS => ?_)
  subst hq
  refine rz_eq (tgt := 18) hx hb (by omega) d_MD_value_5 (by decide) (fun c5 => ?_) (fun c5 => ?_)
  · exact (by omega : False).elim
  · refine lv_iload_n hx hb d_MD_value_8 rfl (lv_at hl 2 rfl) ?_
    refine lv_iconst (v := nI 0) hx hb d_MD_value_9 (by decide) ?_
    refine lv_bipush (v := nI 63) hx hb d_MD_value_10 (by decide) ?_
    refine pc_Si (As := [.int (nI k), .int (nI 0), .int (nI 63)]) (rest := [.ref (ma 0)]) hx hb (hml.trans hl.1.symm) hown ht F hP hD hS (c_MD_within l g (MW g ma cd tb hm oo kp td tt ct fd os oq vs sk ++ X) k 0 63 (by omega) (by omega) (by omega)) v_MD_within tw_521 ⟨rfl, rfl⟩ ⟨by decide, by decide⟩ rfl rfl (Nat.le_of_ble_eq_true rfl) ⟨Nat.zero_le _, Nat.zero_le _⟩ d_MD_value_12 (fun r9 u9 H locs hq hP hD hS => ?_)
    subst hq
    refine rz_ne (tgt := 22) hx hb (by omega) d_MD_value_15 (by decide) (fun c15 => ?_) (fun c15 => ?_)
    · refine lv_aload_n hx hb d_MD_value_22 rfl (lv_at hl 0 rfl) ?_
      refine va_get (ci := 4) (v := .ref (ma 2)) (C := R_MD) (T := T_MD) (N := 13) hx hb ht i_MD hown F.2.1 hP 0 rfl rfl 2 (by decide) (ht _ tw_472) (fun _ h9 => h9) rfl d_MD_value_23 ?_
      refine lv_iload_n hx hb d_MD_value_26 rfl (lv_at hl 1 rfl) ?_
      refine ra_Z hx hb F hP 2 rfl (by omega) (by decide) d_MD_value_27 ?_
      refine lv_if_eq (tgt := 35) hx hb d_MD_value_28 (by decide) (fun c28 => ?_) (fun c28 => ?_)
      · refine lv_iconst (v := nI 2) hx hb d_MD_value_35 (by decide) ?_
        refine va_put (ci := 4) (v := .int (nI 2)) (ty := .int) (C := R_MD) (T := T_MD) (N := 13) hx hb ht i_MD t_MD t_MD_ok n_MD hown F.2.1 hP hD hS 0 rfl rfl 0 (by decide) (ht _ tw_470) (fun _ h9 => h9) rfl (by decide +kernel) rfl rfl (Nat.le_of_ble_eq_true rfl) d_MD_value_36 (fun H locs hP hD hS => ?_)
        have hP : va_P g.1 cl (MW g ma (nI 2) tb hm oo kp td tt ct fd os oq vs sk ++ X) H := hP
        have hD : va_D (gA g) (MW g ma (nI 2) tb hm oo kp td tt ct fd os oq vs sk ++ X) := hD
        refine lv_aload_n hx hb d_MD_value_39 rfl (lv_at hl 0 rfl) ?_
        refine va_get (ci := 4) (v := .int (nI 2)) (C := R_MD) (T := T_MD) (N := 13) hx hb ht i_MD hown F.2.1 hP 0 rfl rfl 0 (by decide) (ht _ tw_470) (fun _ h9 => h9) rfl d_MD_value_40 ?_
        refine rz_ne (tgt := 63) hx hb (by omega) d_MD_value_43 (by decide) (fun c43 => ?_) (fun c43 => ?_)
        · refine lv_iconst (v := nI 0) hx hb d_MD_value_63 (by decide) ?_
          exact W.zret (v := nI 0) hx hb hr (by decide) (fun t9 e1 hW => ⟨⟨_, (), rfl, rfl, PR.at F hP hD hS e1 hW.alike⟩, hS.F e1⟩) hS.2.2 d_MD_value_64
        · exact (by omega : False).elim
      · exact (hbad ((h9 a (by omega)).resolve_left c28)).elim
    · exact (by omega : False).elim
set_option maxRecDepth 100000 in
set_option maxHeartbeats 4000000 in
theorem c_MD_lack (l : Launch) (g : Gx) (ma : Nat → Nat) (cd : Int32) (tb : Nat → Int64) (hm : Nat → Int32) (oo : Nat → Int32) (kp : Nat → Int32) (td : Int32) (tt : Nat → Int32) (ct : Int32) (fd : Nat → Int64) (os : Int32) (oq : Nat → Int32) (vs : Int32) (sk : Nat → Int64) (X : va_W) (a : Nat) (g_a : a < 8) (e_a : hm a = 1) : Met l y_MD_lack (w_MD_lack :: TW) rm_MD_lack (va_Pc [.ref (ma 0), .int (nI a)] (PR g (MW g ma cd tb hm oo kp td tt ct fd os oq vs sk ++ X))) (va_Qi (fun r9 (u9 : Unit) => r9 = nI 0) (fun u9 t9 => PR g (MW g ma cd tb hm oo kp td tt ct fd os oq vs sk ++ X) t9) (gA g)) 0 0 (gA g) := by
  refine mt_of (by decide) (Nat.le_of_ble_eq_true rfl) ?_
  intro p e s m below meth c ls hx hb hr hml hlk hown ht hnm F hP hD hl
  have hl : lv_has ls 2 [(0, .ref (ma 0)), (1, .int (nI a))] := hl
  have hS : va_S (gA g) s.heap s.heap [] := va_S.rf
  refine lv_iload_n hx hb d_MD_lack_0 rfl (lv_at hl 1 rfl) ?_
  refine pc_Si (As := [.int (nI a)]) (rest := []) hx hb (hml.trans hl.1.symm) hown ht F hP hD hS (c_MD_isRegister l g (MW g ma cd tb hm oo kp td tt ct fd os oq vs sk ++ X) a (by omega)) v_MD_isRegister tw_518 ⟨rfl, rfl⟩ ⟨by decide, by decide⟩ rfl rfl (Nat.le_of_ble_eq_true rfl) ⟨Nat.zero_le _, Nat.zero_le _⟩ d_MD_lack_1 (fun r9 u9 H locs hq hP hD hS => ?_)
  subst hq
  refine rz_ne (tgt := 11) hx hb (by omega) d_MD_lack_4 (by decide) (fun c4 => ?_) (fun c4 => ?_)
  · refine lv_aload_n hx hb d_MD_lack_11 rfl (lv_at hl 0 rfl) ?_
    refine va_get (ci := 4) (v := .ref (ma 2)) (C := R_MD) (T := T_MD) (N := 13) hx hb ht i_MD hown F.2.1 hP 0 rfl rfl 2 (by decide) (ht _ tw_472) (fun _ h9 => h9) rfl d_MD_lack_12 ?_
    refine lv_iload_n hx hb d_MD_lack_15 rfl (lv_at hl 1 rfl) ?_
    refine ra_Z hx hb F hP 2 rfl (by omega) (by decide) d_MD_lack_16 ?_
    refine lv_if_eq (tgt := 24) hx hb d_MD_lack_17 (by decide) (fun c17 => ?_) (fun c17 => ?_)
    · exact absurd (e_a.symm.trans c17) (by decide)
    · refine lv_iconst (v := nI 0) hx hb d_MD_lack_20 (by decide) ?_
      refine lv_goto (tgt := 25) hx hb d_MD_lack_21 (by decide) ?_
      exact W.iret (v := nI 0) hx hb hr (fun t9 e1 hW => ⟨⟨_, (), rfl, rfl, PR.at F hP hD hS e1 hW.alike⟩, hS.F e1⟩) hS.2.2 d_MD_lack_25
  · exact (by omega : False).elim
set_option maxRecDepth 100000 in
set_option maxHeartbeats 4000000 in
theorem c1_MD_lack (l : Launch) (g : Gx) (ma : Nat → Nat) (cd : Int32) (tb : Nat → Int64) (hm : Nat → Int32) (oo : Nat → Int32) (kp : Nat → Int32) (td : Int32) (tt : Nat → Int32) (ct : Int32) (fd : Nat → Int64) (os : Int32) (oq : Nat → Int32) (vs : Int32) (sk : Nat → Int64) (X : va_W) (a : Int32) (hbad : ¬ (inR a 8)) : Met l y_MD_lack (w_MD_lack :: TW) rm_MD_lack (va_Pc [.ref (ma 0), .int a] (PR g (MW g ma cd tb hm oo kp td tt ct fd os oq vs sk ++ X))) (va_Qi (fun r9 (u9 : Unit) => r9 = nI 1) (fun u9 t9 => PR g (MW g ma cd tb hm oo kp td tt ct fd os oq vs sk ++ X) t9) (gA g)) 0 0 (gA g) := by
  refine mt_of (by decide) (Nat.le_of_ble_eq_true rfl) ?_
  intro p e s m below meth c ls hx hb hr hml hlk hown ht hnm F hP hD hl
  have hl : lv_has ls 2 [(0, .ref (ma 0)), (1, .int a)] := hl
  have hS : va_S (gA g) s.heap s.heap [] := va_S.rf
  refine lv_iload_n hx hb d_MD_lack_0 rfl (lv_at hl 1 rfl) ?_
  refine pc_Si (As := [.int a]) (rest := []) hx hb (hml.trans hl.1.symm) hown ht F hP hD hS (c_MD_isRegister_0 l g (MW g ma cd tb hm oo kp td tt ct fd os oq vs sk ++ X) a hbad) v_MD_isRegister tw_518 ⟨rfl, rfl⟩ ⟨by decide, by decide⟩ rfl rfl (Nat.le_of_ble_eq_true rfl) ⟨Nat.zero_le _, Nat.zero_le _⟩ d_MD_lack_1 (fun r9 u9 H locs hq hP hD hS => ?_)
  subst hq
  refine rz_ne (tgt := 11) hx hb (by omega) d_MD_lack_4 (by decide) (fun c4 => ?_) (fun c4 => ?_)
  · exact (by omega : False).elim
  · refine lv_iconst (v := nI 1) hx hb d_MD_lack_7 (by decide) ?_
    refine lv_goto (tgt := 25) hx hb d_MD_lack_8 (by decide) ?_
    exact W.iret (v := nI 1) hx hb hr (fun t9 e1 hW => ⟨⟨_, (), rfl, rfl, PR.at F hP hD hS e1 hW.alike⟩, hS.F e1⟩) hS.2.2 d_MD_lack_25
set_option maxRecDepth 100000 in
set_option maxHeartbeats 4000000 in
theorem c2_MD_lack (l : Launch) (g : Gx) (ma : Nat → Nat) (cd : Int32) (tb : Nat → Int64) (hm : Nat → Int32) (oo : Nat → Int32) (kp : Nat → Int32) (td : Int32) (tt : Nat → Int32) (ct : Int32) (fd : Nat → Int64) (os : Int32) (oq : Nat → Int32) (vs : Int32) (sk : Nat → Int64) (X : va_W) (a : Nat) (g_a : a < 8) (e_a : hm a = 0) : Met l y_MD_lack (w_MD_lack :: TW) rm_MD_lack (va_Pc [.ref (ma 0), .int (nI a)] (PR g (MW g ma cd tb hm oo kp td tt ct fd os oq vs sk ++ X))) (va_Qi (fun r9 (u9 : Unit) => r9 = nI 2) (fun u9 t9 => PR g (MW g ma cd tb hm oo kp td tt ct fd os oq vs sk ++ X) t9) (gA g)) 0 0 (gA g) := by
  refine mt_of (by decide) (Nat.le_of_ble_eq_true rfl) ?_
  intro p e s m below meth c ls hx hb hr hml hlk hown ht hnm F hP hD hl
  have hl : lv_has ls 2 [(0, .ref (ma 0)), (1, .int (nI a))] := hl
  have hS : va_S (gA g) s.heap s.heap [] := va_S.rf
  refine lv_iload_n hx hb d_MD_lack_0 rfl (lv_at hl 1 rfl) ?_
  refine pc_Si (As := [.int (nI a)]) (rest := []) hx hb (hml.trans hl.1.symm) hown ht F hP hD hS (c_MD_isRegister l g (MW g ma cd tb hm oo kp td tt ct fd os oq vs sk ++ X) a (by omega)) v_MD_isRegister tw_518 ⟨rfl, rfl⟩ ⟨by decide, by decide⟩ rfl rfl (Nat.le_of_ble_eq_true rfl) ⟨Nat.zero_le _, Nat.zero_le _⟩ d_MD_lack_1 (fun r9 u9 H locs hq hP hD hS => ?_)
  subst hq
  refine rz_ne (tgt := 11) hx hb (by omega) d_MD_lack_4 (by decide) (fun c4 => ?_) (fun c4 => ?_)
  · refine lv_aload_n hx hb d_MD_lack_11 rfl (lv_at hl 0 rfl) ?_
    refine va_get (ci := 4) (v := .ref (ma 2)) (C := R_MD) (T := T_MD) (N := 13) hx hb ht i_MD hown F.2.1 hP 0 rfl rfl 2 (by decide) (ht _ tw_472) (fun _ h9 => h9) rfl d_MD_lack_12 ?_
    refine lv_iload_n hx hb d_MD_lack_15 rfl (lv_at hl 1 rfl) ?_
    refine ra_Z hx hb F hP 2 rfl (by omega) (by decide) d_MD_lack_16 ?_
    refine lv_if_eq (tgt := 24) hx hb d_MD_lack_17 (by decide) (fun c17 => ?_) (fun c17 => ?_)
    · refine lv_iconst (v := nI 2) hx hb d_MD_lack_24 (by decide) ?_
      exact W.iret (v := nI 2) hx hb hr (fun t9 e1 hW => ⟨⟨_, (), rfl, rfl, PR.at F hP hD hS e1 hW.alike⟩, hS.F e1⟩) hS.2.2 d_MD_lack_25
    · exact absurd e_a c17
  · exact (by omega : False).elim
set_option maxRecDepth 100000 in
set_option maxHeartbeats 4000000 in
theorem c_MD_count (l : Launch) (g : Gx) (ma : Nat → Nat) (cd : Int32) (tb : Nat → Int64) (hm : Nat → Int32) (oo : Nat → Int32) (kp : Nat → Int32) (td : Int32) (tt : Nat → Int32) (ct : Int32) (fd : Nat → Int64) (os : Int32) (oq : Nat → Int32) (vs : Int32) (sk : Nat → Int64) (X : va_W) (a : Nat) (g_a : a < 8) (e_a : hm a = 1) : Met l y_MD_count (w_MD_count :: TW) rm_MD_count (va_Pc [.ref (ma 0), .int (nI a)] (PR g (MW g ma cd tb hm oo kp td tt ct fd os oq vs sk ++ X))) (va_Qi (fun r9 (u9 : Unit) => r9 = nI (cnB (tb a) 64)) (fun u9 t9 => PR g (MW g ma (nI 0) tb hm oo kp td tt ct fd os oq vs sk ++ X) t9) (gA g)) 0 0 (gA g) := by
  refine mt_of (by decide) (Nat.le_of_ble_eq_true rfl) ?_
  intro p e s m below meth c ls hx hb hr hml hlk hown ht hnm F hP hD hl
  have hl : lv_has ls 4 [(0, .ref (ma 0)), (1, .int (nI a))] := hl
  have hS : va_S (gA g) s.heap s.heap [] := va_S.rf
  refine lv_aload_n hx hb d_MD_count_0 rfl (lv_at hl 0 rfl) ?_
  refine lv_aload_n hx hb d_MD_count_1 rfl (lv_at hl 0 rfl) ?_
  refine lv_iload_n hx hb d_MD_count_2 rfl (lv_at hl 1 rfl) ?_
  refine pc_Vi (q0 := 0) (As := [.int (nI a)]) (rest := [.ref (ma 0)]) hx hb (hml.trans hl.1.symm) hown ht F hP hD hS (c_MD_lack l g ma cd tb hm oo kp td tt ct fd os oq vs sk X a (by omega) e_a) v_MD_lack tw_601 ⟨rfl, rfl⟩ ⟨by decide, by decide⟩ rfl rfl rfl rfl (Nat.le_of_ble_eq_true rfl) ⟨Nat.zero_le _, Nat.zero_le _⟩ d_MD_count_3 (fun r9 u9 H locs hq hP hD hS => ?_)
  subst hq
  refine va_put (ci := 4) (v := .int (nI 0)) (ty := .int) (C := R_MD) (T := T_MD) (N := 13) hx hb ht i_MD t_MD t_MD_ok n_MD hown F.2.1 hP hD hS 0 rfl rfl 0 (by decide) (ht _ tw_470) (fun _ h9 => h9) rfl (by decide +kernel) rfl rfl (Nat.le_of_ble_eq_true rfl) d_MD_count_6 (fun H locs hP hD hS => ?_)
  have hP : va_P g.1 cl (MW g ma (nI 0) tb hm oo kp td tt ct fd os oq vs sk ++ X) H := hP
  have hD : va_D (gA g) (MW g ma (nI 0) tb hm oo kp td tt ct fd os oq vs sk ++ X) := hD
  refine lv_iconst (v := nI 0) hx hb d_MD_count_9 (by decide) ?_
  refine lv_istore_n (lv' := [(2, .int (nI 0)), (0, .ref (ma 0)), (1, .int (nI a))]) hx hb d_MD_count_10 rfl hl (by decide) rfl (fun ls hl => ?_)
  refine lv_iconst (v := nI 0) hx hb d_MD_count_11 (by decide) ?_
  refine lv_istore_n (lv' := [(3, .int (nI 0)), (2, .int (nI 0)), (0, .ref (ma 0)), (1, .int (nI a))]) hx hb d_MD_count_12 rfl hl (by decide) rfl (fun ls hl => ?_)
  have lp13 : ∀ (j13 : Nat) (i : Nat) (H : Heap) (locs : List Loc) (ls : Array Slot), i + j13 = 64 → va_P g.1 cl (MW g ma (nI 0) tb hm oo kp td tt ct fd os oq vs sk ++ X) H → va_D (gA g) (MW g ma (nI 0) tb hm oo kp td tt ct fd os oq vs sk ++ X) → va_S (gA g) s.heap H locs → lv_has ls 4 [(3, .int (nI i)), (2, .int (nI (cnB (tb a) i))), (0, .ref (ma 0)), (1, .int (nI a))] → W p l e rm_MD_count s m [.ref (ma 0), .int (nI a)].toArray below meth c H locs 0 0 (MQ below (va_Qi (fun r9 (u9 : Unit) => r9 = nI (cnB (tb a) 64)) (fun u9 t9 => PR g (MW g ma (nI 0) tb hm oo kp td tt ct fd os oq vs sk ++ X) t9) (gA g)) [.ref (ma 0), .int (nI a)].toArray s 0 0 (gA g)) (F0 m 13 ls []) := by
    intro j13
    induction j13 with
    | zero =>
      intro i H locs ls hj13 hP hD hS hl
      refine lv_iload_n hx hb d_MD_count_13 rfl (lv_at hl 0 rfl) ?_
      refine lv_bipush (v := nI 64) hx hb d_MD_count_14 (by decide) ?_
      refine rc_ge (tgt := 53) hx hb (by omega) (by omega) d_MD_count_16 (by decide) (fun c16 => ?_) (fun c16 => ?_)
      · refine lv_iload_n hx hb d_MD_count_53 rfl (lv_at hl 1 rfl) ?_
        exact W.iret (v := nI (cnB (tb a) i)) hx hb hr (fun t9 e1 hW => ⟨⟨_, (), rfl, (by rw [show i = 64 by omega]), PR.at F hP hD hS e1 hW.alike⟩, hS.F e1⟩) hS.2.2 d_MD_count_54
      · exact (by omega : False).elim
    | succ j13 ih13 =>
      intro i H locs ls hj13 hP hD hS hl
      refine lv_iload_n hx hb d_MD_count_13 rfl (lv_at hl 0 rfl) ?_
      refine lv_bipush (v := nI 64) hx hb d_MD_count_14 (by decide) ?_
      refine rc_ge (tgt := 53) hx hb (by omega) (by omega) d_MD_count_16 (by decide) (fun c16 => ?_) (fun c16 => ?_)
      · exact (by omega : False).elim
      · refine lv_aload_n hx hb d_MD_count_19 rfl (lv_at hl 2 rfl) ?_
        refine va_get (ci := 4) (v := .int (nI 0)) (C := R_MD) (T := T_MD) (N := 13) hx hb ht i_MD hown F.2.1 hP 0 rfl rfl 0 (by decide) (ht _ tw_470) (fun _ h9 => h9) rfl d_MD_count_20 ?_
        refine rz_ne (tgt := 53) hx hb (by omega) d_MD_count_23 (by decide) (fun c23 => ?_) (fun c23 => ?_)
        · exact (by omega : False).elim
        · refine lv_aload_n hx hb d_MD_count_26 rfl (lv_at hl 2 rfl) ?_
          refine va_get (ci := 4) (v := .ref (ma 1)) (C := R_MD) (T := T_MD) (N := 13) hx hb ht i_MD hown F.2.1 hP 0 rfl rfl 1 (by decide) (ht _ tw_471) (fun _ h9 => h9) rfl d_MD_count_27 ?_
          refine lv_iload_n hx hb d_MD_count_30 rfl (lv_at hl 3 rfl) ?_
          refine ra_J hx hb F hP 1 rfl (by omega) (by decide) d_MD_count_31 ?_
          refine lv_iload_n hx hb d_MD_count_32 rfl (lv_at hl 0 rfl) ?_
          refine pc_Si (As := [.long (tb a), .int (nI i)]) (rest := []) hx hb (hml.trans hl.1.symm) hown ht F hP hD hS (c_MD_at l g (MW g ma (nI 0) tb hm oo kp td tt ct fd os oq vs sk ++ X) (tb a) i (by omega)) v_MD_at tw_536 ⟨rfl, rfl⟩ ⟨by decide, by decide⟩ rfl rfl (Nat.le_of_ble_eq_true rfl) ⟨Nat.zero_le _, Nat.zero_le _⟩ d_MD_count_33 (fun r9 u9 H locs hq hP hD hS => ?_)
          subst hq
          refine lv_if_eq (tgt := 45) hx hb d_MD_count_36 (by decide) (fun c36 => ?_) (fun c36 => ?_)
          · refine lv_iload_n hx hb d_MD_count_45 rfl (lv_at hl 1 rfl) ?_
            refine lv_istore_n (lv' := [(2, .int (nI (cnB (tb a) i))), (3, .int (nI i)), (0, .ref (ma 0)), (1, .int (nI a))]) hx hb d_MD_count_46 rfl hl (by decide) rfl (fun ls hl => ?_)
            refine lv_iinc (lv' := [(3, .int (nI (i + 1))), (2, .int (nI (cnB (tb a) i))), (0, .ref (ma 0)), (1, .int (nI a))]) hx hb d_MD_count_47 hl (k := 1) rfl (nI_1 _) (by decide) rfl (fun ls hl => ?_)
            refine lv_goto (tgt := 13) hx hb d_MD_count_50 (by decide) ?_
            have hl := lv_sub hl [0, 1, 2, 3] rfl
            have hl : lv_has ls 4 [(3, .int (nI ((i + 1)))), (2, .int (nI (cnB (tb a) (i + 1)))), (0, .ref (ma 0)), (1, .int (nI a))] := by rw [show cnB (tb a) (i + 1) = _ from if_neg (bI_0.mp c36)]; exact hl
            exact ih13 (i + 1) H locs ls (by omega)  hP hD hS hl
          · refine lv_iload_n hx hb d_MD_count_39 rfl (lv_at hl 1 rfl) ?_
            refine lv_iconst (v := nI 1) hx hb d_MD_count_40 (by decide) ?_
            refine rn_add hx hb d_MD_count_41 ?_
            refine lv_goto (tgt := 46) hx hb d_MD_count_42 (by decide) ?_
            refine lv_istore_n (lv' := [(2, .int (nI ((cnB (tb a) i) + 1))), (3, .int (nI i)), (0, .ref (ma 0)), (1, .int (nI a))]) hx hb d_MD_count_46 rfl hl (by decide) rfl (fun ls hl => ?_)
            refine lv_iinc (lv' := [(3, .int (nI (i + 1))), (2, .int (nI ((cnB (tb a) i) + 1))), (0, .ref (ma 0)), (1, .int (nI a))]) hx hb d_MD_count_47 hl (k := 1) rfl (nI_1 _) (by decide) rfl (fun ls hl => ?_)
            refine lv_goto (tgt := 13) hx hb d_MD_count_50 (by decide) ?_
            have hl := lv_sub hl [0, 1, 2, 3] rfl
            have hl : lv_has ls 4 [(3, .int (nI ((i + 1)))), (2, .int (nI (cnB (tb a) (i + 1)))), (0, .ref (ma 0)), (1, .int (nI a))] := by rw [show cnB (tb a) (i + 1) = _ from if_pos (bI_n0 c36)]; exact hl
            exact ih13 (i + 1) H locs ls (by omega)  hP hD hS hl
  have hl := lv_sub hl [0, 1, 2, 3] rfl
  have hl : lv_has ls 4 [(3, .int (nI 0)), (2, .int (nI (cnB (tb a) 0))), (0, .ref (ma 0)), (1, .int (nI a))] := hl
  exact lp13 (64 - 0) 0 _ _ ls (by omega)  hP hD hS hl
set_option maxRecDepth 100000 in
set_option maxHeartbeats 4000000 in
theorem c1_MD_count (l : Launch) (g : Gx) (ma : Nat → Nat) (cd : Int32) (tb : Nat → Int64) (hm : Nat → Int32) (oo : Nat → Int32) (kp : Nat → Int32) (td : Int32) (tt : Nat → Int32) (ct : Int32) (fd : Nat → Int64) (os : Int32) (oq : Nat → Int32) (vs : Int32) (sk : Nat → Int64) (X : va_W) (a : Int32) (hbad : ¬ (inR a 8)) : Met l y_MD_count (w_MD_count :: TW) rm_MD_count (va_Pc [.ref (ma 0), .int a] (PR g (MW g ma cd tb hm oo kp td tt ct fd os oq vs sk ++ X))) (va_Qi (fun r9 (u9 : Unit) => r9 = nI 0) (fun u9 t9 => PR g (MW g ma (nI 1) tb hm oo kp td tt ct fd os oq vs sk ++ X) t9) (gA g)) 0 0 (gA g) := by
  refine mt_of (by decide) (Nat.le_of_ble_eq_true rfl) ?_
  intro p e s m below meth c ls hx hb hr hml hlk hown ht hnm F hP hD hl
  have hl : lv_has ls 4 [(0, .ref (ma 0)), (1, .int a)] := hl
  have hS : va_S (gA g) s.heap s.heap [] := va_S.rf
  refine lv_aload_n hx hb d_MD_count_0 rfl (lv_at hl 0 rfl) ?_
  refine lv_aload_n hx hb d_MD_count_1 rfl (lv_at hl 0 rfl) ?_
  refine lv_iload_n hx hb d_MD_count_2 rfl (lv_at hl 1 rfl) ?_
  refine pc_Vi (q0 := 0) (As := [.int a]) (rest := [.ref (ma 0)]) hx hb (hml.trans hl.1.symm) hown ht F hP hD hS (c1_MD_lack l g ma cd tb hm oo kp td tt ct fd os oq vs sk X a hbad) v_MD_lack tw_601 ⟨rfl, rfl⟩ ⟨by decide, by decide⟩ rfl rfl rfl rfl (Nat.le_of_ble_eq_true rfl) ⟨Nat.zero_le _, Nat.zero_le _⟩ d_MD_count_3 (fun r9 u9 H locs hq hP hD hS => ?_)
  subst hq
  refine va_put (ci := 4) (v := .int (nI 1)) (ty := .int) (C := R_MD) (T := T_MD) (N := 13) hx hb ht i_MD t_MD t_MD_ok n_MD hown F.2.1 hP hD hS 0 rfl rfl 0 (by decide) (ht _ tw_470) (fun _ h9 => h9) rfl (by decide +kernel) rfl rfl (Nat.le_of_ble_eq_true rfl) d_MD_count_6 (fun H locs hP hD hS => ?_)
  have hP : va_P g.1 cl (MW g ma (nI 1) tb hm oo kp td tt ct fd os oq vs sk ++ X) H := hP
  have hD : va_D (gA g) (MW g ma (nI 1) tb hm oo kp td tt ct fd os oq vs sk ++ X) := hD
  refine lv_iconst (v := nI 0) hx hb d_MD_count_9 (by decide) ?_
  refine lv_istore_n (lv' := [(2, .int (nI 0)), (0, .ref (ma 0)), (1, .int a)]) hx hb d_MD_count_10 rfl hl (by decide) rfl (fun ls hl => ?_)
  refine lv_iconst (v := nI 0) hx hb d_MD_count_11 (by decide) ?_
  refine lv_istore_n (lv' := [(3, .int (nI 0)), (2, .int (nI 0)), (0, .ref (ma 0)), (1, .int a)]) hx hb d_MD_count_12 rfl hl (by decide) rfl (fun ls hl => ?_)
  refine lv_iload_n hx hb d_MD_count_13 rfl (lv_at hl 0 rfl) ?_
  refine lv_bipush (v := nI 64) hx hb d_MD_count_14 (by decide) ?_
  refine rc_ge (tgt := 53) hx hb (by omega) (by omega) d_MD_count_16 (by decide) (fun c16 => ?_) (fun c16 => ?_)
  · exact (by omega : False).elim
  · refine lv_aload_n hx hb d_MD_count_19 rfl (lv_at hl 2 rfl) ?_
    refine va_get (ci := 4) (v := .int (nI 1)) (C := R_MD) (T := T_MD) (N := 13) hx hb ht i_MD hown F.2.1 hP 0 rfl rfl 0 (by decide) (ht _ tw_470) (fun _ h9 => h9) rfl d_MD_count_20 ?_
    refine rz_ne (tgt := 53) hx hb (by omega) d_MD_count_23 (by decide) (fun c23 => ?_) (fun c23 => ?_)
    · refine lv_iload_n hx hb d_MD_count_53 rfl (lv_at hl 1 rfl) ?_
      exact W.iret (v := nI 0) hx hb hr (fun t9 e1 hW => ⟨⟨_, (), rfl, rfl, PR.at F hP hD hS e1 hW.alike⟩, hS.F e1⟩) hS.2.2 d_MD_count_54
    · exact (by omega : False).elim
set_option maxRecDepth 100000 in
set_option maxHeartbeats 4000000 in
theorem c2_MD_count (l : Launch) (g : Gx) (ma : Nat → Nat) (cd : Int32) (tb : Nat → Int64) (hm : Nat → Int32) (oo : Nat → Int32) (kp : Nat → Int32) (td : Int32) (tt : Nat → Int32) (ct : Int32) (fd : Nat → Int64) (os : Int32) (oq : Nat → Int32) (vs : Int32) (sk : Nat → Int64) (X : va_W) (a : Nat) (g_a : a < 8) (e_a : hm a = 0) : Met l y_MD_count (w_MD_count :: TW) rm_MD_count (va_Pc [.ref (ma 0), .int (nI a)] (PR g (MW g ma cd tb hm oo kp td tt ct fd os oq vs sk ++ X))) (va_Qi (fun r9 (u9 : Unit) => r9 = nI 0) (fun u9 t9 => PR g (MW g ma (nI 2) tb hm oo kp td tt ct fd os oq vs sk ++ X) t9) (gA g)) 0 0 (gA g) := by
  refine mt_of (by decide) (Nat.le_of_ble_eq_true rfl) ?_
  intro p e s m below meth c ls hx hb hr hml hlk hown ht hnm F hP hD hl
  have hl : lv_has ls 4 [(0, .ref (ma 0)), (1, .int (nI a))] := hl
  have hS : va_S (gA g) s.heap s.heap [] := va_S.rf
  refine lv_aload_n hx hb d_MD_count_0 rfl (lv_at hl 0 rfl) ?_
  refine lv_aload_n hx hb d_MD_count_1 rfl (lv_at hl 0 rfl) ?_
  refine lv_iload_n hx hb d_MD_count_2 rfl (lv_at hl 1 rfl) ?_
  refine pc_Vi (q0 := 0) (As := [.int (nI a)]) (rest := [.ref (ma 0)]) hx hb (hml.trans hl.1.symm) hown ht F hP hD hS (c2_MD_lack l g ma cd tb hm oo kp td tt ct fd os oq vs sk X a (by omega) e_a) v_MD_lack tw_601 ⟨rfl, rfl⟩ ⟨by decide, by decide⟩ rfl rfl rfl rfl (Nat.le_of_ble_eq_true rfl) ⟨Nat.zero_le _, Nat.zero_le _⟩ d_MD_count_3 (fun r9 u9 H locs hq hP hD hS => ?_)
  subst hq
  refine va_put (ci := 4) (v := .int (nI 2)) (ty := .int) (C := R_MD) (T := T_MD) (N := 13) hx hb ht i_MD t_MD t_MD_ok n_MD hown F.2.1 hP hD hS 0 rfl rfl 0 (by decide) (ht _ tw_470) (fun _ h9 => h9) rfl (by decide +kernel) rfl rfl (Nat.le_of_ble_eq_true rfl) d_MD_count_6 (fun H locs hP hD hS => ?_)
  have hP : va_P g.1 cl (MW g ma (nI 2) tb hm oo kp td tt ct fd os oq vs sk ++ X) H := hP
  have hD : va_D (gA g) (MW g ma (nI 2) tb hm oo kp td tt ct fd os oq vs sk ++ X) := hD
  refine lv_iconst (v := nI 0) hx hb d_MD_count_9 (by decide) ?_
  refine lv_istore_n (lv' := [(2, .int (nI 0)), (0, .ref (ma 0)), (1, .int (nI a))]) hx hb d_MD_count_10 rfl hl (by decide) rfl (fun ls hl => ?_)
  refine lv_iconst (v := nI 0) hx hb d_MD_count_11 (by decide) ?_
  refine lv_istore_n (lv' := [(3, .int (nI 0)), (2, .int (nI 0)), (0, .ref (ma 0)), (1, .int (nI a))]) hx hb d_MD_count_12 rfl hl (by decide) rfl (fun ls hl => ?_)
  refine lv_iload_n hx hb d_MD_count_13 rfl (lv_at hl 0 rfl) ?_
  refine lv_bipush (v := nI 64) hx hb d_MD_count_14 (by decide) ?_
  refine rc_ge (tgt := 53) hx hb (by omega) (by omega) d_MD_count_16 (by decide) (fun c16 => ?_) (fun c16 => ?_)
  · exact (by omega : False).elim
  · refine lv_aload_n hx hb d_MD_count_19 rfl (lv_at hl 2 rfl) ?_
    refine va_get (ci := 4) (v := .int (nI 2)) (C := R_MD) (T := T_MD) (N := 13) hx hb ht i_MD hown F.2.1 hP 0 rfl rfl 0 (by decide) (ht _ tw_470) (fun _ h9 => h9) rfl d_MD_count_20 ?_
    refine rz_ne (tgt := 53) hx hb (by omega) d_MD_count_23 (by decide) (fun c23 => ?_) (fun c23 => ?_)
    · refine lv_iload_n hx hb d_MD_count_53 rfl (lv_at hl 1 rfl) ?_
      exact W.iret (v := nI 0) hx hb hr (fun t9 e1 hW => ⟨⟨_, (), rfl, rfl, PR.at F hP hD hS e1 hW.alike⟩, hS.F e1⟩) hS.2.2 d_MD_count_54
    · exact (by omega : False).elim
set_option maxRecDepth 100000 in
set_option maxHeartbeats 4000000 in
theorem c_MD_least (l : Launch) (g : Gx) (ma : Nat → Nat) (cd : Int32) (tb : Nat → Int64) (hm : Nat → Int32) (oo : Nat → Int32) (kp : Nat → Int32) (td : Int32) (tt : Nat → Int32) (ct : Int32) (fd : Nat → Int64) (os : Int32) (oq : Nat → Int32) (vs : Int32) (sk : Nat → Int64) (X : va_W) (a : Nat) (g_a : a < 8) (e_a : hm a = 1) : Met l y_MD_least (w_MD_least :: TW) rm_MD_least (va_Pc [.ref (ma 0), .int (nI a)] (PR g (MW g ma cd tb hm oo kp td tt ct fd os oq vs sk ++ X))) (va_Qi (fun r9 (u9 : Unit) => r9 = lsF (tb a) 0 64) (fun u9 t9 => PR g (MW g ma (nI 0) tb hm oo kp td tt ct fd os oq vs sk ++ X) t9) (gA g)) 0 0 (gA g) := by
  refine mt_of (by decide) (Nat.le_of_ble_eq_true rfl) ?_
  intro p e s m below meth c ls hx hb hr hml hlk hown ht hnm F hP hD hl
  have hl : lv_has ls 3 [(0, .ref (ma 0)), (1, .int (nI a))] := hl
  have hS : va_S (gA g) s.heap s.heap [] := va_S.rf
  refine lv_aload_n hx hb d_MD_least_0 rfl (lv_at hl 0 rfl) ?_
  refine lv_aload_n hx hb d_MD_least_1 rfl (lv_at hl 0 rfl) ?_
  refine lv_iload_n hx hb d_MD_least_2 rfl (lv_at hl 1 rfl) ?_
  refine pc_Vi (q0 := 0) (As := [.int (nI a)]) (rest := [.ref (ma 0)]) hx hb (hml.trans hl.1.symm) hown ht F hP hD hS (c_MD_lack l g ma cd tb hm oo kp td tt ct fd os oq vs sk X a (by omega) e_a) v_MD_lack tw_601 ⟨rfl, rfl⟩ ⟨by decide, by decide⟩ rfl rfl rfl rfl (Nat.le_of_ble_eq_true rfl) ⟨Nat.zero_le _, Nat.zero_le _⟩ d_MD_least_3 (fun r9 u9 H locs hq hP hD hS => ?_)
  subst hq
  refine va_put (ci := 4) (v := .int (nI 0)) (ty := .int) (C := R_MD) (T := T_MD) (N := 13) hx hb ht i_MD t_MD t_MD_ok n_MD hown F.2.1 hP hD hS 0 rfl rfl 0 (by decide) (ht _ tw_470) (fun _ h9 => h9) rfl (by decide +kernel) rfl rfl (Nat.le_of_ble_eq_true rfl) d_MD_least_6 (fun H locs hP hD hS => ?_)
  have hP : va_P g.1 cl (MW g ma (nI 0) tb hm oo kp td tt ct fd os oq vs sk ++ X) H := hP
  have hD : va_D (gA g) (MW g ma (nI 0) tb hm oo kp td tt ct fd os oq vs sk ++ X) := hD
  refine lv_iconst (v := nI 0) hx hb d_MD_least_9 (by decide) ?_
  refine lv_istore_n (lv' := [(2, .int (nI 0)), (0, .ref (ma 0)), (1, .int (nI a))]) hx hb d_MD_least_10 rfl hl (by decide) rfl (fun ls hl => ?_)
  have lp11 : ∀ (j11 : Nat) (i : Nat) (H : Heap) (locs : List Loc) (ls : Array Slot), i + j11 = 64 → (lsF (tb a) 0 64 = lsF (tb a) i j11) → va_P g.1 cl (MW g ma (nI 0) tb hm oo kp td tt ct fd os oq vs sk ++ X) H → va_D (gA g) (MW g ma (nI 0) tb hm oo kp td tt ct fd os oq vs sk ++ X) → va_S (gA g) s.heap H locs → lv_has ls 3 [(2, .int (nI i)), (0, .ref (ma 0)), (1, .int (nI a))] → W p l e rm_MD_least s m [.ref (ma 0), .int (nI a)].toArray below meth c H locs 0 0 (MQ below (va_Qi (fun r9 (u9 : Unit) => r9 = lsF (tb a) 0 64) (fun u9 t9 => PR g (MW g ma (nI 0) tb hm oo kp td tt ct fd os oq vs sk ++ X) t9) (gA g)) [.ref (ma 0), .int (nI a)].toArray s 0 0 (gA g)) (F0 m 11 ls []) := by
    intro j11
    induction j11 with
    | zero =>
      intro i H locs ls hj11 q1 hP hD hS hl
      refine lv_iload_n hx hb d_MD_least_11 rfl (lv_at hl 0 rfl) ?_
      refine lv_bipush (v := nI 64) hx hb d_MD_least_12 (by decide) ?_
      refine rc_ge (tgt := 45) hx hb (by omega) (by omega) d_MD_least_14 (by decide) (fun c14 => ?_) (fun c14 => ?_)
      · refine lv_aload_n hx hb d_MD_least_45 rfl (lv_at hl 1 rfl) ?_
        refine va_get (ci := 4) (v := .int (nI 0)) (C := R_MD) (T := T_MD) (N := 13) hx hb ht i_MD hown F.2.1 hP 0 rfl rfl 0 (by decide) (ht _ tw_470) (fun _ h9 => h9) rfl d_MD_least_46 ?_
        refine rz_ne (tgt := 56) hx hb (by omega) d_MD_least_49 (by decide) (fun c49 => ?_) (fun c49 => ?_)
        · exact (by omega : False).elim
        · refine lv_iconst (v := -1) hx hb d_MD_least_52 (by decide) ?_
          refine lv_goto (tgt := 57) hx hb d_MD_least_53 (by decide) ?_
          exact W.iret (v := -1) hx hb hr (fun t9 e1 hW => ⟨⟨_, (), rfl, q1.symm, PR.at F hP hD hS e1 hW.alike⟩, hS.F e1⟩) hS.2.2 d_MD_least_57
      · exact (by omega : False).elim
    | succ j11 ih11 =>
      intro i H locs ls hj11 q1 hP hD hS hl
      refine lv_iload_n hx hb d_MD_least_11 rfl (lv_at hl 0 rfl) ?_
      refine lv_bipush (v := nI 64) hx hb d_MD_least_12 (by decide) ?_
      refine rc_ge (tgt := 45) hx hb (by omega) (by omega) d_MD_least_14 (by decide) (fun c14 => ?_) (fun c14 => ?_)
      · exact (by omega : False).elim
      · refine lv_aload_n hx hb d_MD_least_17 rfl (lv_at hl 1 rfl) ?_
        refine va_get (ci := 4) (v := .int (nI 0)) (C := R_MD) (T := T_MD) (N := 13) hx hb ht i_MD hown F.2.1 hP 0 rfl rfl 0 (by decide) (ht _ tw_470) (fun _ h9 => h9) rfl d_MD_least_18 ?_
        refine rz_ne (tgt := 45) hx hb (by omega) d_MD_least_21 (by decide) (fun c21 => ?_) (fun c21 => ?_)
        · exact (by omega : False).elim
        · refine lv_aload_n hx hb d_MD_least_24 rfl (lv_at hl 1 rfl) ?_
          refine va_get (ci := 4) (v := .ref (ma 1)) (C := R_MD) (T := T_MD) (N := 13) hx hb ht i_MD hown F.2.1 hP 0 rfl rfl 1 (by decide) (ht _ tw_471) (fun _ h9 => h9) rfl d_MD_least_25 ?_
          refine lv_iload_n hx hb d_MD_least_28 rfl (lv_at hl 2 rfl) ?_
          refine ra_J hx hb F hP 1 rfl (by omega) (by decide) d_MD_least_29 ?_
          refine lv_iload_n hx hb d_MD_least_30 rfl (lv_at hl 0 rfl) ?_
          refine pc_Si (As := [.long (tb a), .int (nI i)]) (rest := []) hx hb (hml.trans hl.1.symm) hown ht F hP hD hS (c_MD_at l g (MW g ma (nI 0) tb hm oo kp td tt ct fd os oq vs sk ++ X) (tb a) i (by omega)) v_MD_at tw_536 ⟨rfl, rfl⟩ ⟨by decide, by decide⟩ rfl rfl (Nat.le_of_ble_eq_true rfl) ⟨Nat.zero_le _, Nat.zero_le _⟩ d_MD_least_31 (fun r9 u9 H locs hq hP hD hS => ?_)
          subst hq
          refine lv_if_eq (tgt := 39) hx hb d_MD_least_34 (by decide) (fun c34 => ?_) (fun c34 => ?_)
          · refine lv_iinc (lv' := [(2, .int (nI (i + 1))), (0, .ref (ma 0)), (1, .int (nI a))]) hx hb d_MD_least_39 hl (k := 0) rfl (nI_1 _) (by decide) rfl (fun ls hl => ?_)
            refine lv_goto (tgt := 11) hx hb d_MD_least_42 (by decide) ?_
            have hl := lv_sub hl [0, 1, 2] rfl
            have hl : lv_has ls 3 [(2, .int (nI ((i + 1)))), (0, .ref (ma 0)), (1, .int (nI a))] := hl
            exact ih11 (i + 1) H locs ls (by omega) (q1.trans (if_neg (bI_0.mp c34))) hP hD hS hl
          · refine lv_iload_n hx hb d_MD_least_37 rfl (lv_at hl 0 rfl) ?_
            exact W.iret (v := nI i) hx hb hr (fun t9 e1 hW => ⟨⟨_, (), rfl, (q1.trans (if_pos (bI_n0 c34))).symm, PR.at F hP hD hS e1 hW.alike⟩, hS.F e1⟩) hS.2.2 d_MD_least_38
  have hl := lv_sub hl [0, 1, 2] rfl
  have hl : lv_has ls 3 [(2, .int (nI 0)), (0, .ref (ma 0)), (1, .int (nI a))] := hl
  exact lp11 (64 - 0) 0 _ _ ls (by omega) rfl hP hD hS hl
set_option maxRecDepth 100000 in
set_option maxHeartbeats 4000000 in
theorem c1_MD_least (l : Launch) (g : Gx) (ma : Nat → Nat) (cd : Int32) (tb : Nat → Int64) (hm : Nat → Int32) (oo : Nat → Int32) (kp : Nat → Int32) (td : Int32) (tt : Nat → Int32) (ct : Int32) (fd : Nat → Int64) (os : Int32) (oq : Nat → Int32) (vs : Int32) (sk : Nat → Int64) (X : va_W) (a : Int32) (hbad : ¬ (inR a 8)) : Met l y_MD_least (w_MD_least :: TW) rm_MD_least (va_Pc [.ref (ma 0), .int a] (PR g (MW g ma cd tb hm oo kp td tt ct fd os oq vs sk ++ X))) (va_Qi (fun r9 (u9 : Unit) => r9 = nI 0) (fun u9 t9 => PR g (MW g ma (nI 1) tb hm oo kp td tt ct fd os oq vs sk ++ X) t9) (gA g)) 0 0 (gA g) := by
  refine mt_of (by decide) (Nat.le_of_ble_eq_true rfl) ?_
  intro p e s m below meth c ls hx hb hr hml hlk hown ht hnm F hP hD hl
  have hl : lv_has ls 3 [(0, .ref (ma 0)), (1, .int a)] := hl
  have hS : va_S (gA g) s.heap s.heap [] := va_S.rf
  refine lv_aload_n hx hb d_MD_least_0 rfl (lv_at hl 0 rfl) ?_
  refine lv_aload_n hx hb d_MD_least_1 rfl (lv_at hl 0 rfl) ?_
  refine lv_iload_n hx hb d_MD_least_2 rfl (lv_at hl 1 rfl) ?_
  refine pc_Vi (q0 := 0) (As := [.int a]) (rest := [.ref (ma 0)]) hx hb (hml.trans hl.1.symm) hown ht F hP hD hS (c1_MD_lack l g ma cd tb hm oo kp td tt ct fd os oq vs sk X a hbad) v_MD_lack tw_601 ⟨rfl, rfl⟩ ⟨by decide, by decide⟩ rfl rfl rfl rfl (Nat.le_of_ble_eq_true rfl) ⟨Nat.zero_le _, Nat.zero_le _⟩ d_MD_least_3 (fun r9 u9 H locs hq hP hD hS => ?_)
  subst hq
  refine va_put (ci := 4) (v := .int (nI 1)) (ty := .int) (C := R_MD) (T := T_MD) (N := 13) hx hb ht i_MD t_MD t_MD_ok n_MD hown F.2.1 hP hD hS 0 rfl rfl 0 (by decide) (ht _ tw_470) (fun _ h9 => h9) rfl (by decide +kernel) rfl rfl (Nat.le_of_ble_eq_true rfl) d_MD_least_6 (fun H locs hP hD hS => ?_)
  have hP : va_P g.1 cl (MW g ma (nI 1) tb hm oo kp td tt ct fd os oq vs sk ++ X) H := hP
  have hD : va_D (gA g) (MW g ma (nI 1) tb hm oo kp td tt ct fd os oq vs sk ++ X) := hD
  refine lv_iconst (v := nI 0) hx hb d_MD_least_9 (by decide) ?_
  refine lv_istore_n (lv' := [(2, .int (nI 0)), (0, .ref (ma 0)), (1, .int a)]) hx hb d_MD_least_10 rfl hl (by decide) rfl (fun ls hl => ?_)
  refine lv_iload_n hx hb d_MD_least_11 rfl (lv_at hl 0 rfl) ?_
  refine lv_bipush (v := nI 64) hx hb d_MD_least_12 (by decide) ?_
  refine rc_ge (tgt := 45) hx hb (by omega) (by omega) d_MD_least_14 (by decide) (fun c14 => ?_) (fun c14 => ?_)
  · exact (by omega : False).elim
  · refine lv_aload_n hx hb d_MD_least_17 rfl (lv_at hl 1 rfl) ?_
    refine va_get (ci := 4) (v := .int (nI 1)) (C := R_MD) (T := T_MD) (N := 13) hx hb ht i_MD hown F.2.1 hP 0 rfl rfl 0 (by decide) (ht _ tw_470) (fun _ h9 => h9) rfl d_MD_least_18 ?_
    refine rz_ne (tgt := 45) hx hb (by omega) d_MD_least_21 (by decide) (fun c21 => ?_) (fun c21 => ?_)
    · refine lv_aload_n hx hb d_MD_least_45 rfl (lv_at hl 1 rfl) ?_
      refine va_get (ci := 4) (v := .int (nI 1)) (C := R_MD) (T := T_MD) (N := 13) hx hb ht i_MD hown F.2.1 hP 0 rfl rfl 0 (by decide) (ht _ tw_470) (fun _ h9 => h9) rfl d_MD_least_46 ?_
      refine rz_ne (tgt := 56) hx hb (by omega) d_MD_least_49 (by decide) (fun c49 => ?_) (fun c49 => ?_)
      · refine lv_iconst (v := nI 0) hx hb d_MD_least_56 (by decide) ?_
        exact W.iret (v := nI 0) hx hb hr (fun t9 e1 hW => ⟨⟨_, (), rfl, rfl, PR.at F hP hD hS e1 hW.alike⟩, hS.F e1⟩) hS.2.2 d_MD_least_57
      · exact (by omega : False).elim
    · exact (by omega : False).elim
set_option maxRecDepth 100000 in
set_option maxHeartbeats 4000000 in
theorem c2_MD_least (l : Launch) (g : Gx) (ma : Nat → Nat) (cd : Int32) (tb : Nat → Int64) (hm : Nat → Int32) (oo : Nat → Int32) (kp : Nat → Int32) (td : Int32) (tt : Nat → Int32) (ct : Int32) (fd : Nat → Int64) (os : Int32) (oq : Nat → Int32) (vs : Int32) (sk : Nat → Int64) (X : va_W) (a : Nat) (g_a : a < 8) (e_a : hm a = 0) : Met l y_MD_least (w_MD_least :: TW) rm_MD_least (va_Pc [.ref (ma 0), .int (nI a)] (PR g (MW g ma cd tb hm oo kp td tt ct fd os oq vs sk ++ X))) (va_Qi (fun r9 (u9 : Unit) => r9 = nI 0) (fun u9 t9 => PR g (MW g ma (nI 2) tb hm oo kp td tt ct fd os oq vs sk ++ X) t9) (gA g)) 0 0 (gA g) := by
  refine mt_of (by decide) (Nat.le_of_ble_eq_true rfl) ?_
  intro p e s m below meth c ls hx hb hr hml hlk hown ht hnm F hP hD hl
  have hl : lv_has ls 3 [(0, .ref (ma 0)), (1, .int (nI a))] := hl
  have hS : va_S (gA g) s.heap s.heap [] := va_S.rf
  refine lv_aload_n hx hb d_MD_least_0 rfl (lv_at hl 0 rfl) ?_
  refine lv_aload_n hx hb d_MD_least_1 rfl (lv_at hl 0 rfl) ?_
  refine lv_iload_n hx hb d_MD_least_2 rfl (lv_at hl 1 rfl) ?_
  refine pc_Vi (q0 := 0) (As := [.int (nI a)]) (rest := [.ref (ma 0)]) hx hb (hml.trans hl.1.symm) hown ht F hP hD hS (c2_MD_lack l g ma cd tb hm oo kp td tt ct fd os oq vs sk X a (by omega) e_a) v_MD_lack tw_601 ⟨rfl, rfl⟩ ⟨by decide, by decide⟩ rfl rfl rfl rfl (Nat.le_of_ble_eq_true rfl) ⟨Nat.zero_le _, Nat.zero_le _⟩ d_MD_least_3 (fun r9 u9 H locs hq hP hD hS => ?_)
  subst hq
  refine va_put (ci := 4) (v := .int (nI 2)) (ty := .int) (C := R_MD) (T := T_MD) (N := 13) hx hb ht i_MD t_MD t_MD_ok n_MD hown F.2.1 hP hD hS 0 rfl rfl 0 (by decide) (ht _ tw_470) (fun _ h9 => h9) rfl (by decide +kernel) rfl rfl (Nat.le_of_ble_eq_true rfl) d_MD_least_6 (fun H locs hP hD hS => ?_)
  have hP : va_P g.1 cl (MW g ma (nI 2) tb hm oo kp td tt ct fd os oq vs sk ++ X) H := hP
  have hD : va_D (gA g) (MW g ma (nI 2) tb hm oo kp td tt ct fd os oq vs sk ++ X) := hD
  refine lv_iconst (v := nI 0) hx hb d_MD_least_9 (by decide) ?_
  refine lv_istore_n (lv' := [(2, .int (nI 0)), (0, .ref (ma 0)), (1, .int (nI a))]) hx hb d_MD_least_10 rfl hl (by decide) rfl (fun ls hl => ?_)
  refine lv_iload_n hx hb d_MD_least_11 rfl (lv_at hl 0 rfl) ?_
  refine lv_bipush (v := nI 64) hx hb d_MD_least_12 (by decide) ?_
  refine rc_ge (tgt := 45) hx hb (by omega) (by omega) d_MD_least_14 (by decide) (fun c14 => ?_) (fun c14 => ?_)
  · exact (by omega : False).elim
  · refine lv_aload_n hx hb d_MD_least_17 rfl (lv_at hl 1 rfl) ?_
    refine va_get (ci := 4) (v := .int (nI 2)) (C := R_MD) (T := T_MD) (N := 13) hx hb ht i_MD hown F.2.1 hP 0 rfl rfl 0 (by decide) (ht _ tw_470) (fun _ h9 => h9) rfl d_MD_least_18 ?_
    refine rz_ne (tgt := 45) hx hb (by omega) d_MD_least_21 (by decide) (fun c21 => ?_) (fun c21 => ?_)
    · refine lv_aload_n hx hb d_MD_least_45 rfl (lv_at hl 1 rfl) ?_
      refine va_get (ci := 4) (v := .int (nI 2)) (C := R_MD) (T := T_MD) (N := 13) hx hb ht i_MD hown F.2.1 hP 0 rfl rfl 0 (by decide) (ht _ tw_470) (fun _ h9 => h9) rfl d_MD_least_46 ?_
      refine rz_ne (tgt := 56) hx hb (by omega) d_MD_least_49 (by decide) (fun c49 => ?_) (fun c49 => ?_)
      · refine lv_iconst (v := nI 0) hx hb d_MD_least_56 (by decide) ?_
        exact W.iret (v := nI 0) hx hb hr (fun t9 e1 hW => ⟨⟨_, (), rfl, rfl, PR.at F hP hD hS e1 hW.alike⟩, hS.F e1⟩) hS.2.2 d_MD_least_57
      · exact (by omega : False).elim
    · exact (by omega : False).elim
set_option maxRecDepth 100000 in
set_option maxHeartbeats 4000000 in
theorem c_MD_support (l : Launch) (g : Gx) (ma : Nat → Nat) (cd : Int32) (tb : Nat → Int64) (hm : Nat → Int32) (oo : Nat → Int32) (kp : Nat → Int32) (td : Int32) (tt : Nat → Int32) (ct : Int32) (fd : Nat → Int64) (os : Int32) (oq : Nat → Int32) (vs : Int32) (sk : Nat → Int64) (X : va_W) (a : Nat) (g_a : a < 8) (e_a : hm a = 1) : Met l y_MD_support (w_MD_support :: TW) rm_MD_support (va_Pc [.ref (ma 0), .int (nI a)] (PR g (MW g ma cd tb hm oo kp td tt ct fd os oq vs sk ++ X))) (va_Qi (fun r9 (u9 : Unit) => r9 = spF (tb a) 6) (fun u9 t9 => PR g (MW g ma (nI 0) tb hm oo kp td tt ct fd os oq vs sk ++ X) t9) (gA g)) 0 0 (gA g) := by
  refine mt_of (by decide) (Nat.le_of_ble_eq_true rfl) ?_
  intro p e s m below meth c ls hx hb hr hml hlk hown ht hnm F hP hD hl
  have hl : lv_has ls 4 [(0, .ref (ma 0)), (1, .int (nI a))] := hl
  have hS : va_S (gA g) s.heap s.heap [] := va_S.rf
  refine lv_aload_n hx hb d_MD_support_0 rfl (lv_at hl 0 rfl) ?_
  refine lv_aload_n hx hb d_MD_support_1 rfl (lv_at hl 0 rfl) ?_
  refine lv_iload_n hx hb d_MD_support_2 rfl (lv_at hl 1 rfl) ?_
  refine pc_Vi (q0 := 0) (As := [.int (nI a)]) (rest := [.ref (ma 0)]) hx hb (hml.trans hl.1.symm) hown ht F hP hD hS (c_MD_lack l g ma cd tb hm oo kp td tt ct fd os oq vs sk X a (by omega) e_a) v_MD_lack tw_601 ⟨rfl, rfl⟩ ⟨by decide, by decide⟩ rfl rfl rfl rfl (Nat.le_of_ble_eq_true rfl) ⟨Nat.zero_le _, Nat.zero_le _⟩ d_MD_support_3 (fun r9 u9 H locs hq hP hD hS => ?_)
  subst hq
  refine va_put (ci := 4) (v := .int (nI 0)) (ty := .int) (C := R_MD) (T := T_MD) (N := 13) hx hb ht i_MD t_MD t_MD_ok n_MD hown F.2.1 hP hD hS 0 rfl rfl 0 (by decide) (ht _ tw_470) (fun _ h9 => h9) rfl (by decide +kernel) rfl rfl (Nat.le_of_ble_eq_true rfl) d_MD_support_6 (fun H locs hP hD hS => ?_)
  have hP : va_P g.1 cl (MW g ma (nI 0) tb hm oo kp td tt ct fd os oq vs sk ++ X) H := hP
  have hD : va_D (gA g) (MW g ma (nI 0) tb hm oo kp td tt ct fd os oq vs sk ++ X) := hD
  refine lv_iconst (v := nI 0) hx hb d_MD_support_9 (by decide) ?_
  refine lv_istore_n (lv' := [(2, .int (nI 0)), (0, .ref (ma 0)), (1, .int (nI a))]) hx hb d_MD_support_10 rfl hl (by decide) rfl (fun ls hl => ?_)
  refine lv_iconst (v := nI 0) hx hb d_MD_support_11 (by decide) ?_
  refine lv_istore_n (lv' := [(3, .int (nI 0)), (2, .int (nI 0)), (0, .ref (ma 0)), (1, .int (nI a))]) hx hb d_MD_support_12 rfl hl (by decide) rfl (fun ls hl => ?_)
  have lp13 : ∀ (j13 : Nat) (i : Nat) (H : Heap) (locs : List Loc) (ls : Array Slot), i + j13 = 6 → va_P g.1 cl (MW g ma (nI 0) tb hm oo kp td tt ct fd os oq vs sk ++ X) H → va_D (gA g) (MW g ma (nI 0) tb hm oo kp td tt ct fd os oq vs sk ++ X) → va_S (gA g) s.heap H locs → lv_has ls 4 [(3, .int (nI i)), (2, .int (spF (tb a) i)), (0, .ref (ma 0)), (1, .int (nI a))] → W p l e rm_MD_support s m [.ref (ma 0), .int (nI a)].toArray below meth c H locs 0 0 (MQ below (va_Qi (fun r9 (u9 : Unit) => r9 = spF (tb a) 6) (fun u9 t9 => PR g (MW g ma (nI 0) tb hm oo kp td tt ct fd os oq vs sk ++ X) t9) (gA g)) [.ref (ma 0), .int (nI a)].toArray s 0 0 (gA g)) (F0 m 13 ls []) := by
    intro j13
    induction j13 with
    | zero =>
      intro i H locs ls hj13 hP hD hS hl
      refine lv_iload_n hx hb d_MD_support_13 rfl (lv_at hl 0 rfl) ?_
      refine lv_bipush (v := nI 6) hx hb d_MD_support_14 (by decide) ?_
      refine rc_ge (tgt := 55) hx hb (by omega) (by omega) d_MD_support_16 (by decide) (fun c16 => ?_) (fun c16 => ?_)
      · refine lv_iload_n hx hb d_MD_support_55 rfl (lv_at hl 1 rfl) ?_
        exact W.iret (v := spF (tb a) i) hx hb hr (fun t9 e1 hW => ⟨⟨_, (), rfl, (by rw [show i = 6 by omega]), PR.at F hP hD hS e1 hW.alike⟩, hS.F e1⟩) hS.2.2 d_MD_support_56
      · exact (by omega : False).elim
    | succ j13 ih13 =>
      intro i H locs ls hj13 hP hD hS hl
      refine lv_iload_n hx hb d_MD_support_13 rfl (lv_at hl 0 rfl) ?_
      refine lv_bipush (v := nI 6) hx hb d_MD_support_14 (by decide) ?_
      refine rc_ge (tgt := 55) hx hb (by omega) (by omega) d_MD_support_16 (by decide) (fun c16 => ?_) (fun c16 => ?_)
      · exact (by omega : False).elim
      · refine lv_aload_n hx hb d_MD_support_19 rfl (lv_at hl 2 rfl) ?_
        refine va_get (ci := 4) (v := .int (nI 0)) (C := R_MD) (T := T_MD) (N := 13) hx hb ht i_MD hown F.2.1 hP 0 rfl rfl 0 (by decide) (ht _ tw_470) (fun _ h9 => h9) rfl d_MD_support_20 ?_
        refine rz_ne (tgt := 55) hx hb (by omega) d_MD_support_23 (by decide) (fun c23 => ?_) (fun c23 => ?_)
        · exact (by omega : False).elim
        · refine lv_aload_n hx hb d_MD_support_26 rfl (lv_at hl 2 rfl) ?_
          refine va_get (ci := 4) (v := .ref (ma 1)) (C := R_MD) (T := T_MD) (N := 13) hx hb ht i_MD hown F.2.1 hP 0 rfl rfl 1 (by decide) (ht _ tw_471) (fun _ h9 => h9) rfl d_MD_support_27 ?_
          refine lv_iload_n hx hb d_MD_support_30 rfl (lv_at hl 3 rfl) ?_
          refine ra_J hx hb F hP 1 rfl (by omega) (by decide) d_MD_support_31 ?_
          refine lv_iload_n hx hb d_MD_support_32 rfl (lv_at hl 0 rfl) ?_
          refine pc_Si (As := [.long (tb a), .int (nI i)]) (rest := []) hx hb (hml.trans hl.1.symm) hown ht F hP hD hS (c_MD_depends l g (MW g ma (nI 0) tb hm oo kp td tt ct fd os oq vs sk ++ X) (tb a) i (by omega)) v_MD_depends tw_613 ⟨rfl, rfl⟩ ⟨by decide, by decide⟩ rfl rfl (Nat.le_of_ble_eq_true rfl) ⟨Nat.zero_le _, Nat.zero_le _⟩ d_MD_support_33 (fun r9 u9 H locs hq hP hD hS => ?_)
          subst hq
          refine lv_if_eq (tgt := 47) hx hb d_MD_support_36 (by decide) (fun c36 => ?_) (fun c36 => ?_)
          · refine lv_iload_n hx hb d_MD_support_47 rfl (lv_at hl 1 rfl) ?_
            refine lv_istore_n (lv' := [(2, .int (spF (tb a) i)), (3, .int (nI i)), (0, .ref (ma 0)), (1, .int (nI a))]) hx hb d_MD_support_48 rfl hl (by decide) rfl (fun ls hl => ?_)
            refine lv_iinc (lv' := [(3, .int (nI (i + 1))), (2, .int (spF (tb a) i)), (0, .ref (ma 0)), (1, .int (nI a))]) hx hb d_MD_support_49 hl (k := 1) rfl (nI_1 _) (by decide) rfl (fun ls hl => ?_)
            refine lv_goto (tgt := 13) hx hb d_MD_support_52 (by decide) ?_
            have hl := lv_sub hl [0, 1, 2, 3] rfl
            have hl : lv_has ls 4 [(3, .int (nI ((i + 1)))), (2, .int (spF (tb a) (i + 1))), (0, .ref (ma 0)), (1, .int (nI a))] := by rw [show spF (tb a) (i + 1) = _ from if_pos (bI_nn c36).symm]; exact hl
            exact ih13 (i + 1) H locs ls (by omega)  hP hD hS hl
          · refine lv_iload_n hx hb d_MD_support_39 rfl (lv_at hl 1 rfl) ?_
            refine lv_iconst (v := nI 1) hx hb d_MD_support_40 (by decide) ?_
            refine lv_iload_n hx hb d_MD_support_41 rfl (lv_at hl 0 rfl) ?_
            refine lv_ishl hx hb d_MD_support_42 ?_
            refine lv_ior hx hb d_MD_support_43 ?_
            refine lv_goto (tgt := 48) hx hb d_MD_support_44 (by decide) ?_
            refine lv_istore_n (lv' := [(2, .int ((spF (tb a) i) ||| ((nI 1) <<< (nI i &&& 31)))), (3, .int (nI i)), (0, .ref (ma 0)), (1, .int (nI a))]) hx hb d_MD_support_48 rfl hl (by decide) rfl (fun ls hl => ?_)
            refine lv_iinc (lv' := [(3, .int (nI (i + 1))), (2, .int ((spF (tb a) i) ||| ((nI 1) <<< (nI i &&& 31)))), (0, .ref (ma 0)), (1, .int (nI a))]) hx hb d_MD_support_49 hl (k := 1) rfl (nI_1 _) (by decide) rfl (fun ls hl => ?_)
            refine lv_goto (tgt := 13) hx hb d_MD_support_52 (by decide) ?_
            have hl := lv_sub hl [0, 1, 2, 3] rfl
            have hl : lv_has ls 4 [(3, .int (nI ((i + 1)))), (2, .int (spF (tb a) (i + 1))), (0, .ref (ma 0)), (1, .int (nI a))] := by rw [show spF (tb a) (i + 1) = _ from if_neg (fun h => bI_n0 c36 h.symm)]; exact hl
            exact ih13 (i + 1) H locs ls (by omega)  hP hD hS hl
  have hl := lv_sub hl [0, 1, 2, 3] rfl
  have hl : lv_has ls 4 [(3, .int (nI 0)), (2, .int (spF (tb a) 0)), (0, .ref (ma 0)), (1, .int (nI a))] := hl
  exact lp13 (6 - 0) 0 _ _ ls (by omega)  hP hD hS hl
set_option maxRecDepth 100000 in
set_option maxHeartbeats 4000000 in
theorem c1_MD_support (l : Launch) (g : Gx) (ma : Nat → Nat) (cd : Int32) (tb : Nat → Int64) (hm : Nat → Int32) (oo : Nat → Int32) (kp : Nat → Int32) (td : Int32) (tt : Nat → Int32) (ct : Int32) (fd : Nat → Int64) (os : Int32) (oq : Nat → Int32) (vs : Int32) (sk : Nat → Int64) (X : va_W) (a : Int32) (hbad : ¬ (inR a 8)) : Met l y_MD_support (w_MD_support :: TW) rm_MD_support (va_Pc [.ref (ma 0), .int a] (PR g (MW g ma cd tb hm oo kp td tt ct fd os oq vs sk ++ X))) (va_Qi (fun r9 (u9 : Unit) => r9 = nI 0) (fun u9 t9 => PR g (MW g ma (nI 1) tb hm oo kp td tt ct fd os oq vs sk ++ X) t9) (gA g)) 0 0 (gA g) := by
  refine mt_of (by decide) (Nat.le_of_ble_eq_true rfl) ?_
  intro p e s m below meth c ls hx hb hr hml hlk hown ht hnm F hP hD hl
  have hl : lv_has ls 4 [(0, .ref (ma 0)), (1, .int a)] := hl
  have hS : va_S (gA g) s.heap s.heap [] := va_S.rf
  refine lv_aload_n hx hb d_MD_support_0 rfl (lv_at hl 0 rfl) ?_
  refine lv_aload_n hx hb d_MD_support_1 rfl (lv_at hl 0 rfl) ?_
  refine lv_iload_n hx hb d_MD_support_2 rfl (lv_at hl 1 rfl) ?_
  refine pc_Vi (q0 := 0) (As := [.int a]) (rest := [.ref (ma 0)]) hx hb (hml.trans hl.1.symm) hown ht F hP hD hS (c1_MD_lack l g ma cd tb hm oo kp td tt ct fd os oq vs sk X a hbad) v_MD_lack tw_601 ⟨rfl, rfl⟩ ⟨by decide, by decide⟩ rfl rfl rfl rfl (Nat.le_of_ble_eq_true rfl) ⟨Nat.zero_le _, Nat.zero_le _⟩ d_MD_support_3 (fun r9 u9 H locs hq hP hD hS => ?_)
  subst hq
  refine va_put (ci := 4) (v := .int (nI 1)) (ty := .int) (C := R_MD) (T := T_MD) (N := 13) hx hb ht i_MD t_MD t_MD_ok n_MD hown F.2.1 hP hD hS 0 rfl rfl 0 (by decide) (ht _ tw_470) (fun _ h9 => h9) rfl (by decide +kernel) rfl rfl (Nat.le_of_ble_eq_true rfl) d_MD_support_6 (fun H locs hP hD hS => ?_)
  have hP : va_P g.1 cl (MW g ma (nI 1) tb hm oo kp td tt ct fd os oq vs sk ++ X) H := hP
  have hD : va_D (gA g) (MW g ma (nI 1) tb hm oo kp td tt ct fd os oq vs sk ++ X) := hD
  refine lv_iconst (v := nI 0) hx hb d_MD_support_9 (by decide) ?_
  refine lv_istore_n (lv' := [(2, .int (nI 0)), (0, .ref (ma 0)), (1, .int a)]) hx hb d_MD_support_10 rfl hl (by decide) rfl (fun ls hl => ?_)
  refine lv_iconst (v := nI 0) hx hb d_MD_support_11 (by decide) ?_
  refine lv_istore_n (lv' := [(3, .int (nI 0)), (2, .int (nI 0)), (0, .ref (ma 0)), (1, .int a)]) hx hb d_MD_support_12 rfl hl (by decide) rfl (fun ls hl => ?_)
  refine lv_iload_n hx hb d_MD_support_13 rfl (lv_at hl 0 rfl) ?_
  refine lv_bipush (v := nI 6) hx hb d_MD_support_14 (by decide) ?_
  refine rc_ge (tgt := 55) hx hb (by omega) (by omega) d_MD_support_16 (by decide) (fun c16 => ?_) (fun c16 => ?_)
  · exact (by omega : False).elim
  · refine lv_aload_n hx hb d_MD_support_19 rfl (lv_at hl 2 rfl) ?_
    refine va_get (ci := 4) (v := .int (nI 1)) (C := R_MD) (T := T_MD) (N := 13) hx hb ht i_MD hown F.2.1 hP 0 rfl rfl 0 (by decide) (ht _ tw_470) (fun _ h9 => h9) rfl d_MD_support_20 ?_
    refine rz_ne (tgt := 55) hx hb (by omega) d_MD_support_23 (by decide) (fun c23 => ?_) (fun c23 => ?_)
    · refine lv_iload_n hx hb d_MD_support_55 rfl (lv_at hl 1 rfl) ?_
      exact W.iret (v := nI 0) hx hb hr (fun t9 e1 hW => ⟨⟨_, (), rfl, rfl, PR.at F hP hD hS e1 hW.alike⟩, hS.F e1⟩) hS.2.2 d_MD_support_56
    · exact (by omega : False).elim
set_option maxRecDepth 100000 in
set_option maxHeartbeats 4000000 in
theorem c2_MD_support (l : Launch) (g : Gx) (ma : Nat → Nat) (cd : Int32) (tb : Nat → Int64) (hm : Nat → Int32) (oo : Nat → Int32) (kp : Nat → Int32) (td : Int32) (tt : Nat → Int32) (ct : Int32) (fd : Nat → Int64) (os : Int32) (oq : Nat → Int32) (vs : Int32) (sk : Nat → Int64) (X : va_W) (a : Nat) (g_a : a < 8) (e_a : hm a = 0) : Met l y_MD_support (w_MD_support :: TW) rm_MD_support (va_Pc [.ref (ma 0), .int (nI a)] (PR g (MW g ma cd tb hm oo kp td tt ct fd os oq vs sk ++ X))) (va_Qi (fun r9 (u9 : Unit) => r9 = nI 0) (fun u9 t9 => PR g (MW g ma (nI 2) tb hm oo kp td tt ct fd os oq vs sk ++ X) t9) (gA g)) 0 0 (gA g) := by
  refine mt_of (by decide) (Nat.le_of_ble_eq_true rfl) ?_
  intro p e s m below meth c ls hx hb hr hml hlk hown ht hnm F hP hD hl
  have hl : lv_has ls 4 [(0, .ref (ma 0)), (1, .int (nI a))] := hl
  have hS : va_S (gA g) s.heap s.heap [] := va_S.rf
  refine lv_aload_n hx hb d_MD_support_0 rfl (lv_at hl 0 rfl) ?_
  refine lv_aload_n hx hb d_MD_support_1 rfl (lv_at hl 0 rfl) ?_
  refine lv_iload_n hx hb d_MD_support_2 rfl (lv_at hl 1 rfl) ?_
  refine pc_Vi (q0 := 0) (As := [.int (nI a)]) (rest := [.ref (ma 0)]) hx hb (hml.trans hl.1.symm) hown ht F hP hD hS (c2_MD_lack l g ma cd tb hm oo kp td tt ct fd os oq vs sk X a (by omega) e_a) v_MD_lack tw_601 ⟨rfl, rfl⟩ ⟨by decide, by decide⟩ rfl rfl rfl rfl (Nat.le_of_ble_eq_true rfl) ⟨Nat.zero_le _, Nat.zero_le _⟩ d_MD_support_3 (fun r9 u9 H locs hq hP hD hS => ?_)
  subst hq
  refine va_put (ci := 4) (v := .int (nI 2)) (ty := .int) (C := R_MD) (T := T_MD) (N := 13) hx hb ht i_MD t_MD t_MD_ok n_MD hown F.2.1 hP hD hS 0 rfl rfl 0 (by decide) (ht _ tw_470) (fun _ h9 => h9) rfl (by decide +kernel) rfl rfl (Nat.le_of_ble_eq_true rfl) d_MD_support_6 (fun H locs hP hD hS => ?_)
  have hP : va_P g.1 cl (MW g ma (nI 2) tb hm oo kp td tt ct fd os oq vs sk ++ X) H := hP
  have hD : va_D (gA g) (MW g ma (nI 2) tb hm oo kp td tt ct fd os oq vs sk ++ X) := hD
  refine lv_iconst (v := nI 0) hx hb d_MD_support_9 (by decide) ?_
  refine lv_istore_n (lv' := [(2, .int (nI 0)), (0, .ref (ma 0)), (1, .int (nI a))]) hx hb d_MD_support_10 rfl hl (by decide) rfl (fun ls hl => ?_)
  refine lv_iconst (v := nI 0) hx hb d_MD_support_11 (by decide) ?_
  refine lv_istore_n (lv' := [(3, .int (nI 0)), (2, .int (nI 0)), (0, .ref (ma 0)), (1, .int (nI a))]) hx hb d_MD_support_12 rfl hl (by decide) rfl (fun ls hl => ?_)
  refine lv_iload_n hx hb d_MD_support_13 rfl (lv_at hl 0 rfl) ?_
  refine lv_bipush (v := nI 6) hx hb d_MD_support_14 (by decide) ?_
  refine rc_ge (tgt := 55) hx hb (by omega) (by omega) d_MD_support_16 (by decide) (fun c16 => ?_) (fun c16 => ?_)
  · exact (by omega : False).elim
  · refine lv_aload_n hx hb d_MD_support_19 rfl (lv_at hl 2 rfl) ?_
    refine va_get (ci := 4) (v := .int (nI 2)) (C := R_MD) (T := T_MD) (N := 13) hx hb ht i_MD hown F.2.1 hP 0 rfl rfl 0 (by decide) (ht _ tw_470) (fun _ h9 => h9) rfl d_MD_support_20 ?_
    refine rz_ne (tgt := 55) hx hb (by omega) d_MD_support_23 (by decide) (fun c23 => ?_) (fun c23 => ?_)
    · refine lv_iload_n hx hb d_MD_support_55 rfl (lv_at hl 1 rfl) ?_
      exact W.iret (v := nI 0) hx hb hr (fun t9 e1 hW => ⟨⟨_, (), rfl, rfl, PR.at F hP hD hS e1 hW.alike⟩, hS.F e1⟩) hS.2.2 d_MD_support_56
    · exact (by omega : False).elim
set_option maxRecDepth 100000 in
set_option maxHeartbeats 4000000 in
theorem c_MD_type (l : Launch) (g : Gx) (ma : Nat → Nat) (cd : Int32) (tb : Nat → Int64) (hm : Nat → Int32) (oo : Nat → Int32) (kp : Nat → Int32) (ct : Int32) (fd : Nat → Int64) (os : Int32) (oq : Nat → Int32) (vs : Int32) (sk : Nat → Int64) (X : va_W) (tx : Nat → Nat) (k0 : Nat) (x : Int64) (n : Nat) (h1 : 1 ≤ n) (h2 : n ≤ 8) (h3 : k0 + n ≤ 40) : Met l y_MD_type (w_MD_type :: TW) rm_MD_type (va_Pc [.ref (ma 0), .long x, .int (nI n)] (PR g (MW g ma cd tb hm oo kp (nI k0) (nF tx) ct fd os oq vs sk ++ X))) (va_Qi (fun r9 (u9 : Unit) => r9 = nI (k0 + n)) (fun u9 t9 => PR g (MW g ma (nI 0) tb hm oo kp (nI (k0 + n)) (nF (tyW tx k0 x n)) ct fd os oq vs sk ++ X) t9) (gA g)) 0 0 (gA g) := by
  refine mt_of (by decide) (Nat.le_of_ble_eq_true rfl) ?_
  intro p e s m below meth c ls hx hb hr hml hlk hown ht hnm F hP hD hl
  have hl : lv_has ls 5 [(0, .ref (ma 0)), (1, .long x), (3, .int (nI n))] := hl
  have hS : va_S (gA g) s.heap s.heap [] := va_S.rf
  refine lv_aload_n hx hb d_MD_type_0 rfl (lv_at hl 0 rfl) ?_
  refine lv_iload_n hx hb d_MD_type_1 rfl (lv_at hl 2 rfl) ?_
  refine lv_iconst (v := nI 1) hx hb d_MD_type_2 (by decide) ?_
  refine lv_bipush (v := nI 8) hx hb d_MD_type_3 (by decide) ?_
  refine pc_Si (As := [.int (nI n), .int (nI 1), .int (nI 8)]) (rest := [.ref (ma 0)]) hx hb (hml.trans hl.1.symm) hown ht F hP hD hS (c_MD_within l g (MW g ma cd tb hm oo kp (nI k0) (nF tx) ct fd os oq vs sk ++ X) n 1 8 (by omega) (by omega) (by omega)) v_MD_within tw_521 ⟨rfl, rfl⟩ ⟨by decide, by decide⟩ rfl rfl (Nat.le_of_ble_eq_true rfl) ⟨Nat.zero_le _, Nat.zero_le _⟩ d_MD_type_5 (fun r9 u9 H locs hq hP hD hS => ?_)
  subst hq
  refine rz_eq (tgt := 26) hx hb (by omega) d_MD_type_8 (by decide) (fun c8 => ?_) (fun c8 => ?_)
  · exact (by omega : False).elim
  · refine lv_aload_n hx hb d_MD_type_11 rfl (lv_at hl 0 rfl) ?_
    refine va_get (ci := 4) (v := .int (nI k0)) (C := R_MD) (T := T_MD) (N := 13) hx hb ht i_MD hown F.2.1 hP 0 rfl rfl 5 (by decide) (ht _ tw_475) (fun _ h9 => h9) rfl d_MD_type_12 ?_
    refine lv_iload_n hx hb d_MD_type_15 rfl (lv_at hl 2 rfl) ?_
    refine rn_add hx hb d_MD_type_16 ?_
    refine lv_bipush (v := nI 40) hx hb d_MD_type_17 (by decide) ?_
    refine rc_gt (tgt := 26) hx hb (by omega) (by omega) d_MD_type_19 (by decide) (fun c19 => ?_) (fun c19 => ?_)
    · exact (by omega : False).elim
    · refine lv_iconst (v := nI 0) hx hb d_MD_type_22 (by decide) ?_
      refine lv_goto (tgt := 27) hx hb d_MD_type_23 (by decide) ?_
      refine va_put (ci := 4) (v := .int (nI 0)) (ty := .int) (C := R_MD) (T := T_MD) (N := 13) hx hb ht i_MD t_MD t_MD_ok n_MD hown F.2.1 hP hD hS 0 rfl rfl 0 (by decide) (ht _ tw_470) (fun _ h9 => h9) rfl (by decide +kernel) rfl rfl (Nat.le_of_ble_eq_true rfl) d_MD_type_27 (fun H locs hP hD hS => ?_)
      have hP : va_P g.1 cl (MW g ma (nI 0) tb hm oo kp (nI k0) (nF tx) ct fd os oq vs sk ++ X) H := hP
      have hD : va_D (gA g) (MW g ma (nI 0) tb hm oo kp (nI k0) (nF tx) ct fd os oq vs sk ++ X) := hD
      refine lv_aload_n hx hb d_MD_type_30 rfl (lv_at hl 0 rfl) ?_
      refine va_get (ci := 4) (v := .int (nI 0)) (C := R_MD) (T := T_MD) (N := 13) hx hb ht i_MD hown F.2.1 hP 0 rfl rfl 0 (by decide) (ht _ tw_470) (fun _ h9 => h9) rfl d_MD_type_31 ?_
      refine rz_le (tgt := 39) hx hb (by omega) d_MD_type_34 (by decide) (fun c34 => ?_) (fun c34 => ?_)
      · refine lv_iload_n hx hb d_MD_type_39 rfl (lv_at hl 2 rfl) ?_
        refine lv_iconst (v := nI 1) hx hb d_MD_type_40 (by decide) ?_
        refine rn_sub hx hb (by omega) d_MD_type_41 ?_
        refine lv_istore (lv' := [(4, .int (nI (n - 1))), (0, .ref (ma 0)), (1, .long x), (3, .int (nI n))]) hx hb d_MD_type_42 hl (by decide) rfl (fun ls hl => ?_)
        have lp44 : ∀ (j44 : Nat) (tx1 : Nat → Nat) (t1 : Nat) (H : Heap) (locs : List Loc) (ls : Array Slot), t1 + j44 = (k0 + n) → (j44 ≤ 8) → (tyW tx1 t1 x j44 = tyW tx k0 x n) → va_P g.1 cl (MW g ma (nI 0) tb hm oo kp (nI t1) (nF tx1) ct fd os oq vs sk ++ X) H → va_D (gA g) (MW g ma (nI 0) tb hm oo kp (nI t1) (nF tx1) ct fd os oq vs sk ++ X) → va_S (gA g) s.heap H locs → lv_has ls 5 [(4, .int (nI j44 + (-1))), (0, .ref (ma 0)), (1, .long x), (3, .int (nI n))] → W p l e rm_MD_type s m [.ref (ma 0), .long x, .int (nI n)].toArray below meth c H locs 0 0 (MQ below (va_Qi (fun r9 (u9 : Unit) => r9 = nI (k0 + n)) (fun u9 t9 => PR g (MW g ma (nI 0) tb hm oo kp (nI (k0 + n)) (nF (tyW tx k0 x n)) ct fd os oq vs sk ++ X) t9) (gA g)) [.ref (ma 0), .long x, .int (nI n)].toArray s 0 0 (gA g)) (F0 m 44 ls []) := by
          intro j44
          induction j44 with
          | zero =>
            intro tx1 t1 H locs ls hj44 q0 q1 hP hD hS hl
            refine lv_iload hx hb d_MD_type_44 (lv_at hl 0 rfl) ?_
            refine lv_if_lt (tgt := 86) hx hb d_MD_type_46 (by decide) (fun c46 => ?_) (fun c46 => ?_)
            · refine lv_aload_n hx hb d_MD_type_86 rfl (lv_at hl 1 rfl) ?_
              refine va_get (ci := 4) (v := .int (nI t1)) (C := R_MD) (T := T_MD) (N := 13) hx hb ht i_MD hown F.2.1 hP 0 rfl rfl 5 (by decide) (ht _ tw_475) (fun _ h9 => h9) rfl d_MD_type_87 ?_
              have hP : va_P g.1 cl (MW g ma (nI 0) tb hm oo kp (nI (k0 + n)) (nF (tyW tx k0 x n)) ct fd os oq vs sk ++ X) H := by rw [← q1, show k0 + n = t1 by omega]; exact hP
              have hD : va_D (gA g) (MW g ma (nI 0) tb hm oo kp (nI (k0 + n)) (nF (tyW tx k0 x n)) ct fd os oq vs sk ++ X) := by rw [← q1, show k0 + n = t1 by omega]; exact hD
              exact W.iret (v := nI t1) hx hb hr (fun t9 e1 hW => ⟨⟨_, (), rfl, (by rw [show k0 + n = t1 by omega]), PR.at F hP hD hS e1 hW.alike⟩, hS.F e1⟩) hS.2.2 d_MD_type_90
            · exact absurd (by decide) c46
          | succ j44 ih44 =>
            intro tx1 t1 H locs ls hj44 q0 q1 hP hD hS hl
            have hl : lv_has ls 5 [(4, .int (nI j44)), (0, .ref (ma 0)), (1, .long x), (3, .int (nI n))] := by rw [pk_m1] at hl; exact hl
            refine lv_iload hx hb d_MD_type_44 (lv_at hl 0 rfl) ?_
            refine rz_lt (tgt := 86) hx hb (by omega) d_MD_type_46 (by decide) (fun c46 => ?_) (fun c46 => ?_)
            · exact c46.elim
            · refine lv_aload_n hx hb d_MD_type_49 rfl (lv_at hl 1 rfl) ?_
              refine va_get (ci := 4) (v := .ref (ma 5)) (C := R_MD) (T := T_MD) (N := 13) hx hb ht i_MD hown F.2.1 hP 0 rfl rfl 6 (by decide) (ht _ tw_476) (fun _ h9 => h9) rfl d_MD_type_50 ?_
              refine lv_aload_n hx hb d_MD_type_53 rfl (lv_at hl 1 rfl) ?_
              refine va_get (ci := 4) (v := .int (nI t1)) (C := R_MD) (T := T_MD) (N := 13) hx hb ht i_MD hown F.2.1 hP 0 rfl rfl 5 (by decide) (ht _ tw_475) (fun _ h9 => h9) rfl d_MD_type_54 ?_
              refine lv_lload_n hx hb d_MD_type_57 rfl (lv_at hl 2 rfl) ?_
              refine lv_bipush (v := nI 8) hx hb d_MD_type_58 (by decide) ?_
              refine lv_iload hx hb d_MD_type_60 (lv_at hl 0 rfl) ?_
              refine lv_imul hx hb d_MD_type_62 ?_
              rw [pk_mul]
              refine lv_lshr hx hb d_MD_type_63 rfl ?_
              refine lv_l2i hx hb d_MD_type_64 rfl ?_
              refine lv_sipush (v := nI 255) hx hb d_MD_type_65 (by decide) ?_
              refine lv_iand hx hb d_MD_type_68 ?_
              rw [ch_eqS (by omega)]
              refine wa_I hx hb F hP hD hS 5 rfl (by omega) (by decide) d_MD_type_69 (fun H locs hP hD hS => ?_)
              have hP : va_P g.1 cl (MW g ma (nI 0) tb hm oo kp (nI t1) (upd (nF tx1) t1 (nI (chN x j44))) ct fd os oq vs sk ++ X) H := hP
              have hD : va_D (gA g) (MW g ma (nI 0) tb hm oo kp (nI t1) (upd (nF tx1) t1 (nI (chN x j44))) ct fd os oq vs sk ++ X) := hD
              rw [nF_upd] at hP hD
              have hP : va_P g.1 cl (MW g ma (nI 0) tb hm oo kp (nI t1) (nF (uN tx1 t1 (chN x j44))) ct fd os oq vs sk ++ X) H := hP
              have hD : va_D (gA g) (MW g ma (nI 0) tb hm oo kp (nI t1) (nF (uN tx1 t1 (chN x j44))) ct fd os oq vs sk ++ X) := hD
              refine lv_aload_n hx hb d_MD_type_70 rfl (lv_at hl 1 rfl) ?_
              refine lv_dup hx hb d_MD_type_71 rfl ?_
              refine va_get (ci := 4) (v := .int (nI t1)) (C := R_MD) (T := T_MD) (N := 13) hx hb ht i_MD hown F.2.1 hP 0 rfl rfl 5 (by decide) (ht _ tw_475) (fun _ h9 => h9) rfl d_MD_type_72 ?_
              refine lv_iconst (v := nI 1) hx hb d_MD_type_75 (by decide) ?_
              refine rn_add hx hb d_MD_type_76 ?_
              refine va_put (ci := 4) (v := .int (nI (t1 + 1))) (ty := .int) (C := R_MD) (T := T_MD) (N := 13) hx hb ht i_MD t_MD t_MD_ok n_MD hown F.2.1 hP hD hS 0 rfl rfl 5 (by decide) (ht _ tw_475) (fun _ h9 => h9) rfl (by decide +kernel) rfl rfl (Nat.le_of_ble_eq_true rfl) d_MD_type_77 (fun H locs hP hD hS => ?_)
              have hP : va_P g.1 cl (MW g ma (nI 0) tb hm oo kp (nI (t1 + 1)) (nF (uN tx1 t1 (chN x j44))) ct fd os oq vs sk ++ X) H := hP
              have hD : va_D (gA g) (MW g ma (nI 0) tb hm oo kp (nI (t1 + 1)) (nF (uN tx1 t1 (chN x j44))) ct fd os oq vs sk ++ X) := hD
              refine lv_iinc (lv' := [(4, .int ((nI j44) + (-1))), (0, .ref (ma 0)), (1, .long x), (3, .int (nI n))]) hx hb d_MD_type_80 hl (k := 0) rfl rfl (by decide) rfl (fun ls hl => ?_)
              refine lv_goto (tgt := 44) hx hb d_MD_type_83 (by decide) ?_
              have hl := lv_sub hl [0, 1, 2, 3] rfl
              have hl : lv_has ls 5 [(4, .int (nI j44 + (-1))), (0, .ref (ma 0)), (1, .long x), (3, .int (nI n))] := hl
              have hP : va_P g.1 cl (MW g ma (nI 0) tb hm oo kp (nI (t1 + 1)) (nF (uN tx1 t1 (chN x j44))) ct fd os oq vs sk ++ X) H := hP
              have hD : va_D (gA g) (MW g ma (nI 0) tb hm oo kp (nI (t1 + 1)) (nF (uN tx1 t1 (chN x j44))) ct fd os oq vs sk ++ X) := hD
              exact ih44 (uN tx1 t1 (chN x j44)) (t1 + 1) H locs ls (by omega) (by omega) q1 hP hD hS hl
        have hl := lv_sub hl [0, 1, 2, 3] rfl
        have hl : lv_has ls 5 [(4, .int (nI ((k0 + n) - k0) + (-1))), (0, .ref (ma 0)), (1, .long x), (3, .int (nI n))] := by rw [show nI (k0 + n - k0) + (-1) = nI (n - 1) by rw [show k0 + n - k0 = n by omega]; exact sb_m1 (by omega)]; exact hl
        have hP : va_P g.1 cl (MW g ma (nI 0) tb hm oo kp (nI k0) (nF tx) ct fd os oq vs sk ++ X) H := hP
        have hD : va_D (gA g) (MW g ma (nI 0) tb hm oo kp (nI k0) (nF tx) ct fd os oq vs sk ++ X) := hD
        exact lp44 ((k0 + n) - k0) tx k0 _ _ ls (by omega) (by omega) (by rw [show k0 + n - k0 = n by omega]) hP hD hS hl
      · exact (by omega : False).elim
set_option maxRecDepth 100000 in
set_option maxHeartbeats 4000000 in
theorem c1_MD_type (l : Launch) (g : Gx) (ma : Nat → Nat) (cd : Int32) (tb : Nat → Int64) (hm : Nat → Int32) (oo : Nat → Int32) (kp : Nat → Int32) (tt : Nat → Int32) (ct : Int32) (fd : Nat → Int64) (os : Int32) (oq : Nat → Int32) (vs : Int32) (sk : Nat → Int64) (X : va_W) (k0 : Nat) (x : Int64) (n : Int32) (h1 : k0 ≤ 40) (hbad : ¬ ∃ k, 1 ≤ k ∧ k ≤ 8 ∧ k0 + k ≤ 40 ∧ n = nI k) : Met l y_MD_type (w_MD_type :: TW) rm_MD_type (va_Pc [.ref (ma 0), .long x, .int n] (PR g (MW g ma cd tb hm oo kp (nI k0) tt ct fd os oq vs sk ++ X))) (va_Qi (fun r9 (u9 : Unit) => r9 = nI 0) (fun u9 t9 => PR g (MW g ma (nI 1) tb hm oo kp (nI k0) tt ct fd os oq vs sk ++ X) t9) (gA g)) 0 0 (gA g) := by
  refine mt_of (by decide) (Nat.le_of_ble_eq_true rfl) ?_
  intro p e s m below meth c ls hx hb hr hml hlk hown ht hnm F hP hD hl
  have hl : lv_has ls 5 [(0, .ref (ma 0)), (1, .long x), (3, .int n)] := hl
  have hS : va_S (gA g) s.heap s.heap [] := va_S.rf
  refine lv_aload_n hx hb d_MD_type_0 rfl (lv_at hl 0 rfl) ?_
  refine lv_iload_n hx hb d_MD_type_1 rfl (lv_at hl 2 rfl) ?_
  refine lv_iconst (v := nI 1) hx hb d_MD_type_2 (by decide) ?_
  refine lv_bipush (v := nI 8) hx hb d_MD_type_3 (by decide) ?_
  by_cases q5 : ∃ k, 1 ≤ k ∧ k ≤ 8 ∧ n = nI k
  · obtain ⟨k_n, hk1, hk2, rfl⟩ := q5
    refine pc_Si (As := [.int (nI k_n), .int (nI 1), .int (nI 8)]) (rest := [.ref (ma 0)]) hx hb (hml.trans hl.1.symm) hown ht F hP hD hS (c_MD_within l g (MW g ma cd tb hm oo kp (nI k0) tt ct fd os oq vs sk ++ X) k_n 1 8 (by omega) (by omega) (by omega)) v_MD_within tw_521 ⟨rfl, rfl⟩ ⟨by decide, by decide⟩ rfl rfl (Nat.le_of_ble_eq_true rfl) ⟨Nat.zero_le _, Nat.zero_le _⟩ d_MD_type_5 (fun r9 u9 H locs hq hP hD hS => ?_)
    subst hq
    refine rz_eq (tgt := 26) hx hb (by omega) d_MD_type_8 (by decide) (fun c8 => ?_) (fun c8 => ?_)
    · exact (by omega : False).elim
    · refine lv_aload_n hx hb d_MD_type_11 rfl (lv_at hl 0 rfl) ?_
      refine va_get (ci := 4) (v := .int (nI k0)) (C := R_MD) (T := T_MD) (N := 13) hx hb ht i_MD hown F.2.1 hP 0 rfl rfl 5 (by decide) (ht _ tw_475) (fun _ h9 => h9) rfl d_MD_type_12 ?_
      refine lv_iload_n hx hb d_MD_type_15 rfl (lv_at hl 2 rfl) ?_
      refine rn_add hx hb d_MD_type_16 ?_
      refine lv_bipush (v := nI 40) hx hb d_MD_type_17 (by decide) ?_
      refine rc_gt (tgt := 26) hx hb (by omega) (by omega) d_MD_type_19 (by decide) (fun c19 => ?_) (fun c19 => ?_)
      · refine lv_iconst (v := nI 1) hx hb d_MD_type_26 (by decide) ?_
        refine va_put (ci := 4) (v := .int (nI 1)) (ty := .int) (C := R_MD) (T := T_MD) (N := 13) hx hb ht i_MD t_MD t_MD_ok n_MD hown F.2.1 hP hD hS 0 rfl rfl 0 (by decide) (ht _ tw_470) (fun _ h9 => h9) rfl (by decide +kernel) rfl rfl (Nat.le_of_ble_eq_true rfl) d_MD_type_27 (fun H locs hP hD hS => ?_)
        have hP : va_P g.1 cl (MW g ma (nI 1) tb hm oo kp (nI k0) tt ct fd os oq vs sk ++ X) H := hP
        have hD : va_D (gA g) (MW g ma (nI 1) tb hm oo kp (nI k0) tt ct fd os oq vs sk ++ X) := hD
        refine lv_aload_n hx hb d_MD_type_30 rfl (lv_at hl 0 rfl) ?_
        refine va_get (ci := 4) (v := .int (nI 1)) (C := R_MD) (T := T_MD) (N := 13) hx hb ht i_MD hown F.2.1 hP 0 rfl rfl 0 (by decide) (ht _ tw_470) (fun _ h9 => h9) rfl d_MD_type_31 ?_
        refine rz_le (tgt := 39) hx hb (by omega) d_MD_type_34 (by decide) (fun c34 => ?_) (fun c34 => ?_)
        · exact (by omega : False).elim
        · refine lv_iconst (v := nI 0) hx hb d_MD_type_37 (by decide) ?_
          exact W.iret (v := nI 0) hx hb hr (fun t9 e1 hW => ⟨⟨_, (), rfl, rfl, PR.at F hP hD hS e1 hW.alike⟩, hS.F e1⟩) hS.2.2 d_MD_type_38
      · exact (hbad ⟨k_n, hk1, hk2, by omega, rfl⟩).elim
  · refine pc_Si (As := [.int n, .int (nI 1), .int (nI 8)]) (rest := [.ref (ma 0)]) hx hb (hml.trans hl.1.symm) hown ht F hP hD hS (c_MD_within_0 l g (MW g ma cd tb hm oo kp (nI k0) tt ct fd os oq vs sk ++ X) n 1 8 q5 (by decide) (by decide)) v_MD_within tw_521 ⟨rfl, rfl⟩ ⟨by decide, by decide⟩ rfl rfl (Nat.le_of_ble_eq_true rfl) ⟨Nat.zero_le _, Nat.zero_le _⟩ d_MD_type_5 (fun r9 u9 H locs hq hP hD hS => ?_)
    subst hq
    refine rz_eq (tgt := 26) hx hb (by omega) d_MD_type_8 (by decide) (fun c8 => ?_) (fun c8 => ?_)
    · refine lv_iconst (v := nI 1) hx hb d_MD_type_26 (by decide) ?_
      refine va_put (ci := 4) (v := .int (nI 1)) (ty := .int) (C := R_MD) (T := T_MD) (N := 13) hx hb ht i_MD t_MD t_MD_ok n_MD hown F.2.1 hP hD hS 0 rfl rfl 0 (by decide) (ht _ tw_470) (fun _ h9 => h9) rfl (by decide +kernel) rfl rfl (Nat.le_of_ble_eq_true rfl) d_MD_type_27 (fun H locs hP hD hS => ?_)
      have hP : va_P g.1 cl (MW g ma (nI 1) tb hm oo kp (nI k0) tt ct fd os oq vs sk ++ X) H := hP
      have hD : va_D (gA g) (MW g ma (nI 1) tb hm oo kp (nI k0) tt ct fd os oq vs sk ++ X) := hD
      refine lv_aload_n hx hb d_MD_type_30 rfl (lv_at hl 0 rfl) ?_
      refine va_get (ci := 4) (v := .int (nI 1)) (C := R_MD) (T := T_MD) (N := 13) hx hb ht i_MD hown F.2.1 hP 0 rfl rfl 0 (by decide) (ht _ tw_470) (fun _ h9 => h9) rfl d_MD_type_31 ?_
      refine rz_le (tgt := 39) hx hb (by omega) d_MD_type_34 (by decide) (fun c34 => ?_) (fun c34 => ?_)
      · exact (by omega : False).elim
      · refine lv_iconst (v := nI 0) hx hb d_MD_type_37 (by decide) ?_
        exact W.iret (v := nI 0) hx hb hr (fun t9 e1 hW => ⟨⟨_, (), rfl, rfl, PR.at F hP hD hS e1 hW.alike⟩, hS.F e1⟩) hS.2.2 d_MD_type_38
    · exact (by omega : False).elim
