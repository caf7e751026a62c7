theorem ty_ok {td : Nat} {n : Int32} (h1 : td ≤ 40) (h2 : ¬ n < nI 1) (h3 : ¬ nI 8 < n) (h4 : nI td + n ≤ nI 40) : ∃ k, 1 ≤ k ∧ k ≤ 8 ∧ td + k ≤ 40 ∧ n = nI k := by
  rcases pk_ix n (n := 9) (by decide) with h | h | ⟨j, hj, e⟩
  · exact absurd (by rw [Int32.lt_iff_toInt_lt] at h ⊢; rw [nI_toInt (by decide)]; rw [Int32.toInt_zero] at h; omega) h2
  · exact absurd (by rw [Int32.le_iff_toInt_le, nI_toInt (by decide)] at h; rw [Int32.lt_iff_toInt_lt, nI_toInt (by decide)]; omega) h3
  · subst e
    rw [nI_ltI (by omega) (by decide)] at h2
    rw [nI_add, nI_leI (by omega) (by decide)] at h4
    exact ⟨j, by omega, by omega, h4, rfl⟩
set_option maxRecDepth 100000 in
set_option maxHeartbeats 4000000 in
theorem x1_SG_set (l : Launch) (hl0 : l.stackTraces = false) (g : Gx) (ad : Nat → Nat) (rg : Nat → Int64) (hd : Nat → Int32) (od : Nat → Int32) (tx : Nat → Int32) (ty : Int32) (sm : Nat → Int64) (pa : Nat → Int64) (pr : Nat → Int64) (fl : Nat → Int64) (op : Int32) (du : Int32) (qa : Nat) (ab : Nat → Int64) (ac : Int32) (qb : Nat) (be : Nat → Int64) (bc : Int32) (wd : Nat → Int32) (X : va_W) (r k : Int32) (hbad : ¬ (inR r 8 ∧ inR k 14)) : vx_Met l y_SG_set (w_SG_set :: TW) rx_SG_set (va_Pc [.ref (ad 0), .int r, .int k] (PR g (CW g ad rg hd od tx ty sm pa pr fl op du qa ab ac qb be bc wd ++ X))) qF (xT g IAE (CW g ad rg hd od tx ty sm pa pr fl op du qa ab ac qb be bc wd ++ X)) 1 6 (gA g) := by
  refine mx_of (by decide) (Nat.le_of_ble_eq_true rfl) ?_
  intro p e s m below meth c ls hx hb hr hml hlk hown ht hex F hP hD hl
  have hl : lv_has ls 5 [(0, .ref (ad 0)), (1, .int r), (2, .int k)] := hl
  have hS : va_S (gA g) s.heap s.heap [] := va_S.rf
  refine lv_iload_n hx hb d_SG_set_0 rfl (lv_at hl 1 rfl) ?_
  refine lv_bipush (v := nI 8) hx hb d_SG_set_1 (by decide) ?_
  by_cases q3 : inR r 8
  · obtain ⟨k_r, hk_r, rfl⟩ := q3
    refine pc_Sv (As := [.int (nI k_r), .int (nI 8)]) (rest := []) hx hb (hml.trans hl.1.symm) hown ht F hP hD hS (c_SG_checkBelow l g (CW g ad rg hd od tx ty sm pa pr fl op du qa ab ac qb be bc wd ++ X) k_r 8 (by omega) (by omega)) v_SG_checkBelow tw_161 ⟨rfl, rfl⟩ ⟨by decide, by decide⟩ rfl rfl (Nat.le_of_ble_eq_true rfl) ⟨Nat.zero_le _, Nat.zero_le _⟩ d_SG_set_3 (fun u9 H locs hq hP hD hS => ?_)
    refine lv_iload_n hx hb d_SG_set_6 rfl (lv_at hl 2 rfl) ?_
    refine lv_bipush (v := nI 14) hx hb d_SG_set_7 (by decide) ?_
    by_cases q9 : inR k 14
    · exact (hbad ⟨inR_nI hk_r, q9⟩).elim
    · refine xc_S (As := [.int k, .int (nI 14)]) (rest := []) hx hb (hml.trans hl.1.symm) hown ht F hP hD hS (x_SG_checkBelow l hl0 g (CW g ad rg hd od tx ty sm pa pr fl op du qa ab ac qb be bc wd ++ X) k 14 q9 (by decide)) v_SG_checkBelow tw_161 ⟨rfl, rfl⟩ ⟨by decide, by decide⟩ rfl rfl (Nat.le_of_ble_eq_true rfl) ⟨by decide, by decide⟩ d_SG_set_9 (fun ce q9 H locs hP hD hS z1 z2 z3 => ?_)
      exact xc_out hex hlk F hP hD hS z1 z2 z3 (by decide) (by decide)
  · refine xc_S (As := [.int r, .int (nI 8)]) (rest := []) hx hb (hml.trans hl.1.symm) hown ht F hP hD hS (x_SG_checkBelow l hl0 g (CW g ad rg hd od tx ty sm pa pr fl op du qa ab ac qb be bc wd ++ X) r 8 q3 (by decide)) v_SG_checkBelow tw_161 ⟨rfl, rfl⟩ ⟨by decide, by decide⟩ rfl rfl (Nat.le_of_ble_eq_true rfl) ⟨by decide, by decide⟩ d_SG_set_3 (fun ce q9 H locs hP hD hS z1 z2 z3 => ?_)
    exact xc_out hex hlk F hP hD hS z1 z2 z3 (by decide) (by decide)
set_option maxRecDepth 100000 in
set_option maxHeartbeats 4000000 in
theorem x1_SG_apply (l : Launch) (hl0 : l.stackTraces = false) (g : Gx) (ad : Nat → Nat) (rg : Nat → Int64) (hd : Nat → Int32) (od : Nat → Int32) (tx : Nat → Int32) (ty : Int32) (sm : Nat → Int64) (pa : Nat → Int64) (pr : Nat → Int64) (fl : Nat → Int64) (op : Int32) (du : Int32) (qa : Nat) (ab : Nat → Int64) (ac : Int32) (qb : Nat) (be : Nat → Int64) (bc : Int32) (wd : Nat → Int32) (X : va_W) (r a b o : Int32) (hbad : ¬ (inR r 8 ∧ inR a 8 ∧ inR b 8 ∧ inR o 16)) : vx_Met l y_SG_apply (w_SG_apply :: TW) rx_SG_apply (va_Pc [.ref (ad 0), .int r, .int a, .int b, .int o] (PR g (CW g ad rg hd od tx ty sm pa pr fl op du qa ab ac qb be bc wd ++ X))) qF (xT g IAE (CW g ad rg hd od tx ty sm pa pr fl op du qa ab ac qb be bc wd ++ X)) 1 6 (gA g) := by
  refine mx_of (by decide) (Nat.le_of_ble_eq_true rfl) ?_
  intro p e s m below meth c ls hx hb hr hml hlk hown ht hex F hP hD hl
  have hl : lv_has ls 5 [(0, .ref (ad 0)), (1, .int r), (2, .int a), (3, .int b), (4, .int o)] := hl
  have hS : va_S (gA g) s.heap s.heap [] := va_S.rf
  refine lv_iload_n hx hb d_SG_apply_0 rfl (lv_at hl 1 rfl) ?_
  refine lv_bipush (v := nI 8) hx hb d_SG_apply_1 (by decide) ?_
  by_cases q3 : inR r 8
  · obtain ⟨k_r, hk_r, rfl⟩ := q3
    refine pc_Sv (As := [.int (nI k_r), .int (nI 8)]) (rest := []) hx hb (hml.trans hl.1.symm) hown ht F hP hD hS (c_SG_checkBelow l g (CW g ad rg hd od tx ty sm pa pr fl op du qa ab ac qb be bc wd ++ X) k_r 8 (by omega) (by omega)) v_SG_checkBelow tw_161 ⟨rfl, rfl⟩ ⟨by decide, by decide⟩ rfl rfl (Nat.le_of_ble_eq_true rfl) ⟨Nat.zero_le _, Nat.zero_le _⟩ d_SG_apply_3 (fun u9 H locs hq hP hD hS => ?_)
    refine lv_iload_n hx hb d_SG_apply_6 rfl (lv_at hl 2 rfl) ?_
    refine lv_bipush (v := nI 8) hx hb d_SG_apply_7 (by decide) ?_
    by_cases q9 : inR a 8
    · obtain ⟨k_a, hk_a, rfl⟩ := q9
      refine pc_Sv (As := [.int (nI k_a), .int (nI 8)]) (rest := []) hx hb (hml.trans hl.1.symm) hown ht F hP hD hS (c_SG_checkBelow l g (CW g ad rg hd od tx ty sm pa pr fl op du qa ab ac qb be bc wd ++ X) k_a 8 (by omega) (by omega)) v_SG_checkBelow tw_161 ⟨rfl, rfl⟩ ⟨by decide, by decide⟩ rfl rfl (Nat.le_of_ble_eq_true rfl) ⟨Nat.zero_le _, Nat.zero_le _⟩ d_SG_apply_9 (fun u9 H locs hq hP hD hS => ?_)
      refine lv_iload_n hx hb d_SG_apply_12 rfl (lv_at hl 3 rfl) ?_
      refine lv_bipush (v := nI 8) hx hb d_SG_apply_13 (by decide) ?_
      by_cases q15 : inR b 8
      · obtain ⟨k_b, hk_b, rfl⟩ := q15
        refine pc_Sv (As := [.int (nI k_b), .int (nI 8)]) (rest := []) hx hb (hml.trans hl.1.symm) hown ht F hP hD hS (c_SG_checkBelow l g (CW g ad rg hd od tx ty sm pa pr fl op du qa ab ac qb be bc wd ++ X) k_b 8 (by omega) (by omega)) v_SG_checkBelow tw_161 ⟨rfl, rfl⟩ ⟨by decide, by decide⟩ rfl rfl (Nat.le_of_ble_eq_true rfl) ⟨Nat.zero_le _, Nat.zero_le _⟩ d_SG_apply_15 (fun u9 H locs hq hP hD hS => ?_)
        refine lv_iload hx hb d_SG_apply_18 (lv_at hl 4 rfl) ?_
        refine lv_bipush (v := nI 16) hx hb d_SG_apply_20 (by decide) ?_
        by_cases q22 : inR o 16
        · exact (hbad ⟨inR_nI hk_r, inR_nI hk_a, inR_nI hk_b, q22⟩).elim
        · refine xc_S (As := [.int o, .int (nI 16)]) (rest := []) hx hb (hml.trans hl.1.symm) hown ht F hP hD hS (x_SG_checkBelow l hl0 g (CW g ad rg hd od tx ty sm pa pr fl op du qa ab ac qb be bc wd ++ X) o 16 q22 (by decide)) v_SG_checkBelow tw_161 ⟨rfl, rfl⟩ ⟨by decide, by decide⟩ rfl rfl (Nat.le_of_ble_eq_true rfl) ⟨by decide, by decide⟩ d_SG_apply_22 (fun ce q9 H locs hP hD hS z1 z2 z3 => ?_)
          exact xc_out hex hlk F hP hD hS z1 z2 z3 (by decide) (by decide)
      · refine xc_S (As := [.int b, .int (nI 8)]) (rest := []) hx hb (hml.trans hl.1.symm) hown ht F hP hD hS (x_SG_checkBelow l hl0 g (CW g ad rg hd od tx ty sm pa pr fl op du qa ab ac qb be bc wd ++ X) b 8 q15 (by decide)) v_SG_checkBelow tw_161 ⟨rfl, rfl⟩ ⟨by decide, by decide⟩ rfl rfl (Nat.le_of_ble_eq_true rfl) ⟨by decide, by decide⟩ d_SG_apply_15 (fun ce q9 H locs hP hD hS z1 z2 z3 => ?_)
        exact xc_out hex hlk F hP hD hS z1 z2 z3 (by decide) (by decide)
    · refine xc_S (As := [.int a, .int (nI 8)]) (rest := []) hx hb (hml.trans hl.1.symm) hown ht F hP hD hS (x_SG_checkBelow l hl0 g (CW g ad rg hd od tx ty sm pa pr fl op du qa ab ac qb be bc wd ++ X) a 8 q9 (by decide)) v_SG_checkBelow tw_161 ⟨rfl, rfl⟩ ⟨by decide, by decide⟩ rfl rfl (Nat.le_of_ble_eq_true rfl) ⟨by decide, by decide⟩ d_SG_apply_9 (fun ce q9 H locs hP hD hS z1 z2 z3 => ?_)
      exact xc_out hex hlk F hP hD hS z1 z2 z3 (by decide) (by decide)
  · refine xc_S (As := [.int r, .int (nI 8)]) (rest := []) hx hb (hml.trans hl.1.symm) hown ht F hP hD hS (x_SG_checkBelow l hl0 g (CW g ad rg hd od tx ty sm pa pr fl op du qa ab ac qb be bc wd ++ X) r 8 q3 (by decide)) v_SG_checkBelow tw_161 ⟨rfl, rfl⟩ ⟨by decide, by decide⟩ rfl rfl (Nat.le_of_ble_eq_true rfl) ⟨by decide, by decide⟩ d_SG_apply_3 (fun ce q9 H locs hP hD hS z1 z2 z3 => ?_)
    exact xc_out hex hlk F hP hD hS z1 z2 z3 (by decide) (by decide)
set_option maxRecDepth 100000 in
set_option maxHeartbeats 4000000 in
theorem x1_SG_choose (l : Launch) (hl0 : l.stackTraces = false) (g : Gx) (ad : Nat → Nat) (rg : Nat → Int64) (hd : Nat → Int32) (od : Nat → Int32) (tx : Nat → Int32) (ty : Int32) (sm : Nat → Int64) (pa : Nat → Int64) (pr : Nat → Int64) (fl : Nat → Int64) (op : Int32) (du : Int32) (qa : Nat) (ab : Nat → Int64) (ac : Int32) (qb : Nat) (be : Nat → Int64) (bc : Int32) (wd : Nat → Int32) (X : va_W) (r a b d : Int32) (hbad : ¬ (inR r 8 ∧ inR a 8 ∧ inR b 8 ∧ inR d 8)) : vx_Met l y_SG_choose (w_SG_choose :: TW) rx_SG_choose (va_Pc [.ref (ad 0), .int r, .int a, .int b, .int d] (PR g (CW g ad rg hd od tx ty sm pa pr fl op du qa ab ac qb be bc wd ++ X))) qF (xT g IAE (CW g ad rg hd od tx ty sm pa pr fl op du qa ab ac qb be bc wd ++ X)) 1 6 (gA g) := by
  refine mx_of (by decide) (Nat.le_of_ble_eq_true rfl) ?_
  intro p e s m below meth c ls hx hb hr hml hlk hown ht hex F hP hD hl
  have hl : lv_has ls 5 [(0, .ref (ad 0)), (1, .int r), (2, .int a), (3, .int b), (4, .int d)] := hl
  have hS : va_S (gA g) s.heap s.heap [] := va_S.rf
  refine lv_iload_n hx hb d_SG_choose_0 rfl (lv_at hl 1 rfl) ?_
  refine lv_bipush (v := nI 8) hx hb d_SG_choose_1 (by decide) ?_
  by_cases q3 : inR r 8
  · obtain ⟨k_r, hk_r, rfl⟩ := q3
    refine pc_Sv (As := [.int (nI k_r), .int (nI 8)]) (rest := []) hx hb (hml.trans hl.1.symm) hown ht F hP hD hS (c_SG_checkBelow l g (CW g ad rg hd od tx ty sm pa pr fl op du qa ab ac qb be bc wd ++ X) k_r 8 (by omega) (by omega)) v_SG_checkBelow tw_161 ⟨rfl, rfl⟩ ⟨by decide, by decide⟩ rfl rfl (Nat.le_of_ble_eq_true rfl) ⟨Nat.zero_le _, Nat.zero_le _⟩ d_SG_choose_3 (fun u9 H locs hq hP hD hS => ?_)
    refine lv_iload_n hx hb d_SG_choose_6 rfl (lv_at hl 2 rfl) ?_
    refine lv_bipush (v := nI 8) hx hb d_SG_choose_7 (by decide) ?_
    by_cases q9 : inR a 8
    · obtain ⟨k_a, hk_a, rfl⟩ := q9
      refine pc_Sv (As := [.int (nI k_a), .int (nI 8)]) (rest := []) hx hb (hml.trans hl.1.symm) hown ht F hP hD hS (c_SG_checkBelow l g (CW g ad rg hd od tx ty sm pa pr fl op du qa ab ac qb be bc wd ++ X) k_a 8 (by omega) (by omega)) v_SG_checkBelow tw_161 ⟨rfl, rfl⟩ ⟨by decide, by decide⟩ rfl rfl (Nat.le_of_ble_eq_true rfl) ⟨Nat.zero_le _, Nat.zero_le _⟩ d_SG_choose_9 (fun u9 H locs hq hP hD hS => ?_)
      refine lv_iload_n hx hb d_SG_choose_12 rfl (lv_at hl 3 rfl) ?_
      refine lv_bipush (v := nI 8) hx hb d_SG_choose_13 (by decide) ?_
      by_cases q15 : inR b 8
      · obtain ⟨k_b, hk_b, rfl⟩ := q15
        refine pc_Sv (As := [.int (nI k_b), .int (nI 8)]) (rest := []) hx hb (hml.trans hl.1.symm) hown ht F hP hD hS (c_SG_checkBelow l g (CW g ad rg hd od tx ty sm pa pr fl op du qa ab ac qb be bc wd ++ X) k_b 8 (by omega) (by omega)) v_SG_checkBelow tw_161 ⟨rfl, rfl⟩ ⟨by decide, by decide⟩ rfl rfl (Nat.le_of_ble_eq_true rfl) ⟨Nat.zero_le _, Nat.zero_le _⟩ d_SG_choose_15 (fun u9 H locs hq hP hD hS => ?_)
        refine lv_iload hx hb d_SG_choose_18 (lv_at hl 4 rfl) ?_
        refine lv_bipush (v := nI 8) hx hb d_SG_choose_20 (by decide) ?_
        by_cases q22 : inR d 8
        · exact (hbad ⟨inR_nI hk_r, inR_nI hk_a, inR_nI hk_b, q22⟩).elim
        · refine xc_S (As := [.int d, .int (nI 8)]) (rest := []) hx hb (hml.trans hl.1.symm) hown ht F hP hD hS (x_SG_checkBelow l hl0 g (CW g ad rg hd od tx ty sm pa pr fl op du qa ab ac qb be bc wd ++ X) d 8 q22 (by decide)) v_SG_checkBelow tw_161 ⟨rfl, rfl⟩ ⟨by decide, by decide⟩ rfl rfl (Nat.le_of_ble_eq_true rfl) ⟨by decide, by decide⟩ d_SG_choose_22 (fun ce q9 H locs hP hD hS z1 z2 z3 => ?_)
          exact xc_out hex hlk F hP hD hS z1 z2 z3 (by decide) (by decide)
      · refine xc_S (As := [.int b, .int (nI 8)]) (rest := []) hx hb (hml.trans hl.1.symm) hown ht F hP hD hS (x_SG_checkBelow l hl0 g (CW g ad rg hd od tx ty sm pa pr fl op du qa ab ac qb be bc wd ++ X) b 8 q15 (by decide)) v_SG_checkBelow tw_161 ⟨rfl, rfl⟩ ⟨by decide, by decide⟩ rfl rfl (Nat.le_of_ble_eq_true rfl) ⟨by decide, by decide⟩ d_SG_choose_15 (fun ce q9 H locs hP hD hS z1 z2 z3 => ?_)
        exact xc_out hex hlk F hP hD hS z1 z2 z3 (by decide) (by decide)
    · refine xc_S (As := [.int a, .int (nI 8)]) (rest := []) hx hb (hml.trans hl.1.symm) hown ht F hP hD hS (x_SG_checkBelow l hl0 g (CW g ad rg hd od tx ty sm pa pr fl op du qa ab ac qb be bc wd ++ X) a 8 q9 (by decide)) v_SG_checkBelow tw_161 ⟨rfl, rfl⟩ ⟨by decide, by decide⟩ rfl rfl (Nat.le_of_ble_eq_true rfl) ⟨by decide, by decide⟩ d_SG_choose_9 (fun ce q9 H locs hP hD hS z1 z2 z3 => ?_)
      exact xc_out hex hlk F hP hD hS z1 z2 z3 (by decide) (by decide)
  · refine xc_S (As := [.int r, .int (nI 8)]) (rest := []) hx hb (hml.trans hl.1.symm) hown ht F hP hD hS (x_SG_checkBelow l hl0 g (CW g ad rg hd od tx ty sm pa pr fl op du qa ab ac qb be bc wd ++ X) r 8 q3 (by decide)) v_SG_checkBelow tw_161 ⟨rfl, rfl⟩ ⟨by decide, by decide⟩ rfl rfl (Nat.le_of_ble_eq_true rfl) ⟨by decide, by decide⟩ d_SG_choose_3 (fun ce q9 H locs hP hD hS z1 z2 z3 => ?_)
    exact xc_out hex hlk F hP hD hS z1 z2 z3 (by decide) (by decide)
set_option maxRecDepth 100000 in
set_option maxHeartbeats 4000000 in
theorem x1_SG_restrict (l : Launch) (hl0 : l.stackTraces = false) (g : Gx) (ad : Nat → Nat) (rg : Nat → Int64) (hd : Nat → Int32) (od : Nat → Int32) (tx : Nat → Int32) (ty : Int32) (sm : Nat → Int64) (pa : Nat → Int64) (pr : Nat → Int64) (fl : Nat → Int64) (op : Int32) (du : Int32) (qa : Nat) (ab : Nat → Int64) (ac : Int32) (qb : Nat) (be : Nat → Int64) (bc : Int32) (wd : Nat → Int32) (X : va_W) (r a v z : Int32) (hbad : ¬ (inR r 8 ∧ inR a 8 ∧ inR v 6)) : vx_Met l y_SG_restrict (w_SG_restrict :: TW) rx_SG_restrict (va_Pc [.ref (ad 0), .int r, .int a, .int v, .int z] (PR g (CW g ad rg hd od tx ty sm pa pr fl op du qa ab ac qb be bc wd ++ X))) qF (xT g IAE (CW g ad rg hd od tx ty sm pa pr fl op du qa ab ac qb be bc wd ++ X)) 1 6 (gA g) := by
  refine mx_of (by decide) (Nat.le_of_ble_eq_true rfl) ?_
  intro p e s m below meth c ls hx hb hr hml hlk hown ht hex F hP hD hl
  have hl : lv_has ls 7 [(0, .ref (ad 0)), (1, .int r), (2, .int a), (3, .int v), (4, .int z)] := hl
  have hS : va_S (gA g) s.heap s.heap [] := va_S.rf
  refine lv_iload_n hx hb d_SG_restrict_0 rfl (lv_at hl 1 rfl) ?_
  refine lv_bipush (v := nI 8) hx hb d_SG_restrict_1 (by decide) ?_
  by_cases q3 : inR r 8
  · obtain ⟨k_r, hk_r, rfl⟩ := q3
    refine pc_Sv (As := [.int (nI k_r), .int (nI 8)]) (rest := []) hx hb (hml.trans hl.1.symm) hown ht F hP hD hS (c_SG_checkBelow l g (CW g ad rg hd od tx ty sm pa pr fl op du qa ab ac qb be bc wd ++ X) k_r 8 (by omega) (by omega)) v_SG_checkBelow tw_161 ⟨rfl, rfl⟩ ⟨by decide, by decide⟩ rfl rfl (Nat.le_of_ble_eq_true rfl) ⟨Nat.zero_le _, Nat.zero_le _⟩ d_SG_restrict_3 (fun u9 H locs hq hP hD hS => ?_)
    refine lv_iload_n hx hb d_SG_restrict_6 rfl (lv_at hl 2 rfl) ?_
    refine lv_bipush (v := nI 8) hx hb d_SG_restrict_7 (by decide) ?_
    by_cases q9 : inR a 8
    · obtain ⟨k_a, hk_a, rfl⟩ := q9
      refine pc_Sv (As := [.int (nI k_a), .int (nI 8)]) (rest := []) hx hb (hml.trans hl.1.symm) hown ht F hP hD hS (c_SG_checkBelow l g (CW g ad rg hd od tx ty sm pa pr fl op du qa ab ac qb be bc wd ++ X) k_a 8 (by omega) (by omega)) v_SG_checkBelow tw_161 ⟨rfl, rfl⟩ ⟨by decide, by decide⟩ rfl rfl (Nat.le_of_ble_eq_true rfl) ⟨Nat.zero_le _, Nat.zero_le _⟩ d_SG_restrict_9 (fun u9 H locs hq hP hD hS => ?_)
      refine lv_iload_n hx hb d_SG_restrict_12 rfl (lv_at hl 3 rfl) ?_
      refine lv_bipush (v := nI 6) hx hb d_SG_restrict_13 (by decide) ?_
      by_cases q15 : inR v 6
      · exact (hbad ⟨inR_nI hk_r, inR_nI hk_a, q15⟩).elim
      · refine xc_S (As := [.int v, .int (nI 6)]) (rest := []) hx hb (hml.trans hl.1.symm) hown ht F hP hD hS (x_SG_checkBelow l hl0 g (CW g ad rg hd od tx ty sm pa pr fl op du qa ab ac qb be bc wd ++ X) v 6 q15 (by decide)) v_SG_checkBelow tw_161 ⟨rfl, rfl⟩ ⟨by decide, by decide⟩ rfl rfl (Nat.le_of_ble_eq_true rfl) ⟨by decide, by decide⟩ d_SG_restrict_15 (fun ce q9 H locs hP hD hS z1 z2 z3 => ?_)
        exact xc_out hex hlk F hP hD hS z1 z2 z3 (by decide) (by decide)
    · refine xc_S (As := [.int a, .int (nI 8)]) (rest := []) hx hb (hml.trans hl.1.symm) hown ht F hP hD hS (x_SG_checkBelow l hl0 g (CW g ad rg hd od tx ty sm pa pr fl op du qa ab ac qb be bc wd ++ X) a 8 q9 (by decide)) v_SG_checkBelow tw_161 ⟨rfl, rfl⟩ ⟨by decide, by decide⟩ rfl rfl (Nat.le_of_ble_eq_true rfl) ⟨by decide, by decide⟩ d_SG_restrict_9 (fun ce q9 H locs hP hD hS z1 z2 z3 => ?_)
      exact xc_out hex hlk F hP hD hS z1 z2 z3 (by decide) (by decide)
  · refine xc_S (As := [.int r, .int (nI 8)]) (rest := []) hx hb (hml.trans hl.1.symm) hown ht F hP hD hS (x_SG_checkBelow l hl0 g (CW g ad rg hd od tx ty sm pa pr fl op du qa ab ac qb be bc wd ++ X) r 8 q3 (by decide)) v_SG_checkBelow tw_161 ⟨rfl, rfl⟩ ⟨by decide, by decide⟩ rfl rfl (Nat.le_of_ble_eq_true rfl) ⟨by decide, by decide⟩ d_SG_restrict_3 (fun ce q9 H locs hP hD hS z1 z2 z3 => ?_)
    exact xc_out hex hlk F hP hD hS z1 z2 z3 (by decide) (by decide)
set_option maxRecDepth 100000 in
set_option maxHeartbeats 4000000 in
theorem x1_SG_compose (l : Launch) (hl0 : l.stackTraces = false) (g : Gx) (ad : Nat → Nat) (rg : Nat → Int64) (hd : Nat → Int32) (od : Nat → Int32) (tx : Nat → Int32) (ty : Int32) (sm : Nat → Int64) (pa : Nat → Int64) (pr : Nat → Int64) (fl : Nat → Int64) (op : Int32) (du : Int32) (qa : Nat) (ab : Nat → Int64) (ac : Int32) (qb : Nat) (be : Nat → Int64) (bc : Int32) (wd : Nat → Int32) (X : va_W) (r a v b : Int32) (hbad : ¬ (inR r 8 ∧ inR a 8 ∧ inR v 6 ∧ inR b 8)) : vx_Met l y_SG_compose (w_SG_compose :: TW) rx_SG_compose (va_Pc [.ref (ad 0), .int r, .int a, .int v, .int b] (PR g (CW g ad rg hd od tx ty sm pa pr fl op du qa ab ac qb be bc wd ++ X))) qF (xT g IAE (CW g ad rg hd od tx ty sm pa pr fl op du qa ab ac qb be bc wd ++ X)) 1 6 (gA g) := by
  refine mx_of (by decide) (Nat.le_of_ble_eq_true rfl) ?_
  intro p e s m below meth c ls hx hb hr hml hlk hown ht hex F hP hD hl
  have hl : lv_has ls 9 [(0, .ref (ad 0)), (1, .int r), (2, .int a), (3, .int v), (4, .int b)] := hl
  have hS : va_S (gA g) s.heap s.heap [] := va_S.rf
  refine lv_iload_n hx hb d_SG_compose_0 rfl (lv_at hl 1 rfl) ?_
  refine lv_bipush (v := nI 8) hx hb d_SG_compose_1 (by decide) ?_
  by_cases q3 : inR r 8
  · obtain ⟨k_r, hk_r, rfl⟩ := q3
    refine pc_Sv (As := [.int (nI k_r), .int (nI 8)]) (rest := []) hx hb (hml.trans hl.1.symm) hown ht F hP hD hS (c_SG_checkBelow l g (CW g ad rg hd od tx ty sm pa pr fl op du qa ab ac qb be bc wd ++ X) k_r 8 (by omega) (by omega)) v_SG_checkBelow tw_161 ⟨rfl, rfl⟩ ⟨by decide, by decide⟩ rfl rfl (Nat.le_of_ble_eq_true rfl) ⟨Nat.zero_le _, Nat.zero_le _⟩ d_SG_compose_3 (fun u9 H locs hq hP hD hS => ?_)
    refine lv_iload_n hx hb d_SG_compose_6 rfl (lv_at hl 2 rfl) ?_
    refine lv_bipush (v := nI 8) hx hb d_SG_compose_7 (by decide) ?_
    by_cases q9 : inR a 8
    · obtain ⟨k_a, hk_a, rfl⟩ := q9
      refine pc_Sv (As := [.int (nI k_a), .int (nI 8)]) (rest := []) hx hb (hml.trans hl.1.symm) hown ht F hP hD hS (c_SG_checkBelow l g (CW g ad rg hd od tx ty sm pa pr fl op du qa ab ac qb be bc wd ++ X) k_a 8 (by omega) (by omega)) v_SG_checkBelow tw_161 ⟨rfl, rfl⟩ ⟨by decide, by decide⟩ rfl rfl (Nat.le_of_ble_eq_true rfl) ⟨Nat.zero_le _, Nat.zero_le _⟩ d_SG_compose_9 (fun u9 H locs hq hP hD hS => ?_)
      refine lv_iload_n hx hb d_SG_compose_12 rfl (lv_at hl 3 rfl) ?_
      refine lv_bipush (v := nI 6) hx hb d_SG_compose_13 (by decide) ?_
      by_cases q15 : inR v 6
      · obtain ⟨k_v, hk_v, rfl⟩ := q15
        refine pc_Sv (As := [.int (nI k_v), .int (nI 6)]) (rest := []) hx hb (hml.trans hl.1.symm) hown ht F hP hD hS (c_SG_checkBelow l g (CW g ad rg hd od tx ty sm pa pr fl op du qa ab ac qb be bc wd ++ X) k_v 6 (by omega) (by omega)) v_SG_checkBelow tw_161 ⟨rfl, rfl⟩ ⟨by decide, by decide⟩ rfl rfl (Nat.le_of_ble_eq_true rfl) ⟨Nat.zero_le _, Nat.zero_le _⟩ d_SG_compose_15 (fun u9 H locs hq hP hD hS => ?_)
        refine lv_iload hx hb d_SG_compose_18 (lv_at hl 4 rfl) ?_
        refine lv_bipush (v := nI 8) hx hb d_SG_compose_20 (by decide) ?_
        by_cases q22 : inR b 8
        · exact (hbad ⟨inR_nI hk_r, inR_nI hk_a, inR_nI hk_v, q22⟩).elim
        · refine xc_S (As := [.int b, .int (nI 8)]) (rest := []) hx hb (hml.trans hl.1.symm) hown ht F hP hD hS (x_SG_checkBelow l hl0 g (CW g ad rg hd od tx ty sm pa pr fl op du qa ab ac qb be bc wd ++ X) b 8 q22 (by decide)) v_SG_checkBelow tw_161 ⟨rfl, rfl⟩ ⟨by decide, by decide⟩ rfl rfl (Nat.le_of_ble_eq_true rfl) ⟨by decide, by decide⟩ d_SG_compose_22 (fun ce q9 H locs hP hD hS z1 z2 z3 => ?_)
          exact xc_out hex hlk F hP hD hS z1 z2 z3 (by decide) (by decide)
      · refine xc_S (As := [.int v, .int (nI 6)]) (rest := []) hx hb (hml.trans hl.1.symm) hown ht F hP hD hS (x_SG_checkBelow l hl0 g (CW g ad rg hd od tx ty sm pa pr fl op du qa ab ac qb be bc wd ++ X) v 6 q15 (by decide)) v_SG_checkBelow tw_161 ⟨rfl, rfl⟩ ⟨by decide, by decide⟩ rfl rfl (Nat.le_of_ble_eq_true rfl) ⟨by decide, by decide⟩ d_SG_compose_15 (fun ce q9 H locs hP hD hS z1 z2 z3 => ?_)
        exact xc_out hex hlk F hP hD hS z1 z2 z3 (by decide) (by decide)
    · refine xc_S (As := [.int a, .int (nI 8)]) (rest := []) hx hb (hml.trans hl.1.symm) hown ht F hP hD hS (x_SG_checkBelow l hl0 g (CW g ad rg hd od tx ty sm pa pr fl op du qa ab ac qb be bc wd ++ X) a 8 q9 (by decide)) v_SG_checkBelow tw_161 ⟨rfl, rfl⟩ ⟨by decide, by decide⟩ rfl rfl (Nat.le_of_ble_eq_true rfl) ⟨by decide, by decide⟩ d_SG_compose_9 (fun ce q9 H locs hP hD hS z1 z2 z3 => ?_)
      exact xc_out hex hlk F hP hD hS z1 z2 z3 (by decide) (by decide)
  · refine xc_S (As := [.int r, .int (nI 8)]) (rest := []) hx hb (hml.trans hl.1.symm) hown ht F hP hD hS (x_SG_checkBelow l hl0 g (CW g ad rg hd od tx ty sm pa pr fl op du qa ab ac qb be bc wd ++ X) r 8 q3 (by decide)) v_SG_checkBelow tw_161 ⟨rfl, rfl⟩ ⟨by decide, by decide⟩ rfl rfl (Nat.le_of_ble_eq_true rfl) ⟨by decide, by decide⟩ d_SG_compose_3 (fun ce q9 H locs hP hD hS z1 z2 z3 => ?_)
    exact xc_out hex hlk F hP hD hS z1 z2 z3 (by decide) (by decide)
set_option maxRecDepth 100000 in
set_option maxHeartbeats 4000000 in
theorem x1_SG_quantify (l : Launch) (hl0 : l.stackTraces = false) (g : Gx) (ad : Nat → Nat) (rg : Nat → Int64) (hd : Nat → Int32) (od : Nat → Int32) (tx : Nat → Int32) (ty : Int32) (sm : Nat → Int64) (pa : Nat → Int64) (pr : Nat → Int64) (fl : Nat → Int64) (op : Int32) (du : Int32) (qa : Nat) (ab : Nat → Int64) (ac : Int32) (qb : Nat) (be : Nat → Int64) (bc : Int32) (wd : Nat → Int32) (X : va_W) (r a k z : Int32) (hbad : ¬ (inR r 8 ∧ inR a 8 ∧ inR k 64)) : vx_Met l y_SG_quantify (w_SG_quantify :: TW) rx_SG_quantify (va_Pc [.ref (ad 0), .int r, .int a, .int k, .int z] (PR g (CW g ad rg hd od tx ty sm pa pr fl op du qa ab ac qb be bc wd ++ X))) qF (xT g IAE (CW g ad rg hd od tx ty sm pa pr fl op du qa ab ac qb be bc wd ++ X)) 1 6 (gA g) := by
  refine mx_of (by decide) (Nat.le_of_ble_eq_true rfl) ?_
  intro p e s m below meth c ls hx hb hr hml hlk hown ht hex F hP hD hl
  have hl : lv_has ls 12 [(0, .ref (ad 0)), (1, .int r), (2, .int a), (3, .int k), (4, .int z)] := hl
  have hS : va_S (gA g) s.heap s.heap [] := va_S.rf
  refine lv_iload_n hx hb d_SG_quantify_0 rfl (lv_at hl 1 rfl) ?_
  refine lv_bipush (v := nI 8) hx hb d_SG_quantify_1 (by decide) ?_
  by_cases q3 : inR r 8
  · obtain ⟨k_r, hk_r, rfl⟩ := q3
    refine pc_Sv (As := [.int (nI k_r), .int (nI 8)]) (rest := []) hx hb (hml.trans hl.1.symm) hown ht F hP hD hS (c_SG_checkBelow l g (CW g ad rg hd od tx ty sm pa pr fl op du qa ab ac qb be bc wd ++ X) k_r 8 (by omega) (by omega)) v_SG_checkBelow tw_161 ⟨rfl, rfl⟩ ⟨by decide, by decide⟩ rfl rfl (Nat.le_of_ble_eq_true rfl) ⟨Nat.zero_le _, Nat.zero_le _⟩ d_SG_quantify_3 (fun u9 H locs hq hP hD hS => ?_)
    refine lv_iload_n hx hb d_SG_quantify_6 rfl (lv_at hl 2 rfl) ?_
    refine lv_bipush (v := nI 8) hx hb d_SG_quantify_7 (by decide) ?_
    by_cases q9 : inR a 8
    · obtain ⟨k_a, hk_a, rfl⟩ := q9
      refine pc_Sv (As := [.int (nI k_a), .int (nI 8)]) (rest := []) hx hb (hml.trans hl.1.symm) hown ht F hP hD hS (c_SG_checkBelow l g (CW g ad rg hd od tx ty sm pa pr fl op du qa ab ac qb be bc wd ++ X) k_a 8 (by omega) (by omega)) v_SG_checkBelow tw_161 ⟨rfl, rfl⟩ ⟨by decide, by decide⟩ rfl rfl (Nat.le_of_ble_eq_true rfl) ⟨Nat.zero_le _, Nat.zero_le _⟩ d_SG_quantify_9 (fun u9 H locs hq hP hD hS => ?_)
      refine lv_iload_n hx hb d_SG_quantify_12 rfl (lv_at hl 3 rfl) ?_
      refine lv_bipush (v := nI 64) hx hb d_SG_quantify_13 (by decide) ?_
      by_cases q15 : inR k 64
      · exact (hbad ⟨inR_nI hk_r, inR_nI hk_a, q15⟩).elim
      · refine xc_S (As := [.int k, .int (nI 64)]) (rest := []) hx hb (hml.trans hl.1.symm) hown ht F hP hD hS (x_SG_checkBelow l hl0 g (CW g ad rg hd od tx ty sm pa pr fl op du qa ab ac qb be bc wd ++ X) k 64 q15 (by decide)) v_SG_checkBelow tw_161 ⟨rfl, rfl⟩ ⟨by decide, by decide⟩ rfl rfl (Nat.le_of_ble_eq_true rfl) ⟨by decide, by decide⟩ d_SG_quantify_15 (fun ce q9 H locs hP hD hS z1 z2 z3 => ?_)
        exact xc_out hex hlk F hP hD hS z1 z2 z3 (by decide) (by decide)
    · refine xc_S (As := [.int a, .int (nI 8)]) (rest := []) hx hb (hml.trans hl.1.symm) hown ht F hP hD hS (x_SG_checkBelow l hl0 g (CW g ad rg hd od tx ty sm pa pr fl op du qa ab ac qb be bc wd ++ X) a 8 q9 (by decide)) v_SG_checkBelow tw_161 ⟨rfl, rfl⟩ ⟨by decide, by decide⟩ rfl rfl (Nat.le_of_ble_eq_true rfl) ⟨by decide, by decide⟩ d_SG_quantify_9 (fun ce q9 H locs hP hD hS z1 z2 z3 => ?_)
      exact xc_out hex hlk F hP hD hS z1 z2 z3 (by decide) (by decide)
  · refine xc_S (As := [.int r, .int (nI 8)]) (rest := []) hx hb (hml.trans hl.1.symm) hown ht F hP hD hS (x_SG_checkBelow l hl0 g (CW g ad rg hd od tx ty sm pa pr fl op du qa ab ac qb be bc wd ++ X) r 8 q3 (by decide)) v_SG_checkBelow tw_161 ⟨rfl, rfl⟩ ⟨by decide, by decide⟩ rfl rfl (Nat.le_of_ble_eq_true rfl) ⟨by decide, by decide⟩ d_SG_quantify_3 (fun ce q9 H locs hP hD hS z1 z2 z3 => ?_)
    exact xc_out hex hlk F hP hD hS z1 z2 z3 (by decide) (by decide)
set_option maxRecDepth 100000 in
set_option maxHeartbeats 4000000 in
theorem x1_SG_read (l : Launch) (hl0 : l.stackTraces = false) (g : Gx) (ad : Nat → Nat) (rg : Nat → Int64) (hd : Nat → Int32) (od : Nat → Int32) (tx : Nat → Int32) (ty : Int32) (sm : Nat → Int64) (pa : Nat → Int64) (pr : Nat → Int64) (fl : Nat → Int64) (op : Int32) (du : Int32) (qa : Nat) (ab : Nat → Int64) (ac : Int32) (qb : Nat) (be : Nat → Int64) (bc : Int32) (wd : Nat → Int32) (X : va_W) (r : Int32) (hbad : ¬ (inR r 8)) : vx_Met l y_SG_read (w_SG_read :: TW) rx_SG_read (va_Pc [.ref (ad 0), .int r] (PR g (CW g ad rg hd od tx ty sm pa pr fl op du qa ab ac qb be bc wd ++ X))) qF (xT g IAE (CW g ad rg hd od tx ty sm pa pr fl op du qa ab ac qb be bc wd ++ X)) 1 6 (gA g) := by
  refine mx_of (by decide) (Nat.le_of_ble_eq_true rfl) ?_
  intro p e s m below meth c ls hx hb hr hml hlk hown ht hex F hP hD hl
  have hl : lv_has ls 3 [(0, .ref (ad 0)), (1, .int r)] := hl
  have hS : va_S (gA g) s.heap s.heap [] := va_S.rf
  refine lv_iload_n hx hb d_SG_read_0 rfl (lv_at hl 1 rfl) ?_
  refine lv_bipush (v := nI 8) hx hb d_SG_read_1 (by decide) ?_
  by_cases q3 : inR r 8
  · exact (hbad q3).elim
  · refine xc_S (As := [.int r, .int (nI 8)]) (rest := []) hx hb (hml.trans hl.1.symm) hown ht F hP hD hS (x_SG_checkBelow l hl0 g (CW g ad rg hd od tx ty sm pa pr fl op du qa ab ac qb be bc wd ++ X) r 8 q3 (by decide)) v_SG_checkBelow tw_161 ⟨rfl, rfl⟩ ⟨by decide, by decide⟩ rfl rfl (Nat.le_of_ble_eq_true rfl) ⟨by decide, by decide⟩ d_SG_read_3 (fun ce q9 H locs hP hD hS z1 z2 z3 => ?_)
    exact xc_out hex hlk F hP hD hS z1 z2 z3 (by decide) (by decide)
set_option maxRecDepth 100000 in
set_option maxHeartbeats 4000000 in
theorem x1_SG_release (l : Launch) (hl0 : l.stackTraces = false) (g : Gx) (ad : Nat → Nat) (rg : Nat → Int64) (hd : Nat → Int32) (od : Nat → Int32) (tx : Nat → Int32) (ty : Int32) (sm : Nat → Int64) (pa : Nat → Int64) (pr : Nat → Int64) (fl : Nat → Int64) (op : Int32) (du : Int32) (qa : Nat) (ab : Nat → Int64) (ac : Int32) (qb : Nat) (be : Nat → Int64) (bc : Int32) (wd : Nat → Int32) (X : va_W) (r : Int32) (hbad : ¬ (inR r 8)) : vx_Met l y_SG_release (w_SG_release :: TW) rx_SG_release (va_Pc [.ref (ad 0), .int r] (PR g (CW g ad rg hd od tx ty sm pa pr fl op du qa ab ac qb be bc wd ++ X))) qF (xT g IAE (CW g ad rg hd od tx ty sm pa pr fl op du qa ab ac qb be bc wd ++ X)) 1 6 (gA g) := by
  refine mx_of (by decide) (Nat.le_of_ble_eq_true rfl) ?_
  intro p e s m below meth c ls hx hb hr hml hlk hown ht hex F hP hD hl
  have hl : lv_has ls 3 [(0, .ref (ad 0)), (1, .int r)] := hl
  have hS : va_S (gA g) s.heap s.heap [] := va_S.rf
  refine lv_iload_n hx hb d_SG_release_0 rfl (lv_at hl 1 rfl) ?_
  refine lv_bipush (v := nI 8) hx hb d_SG_release_1 (by decide) ?_
  by_cases q3 : inR r 8
  · exact (hbad q3).elim
  · refine xc_S (As := [.int r, .int (nI 8)]) (rest := []) hx hb (hml.trans hl.1.symm) hown ht F hP hD hS (x_SG_checkBelow l hl0 g (CW g ad rg hd od tx ty sm pa pr fl op du qa ab ac qb be bc wd ++ X) r 8 q3 (by decide)) v_SG_checkBelow tw_161 ⟨rfl, rfl⟩ ⟨by decide, by decide⟩ rfl rfl (Nat.le_of_ble_eq_true rfl) ⟨by decide, by decide⟩ d_SG_release_3 (fun ce q9 H locs hP hD hS z1 z2 z3 => ?_)
    exact xc_out hex hlk F hP hD hS z1 z2 z3 (by decide) (by decide)
set_option maxRecDepth 100000 in
set_option maxHeartbeats 4000000 in
theorem x1_SG_equal (l : Launch) (hl0 : l.stackTraces = false) (g : Gx) (ad : Nat → Nat) (rg : Nat → Int64) (hd : Nat → Int32) (od : Nat → Int32) (tx : Nat → Int32) (ty : Int32) (sm : Nat → Int64) (pa : Nat → Int64) (pr : Nat → Int64) (fl : Nat → Int64) (op : Int32) (du : Int32) (qa : Nat) (ab : Nat → Int64) (ac : Int32) (qb : Nat) (be : Nat → Int64) (bc : Int32) (wd : Nat → Int32) (X : va_W) (a b : Int32) (hbad : ¬ (inR a 8 ∧ inR b 8)) : vx_Met l y_SG_equal (w_SG_equal :: TW) rx_SG_equal (va_Pc [.ref (ad 0), .int a, .int b] (PR g (CW g ad rg hd od tx ty sm pa pr fl op du qa ab ac qb be bc wd ++ X))) qF (xT g IAE (CW g ad rg hd od tx ty sm pa pr fl op du qa ab ac qb be bc wd ++ X)) 1 6 (gA g) := by
  refine mx_of (by decide) (Nat.le_of_ble_eq_true rfl) ?_
  intro p e s m below meth c ls hx hb hr hml hlk hown ht hex F hP hD hl
  have hl : lv_has ls 3 [(0, .ref (ad 0)), (1, .int a), (2, .int b)] := hl
  have hS : va_S (gA g) s.heap s.heap [] := va_S.rf
  refine lv_iload_n hx hb d_SG_equal_0 rfl (lv_at hl 1 rfl) ?_
  refine lv_bipush (v := nI 8) hx hb d_SG_equal_1 (by decide) ?_
  by_cases q3 : inR a 8
  · obtain ⟨k_a, hk_a, rfl⟩ := q3
    refine pc_Sv (As := [.int (nI k_a), .int (nI 8)]) (rest := []) hx hb (hml.trans hl.1.symm) hown ht F hP hD hS (c_SG_checkBelow l g (CW g ad rg hd od tx ty sm pa pr fl op du qa ab ac qb be bc wd ++ X) k_a 8 (by omega) (by omega)) v_SG_checkBelow tw_161 ⟨rfl, rfl⟩ ⟨by decide, by decide⟩ rfl rfl (Nat.le_of_ble_eq_true rfl) ⟨Nat.zero_le _, Nat.zero_le _⟩ d_SG_equal_3 (fun u9 H locs hq hP hD hS => ?_)
    refine lv_iload_n hx hb d_SG_equal_6 rfl (lv_at hl 2 rfl) ?_
    refine lv_bipush (v := nI 8) hx hb d_SG_equal_7 (by decide) ?_
    by_cases q9 : inR b 8
    · exact (hbad ⟨inR_nI hk_a, q9⟩).elim
    · refine xc_S (As := [.int b, .int (nI 8)]) (rest := []) hx hb (hml.trans hl.1.symm) hown ht F hP hD hS (x_SG_checkBelow l hl0 g (CW g ad rg hd od tx ty sm pa pr fl op du qa ab ac qb be bc wd ++ X) b 8 q9 (by decide)) v_SG_checkBelow tw_161 ⟨rfl, rfl⟩ ⟨by decide, by decide⟩ rfl rfl (Nat.le_of_ble_eq_true rfl) ⟨by decide, by decide⟩ d_SG_equal_9 (fun ce q9 H locs hP hD hS z1 z2 z3 => ?_)
      exact xc_out hex hlk F hP hD hS z1 z2 z3 (by decide) (by decide)
  · refine xc_S (As := [.int a, .int (nI 8)]) (rest := []) hx hb (hml.trans hl.1.symm) hown ht F hP hD hS (x_SG_checkBelow l hl0 g (CW g ad rg hd od tx ty sm pa pr fl op du qa ab ac qb be bc wd ++ X) a 8 q3 (by decide)) v_SG_checkBelow tw_161 ⟨rfl, rfl⟩ ⟨by decide, by decide⟩ rfl rfl (Nat.le_of_ble_eq_true rfl) ⟨by decide, by decide⟩ d_SG_equal_3 (fun ce q9 H locs hP hD hS z1 z2 z3 => ?_)
    exact xc_out hex hlk F hP hD hS z1 z2 z3 (by decide) (by decide)
set_option maxRecDepth 100000 in
set_option maxHeartbeats 4000000 in
theorem x1_SG_value (l : Launch) (hl0 : l.stackTraces = false) (g : Gx) (ad : Nat → Nat) (rg : Nat → Int64) (hd : Nat → Int32) (od : Nat → Int32) (tx : Nat → Int32) (ty : Int32) (sm : Nat → Int64) (pa : Nat → Int64) (pr : Nat → Int64) (fl : Nat → Int64) (op : Int32) (du : Int32) (qa : Nat) (ab : Nat → Int64) (ac : Int32) (qb : Nat) (be : Nat → Int64) (bc : Int32) (wd : Nat → Int32) (X : va_W) (a k : Int32) (hbad : ¬ (inR a 8 ∧ inR k 64)) : vx_Met l y_SG_value (w_SG_value :: TW) rx_SG_value (va_Pc [.ref (ad 0), .int a, .int k] (PR g (CW g ad rg hd od tx ty sm pa pr fl op du qa ab ac qb be bc wd ++ X))) qF (xT g IAE (CW g ad rg hd od tx ty sm pa pr fl op du qa ab ac qb be bc wd ++ X)) 1 6 (gA g) := by
  refine mx_of (by decide) (Nat.le_of_ble_eq_true rfl) ?_
  intro p e s m below meth c ls hx hb hr hml hlk hown ht hex F hP hD hl
  have hl : lv_has ls 3 [(0, .ref (ad 0)), (1, .int a), (2, .int k)] := hl
  have hS : va_S (gA g) s.heap s.heap [] := va_S.rf
  refine lv_iload_n hx hb d_SG_value_0 rfl (lv_at hl 1 rfl) ?_
  refine lv_bipush (v := nI 8) hx hb d_SG_value_1 (by decide) ?_
  by_cases q3 : inR a 8
  · obtain ⟨k_a, hk_a, rfl⟩ := q3
    refine pc_Sv (As := [.int (nI k_a), .int (nI 8)]) (rest := []) hx hb (hml.trans hl.1.symm) hown ht F hP hD hS (c_SG_checkBelow l g (CW g ad rg hd od tx ty sm pa pr fl op du qa ab ac qb be bc wd ++ X) k_a 8 (by omega) (by omega)) v_SG_checkBelow tw_161 ⟨rfl, rfl⟩ ⟨by decide, by decide⟩ rfl rfl (Nat.le_of_ble_eq_true rfl) ⟨Nat.zero_le _, Nat.zero_le _⟩ d_SG_value_3 (fun u9 H locs hq hP hD hS => ?_)
    refine lv_iload_n hx hb d_SG_value_6 rfl (lv_at hl 2 rfl) ?_
    refine lv_bipush (v := nI 64) hx hb d_SG_value_7 (by decide) ?_
    by_cases q9 : inR k 64
    · exact (hbad ⟨inR_nI hk_a, q9⟩).elim
    · refine xc_S (As := [.int k, .int (nI 64)]) (rest := []) hx hb (hml.trans hl.1.symm) hown ht F hP hD hS (x_SG_checkBelow l hl0 g (CW g ad rg hd od tx ty sm pa pr fl op du qa ab ac qb be bc wd ++ X) k 64 q9 (by decide)) v_SG_checkBelow tw_161 ⟨rfl, rfl⟩ ⟨by decide, by decide⟩ rfl rfl (Nat.le_of_ble_eq_true rfl) ⟨by decide, by decide⟩ d_SG_value_9 (fun ce q9 H locs hP hD hS z1 z2 z3 => ?_)
      exact xc_out hex hlk F hP hD hS z1 z2 z3 (by decide) (by decide)
  · refine xc_S (As := [.int a, .int (nI 8)]) (rest := []) hx hb (hml.trans hl.1.symm) hown ht F hP hD hS (x_SG_checkBelow l hl0 g (CW g ad rg hd od tx ty sm pa pr fl op du qa ab ac qb be bc wd ++ X) a 8 q3 (by decide)) v_SG_checkBelow tw_161 ⟨rfl, rfl⟩ ⟨by decide, by decide⟩ rfl rfl (Nat.le_of_ble_eq_true rfl) ⟨by decide, by decide⟩ d_SG_value_3 (fun ce q9 H locs hP hD hS z1 z2 z3 => ?_)
    exact xc_out hex hlk F hP hD hS z1 z2 z3 (by decide) (by decide)
set_option maxRecDepth 100000 in
set_option maxHeartbeats 4000000 in
theorem x1_SG_count (l : Launch) (hl0 : l.stackTraces = false) (g : Gx) (ad : Nat → Nat) (rg : Nat → Int64) (hd : Nat → Int32) (od : Nat → Int32) (tx : Nat → Int32) (ty : Int32) (sm : Nat → Int64) (pa : Nat → Int64) (pr : Nat → Int64) (fl : Nat → Int64) (op : Int32) (du : Int32) (qa : Nat) (ab : Nat → Int64) (ac : Int32) (qb : Nat) (be : Nat → Int64) (bc : Int32) (wd : Nat → Int32) (X : va_W) (a : Int32) (hbad : ¬ (inR a 8)) : vx_Met l y_SG_count (w_SG_count :: TW) rx_SG_count (va_Pc [.ref (ad 0), .int a] (PR g (CW g ad rg hd od tx ty sm pa pr fl op du qa ab ac qb be bc wd ++ X))) qF (xT g IAE (CW g ad rg hd od tx ty sm pa pr fl op du qa ab ac qb be bc wd ++ X)) 1 6 (gA g) := by
  refine mx_of (by decide) (Nat.le_of_ble_eq_true rfl) ?_
  intro p e s m below meth c ls hx hb hr hml hlk hown ht hex F hP hD hl
  have hl : lv_has ls 2 [(0, .ref (ad 0)), (1, .int a)] := hl
  have hS : va_S (gA g) s.heap s.heap [] := va_S.rf
  refine lv_iload_n hx hb d_SG_count_0 rfl (lv_at hl 1 rfl) ?_
  refine lv_bipush (v := nI 8) hx hb d_SG_count_1 (by decide) ?_
  by_cases q3 : inR a 8
  · exact (hbad q3).elim
  · refine xc_S (As := [.int a, .int (nI 8)]) (rest := []) hx hb (hml.trans hl.1.symm) hown ht F hP hD hS (x_SG_checkBelow l hl0 g (CW g ad rg hd od tx ty sm pa pr fl op du qa ab ac qb be bc wd ++ X) a 8 q3 (by decide)) v_SG_checkBelow tw_161 ⟨rfl, rfl⟩ ⟨by decide, by decide⟩ rfl rfl (Nat.le_of_ble_eq_true rfl) ⟨by decide, by decide⟩ d_SG_count_3 (fun ce q9 H locs hP hD hS z1 z2 z3 => ?_)
    exact xc_out hex hlk F hP hD hS z1 z2 z3 (by decide) (by decide)
set_option maxRecDepth 100000 in
set_option maxHeartbeats 4000000 in
theorem x1_SG_least (l : Launch) (hl0 : l.stackTraces = false) (g : Gx) (ad : Nat → Nat) (rg : Nat → Int64) (hd : Nat → Int32) (od : Nat → Int32) (tx : Nat → Int32) (ty : Int32) (sm : Nat → Int64) (pa : Nat → Int64) (pr : Nat → Int64) (fl : Nat → Int64) (op : Int32) (du : Int32) (qa : Nat) (ab : Nat → Int64) (ac : Int32) (qb : Nat) (be : Nat → Int64) (bc : Int32) (wd : Nat → Int32) (X : va_W) (a : Int32) (hbad : ¬ (inR a 8)) : vx_Met l y_SG_least (w_SG_least :: TW) rx_SG_least (va_Pc [.ref (ad 0), .int a] (PR g (CW g ad rg hd od tx ty sm pa pr fl op du qa ab ac qb be bc wd ++ X))) qF (xT g IAE (CW g ad rg hd od tx ty sm pa pr fl op du qa ab ac qb be bc wd ++ X)) 1 6 (gA g) := by
  refine mx_of (by decide) (Nat.le_of_ble_eq_true rfl) ?_
  intro p e s m below meth c ls hx hb hr hml hlk hown ht hex F hP hD hl
  have hl : lv_has ls 5 [(0, .ref (ad 0)), (1, .int a)] := hl
  have hS : va_S (gA g) s.heap s.heap [] := va_S.rf
  refine lv_iload_n hx hb d_SG_least_0 rfl (lv_at hl 1 rfl) ?_
  refine lv_bipush (v := nI 8) hx hb d_SG_least_1 (by decide) ?_
  by_cases q3 : inR a 8
  · exact (hbad q3).elim
  · refine xc_S (As := [.int a, .int (nI 8)]) (rest := []) hx hb (hml.trans hl.1.symm) hown ht F hP hD hS (x_SG_checkBelow l hl0 g (CW g ad rg hd od tx ty sm pa pr fl op du qa ab ac qb be bc wd ++ X) a 8 q3 (by decide)) v_SG_checkBelow tw_161 ⟨rfl, rfl⟩ ⟨by decide, by decide⟩ rfl rfl (Nat.le_of_ble_eq_true rfl) ⟨by decide, by decide⟩ d_SG_least_3 (fun ce q9 H locs hP hD hS z1 z2 z3 => ?_)
    exact xc_out hex hlk F hP hD hS z1 z2 z3 (by decide) (by decide)
set_option maxRecDepth 100000 in
set_option maxHeartbeats 4000000 in
theorem x1_SG_support (l : Launch) (hl0 : l.stackTraces = false) (g : Gx) (ad : Nat → Nat) (rg : Nat → Int64) (hd : Nat → Int32) (od : Nat → Int32) (tx : Nat → Int32) (ty : Int32) (sm : Nat → Int64) (pa : Nat → Int64) (pr : Nat → Int64) (fl : Nat → Int64) (op : Int32) (du : Int32) (qa : Nat) (ab : Nat → Int64) (ac : Int32) (qb : Nat) (be : Nat → Int64) (bc : Int32) (wd : Nat → Int32) (X : va_W) (a : Int32) (hbad : ¬ (inR a 8)) : vx_Met l y_SG_support (w_SG_support :: TW) rx_SG_support (va_Pc [.ref (ad 0), .int a] (PR g (CW g ad rg hd od tx ty sm pa pr fl op du qa ab ac qb be bc wd ++ X))) qF (xT g IAE (CW g ad rg hd od tx ty sm pa pr fl op du qa ab ac qb be bc wd ++ X)) 1 6 (gA g) := by
  refine mx_of (by decide) (Nat.le_of_ble_eq_true rfl) ?_
  intro p e s m below meth c ls hx hb hr hml hlk hown ht hex F hP hD hl
  have hl : lv_has ls 6 [(0, .ref (ad 0)), (1, .int a)] := hl
  have hS : va_S (gA g) s.heap s.heap [] := va_S.rf
  refine lv_iload_n hx hb d_SG_support_0 rfl (lv_at hl 1 rfl) ?_
  refine lv_bipush (v := nI 8) hx hb d_SG_support_1 (by decide) ?_
  by_cases q3 : inR a 8
  · exact (hbad q3).elim
  · refine xc_S (As := [.int a, .int (nI 8)]) (rest := []) hx hb (hml.trans hl.1.symm) hown ht F hP hD hS (x_SG_checkBelow l hl0 g (CW g ad rg hd od tx ty sm pa pr fl op du qa ab ac qb be bc wd ++ X) a 8 q3 (by decide)) v_SG_checkBelow tw_161 ⟨rfl, rfl⟩ ⟨by decide, by decide⟩ rfl rfl (Nat.le_of_ble_eq_true rfl) ⟨by decide, by decide⟩ d_SG_support_3 (fun ce q9 H locs hP hD hS z1 z2 z3 => ?_)
    exact xc_out hex hlk F hP hD hS z1 z2 z3 (by decide) (by decide)
set_option maxRecDepth 100000 in
set_option maxHeartbeats 4000000 in
theorem x1_SG_size (l : Launch) (hl0 : l.stackTraces = false) (g : Gx) (ad : Nat → Nat) (rg : Nat → Int64) (hd : Nat → Int32) (od : Nat → Int32) (tx : Nat → Int32) (ty : Int32) (sm : Nat → Int64) (pa : Nat → Int64) (pr : Nat → Int64) (fl : Nat → Int64) (op : Int32) (du : Int32) (qa : Nat) (ab : Nat → Int64) (ac : Int32) (qb : Nat) (be : Nat → Int64) (bc : Int32) (wd : Nat → Int32) (X : va_W) (a : Int32) (hbad : ¬ (inR a 8)) : vx_Met l y_SG_size (w_SG_size :: TW) rx_SG_size (va_Pc [.ref (ad 0), .int a] (PR g (CW g ad rg hd od tx ty sm pa pr fl op du qa ab ac qb be bc wd ++ X))) qF (xT g IAE (CW g ad rg hd od tx ty sm pa pr fl op du qa ab ac qb be bc wd ++ X)) 1 6 (gA g) := by
  refine mx_of (by decide) (Nat.le_of_ble_eq_true rfl) ?_
  intro p e s m below meth c ls hx hb hr hml hlk hown ht hex F hP hD hl
  have hl : lv_has ls 2 [(0, .ref (ad 0)), (1, .int a)] := hl
  have hS : va_S (gA g) s.heap s.heap [] := va_S.rf
  refine lv_iload_n hx hb d_SG_size_0 rfl (lv_at hl 1 rfl) ?_
  refine lv_bipush (v := nI 8) hx hb d_SG_size_1 (by decide) ?_
  by_cases q3 : inR a 8
  · exact (hbad q3).elim
  · refine xc_S (As := [.int a, .int (nI 8)]) (rest := []) hx hb (hml.trans hl.1.symm) hown ht F hP hD hS (x_SG_checkBelow l hl0 g (CW g ad rg hd od tx ty sm pa pr fl op du qa ab ac qb be bc wd ++ X) a 8 q3 (by decide)) v_SG_checkBelow tw_161 ⟨rfl, rfl⟩ ⟨by decide, by decide⟩ rfl rfl (Nat.le_of_ble_eq_true rfl) ⟨by decide, by decide⟩ d_SG_size_3 (fun ce q9 H locs hP hD hS z1 z2 z3 => ?_)
    exact xc_out hex hlk F hP hD hS z1 z2 z3 (by decide) (by decide)
set_option maxRecDepth 100000 in
set_option maxHeartbeats 4000000 in
theorem x1_SG_width (l : Launch) (hl0 : l.stackTraces = false) (g : Gx) (ad : Nat → Nat) (rg : Nat → Int64) (hd : Nat → Int32) (od : Nat → Int32) (tx : Nat → Int32) (ty : Int32) (sm : Nat → Int64) (pa : Nat → Int64) (pr : Nat → Int64) (fl : Nat → Int64) (op : Int32) (du : Int32) (qa : Nat) (ab : Nat → Int64) (ac : Int32) (qb : Nat) (be : Nat → Int64) (bc : Int32) (wd : Nat → Int32) (X : va_W) (k : Int32) (hbad : ¬ (inR k 6)) : vx_Met l y_SG_width (w_SG_width :: TW) rx_SG_width (va_Pc [.ref (ad 0), .int k] (PR g (CW g ad rg hd od tx ty sm pa pr fl op du qa ab ac qb be bc wd ++ X))) qF (xT g IAE (CW g ad rg hd od tx ty sm pa pr fl op du qa ab ac qb be bc wd ++ X)) 1 6 (gA g) := by
  refine mx_of (by decide) (Nat.le_of_ble_eq_true rfl) ?_
  intro p e s m below meth c ls hx hb hr hml hlk hown ht hex F hP hD hl
  have hl : lv_has ls 2 [(0, .ref (ad 0)), (1, .int k)] := hl
  have hS : va_S (gA g) s.heap s.heap [] := va_S.rf
  refine lv_iload_n hx hb d_SG_width_0 rfl (lv_at hl 1 rfl) ?_
  refine lv_bipush (v := nI 6) hx hb d_SG_width_1 (by decide) ?_
  by_cases q3 : inR k 6
  · exact (hbad q3).elim
  · refine xc_S (As := [.int k, .int (nI 6)]) (rest := []) hx hb (hml.trans hl.1.symm) hown ht F hP hD hS (x_SG_checkBelow l hl0 g (CW g ad rg hd od tx ty sm pa pr fl op du qa ab ac qb be bc wd ++ X) k 6 q3 (by decide)) v_SG_checkBelow tw_161 ⟨rfl, rfl⟩ ⟨by decide, by decide⟩ rfl rfl (Nat.le_of_ble_eq_true rfl) ⟨by decide, by decide⟩ d_SG_width_3 (fun ce q9 H locs hP hD hS z1 z2 z3 => ?_)
    exact xc_out hex hlk F hP hD hS z1 z2 z3 (by decide) (by decide)
set_option maxRecDepth 100000 in
set_option maxHeartbeats 4000000 in
theorem x1_SG_variable (l : Launch) (hl0 : l.stackTraces = false) (g : Gx) (ad : Nat → Nat) (rg : Nat → Int64) (hd : Nat → Int32) (od : Nat → Int32) (tx : Nat → Int32) (ty : Int32) (sm : Nat → Int64) (pa : Nat → Int64) (pr : Nat → Int64) (fl : Nat → Int64) (op : Int32) (du : Int32) (qa : Nat) (ab : Nat → Int64) (ac : Int32) (qb : Nat) (be : Nat → Int64) (bc : Int32) (wd : Nat → Int32) (X : va_W) (k : Int32) (hbad : ¬ (inR k 6)) : vx_Met l y_SG_variable (w_SG_variable :: TW) rx_SG_variable (va_Pc [.ref (ad 0), .int k] (PR g (CW g ad rg hd od tx ty sm pa pr fl op du qa ab ac qb be bc wd ++ X))) qF (xT g IAE (CW g ad rg hd od tx ty sm pa pr fl op du qa ab ac qb be bc wd ++ X)) 1 6 (gA g) := by
  refine mx_of (by decide) (Nat.le_of_ble_eq_true rfl) ?_
  intro p e s m below meth c ls hx hb hr hml hlk hown ht hex F hP hD hl
  have hl : lv_has ls 2 [(0, .ref (ad 0)), (1, .int k)] := hl
  have hS : va_S (gA g) s.heap s.heap [] := va_S.rf
  refine lv_iload_n hx hb d_SG_variable_0 rfl (lv_at hl 1 rfl) ?_
  refine lv_bipush (v := nI 6) hx hb d_SG_variable_1 (by decide) ?_
  by_cases q3 : inR k 6
  · exact (hbad q3).elim
  · refine xc_S (As := [.int k, .int (nI 6)]) (rest := []) hx hb (hml.trans hl.1.symm) hown ht F hP hD hS (x_SG_checkBelow l hl0 g (CW g ad rg hd od tx ty sm pa pr fl op du qa ab ac qb be bc wd ++ X) k 6 q3 (by decide)) v_SG_checkBelow tw_161 ⟨rfl, rfl⟩ ⟨by decide, by decide⟩ rfl rfl (Nat.le_of_ble_eq_true rfl) ⟨by decide, by decide⟩ d_SG_variable_3 (fun ce q9 H locs hP hD hS z1 z2 z3 => ?_)
    exact xc_out hex hlk F hP hD hS z1 z2 z3 (by decide) (by decide)
set_option maxRecDepth 100000 in
set_option maxHeartbeats 4000000 in
theorem x1_SG_swap (l : Launch) (hl0 : l.stackTraces = false) (g : Gx) (ad : Nat → Nat) (rg : Nat → Int64) (hd : Nat → Int32) (od : Nat → Int32) (tx : Nat → Int32) (ty : Int32) (sm : Nat → Int64) (pa : Nat → Int64) (pr : Nat → Int64) (fl : Nat → Int64) (op : Int32) (du : Int32) (qa : Nat) (ab : Nat → Int64) (ac : Int32) (qb : Nat) (be : Nat → Int64) (bc : Int32) (wd : Nat → Int32) (X : va_W) (k : Int32) (hbad : ¬ (inR k 5)) : vx_Met l y_SG_swap (w_SG_swap :: TW) rx_SG_swap (va_Pc [.ref (ad 0), .int k] (PR g (CW g ad rg hd od tx ty sm pa pr fl op du qa ab ac qb be bc wd ++ X))) qF (xT g IAE (CW g ad rg hd od tx ty sm pa pr fl op du qa ab ac qb be bc wd ++ X)) 1 6 (gA g) := by
  refine mx_of (by decide) (Nat.le_of_ble_eq_true rfl) ?_
  intro p e s m below meth c ls hx hb hr hml hlk hown ht hex F hP hD hl
  have hl : lv_has ls 2 [(0, .ref (ad 0)), (1, .int k)] := hl
  have hS : va_S (gA g) s.heap s.heap [] := va_S.rf
  refine lv_iload_n hx hb d_SG_swap_0 rfl (lv_at hl 1 rfl) ?_
  refine lv_iconst (v := nI 5) hx hb d_SG_swap_1 (by decide) ?_
  by_cases q2 : inR k 5
  · exact (hbad q2).elim
  · refine xc_S (As := [.int k, .int (nI 5)]) (rest := []) hx hb (hml.trans hl.1.symm) hown ht F hP hD hS (x_SG_checkBelow l hl0 g (CW g ad rg hd od tx ty sm pa pr fl op du qa ab ac qb be bc wd ++ X) k 5 q2 (by decide)) v_SG_checkBelow tw_161 ⟨rfl, rfl⟩ ⟨by decide, by decide⟩ rfl rfl (Nat.le_of_ble_eq_true rfl) ⟨by decide, by decide⟩ d_SG_swap_2 (fun ce q9 H locs hP hD hS z1 z2 z3 => ?_)
    exact xc_out hex hlk F hP hD hS z1 z2 z3 (by decide) (by decide)
set_option maxRecDepth 100000 in
set_option maxHeartbeats 4000000 in
theorem x1_SG_sift (l : Launch) (hl0 : l.stackTraces = false) (g : Gx) (ad : Nat → Nat) (rg : Nat → Int64) (hd : Nat → Int32) (od : Nat → Int32) (tx : Nat → Int32) (ty : Int32) (sm : Nat → Int64) (pa : Nat → Int64) (pr : Nat → Int64) (fl : Nat → Int64) (op : Int32) (du : Int32) (qa : Nat) (ab : Nat → Int64) (ac : Int32) (qb : Nat) (be : Nat → Int64) (bc : Int32) (wd : Nat → Int32) (X : va_W) (v : Int32) (hbad : ¬ (inR v 6)) : vx_Met l y_SG_sift (w_SG_sift :: TW) rx_SG_sift (va_Pc [.ref (ad 0), .int v] (PR g (CW g ad rg hd od tx ty sm pa pr fl op du qa ab ac qb be bc wd ++ X))) qF (xT g IAE (CW g ad rg hd od tx ty sm pa pr fl op du qa ab ac qb be bc wd ++ X)) 1 6 (gA g) := by
  refine mx_of (by decide) (Nat.le_of_ble_eq_true rfl) ?_
  intro p e s m below meth c ls hx hb hr hml hlk hown ht hex F hP hD hl
  have hl : lv_has ls 6 [(0, .ref (ad 0)), (1, .int v)] := hl
  have hS : va_S (gA g) s.heap s.heap [] := va_S.rf
  refine lv_iload_n hx hb d_SG_sift_0 rfl (lv_at hl 1 rfl) ?_
  refine lv_bipush (v := nI 6) hx hb d_SG_sift_1 (by decide) ?_
  by_cases q3 : inR v 6
  · exact (hbad q3).elim
  · refine xc_S (As := [.int v, .int (nI 6)]) (rest := []) hx hb (hml.trans hl.1.symm) hown ht F hP hD hS (x_SG_checkBelow l hl0 g (CW g ad rg hd od tx ty sm pa pr fl op du qa ab ac qb be bc wd ++ X) v 6 q3 (by decide)) v_SG_checkBelow tw_161 ⟨rfl, rfl⟩ ⟨by decide, by decide⟩ rfl rfl (Nat.le_of_ble_eq_true rfl) ⟨by decide, by decide⟩ d_SG_sift_3 (fun ce q9 H locs hP hD hS z1 z2 z3 => ?_)
    exact xc_out hex hlk F hP hD hS z1 z2 z3 (by decide) (by decide)
set_option maxRecDepth 100000 in
set_option maxHeartbeats 4000000 in
theorem x2_SG_apply (l : Launch) (hl0 : l.stackTraces = false) (g : Gx) (ad : Nat → Nat) (rg : Nat → Int64) (hd : Nat → Int32) (od : Nat → Int32) (tx : Nat → Int32) (ty : Int32) (sm : Nat → Int64) (pa : Nat → Int64) (pr : Nat → Int64) (fl : Nat → Int64) (op : Int32) (du : Int32) (qa : Nat) (ab : Nat → Int64) (ac : Int32) (qb : Nat) (be : Nat → Int64) (bc : Int32) (wd : Nat → Int32) (X : va_W) (r a b o : Nat) (g0 : r < 8) (g1 : a < 8) (g2 : b < 8) (g3 : o < 16) (h9 : ∀ i, i < 8 → hd i = 0 ∨ hd i = 1) (hbad : ¬ (hd a = 1 ∧ hd b = 1)) : vx_Met l y_SG_apply (w_SG_apply :: TW) rx_SG_apply (va_Pc [.ref (ad 0), .int (nI r), .int (nI a), .int (nI b), .int (nI o)] (PR g (CW g ad rg hd od tx ty sm pa pr fl op du qa ab ac qb be bc wd ++ X))) qF (xT g NSE (CW g ad rg hd od tx ty sm pa pr fl op du qa ab ac qb be bc wd ++ X)) 1 6 (gA g) := by
  refine mx_of (by decide) (Nat.le_of_ble_eq_true rfl) ?_
  intro p e s m below meth c ls hx hb hr hml hlk hown ht hex F hP hD hl
  have hl : lv_has ls 5 [(0, .ref (ad 0)), (1, .int (nI r)), (2, .int (nI a)), (3, .int (nI b)), (4, .int (nI o))] := hl
  have hS : va_S (gA g) s.heap s.heap [] := va_S.rf
  refine lv_iload_n hx hb d_SG_apply_0 rfl (lv_at hl 1 rfl) ?_
  refine lv_bipush (v := nI 8) hx hb d_SG_apply_1 (by decide) ?_
  refine pc_Sv (As := [.int (nI r), .int (nI 8)]) (rest := []) hx hb (hml.trans hl.1.symm) hown ht F hP hD hS (c_SG_checkBelow l g (CW g ad rg hd od tx ty sm pa pr fl op du qa ab ac qb be bc wd ++ X) r 8 (by omega) (by omega)) v_SG_checkBelow tw_161 ⟨rfl, rfl⟩ ⟨by decide, by decide⟩ rfl rfl (Nat.le_of_ble_eq_true rfl) ⟨Nat.zero_le _, Nat.zero_le _⟩ d_SG_apply_3 (fun u9 H locs hq hP hD hS => ?_)
  refine lv_iload_n hx hb d_SG_apply_6 rfl (lv_at hl 2 rfl) ?_
  refine lv_bipush (v := nI 8) hx hb d_SG_apply_7 (by decide) ?_
  refine pc_Sv (As := [.int (nI a), .int (nI 8)]) (rest := []) hx hb (hml.trans hl.1.symm) hown ht F hP hD hS (c_SG_checkBelow l g (CW g ad rg hd od tx ty sm pa pr fl op du qa ab ac qb be bc wd ++ X) a 8 (by omega) (by omega)) v_SG_checkBelow tw_161 ⟨rfl, rfl⟩ ⟨by decide, by decide⟩ rfl rfl (Nat.le_of_ble_eq_true rfl) ⟨Nat.zero_le _, Nat.zero_le _⟩ d_SG_apply_9 (fun u9 H locs hq hP hD hS => ?_)
  refine lv_iload_n hx hb d_SG_apply_12 rfl (lv_at hl 3 rfl) ?_
  refine lv_bipush (v := nI 8) hx hb d_SG_apply_13 (by decide) ?_
  refine pc_Sv (As := [.int (nI b), .int (nI 8)]) (rest := []) hx hb (hml.trans hl.1.symm) hown ht F hP hD hS (c_SG_checkBelow l g (CW g ad rg hd od tx ty sm pa pr fl op du qa ab ac qb be bc wd ++ X) b 8 (by omega) (by omega)) v_SG_checkBelow tw_161 ⟨rfl, rfl⟩ ⟨by decide, by decide⟩ rfl rfl (Nat.le_of_ble_eq_true rfl) ⟨Nat.zero_le _, Nat.zero_le _⟩ d_SG_apply_15 (fun u9 H locs hq hP hD hS => ?_)
  refine lv_iload hx hb d_SG_apply_18 (lv_at hl 4 rfl) ?_
  refine lv_bipush (v := nI 16) hx hb d_SG_apply_20 (by decide) ?_
  refine pc_Sv (As := [.int (nI o), .int (nI 16)]) (rest := []) hx hb (hml.trans hl.1.symm) hown ht F hP hD hS (c_SG_checkBelow l g (CW g ad rg hd od tx ty sm pa pr fl op du qa ab ac qb be bc wd ++ X) o 16 (by omega) (by omega)) v_SG_checkBelow tw_161 ⟨rfl, rfl⟩ ⟨by decide, by decide⟩ rfl rfl (Nat.le_of_ble_eq_true rfl) ⟨Nat.zero_le _, Nat.zero_le _⟩ d_SG_apply_22 (fun u9 H locs hq hP hD hS => ?_)
  refine lv_aload_n hx hb d_SG_apply_25 rfl (lv_at hl 0 rfl) ?_
  refine va_get (ci := 3) (v := .ref (ad 1)) (C := R_SG) (T := T_SG) (N := 6) hx hb ht i_SG hown F.2.1 hP 0 rfl rfl 0 (by decide) (ht _ tw_85) (fun _ h9 => h9) rfl d_SG_apply_26 ?_
  refine lv_iload_n hx hb d_SG_apply_29 rfl (lv_at hl 1 rfl) ?_
  refine lv_aload_n hx hb d_SG_apply_30 rfl (lv_at hl 0 rfl) ?_
  refine lv_iload_n hx hb d_SG_apply_31 rfl (lv_at hl 2 rfl) ?_
  rcases h9 a (by omega) with z32 | z32
  · refine xc_V (q0 := 0) (As := [.int (nI a)]) (rest := [.int (nI r), .ref (ad 1)]) hx hb (hml.trans hl.1.symm) hown ht F hP hD hS (x_SG_look l hl0 g ad rg hd od tx ty sm pa pr fl op du qa ab ac qb be bc wd X a (by omega) z32) v_SG_look tw_242 ⟨rfl, rfl⟩ ⟨by decide, by decide⟩ rfl rfl rfl rfl (Nat.le_of_ble_eq_true rfl) ⟨by decide, by decide⟩ d_SG_apply_32 (fun ce q9 H locs hP hD hS z1 z2 z3 => ?_)
    exact xc_out hex hlk F hP hD hS z1 z2 z3 (by decide) (by decide)
  · refine pc_Vl (q0 := 0) (As := [.int (nI a)]) (rest := [.int (nI r), .ref (ad 1)]) hx hb (hml.trans hl.1.symm) hown ht F hP hD hS (c_SG_look l g ad rg hd od tx ty sm pa pr fl op du qa ab ac qb be bc wd X a (by omega) z32) v_SG_look tw_242 ⟨rfl, rfl⟩ ⟨by decide, by decide⟩ rfl rfl rfl rfl (Nat.le_of_ble_eq_true rfl) ⟨Nat.zero_le _, Nat.zero_le _⟩ d_SG_apply_32 (fun r9 u9 H locs hq hP hD hS => ?_)
    subst hq
    refine lv_aload_n hx hb d_SG_apply_35 rfl (lv_at hl 0 rfl) ?_
    refine lv_iload_n hx hb d_SG_apply_36 rfl (lv_at hl 3 rfl) ?_
    rcases h9 b (by omega) with z37 | z37
    · refine xc_V (q0 := 0) (As := [.int (nI b)]) (rest := [.long (rg a), .int (nI r), .ref (ad 1)]) hx hb (hml.trans hl.1.symm) hown ht F hP hD hS (x_SG_look l hl0 g ad rg hd od tx ty sm pa pr fl op du qa ab ac qb be bc wd X b (by omega) z37) v_SG_look tw_242 ⟨rfl, rfl⟩ ⟨by decide, by decide⟩ rfl rfl rfl rfl (Nat.le_of_ble_eq_true rfl) ⟨by decide, by decide⟩ d_SG_apply_37 (fun ce q9 H locs hP hD hS z1 z2 z3 => ?_)
      exact xc_out hex hlk F hP hD hS z1 z2 z3 (by decide) (by decide)
    · exact (hbad ⟨z32, z37⟩).elim
set_option maxRecDepth 100000 in
set_option maxHeartbeats 4000000 in
theorem x2_SG_choose (l : Launch) (hl0 : l.stackTraces = false) (g : Gx) (ad : Nat → Nat) (rg : Nat → Int64) (hd : Nat → Int32) (od : Nat → Int32) (tx : Nat → Int32) (ty : Int32) (sm : Nat → Int64) (pa : Nat → Int64) (pr : Nat → Int64) (fl : Nat → Int64) (op : Int32) (du : Int32) (qa : Nat) (ab : Nat → Int64) (ac : Int32) (qb : Nat) (be : Nat → Int64) (bc : Int32) (wd : Nat → Int32) (X : va_W) (r a b d : Nat) (g0 : r < 8) (g1 : a < 8) (g2 : b < 8) (g3 : d < 8) (h9 : ∀ i, i < 8 → hd i = 0 ∨ hd i = 1) (hbad : ¬ (hd a = 1 ∧ hd b = 1 ∧ hd d = 1)) : vx_Met l y_SG_choose (w_SG_choose :: TW) rx_SG_choose (va_Pc [.ref (ad 0), .int (nI r), .int (nI a), .int (nI b), .int (nI d)] (PR g (CW g ad rg hd od tx ty sm pa pr fl op du qa ab ac qb be bc wd ++ X))) qF (xT g NSE (CW g ad rg hd od tx ty sm pa pr fl op du qa ab ac qb be bc wd ++ X)) 1 6 (gA g) := by
  refine mx_of (by decide) (Nat.le_of_ble_eq_true rfl) ?_
  intro p e s m below meth c ls hx hb hr hml hlk hown ht hex F hP hD hl
  have hl : lv_has ls 5 [(0, .ref (ad 0)), (1, .int (nI r)), (2, .int (nI a)), (3, .int (nI b)), (4, .int (nI d))] := hl
  have hS : va_S (gA g) s.heap s.heap [] := va_S.rf
  refine lv_iload_n hx hb d_SG_choose_0 rfl (lv_at hl 1 rfl) ?_
  refine lv_bipush (v := nI 8) hx hb d_SG_choose_1 (by decide) ?_
  refine pc_Sv (As := [.int (nI r), .int (nI 8)]) (rest := []) hx hb (hml.trans hl.1.symm) hown ht F hP hD hS (c_SG_checkBelow l g (CW g ad rg hd od tx ty sm pa pr fl op du qa ab ac qb be bc wd ++ X) r 8 (by omega) (by omega)) v_SG_checkBelow tw_161 ⟨rfl, rfl⟩ ⟨by decide, by decide⟩ rfl rfl (Nat.le_of_ble_eq_true rfl) ⟨Nat.zero_le _, Nat.zero_le _⟩ d_SG_choose_3 (fun u9 H locs hq hP hD hS => ?_)
  refine lv_iload_n hx hb d_SG_choose_6 rfl (lv_at hl 2 rfl) ?_
  refine lv_bipush (v := nI 8) hx hb d_SG_choose_7 (by decide) ?_
  refine pc_Sv (As := [.int (nI a), .int (nI 8)]) (rest := []) hx hb (hml.trans hl.1.symm) hown ht F hP hD hS (c_SG_checkBelow l g (CW g ad rg hd od tx ty sm pa pr fl op du qa ab ac qb be bc wd ++ X) a 8 (by omega) (by omega)) v_SG_checkBelow tw_161 ⟨rfl, rfl⟩ ⟨by decide, by decide⟩ rfl rfl (Nat.le_of_ble_eq_true rfl) ⟨Nat.zero_le _, Nat.zero_le _⟩ d_SG_choose_9 (fun u9 H locs hq hP hD hS => ?_)
  refine lv_iload_n hx hb d_SG_choose_12 rfl (lv_at hl 3 rfl) ?_
  refine lv_bipush (v := nI 8) hx hb d_SG_choose_13 (by decide) ?_
  refine pc_Sv (As := [.int (nI b), .int (nI 8)]) (rest := []) hx hb (hml.trans hl.1.symm) hown ht F hP hD hS (c_SG_checkBelow l g (CW g ad rg hd od tx ty sm pa pr fl op du qa ab ac qb be bc wd ++ X) b 8 (by omega) (by omega)) v_SG_checkBelow tw_161 ⟨rfl, rfl⟩ ⟨by decide, by decide⟩ rfl rfl (Nat.le_of_ble_eq_true rfl) ⟨Nat.zero_le _, Nat.zero_le _⟩ d_SG_choose_15 (fun u9 H locs hq hP hD hS => ?_)
  refine lv_iload hx hb d_SG_choose_18 (lv_at hl 4 rfl) ?_
  refine lv_bipush (v := nI 8) hx hb d_SG_choose_20 (by decide) ?_
  refine pc_Sv (As := [.int (nI d), .int (nI 8)]) (rest := []) hx hb (hml.trans hl.1.symm) hown ht F hP hD hS (c_SG_checkBelow l g (CW g ad rg hd od tx ty sm pa pr fl op du qa ab ac qb be bc wd ++ X) d 8 (by omega) (by omega)) v_SG_checkBelow tw_161 ⟨rfl, rfl⟩ ⟨by decide, by decide⟩ rfl rfl (Nat.le_of_ble_eq_true rfl) ⟨Nat.zero_le _, Nat.zero_le _⟩ d_SG_choose_22 (fun u9 H locs hq hP hD hS => ?_)
  refine lv_aload_n hx hb d_SG_choose_25 rfl (lv_at hl 0 rfl) ?_
  refine va_get (ci := 3) (v := .ref (ad 1)) (C := R_SG) (T := T_SG) (N := 6) hx hb ht i_SG hown F.2.1 hP 0 rfl rfl 0 (by decide) (ht _ tw_85) (fun _ h9 => h9) rfl d_SG_choose_26 ?_
  refine lv_iload_n hx hb d_SG_choose_29 rfl (lv_at hl 1 rfl) ?_
  refine lv_aload_n hx hb d_SG_choose_30 rfl (lv_at hl 0 rfl) ?_
  refine lv_iload_n hx hb d_SG_choose_31 rfl (lv_at hl 2 rfl) ?_
  rcases h9 a (by omega) with z32 | z32
  · refine xc_V (q0 := 0) (As := [.int (nI a)]) (rest := [.int (nI r), .ref (ad 1)]) hx hb (hml.trans hl.1.symm) hown ht F hP hD hS (x_SG_look l hl0 g ad rg hd od tx ty sm pa pr fl op du qa ab ac qb be bc wd X a (by omega) z32) v_SG_look tw_242 ⟨rfl, rfl⟩ ⟨by decide, by decide⟩ rfl rfl rfl rfl (Nat.le_of_ble_eq_true rfl) ⟨by decide, by decide⟩ d_SG_choose_32 (fun ce q9 H locs hP hD hS z1 z2 z3 => ?_)
    exact xc_out hex hlk F hP hD hS z1 z2 z3 (by decide) (by decide)
  · refine pc_Vl (q0 := 0) (As := [.int (nI a)]) (rest := [.int (nI r), .ref (ad 1)]) hx hb (hml.trans hl.1.symm) hown ht F hP hD hS (c_SG_look l g ad rg hd od tx ty sm pa pr fl op du qa ab ac qb be bc wd X a (by omega) z32) v_SG_look tw_242 ⟨rfl, rfl⟩ ⟨by decide, by decide⟩ rfl rfl rfl rfl (Nat.le_of_ble_eq_true rfl) ⟨Nat.zero_le _, Nat.zero_le _⟩ d_SG_choose_32 (fun r9 u9 H locs hq hP hD hS => ?_)
    subst hq
    refine lv_aload_n hx hb d_SG_choose_35 rfl (lv_at hl 0 rfl) ?_
    refine lv_iload_n hx hb d_SG_choose_36 rfl (lv_at hl 3 rfl) ?_
    rcases h9 b (by omega) with z37 | z37
    · refine xc_V (q0 := 0) (As := [.int (nI b)]) (rest := [.long (rg a), .int (nI r), .ref (ad 1)]) hx hb (hml.trans hl.1.symm) hown ht F hP hD hS (x_SG_look l hl0 g ad rg hd od tx ty sm pa pr fl op du qa ab ac qb be bc wd X b (by omega) z37) v_SG_look tw_242 ⟨rfl, rfl⟩ ⟨by decide, by decide⟩ rfl rfl rfl rfl (Nat.le_of_ble_eq_true rfl) ⟨by decide, by decide⟩ d_SG_choose_37 (fun ce q9 H locs hP hD hS z1 z2 z3 => ?_)
      exact xc_out hex hlk F hP hD hS z1 z2 z3 (by decide) (by decide)
    · refine pc_Vl (q0 := 0) (As := [.int (nI b)]) (rest := [.long (rg a), .int (nI r), .ref (ad 1)]) hx hb (hml.trans hl.1.symm) hown ht F hP hD hS (c_SG_look l g ad rg hd od tx ty sm pa pr fl op du qa ab ac qb be bc wd X b (by omega) z37) v_SG_look tw_242 ⟨rfl, rfl⟩ ⟨by decide, by decide⟩ rfl rfl rfl rfl (Nat.le_of_ble_eq_true rfl) ⟨Nat.zero_le _, Nat.zero_le _⟩ d_SG_choose_37 (fun r9 u9 H locs hq hP hD hS => ?_)
      subst hq
      refine lv_aload_n hx hb d_SG_choose_40 rfl (lv_at hl 0 rfl) ?_
      refine lv_iload hx hb d_SG_choose_41 (lv_at hl 4 rfl) ?_
      rcases h9 d (by omega) with z43 | z43
      · refine xc_V (q0 := 0) (As := [.int (nI d)]) (rest := [.long (rg b), .long (rg a), .int (nI r), .ref (ad 1)]) hx hb (hml.trans hl.1.symm) hown ht F hP hD hS (x_SG_look l hl0 g ad rg hd od tx ty sm pa pr fl op du qa ab ac qb be bc wd X d (by omega) z43) v_SG_look tw_242 ⟨rfl, rfl⟩ ⟨by decide, by decide⟩ rfl rfl rfl rfl (Nat.le_of_ble_eq_true rfl) ⟨by decide, by decide⟩ d_SG_choose_43 (fun ce q9 H locs hP hD hS z1 z2 z3 => ?_)
        exact xc_out hex hlk F hP hD hS z1 z2 z3 (by decide) (by decide)
      · exact (hbad ⟨z32, z37, z43⟩).elim
set_option maxRecDepth 100000 in
set_option maxHeartbeats 4000000 in
theorem x2_SG_restrict (l : Launch) (hl0 : l.stackTraces = false) (g : Gx) (ad : Nat → Nat) (rg : Nat → Int64) (hd : Nat → Int32) (od : Nat → Int32) (tx : Nat → Int32) (ty : Int32) (sm : Nat → Int64) (pa : Nat → Int64) (pr : Nat → Int64) (fl : Nat → Int64) (op : Int32) (du : Int32) (qa : Nat) (ab : Nat → Int64) (ac : Int32) (qb : Nat) (be : Nat → Int64) (bc : Int32) (wd : Nat → Int32) (X : va_W) (r a v : Nat) (z : Int32) (g0 : r < 8) (g1 : a < 8) (g2 : v < 6) (h9 : ∀ i, i < 8 → hd i = 0 ∨ hd i = 1) (hbad : ¬ (hd a = 1)) : vx_Met l y_SG_restrict (w_SG_restrict :: TW) rx_SG_restrict (va_Pc [.ref (ad 0), .int (nI r), .int (nI a), .int (nI v), .int z] (PR g (CW g ad rg hd od tx ty sm pa pr fl op du qa ab ac qb be bc wd ++ X))) qF (xT g NSE (CW g ad rg hd od tx ty sm pa pr fl op du qa ab ac qb be bc wd ++ X)) 1 6 (gA g) := by
  refine mx_of (by decide) (Nat.le_of_ble_eq_true rfl) ?_
  intro p e s m below meth c ls hx hb hr hml hlk hown ht hex F hP hD hl
  have hl : lv_has ls 7 [(0, .ref (ad 0)), (1, .int (nI r)), (2, .int (nI a)), (3, .int (nI v)), (4, .int z)] := hl
  have hS : va_S (gA g) s.heap s.heap [] := va_S.rf
  refine lv_iload_n hx hb d_SG_restrict_0 rfl (lv_at hl 1 rfl) ?_
  refine lv_bipush (v := nI 8) hx hb d_SG_restrict_1 (by decide) ?_
  refine pc_Sv (As := [.int (nI r), .int (nI 8)]) (rest := []) hx hb (hml.trans hl.1.symm) hown ht F hP hD hS (c_SG_checkBelow l g (CW g ad rg hd od tx ty sm pa pr fl op du qa ab ac qb be bc wd ++ X) r 8 (by omega) (by omega)) v_SG_checkBelow tw_161 ⟨rfl, rfl⟩ ⟨by decide, by decide⟩ rfl rfl (Nat.le_of_ble_eq_true rfl) ⟨Nat.zero_le _, Nat.zero_le _⟩ d_SG_restrict_3 (fun u9 H locs hq hP hD hS => ?_)
  refine lv_iload_n hx hb d_SG_restrict_6 rfl (lv_at hl 2 rfl) ?_
  refine lv_bipush (v := nI 8) hx hb d_SG_restrict_7 (by decide) ?_
  refine pc_Sv (As := [.int (nI a), .int (nI 8)]) (rest := []) hx hb (hml.trans hl.1.symm) hown ht F hP hD hS (c_SG_checkBelow l g (CW g ad rg hd od tx ty sm pa pr fl op du qa ab ac qb be bc wd ++ X) a 8 (by omega) (by omega)) v_SG_checkBelow tw_161 ⟨rfl, rfl⟩ ⟨by decide, by decide⟩ rfl rfl (Nat.le_of_ble_eq_true rfl) ⟨Nat.zero_le _, Nat.zero_le _⟩ d_SG_restrict_9 (fun u9 H locs hq hP hD hS => ?_)
  refine lv_iload_n hx hb d_SG_restrict_12 rfl (lv_at hl 3 rfl) ?_
  refine lv_bipush (v := nI 6) hx hb d_SG_restrict_13 (by decide) ?_
  refine pc_Sv (As := [.int (nI v), .int (nI 6)]) (rest := []) hx hb (hml.trans hl.1.symm) hown ht F hP hD hS (c_SG_checkBelow l g (CW g ad rg hd od tx ty sm pa pr fl op du qa ab ac qb be bc wd ++ X) v 6 (by omega) (by omega)) v_SG_checkBelow tw_161 ⟨rfl, rfl⟩ ⟨by decide, by decide⟩ rfl rfl (Nat.le_of_ble_eq_true rfl) ⟨Nat.zero_le _, Nat.zero_le _⟩ d_SG_restrict_15 (fun u9 H locs hq hP hD hS => ?_)
  refine lv_aload_n hx hb d_SG_restrict_18 rfl (lv_at hl 0 rfl) ?_
  refine lv_iload_n hx hb d_SG_restrict_19 rfl (lv_at hl 2 rfl) ?_
  rcases h9 a (by omega) with z20 | z20
  · refine xc_V (q0 := 0) (As := [.int (nI a)]) (rest := []) hx hb (hml.trans hl.1.symm) hown ht F hP hD hS (x_SG_look l hl0 g ad rg hd od tx ty sm pa pr fl op du qa ab ac qb be bc wd X a (by omega) z20) v_SG_look tw_242 ⟨rfl, rfl⟩ ⟨by decide, by decide⟩ rfl rfl rfl rfl (Nat.le_of_ble_eq_true rfl) ⟨by decide, by decide⟩ d_SG_restrict_20 (fun ce q9 H locs hP hD hS z1 z2 z3 => ?_)
    exact xc_out hex hlk F hP hD hS z1 z2 z3 (by decide) (by decide)
  · exact (hbad z20).elim
set_option maxRecDepth 100000 in
set_option maxHeartbeats 4000000 in
theorem x2_SG_compose (l : Launch) (hl0 : l.stackTraces = false) (g : Gx) (ad : Nat → Nat) (rg : Nat → Int64) (hd : Nat → Int32) (od : Nat → Int32) (tx : Nat → Int32) (ty : Int32) (sm : Nat → Int64) (pa : Nat → Int64) (pr : Nat → Int64) (fl : Nat → Int64) (op : Int32) (du : Int32) (qa : Nat) (ab : Nat → Int64) (ac : Int32) (qb : Nat) (be : Nat → Int64) (bc : Int32) (wd : Nat → Int32) (X : va_W) (r a v b : Nat) (g0 : r < 8) (g1 : a < 8) (g2 : v < 6) (g3 : b < 8) (h9 : ∀ i, i < 8 → hd i = 0 ∨ hd i = 1) (hbad : ¬ (hd a = 1 ∧ hd b = 1)) : vx_Met l y_SG_compose (w_SG_compose :: TW) rx_SG_compose (va_Pc [.ref (ad 0), .int (nI r), .int (nI a), .int (nI v), .int (nI b)] (PR g (CW g ad rg hd od tx ty sm pa pr fl op du qa ab ac qb be bc wd ++ X))) qF (xT g NSE (CW g ad rg hd od tx ty sm pa pr fl op du qa ab ac qb be bc wd ++ X)) 1 6 (gA g) := by
  refine mx_of (by decide) (Nat.le_of_ble_eq_true rfl) ?_
  intro p e s m below meth c ls hx hb hr hml hlk hown ht hex F hP hD hl
  have hl : lv_has ls 9 [(0, .ref (ad 0)), (1, .int (nI r)), (2, .int (nI a)), (3, .int (nI v)), (4, .int (nI b))] := hl
  have hS : va_S (gA g) s.heap s.heap [] := va_S.rf
  refine lv_iload_n hx hb d_SG_compose_0 rfl (lv_at hl 1 rfl) ?_
  refine lv_bipush (v := nI 8) hx hb d_SG_compose_1 (by decide) ?_
  refine pc_Sv (As := [.int (nI r), .int (nI 8)]) (rest := []) hx hb (hml.trans hl.1.symm) hown ht F hP hD hS (c_SG_checkBelow l g (CW g ad rg hd od tx ty sm pa pr fl op du qa ab ac qb be bc wd ++ X) r 8 (by omega) (by omega)) v_SG_checkBelow tw_161 ⟨rfl, rfl⟩ ⟨by decide, by decide⟩ rfl rfl (Nat.le_of_ble_eq_true rfl) ⟨Nat.zero_le _, Nat.zero_le _⟩ d_SG_compose_3 (fun u9 H locs hq hP hD hS => ?_)
  refine lv_iload_n hx hb d_SG_compose_6 rfl (lv_at hl 2 rfl) ?_
  refine lv_bipush (v := nI 8) hx hb d_SG_compose_7 (by decide) ?_
  refine pc_Sv (As := [.int (nI a), .int (nI 8)]) (rest := []) hx hb (hml.trans hl.1.symm) hown ht F hP hD hS (c_SG_checkBelow l g (CW g ad rg hd od tx ty sm pa pr fl op du qa ab ac qb be bc wd ++ X) a 8 (by omega) (by omega)) v_SG_checkBelow tw_161 ⟨rfl, rfl⟩ ⟨by decide, by decide⟩ rfl rfl (Nat.le_of_ble_eq_true rfl) ⟨Nat.zero_le _, Nat.zero_le _⟩ d_SG_compose_9 (fun u9 H locs hq hP hD hS => ?_)
  refine lv_iload_n hx hb d_SG_compose_12 rfl (lv_at hl 3 rfl) ?_
  refine lv_bipush (v := nI 6) hx hb d_SG_compose_13 (by decide) ?_
  refine pc_Sv (As := [.int (nI v), .int (nI 6)]) (rest := []) hx hb (hml.trans hl.1.symm) hown ht F hP hD hS (c_SG_checkBelow l g (CW g ad rg hd od tx ty sm pa pr fl op du qa ab ac qb be bc wd ++ X) v 6 (by omega) (by omega)) v_SG_checkBelow tw_161 ⟨rfl, rfl⟩ ⟨by decide, by decide⟩ rfl rfl (Nat.le_of_ble_eq_true rfl) ⟨Nat.zero_le _, Nat.zero_le _⟩ d_SG_compose_15 (fun u9 H locs hq hP hD hS => ?_)
  refine lv_iload hx hb d_SG_compose_18 (lv_at hl 4 rfl) ?_
  refine lv_bipush (v := nI 8) hx hb d_SG_compose_20 (by decide) ?_
  refine pc_Sv (As := [.int (nI b), .int (nI 8)]) (rest := []) hx hb (hml.trans hl.1.symm) hown ht F hP hD hS (c_SG_checkBelow l g (CW g ad rg hd od tx ty sm pa pr fl op du qa ab ac qb be bc wd ++ X) b 8 (by omega) (by omega)) v_SG_checkBelow tw_161 ⟨rfl, rfl⟩ ⟨by decide, by decide⟩ rfl rfl (Nat.le_of_ble_eq_true rfl) ⟨Nat.zero_le _, Nat.zero_le _⟩ d_SG_compose_22 (fun u9 H locs hq hP hD hS => ?_)
  refine lv_aload_n hx hb d_SG_compose_25 rfl (lv_at hl 0 rfl) ?_
  refine lv_iload_n hx hb d_SG_compose_26 rfl (lv_at hl 2 rfl) ?_
  rcases h9 a (by omega) with z27 | z27
  · refine xc_V (q0 := 0) (As := [.int (nI a)]) (rest := []) hx hb (hml.trans hl.1.symm) hown ht F hP hD hS (x_SG_look l hl0 g ad rg hd od tx ty sm pa pr fl op du qa ab ac qb be bc wd X a (by omega) z27) v_SG_look tw_242 ⟨rfl, rfl⟩ ⟨by decide, by decide⟩ rfl rfl rfl rfl (Nat.le_of_ble_eq_true rfl) ⟨by decide, by decide⟩ d_SG_compose_27 (fun ce q9 H locs hP hD hS z1 z2 z3 => ?_)
    exact xc_out hex hlk F hP hD hS z1 z2 z3 (by decide) (by decide)
  · refine pc_Vl (q0 := 0) (As := [.int (nI a)]) (rest := []) hx hb (hml.trans hl.1.symm) hown ht F hP hD hS (c_SG_look l g ad rg hd od tx ty sm pa pr fl op du qa ab ac qb be bc wd X a (by omega) z27) v_SG_look tw_242 ⟨rfl, rfl⟩ ⟨by decide, by decide⟩ rfl rfl rfl rfl (Nat.le_of_ble_eq_true rfl) ⟨Nat.zero_le _, Nat.zero_le _⟩ d_SG_compose_27 (fun r9 u9 H locs hq hP hD hS => ?_)
    subst hq
    refine lv_lstore (lv' := [(5, .long (rg a)), (0, .ref (ad 0)), (1, .int (nI r)), (2, .int (nI a)), (3, .int (nI v)), (4, .int (nI b))]) hx hb d_SG_compose_30 hl (by decide) rfl (fun ls hl => ?_)
    refine lv_aload_n hx hb d_SG_compose_32 rfl (lv_at hl 1 rfl) ?_
    refine lv_iload hx hb d_SG_compose_33 (lv_at hl 5 rfl) ?_
    rcases h9 b (by omega) with z35 | z35
    · refine xc_V (q0 := 0) (As := [.int (nI b)]) (rest := []) hx hb (hml.trans hl.1.symm) hown ht F hP hD hS (x_SG_look l hl0 g ad rg hd od tx ty sm pa pr fl op du qa ab ac qb be bc wd X b (by omega) z35) v_SG_look tw_242 ⟨rfl, rfl⟩ ⟨by decide, by decide⟩ rfl rfl rfl rfl (Nat.le_of_ble_eq_true rfl) ⟨by decide, by decide⟩ d_SG_compose_35 (fun ce q9 H locs hP hD hS z1 z2 z3 => ?_)
      exact xc_out hex hlk F hP hD hS z1 z2 z3 (by decide) (by decide)
    · exact (hbad ⟨z27, z35⟩).elim
set_option maxRecDepth 100000 in
set_option maxHeartbeats 4000000 in
theorem x2_SG_quantify (l : Launch) (hl0 : l.stackTraces = false) (g : Gx) (ad : Nat → Nat) (rg : Nat → Int64) (hd : Nat → Int32) (od : Nat → Int32) (tx : Nat → Int32) (ty : Int32) (sm : Nat → Int64) (pa : Nat → Int64) (pr : Nat → Int64) (fl : Nat → Int64) (op : Int32) (du : Int32) (qa : Nat) (ab : Nat → Int64) (ac : Int32) (qb : Nat) (be : Nat → Int64) (bc : Int32) (wd : Nat → Int32) (X : va_W) (r a k : Nat) (z : Int32) (g0 : r < 8) (g1 : a < 8) (g2 : k < 64) (h9 : ∀ i, i < 8 → hd i = 0 ∨ hd i = 1) (hbad : ¬ (hd a = 1)) : vx_Met l y_SG_quantify (w_SG_quantify :: TW) rx_SG_quantify (va_Pc [.ref (ad 0), .int (nI r), .int (nI a), .int (nI k), .int z] (PR g (CW g ad rg hd od tx ty sm pa pr fl op du qa ab ac qb be bc wd ++ X))) qF (xT g NSE (CW g ad rg hd od tx ty sm pa pr fl op du qa ab ac qb be bc wd ++ X)) 1 6 (gA g) := by
  refine mx_of (by decide) (Nat.le_of_ble_eq_true rfl) ?_
  intro p e s m below meth c ls hx hb hr hml hlk hown ht hex F hP hD hl
  have hl : lv_has ls 12 [(0, .ref (ad 0)), (1, .int (nI r)), (2, .int (nI a)), (3, .int (nI k)), (4, .int z)] := hl
  have hS : va_S (gA g) s.heap s.heap [] := va_S.rf
  refine lv_iload_n hx hb d_SG_quantify_0 rfl (lv_at hl 1 rfl) ?_
  refine lv_bipush (v := nI 8) hx hb d_SG_quantify_1 (by decide) ?_
  refine pc_Sv (As := [.int (nI r), .int (nI 8)]) (rest := []) hx hb (hml.trans hl.1.symm) hown ht F hP hD hS (c_SG_checkBelow l g (CW g ad rg hd od tx ty sm pa pr fl op du qa ab ac qb be bc wd ++ X) r 8 (by omega) (by omega)) v_SG_checkBelow tw_161 ⟨rfl, rfl⟩ ⟨by decide, by decide⟩ rfl rfl (Nat.le_of_ble_eq_true rfl) ⟨Nat.zero_le _, Nat.zero_le _⟩ d_SG_quantify_3 (fun u9 H locs hq hP hD hS => ?_)
  refine lv_iload_n hx hb d_SG_quantify_6 rfl (lv_at hl 2 rfl) ?_
  refine lv_bipush (v := nI 8) hx hb d_SG_quantify_7 (by decide) ?_
  refine pc_Sv (As := [.int (nI a), .int (nI 8)]) (rest := []) hx hb (hml.trans hl.1.symm) hown ht F hP hD hS (c_SG_checkBelow l g (CW g ad rg hd od tx ty sm pa pr fl op du qa ab ac qb be bc wd ++ X) a 8 (by omega) (by omega)) v_SG_checkBelow tw_161 ⟨rfl, rfl⟩ ⟨by decide, by decide⟩ rfl rfl (Nat.le_of_ble_eq_true rfl) ⟨Nat.zero_le _, Nat.zero_le _⟩ d_SG_quantify_9 (fun u9 H locs hq hP hD hS => ?_)
  refine lv_iload_n hx hb d_SG_quantify_12 rfl (lv_at hl 3 rfl) ?_
  refine lv_bipush (v := nI 64) hx hb d_SG_quantify_13 (by decide) ?_
  refine pc_Sv (As := [.int (nI k), .int (nI 64)]) (rest := []) hx hb (hml.trans hl.1.symm) hown ht F hP hD hS (c_SG_checkBelow l g (CW g ad rg hd od tx ty sm pa pr fl op du qa ab ac qb be bc wd ++ X) k 64 (by omega) (by omega)) v_SG_checkBelow tw_161 ⟨rfl, rfl⟩ ⟨by decide, by decide⟩ rfl rfl (Nat.le_of_ble_eq_true rfl) ⟨Nat.zero_le _, Nat.zero_le _⟩ d_SG_quantify_15 (fun u9 H locs hq hP hD hS => ?_)
  refine lv_aload_n hx hb d_SG_quantify_18 rfl (lv_at hl 0 rfl) ?_
  refine lv_iload_n hx hb d_SG_quantify_19 rfl (lv_at hl 2 rfl) ?_
  rcases h9 a (by omega) with z20 | z20
  · refine xc_V (q0 := 0) (As := [.int (nI a)]) (rest := []) hx hb (hml.trans hl.1.symm) hown ht F hP hD hS (x_SG_look l hl0 g ad rg hd od tx ty sm pa pr fl op du qa ab ac qb be bc wd X a (by omega) z20) v_SG_look tw_242 ⟨rfl, rfl⟩ ⟨by decide, by decide⟩ rfl rfl rfl rfl (Nat.le_of_ble_eq_true rfl) ⟨by decide, by decide⟩ d_SG_quantify_20 (fun ce q9 H locs hP hD hS z1 z2 z3 => ?_)
    exact xc_out hex hlk F hP hD hS z1 z2 z3 (by decide) (by decide)
  · exact (hbad z20).elim
set_option maxRecDepth 100000 in
set_option maxHeartbeats 4000000 in
theorem x2_SG_equal (l : Launch) (hl0 : l.stackTraces = false) (g : Gx) (ad : Nat → Nat) (rg : Nat → Int64) (hd : Nat → Int32) (od : Nat → Int32) (tx : Nat → Int32) (ty : Int32) (sm : Nat → Int64) (pa : Nat → Int64) (pr : Nat → Int64) (fl : Nat → Int64) (op : Int32) (du : Int32) (qa : Nat) (ab : Nat → Int64) (ac : Int32) (qb : Nat) (be : Nat → Int64) (bc : Int32) (wd : Nat → Int32) (X : va_W) (a b : Nat) (g0 : a < 8) (g1 : b < 8) (h9 : ∀ i, i < 8 → hd i = 0 ∨ hd i = 1) (hbad : ¬ (hd a = 1 ∧ hd b = 1)) : vx_Met l y_SG_equal (w_SG_equal :: TW) rx_SG_equal (va_Pc [.ref (ad 0), .int (nI a), .int (nI b)] (PR g (CW g ad rg hd od tx ty sm pa pr fl op du qa ab ac qb be bc wd ++ X))) qF (xT g NSE (CW g ad rg hd od tx ty sm pa pr fl op du qa ab ac qb be bc wd ++ X)) 1 6 (gA g) := by
  refine mx_of (by decide) (Nat.le_of_ble_eq_true rfl) ?_
  intro p e s m below meth c ls hx hb hr hml hlk hown ht hex F hP hD hl
  have hl : lv_has ls 3 [(0, .ref (ad 0)), (1, .int (nI a)), (2, .int (nI b))] := hl
  have hS : va_S (gA g) s.heap s.heap [] := va_S.rf
  refine lv_iload_n hx hb d_SG_equal_0 rfl (lv_at hl 1 rfl) ?_
  refine lv_bipush (v := nI 8) hx hb d_SG_equal_1 (by decide) ?_
  refine pc_Sv (As := [.int (nI a), .int (nI 8)]) (rest := []) hx hb (hml.trans hl.1.symm) hown ht F hP hD hS (c_SG_checkBelow l g (CW g ad rg hd od tx ty sm pa pr fl op du qa ab ac qb be bc wd ++ X) a 8 (by omega) (by omega)) v_SG_checkBelow tw_161 ⟨rfl, rfl⟩ ⟨by decide, by decide⟩ rfl rfl (Nat.le_of_ble_eq_true rfl) ⟨Nat.zero_le _, Nat.zero_le _⟩ d_SG_equal_3 (fun u9 H locs hq hP hD hS => ?_)
  refine lv_iload_n hx hb d_SG_equal_6 rfl (lv_at hl 2 rfl) ?_
  refine lv_bipush (v := nI 8) hx hb d_SG_equal_7 (by decide) ?_
  refine pc_Sv (As := [.int (nI b), .int (nI 8)]) (rest := []) hx hb (hml.trans hl.1.symm) hown ht F hP hD hS (c_SG_checkBelow l g (CW g ad rg hd od tx ty sm pa pr fl op du qa ab ac qb be bc wd ++ X) b 8 (by omega) (by omega)) v_SG_checkBelow tw_161 ⟨rfl, rfl⟩ ⟨by decide, by decide⟩ rfl rfl (Nat.le_of_ble_eq_true rfl) ⟨Nat.zero_le _, Nat.zero_le _⟩ d_SG_equal_9 (fun u9 H locs hq hP hD hS => ?_)
  refine lv_aload_n hx hb d_SG_equal_12 rfl (lv_at hl 0 rfl) ?_
  refine lv_iload_n hx hb d_SG_equal_13 rfl (lv_at hl 1 rfl) ?_
  rcases h9 a (by omega) with z14 | z14
  · refine xc_V (q0 := 0) (As := [.int (nI a)]) (rest := []) hx hb (hml.trans hl.1.symm) hown ht F hP hD hS (x_SG_look l hl0 g ad rg hd od tx ty sm pa pr fl op du qa ab ac qb be bc wd X a (by omega) z14) v_SG_look tw_242 ⟨rfl, rfl⟩ ⟨by decide, by decide⟩ rfl rfl rfl rfl (Nat.le_of_ble_eq_true rfl) ⟨by decide, by decide⟩ d_SG_equal_14 (fun ce q9 H locs hP hD hS z1 z2 z3 => ?_)
    exact xc_out hex hlk F hP hD hS z1 z2 z3 (by decide) (by decide)
  · refine pc_Vl (q0 := 0) (As := [.int (nI a)]) (rest := []) hx hb (hml.trans hl.1.symm) hown ht F hP hD hS (c_SG_look l g ad rg hd od tx ty sm pa pr fl op du qa ab ac qb be bc wd X a (by omega) z14) v_SG_look tw_242 ⟨rfl, rfl⟩ ⟨by decide, by decide⟩ rfl rfl rfl rfl (Nat.le_of_ble_eq_true rfl) ⟨Nat.zero_le _, Nat.zero_le _⟩ d_SG_equal_14 (fun r9 u9 H locs hq hP hD hS => ?_)
    subst hq
    refine lv_aload_n hx hb d_SG_equal_17 rfl (lv_at hl 0 rfl) ?_
    refine lv_iload_n hx hb d_SG_equal_18 rfl (lv_at hl 2 rfl) ?_
    rcases h9 b (by omega) with z19 | z19
    · refine xc_V (q0 := 0) (As := [.int (nI b)]) (rest := [.long (rg a)]) hx hb (hml.trans hl.1.symm) hown ht F hP hD hS (x_SG_look l hl0 g ad rg hd od tx ty sm pa pr fl op du qa ab ac qb be bc wd X b (by omega) z19) v_SG_look tw_242 ⟨rfl, rfl⟩ ⟨by decide, by decide⟩ rfl rfl rfl rfl (Nat.le_of_ble_eq_true rfl) ⟨by decide, by decide⟩ d_SG_equal_19 (fun ce q9 H locs hP hD hS z1 z2 z3 => ?_)
      exact xc_out hex hlk F hP hD hS z1 z2 z3 (by decide) (by decide)
    · exact (hbad ⟨z14, z19⟩).elim
set_option maxRecDepth 100000 in
set_option maxHeartbeats 4000000 in
theorem x2_SG_value (l : Launch) (hl0 : l.stackTraces = false) (g : Gx) (ad : Nat → Nat) (rg : Nat → Int64) (hd : Nat → Int32) (od : Nat → Int32) (tx : Nat → Int32) (ty : Int32) (sm : Nat → Int64) (pa : Nat → Int64) (pr : Nat → Int64) (fl : Nat → Int64) (op : Int32) (du : Int32) (qa : Nat) (ab : Nat → Int64) (ac : Int32) (qb : Nat) (be : Nat → Int64) (bc : Int32) (wd : Nat → Int32) (X : va_W) (a k : Nat) (g0 : a < 8) (g1 : k < 64) (h9 : ∀ i, i < 8 → hd i = 0 ∨ hd i = 1) (hbad : ¬ (hd a = 1)) : vx_Met l y_SG_value (w_SG_value :: TW) rx_SG_value (va_Pc [.ref (ad 0), .int (nI a), .int (nI k)] (PR g (CW g ad rg hd od tx ty sm pa pr fl op du qa ab ac qb be bc wd ++ X))) qF (xT g NSE (CW g ad rg hd od tx ty sm pa pr fl op du qa ab ac qb be bc wd ++ X)) 1 6 (gA g) := by
  refine mx_of (by decide) (Nat.le_of_ble_eq_true rfl) ?_
  intro p e s m below meth c ls hx hb hr hml hlk hown ht hex F hP hD hl
  have hl : lv_has ls 3 [(0, .ref (ad 0)), (1, .int (nI a)), (2, .int (nI k))] := hl
  have hS : va_S (gA g) s.heap s.heap [] := va_S.rf
  refine lv_iload_n hx hb d_SG_value_0 rfl (lv_at hl 1 rfl) ?_
  refine lv_bipush (v := nI 8) hx hb d_SG_value_1 (by decide) ?_
  refine pc_Sv (As := [.int (nI a), .int (nI 8)]) (rest := []) hx hb (hml.trans hl.1.symm) hown ht F hP hD hS (c_SG_checkBelow l g (CW g ad rg hd od tx ty sm pa pr fl op du qa ab ac qb be bc wd ++ X) a 8 (by omega) (by omega)) v_SG_checkBelow tw_161 ⟨rfl, rfl⟩ ⟨by decide, by decide⟩ rfl rfl (Nat.le_of_ble_eq_true rfl) ⟨Nat.zero_le _, Nat.zero_le _⟩ d_SG_value_3 (fun u9 H locs hq hP hD hS => ?_)
  refine lv_iload_n hx hb d_SG_value_6 rfl (lv_at hl 2 rfl) ?_
  refine lv_bipush (v := nI 64) hx hb d_SG_value_7 (by decide) ?_
  refine pc_Sv (As := [.int (nI k), .int (nI 64)]) (rest := []) hx hb (hml.trans hl.1.symm) hown ht F hP hD hS (c_SG_checkBelow l g (CW g ad rg hd od tx ty sm pa pr fl op du qa ab ac qb be bc wd ++ X) k 64 (by omega) (by omega)) v_SG_checkBelow tw_161 ⟨rfl, rfl⟩ ⟨by decide, by decide⟩ rfl rfl (Nat.le_of_ble_eq_true rfl) ⟨Nat.zero_le _, Nat.zero_le _⟩ d_SG_value_9 (fun u9 H locs hq hP hD hS => ?_)
  refine lv_aload_n hx hb d_SG_value_12 rfl (lv_at hl 0 rfl) ?_
  refine lv_iload_n hx hb d_SG_value_13 rfl (lv_at hl 1 rfl) ?_
  rcases h9 a (by omega) with z14 | z14
  · refine xc_V (q0 := 0) (As := [.int (nI a)]) (rest := []) hx hb (hml.trans hl.1.symm) hown ht F hP hD hS (x_SG_look l hl0 g ad rg hd od tx ty sm pa pr fl op du qa ab ac qb be bc wd X a (by omega) z14) v_SG_look tw_242 ⟨rfl, rfl⟩ ⟨by decide, by decide⟩ rfl rfl rfl rfl (Nat.le_of_ble_eq_true rfl) ⟨by decide, by decide⟩ d_SG_value_14 (fun ce q9 H locs hP hD hS z1 z2 z3 => ?_)
    exact xc_out hex hlk F hP hD hS z1 z2 z3 (by decide) (by decide)
  · exact (hbad z14).elim
set_option maxRecDepth 100000 in
set_option maxHeartbeats 4000000 in
theorem x2_SG_count (l : Launch) (hl0 : l.stackTraces = false) (g : Gx) (ad : Nat → Nat) (rg : Nat → Int64) (hd : Nat → Int32) (od : Nat → Int32) (tx : Nat → Int32) (ty : Int32) (sm : Nat → Int64) (pa : Nat → Int64) (pr : Nat → Int64) (fl : Nat → Int64) (op : Int32) (du : Int32) (qa : Nat) (ab : Nat → Int64) (ac : Int32) (qb : Nat) (be : Nat → Int64) (bc : Int32) (wd : Nat → Int32) (X : va_W) (a : Nat) (g0 : a < 8) (h9 : ∀ i, i < 8 → hd i = 0 ∨ hd i = 1) (hbad : ¬ (hd a = 1)) : vx_Met l y_SG_count (w_SG_count :: TW) rx_SG_count (va_Pc [.ref (ad 0), .int (nI a)] (PR g (CW g ad rg hd od tx ty sm pa pr fl op du qa ab ac qb be bc wd ++ X))) qF (xT g NSE (CW g ad rg hd od tx ty sm pa pr fl op du qa ab ac qb be bc wd ++ X)) 1 6 (gA g) := by
  refine mx_of (by decide) (Nat.le_of_ble_eq_true rfl) ?_
  intro p e s m below meth c ls hx hb hr hml hlk hown ht hex F hP hD hl
  have hl : lv_has ls 2 [(0, .ref (ad 0)), (1, .int (nI a))] := hl
  have hS : va_S (gA g) s.heap s.heap [] := va_S.rf
  refine lv_iload_n hx hb d_SG_count_0 rfl (lv_at hl 1 rfl) ?_
  refine lv_bipush (v := nI 8) hx hb d_SG_count_1 (by decide) ?_
  refine pc_Sv (As := [.int (nI a), .int (nI 8)]) (rest := []) hx hb (hml.trans hl.1.symm) hown ht F hP hD hS (c_SG_checkBelow l g (CW g ad rg hd od tx ty sm pa pr fl op du qa ab ac qb be bc wd ++ X) a 8 (by omega) (by omega)) v_SG_checkBelow tw_161 ⟨rfl, rfl⟩ ⟨by decide, by decide⟩ rfl rfl (Nat.le_of_ble_eq_true rfl) ⟨Nat.zero_le _, Nat.zero_le _⟩ d_SG_count_3 (fun u9 H locs hq hP hD hS => ?_)
  refine lv_aload_n hx hb d_SG_count_6 rfl (lv_at hl 0 rfl) ?_
  refine lv_iload_n hx hb d_SG_count_7 rfl (lv_at hl 1 rfl) ?_
  rcases h9 a (by omega) with z8 | z8
  · refine xc_V (q0 := 0) (As := [.int (nI a)]) (rest := []) hx hb (hml.trans hl.1.symm) hown ht F hP hD hS (x_SG_look l hl0 g ad rg hd od tx ty sm pa pr fl op du qa ab ac qb be bc wd X a (by omega) z8) v_SG_look tw_242 ⟨rfl, rfl⟩ ⟨by decide, by decide⟩ rfl rfl rfl rfl (Nat.le_of_ble_eq_true rfl) ⟨by decide, by decide⟩ d_SG_count_8 (fun ce q9 H locs hP hD hS z1 z2 z3 => ?_)
    exact xc_out hex hlk F hP hD hS z1 z2 z3 (by decide) (by decide)
  · exact (hbad z8).elim
set_option maxRecDepth 100000 in
set_option maxHeartbeats 4000000 in
theorem x2_SG_least (l : Launch) (hl0 : l.stackTraces = false) (g : Gx) (ad : Nat → Nat) (rg : Nat → Int64) (hd : Nat → Int32) (od : Nat → Int32) (tx : Nat → Int32) (ty : Int32) (sm : Nat → Int64) (pa : Nat → Int64) (pr : Nat → Int64) (fl : Nat → Int64) (op : Int32) (du : Int32) (qa : Nat) (ab : Nat → Int64) (ac : Int32) (qb : Nat) (be : Nat → Int64) (bc : Int32) (wd : Nat → Int32) (X : va_W) (a : Nat) (g0 : a < 8) (h9 : ∀ i, i < 8 → hd i = 0 ∨ hd i = 1) (hbad : ¬ (hd a = 1)) : vx_Met l y_SG_least (w_SG_least :: TW) rx_SG_least (va_Pc [.ref (ad 0), .int (nI a)] (PR g (CW g ad rg hd od tx ty sm pa pr fl op du qa ab ac qb be bc wd ++ X))) qF (xT g NSE (CW g ad rg hd od tx ty sm pa pr fl op du qa ab ac qb be bc wd ++ X)) 1 6 (gA g) := by
  refine mx_of (by decide) (Nat.le_of_ble_eq_true rfl) ?_
  intro p e s m below meth c ls hx hb hr hml hlk hown ht hex F hP hD hl
  have hl : lv_has ls 5 [(0, .ref (ad 0)), (1, .int (nI a))] := hl
  have hS : va_S (gA g) s.heap s.heap [] := va_S.rf
  refine lv_iload_n hx hb d_SG_least_0 rfl (lv_at hl 1 rfl) ?_
  refine lv_bipush (v := nI 8) hx hb d_SG_least_1 (by decide) ?_
  refine pc_Sv (As := [.int (nI a), .int (nI 8)]) (rest := []) hx hb (hml.trans hl.1.symm) hown ht F hP hD hS (c_SG_checkBelow l g (CW g ad rg hd od tx ty sm pa pr fl op du qa ab ac qb be bc wd ++ X) a 8 (by omega) (by omega)) v_SG_checkBelow tw_161 ⟨rfl, rfl⟩ ⟨by decide, by decide⟩ rfl rfl (Nat.le_of_ble_eq_true rfl) ⟨Nat.zero_le _, Nat.zero_le _⟩ d_SG_least_3 (fun u9 H locs hq hP hD hS => ?_)
  refine lv_aload_n hx hb d_SG_least_6 rfl (lv_at hl 0 rfl) ?_
  refine lv_iload_n hx hb d_SG_least_7 rfl (lv_at hl 1 rfl) ?_
  rcases h9 a (by omega) with z8 | z8
  · refine xc_V (q0 := 0) (As := [.int (nI a)]) (rest := []) hx hb (hml.trans hl.1.symm) hown ht F hP hD hS (x_SG_look l hl0 g ad rg hd od tx ty sm pa pr fl op du qa ab ac qb be bc wd X a (by omega) z8) v_SG_look tw_242 ⟨rfl, rfl⟩ ⟨by decide, by decide⟩ rfl rfl rfl rfl (Nat.le_of_ble_eq_true rfl) ⟨by decide, by decide⟩ d_SG_least_8 (fun ce q9 H locs hP hD hS z1 z2 z3 => ?_)
    exact xc_out hex hlk F hP hD hS z1 z2 z3 (by decide) (by decide)
  · exact (hbad z8).elim
set_option maxRecDepth 100000 in
set_option maxHeartbeats 4000000 in
theorem x2_SG_support (l : Launch) (hl0 : l.stackTraces = false) (g : Gx) (ad : Nat → Nat) (rg : Nat → Int64) (hd : Nat → Int32) (od : Nat → Int32) (tx : Nat → Int32) (ty : Int32) (sm : Nat → Int64) (pa : Nat → Int64) (pr : Nat → Int64) (fl : Nat → Int64) (op : Int32) (du : Int32) (qa : Nat) (ab : Nat → Int64) (ac : Int32) (qb : Nat) (be : Nat → Int64) (bc : Int32) (wd : Nat → Int32) (X : va_W) (a : Nat) (g0 : a < 8) (h9 : ∀ i, i < 8 → hd i = 0 ∨ hd i = 1) (hbad : ¬ (hd a = 1)) : vx_Met l y_SG_support (w_SG_support :: TW) rx_SG_support (va_Pc [.ref (ad 0), .int (nI a)] (PR g (CW g ad rg hd od tx ty sm pa pr fl op du qa ab ac qb be bc wd ++ X))) qF (xT g NSE (CW g ad rg hd od tx ty sm pa pr fl op du qa ab ac qb be bc wd ++ X)) 1 6 (gA g) := by
  refine mx_of (by decide) (Nat.le_of_ble_eq_true rfl) ?_
  intro p e s m below meth c ls hx hb hr hml hlk hown ht hex F hP hD hl
  have hl : lv_has ls 6 [(0, .ref (ad 0)), (1, .int (nI a))] := hl
  have hS : va_S (gA g) s.heap s.heap [] := va_S.rf
  refine lv_iload_n hx hb d_SG_support_0 rfl (lv_at hl 1 rfl) ?_
  refine lv_bipush (v := nI 8) hx hb d_SG_support_1 (by decide) ?_
  refine pc_Sv (As := [.int (nI a), .int (nI 8)]) (rest := []) hx hb (hml.trans hl.1.symm) hown ht F hP hD hS (c_SG_checkBelow l g (CW g ad rg hd od tx ty sm pa pr fl op du qa ab ac qb be bc wd ++ X) a 8 (by omega) (by omega)) v_SG_checkBelow tw_161 ⟨rfl, rfl⟩ ⟨by decide, by decide⟩ rfl rfl (Nat.le_of_ble_eq_true rfl) ⟨Nat.zero_le _, Nat.zero_le _⟩ d_SG_support_3 (fun u9 H locs hq hP hD hS => ?_)
  refine lv_aload_n hx hb d_SG_support_6 rfl (lv_at hl 0 rfl) ?_
  refine lv_iload_n hx hb d_SG_support_7 rfl (lv_at hl 1 rfl) ?_
  rcases h9 a (by omega) with z8 | z8
  · refine xc_V (q0 := 0) (As := [.int (nI a)]) (rest := []) hx hb (hml.trans hl.1.symm) hown ht F hP hD hS (x_SG_look l hl0 g ad rg hd od tx ty sm pa pr fl op du qa ab ac qb be bc wd X a (by omega) z8) v_SG_look tw_242 ⟨rfl, rfl⟩ ⟨by decide, by decide⟩ rfl rfl rfl rfl (Nat.le_of_ble_eq_true rfl) ⟨by decide, by decide⟩ d_SG_support_8 (fun ce q9 H locs hP hD hS z1 z2 z3 => ?_)
    exact xc_out hex hlk F hP hD hS z1 z2 z3 (by decide) (by decide)
  · exact (hbad z8).elim
set_option maxRecDepth 100000 in
set_option maxHeartbeats 4000000 in
theorem x2_SG_size (l : Launch) (hl0 : l.stackTraces = false) (g : Gx) (ad : Nat → Nat) (rg : Nat → Int64) (hd : Nat → Int32) (od : Nat → Int32) (tx : Nat → Int32) (ty : Int32) (sm : Nat → Int64) (pa : Nat → Int64) (pr : Nat → Int64) (fl : Nat → Int64) (op : Int32) (du : Int32) (qa : Nat) (ab : Nat → Int64) (ac : Int32) (qb : Nat) (be : Nat → Int64) (bc : Int32) (wd : Nat → Int32) (X : va_W) (a : Nat) (g0 : a < 8) (h9 : ∀ i, i < 8 → hd i = 0 ∨ hd i = 1) (hbad : ¬ (hd a = 1)) : vx_Met l y_SG_size (w_SG_size :: TW) rx_SG_size (va_Pc [.ref (ad 0), .int (nI a)] (PR g (CW g ad rg hd od tx ty sm pa pr fl op du qa ab ac qb be bc wd ++ X))) qF (xT g NSE (CW g ad rg hd od tx ty sm pa pr fl op du qa ab ac qb be (nI 0) wd ++ X)) 1 6 (gA g) := by
  refine mx_of (by decide) (Nat.le_of_ble_eq_true rfl) ?_
  intro p e s m below meth c ls hx hb hr hml hlk hown ht hex F hP hD hl
  have hl : lv_has ls 2 [(0, .ref (ad 0)), (1, .int (nI a))] := hl
  have hS : va_S (gA g) s.heap s.heap [] := va_S.rf
  refine lv_iload_n hx hb d_SG_size_0 rfl (lv_at hl 1 rfl) ?_
  refine lv_bipush (v := nI 8) hx hb d_SG_size_1 (by decide) ?_
  refine pc_Sv (As := [.int (nI a), .int (nI 8)]) (rest := []) hx hb (hml.trans hl.1.symm) hown ht F hP hD hS (c_SG_checkBelow l g (CW g ad rg hd od tx ty sm pa pr fl op du qa ab ac qb be bc wd ++ X) a 8 (by omega) (by omega)) v_SG_checkBelow tw_161 ⟨rfl, rfl⟩ ⟨by decide, by decide⟩ rfl rfl (Nat.le_of_ble_eq_true rfl) ⟨Nat.zero_le _, Nat.zero_le _⟩ d_SG_size_3 (fun u9 H locs hq hP hD hS => ?_)
  refine lv_aload_n hx hb d_SG_size_6 rfl (lv_at hl 0 rfl) ?_
  refine va_get (ci := 3) (v := .ref (ad 11)) (C := R_SG) (T := T_SG) (N := 6) hx hb ht i_SG hown F.2.1 hP 0 rfl rfl 5 (by decide) (ht _ tw_90) (fun _ h9 => h9) rfl d_SG_size_7 ?_
  refine pc_Vv (q0 := 11) (As := []) (rest := []) hx hb (hml.trans hl.1.symm) hown ht F hP hD hS (c_NC_begin l g ad rg hd od tx ty sm pa pr fl op du qa ab ac qb be bc wd X) v_NC_begin tw_112 ⟨rfl, rfl⟩ ⟨by decide, by decide⟩ rfl rfl rfl rfl (Nat.le_of_ble_eq_true rfl) ⟨Nat.zero_le _, Nat.zero_le _⟩ d_SG_size_10 (fun u9 H locs hq hP hD hS => ?_)
  have hP : va_P g.1 cl (CW g ad rg hd od tx ty sm pa pr fl op du qa ab ac qb be (nI 0) wd ++ X) H := hP
  have hD : va_D (gA g) (CW g ad rg hd od tx ty sm pa pr fl op du qa ab ac qb be (nI 0) wd ++ X) := hD
  refine lv_aload_n hx hb d_SG_size_13 rfl (lv_at hl 0 rfl) ?_
  refine va_get (ci := 3) (v := .ref (ad 11)) (C := R_SG) (T := T_SG) (N := 6) hx hb ht i_SG hown F.2.1 hP 0 rfl rfl 5 (by decide) (ht _ tw_90) (fun _ h9 => h9) rfl d_SG_size_14 ?_
  refine lv_aload_n hx hb d_SG_size_17 rfl (lv_at hl 0 rfl) ?_
  refine lv_iload_n hx hb d_SG_size_18 rfl (lv_at hl 1 rfl) ?_
  rcases h9 a (by omega) with z19 | z19
  · refine xc_V (q0 := 0) (As := [.int (nI a)]) (rest := [.ref (ad 11)]) hx hb (hml.trans hl.1.symm) hown ht F hP hD hS (x_SG_look l hl0 g ad rg hd od tx ty sm pa pr fl op du qa ab ac qb be (nI 0) wd X a (by omega) z19) v_SG_look tw_242 ⟨rfl, rfl⟩ ⟨by decide, by decide⟩ rfl rfl rfl rfl (Nat.le_of_ble_eq_true rfl) ⟨by decide, by decide⟩ d_SG_size_19 (fun ce q9 H locs hP hD hS z1 z2 z3 => ?_)
    exact xc_out hex hlk F hP hD hS z1 z2 z3 (by decide) (by decide)
  · exact (hbad z19).elim
set_option maxRecDepth 100000 in
set_option maxHeartbeats 4000000 in
theorem x1_SG_type (l : Launch) (hl0 : l.stackTraces = false) (g : Gx) (ad : Nat → Nat) (rg : Nat → Int64) (hd : Nat → Int32) (od : Nat → Int32) (tx : Nat → Int32) (sm : Nat → Int64) (pa : Nat → Int64) (pr : Nat → Int64) (fl : Nat → Int64) (op : Int32) (du : Int32) (qa : Nat) (ab : Nat → Int64) (ac : Int32) (qb : Nat) (be : Nat → Int64) (bc : Int32) (wd : Nat → Int32) (X : va_W) (td : Nat) (x : Int64) (n : Int32) (h1 : td ≤ 40) (hbad : ¬ ∃ k, 1 ≤ k ∧ k ≤ 8 ∧ td + k ≤ 40 ∧ n = nI k) : vx_Met l y_SG_type (w_SG_type :: TW) rx_SG_type (va_Pc [.ref (ad 0), .long x, .int n] (PR g (CW g ad rg hd od tx (nI td) sm pa pr fl op du qa ab ac qb be bc wd ++ X))) qF (xT g IAE (CW g ad rg hd od tx (nI td) sm pa pr fl op du qa ab ac qb be bc wd ++ X)) 1 6 (gA g) := by
  refine mx_of (by decide) (Nat.le_of_ble_eq_true rfl) ?_
  intro p e s m below meth c ls hx hb hr hml hlk hown ht hex F hP hD hl
  have hl : lv_has ls 5 [(0, .ref (ad 0)), (1, .long x), (3, .int n)] := hl
  have hS : va_S (gA g) s.heap s.heap [] := va_S.rf
  refine lv_iload_n hx hb d_SG_type_0 rfl (lv_at hl 2 rfl) ?_
  refine lv_iconst (v := nI 1) hx hb d_SG_type_1 (by decide) ?_
  refine lv_icmp_lt (tgt := 22) hx hb d_SG_type_2 (by decide) (fun c2 => ?_) (fun c2 => ?_)
  · exact xc_new (names := NM) hl0 hx hb (hml.trans hl.1.symm) hown ht hlk hex F hP hD hS (by decide) (by decide) tw_164 tw_9 at_IAE gd_IAE d_SG_type_22 d_SG_type_25 d_SG_type_26 d_SG_type_29 (by decide) (Nat.le_of_ble_eq_true rfl) (by decide) (by decide) (by decide) (by decide)
  · refine lv_iload_n hx hb d_SG_type_5 rfl (lv_at hl 2 rfl) ?_
    refine lv_bipush (v := nI 8) hx hb d_SG_type_6 (by decide) ?_
    refine lv_icmp_gt (tgt := 22) hx hb d_SG_type_8 (by decide) (fun c8 => ?_) (fun c8 => ?_)
    · exact xc_new (names := NM) hl0 hx hb (hml.trans hl.1.symm) hown ht hlk hex F hP hD hS (by decide) (by decide) tw_164 tw_9 at_IAE gd_IAE d_SG_type_22 d_SG_type_25 d_SG_type_26 d_SG_type_29 (by decide) (Nat.le_of_ble_eq_true rfl) (by decide) (by decide) (by decide) (by decide)
    · refine lv_aload_n hx hb d_SG_type_11 rfl (lv_at hl 0 rfl) ?_
      refine va_get (ci := 3) (v := .int (nI td)) (C := R_SG) (T := T_SG) (N := 6) hx hb ht i_SG hown F.2.1 hP 0 rfl rfl 3 (by decide) (ht _ tw_88) (fun _ h9 => h9) rfl d_SG_type_12 ?_
      refine lv_iload_n hx hb d_SG_type_15 rfl (lv_at hl 2 rfl) ?_
      refine lv_iadd hx hb d_SG_type_16 ?_
      refine lv_bipush (v := nI 40) hx hb d_SG_type_17 (by decide) ?_
      refine lv_icmp_le (tgt := 30) hx hb d_SG_type_19 (by decide) (fun c19 => ?_) (fun c19 => ?_)
      · exact (hbad (ty_ok h1 c2 c8 c19)).elim
      · exact xc_new (names := NM) hl0 hx hb (hml.trans hl.1.symm) hown ht hlk hex F hP hD hS (by decide) (by decide) tw_164 tw_9 at_IAE gd_IAE d_SG_type_22 d_SG_type_25 d_SG_type_26 d_SG_type_29 (by decide) (Nat.le_of_ble_eq_true rfl) (by decide) (by decide) (by decide) (by decide)
