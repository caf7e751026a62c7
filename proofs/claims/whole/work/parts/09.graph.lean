/-- the variables on levels u and u + 1 change places -/
def xch (od : Nat → Nat) (u : Nat) : Nat → Nat := uN (uN od u (od (u + 1))) (u + 1) (od u)
/-- where v stands among the first i levels -/
def fdL (od : Nat → Nat) (v : Nat) : Nat → Nat
  | 0 => 0
  | i + 1 => if od i = v then i else fdL od v i
/-- what stands on level b + k goes up k levels -/
def rsU (b : Nat) : Nat → (Nat → Nat) → (Nat → Nat)
  | 0, od => od
  | k + 1, od => rsU b k (xch od (b + k))
theorem adN_s {f : Nat → Int64} {n : Nat} {t : Int64} : adN f n t ≤ n + 1 := by
  unfold adN; split
  · omega
  · split <;> omega
theorem fdL_lt {od : Nat → Nat} {v : Nat} : ∀ i, fdL od v i ≤ i
  | 0 => Nat.le_refl _
  | i + 1 => by
    have := fdL_lt (od := od) (v := v) i
    show (if od i = v then i else fdL od v i) ≤ i + 1
    split <;> omega
set_option maxRecDepth 100000 in
set_option maxHeartbeats 4000000 in
theorem c_SG_exchange (l : Launch) (g : Gx) (ad : Nat → Nat) (rg : Nat → Int64) (hd : Nat → Int32) (tx : Nat → Int32) (ty : Int32) (sm : Nat → Int64) (pa : Nat → Int64) (pr : Nat → Int64) (fl : Nat → Int64) (op : Int32) (du : Int32) (qa : Nat) (ab : Nat → Int64) (ac : Int32) (qb : Nat) (be : Nat → Int64) (bc : Int32) (wd : Nat → Int32) (X : va_W) (od : Nat → Nat) (u : Nat) (h1 : u + 1 < 6) : Met l y_SG_exchange (w_SG_exchange :: TW) rm_SG_exchange (va_Pc [.ref (ad 0), .int (nI u)] (PR g (CW g ad rg hd (nF od) tx ty sm pa pr fl op du qa ab ac qb be bc wd ++ X))) (va_Qv (fun (u9 : Unit) => True) (fun u9 t9 => PR g (CW g ad rg hd (nF (xch od u)) tx ty sm pa pr fl op du qa ab ac qb be bc wd ++ X) t9) (gA g)) 0 0 (gA g) := by
  refine mt_of (by decide) (Nat.le_of_ble_eq_true rfl) ?_
  intro p e s m below meth c ls hx hb hr hml hlk hown ht hnm F hP hD hl
  have hl : lv_has ls 3 [(0, .ref (ad 0)), (1, .int (nI u))] := hl
  have hS : va_S (gA g) s.heap s.heap [] := va_S.rf
  refine lv_aload_n hx hb d_SG_exchange_0 rfl (lv_at hl 0 rfl) ?_
  refine va_get (ci := 3) (v := .ref (ad 4)) (C := R_SG) (T := T_SG) (N := 6) hx hb ht i_SG hown F.2.1 hP 0 rfl rfl 1 (by decide) (ht _ tw_86) (fun _ h9 => h9) rfl d_SG_exchange_1 ?_
  refine lv_iload_n hx hb d_SG_exchange_4 rfl (lv_at hl 1 rfl) ?_
  refine ra_I hx hb F hP 4 rfl (by omega) (by decide) d_SG_exchange_5 ?_
  refine W.eq (g2 := F0 m 6 ls [.int (nI (od u))]) rfl ?_
  refine lv_istore_n (lv' := [(2, .int (nI (od u))), (0, .ref (ad 0)), (1, .int (nI u))]) hx hb d_SG_exchange_6 rfl hl (by decide) rfl (fun ls hl => ?_)
  refine lv_aload_n hx hb d_SG_exchange_7 rfl (lv_at hl 1 rfl) ?_
  refine va_get (ci := 3) (v := .ref (ad 4)) (C := R_SG) (T := T_SG) (N := 6) hx hb ht i_SG hown F.2.1 hP 0 rfl rfl 1 (by decide) (ht _ tw_86) (fun _ h9 => h9) rfl d_SG_exchange_8 ?_
  refine lv_iload_n hx hb d_SG_exchange_11 rfl (lv_at hl 2 rfl) ?_
  refine lv_aload_n hx hb d_SG_exchange_12 rfl (lv_at hl 1 rfl) ?_
  refine va_get (ci := 3) (v := .ref (ad 4)) (C := R_SG) (T := T_SG) (N := 6) hx hb ht i_SG hown F.2.1 hP 0 rfl rfl 1 (by decide) (ht _ tw_86) (fun _ h9 => h9) rfl d_SG_exchange_13 ?_
  refine lv_iload_n hx hb d_SG_exchange_16 rfl (lv_at hl 2 rfl) ?_
  refine lv_iconst (v := nI 1) hx hb d_SG_exchange_17 (by decide) ?_
  refine rn_add hx hb d_SG_exchange_18 ?_
  refine ra_I hx hb F hP 4 rfl (by omega) (by decide) d_SG_exchange_19 ?_
  refine W.eq (g2 := F0 m 20 ls [.int (nI (od (u + 1))), .int (nI u), .ref (ad 4)]) rfl ?_
  refine wa_I hx hb F hP hD hS 4 rfl (by omega) (by decide) d_SG_exchange_20 (fun H locs hP hD hS => ?_)
  have hP : va_P g.1 cl (CW g ad rg hd (upd (nF od) u (nI (od (u + 1)))) tx ty sm pa pr fl op du qa ab ac qb be bc wd ++ X) H := hP
  have hD : va_D (gA g) (CW g ad rg hd (upd (nF od) u (nI (od (u + 1)))) tx ty sm pa pr fl op du qa ab ac qb be bc wd ++ X) := hD
  rw [nF_upd] at hP hD
  have hP : va_P g.1 cl (CW g ad rg hd (nF (uN od u (od (u + 1)))) tx ty sm pa pr fl op du qa ab ac qb be bc wd ++ X) H := hP
  have hD : va_D (gA g) (CW g ad rg hd (nF (uN od u (od (u + 1)))) tx ty sm pa pr fl op du qa ab ac qb be bc wd ++ X) := hD
  refine lv_aload_n hx hb d_SG_exchange_21 rfl (lv_at hl 1 rfl) ?_
  refine va_get (ci := 3) (v := .ref (ad 4)) (C := R_SG) (T := T_SG) (N := 6) hx hb ht i_SG hown F.2.1 hP 0 rfl rfl 1 (by decide) (ht _ tw_86) (fun _ h9 => h9) rfl d_SG_exchange_22 ?_
  refine lv_iload_n hx hb d_SG_exchange_25 rfl (lv_at hl 2 rfl) ?_
  refine lv_iconst (v := nI 1) hx hb d_SG_exchange_26 (by decide) ?_
  refine rn_add hx hb d_SG_exchange_27 ?_
  refine lv_iload_n hx hb d_SG_exchange_28 rfl (lv_at hl 0 rfl) ?_
  refine wa_I hx hb F hP hD hS 4 rfl (by omega) (by decide) d_SG_exchange_29 (fun H locs hP hD hS => ?_)
  have hP : va_P g.1 cl (CW g ad rg hd (upd (nF (uN od u (od (u + 1)))) (u + 1) (nI (od u))) tx ty sm pa pr fl op du qa ab ac qb be bc wd ++ X) H := hP
  have hD : va_D (gA g) (CW g ad rg hd (upd (nF (uN od u (od (u + 1)))) (u + 1) (nI (od u))) tx ty sm pa pr fl op du qa ab ac qb be bc wd ++ X) := hD
  rw [nF_upd] at hP hD
  have hP : va_P g.1 cl (CW g ad rg hd (nF (uN (uN od u (od (u + 1))) (u + 1) (od u))) tx ty sm pa pr fl op du qa ab ac qb be bc wd ++ X) H := hP
  have hD : va_D (gA g) (CW g ad rg hd (nF (uN (uN od u (od (u + 1))) (u + 1) (od u))) tx ty sm pa pr fl op du qa ab ac qb be bc wd ++ X) := hD
  exact W.vret hx hb hr (fun t9 e1 hW => ⟨⟨(), rfl, trivial, PR.at F hP hD hS e1 hW.alike⟩, hS.F e1⟩) hS.2.2 d_SG_exchange_30
set_option maxRecDepth 100000 in
set_option maxHeartbeats 4000000 in
theorem c_SG_levelOf (l : Launch) (g : Gx) (ad : Nat → Nat) (rg : Nat → Int64) (hd : Nat → Int32) (tx : Nat → Int32) (ty : Int32) (sm : Nat → Int64) (pa : Nat → Int64) (pr : Nat → Int64) (fl : Nat → Int64) (op : Int32) (du : Int32) (qa : Nat) (ab : Nat → Int64) (ac : Int32) (qb : Nat) (be : Nat → Int64) (bc : Int32) (wd : Nat → Int32) (X : va_W) (od : Nat → Nat) (v : Nat) (h1 : ∀ i, i < 6 → od i < 6) (h2 : v < 6) : Met l y_SG_levelOf (w_SG_levelOf :: TW) rm_SG_levelOf (va_Pc [.ref (ad 0), .int (nI v)] (PR g (CW g ad rg hd (nF od) tx ty sm pa pr fl op du qa ab ac qb be bc wd ++ X))) (va_Qi (fun r9 (u9 : Unit) => r9 = nI (fdL od v 6)) (fun u9 t9 => PR g (CW g ad rg hd (nF od) tx ty sm pa pr fl op du qa ab ac qb be bc wd ++ X) t9) (gA g)) 0 0 (gA g) := by
  refine mt_of (by decide) (Nat.le_of_ble_eq_true rfl) ?_
  intro p e s m below meth c ls hx hb hr hml hlk hown ht hnm F hP hD hl
  have hl : lv_has ls 4 [(0, .ref (ad 0)), (1, .int (nI v))] := hl
  have hS : va_S (gA g) s.heap s.heap [] := va_S.rf
  refine lv_iconst (v := nI 0) hx hb d_SG_levelOf_0 (by decide) ?_
  refine lv_istore_n (lv' := [(2, .int (nI 0)), (0, .ref (ad 0)), (1, .int (nI v))]) hx hb d_SG_levelOf_1 rfl hl (by decide) rfl (fun ls hl => ?_)
  refine lv_iconst (v := nI 0) hx hb d_SG_levelOf_2 (by decide) ?_
  refine lv_istore_n (lv' := [(3, .int (nI 0)), (2, .int (nI 0)), (0, .ref (ad 0)), (1, .int (nI v))]) hx hb d_SG_levelOf_3 rfl hl (by decide) rfl (fun ls hl => ?_)
  have lp4 : ∀ (j4 : Nat) (i : Nat) (H : Heap) (locs : List Loc) (ls : Array Slot), i + j4 = 6 → va_P g.1 cl (CW g ad rg hd (nF od) tx ty sm pa pr fl op du qa ab ac qb be bc wd ++ X) H → va_D (gA g) (CW g ad rg hd (nF od) tx ty sm pa pr fl op du qa ab ac qb be bc wd ++ X) → va_S (gA g) s.heap H locs → lv_has ls 4 [(3, .int (nI i)), (2, .int (nI (fdL od v i))), (0, .ref (ad 0)), (1, .int (nI v))] → W p l e rm_SG_levelOf s m [.ref (ad 0), .int (nI v)].toArray below meth c H locs 0 0 (MQ below (va_Qi (fun r9 (u9 : Unit) => r9 = nI (fdL od v 6)) (fun u9 t9 => PR g (CW g ad rg hd (nF od) tx ty sm pa pr fl op du qa ab ac qb be bc wd ++ X) t9) (gA g)) [.ref (ad 0), .int (nI v)].toArray s 0 0 (gA g)) (F0 m 4 ls []) := by
    intro j4
    induction j4 with
    | zero =>
      intro i H locs ls hj4 hP hD hS hl
      refine lv_iload_n hx hb d_SG_levelOf_4 rfl (lv_at hl 0 rfl) ?_
      refine lv_bipush (v := nI 6) hx hb d_SG_levelOf_5 (by decide) ?_
      refine rc_ge (tgt := 28) hx hb (by omega) (by omega) d_SG_levelOf_7 (by decide) (fun c7 => ?_) (fun c7 => ?_)
      · refine lv_iload_n hx hb d_SG_levelOf_28 rfl (lv_at hl 1 rfl) ?_
        exact W.iret (v := nI (fdL od v i)) hx hb hr (fun t9 e1 hW => ⟨⟨_, (), rfl, (by rw [show i = 6 by omega]), PR.at F hP hD hS e1 hW.alike⟩, hS.F e1⟩) hS.2.2 d_SG_levelOf_29
      · exact (by omega : False).elim
    | succ j4 ih4 =>
      intro i H locs ls hj4 hP hD hS hl
      refine lv_iload_n hx hb d_SG_levelOf_4 rfl (lv_at hl 0 rfl) ?_
      refine lv_bipush (v := nI 6) hx hb d_SG_levelOf_5 (by decide) ?_
      refine rc_ge (tgt := 28) hx hb (by omega) (by omega) d_SG_levelOf_7 (by decide) (fun c7 => ?_) (fun c7 => ?_)
      · exact (by omega : False).elim
      · refine lv_aload_n hx hb d_SG_levelOf_10 rfl (lv_at hl 2 rfl) ?_
        refine va_get (ci := 3) (v := .ref (ad 4)) (C := R_SG) (T := T_SG) (N := 6) hx hb ht i_SG hown F.2.1 hP 0 rfl rfl 1 (by decide) (ht _ tw_86) (fun _ h9 => h9) rfl d_SG_levelOf_11 ?_
        refine lv_iload_n hx hb d_SG_levelOf_14 rfl (lv_at hl 0 rfl) ?_
        refine ra_I hx hb F hP 4 rfl (by omega) (by decide) d_SG_levelOf_15 ?_
        refine W.eq (g2 := F0 m 16 ls [.int (nI (od i))]) rfl ?_
        refine lv_iload_n hx hb d_SG_levelOf_16 rfl (lv_at hl 3 rfl) ?_
        refine rc_ne (tgt := 22) hx hb (Nat.lt_trans (h1 i (by omega)) (by decide)) (by omega) d_SG_levelOf_17 (by decide) (fun c17 => ?_) (fun c17 => ?_)
        · refine lv_iinc (lv' := [(3, .int (nI (i + 1))), (2, .int (nI (fdL od v i))), (0, .ref (ad 0)), (1, .int (nI v))]) hx hb d_SG_levelOf_22 hl (k := 0) rfl (nI_1 _) (by decide) rfl (fun ls hl => ?_)
          refine lv_goto (tgt := 4) hx hb d_SG_levelOf_25 (by decide) ?_
          have hl := lv_sub hl [0, 1, 2, 3] rfl
          have hl : lv_has ls 4 [(3, .int (nI ((i + 1)))), (2, .int (nI (fdL od v (i + 1)))), (0, .ref (ad 0)), (1, .int (nI v))] := by rw [show fdL od v (i + 1) = fdL od v i from if_neg c17]; exact hl
          exact ih4 (i + 1) H locs ls (by omega)  hP hD hS hl
        · refine lv_iload_n hx hb d_SG_levelOf_20 rfl (lv_at hl 0 rfl) ?_
          refine lv_istore_n (lv' := [(2, .int (nI i)), (3, .int (nI i)), (0, .ref (ad 0)), (1, .int (nI v))]) hx hb d_SG_levelOf_21 rfl hl (by decide) rfl (fun ls hl => ?_)
          refine lv_iinc (lv' := [(3, .int (nI (i + 1))), (2, .int (nI i)), (0, .ref (ad 0)), (1, .int (nI v))]) hx hb d_SG_levelOf_22 hl (k := 1) rfl (nI_1 _) (by decide) rfl (fun ls hl => ?_)
          refine lv_goto (tgt := 4) hx hb d_SG_levelOf_25 (by decide) ?_
          have hl := lv_sub hl [0, 1, 2, 3] rfl
          have hl : lv_has ls 4 [(3, .int (nI ((i + 1)))), (2, .int (nI (fdL od v (i + 1)))), (0, .ref (ad 0)), (1, .int (nI v))] := by rw [show fdL od v (i + 1) = i from if_pos c17]; exact hl
          exact ih4 (i + 1) H locs ls (by omega)  hP hD hS hl
  have hl := lv_sub hl [0, 1, 2, 3] rfl
  have hl : lv_has ls 4 [(3, .int (nI 0)), (2, .int (nI (fdL od v 0))), (0, .ref (ad 0)), (1, .int (nI v))] := hl
  exact lp4 (6 - 0) 0 _ _ ls (by omega)  hP hD hS hl
set_option maxRecDepth 100000 in
set_option maxHeartbeats 4000000 in
theorem c_SG_nodesOfAll (l : Launch) (g : Gx) (ad : Nat → Nat) (rg : Nat → Int64) (hd : Nat → Int32) (tx : Nat → Int32) (ty : Int32) (sm : Nat → Int64) (pa : Nat → Int64) (pr : Nat → Int64) (fl : Nat → Int64) (op : Int32) (du : Int32) (qa : Nat) (ab : Nat → Int64) (ac : Int32) (qb : Nat) (be : Nat → Int64) (bc : Int32) (wd : Nat → Int32) (X : va_W) (od : Nat → Nat) (h1 : ∀ i, i < 6 → od i < 6) (h2 : ∀ i, i < 8 → hd i = 0 ∨ hd i = 1) : Met l y_SG_nodesOfAll (w_SG_nodesOfAll :: TW) rm_SG_nodesOfAll (va_Pc [.ref (ad 0)] (PR g (CW g ad rg hd (nF od) tx ty sm pa pr fl op du qa ab ac qb be bc wd ++ X))) (va_Qi (fun r9 (u9 : (Nat) × (Nat → Int64) × (Int32) × (Nat) × (Nat → Int64) × (Int32) × (Nat → Int32)) => r9 = nI (toL od (rgL rg hd 8) 6) ∧ (∀ j, j < 6 → u9.2.2.2.2.2.2 j = nI (wdL od (rgL rg hd 8) j))) (fun u9 t9 => PR g (CW g ad rg hd (nF od) tx ty sm pa pr fl op du u9.1 u9.2.1 u9.2.2.1 u9.2.2.2.1 u9.2.2.2.2.1 u9.2.2.2.2.2.1 u9.2.2.2.2.2.2 ++ X) t9) (gA g)) 0 0 (gA g) := by
  refine mt_of (by decide) (Nat.le_of_ble_eq_true rfl) ?_
  intro p e s m below meth c ls hx hb hr hml hlk hown ht hnm F hP hD hl
  have hl : lv_has ls 2 [(0, .ref (ad 0))] := hl
  have hS : va_S (gA g) s.heap s.heap [] := va_S.rf
  refine lv_aload_n hx hb d_SG_nodesOfAll_0 rfl (lv_at hl 0 rfl) ?_
  refine va_get (ci := 3) (v := .ref (ad 11)) (C := R_SG) (T := T_SG) (N := 6) hx hb ht i_SG hown F.2.1 hP 0 rfl rfl 5 (by decide) (ht _ tw_90) (fun _ h9 => h9) rfl d_SG_nodesOfAll_1 ?_
  refine pc_Vv (q0 := 11) (As := []) (rest := []) hx hb (hml.trans hl.1.symm) hown ht F hP hD hS (c_NC_begin l g ad rg hd (nF od) tx ty sm pa pr fl op du qa ab ac qb be bc wd X) v_NC_begin tw_112 ⟨rfl, rfl⟩ ⟨by decide, by decide⟩ rfl rfl rfl rfl (Nat.le_of_ble_eq_true rfl) ⟨Nat.zero_le _, Nat.zero_le _⟩ d_SG_nodesOfAll_4 (fun u9 H locs hq hP hD hS => ?_)
  have hP : va_P g.1 cl (CW g ad rg hd (nF od) tx ty sm pa pr fl op du qa ab ac qb be (nI 0) wd ++ X) H := hP
  have hD : va_D (gA g) (CW g ad rg hd (nF od) tx ty sm pa pr fl op du qa ab ac qb be (nI 0) wd ++ X) := hD
  refine lv_iconst (v := nI 0) hx hb d_SG_nodesOfAll_7 (by decide) ?_
  refine lv_istore_n (lv' := [(1, .int (nI 0)), (0, .ref (ad 0))]) hx hb d_SG_nodesOfAll_8 rfl hl (by decide) rfl (fun ls hl => ?_)
  have lp9 : ∀ (j9 : Nat) (i : Nat) (be1 : Nat → Int64) (n1 : Nat) (H : Heap) (locs : List Loc) (ls : Array Slot), i + j9 = 8 → (i ≤ 8) → (n1 ≤ i) → (rep be1 n1 (rgL rg hd i)) → va_P g.1 cl (CW g ad rg hd (nF od) tx ty sm pa pr fl op du qa ab ac qb be1 (nI n1) wd ++ X) H → va_D (gA g) (CW g ad rg hd (nF od) tx ty sm pa pr fl op du qa ab ac qb be1 (nI n1) wd ++ X) → va_S (gA g) s.heap H locs → lv_has ls 2 [(1, .int (nI i)), (0, .ref (ad 0))] → W p l e rm_SG_nodesOfAll s m [.ref (ad 0)].toArray below meth c H locs 0 0 (MQ below (va_Qi (fun r9 (u9 : (Nat) × (Nat → Int64) × (Int32) × (Nat) × (Nat → Int64) × (Int32) × (Nat → Int32)) => r9 = nI (toL od (rgL rg hd 8) 6) ∧ (∀ j, j < 6 → u9.2.2.2.2.2.2 j = nI (wdL od (rgL rg hd 8) j))) (fun u9 t9 => PR g (CW g ad rg hd (nF od) tx ty sm pa pr fl op du u9.1 u9.2.1 u9.2.2.1 u9.2.2.2.1 u9.2.2.2.2.1 u9.2.2.2.2.2.1 u9.2.2.2.2.2.2 ++ X) t9) (gA g)) [.ref (ad 0)].toArray s 0 0 (gA g)) (F0 m 9 ls []) := by
    intro j9
    induction j9 with
    | zero =>
      intro i be1 n1 H locs ls hj9 k0 k1 k2 hP hD hS hl
      refine lv_iload_n hx hb d_SG_nodesOfAll_9 rfl (lv_at hl 0 rfl) ?_
      refine lv_bipush (v := nI 8) hx hb d_SG_nodesOfAll_10 (by decide) ?_
      refine rc_ge (tgt := 47) hx hb (by omega) (by omega) d_SG_nodesOfAll_12 (by decide) (fun c12 => ?_) (fun c12 => ?_)
      · refine lv_aload_n hx hb d_SG_nodesOfAll_47 rfl (lv_at hl 1 rfl) ?_
        refine va_get (ci := 3) (v := .ref (ad 11)) (C := R_SG) (T := T_SG) (N := 6) hx hb ht i_SG hown F.2.1 hP 0 rfl rfl 5 (by decide) (ht _ tw_90) (fun _ h9 => h9) rfl d_SG_nodesOfAll_48 ?_
        refine lv_aload_n hx hb d_SG_nodesOfAll_51 rfl (lv_at hl 1 rfl) ?_
        refine va_get (ci := 3) (v := .ref (ad 4)) (C := R_SG) (T := T_SG) (N := 6) hx hb ht i_SG hown F.2.1 hP 0 rfl rfl 1 (by decide) (ht _ tw_86) (fun _ h9 => h9) rfl d_SG_nodesOfAll_52 ?_
        refine pc_Vi (q0 := 11) (As := [.ref (ad 4)]) (rest := []) hx hb (hml.trans hl.1.symm) hown ht F hP hD hS (c_NC_total l g ad rg hd tx ty sm pa pr fl op du qa ab ac qb be1 wd X od n1 (rgL rg hd 8) h1 (by omega) (by rw [← show i = 8 by omega]; exact k2)) v_NC_total tw_128 ⟨rfl, rfl⟩ ⟨by decide, by decide⟩ rfl rfl rfl rfl (Nat.le_of_ble_eq_true rfl) ⟨Nat.zero_le _, Nat.zero_le _⟩ d_SG_nodesOfAll_55 (fun r9 u9 H locs hq hP hD hS => ?_)
        obtain ⟨qa55, ab55, ac55, qb55, be55, bc55, wd55⟩ := u9
        obtain ⟨hq, pq55⟩ := hq
        have pq55 : ∀ j, j < 6 → wd55 j = nI (wdL od (rgL rg hd 8) j) := pq55
        subst hq
        have hP : va_P g.1 cl (CW g ad rg hd (nF od) tx ty sm pa pr fl op du qa55 ab55 ac55 qb55 be55 bc55 wd55 ++ X) H := hP
        have hD : va_D (gA g) (CW g ad rg hd (nF od) tx ty sm pa pr fl op du qa55 ab55 ac55 qb55 be55 bc55 wd55 ++ X) := hD
        exact W.iret (v := nI (toL od (rgL rg hd 8) 6)) hx hb hr (fun t9 e1 hW => ⟨⟨_, (qa55, ab55, ac55, qb55, be55, bc55, wd55), rfl, ⟨rfl, pq55⟩, PR.at F hP hD hS e1 hW.alike⟩, hS.F e1⟩) hS.2.2 d_SG_nodesOfAll_58
      · exact (by omega : False).elim
    | succ j9 ih9 =>
      intro i be1 n1 H locs ls hj9 k0 k1 k2 hP hD hS hl
      refine lv_iload_n hx hb d_SG_nodesOfAll_9 rfl (lv_at hl 0 rfl) ?_
      refine lv_bipush (v := nI 8) hx hb d_SG_nodesOfAll_10 (by decide) ?_
      refine rc_ge (tgt := 47) hx hb (by omega) (by omega) d_SG_nodesOfAll_12 (by decide) (fun c12 => ?_) (fun c12 => ?_)
      · exact (by omega : False).elim
      · refine lv_aload_n hx hb d_SG_nodesOfAll_15 rfl (lv_at hl 1 rfl) ?_
        refine va_get (ci := 3) (v := .ref (ad 1)) (C := R_SG) (T := T_SG) (N := 6) hx hb ht i_SG hown F.2.1 hP 0 rfl rfl 0 (by decide) (ht _ tw_85) (fun _ h9 => h9) rfl d_SG_nodesOfAll_16 ?_
        refine lv_iload_n hx hb d_SG_nodesOfAll_19 rfl (lv_at hl 0 rfl) ?_
        refine pc_Vi (q0 := 1) (As := [.int (nI i)]) (rest := []) hx hb (hml.trans hl.1.symm) hown ht F hP hD hS (c_RG_isHeld l g ad rg hd (nF od) tx ty sm pa pr fl op du qa ab ac qb be1 (nI n1) wd X i (by omega) (h2 i (by omega))) v_RG_isHeld tw_116 ⟨rfl, rfl⟩ ⟨by decide, by decide⟩ rfl rfl rfl rfl (Nat.le_of_ble_eq_true rfl) ⟨Nat.zero_le _, Nat.zero_le _⟩ d_SG_nodesOfAll_20 (fun r9 u9 H locs hq hP hD hS => ?_)
        subst hq
        refine lv_if_eq (tgt := 41) hx hb d_SG_nodesOfAll_23 (by decide) (fun c23 => ?_) (fun c23 => ?_)
        · refine lv_iinc (lv' := [(1, .int (nI (i + 1))), (0, .ref (ad 0))]) hx hb d_SG_nodesOfAll_41 hl (k := 0) rfl (nI_1 _) (by decide) rfl (fun ls hl => ?_)
          refine lv_goto (tgt := 9) hx hb d_SG_nodesOfAll_44 (by decide) ?_
          have hl := lv_sub hl [0, 1] rfl
          have hl : lv_has ls 2 [(1, .int (nI ((i + 1)))), (0, .ref (ad 0))] := hl
          have hP : va_P g.1 cl (CW g ad rg hd (nF od) tx ty sm pa pr fl op du qa ab ac qb be1 (nI n1) wd ++ X) H := hP
          have hD : va_D (gA g) (CW g ad rg hd (nF od) tx ty sm pa pr fl op du qa ab ac qb be1 (nI n1) wd ++ X) := hD
          exact ih9 (i + 1) be1 n1 H locs ls (by omega) (by omega) (by omega) (by rw [show rgL rg hd (i + 1) = rgL rg hd i from if_pos c23]; exact k2) hP hD hS hl
        · refine lv_aload_n hx hb d_SG_nodesOfAll_26 rfl (lv_at hl 1 rfl) ?_
          refine va_get (ci := 3) (v := .ref (ad 11)) (C := R_SG) (T := T_SG) (N := 6) hx hb ht i_SG hown F.2.1 hP 0 rfl rfl 5 (by decide) (ht _ tw_90) (fun _ h9 => h9) rfl d_SG_nodesOfAll_27 ?_
          refine lv_aload_n hx hb d_SG_nodesOfAll_30 rfl (lv_at hl 1 rfl) ?_
          refine va_get (ci := 3) (v := .ref (ad 1)) (C := R_SG) (T := T_SG) (N := 6) hx hb ht i_SG hown F.2.1 hP 0 rfl rfl 0 (by decide) (ht _ tw_85) (fun _ h9 => h9) rfl d_SG_nodesOfAll_31 ?_
          refine lv_iload_n hx hb d_SG_nodesOfAll_34 rfl (lv_at hl 0 rfl) ?_
          refine pc_Vl (q0 := 1) (As := [.int (nI i)]) (rest := [.ref (ad 11)]) hx hb (hml.trans hl.1.symm) hown ht F hP hD hS (c_RG_table l g ad rg hd (nF od) tx ty sm pa pr fl op du qa ab ac qb be1 (nI n1) wd X i (by omega)) v_RG_table tw_120 ⟨rfl, rfl⟩ ⟨by decide, by decide⟩ rfl rfl rfl rfl (Nat.le_of_ble_eq_true rfl) ⟨Nat.zero_le _, Nat.zero_le _⟩ d_SG_nodesOfAll_35 (fun r9 u9 H locs hq hP hD hS => ?_)
          subst hq
          refine pc_Vv (q0 := 11) (As := [.long (rg i)]) (rest := []) hx hb (hml.trans hl.1.symm) hown ht F hP hD hS (c_NC_add l g ad rg hd (nF od) tx ty sm pa pr fl op du qa ab ac qb be1 wd X n1 (rg i) (by omega)) v_NC_add tw_124 ⟨rfl, rfl⟩ ⟨by decide, by decide⟩ rfl rfl rfl rfl (Nat.le_of_ble_eq_true rfl) ⟨Nat.zero_le _, Nat.zero_le _⟩ d_SG_nodesOfAll_38 (fun u9 H locs hq hP hD hS => ?_)
          have hP : va_P g.1 cl (CW g ad rg hd (nF od) tx ty sm pa pr fl op du qa ab ac qb (adF be1 n1 (rg i)) (nI (adN be1 n1 (rg i))) wd ++ X) H := hP
          have hD : va_D (gA g) (CW g ad rg hd (nF od) tx ty sm pa pr fl op du qa ab ac qb (adF be1 n1 (rg i)) (nI (adN be1 n1 (rg i))) wd ++ X) := hD
          refine lv_iinc (lv' := [(1, .int (nI (i + 1))), (0, .ref (ad 0))]) hx hb d_SG_nodesOfAll_41 hl (k := 0) rfl (nI_1 _) (by decide) rfl (fun ls hl => ?_)
          refine lv_goto (tgt := 9) hx hb d_SG_nodesOfAll_44 (by decide) ?_
          have hl := lv_sub hl [0, 1] rfl
          have hl : lv_has ls 2 [(1, .int (nI ((i + 1)))), (0, .ref (ad 0))] := hl
          have hP : va_P g.1 cl (CW g ad rg hd (nF od) tx ty sm pa pr fl op du qa ab ac qb ((adF be1 n1 (rg i))) (nI (adN be1 n1 (rg i))) wd ++ X) H := hP
          have hD : va_D (gA g) (CW g ad rg hd (nF od) tx ty sm pa pr fl op du qa ab ac qb ((adF be1 n1 (rg i))) (nI (adN be1 n1 (rg i))) wd ++ X) := hD
          exact ih9 (i + 1) (adF be1 n1 (rg i)) (adN be1 n1 (rg i)) H locs ls (by omega) (by omega) (Nat.le_trans adN_s (by omega)) (by rw [show rgL rg hd (i + 1) = adL (rgL rg hd i) (rg i) from if_neg c23]; exact rep_add k2 _) hP hD hS hl
  have hl := lv_sub hl [0, 1] rfl
  have hl : lv_has ls 2 [(1, .int (nI 0)), (0, .ref (ad 0))] := hl
  have hP : va_P g.1 cl (CW g ad rg hd (nF od) tx ty sm pa pr fl op du qa ab ac qb be (nI 0) wd ++ X) H := hP
  have hD : va_D (gA g) (CW g ad rg hd (nF od) tx ty sm pa pr fl op du qa ab ac qb be (nI 0) wd ++ X) := hD
  exact lp9 (8 - 0) 0 be 0 _ _ ls (by omega) (by omega) (by omega) rfl hP hD hS hl
