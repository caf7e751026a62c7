set_option maxRecDepth 100000 in
set_option maxHeartbeats 4000000 in
theorem c_MD_set (l : Launch) (g : Gx) (ma : Nat → Nat) (cd : Int32) (tb : Nat → Int64) (hm : Nat → Int32) (oo : Nat → Int32) (kp : Nat → Int32) (td : Int32) (tt : Nat → Int32) (ct : Int32) (fd : Nat → Int64) (os : Int32) (oq : Nat → Int32) (vs : Int32) (sk : Nat → Int64) (X : va_W) (r k : Nat) (g_r : r < 8) (g_k : k < 14) : Met l y_MD_set (w_MD_set :: TW) rm_MD_set (va_Pc [.ref (ma 0), .int (nI r), .int (nI k)] (PR g (MW g ma cd tb hm oo kp td tt ct fd os oq vs sk ++ X))) (va_Qv (fun (u9 : Unit) => True) (fun u9 t9 => PR g (MW g ma (nI 0) (vp_updL tb r (SETT k)) (upd hm r (nI 1)) oo kp td tt ct fd os oq vs sk ++ X) t9) (gA g)) 0 0 (gA g) := by
  refine mt_of (by decide) (Nat.le_of_ble_eq_true rfl) ?_
  intro p e s m below meth c ls hx hb hr hml hlk hown ht hnm F hP hD hl
  have hl : lv_has ls 5 [(0, .ref (ma 0)), (1, .int (nI r)), (2, .int (nI k))] := hl
  have hS : va_S (gA g) s.heap s.heap [] := va_S.rf
  refine lv_aload_n hx hb d_MD_set_0 rfl (lv_at hl 0 rfl) ?_
  refine lv_iload_n hx hb d_MD_set_1 rfl (lv_at hl 1 rfl) ?_
  refine pc_Si (As := [.int (nI r)]) (rest := [.ref (ma 0)]) hx hb (hml.trans hl.1.symm) hown ht F hP hD hS (c_MD_isRegister l g (MW g ma cd tb hm oo kp td tt ct fd os oq vs sk ++ X) r (by omega)) v_MD_isRegister tw_518 ⟨rfl, rfl⟩ ⟨by decide, by decide⟩ rfl rfl (Nat.le_of_ble_eq_true rfl) ⟨Nat.zero_le _, Nat.zero_le _⟩ d_MD_set_2 (fun r9 u9 H locs hq hP hD hS => ?_)
  subst hq
  refine rz_eq (tgt := 22) hx hb (by omega) d_MD_set_5 (by decide) (fun c5 => ?_) (fun c5 => ?_)
  · exact (by omega : False).elim
  · refine lv_iload_n hx hb d_MD_set_8 rfl (lv_at hl 2 rfl) ?_
    refine lv_iconst (v := nI 0) hx hb d_MD_set_9 (by decide) ?_
    refine lv_bipush (v := nI 13) hx hb d_MD_set_10 (by decide) ?_
    refine pc_Si (As := [.int (nI k), .int (nI 0), .int (nI 13)]) (rest := [.ref (ma 0)]) hx hb (hml.trans hl.1.symm) hown ht F hP hD hS (c_MD_within l g (MW g ma cd tb hm oo kp td tt ct fd os oq vs sk ++ X) k 0 13 (by omega) (by omega) (by omega)) v_MD_within tw_521 ⟨rfl, rfl⟩ ⟨by decide, by decide⟩ rfl rfl (Nat.le_of_ble_eq_true rfl) ⟨Nat.zero_le _, Nat.zero_le _⟩ d_MD_set_12 (fun r9 u9 H locs hq hP hD hS => ?_)
    subst hq
    refine rz_eq (tgt := 22) hx hb (by omega) d_MD_set_15 (by decide) (fun c15 => ?_) (fun c15 => ?_)
    · exact (by omega : False).elim
    · refine lv_iconst (v := nI 0) hx hb d_MD_set_18 (by decide) ?_
      refine lv_goto (tgt := 23) hx hb d_MD_set_19 (by decide) ?_
      refine va_put (ci := 4) (v := .int (nI 0)) (ty := .int) (C := R_MD) (T := T_MD) (N := 13) hx hb ht i_MD t_MD t_MD_ok n_MD hown F.2.1 hP hD hS 0 rfl rfl 0 (by decide) (ht _ tw_470) (fun _ h9 => h9) rfl (by decide +kernel) rfl rfl (Nat.le_of_ble_eq_true rfl) d_MD_set_23 (fun H locs hP hD hS => ?_)
      have hP : va_P g.1 cl (MW g ma (nI 0) tb hm oo kp td tt ct fd os oq vs sk ++ X) H := hP
      have hD : va_D (gA g) (MW g ma (nI 0) tb hm oo kp td tt ct fd os oq vs sk ++ X) := hD
      refine lv_aload_n hx hb d_MD_set_26 rfl (lv_at hl 0 rfl) ?_
      refine va_get (ci := 4) (v := .int (nI 0)) (C := R_MD) (T := T_MD) (N := 13) hx hb ht i_MD hown F.2.1 hP 0 rfl rfl 0 (by decide) (ht _ tw_470) (fun _ h9 => h9) rfl d_MD_set_27 ?_
      refine rz_ne (tgt := 71) hx hb (by omega) d_MD_set_30 (by decide) (fun c30 => ?_) (fun c30 => ?_)
      · exact (by omega : False).elim
      · refine lv_iload_n hx hb d_MD_set_33 rfl (lv_at hl 2 rfl) ?_
        refine lv_iconst (v := nI 2) hx hb d_MD_set_34 (by decide) ?_
        refine rc_ge (tgt := 42) hx hb (by omega) (by omega) d_MD_set_35 (by decide) (fun c35 => ?_) (fun c35 => ?_)
        · refine lv_iload_n hx hb d_MD_set_42 rfl (lv_at hl 2 rfl) ?_
          refine lv_iconst (v := nI 2) hx hb d_MD_set_43 (by decide) ?_
          refine rn_sub hx hb (by omega) d_MD_set_44 ?_
          refine lv_iconst (v := nI 2) hx hb d_MD_set_45 (by decide) ?_
          refine lv_idiv hx hb d_MD_set_46 (by decide) ?_
          rw [pk_div (by omega) (by decide) (by decide)]
          refine pc_Sl (As := [.int (nI ((k - 2) / 2))]) (rest := []) hx hb (hml.trans hl.1.symm) hown ht F hP hD hS (c_MD_variableTable l g (MW g ma (nI 0) tb hm oo kp td tt ct fd os oq vs sk ++ X) ((k - 2) / 2) (by omega)) v_MD_variableTable tw_524 ⟨rfl, rfl⟩ ⟨by decide, by decide⟩ rfl rfl (Nat.le_of_ble_eq_true rfl) ⟨Nat.zero_le _, Nat.zero_le _⟩ d_MD_set_47 (fun r9 u9 H locs hq hP hD hS => ?_)
          subst hq
          refine lv_lstore_n (lv' := [(3, .long (mk6 ((k - 2) / 2))), (0, .ref (ma 0)), (1, .int (nI r)), (2, .int (nI k))]) hx hb d_MD_set_50 rfl hl (by decide) rfl (fun ls hl => ?_)
          refine lv_aload_n hx hb d_MD_set_51 rfl (lv_at hl 1 rfl) ?_
          refine lv_iload_n hx hb d_MD_set_52 rfl (lv_at hl 2 rfl) ?_
          refine lv_iload_n hx hb d_MD_set_53 rfl (lv_at hl 3 rfl) ?_
          refine lv_iconst (v := nI 2) hx hb d_MD_set_54 (by decide) ?_
          refine lv_irem hx hb d_MD_set_55 (by decide) ?_
          rw [pk_rem (by omega) (by decide) (by decide)]
          refine rz_ne (tgt := 63) hx hb (by omega) d_MD_set_56 (by decide) (fun c56 => ?_) (fun c56 => ?_)
          · refine lv_lload_n hx hb d_MD_set_63 rfl (lv_at hl 0 rfl) ?_
            refine lv_ldc2 (v := (-1)) hx hb hown (ht _ tw_527) d_MD_set_64 ?_
            refine lv_lxor hx hb d_MD_set_67 ?_
            refine pc_Vv (q0 := 0) (As := [.int (nI r), .long ((mk6 ((k - 2) / 2)) ^^^ (-1))]) (rest := []) hx hb (hml.trans hl.1.symm) hown ht F hP hD hS (c_MD_put l g ma (nI 0) tb hm oo kp td tt ct fd os oq vs sk X r ((mk6 ((k - 2) / 2)) ^^^ (-1)) (by omega)) v_MD_put tw_528 ⟨rfl, rfl⟩ ⟨by decide, by decide⟩ rfl rfl rfl rfl (Nat.le_of_ble_eq_true rfl) ⟨Nat.zero_le _, Nat.zero_le _⟩ d_MD_set_68 (fun u9 H locs hq hP hD hS => ?_)
            have hP : va_P g.1 cl (MW g ma (nI 0) (vp_updL tb r ((mk6 ((k - 2) / 2)) ^^^ (-1))) (upd hm r (nI 1)) oo kp td tt ct fd os oq vs sk ++ X) H := hP
            have hD : va_D (gA g) (MW g ma (nI 0) (vp_updL tb r ((mk6 ((k - 2) / 2)) ^^^ (-1))) (upd hm r (nI 1)) oo kp td tt ct fd os oq vs sk ++ X) := hD
            have hP : va_P g.1 cl (MW g ma (nI 0) (vp_updL tb r (SETT k)) (upd hm r (nI 1)) oo kp td tt ct fd os oq vs sk ++ X) H := by rw [show SETT k = _ from (if_neg c56).trans (by rw [if_pos c35])]; exact hP
            have hD : va_D (gA g) (MW g ma (nI 0) (vp_updL tb r (SETT k)) (upd hm r (nI 1)) oo kp td tt ct fd os oq vs sk ++ X) := by rw [show SETT k = _ from (if_neg c56).trans (by rw [if_pos c35])]; exact hD
            exact W.vret hx hb hr (fun t9 e1 hW => ⟨⟨(), rfl, trivial, PR.at F hP hD hS e1 hW.alike⟩, hS.F e1⟩) hS.2.2 d_MD_set_71
          · refine lv_lload_n hx hb d_MD_set_59 rfl (lv_at hl 0 rfl) ?_
            refine lv_goto (tgt := 68) hx hb d_MD_set_60 (by decide) ?_
            refine pc_Vv (q0 := 0) (As := [.int (nI r), .long (mk6 ((k - 2) / 2))]) (rest := []) hx hb (hml.trans hl.1.symm) hown ht F hP hD hS (c_MD_put l g ma (nI 0) tb hm oo kp td tt ct fd os oq vs sk X r (mk6 ((k - 2) / 2)) (by omega)) v_MD_put tw_528 ⟨rfl, rfl⟩ ⟨by decide, by decide⟩ rfl rfl rfl rfl (Nat.le_of_ble_eq_true rfl) ⟨Nat.zero_le _, Nat.zero_le _⟩ d_MD_set_68 (fun u9 H locs hq hP hD hS => ?_)
            have hP : va_P g.1 cl (MW g ma (nI 0) (vp_updL tb r (mk6 ((k - 2) / 2))) (upd hm r (nI 1)) oo kp td tt ct fd os oq vs sk ++ X) H := hP
            have hD : va_D (gA g) (MW g ma (nI 0) (vp_updL tb r (mk6 ((k - 2) / 2))) (upd hm r (nI 1)) oo kp td tt ct fd os oq vs sk ++ X) := hD
            have hP : va_P g.1 cl (MW g ma (nI 0) (vp_updL tb r (SETT k)) (upd hm r (nI 1)) oo kp td tt ct fd os oq vs sk ++ X) H := by rw [show SETT k = _ from (if_pos c56).trans (by rw [if_pos c35])]; exact hP
            have hD : va_D (gA g) (MW g ma (nI 0) (vp_updL tb r (SETT k)) (upd hm r (nI 1)) oo kp td tt ct fd os oq vs sk ++ X) := by rw [show SETT k = _ from (if_pos c56).trans (by rw [if_pos c35])]; exact hD
            exact W.vret hx hb hr (fun t9 e1 hW => ⟨⟨(), rfl, trivial, PR.at F hP hD hS e1 hW.alike⟩, hS.F e1⟩) hS.2.2 d_MD_set_71
        · refine lv_lconst (v := 0) hx hb d_MD_set_38 (by decide) ?_
          refine lv_goto (tgt := 50) hx hb d_MD_set_39 (by decide) ?_
          refine lv_lstore_n (lv' := [(3, .long 0), (0, .ref (ma 0)), (1, .int (nI r)), (2, .int (nI k))]) hx hb d_MD_set_50 rfl hl (by decide) rfl (fun ls hl => ?_)
          refine lv_aload_n hx hb d_MD_set_51 rfl (lv_at hl 1 rfl) ?_
          refine lv_iload_n hx hb d_MD_set_52 rfl (lv_at hl 2 rfl) ?_
          refine lv_iload_n hx hb d_MD_set_53 rfl (lv_at hl 3 rfl) ?_
          refine lv_iconst (v := nI 2) hx hb d_MD_set_54 (by decide) ?_
          refine lv_irem hx hb d_MD_set_55 (by decide) ?_
          rw [pk_rem (by omega) (by decide) (by decide)]
          refine rz_ne (tgt := 63) hx hb (by omega) d_MD_set_56 (by decide) (fun c56 => ?_) (fun c56 => ?_)
          · refine lv_lload_n hx hb d_MD_set_63 rfl (lv_at hl 0 rfl) ?_
            refine lv_ldc2 (v := (-1)) hx hb hown (ht _ tw_527) d_MD_set_64 ?_
            refine lv_lxor hx hb d_MD_set_67 ?_
            refine pc_Vv (q0 := 0) (As := [.int (nI r), .long (0 ^^^ (-1))]) (rest := []) hx hb (hml.trans hl.1.symm) hown ht F hP hD hS (c_MD_put l g ma (nI 0) tb hm oo kp td tt ct fd os oq vs sk X r (0 ^^^ (-1)) (by omega)) v_MD_put tw_528 ⟨rfl, rfl⟩ ⟨by decide, by decide⟩ rfl rfl rfl rfl (Nat.le_of_ble_eq_true rfl) ⟨Nat.zero_le _, Nat.zero_le _⟩ d_MD_set_68 (fun u9 H locs hq hP hD hS => ?_)
            have hP : va_P g.1 cl (MW g ma (nI 0) (vp_updL tb r (0 ^^^ (-1))) (upd hm r (nI 1)) oo kp td tt ct fd os oq vs sk ++ X) H := hP
            have hD : va_D (gA g) (MW g ma (nI 0) (vp_updL tb r (0 ^^^ (-1))) (upd hm r (nI 1)) oo kp td tt ct fd os oq vs sk ++ X) := hD
            have hP : va_P g.1 cl (MW g ma (nI 0) (vp_updL tb r (SETT k)) (upd hm r (nI 1)) oo kp td tt ct fd os oq vs sk ++ X) H := by rw [show SETT k = _ from (if_neg c56).trans (by rw [if_neg c35])]; exact hP
            have hD : va_D (gA g) (MW g ma (nI 0) (vp_updL tb r (SETT k)) (upd hm r (nI 1)) oo kp td tt ct fd os oq vs sk ++ X) := by rw [show SETT k = _ from (if_neg c56).trans (by rw [if_neg c35])]; exact hD
            exact W.vret hx hb hr (fun t9 e1 hW => ⟨⟨(), rfl, trivial, PR.at F hP hD hS e1 hW.alike⟩, hS.F e1⟩) hS.2.2 d_MD_set_71
          · refine lv_lload_n hx hb d_MD_set_59 rfl (lv_at hl 0 rfl) ?_
            refine lv_goto (tgt := 68) hx hb d_MD_set_60 (by decide) ?_
            refine pc_Vv (q0 := 0) (As := [.int (nI r), .long 0]) (rest := []) hx hb (hml.trans hl.1.symm) hown ht F hP hD hS (c_MD_put l g ma (nI 0) tb hm oo kp td tt ct fd os oq vs sk X r 0 (by omega)) v_MD_put tw_528 ⟨rfl, rfl⟩ ⟨by decide, by decide⟩ rfl rfl rfl rfl (Nat.le_of_ble_eq_true rfl) ⟨Nat.zero_le _, Nat.zero_le _⟩ d_MD_set_68 (fun u9 H locs hq hP hD hS => ?_)
            have hP : va_P g.1 cl (MW g ma (nI 0) (vp_updL tb r 0) (upd hm r (nI 1)) oo kp td tt ct fd os oq vs sk ++ X) H := hP
            have hD : va_D (gA g) (MW g ma (nI 0) (vp_updL tb r 0) (upd hm r (nI 1)) oo kp td tt ct fd os oq vs sk ++ X) := hD
            have hP : va_P g.1 cl (MW g ma (nI 0) (vp_updL tb r (SETT k)) (upd hm r (nI 1)) oo kp td tt ct fd os oq vs sk ++ X) H := by rw [show SETT k = _ from (if_pos c56).trans (by rw [if_neg c35])]; exact hP
            have hD : va_D (gA g) (MW g ma (nI 0) (vp_updL tb r (SETT k)) (upd hm r (nI 1)) oo kp td tt ct fd os oq vs sk ++ X) := by rw [show SETT k = _ from (if_pos c56).trans (by rw [if_neg c35])]; exact hD
            exact W.vret hx hb hr (fun t9 e1 hW => ⟨⟨(), rfl, trivial, PR.at F hP hD hS e1 hW.alike⟩, hS.F e1⟩) hS.2.2 d_MD_set_71
set_option maxRecDepth 100000 in
set_option maxHeartbeats 4000000 in
theorem c1_MD_set (l : Launch) (g : Gx) (ma : Nat → Nat) (cd : Int32) (tb : Nat → Int64) (hm : Nat → Int32) (oo : Nat → Int32) (kp : Nat → Int32) (td : Int32) (tt : Nat → Int32) (ct : Int32) (fd : Nat → Int64) (os : Int32) (oq : Nat → Int32) (vs : Int32) (sk : Nat → Int64) (X : va_W) (r : Int32) (k : Int32) (hbad : ¬ (inR r 8 ∧ inR k 14)) : Met l y_MD_set (w_MD_set :: TW) rm_MD_set (va_Pc [.ref (ma 0), .int r, .int k] (PR g (MW g ma cd tb hm oo kp td tt ct fd os oq vs sk ++ X))) (va_Qv (fun (u9 : Unit) => True) (fun u9 t9 => PR g (MW g ma (nI 1) tb hm oo kp td tt ct fd os oq vs sk ++ X) t9) (gA g)) 0 0 (gA g) := by
  refine mt_of (by decide) (Nat.le_of_ble_eq_true rfl) ?_
  intro p e s m below meth c ls hx hb hr hml hlk hown ht hnm F hP hD hl
  have hl : lv_has ls 5 [(0, .ref (ma 0)), (1, .int r), (2, .int k)] := hl
  have hS : va_S (gA g) s.heap s.heap [] := va_S.rf
  refine lv_aload_n hx hb d_MD_set_0 rfl (lv_at hl 0 rfl) ?_
  refine lv_iload_n hx hb d_MD_set_1 rfl (lv_at hl 1 rfl) ?_
  by_cases q2 : inR r 8
  · obtain ⟨k_r, hk_r, rfl⟩ := q2
    refine pc_Si (As := [.int (nI k_r)]) (rest := [.ref (ma 0)]) hx hb (hml.trans hl.1.symm) hown ht F hP hD hS (c_MD_isRegister l g (MW g ma cd tb hm oo kp td tt ct fd os oq vs sk ++ X) k_r (by omega)) v_MD_isRegister tw_518 ⟨rfl, rfl⟩ ⟨by decide, by decide⟩ rfl rfl (Nat.le_of_ble_eq_true rfl) ⟨Nat.zero_le _, Nat.zero_le _⟩ d_MD_set_2 (fun r9 u9 H locs hq hP hD hS => ?_)
    subst hq
    refine rz_eq (tgt := 22) hx hb (by omega) d_MD_set_5 (by decide) (fun c5 => ?_) (fun c5 => ?_)
    · exact (by omega : False).elim
    · refine lv_iload_n hx hb d_MD_set_8 rfl (lv_at hl 2 rfl) ?_
      refine lv_iconst (v := nI 0) hx hb d_MD_set_9 (by decide) ?_
      refine lv_bipush (v := nI 13) hx hb d_MD_set_10 (by decide) ?_
      by_cases q12 : inR k 14
      · exact (hbad ⟨inR_nI hk_r, q12⟩).elim
      · refine pc_Si (As := [.int k, .int (nI 0), .int (nI 13)]) (rest := [.ref (ma 0)]) hx hb (hml.trans hl.1.symm) hown ht F hP hD hS (c_MD_within_0 l g (MW g ma cd tb hm oo kp td tt ct fd os oq vs sk ++ X) k 0 13 (fun h => q12 (inR_le h)) (by decide) (by decide)) v_MD_within tw_521 ⟨rfl, rfl⟩ ⟨by decide, by decide⟩ rfl rfl (Nat.le_of_ble_eq_true rfl) ⟨Nat.zero_le _, Nat.zero_le _⟩ d_MD_set_12 (fun r9 u9 H locs hq hP hD hS => ?_)
        subst hq
        refine rz_eq (tgt := 22) hx hb (by omega) d_MD_set_15 (by decide) (fun c15 => ?_) (fun c15 => ?_)
        · refine lv_iconst (v := nI 1) hx hb d_MD_set_22 (by decide) ?_
          refine va_put (ci := 4) (v := .int (nI 1)) (ty := .int) (C := R_MD) (T := T_MD) (N := 13) hx hb ht i_MD t_MD t_MD_ok n_MD hown F.2.1 hP hD hS 0 rfl rfl 0 (by decide) (ht _ tw_470) (fun _ h9 => h9) rfl (by decide +kernel) rfl rfl (Nat.le_of_ble_eq_true rfl) d_MD_set_23 (fun H locs hP hD hS => ?_)
          have hP : va_P g.1 cl (MW g ma (nI 1) tb hm oo kp td tt ct fd os oq vs sk ++ X) H := hP
          have hD : va_D (gA g) (MW g ma (nI 1) tb hm oo kp td tt ct fd os oq vs sk ++ X) := hD
          refine lv_aload_n hx hb d_MD_set_26 rfl (lv_at hl 0 rfl) ?_
          refine va_get (ci := 4) (v := .int (nI 1)) (C := R_MD) (T := T_MD) (N := 13) hx hb ht i_MD hown F.2.1 hP 0 rfl rfl 0 (by decide) (ht _ tw_470) (fun _ h9 => h9) rfl d_MD_set_27 ?_
          refine rz_ne (tgt := 71) hx hb (by omega) d_MD_set_30 (by decide) (fun c30 => ?_) (fun c30 => ?_)
          · exact W.vret hx hb hr (fun t9 e1 hW => ⟨⟨(), rfl, trivial, PR.at F hP hD hS e1 hW.alike⟩, hS.F e1⟩) hS.2.2 d_MD_set_71
          · exact (by omega : False).elim
        · exact (by omega : False).elim
  · refine pc_Si (As := [.int r]) (rest := [.ref (ma 0)]) hx hb (hml.trans hl.1.symm) hown ht F hP hD hS (c_MD_isRegister_0 l g (MW g ma cd tb hm oo kp td tt ct fd os oq vs sk ++ X) r q2) v_MD_isRegister tw_518 ⟨rfl, rfl⟩ ⟨by decide, by decide⟩ rfl rfl (Nat.le_of_ble_eq_true rfl) ⟨Nat.zero_le _, Nat.zero_le _⟩ d_MD_set_2 (fun r9 u9 H locs hq hP hD hS => ?_)
    subst hq
    refine rz_eq (tgt := 22) hx hb (by omega) d_MD_set_5 (by decide) (fun c5 => ?_) (fun c5 => ?_)
    · refine lv_iconst (v := nI 1) hx hb d_MD_set_22 (by decide) ?_
      refine va_put (ci := 4) (v := .int (nI 1)) (ty := .int) (C := R_MD) (T := T_MD) (N := 13) hx hb ht i_MD t_MD t_MD_ok n_MD hown F.2.1 hP hD hS 0 rfl rfl 0 (by decide) (ht _ tw_470) (fun _ h9 => h9) rfl (by decide +kernel) rfl rfl (Nat.le_of_ble_eq_true rfl) d_MD_set_23 (fun H locs hP hD hS => ?_)
      have hP : va_P g.1 cl (MW g ma (nI 1) tb hm oo kp td tt ct fd os oq vs sk ++ X) H := hP
      have hD : va_D (gA g) (MW g ma (nI 1) tb hm oo kp td tt ct fd os oq vs sk ++ X) := hD
      refine lv_aload_n hx hb d_MD_set_26 rfl (lv_at hl 0 rfl) ?_
      refine va_get (ci := 4) (v := .int (nI 1)) (C := R_MD) (T := T_MD) (N := 13) hx hb ht i_MD hown F.2.1 hP 0 rfl rfl 0 (by decide) (ht _ tw_470) (fun _ h9 => h9) rfl d_MD_set_27 ?_
      refine rz_ne (tgt := 71) hx hb (by omega) d_MD_set_30 (by decide) (fun c30 => ?_) (fun c30 => ?_)
      · exact W.vret hx hb hr (fun t9 e1 hW => ⟨⟨(), rfl, trivial, PR.at F hP hD hS e1 hW.alike⟩, hS.F e1⟩) hS.2.2 d_MD_set_71
      · exact (by omega : False).elim
    · exact (by omega : False).elim
set_option maxRecDepth 100000 in
set_option maxHeartbeats 4000000 in
theorem c_MD_apply (l : Launch) (g : Gx) (ma : Nat → Nat) (cd : Int32) (tb : Nat → Int64) (hm : Nat → Int32) (oo : Nat → Int32) (kp : Nat → Int32) (td : Int32) (tt : Nat → Int32) (ct : Int32) (fd : Nat → Int64) (os : Int32) (oq : Nat → Int32) (vs : Int32) (sk : Nat → Int64) (X : va_W) (r a b o : Nat) (g_r : r < 8) (g_a : a < 8) (g_b : b < 8) (g_o : o < 16) (e_a : hm a = 1) (e_b : hm b = 1) : Met l y_MD_apply (w_MD_apply :: TW) rm_MD_apply (va_Pc [.ref (ma 0), .int (nI r), .int (nI a), .int (nI b), .int (nI o)] (PR g (MW g ma cd tb hm oo kp td tt ct fd os oq vs sk ++ X))) (va_Qv (fun (u9 : Unit) => True) (fun u9 t9 => PR g (MW g ma (nI 0) (vp_updL tb r (CNN (tb a) (tb b) o)) (upd hm r (nI 1)) oo kp td tt ct fd os oq vs sk ++ X) t9) (gA g)) 0 0 (gA g) := by
  refine mt_of (by decide) (Nat.le_of_ble_eq_true rfl) ?_
  intro p e s m below meth c ls hx hb hr hml hlk hown ht hnm F hP hD hl
  have hl : lv_has ls 10 [(0, .ref (ma 0)), (1, .int (nI r)), (2, .int (nI a)), (3, .int (nI b)), (4, .int (nI o))] := hl
  have hS : va_S (gA g) s.heap s.heap [] := va_S.rf
  refine lv_iload_n hx hb d_MD_apply_0 rfl (lv_at hl 1 rfl) ?_
  refine pc_Si (As := [.int (nI r)]) (rest := []) hx hb (hml.trans hl.1.symm) hown ht F hP hD hS (c_MD_isRegister l g (MW g ma cd tb hm oo kp td tt ct fd os oq vs sk ++ X) r (by omega)) v_MD_isRegister tw_518 ⟨rfl, rfl⟩ ⟨by decide, by decide⟩ rfl rfl (Nat.le_of_ble_eq_true rfl) ⟨Nat.zero_le _, Nat.zero_le _⟩ d_MD_apply_1 (fun r9 u9 H locs hq hP hD hS => ?_)
  subst hq
  refine rz_eq (tgt := 36) hx hb (by omega) d_MD_apply_4 (by decide) (fun c4 => ?_) (fun c4 => ?_)
  · exact (by omega : False).elim
  · refine lv_iload_n hx hb d_MD_apply_7 rfl (lv_at hl 2 rfl) ?_
    refine pc_Si (As := [.int (nI a)]) (rest := []) hx hb (hml.trans hl.1.symm) hown ht F hP hD hS (c_MD_isRegister l g (MW g ma cd tb hm oo kp td tt ct fd os oq vs sk ++ X) a (by omega)) v_MD_isRegister tw_518 ⟨rfl, rfl⟩ ⟨by decide, by decide⟩ rfl rfl (Nat.le_of_ble_eq_true rfl) ⟨Nat.zero_le _, Nat.zero_le _⟩ d_MD_apply_8 (fun r9 u9 H locs hq hP hD hS => ?_)
    subst hq
    refine rz_eq (tgt := 36) hx hb (by omega) d_MD_apply_11 (by decide) (fun c11 => ?_) (fun c11 => ?_)
    · exact (by omega : False).elim
    · refine lv_iload_n hx hb d_MD_apply_14 rfl (lv_at hl 3 rfl) ?_
      refine pc_Si (As := [.int (nI b)]) (rest := []) hx hb (hml.trans hl.1.symm) hown ht F hP hD hS (c_MD_isRegister l g (MW g ma cd tb hm oo kp td tt ct fd os oq vs sk ++ X) b (by omega)) v_MD_isRegister tw_518 ⟨rfl, rfl⟩ ⟨by decide, by decide⟩ rfl rfl (Nat.le_of_ble_eq_true rfl) ⟨Nat.zero_le _, Nat.zero_le _⟩ d_MD_apply_15 (fun r9 u9 H locs hq hP hD hS => ?_)
      subst hq
      refine rz_eq (tgt := 36) hx hb (by omega) d_MD_apply_18 (by decide) (fun c18 => ?_) (fun c18 => ?_)
      · exact (by omega : False).elim
      · refine lv_iload hx hb d_MD_apply_21 (lv_at hl 4 rfl) ?_
        refine lv_iconst (v := nI 0) hx hb d_MD_apply_23 (by decide) ?_
        refine lv_bipush (v := nI 15) hx hb d_MD_apply_24 (by decide) ?_
        refine pc_Si (As := [.int (nI o), .int (nI 0), .int (nI 15)]) (rest := []) hx hb (hml.trans hl.1.symm) hown ht F hP hD hS (c_MD_within l g (MW g ma cd tb hm oo kp td tt ct fd os oq vs sk ++ X) o 0 15 (by omega) (by omega) (by omega)) v_MD_within tw_521 ⟨rfl, rfl⟩ ⟨by decide, by decide⟩ rfl rfl (Nat.le_of_ble_eq_true rfl) ⟨Nat.zero_le _, Nat.zero_le _⟩ d_MD_apply_26 (fun r9 u9 H locs hq hP hD hS => ?_)
        subst hq
        refine rz_eq (tgt := 36) hx hb (by omega) d_MD_apply_29 (by decide) (fun c29 => ?_) (fun c29 => ?_)
        · exact (by omega : False).elim
        · refine lv_iconst (v := nI 1) hx hb d_MD_apply_32 (by decide) ?_
          refine lv_goto (tgt := 37) hx hb d_MD_apply_33 (by decide) ?_
          refine lv_istore (lv' := [(5, .int (nI 1)), (0, .ref (ma 0)), (1, .int (nI r)), (2, .int (nI a)), (3, .int (nI b)), (4, .int (nI o))]) hx hb d_MD_apply_37 hl (by decide) rfl (fun ls hl => ?_)
          refine lv_aload_n hx hb d_MD_apply_39 rfl (lv_at hl 1 rfl) ?_
          refine lv_iload hx hb d_MD_apply_40 (lv_at hl 0 rfl) ?_
          refine rz_ne (tgt := 49) hx hb (by omega) d_MD_apply_42 (by decide) (fun c42 => ?_) (fun c42 => ?_)
          · refine lv_aload_n hx hb d_MD_apply_49 rfl (lv_at hl 1 rfl) ?_
            refine va_get (ci := 4) (v := .ref (ma 2)) (C := R_MD) (T := T_MD) (N := 13) hx hb ht i_MD hown F.2.1 hP 0 rfl rfl 2 (by decide) (ht _ tw_472) (fun _ h9 => h9) rfl d_MD_apply_50 ?_
            refine lv_iload_n hx hb d_MD_apply_53 rfl (lv_at hl 3 rfl) ?_
            refine ra_Z hx hb F hP 2 rfl (by omega) (by decide) d_MD_apply_54 ?_
            refine lv_if_eq (tgt := 71) hx hb d_MD_apply_55 (by decide) (fun c55 => ?_) (fun c55 => ?_)
            · exact absurd (e_a.symm.trans c55) (by decide)
            · refine lv_aload_n hx hb d_MD_apply_58 rfl (lv_at hl 1 rfl) ?_
              refine va_get (ci := 4) (v := .ref (ma 2)) (C := R_MD) (T := T_MD) (N := 13) hx hb ht i_MD hown F.2.1 hP 0 rfl rfl 2 (by decide) (ht _ tw_472) (fun _ h9 => h9) rfl d_MD_apply_59 ?_
              refine lv_iload_n hx hb d_MD_apply_62 rfl (lv_at hl 4 rfl) ?_
              refine ra_Z hx hb F hP 2 rfl (by omega) (by decide) d_MD_apply_63 ?_
              refine lv_if_eq (tgt := 71) hx hb d_MD_apply_64 (by decide) (fun c64 => ?_) (fun c64 => ?_)
              · exact absurd (e_b.symm.trans c64) (by decide)
              · refine lv_iconst (v := nI 0) hx hb d_MD_apply_67 (by decide) ?_
                refine lv_goto (tgt := 72) hx hb d_MD_apply_68 (by decide) ?_
                refine va_put (ci := 4) (v := .int (nI 0)) (ty := .int) (C := R_MD) (T := T_MD) (N := 13) hx hb ht i_MD t_MD t_MD_ok n_MD hown F.2.1 hP hD hS 0 rfl rfl 0 (by decide) (ht _ tw_470) (fun _ h9 => h9) rfl (by decide +kernel) rfl rfl (Nat.le_of_ble_eq_true rfl) d_MD_apply_72 (fun H locs hP hD hS => ?_)
                have hP : va_P g.1 cl (MW g ma (nI 0) tb hm oo kp td tt ct fd os oq vs sk ++ X) H := hP
                have hD : va_D (gA g) (MW g ma (nI 0) tb hm oo kp td tt ct fd os oq vs sk ++ X) := hD
                refine lv_aload_n hx hb d_MD_apply_75 rfl (lv_at hl 1 rfl) ?_
                refine va_get (ci := 4) (v := .int (nI 0)) (C := R_MD) (T := T_MD) (N := 13) hx hb ht i_MD hown F.2.1 hP 0 rfl rfl 0 (by decide) (ht _ tw_470) (fun _ h9 => h9) rfl d_MD_apply_76 ?_
                refine rz_le (tgt := 83) hx hb (by omega) d_MD_apply_79 (by decide) (fun c79 => ?_) (fun c79 => ?_)
                · refine lv_lconst (v := 0) hx hb d_MD_apply_83 (by decide) ?_
                  refine lv_lstore (lv' := [(6, .long 0), (5, .int (nI 1)), (0, .ref (ma 0)), (1, .int (nI r)), (2, .int (nI a)), (3, .int (nI b)), (4, .int (nI o))]) hx hb d_MD_apply_84 hl (by decide) rfl (fun ls hl => ?_)
                  refine lv_iconst (v := nI 0) hx hb d_MD_apply_86 (by decide) ?_
                  refine lv_istore (lv' := [(8, .int (nI 0)), (6, .long 0), (5, .int (nI 1)), (0, .ref (ma 0)), (1, .int (nI r)), (2, .int (nI a)), (3, .int (nI b)), (4, .int (nI o))]) hx hb d_MD_apply_87 hl (by decide) rfl (fun ls hl => ?_)
                  have lp89 : ∀ (j89 : Nat) (i : Nat) (H : Heap) (locs : List Loc) (ls : Array Slot), i + j89 = 64 → va_P g.1 cl (MW g ma (nI 0) tb hm oo kp td tt ct fd os oq vs sk ++ X) H → va_D (gA g) (MW g ma (nI 0) tb hm oo kp td tt ct fd os oq vs sk ++ X) → va_S (gA g) s.heap H locs → lv_has ls 10 [(8, .int (nI i)), (6, .long (apF (tb a) (tb b) o i)), (0, .ref (ma 0)), (1, .int (nI r)), (2, .int (nI a)), (3, .int (nI b)), (4, .int (nI o))] → W p l e rm_MD_apply s m [.ref (ma 0), .int (nI r), .int (nI a), .int (nI b), .int (nI o)].toArray below meth c H locs 0 0 (MQ below (va_Qv (fun (u9 : Unit) => True) (fun u9 t9 => PR g (MW g ma (nI 0) (vp_updL tb r (CNN (tb a) (tb b) o)) (upd hm r (nI 1)) oo kp td tt ct fd os oq vs sk ++ X) t9) (gA g)) [.ref (ma 0), .int (nI r), .int (nI a), .int (nI b), .int (nI o)].toArray s 0 0 (gA g)) (F0 m 89 ls []) := by
                    intro j89
                    induction j89 with
                    | zero =>
                      intro i H locs ls hj89 hP hD hS hl
                      refine lv_iload hx hb d_MD_apply_89 (lv_at hl 0 rfl) ?_
                      refine lv_bipush (v := nI 64) hx hb d_MD_apply_91 (by decide) ?_
                      refine rc_ge (tgt := 168) hx hb (by omega) (by omega) d_MD_apply_93 (by decide) (fun c93 => ?_) (fun c93 => ?_)
                      · refine lv_aload_n hx hb d_MD_apply_168 rfl (lv_at hl 2 rfl) ?_
                        refine lv_iload_n hx hb d_MD_apply_169 rfl (lv_at hl 3 rfl) ?_
                        refine lv_lload hx hb d_MD_apply_170 (lv_at hl 1 rfl) ?_
                        refine pc_Vv (q0 := 0) (As := [.int (nI r), .long (apF (tb a) (tb b) o i)]) (rest := []) hx hb (hml.trans hl.1.symm) hown ht F hP hD hS (c_MD_put l g ma (nI 0) tb hm oo kp td tt ct fd os oq vs sk X r (apF (tb a) (tb b) o i) (by omega)) v_MD_put tw_528 ⟨rfl, rfl⟩ ⟨by decide, by decide⟩ rfl rfl rfl rfl (Nat.le_of_ble_eq_true rfl) ⟨Nat.zero_le _, Nat.zero_le _⟩ d_MD_apply_172 (fun u9 H locs hq hP hD hS => ?_)
                        have hP : va_P g.1 cl (MW g ma (nI 0) (vp_updL tb r (apF (tb a) (tb b) o i)) (upd hm r (nI 1)) oo kp td tt ct fd os oq vs sk ++ X) H := hP
                        have hD : va_D (gA g) (MW g ma (nI 0) (vp_updL tb r (apF (tb a) (tb b) o i)) (upd hm r (nI 1)) oo kp td tt ct fd os oq vs sk ++ X) := hD
                        have hP : va_P g.1 cl (MW g ma (nI 0) (vp_updL tb r (CNN (tb a) (tb b) o)) (upd hm r (nI 1)) oo kp td tt ct fd os oq vs sk ++ X) H := by rw [← ap_eq g_o, show 64 = i by omega]; exact hP
                        have hD : va_D (gA g) (MW g ma (nI 0) (vp_updL tb r (CNN (tb a) (tb b) o)) (upd hm r (nI 1)) oo kp td tt ct fd os oq vs sk ++ X) := by rw [← ap_eq g_o, show 64 = i by omega]; exact hD
                        exact W.vret hx hb hr (fun t9 e1 hW => ⟨⟨(), rfl, trivial, PR.at F hP hD hS e1 hW.alike⟩, hS.F e1⟩) hS.2.2 d_MD_apply_175
                      · exact (by omega : False).elim
                    | succ j89 ih89 =>
                      intro i H locs ls hj89 hP hD hS hl
                      refine lv_iload hx hb d_MD_apply_89 (lv_at hl 0 rfl) ?_
                      refine lv_bipush (v := nI 64) hx hb d_MD_apply_91 (by decide) ?_
                      refine rc_ge (tgt := 168) hx hb (by omega) (by omega) d_MD_apply_93 (by decide) (fun c93 => ?_) (fun c93 => ?_)
                      · exact (by omega : False).elim
                      · refine lv_aload_n hx hb d_MD_apply_96 rfl (lv_at hl 2 rfl) ?_
                        refine va_get (ci := 4) (v := .ref (ma 1)) (C := R_MD) (T := T_MD) (N := 13) hx hb ht i_MD hown F.2.1 hP 0 rfl rfl 1 (by decide) (ht _ tw_471) (fun _ h9 => h9) rfl d_MD_apply_97 ?_
                        refine lv_iload_n hx hb d_MD_apply_100 rfl (lv_at hl 4 rfl) ?_
                        refine ra_J hx hb F hP 1 rfl (by omega) (by decide) d_MD_apply_101 ?_
                        refine lv_iload hx hb d_MD_apply_102 (lv_at hl 0 rfl) ?_
                        refine pc_Si (As := [.long (tb a), .int (nI i)]) (rest := []) hx hb (hml.trans hl.1.symm) hown ht F hP hD hS (c_MD_at l g (MW g ma (nI 0) tb hm oo kp td tt ct fd os oq vs sk ++ X) (tb a) i (by omega)) v_MD_at tw_536 ⟨rfl, rfl⟩ ⟨by decide, by decide⟩ rfl rfl (Nat.le_of_ble_eq_true rfl) ⟨Nat.zero_le _, Nat.zero_le _⟩ d_MD_apply_104 (fun r9 u9 H locs hq hP hD hS => ?_)
                        subst hq
                        refine lv_if_eq (tgt := 114) hx hb d_MD_apply_107 (by decide) (fun c107 => ?_) (fun c107 => ?_)
                        · refine lv_iconst (v := nI 0) hx hb d_MD_apply_114 (by decide) ?_
                          refine lv_aload_n hx hb d_MD_apply_115 rfl (lv_at hl 2 rfl) ?_
                          refine va_get (ci := 4) (v := .ref (ma 1)) (C := R_MD) (T := T_MD) (N := 13) hx hb ht i_MD hown F.2.1 hP 0 rfl rfl 1 (by decide) (ht _ tw_471) (fun _ h9 => h9) rfl d_MD_apply_116 ?_
                          refine lv_iload_n hx hb d_MD_apply_119 rfl (lv_at hl 5 rfl) ?_
                          refine ra_J hx hb F hP 1 rfl (by omega) (by decide) d_MD_apply_120 ?_
                          refine lv_iload hx hb d_MD_apply_121 (lv_at hl 0 rfl) ?_
                          refine pc_Si (As := [.long (tb b), .int (nI i)]) (rest := [.int (nI 0)]) hx hb (hml.trans hl.1.symm) hown ht F hP hD hS (c_MD_at l g (MW g ma (nI 0) tb hm oo kp td tt ct fd os oq vs sk ++ X) (tb b) i (by omega)) v_MD_at tw_536 ⟨rfl, rfl⟩ ⟨by decide, by decide⟩ rfl rfl (Nat.le_of_ble_eq_true rfl) ⟨Nat.zero_le _, Nat.zero_le _⟩ d_MD_apply_123 (fun r9 u9 H locs hq hP hD hS => ?_)
                          subst hq
                          refine lv_if_eq (tgt := 133) hx hb d_MD_apply_126 (by decide) (fun c126 => ?_) (fun c126 => ?_)
                          · refine lv_iconst (v := nI 0) hx hb d_MD_apply_133 (by decide) ?_
                            refine rn_add hx hb d_MD_apply_134 ?_
                            refine lv_istore (lv' := [(9, .int (nI 0)), (8, .int (nI i)), (6, .long (apF (tb a) (tb b) o i)), (0, .ref (ma 0)), (1, .int (nI r)), (2, .int (nI a)), (3, .int (nI b)), (4, .int (nI o))]) hx hb d_MD_apply_135 hl (by decide) rfl (fun ls hl => ?_)
                            refine lv_iload hx hb d_MD_apply_137 (lv_at hl 7 rfl) ?_
                            refine lv_iload hx hb d_MD_apply_139 (lv_at hl 0 rfl) ?_
                            refine lv_ishr hx hb d_MD_apply_141 ?_
                            refine lv_iconst (v := nI 1) hx hb d_MD_apply_142 (by decide) ?_
                            refine lv_iand hx hb d_MD_apply_143 ?_
                            refine lv_iconst (v := nI 1) hx hb d_MD_apply_144 (by decide) ?_
                            refine lv_icmp_ne (tgt := 158) hx hb d_MD_apply_145 (by decide) (fun c145 => ?_) (fun c145 => ?_)
                            · refine lv_lload hx hb d_MD_apply_158 (lv_at hl 2 rfl) ?_
                              refine lv_lstore (lv' := [(6, .long (apF (tb a) (tb b) o i)), (9, .int (nI 0)), (8, .int (nI i)), (0, .ref (ma 0)), (1, .int (nI r)), (2, .int (nI a)), (3, .int (nI b)), (4, .int (nI o))]) hx hb d_MD_apply_160 hl (by decide) rfl (fun ls hl => ?_)
                              refine lv_iinc (lv' := [(8, .int (nI (i + 1))), (6, .long (apF (tb a) (tb b) o i)), (9, .int (nI 0)), (0, .ref (ma 0)), (1, .int (nI r)), (2, .int (nI a)), (3, .int (nI b)), (4, .int (nI o))]) hx hb d_MD_apply_162 hl (k := 2) rfl (nI_1 _) (by decide) rfl (fun ls hl => ?_)
                              refine lv_goto (tgt := 89) hx hb d_MD_apply_165 (by decide) ?_
                              have hl := lv_sub hl [0, 1, 3, 4, 5, 6, 7] rfl
                              have hl : lv_has ls 10 [(8, .int (nI ((i + 1)))), (6, .long (apF (tb a) (tb b) o (i + 1))), (0, .ref (ma 0)), (1, .int (nI r)), (2, .int (nI a)), (3, .int (nI b)), (4, .int (nI o))] := by rw [show apF (tb a) (tb b) o (i + 1) = _ from if_neg (by rw [show apB (tb a) (tb b) i = 0 by unfold apB; rw [if_neg (bI_0.mp c107), if_neg (bI_0.mp c126)]]; exact c145)]; exact hl
                              exact ih89 (i + 1) H locs ls (by omega)  hP hD hS hl
                            · refine lv_lload hx hb d_MD_apply_148 (lv_at hl 2 rfl) ?_
                              refine lv_lconst (v := 1) hx hb d_MD_apply_150 (by decide) ?_
                              refine lv_iload hx hb d_MD_apply_151 (lv_at hl 1 rfl) ?_
                              refine lv_lshl hx hb d_MD_apply_153 rfl ?_
                              refine lv_lor hx hb d_MD_apply_154 ?_
                              refine lv_goto (tgt := 160) hx hb d_MD_apply_155 (by decide) ?_
                              refine lv_lstore (lv' := [(6, .long ((apF (tb a) (tb b) o i) ||| (1 <<< ((nI i).toInt64 &&& 63)))), (9, .int (nI 0)), (8, .int (nI i)), (0, .ref (ma 0)), (1, .int (nI r)), (2, .int (nI a)), (3, .int (nI b)), (4, .int (nI o))]) hx hb d_MD_apply_160 hl (by decide) rfl (fun ls hl => ?_)
                              refine lv_iinc (lv' := [(8, .int (nI (i + 1))), (6, .long ((apF (tb a) (tb b) o i) ||| (1 <<< ((nI i).toInt64 &&& 63)))), (9, .int (nI 0)), (0, .ref (ma 0)), (1, .int (nI r)), (2, .int (nI a)), (3, .int (nI b)), (4, .int (nI o))]) hx hb d_MD_apply_162 hl (k := 2) rfl (nI_1 _) (by decide) rfl (fun ls hl => ?_)
                              refine lv_goto (tgt := 89) hx hb d_MD_apply_165 (by decide) ?_
                              have hl := lv_sub hl [0, 1, 3, 4, 5, 6, 7] rfl
                              have hl : lv_has ls 10 [(8, .int (nI ((i + 1)))), (6, .long (apF (tb a) (tb b) o (i + 1))), (0, .ref (ma 0)), (1, .int (nI r)), (2, .int (nI a)), (3, .int (nI b)), (4, .int (nI o))] := by rw [show apF (tb a) (tb b) o (i + 1) = _ from if_pos (by rw [show apB (tb a) (tb b) i = 0 by unfold apB; rw [if_neg (bI_0.mp c107), if_neg (bI_0.mp c126)]]; exact c145)]; exact hl
                              exact ih89 (i + 1) H locs ls (by omega)  hP hD hS hl
                          · refine lv_iconst (v := nI 1) hx hb d_MD_apply_129 (by decide) ?_
                            refine lv_goto (tgt := 134) hx hb d_MD_apply_130 (by decide) ?_
                            refine rn_add hx hb d_MD_apply_134 ?_
                            refine lv_istore (lv' := [(9, .int (nI 1)), (8, .int (nI i)), (6, .long (apF (tb a) (tb b) o i)), (0, .ref (ma 0)), (1, .int (nI r)), (2, .int (nI a)), (3, .int (nI b)), (4, .int (nI o))]) hx hb d_MD_apply_135 hl (by decide) rfl (fun ls hl => ?_)
                            refine lv_iload hx hb d_MD_apply_137 (lv_at hl 7 rfl) ?_
                            refine lv_iload hx hb d_MD_apply_139 (lv_at hl 0 rfl) ?_
                            refine lv_ishr hx hb d_MD_apply_141 ?_
                            refine lv_iconst (v := nI 1) hx hb d_MD_apply_142 (by decide) ?_
                            refine lv_iand hx hb d_MD_apply_143 ?_
                            refine lv_iconst (v := nI 1) hx hb d_MD_apply_144 (by decide) ?_
                            refine lv_icmp_ne (tgt := 158) hx hb d_MD_apply_145 (by decide) (fun c145 => ?_) (fun c145 => ?_)
                            · refine lv_lload hx hb d_MD_apply_158 (lv_at hl 2 rfl) ?_
                              refine lv_lstore (lv' := [(6, .long (apF (tb a) (tb b) o i)), (9, .int (nI 1)), (8, .int (nI i)), (0, .ref (ma 0)), (1, .int (nI r)), (2, .int (nI a)), (3, .int (nI b)), (4, .int (nI o))]) hx hb d_MD_apply_160 hl (by decide) rfl (fun ls hl => ?_)
                              refine lv_iinc (lv' := [(8, .int (nI (i + 1))), (6, .long (apF (tb a) (tb b) o i)), (9, .int (nI 1)), (0, .ref (ma 0)), (1, .int (nI r)), (2, .int (nI a)), (3, .int (nI b)), (4, .int (nI o))]) hx hb d_MD_apply_162 hl (k := 2) rfl (nI_1 _) (by decide) rfl (fun ls hl => ?_)
                              refine lv_goto (tgt := 89) hx hb d_MD_apply_165 (by decide) ?_
                              have hl := lv_sub hl [0, 1, 3, 4, 5, 6, 7] rfl
                              have hl : lv_has ls 10 [(8, .int (nI ((i + 1)))), (6, .long (apF (tb a) (tb b) o (i + 1))), (0, .ref (ma 0)), (1, .int (nI r)), (2, .int (nI a)), (3, .int (nI b)), (4, .int (nI o))] := by rw [show apF (tb a) (tb b) o (i + 1) = _ from if_neg (by rw [show apB (tb a) (tb b) i = 1 by unfold apB; rw [if_neg (bI_0.mp c107), if_pos (bI_n0 c126)]]; exact c145)]; exact hl
                              exact ih89 (i + 1) H locs ls (by omega)  hP hD hS hl
                            · refine lv_lload hx hb d_MD_apply_148 (lv_at hl 2 rfl) ?_
                              refine lv_lconst (v := 1) hx hb d_MD_apply_150 (by decide) ?_
                              refine lv_iload hx hb d_MD_apply_151 (lv_at hl 1 rfl) ?_
                              refine lv_lshl hx hb d_MD_apply_153 rfl ?_
                              refine lv_lor hx hb d_MD_apply_154 ?_
                              refine lv_goto (tgt := 160) hx hb d_MD_apply_155 (by decide) ?_
                              refine lv_lstore (lv' := [(6, .long ((apF (tb a) (tb b) o i) ||| (1 <<< ((nI i).toInt64 &&& 63)))), (9, .int (nI 1)), (8, .int (nI i)), (0, .ref (ma 0)), (1, .int (nI r)), (2, .int (nI a)), (3, .int (nI b)), (4, .int (nI o))]) hx hb d_MD_apply_160 hl (by decide) rfl (fun ls hl => ?_)
                              refine lv_iinc (lv' := [(8, .int (nI (i + 1))), (6, .long ((apF (tb a) (tb b) o i) ||| (1 <<< ((nI i).toInt64 &&& 63)))), (9, .int (nI 1)), (0, .ref (ma 0)), (1, .int (nI r)), (2, .int (nI a)), (3, .int (nI b)), (4, .int (nI o))]) hx hb d_MD_apply_162 hl (k := 2) rfl (nI_1 _) (by decide) rfl (fun ls hl => ?_)
                              refine lv_goto (tgt := 89) hx hb d_MD_apply_165 (by decide) ?_
                              have hl := lv_sub hl [0, 1, 3, 4, 5, 6, 7] rfl
                              have hl : lv_has ls 10 [(8, .int (nI ((i + 1)))), (6, .long (apF (tb a) (tb b) o (i + 1))), (0, .ref (ma 0)), (1, .int (nI r)), (2, .int (nI a)), (3, .int (nI b)), (4, .int (nI o))] := by rw [show apF (tb a) (tb b) o (i + 1) = _ from if_pos (by rw [show apB (tb a) (tb b) i = 1 by unfold apB; rw [if_neg (bI_0.mp c107), if_pos (bI_n0 c126)]]; exact c145)]; exact hl
                              exact ih89 (i + 1) H locs ls (by omega)  hP hD hS hl
                        · refine lv_iconst (v := nI 2) hx hb d_MD_apply_110 (by decide) ?_
                          refine lv_goto (tgt := 115) hx hb d_MD_apply_111 (by decide) ?_
                          refine lv_aload_n hx hb d_MD_apply_115 rfl (lv_at hl 2 rfl) ?_
                          refine va_get (ci := 4) (v := .ref (ma 1)) (C := R_MD) (T := T_MD) (N := 13) hx hb ht i_MD hown F.2.1 hP 0 rfl rfl 1 (by decide) (ht _ tw_471) (fun _ h9 => h9) rfl d_MD_apply_116 ?_
                          refine lv_iload_n hx hb d_MD_apply_119 rfl (lv_at hl 5 rfl) ?_
                          refine ra_J hx hb F hP 1 rfl (by omega) (by decide) d_MD_apply_120 ?_
                          refine lv_iload hx hb d_MD_apply_121 (lv_at hl 0 rfl) ?_
                          refine pc_Si (As := [.long (tb b), .int (nI i)]) (rest := [.int (nI 2)]) hx hb (hml.trans hl.1.symm) hown ht F hP hD hS (c_MD_at l g (MW g ma (nI 0) tb hm oo kp td tt ct fd os oq vs sk ++ X) (tb b) i (by omega)) v_MD_at tw_536 ⟨rfl, rfl⟩ ⟨by decide, by decide⟩ rfl rfl (Nat.le_of_ble_eq_true rfl) ⟨Nat.zero_le _, Nat.zero_le _⟩ d_MD_apply_123 (fun r9 u9 H locs hq hP hD hS => ?_)
                          subst hq
                          refine lv_if_eq (tgt := 133) hx hb d_MD_apply_126 (by decide) (fun c126 => ?_) (fun c126 => ?_)
                          · refine lv_iconst (v := nI 0) hx hb d_MD_apply_133 (by decide) ?_
                            refine rn_add hx hb d_MD_apply_134 ?_
                            refine lv_istore (lv' := [(9, .int (nI 2)), (8, .int (nI i)), (6, .long (apF (tb a) (tb b) o i)), (0, .ref (ma 0)), (1, .int (nI r)), (2, .int (nI a)), (3, .int (nI b)), (4, .int (nI o))]) hx hb d_MD_apply_135 hl (by decide) rfl (fun ls hl => ?_)
                            refine lv_iload hx hb d_MD_apply_137 (lv_at hl 7 rfl) ?_
                            refine lv_iload hx hb d_MD_apply_139 (lv_at hl 0 rfl) ?_
                            refine lv_ishr hx hb d_MD_apply_141 ?_
                            refine lv_iconst (v := nI 1) hx hb d_MD_apply_142 (by decide) ?_
                            refine lv_iand hx hb d_MD_apply_143 ?_
                            refine lv_iconst (v := nI 1) hx hb d_MD_apply_144 (by decide) ?_
                            refine lv_icmp_ne (tgt := 158) hx hb d_MD_apply_145 (by decide) (fun c145 => ?_) (fun c145 => ?_)
                            · refine lv_lload hx hb d_MD_apply_158 (lv_at hl 2 rfl) ?_
                              refine lv_lstore (lv' := [(6, .long (apF (tb a) (tb b) o i)), (9, .int (nI 2)), (8, .int (nI i)), (0, .ref (ma 0)), (1, .int (nI r)), (2, .int (nI a)), (3, .int (nI b)), (4, .int (nI o))]) hx hb d_MD_apply_160 hl (by decide) rfl (fun ls hl => ?_)
                              refine lv_iinc (lv' := [(8, .int (nI (i + 1))), (6, .long (apF (tb a) (tb b) o i)), (9, .int (nI 2)), (0, .ref (ma 0)), (1, .int (nI r)), (2, .int (nI a)), (3, .int (nI b)), (4, .int (nI o))]) hx hb d_MD_apply_162 hl (k := 2) rfl (nI_1 _) (by decide) rfl (fun ls hl => ?_)
                              refine lv_goto (tgt := 89) hx hb d_MD_apply_165 (by decide) ?_
                              have hl := lv_sub hl [0, 1, 3, 4, 5, 6, 7] rfl
                              have hl : lv_has ls 10 [(8, .int (nI ((i + 1)))), (6, .long (apF (tb a) (tb b) o (i + 1))), (0, .ref (ma 0)), (1, .int (nI r)), (2, .int (nI a)), (3, .int (nI b)), (4, .int (nI o))] := by rw [show apF (tb a) (tb b) o (i + 1) = _ from if_neg (by rw [show apB (tb a) (tb b) i = 2 by unfold apB; rw [if_pos (bI_n0 c107), if_neg (bI_0.mp c126)]]; exact c145)]; exact hl
                              exact ih89 (i + 1) H locs ls (by omega)  hP hD hS hl
                            · refine lv_lload hx hb d_MD_apply_148 (lv_at hl 2 rfl) ?_
                              refine lv_lconst (v := 1) hx hb d_MD_apply_150 (by decide) ?_
                              refine lv_iload hx hb d_MD_apply_151 (lv_at hl 1 rfl) ?_
                              refine lv_lshl hx hb d_MD_apply_153 rfl ?_
                              refine lv_lor hx hb d_MD_apply_154 ?_
                              refine lv_goto (tgt := 160) hx hb d_MD_apply_155 (by decide) ?_
                              refine lv_lstore (lv' := [(6, .long ((apF (tb a) (tb b) o i) ||| (1 <<< ((nI i).toInt64 &&& 63)))), (9, .int (nI 2)), (8, .int (nI i)), (0, .ref (ma 0)), (1, .int (nI r)), (2, .int (nI a)), (3, .int (nI b)), (4, .int (nI o))]) hx hb d_MD_apply_160 hl (by decide) rfl (fun ls hl => ?_)
                              refine lv_iinc (lv' := [(8, .int (nI (i + 1))), (6, .long ((apF (tb a) (tb b) o i) ||| (1 <<< ((nI i).toInt64 &&& 63)))), (9, .int (nI 2)), (0, .ref (ma 0)), (1, .int (nI r)), (2, .int (nI a)), (3, .int (nI b)), (4, .int (nI o))]) hx hb d_MD_apply_162 hl (k := 2) rfl (nI_1 _) (by decide) rfl (fun ls hl => ?_)
                              refine lv_goto (tgt := 89) hx hb d_MD_apply_165 (by decide) ?_
                              have hl := lv_sub hl [0, 1, 3, 4, 5, 6, 7] rfl
                              have hl : lv_has ls 10 [(8, .int (nI ((i + 1)))), (6, .long (apF (tb a) (tb b) o (i + 1))), (0, .ref (ma 0)), (1, .int (nI r)), (2, .int (nI a)), (3, .int (nI b)), (4, .int (nI o))] := by rw [show apF (tb a) (tb b) o (i + 1) = _ from if_pos (by rw [show apB (tb a) (tb b) i = 2 by unfold apB; rw [if_pos (bI_n0 c107), if_neg (bI_0.mp c126)]]; exact c145)]; exact hl
                              exact ih89 (i + 1) H locs ls (by omega)  hP hD hS hl
                          · refine lv_iconst (v := nI 1) hx hb d_MD_apply_129 (by decide) ?_
                            refine lv_goto (tgt := 134) hx hb d_MD_apply_130 (by decide) ?_
                            refine rn_add hx hb d_MD_apply_134 ?_
                            refine lv_istore (lv' := [(9, .int (nI 3)), (8, .int (nI i)), (6, .long (apF (tb a) (tb b) o i)), (0, .ref (ma 0)), (1, .int (nI r)), (2, .int (nI a)), (3, .int (nI b)), (4, .int (nI o))]) hx hb d_MD_apply_135 hl (by decide) rfl (fun ls hl => ?_)
                            refine lv_iload hx hb d_MD_apply_137 (lv_at hl 7 rfl) ?_
                            refine lv_iload hx hb d_MD_apply_139 (lv_at hl 0 rfl) ?_
                            refine lv_ishr hx hb d_MD_apply_141 ?_
                            refine lv_iconst (v := nI 1) hx hb d_MD_apply_142 (by decide) ?_
                            refine lv_iand hx hb d_MD_apply_143 ?_
                            refine lv_iconst (v := nI 1) hx hb d_MD_apply_144 (by decide) ?_
                            refine lv_icmp_ne (tgt := 158) hx hb d_MD_apply_145 (by decide) (fun c145 => ?_) (fun c145 => ?_)
                            · refine lv_lload hx hb d_MD_apply_158 (lv_at hl 2 rfl) ?_
                              refine lv_lstore (lv' := [(6, .long (apF (tb a) (tb b) o i)), (9, .int (nI 3)), (8, .int (nI i)), (0, .ref (ma 0)), (1, .int (nI r)), (2, .int (nI a)), (3, .int (nI b)), (4, .int (nI o))]) hx hb d_MD_apply_160 hl (by decide) rfl (fun ls hl => ?_)
                              refine lv_iinc (lv' := [(8, .int (nI (i + 1))), (6, .long (apF (tb a) (tb b) o i)), (9, .int (nI 3)), (0, .ref (ma 0)), (1, .int (nI r)), (2, .int (nI a)), (3, .int (nI b)), (4, .int (nI o))]) hx hb d_MD_apply_162 hl (k := 2) rfl (nI_1 _) (by decide) rfl (fun ls hl => ?_)
                              refine lv_goto (tgt := 89) hx hb d_MD_apply_165 (by decide) ?_
                              have hl := lv_sub hl [0, 1, 3, 4, 5, 6, 7] rfl
                              have hl : lv_has ls 10 [(8, .int (nI ((i + 1)))), (6, .long (apF (tb a) (tb b) o (i + 1))), (0, .ref (ma 0)), (1, .int (nI r)), (2, .int (nI a)), (3, .int (nI b)), (4, .int (nI o))] := by rw [show apF (tb a) (tb b) o (i + 1) = _ from if_neg (by rw [show apB (tb a) (tb b) i = 3 by unfold apB; rw [if_pos (bI_n0 c107), if_pos (bI_n0 c126)]]; exact c145)]; exact hl
                              exact ih89 (i + 1) H locs ls (by omega)  hP hD hS hl
                            · refine lv_lload hx hb d_MD_apply_148 (lv_at hl 2 rfl) ?_
                              refine lv_lconst (v := 1) hx hb d_MD_apply_150 (by decide) ?_
                              refine lv_iload hx hb d_MD_apply_151 (lv_at hl 1 rfl) ?_
                              refine lv_lshl hx hb d_MD_apply_153 rfl ?_
                              refine lv_lor hx hb d_MD_apply_154 ?_
                              refine lv_goto (tgt := 160) hx hb d_MD_apply_155 (by decide) ?_
                              refine lv_lstore (lv' := [(6, .long ((apF (tb a) (tb b) o i) ||| (1 <<< ((nI i).toInt64 &&& 63)))), (9, .int (nI 3)), (8, .int (nI i)), (0, .ref (ma 0)), (1, .int (nI r)), (2, .int (nI a)), (3, .int (nI b)), (4, .int (nI o))]) hx hb d_MD_apply_160 hl (by decide) rfl (fun ls hl => ?_)
                              refine lv_iinc (lv' := [(8, .int (nI (i + 1))), (6, .long ((apF (tb a) (tb b) o i) ||| (1 <<< ((nI i).toInt64 &&& 63)))), (9, .int (nI 3)), (0, .ref (ma 0)), (1, .int (nI r)), (2, .int (nI a)), (3, .int (nI b)), (4, .int (nI o))]) hx hb d_MD_apply_162 hl (k := 2) rfl (nI_1 _) (by decide) rfl (fun ls hl => ?_)
                              refine lv_goto (tgt := 89) hx hb d_MD_apply_165 (by decide) ?_
                              have hl := lv_sub hl [0, 1, 3, 4, 5, 6, 7] rfl
                              have hl : lv_has ls 10 [(8, .int (nI ((i + 1)))), (6, .long (apF (tb a) (tb b) o (i + 1))), (0, .ref (ma 0)), (1, .int (nI r)), (2, .int (nI a)), (3, .int (nI b)), (4, .int (nI o))] := by rw [show apF (tb a) (tb b) o (i + 1) = _ from if_pos (by rw [show apB (tb a) (tb b) i = 3 by unfold apB; rw [if_pos (bI_n0 c107), if_pos (bI_n0 c126)]]; exact c145)]; exact hl
                              exact ih89 (i + 1) H locs ls (by omega)  hP hD hS hl
                  have hl := lv_sub hl [0, 1, 3, 4, 5, 6, 7] rfl
                  have hl : lv_has ls 10 [(8, .int (nI 0)), (6, .long (apF (tb a) (tb b) o 0)), (0, .ref (ma 0)), (1, .int (nI r)), (2, .int (nI a)), (3, .int (nI b)), (4, .int (nI o))] := hl
                  exact lp89 (64 - 0) 0 _ _ ls (by omega)  hP hD hS hl
                · exact (by omega : False).elim
          · exact (by omega : False).elim
set_option maxRecDepth 100000 in
set_option maxHeartbeats 4000000 in
theorem c1_MD_apply (l : Launch) (g : Gx) (ma : Nat → Nat) (cd : Int32) (tb : Nat → Int64) (hm : Nat → Int32) (oo : Nat → Int32) (kp : Nat → Int32) (td : Int32) (tt : Nat → Int32) (ct : Int32) (fd : Nat → Int64) (os : Int32) (oq : Nat → Int32) (vs : Int32) (sk : Nat → Int64) (X : va_W) (r : Int32) (a : Int32) (b : Int32) (o : Int32) (hbad : ¬ (inR r 8 ∧ inR a 8 ∧ inR b 8 ∧ inR o 16)) : Met l y_MD_apply (w_MD_apply :: TW) rm_MD_apply (va_Pc [.ref (ma 0), .int r, .int a, .int b, .int o] (PR g (MW g ma cd tb hm oo kp td tt ct fd os oq vs sk ++ X))) (va_Qv (fun (u9 : Unit) => True) (fun u9 t9 => PR g (MW g ma (nI 1) tb hm oo kp td tt ct fd os oq vs sk ++ X) t9) (gA g)) 0 0 (gA g) := by
  refine mt_of (by decide) (Nat.le_of_ble_eq_true rfl) ?_
  intro p e s m below meth c ls hx hb hr hml hlk hown ht hnm F hP hD hl
  have hl : lv_has ls 10 [(0, .ref (ma 0)), (1, .int r), (2, .int a), (3, .int b), (4, .int o)] := hl
  have hS : va_S (gA g) s.heap s.heap [] := va_S.rf
  refine lv_iload_n hx hb d_MD_apply_0 rfl (lv_at hl 1 rfl) ?_
  by_cases q1 : inR r 8
  · obtain ⟨k_r, hk_r, rfl⟩ := q1
    refine pc_Si (As := [.int (nI k_r)]) (rest := []) hx hb (hml.trans hl.1.symm) hown ht F hP hD hS (c_MD_isRegister l g (MW g ma cd tb hm oo kp td tt ct fd os oq vs sk ++ X) k_r (by omega)) v_MD_isRegister tw_518 ⟨rfl, rfl⟩ ⟨by decide, by decide⟩ rfl rfl (Nat.le_of_ble_eq_true rfl) ⟨Nat.zero_le _, Nat.zero_le _⟩ d_MD_apply_1 (fun r9 u9 H locs hq hP hD hS => ?_)
    subst hq
    refine rz_eq (tgt := 36) hx hb (by omega) d_MD_apply_4 (by decide) (fun c4 => ?_) (fun c4 => ?_)
    · exact (by omega : False).elim
    · refine lv_iload_n hx hb d_MD_apply_7 rfl (lv_at hl 2 rfl) ?_
      by_cases q8 : inR a 8
      · obtain ⟨k_a, hk_a, rfl⟩ := q8
        refine pc_Si (As := [.int (nI k_a)]) (rest := []) hx hb (hml.trans hl.1.symm) hown ht F hP hD hS (c_MD_isRegister l g (MW g ma cd tb hm oo kp td tt ct fd os oq vs sk ++ X) k_a (by omega)) v_MD_isRegister tw_518 ⟨rfl, rfl⟩ ⟨by decide, by decide⟩ rfl rfl (Nat.le_of_ble_eq_true rfl) ⟨Nat.zero_le _, Nat.zero_le _⟩ d_MD_apply_8 (fun r9 u9 H locs hq hP hD hS => ?_)
        subst hq
        refine rz_eq (tgt := 36) hx hb (by omega) d_MD_apply_11 (by decide) (fun c11 => ?_) (fun c11 => ?_)
        · exact (by omega : False).elim
        · refine lv_iload_n hx hb d_MD_apply_14 rfl (lv_at hl 3 rfl) ?_
          by_cases q15 : inR b 8
          · obtain ⟨k_b, hk_b, rfl⟩ := q15
            refine pc_Si (As := [.int (nI k_b)]) (rest := []) hx hb (hml.trans hl.1.symm) hown ht F hP hD hS (c_MD_isRegister l g (MW g ma cd tb hm oo kp td tt ct fd os oq vs sk ++ X) k_b (by omega)) v_MD_isRegister tw_518 ⟨rfl, rfl⟩ ⟨by decide, by decide⟩ rfl rfl (Nat.le_of_ble_eq_true rfl) ⟨Nat.zero_le _, Nat.zero_le _⟩ d_MD_apply_15 (fun r9 u9 H locs hq hP hD hS => ?_)
            subst hq
            refine rz_eq (tgt := 36) hx hb (by omega) d_MD_apply_18 (by decide) (fun c18 => ?_) (fun c18 => ?_)
            · exact (by omega : False).elim
            · refine lv_iload hx hb d_MD_apply_21 (lv_at hl 4 rfl) ?_
              refine lv_iconst (v := nI 0) hx hb d_MD_apply_23 (by decide) ?_
              refine lv_bipush (v := nI 15) hx hb d_MD_apply_24 (by decide) ?_
              by_cases q26 : inR o 16
              · exact (hbad ⟨inR_nI hk_r, inR_nI hk_a, inR_nI hk_b, q26⟩).elim
              · refine pc_Si (As := [.int o, .int (nI 0), .int (nI 15)]) (rest := []) hx hb (hml.trans hl.1.symm) hown ht F hP hD hS (c_MD_within_0 l g (MW g ma cd tb hm oo kp td tt ct fd os oq vs sk ++ X) o 0 15 (fun h => q26 (inR_le h)) (by decide) (by decide)) v_MD_within tw_521 ⟨rfl, rfl⟩ ⟨by decide, by decide⟩ rfl rfl (Nat.le_of_ble_eq_true rfl) ⟨Nat.zero_le _, Nat.zero_le _⟩ d_MD_apply_26 (fun r9 u9 H locs hq hP hD hS => ?_)
                subst hq
                refine rz_eq (tgt := 36) hx hb (by omega) d_MD_apply_29 (by decide) (fun c29 => ?_) (fun c29 => ?_)
                · refine lv_iconst (v := nI 0) hx hb d_MD_apply_36 (by decide) ?_
                  refine lv_istore (lv' := [(5, .int (nI 0)), (0, .ref (ma 0)), (1, .int (nI k_r)), (2, .int (nI k_a)), (3, .int (nI k_b)), (4, .int o)]) hx hb d_MD_apply_37 hl (by decide) rfl (fun ls hl => ?_)
                  refine lv_aload_n hx hb d_MD_apply_39 rfl (lv_at hl 1 rfl) ?_
                  refine lv_iload hx hb d_MD_apply_40 (lv_at hl 0 rfl) ?_
                  refine rz_ne (tgt := 49) hx hb (by omega) d_MD_apply_42 (by decide) (fun c42 => ?_) (fun c42 => ?_)
                  · exact (by omega : False).elim
                  · refine lv_iconst (v := nI 1) hx hb d_MD_apply_45 (by decide) ?_
                    refine lv_goto (tgt := 72) hx hb d_MD_apply_46 (by decide) ?_
                    refine va_put (ci := 4) (v := .int (nI 1)) (ty := .int) (C := R_MD) (T := T_MD) (N := 13) hx hb ht i_MD t_MD t_MD_ok n_MD hown F.2.1 hP hD hS 0 rfl rfl 0 (by decide) (ht _ tw_470) (fun _ h9 => h9) rfl (by decide +kernel) rfl rfl (Nat.le_of_ble_eq_true rfl) d_MD_apply_72 (fun H locs hP hD hS => ?_)
                    have hP : va_P g.1 cl (MW g ma (nI 1) tb hm oo kp td tt ct fd os oq vs sk ++ X) H := hP
                    have hD : va_D (gA g) (MW g ma (nI 1) tb hm oo kp td tt ct fd os oq vs sk ++ X) := hD
                    refine lv_aload_n hx hb d_MD_apply_75 rfl (lv_at hl 1 rfl) ?_
                    refine va_get (ci := 4) (v := .int (nI 1)) (C := R_MD) (T := T_MD) (N := 13) hx hb ht i_MD hown F.2.1 hP 0 rfl rfl 0 (by decide) (ht _ tw_470) (fun _ h9 => h9) rfl d_MD_apply_76 ?_
                    refine rz_le (tgt := 83) hx hb (by omega) d_MD_apply_79 (by decide) (fun c79 => ?_) (fun c79 => ?_)
                    · exact (by omega : False).elim
                    · exact W.vret hx hb hr (fun t9 e1 hW => ⟨⟨(), rfl, trivial, PR.at F hP hD hS e1 hW.alike⟩, hS.F e1⟩) hS.2.2 d_MD_apply_82
                · exact (by omega : False).elim
          · refine pc_Si (As := [.int b]) (rest := []) hx hb (hml.trans hl.1.symm) hown ht F hP hD hS (c_MD_isRegister_0 l g (MW g ma cd tb hm oo kp td tt ct fd os oq vs sk ++ X) b q15) v_MD_isRegister tw_518 ⟨rfl, rfl⟩ ⟨by decide, by decide⟩ rfl rfl (Nat.le_of_ble_eq_true rfl) ⟨Nat.zero_le _, Nat.zero_le _⟩ d_MD_apply_15 (fun r9 u9 H locs hq hP hD hS => ?_)
            subst hq
            refine rz_eq (tgt := 36) hx hb (by omega) d_MD_apply_18 (by decide) (fun c18 => ?_) (fun c18 => ?_)
            · refine lv_iconst (v := nI 0) hx hb d_MD_apply_36 (by decide) ?_
              refine lv_istore (lv' := [(5, .int (nI 0)), (0, .ref (ma 0)), (1, .int (nI k_r)), (2, .int (nI k_a)), (3, .int b), (4, .int o)]) hx hb d_MD_apply_37 hl (by decide) rfl (fun ls hl => ?_)
              refine lv_aload_n hx hb d_MD_apply_39 rfl (lv_at hl 1 rfl) ?_
              refine lv_iload hx hb d_MD_apply_40 (lv_at hl 0 rfl) ?_
              refine rz_ne (tgt := 49) hx hb (by omega) d_MD_apply_42 (by decide) (fun c42 => ?_) (fun c42 => ?_)
              · exact (by omega : False).elim
              · refine lv_iconst (v := nI 1) hx hb d_MD_apply_45 (by decide) ?_
                refine lv_goto (tgt := 72) hx hb d_MD_apply_46 (by decide) ?_
                refine va_put (ci := 4) (v := .int (nI 1)) (ty := .int) (C := R_MD) (T := T_MD) (N := 13) hx hb ht i_MD t_MD t_MD_ok n_MD hown F.2.1 hP hD hS 0 rfl rfl 0 (by decide) (ht _ tw_470) (fun _ h9 => h9) rfl (by decide +kernel) rfl rfl (Nat.le_of_ble_eq_true rfl) d_MD_apply_72 (fun H locs hP hD hS => ?_)
                have hP : va_P g.1 cl (MW g ma (nI 1) tb hm oo kp td tt ct fd os oq vs sk ++ X) H := hP
                have hD : va_D (gA g) (MW g ma (nI 1) tb hm oo kp td tt ct fd os oq vs sk ++ X) := hD
                refine lv_aload_n hx hb d_MD_apply_75 rfl (lv_at hl 1 rfl) ?_
                refine va_get (ci := 4) (v := .int (nI 1)) (C := R_MD) (T := T_MD) (N := 13) hx hb ht i_MD hown F.2.1 hP 0 rfl rfl 0 (by decide) (ht _ tw_470) (fun _ h9 => h9) rfl d_MD_apply_76 ?_
                refine rz_le (tgt := 83) hx hb (by omega) d_MD_apply_79 (by decide) (fun c79 => ?_) (fun c79 => ?_)
                · exact (by omega : False).elim
                · exact W.vret hx hb hr (fun t9 e1 hW => ⟨⟨(), rfl, trivial, PR.at F hP hD hS e1 hW.alike⟩, hS.F e1⟩) hS.2.2 d_MD_apply_82
            · exact (by omega : False).elim
      · refine pc_Si (As := [.int a]) (rest := []) hx hb (hml.trans hl.1.symm) hown ht F hP hD hS (c_MD_isRegister_0 l g (MW g ma cd tb hm oo kp td tt ct fd os oq vs sk ++ X) a q8) v_MD_isRegister tw_518 ⟨rfl, rfl⟩ ⟨by decide, by decide⟩ rfl rfl (Nat.le_of_ble_eq_true rfl) ⟨Nat.zero_le _, Nat.zero_le _⟩ d_MD_apply_8 (fun r9 u9 H locs hq hP hD hS => ?_)
        subst hq
        refine rz_eq (tgt := 36) hx hb (by omega) d_MD_apply_11 (by decide) (fun c11 => ?_) (fun c11 => ?_)
        · refine lv_iconst (v := nI 0) hx hb d_MD_apply_36 (by decide) ?_
          refine lv_istore (lv' := [(5, .int (nI 0)), (0, .ref (ma 0)), (1, .int (nI k_r)), (2, .int a), (3, .int b), (4, .int o)]) hx hb d_MD_apply_37 hl (by decide) rfl (fun ls hl => ?_)
          refine lv_aload_n hx hb d_MD_apply_39 rfl (lv_at hl 1 rfl) ?_
          refine lv_iload hx hb d_MD_apply_40 (lv_at hl 0 rfl) ?_
          refine rz_ne (tgt := 49) hx hb (by omega) d_MD_apply_42 (by decide) (fun c42 => ?_) (fun c42 => ?_)
          · exact (by omega : False).elim
          · refine lv_iconst (v := nI 1) hx hb d_MD_apply_45 (by decide) ?_
            refine lv_goto (tgt := 72) hx hb d_MD_apply_46 (by decide) ?_
            refine va_put (ci := 4) (v := .int (nI 1)) (ty := .int) (C := R_MD) (T := T_MD) (N := 13) hx hb ht i_MD t_MD t_MD_ok n_MD hown F.2.1 hP hD hS 0 rfl rfl 0 (by decide) (ht _ tw_470) (fun _ h9 => h9) rfl (by decide +kernel) rfl rfl (Nat.le_of_ble_eq_true rfl) d_MD_apply_72 (fun H locs hP hD hS => ?_)
            have hP : va_P g.1 cl (MW g ma (nI 1) tb hm oo kp td tt ct fd os oq vs sk ++ X) H := hP
            have hD : va_D (gA g) (MW g ma (nI 1) tb hm oo kp td tt ct fd os oq vs sk ++ X) := hD
            refine lv_aload_n hx hb d_MD_apply_75 rfl (lv_at hl 1 rfl) ?_
            refine va_get (ci := 4) (v := .int (nI 1)) (C := R_MD) (T := T_MD) (N := 13) hx hb ht i_MD hown F.2.1 hP 0 rfl rfl 0 (by decide) (ht _ tw_470) (fun _ h9 => h9) rfl d_MD_apply_76 ?_
            refine rz_le (tgt := 83) hx hb (by omega) d_MD_apply_79 (by decide) (fun c79 => ?_) (fun c79 => ?_)
            · exact (by omega : False).elim
            · exact W.vret hx hb hr (fun t9 e1 hW => ⟨⟨(), rfl, trivial, PR.at F hP hD hS e1 hW.alike⟩, hS.F e1⟩) hS.2.2 d_MD_apply_82
        · exact (by omega : False).elim
  · refine pc_Si (As := [.int r]) (rest := []) hx hb (hml.trans hl.1.symm) hown ht F hP hD hS (c_MD_isRegister_0 l g (MW g ma cd tb hm oo kp td tt ct fd os oq vs sk ++ X) r q1) v_MD_isRegister tw_518 ⟨rfl, rfl⟩ ⟨by decide, by decide⟩ rfl rfl (Nat.le_of_ble_eq_true rfl) ⟨Nat.zero_le _, Nat.zero_le _⟩ d_MD_apply_1 (fun r9 u9 H locs hq hP hD hS => ?_)
    subst hq
    refine rz_eq (tgt := 36) hx hb (by omega) d_MD_apply_4 (by decide) (fun c4 => ?_) (fun c4 => ?_)
    · refine lv_iconst (v := nI 0) hx hb d_MD_apply_36 (by decide) ?_
      refine lv_istore (lv' := [(5, .int (nI 0)), (0, .ref (ma 0)), (1, .int r), (2, .int a), (3, .int b), (4, .int o)]) hx hb d_MD_apply_37 hl (by decide) rfl (fun ls hl => ?_)
      refine lv_aload_n hx hb d_MD_apply_39 rfl (lv_at hl 1 rfl) ?_
      refine lv_iload hx hb d_MD_apply_40 (lv_at hl 0 rfl) ?_
      refine rz_ne (tgt := 49) hx hb (by omega) d_MD_apply_42 (by decide) (fun c42 => ?_) (fun c42 => ?_)
      · exact (by omega : False).elim
      · refine lv_iconst (v := nI 1) hx hb d_MD_apply_45 (by decide) ?_
        refine lv_goto (tgt := 72) hx hb d_MD_apply_46 (by decide) ?_
        refine va_put (ci := 4) (v := .int (nI 1)) (ty := .int) (C := R_MD) (T := T_MD) (N := 13) hx hb ht i_MD t_MD t_MD_ok n_MD hown F.2.1 hP hD hS 0 rfl rfl 0 (by decide) (ht _ tw_470) (fun _ h9 => h9) rfl (by decide +kernel) rfl rfl (Nat.le_of_ble_eq_true rfl) d_MD_apply_72 (fun H locs hP hD hS => ?_)
        have hP : va_P g.1 cl (MW g ma (nI 1) tb hm oo kp td tt ct fd os oq vs sk ++ X) H := hP
        have hD : va_D (gA g) (MW g ma (nI 1) tb hm oo kp td tt ct fd os oq vs sk ++ X) := hD
        refine lv_aload_n hx hb d_MD_apply_75 rfl (lv_at hl 1 rfl) ?_
        refine va_get (ci := 4) (v := .int (nI 1)) (C := R_MD) (T := T_MD) (N := 13) hx hb ht i_MD hown F.2.1 hP 0 rfl rfl 0 (by decide) (ht _ tw_470) (fun _ h9 => h9) rfl d_MD_apply_76 ?_
        refine rz_le (tgt := 83) hx hb (by omega) d_MD_apply_79 (by decide) (fun c79 => ?_) (fun c79 => ?_)
        · exact (by omega : False).elim
        · exact W.vret hx hb hr (fun t9 e1 hW => ⟨⟨(), rfl, trivial, PR.at F hP hD hS e1 hW.alike⟩, hS.F e1⟩) hS.2.2 d_MD_apply_82
    · exact (by omega : False).elim
set_option maxRecDepth 100000 in
set_option maxHeartbeats 4000000 in
theorem c2_MD_apply (l : Launch) (g : Gx) (ma : Nat → Nat) (cd : Int32) (tb : Nat → Int64) (hm : Nat → Int32) (oo : Nat → Int32) (kp : Nat → Int32) (td : Int32) (tt : Nat → Int32) (ct : Int32) (fd : Nat → Int64) (os : Int32) (oq : Nat → Int32) (vs : Int32) (sk : Nat → Int64) (X : va_W) (r a b o : Nat) (g_r : r < 8) (g_a : a < 8) (g_b : b < 8) (g_o : o < 16) (h9 : ∀ i, i < 8 → hm i = 0 ∨ hm i = 1) (hbad : ¬ (hm a = 1 ∧ hm b = 1)) : Met l y_MD_apply (w_MD_apply :: TW) rm_MD_apply (va_Pc [.ref (ma 0), .int (nI r), .int (nI a), .int (nI b), .int (nI o)] (PR g (MW g ma cd tb hm oo kp td tt ct fd os oq vs sk ++ X))) (va_Qv (fun (u9 : Unit) => True) (fun u9 t9 => PR g (MW g ma (nI 2) tb hm oo kp td tt ct fd os oq vs sk ++ X) t9) (gA g)) 0 0 (gA g) := by
  refine mt_of (by decide) (Nat.le_of_ble_eq_true rfl) ?_
  intro p e s m below meth c ls hx hb hr hml hlk hown ht hnm F hP hD hl
  have hl : lv_has ls 10 [(0, .ref (ma 0)), (1, .int (nI r)), (2, .int (nI a)), (3, .int (nI b)), (4, .int (nI o))] := hl
  have hS : va_S (gA g) s.heap s.heap [] := va_S.rf
  refine lv_iload_n hx hb d_MD_apply_0 rfl (lv_at hl 1 rfl) ?_
  refine pc_Si (As := [.int (nI r)]) (rest := []) hx hb (hml.trans hl.1.symm) hown ht F hP hD hS (c_MD_isRegister l g (MW g ma cd tb hm oo kp td tt ct fd os oq vs sk ++ X) r (by omega)) v_MD_isRegister tw_518 ⟨rfl, rfl⟩ ⟨by decide, by decide⟩ rfl rfl (Nat.le_of_ble_eq_true rfl) ⟨Nat.zero_le _, Nat.zero_le _⟩ d_MD_apply_1 (fun r9 u9 H locs hq hP hD hS => ?_)
  subst hq
  refine rz_eq (tgt := 36) hx hb (by omega) d_MD_apply_4 (by decide) (fun c4 => ?_) (fun c4 => ?_)
  · exact (by omega : False).elim
  · refine lv_iload_n hx hb d_MD_apply_7 rfl (lv_at hl 2 rfl) ?_
    refine pc_Si (As := [.int (nI a)]) (rest := []) hx hb (hml.trans hl.1.symm) hown ht F hP hD hS (c_MD_isRegister l g (MW g ma cd tb hm oo kp td tt ct fd os oq vs sk ++ X) a (by omega)) v_MD_isRegister tw_518 ⟨rfl, rfl⟩ ⟨by decide, by decide⟩ rfl rfl (Nat.le_of_ble_eq_true rfl) ⟨Nat.zero_le _, Nat.zero_le _⟩ d_MD_apply_8 (fun r9 u9 H locs hq hP hD hS => ?_)
    subst hq
    refine rz_eq (tgt := 36) hx hb (by omega) d_MD_apply_11 (by decide) (fun c11 => ?_) (fun c11 => ?_)
    · exact (by omega : False).elim
    · refine lv_iload_n hx hb d_MD_apply_14 rfl (lv_at hl 3 rfl) ?_
      refine pc_Si (As := [.int (nI b)]) (rest := []) hx hb (hml.trans hl.1.symm) hown ht F hP hD hS (c_MD_isRegister l g (MW g ma cd tb hm oo kp td tt ct fd os oq vs sk ++ X) b (by omega)) v_MD_isRegister tw_518 ⟨rfl, rfl⟩ ⟨by decide, by decide⟩ rfl rfl (Nat.le_of_ble_eq_true rfl) ⟨Nat.zero_le _, Nat.zero_le _⟩ d_MD_apply_15 (fun r9 u9 H locs hq hP hD hS => ?_)
      subst hq
      refine rz_eq (tgt := 36) hx hb (by omega) d_MD_apply_18 (by decide) (fun c18 => ?_) (fun c18 => ?_)
      · exact (by omega : False).elim
      · refine lv_iload hx hb d_MD_apply_21 (lv_at hl 4 rfl) ?_
        refine lv_iconst (v := nI 0) hx hb d_MD_apply_23 (by decide) ?_
        refine lv_bipush (v := nI 15) hx hb d_MD_apply_24 (by decide) ?_
        refine pc_Si (As := [.int (nI o), .int (nI 0), .int (nI 15)]) (rest := []) hx hb (hml.trans hl.1.symm) hown ht F hP hD hS (c_MD_within l g (MW g ma cd tb hm oo kp td tt ct fd os oq vs sk ++ X) o 0 15 (by omega) (by omega) (by omega)) v_MD_within tw_521 ⟨rfl, rfl⟩ ⟨by decide, by decide⟩ rfl rfl (Nat.le_of_ble_eq_true rfl) ⟨Nat.zero_le _, Nat.zero_le _⟩ d_MD_apply_26 (fun r9 u9 H locs hq hP hD hS => ?_)
        subst hq
        refine rz_eq (tgt := 36) hx hb (by omega) d_MD_apply_29 (by decide) (fun c29 => ?_) (fun c29 => ?_)
        · exact (by omega : False).elim
        · refine lv_iconst (v := nI 1) hx hb d_MD_apply_32 (by decide) ?_
          refine lv_goto (tgt := 37) hx hb d_MD_apply_33 (by decide) ?_
          refine lv_istore (lv' := [(5, .int (nI 1)), (0, .ref (ma 0)), (1, .int (nI r)), (2, .int (nI a)), (3, .int (nI b)), (4, .int (nI o))]) hx hb d_MD_apply_37 hl (by decide) rfl (fun ls hl => ?_)
          refine lv_aload_n hx hb d_MD_apply_39 rfl (lv_at hl 1 rfl) ?_
          refine lv_iload hx hb d_MD_apply_40 (lv_at hl 0 rfl) ?_
          refine rz_ne (tgt := 49) hx hb (by omega) d_MD_apply_42 (by decide) (fun c42 => ?_) (fun c42 => ?_)
          · refine lv_aload_n hx hb d_MD_apply_49 rfl (lv_at hl 1 rfl) ?_
            refine va_get (ci := 4) (v := .ref (ma 2)) (C := R_MD) (T := T_MD) (N := 13) hx hb ht i_MD hown F.2.1 hP 0 rfl rfl 2 (by decide) (ht _ tw_472) (fun _ h9 => h9) rfl d_MD_apply_50 ?_
            refine lv_iload_n hx hb d_MD_apply_53 rfl (lv_at hl 3 rfl) ?_
            refine ra_Z hx hb F hP 2 rfl (by omega) (by decide) d_MD_apply_54 ?_
            refine lv_if_eq (tgt := 71) hx hb d_MD_apply_55 (by decide) (fun c55 => ?_) (fun c55 => ?_)
            · refine lv_iconst (v := nI 2) hx hb d_MD_apply_71 (by decide) ?_
              refine va_put (ci := 4) (v := .int (nI 2)) (ty := .int) (C := R_MD) (T := T_MD) (N := 13) hx hb ht i_MD t_MD t_MD_ok n_MD hown F.2.1 hP hD hS 0 rfl rfl 0 (by decide) (ht _ tw_470) (fun _ h9 => h9) rfl (by decide +kernel) rfl rfl (Nat.le_of_ble_eq_true rfl) d_MD_apply_72 (fun H locs hP hD hS => ?_)
              have hP : va_P g.1 cl (MW g ma (nI 2) tb hm oo kp td tt ct fd os oq vs sk ++ X) H := hP
              have hD : va_D (gA g) (MW g ma (nI 2) tb hm oo kp td tt ct fd os oq vs sk ++ X) := hD
              refine lv_aload_n hx hb d_MD_apply_75 rfl (lv_at hl 1 rfl) ?_
              refine va_get (ci := 4) (v := .int (nI 2)) (C := R_MD) (T := T_MD) (N := 13) hx hb ht i_MD hown F.2.1 hP 0 rfl rfl 0 (by decide) (ht _ tw_470) (fun _ h9 => h9) rfl d_MD_apply_76 ?_
              refine rz_le (tgt := 83) hx hb (by omega) d_MD_apply_79 (by decide) (fun c79 => ?_) (fun c79 => ?_)
              · exact (by omega : False).elim
              · exact W.vret hx hb hr (fun t9 e1 hW => ⟨⟨(), rfl, trivial, PR.at F hP hD hS e1 hW.alike⟩, hS.F e1⟩) hS.2.2 d_MD_apply_82
            · refine lv_aload_n hx hb d_MD_apply_58 rfl (lv_at hl 1 rfl) ?_
              refine va_get (ci := 4) (v := .ref (ma 2)) (C := R_MD) (T := T_MD) (N := 13) hx hb ht i_MD hown F.2.1 hP 0 rfl rfl 2 (by decide) (ht _ tw_472) (fun _ h9 => h9) rfl d_MD_apply_59 ?_
              refine lv_iload_n hx hb d_MD_apply_62 rfl (lv_at hl 4 rfl) ?_
              refine ra_Z hx hb F hP 2 rfl (by omega) (by decide) d_MD_apply_63 ?_
              refine lv_if_eq (tgt := 71) hx hb d_MD_apply_64 (by decide) (fun c64 => ?_) (fun c64 => ?_)
              · refine lv_iconst (v := nI 2) hx hb d_MD_apply_71 (by decide) ?_
                refine va_put (ci := 4) (v := .int (nI 2)) (ty := .int) (C := R_MD) (T := T_MD) (N := 13) hx hb ht i_MD t_MD t_MD_ok n_MD hown F.2.1 hP hD hS 0 rfl rfl 0 (by decide) (ht _ tw_470) (fun _ h9 => h9) rfl (by decide +kernel) rfl rfl (Nat.le_of_ble_eq_true rfl) d_MD_apply_72 (fun H locs hP hD hS => ?_)
                have hP : va_P g.1 cl (MW g ma (nI 2) tb hm oo kp td tt ct fd os oq vs sk ++ X) H := hP
                have hD : va_D (gA g) (MW g ma (nI 2) tb hm oo kp td tt ct fd os oq vs sk ++ X) := hD
                refine lv_aload_n hx hb d_MD_apply_75 rfl (lv_at hl 1 rfl) ?_
                refine va_get (ci := 4) (v := .int (nI 2)) (C := R_MD) (T := T_MD) (N := 13) hx hb ht i_MD hown F.2.1 hP 0 rfl rfl 0 (by decide) (ht _ tw_470) (fun _ h9 => h9) rfl d_MD_apply_76 ?_
                refine rz_le (tgt := 83) hx hb (by omega) d_MD_apply_79 (by decide) (fun c79 => ?_) (fun c79 => ?_)
                · exact (by omega : False).elim
                · exact W.vret hx hb hr (fun t9 e1 hW => ⟨⟨(), rfl, trivial, PR.at F hP hD hS e1 hW.alike⟩, hS.F e1⟩) hS.2.2 d_MD_apply_82
              · exact (hbad ⟨((h9 a (by omega)).resolve_left c55), ((h9 b (by omega)).resolve_left c64)⟩).elim
          · exact (by omega : False).elim
set_option maxRecDepth 100000 in
set_option maxHeartbeats 4000000 in
theorem c_MD_choose (l : Launch) (g : Gx) (ma : Nat → Nat) (cd : Int32) (tb : Nat → Int64) (hm : Nat → Int32) (oo : Nat → Int32) (kp : Nat → Int32) (td : Int32) (tt : Nat → Int32) (ct : Int32) (fd : Nat → Int64) (os : Int32) (oq : Nat → Int32) (vs : Int32) (sk : Nat → Int64) (X : va_W) (r a b d : Nat) (g_r : r < 8) (g_a : a < 8) (g_b : b < 8) (g_d : d < 8) (e_a : hm a = 1) (e_b : hm b = 1) (e_d : hm d = 1) : Met l y_MD_choose (w_MD_choose :: TW) rm_MD_choose (va_Pc [.ref (ma 0), .int (nI r), .int (nI a), .int (nI b), .int (nI d)] (PR g (MW g ma cd tb hm oo kp td tt ct fd os oq vs sk ++ X))) (va_Qv (fun (u9 : Unit) => True) (fun u9 t9 => PR g (MW g ma (nI 0) (vp_updL tb r (CH (tb a) (tb b) (tb d))) (upd hm r (nI 1)) oo kp td tt ct fd os oq vs sk ++ X) t9) (gA g)) 0 0 (gA g) := by
  refine mt_of (by decide) (Nat.le_of_ble_eq_true rfl) ?_
  intro p e s m below meth c ls hx hb hr hml hlk hown ht hnm F hP hD hl
  have hl : lv_has ls 6 [(0, .ref (ma 0)), (1, .int (nI r)), (2, .int (nI a)), (3, .int (nI b)), (4, .int (nI d))] := hl
  have hS : va_S (gA g) s.heap s.heap [] := va_S.rf
  refine lv_iload_n hx hb d_MD_choose_0 rfl (lv_at hl 1 rfl) ?_
  refine pc_Si (As := [.int (nI r)]) (rest := []) hx hb (hml.trans hl.1.symm) hown ht F hP hD hS (c_MD_isRegister l g (MW g ma cd tb hm oo kp td tt ct fd os oq vs sk ++ X) r (by omega)) v_MD_isRegister tw_518 ⟨rfl, rfl⟩ ⟨by decide, by decide⟩ rfl rfl (Nat.le_of_ble_eq_true rfl) ⟨Nat.zero_le _, Nat.zero_le _⟩ d_MD_choose_1 (fun r9 u9 H locs hq hP hD hS => ?_)
  subst hq
  refine rz_eq (tgt := 33) hx hb (by omega) d_MD_choose_4 (by decide) (fun c4 => ?_) (fun c4 => ?_)
  · exact (by omega : False).elim
  · refine lv_iload_n hx hb d_MD_choose_7 rfl (lv_at hl 2 rfl) ?_
    refine pc_Si (As := [.int (nI a)]) (rest := []) hx hb (hml.trans hl.1.symm) hown ht F hP hD hS (c_MD_isRegister l g (MW g ma cd tb hm oo kp td tt ct fd os oq vs sk ++ X) a (by omega)) v_MD_isRegister tw_518 ⟨rfl, rfl⟩ ⟨by decide, by decide⟩ rfl rfl (Nat.le_of_ble_eq_true rfl) ⟨Nat.zero_le _, Nat.zero_le _⟩ d_MD_choose_8 (fun r9 u9 H locs hq hP hD hS => ?_)
    subst hq
    refine rz_eq (tgt := 33) hx hb (by omega) d_MD_choose_11 (by decide) (fun c11 => ?_) (fun c11 => ?_)
    · exact (by omega : False).elim
    · refine lv_iload_n hx hb d_MD_choose_14 rfl (lv_at hl 3 rfl) ?_
      refine pc_Si (As := [.int (nI b)]) (rest := []) hx hb (hml.trans hl.1.symm) hown ht F hP hD hS (c_MD_isRegister l g (MW g ma cd tb hm oo kp td tt ct fd os oq vs sk ++ X) b (by omega)) v_MD_isRegister tw_518 ⟨rfl, rfl⟩ ⟨by decide, by decide⟩ rfl rfl (Nat.le_of_ble_eq_true rfl) ⟨Nat.zero_le _, Nat.zero_le _⟩ d_MD_choose_15 (fun r9 u9 H locs hq hP hD hS => ?_)
      subst hq
      refine rz_eq (tgt := 33) hx hb (by omega) d_MD_choose_18 (by decide) (fun c18 => ?_) (fun c18 => ?_)
      · exact (by omega : False).elim
      · refine lv_iload hx hb d_MD_choose_21 (lv_at hl 4 rfl) ?_
        refine pc_Si (As := [.int (nI d)]) (rest := []) hx hb (hml.trans hl.1.symm) hown ht F hP hD hS (c_MD_isRegister l g (MW g ma cd tb hm oo kp td tt ct fd os oq vs sk ++ X) d (by omega)) v_MD_isRegister tw_518 ⟨rfl, rfl⟩ ⟨by decide, by decide⟩ rfl rfl (Nat.le_of_ble_eq_true rfl) ⟨Nat.zero_le _, Nat.zero_le _⟩ d_MD_choose_23 (fun r9 u9 H locs hq hP hD hS => ?_)
        subst hq
        refine rz_eq (tgt := 33) hx hb (by omega) d_MD_choose_26 (by decide) (fun c26 => ?_) (fun c26 => ?_)
        · exact (by omega : False).elim
        · refine lv_iconst (v := nI 1) hx hb d_MD_choose_29 (by decide) ?_
          refine lv_goto (tgt := 34) hx hb d_MD_choose_30 (by decide) ?_
          refine lv_istore (lv' := [(5, .int (nI 1)), (0, .ref (ma 0)), (1, .int (nI r)), (2, .int (nI a)), (3, .int (nI b)), (4, .int (nI d))]) hx hb d_MD_choose_34 hl (by decide) rfl (fun ls hl => ?_)
          refine lv_aload_n hx hb d_MD_choose_36 rfl (lv_at hl 1 rfl) ?_
          refine lv_iload hx hb d_MD_choose_37 (lv_at hl 0 rfl) ?_
          refine rz_ne (tgt := 46) hx hb (by omega) d_MD_choose_39 (by decide) (fun c39 => ?_) (fun c39 => ?_)
          · refine lv_aload_n hx hb d_MD_choose_46 rfl (lv_at hl 1 rfl) ?_
            refine va_get (ci := 4) (v := .ref (ma 2)) (C := R_MD) (T := T_MD) (N := 13) hx hb ht i_MD hown F.2.1 hP 0 rfl rfl 2 (by decide) (ht _ tw_472) (fun _ h9 => h9) rfl d_MD_choose_47 ?_
            refine lv_iload_n hx hb d_MD_choose_50 rfl (lv_at hl 3 rfl) ?_
            refine ra_Z hx hb F hP 2 rfl (by omega) (by decide) d_MD_choose_51 ?_
            refine lv_if_eq (tgt := 78) hx hb d_MD_choose_52 (by decide) (fun c52 => ?_) (fun c52 => ?_)
            · exact absurd (e_a.symm.trans c52) (by decide)
            · refine lv_aload_n hx hb d_MD_choose_55 rfl (lv_at hl 1 rfl) ?_
              refine va_get (ci := 4) (v := .ref (ma 2)) (C := R_MD) (T := T_MD) (N := 13) hx hb ht i_MD hown F.2.1 hP 0 rfl rfl 2 (by decide) (ht _ tw_472) (fun _ h9 => h9) rfl d_MD_choose_56 ?_
              refine lv_iload_n hx hb d_MD_choose_59 rfl (lv_at hl 4 rfl) ?_
              refine ra_Z hx hb F hP 2 rfl (by omega) (by decide) d_MD_choose_60 ?_
              refine lv_if_eq (tgt := 78) hx hb d_MD_choose_61 (by decide) (fun c61 => ?_) (fun c61 => ?_)
              · exact absurd (e_b.symm.trans c61) (by decide)
              · refine lv_aload_n hx hb d_MD_choose_64 rfl (lv_at hl 1 rfl) ?_
                refine va_get (ci := 4) (v := .ref (ma 2)) (C := R_MD) (T := T_MD) (N := 13) hx hb ht i_MD hown F.2.1 hP 0 rfl rfl 2 (by decide) (ht _ tw_472) (fun _ h9 => h9) rfl d_MD_choose_65 ?_
                refine lv_iload hx hb d_MD_choose_68 (lv_at hl 5 rfl) ?_
                refine ra_Z hx hb F hP 2 rfl (by omega) (by decide) d_MD_choose_70 ?_
                refine lv_if_eq (tgt := 78) hx hb d_MD_choose_71 (by decide) (fun c71 => ?_) (fun c71 => ?_)
                · exact absurd (e_d.symm.trans c71) (by decide)
                · refine lv_iconst (v := nI 0) hx hb d_MD_choose_74 (by decide) ?_
                  refine lv_goto (tgt := 79) hx hb d_MD_choose_75 (by decide) ?_
                  refine va_put (ci := 4) (v := .int (nI 0)) (ty := .int) (C := R_MD) (T := T_MD) (N := 13) hx hb ht i_MD t_MD t_MD_ok n_MD hown F.2.1 hP hD hS 0 rfl rfl 0 (by decide) (ht _ tw_470) (fun _ h9 => h9) rfl (by decide +kernel) rfl rfl (Nat.le_of_ble_eq_true rfl) d_MD_choose_79 (fun H locs hP hD hS => ?_)
                  have hP : va_P g.1 cl (MW g ma (nI 0) tb hm oo kp td tt ct fd os oq vs sk ++ X) H := hP
                  have hD : va_D (gA g) (MW g ma (nI 0) tb hm oo kp td tt ct fd os oq vs sk ++ X) := hD
                  refine lv_aload_n hx hb d_MD_choose_82 rfl (lv_at hl 1 rfl) ?_
                  refine va_get (ci := 4) (v := .int (nI 0)) (C := R_MD) (T := T_MD) (N := 13) hx hb ht i_MD hown F.2.1 hP 0 rfl rfl 0 (by decide) (ht _ tw_470) (fun _ h9 => h9) rfl d_MD_choose_83 ?_
                  refine rz_ne (tgt := 126) hx hb (by omega) d_MD_choose_86 (by decide) (fun c86 => ?_) (fun c86 => ?_)
                  · exact (by omega : False).elim
                  · refine lv_aload_n hx hb d_MD_choose_89 rfl (lv_at hl 1 rfl) ?_
                    refine lv_iload_n hx hb d_MD_choose_90 rfl (lv_at hl 2 rfl) ?_
                    refine lv_aload_n hx hb d_MD_choose_91 rfl (lv_at hl 1 rfl) ?_
                    refine va_get (ci := 4) (v := .ref (ma 1)) (C := R_MD) (T := T_MD) (N := 13) hx hb ht i_MD hown F.2.1 hP 0 rfl rfl 1 (by decide) (ht _ tw_471) (fun _ h9 => h9) rfl d_MD_choose_92 ?_
                    refine lv_iload_n hx hb d_MD_choose_95 rfl (lv_at hl 3 rfl) ?_
                    refine ra_J hx hb F hP 1 rfl (by omega) (by decide) d_MD_choose_96 ?_
                    refine lv_aload_n hx hb d_MD_choose_97 rfl (lv_at hl 1 rfl) ?_
                    refine va_get (ci := 4) (v := .ref (ma 1)) (C := R_MD) (T := T_MD) (N := 13) hx hb ht i_MD hown F.2.1 hP 0 rfl rfl 1 (by decide) (ht _ tw_471) (fun _ h9 => h9) rfl d_MD_choose_98 ?_
                    refine lv_iload_n hx hb d_MD_choose_101 rfl (lv_at hl 4 rfl) ?_
                    refine ra_J hx hb F hP 1 rfl (by omega) (by decide) d_MD_choose_102 ?_
                    refine lv_land hx hb d_MD_choose_103 ?_
                    refine lv_aload_n hx hb d_MD_choose_104 rfl (lv_at hl 1 rfl) ?_
                    refine va_get (ci := 4) (v := .ref (ma 1)) (C := R_MD) (T := T_MD) (N := 13) hx hb ht i_MD hown F.2.1 hP 0 rfl rfl 1 (by decide) (ht _ tw_471) (fun _ h9 => h9) rfl d_MD_choose_105 ?_
                    refine lv_iload_n hx hb d_MD_choose_108 rfl (lv_at hl 3 rfl) ?_
                    refine ra_J hx hb F hP 1 rfl (by omega) (by decide) d_MD_choose_109 ?_
                    refine lv_ldc2 (v := (-1)) hx hb hown (ht _ tw_527) d_MD_choose_110 ?_
                    refine lv_lxor hx hb d_MD_choose_113 ?_
                    refine lv_aload_n hx hb d_MD_choose_114 rfl (lv_at hl 1 rfl) ?_
                    refine va_get (ci := 4) (v := .ref (ma 1)) (C := R_MD) (T := T_MD) (N := 13) hx hb ht i_MD hown F.2.1 hP 0 rfl rfl 1 (by decide) (ht _ tw_471) (fun _ h9 => h9) rfl d_MD_choose_115 ?_
                    refine lv_iload hx hb d_MD_choose_118 (lv_at hl 5 rfl) ?_
                    refine ra_J hx hb F hP 1 rfl (by omega) (by decide) d_MD_choose_120 ?_
                    refine lv_land hx hb d_MD_choose_121 ?_
                    refine lv_lor hx hb d_MD_choose_122 ?_
                    refine pc_Vv (q0 := 0) (As := [.int (nI r), .long (((tb a) &&& (tb b)) ||| (((tb a) ^^^ (-1)) &&& (tb d)))]) (rest := []) hx hb (hml.trans hl.1.symm) hown ht F hP hD hS (c_MD_put l g ma (nI 0) tb hm oo kp td tt ct fd os oq vs sk X r (((tb a) &&& (tb b)) ||| (((tb a) ^^^ (-1)) &&& (tb d))) (by omega)) v_MD_put tw_528 ⟨rfl, rfl⟩ ⟨by decide, by decide⟩ rfl rfl rfl rfl (Nat.le_of_ble_eq_true rfl) ⟨Nat.zero_le _, Nat.zero_le _⟩ d_MD_choose_123 (fun u9 H locs hq hP hD hS => ?_)
                    have hP : va_P g.1 cl (MW g ma (nI 0) (vp_updL tb r (((tb a) &&& (tb b)) ||| (((tb a) ^^^ (-1)) &&& (tb d)))) (upd hm r (nI 1)) oo kp td tt ct fd os oq vs sk ++ X) H := hP
                    have hD : va_D (gA g) (MW g ma (nI 0) (vp_updL tb r (((tb a) &&& (tb b)) ||| (((tb a) ^^^ (-1)) &&& (tb d)))) (upd hm r (nI 1)) oo kp td tt ct fd os oq vs sk ++ X) := hD
                    exact W.vret hx hb hr (fun t9 e1 hW => ⟨⟨(), rfl, trivial, PR.at F hP hD hS e1 hW.alike⟩, hS.F e1⟩) hS.2.2 d_MD_choose_126
          · exact (by omega : False).elim
set_option maxRecDepth 100000 in
set_option maxHeartbeats 4000000 in
theorem c1_MD_choose (l : Launch) (g : Gx) (ma : Nat → Nat) (cd : Int32) (tb : Nat → Int64) (hm : Nat → Int32) (oo : Nat → Int32) (kp : Nat → Int32) (td : Int32) (tt : Nat → Int32) (ct : Int32) (fd : Nat → Int64) (os : Int32) (oq : Nat → Int32) (vs : Int32) (sk : Nat → Int64) (X : va_W) (r : Int32) (a : Int32) (b : Int32) (d : Int32) (hbad : ¬ (inR r 8 ∧ inR a 8 ∧ inR b 8 ∧ inR d 8)) : Met l y_MD_choose (w_MD_choose :: TW) rm_MD_choose (va_Pc [.ref (ma 0), .int r, .int a, .int b, .int d] (PR g (MW g ma cd tb hm oo kp td tt ct fd os oq vs sk ++ X))) (va_Qv (fun (u9 : Unit) => True) (fun u9 t9 => PR g (MW g ma (nI 1) tb hm oo kp td tt ct fd os oq vs sk ++ X) t9) (gA g)) 0 0 (gA g) := by
  refine mt_of (by decide) (Nat.le_of_ble_eq_true rfl) ?_
  intro p e s m below meth c ls hx hb hr hml hlk hown ht hnm F hP hD hl
  have hl : lv_has ls 6 [(0, .ref (ma 0)), (1, .int r), (2, .int a), (3, .int b), (4, .int d)] := hl
  have hS : va_S (gA g) s.heap s.heap [] := va_S.rf
  refine lv_iload_n hx hb d_MD_choose_0 rfl (lv_at hl 1 rfl) ?_
  by_cases q1 : inR r 8
  · obtain ⟨k_r, hk_r, rfl⟩ := q1
    refine pc_Si (As := [.int (nI k_r)]) (rest := []) hx hb (hml.trans hl.1.symm) hown ht F hP hD hS (c_MD_isRegister l g (MW g ma cd tb hm oo kp td tt ct fd os oq vs sk ++ X) k_r (by omega)) v_MD_isRegister tw_518 ⟨rfl, rfl⟩ ⟨by decide, by decide⟩ rfl rfl (Nat.le_of_ble_eq_true rfl) ⟨Nat.zero_le _, Nat.zero_le _⟩ d_MD_choose_1 (fun r9 u9 H locs hq hP hD hS => ?_)
    subst hq
    refine rz_eq (tgt := 33) hx hb (by omega) d_MD_choose_4 (by decide) (fun c4 => ?_) (fun c4 => ?_)
    · exact (by omega : False).elim
    · refine lv_iload_n hx hb d_MD_choose_7 rfl (lv_at hl 2 rfl) ?_
      by_cases q8 : inR a 8
      · obtain ⟨k_a, hk_a, rfl⟩ := q8
        refine pc_Si (As := [.int (nI k_a)]) (rest := []) hx hb (hml.trans hl.1.symm) hown ht F hP hD hS (c_MD_isRegister l g (MW g ma cd tb hm oo kp td tt ct fd os oq vs sk ++ X) k_a (by omega)) v_MD_isRegister tw_518 ⟨rfl, rfl⟩ ⟨by decide, by decide⟩ rfl rfl (Nat.le_of_ble_eq_true rfl) ⟨Nat.zero_le _, Nat.zero_le _⟩ d_MD_choose_8 (fun r9 u9 H locs hq hP hD hS => ?_)
        subst hq
        refine rz_eq (tgt := 33) hx hb (by omega) d_MD_choose_11 (by decide) (fun c11 => ?_) (fun c11 => ?_)
        · exact (by omega : False).elim
        · refine lv_iload_n hx hb d_MD_choose_14 rfl (lv_at hl 3 rfl) ?_
          by_cases q15 : inR b 8
          · obtain ⟨k_b, hk_b, rfl⟩ := q15
            refine pc_Si (As := [.int (nI k_b)]) (rest := []) hx hb (hml.trans hl.1.symm) hown ht F hP hD hS (c_MD_isRegister l g (MW g ma cd tb hm oo kp td tt ct fd os oq vs sk ++ X) k_b (by omega)) v_MD_isRegister tw_518 ⟨rfl, rfl⟩ ⟨by decide, by decide⟩ rfl rfl (Nat.le_of_ble_eq_true rfl) ⟨Nat.zero_le _, Nat.zero_le _⟩ d_MD_choose_15 (fun r9 u9 H locs hq hP hD hS => ?_)
            subst hq
            refine rz_eq (tgt := 33) hx hb (by omega) d_MD_choose_18 (by decide) (fun c18 => ?_) (fun c18 => ?_)
            · exact (by omega : False).elim
            · refine lv_iload hx hb d_MD_choose_21 (lv_at hl 4 rfl) ?_
              by_cases q23 : inR d 8
              · exact (hbad ⟨inR_nI hk_r, inR_nI hk_a, inR_nI hk_b, q23⟩).elim
              · refine pc_Si (As := [.int d]) (rest := []) hx hb (hml.trans hl.1.symm) hown ht F hP hD hS (c_MD_isRegister_0 l g (MW g ma cd tb hm oo kp td tt ct fd os oq vs sk ++ X) d q23) v_MD_isRegister tw_518 ⟨rfl, rfl⟩ ⟨by decide, by decide⟩ rfl rfl (Nat.le_of_ble_eq_true rfl) ⟨Nat.zero_le _, Nat.zero_le _⟩ d_MD_choose_23 (fun r9 u9 H locs hq hP hD hS => ?_)
                subst hq
                refine rz_eq (tgt := 33) hx hb (by omega) d_MD_choose_26 (by decide) (fun c26 => ?_) (fun c26 => ?_)
                · refine lv_iconst (v := nI 0) hx hb d_MD_choose_33 (by decide) ?_
                  refine lv_istore (lv' := [(5, .int (nI 0)), (0, .ref (ma 0)), (1, .int (nI k_r)), (2, .int (nI k_a)), (3, .int (nI k_b)), (4, .int d)]) hx hb d_MD_choose_34 hl (by decide) rfl (fun ls hl => ?_)
                  refine lv_aload_n hx hb d_MD_choose_36 rfl (lv_at hl 1 rfl) ?_
                  refine lv_iload hx hb d_MD_choose_37 (lv_at hl 0 rfl) ?_
                  refine rz_ne (tgt := 46) hx hb (by omega) d_MD_choose_39 (by decide) (fun c39 => ?_) (fun c39 => ?_)
                  · exact (by omega : False).elim
                  · refine lv_iconst (v := nI 1) hx hb d_MD_choose_42 (by decide) ?_
                    refine lv_goto (tgt := 79) hx hb d_MD_choose_43 (by decide) ?_
                    refine va_put (ci := 4) (v := .int (nI 1)) (ty := .int) (C := R_MD) (T := T_MD) (N := 13) hx hb ht i_MD t_MD t_MD_ok n_MD hown F.2.1 hP hD hS 0 rfl rfl 0 (by decide) (ht _ tw_470) (fun _ h9 => h9) rfl (by decide +kernel) rfl rfl (Nat.le_of_ble_eq_true rfl) d_MD_choose_79 (fun H locs hP hD hS => ?_)
                    have hP : va_P g.1 cl (MW g ma (nI 1) tb hm oo kp td tt ct fd os oq vs sk ++ X) H := hP
                    have hD : va_D (gA g) (MW g ma (nI 1) tb hm oo kp td tt ct fd os oq vs sk ++ X) := hD
                    refine lv_aload_n hx hb d_MD_choose_82 rfl (lv_at hl 1 rfl) ?_
                    refine va_get (ci := 4) (v := .int (nI 1)) (C := R_MD) (T := T_MD) (N := 13) hx hb ht i_MD hown F.2.1 hP 0 rfl rfl 0 (by decide) (ht _ tw_470) (fun _ h9 => h9) rfl d_MD_choose_83 ?_
                    refine rz_ne (tgt := 126) hx hb (by omega) d_MD_choose_86 (by decide) (fun c86 => ?_) (fun c86 => ?_)
                    · exact W.vret hx hb hr (fun t9 e1 hW => ⟨⟨(), rfl, trivial, PR.at F hP hD hS e1 hW.alike⟩, hS.F e1⟩) hS.2.2 d_MD_choose_126
                    · exact (by omega : False).elim
                · exact (by omega : False).elim
          · refine pc_Si (As := [.int b]) (rest := []) hx hb (hml.trans hl.1.symm) hown ht F hP hD hS (c_MD_isRegister_0 l g (MW g ma cd tb hm oo kp td tt ct fd os oq vs sk ++ X) b q15) v_MD_isRegister tw_518 ⟨rfl, rfl⟩ ⟨by decide, by decide⟩ rfl rfl (Nat.le_of_ble_eq_true rfl) ⟨Nat.zero_le _, Nat.zero_le _⟩ d_MD_choose_15 (fun r9 u9 H locs hq hP hD hS => ?_)
            subst hq
            refine rz_eq (tgt := 33) hx hb (by omega) d_MD_choose_18 (by decide) (fun c18 => ?_) (fun c18 => ?_)
            · refine lv_iconst (v := nI 0) hx hb d_MD_choose_33 (by decide) ?_
              refine lv_istore (lv' := [(5, .int (nI 0)), (0, .ref (ma 0)), (1, .int (nI k_r)), (2, .int (nI k_a)), (3, .int b), (4, .int d)]) hx hb d_MD_choose_34 hl (by decide) rfl (fun ls hl => ?_)
              refine lv_aload_n hx hb d_MD_choose_36 rfl (lv_at hl 1 rfl) ?_
              refine lv_iload hx hb d_MD_choose_37 (lv_at hl 0 rfl) ?_
              refine rz_ne (tgt := 46) hx hb (by omega) d_MD_choose_39 (by decide) (fun c39 => ?_) (fun c39 => ?_)
              · exact (by omega : False).elim
              · refine lv_iconst (v := nI 1) hx hb d_MD_choose_42 (by decide) ?_
                refine lv_goto (tgt := 79) hx hb d_MD_choose_43 (by decide) ?_
                refine va_put (ci := 4) (v := .int (nI 1)) (ty := .int) (C := R_MD) (T := T_MD) (N := 13) hx hb ht i_MD t_MD t_MD_ok n_MD hown F.2.1 hP hD hS 0 rfl rfl 0 (by decide) (ht _ tw_470) (fun _ h9 => h9) rfl (by decide +kernel) rfl rfl (Nat.le_of_ble_eq_true rfl) d_MD_choose_79 (fun H locs hP hD hS => ?_)
                have hP : va_P g.1 cl (MW g ma (nI 1) tb hm oo kp td tt ct fd os oq vs sk ++ X) H := hP
                have hD : va_D (gA g) (MW g ma (nI 1) tb hm oo kp td tt ct fd os oq vs sk ++ X) := hD
                refine lv_aload_n hx hb d_MD_choose_82 rfl (lv_at hl 1 rfl) ?_
                refine va_get (ci := 4) (v := .int (nI 1)) (C := R_MD) (T := T_MD) (N := 13) hx hb ht i_MD hown F.2.1 hP 0 rfl rfl 0 (by decide) (ht _ tw_470) (fun _ h9 => h9) rfl d_MD_choose_83 ?_
                refine rz_ne (tgt := 126) hx hb (by omega) d_MD_choose_86 (by decide) (fun c86 => ?_) (fun c86 => ?_)
                · exact W.vret hx hb hr (fun t9 e1 hW => ⟨⟨(), rfl, trivial, PR.at F hP hD hS e1 hW.alike⟩, hS.F e1⟩) hS.2.2 d_MD_choose_126
                · exact (by omega : False).elim
            · exact (by omega : False).elim
      · refine pc_Si (As := [.int a]) (rest := []) hx hb (hml.trans hl.1.symm) hown ht F hP hD hS (c_MD_isRegister_0 l g (MW g ma cd tb hm oo kp td tt ct fd os oq vs sk ++ X) a q8) v_MD_isRegister tw_518 ⟨rfl, rfl⟩ ⟨by decide, by decide⟩ rfl rfl (Nat.le_of_ble_eq_true rfl) ⟨Nat.zero_le _, Nat.zero_le _⟩ d_MD_choose_8 (fun r9 u9 H locs hq hP hD hS => ?_)
        subst hq
        refine rz_eq (tgt := 33) hx hb (by omega) d_MD_choose_11 (by decide) (fun c11 => ?_) (fun c11 => ?_)
        · refine lv_iconst (v := nI 0) hx hb d_MD_choose_33 (by decide) ?_
          refine lv_istore (lv' := [(5, .int (nI 0)), (0, .ref (ma 0)), (1, .int (nI k_r)), (2, .int a), (3, .int b), (4, .int d)]) hx hb d_MD_choose_34 hl (by decide) rfl (fun ls hl => ?_)
          refine lv_aload_n hx hb d_MD_choose_36 rfl (lv_at hl 1 rfl) ?_
          refine lv_iload hx hb d_MD_choose_37 (lv_at hl 0 rfl) ?_
          refine rz_ne (tgt := 46) hx hb (by omega) d_MD_choose_39 (by decide) (fun c39 => ?_) (fun c39 => ?_)
          · exact (by omega : False).elim
          · refine lv_iconst (v := nI 1) hx hb d_MD_choose_42 (by decide) ?_
            refine lv_goto (tgt := 79) hx hb d_MD_choose_43 (by decide) ?_
            refine va_put (ci := 4) (v := .int (nI 1)) (ty := .int) (C := R_MD) (T := T_MD) (N := 13) hx hb ht i_MD t_MD t_MD_ok n_MD hown F.2.1 hP hD hS 0 rfl rfl 0 (by decide) (ht _ tw_470) (fun _ h9 => h9) rfl (by decide +kernel) rfl rfl (Nat.le_of_ble_eq_true rfl) d_MD_choose_79 (fun H locs hP hD hS => ?_)
            have hP : va_P g.1 cl (MW g ma (nI 1) tb hm oo kp td tt ct fd os oq vs sk ++ X) H := hP
            have hD : va_D (gA g) (MW g ma (nI 1) tb hm oo kp td tt ct fd os oq vs sk ++ X) := hD
            refine lv_aload_n hx hb d_MD_choose_82 rfl (lv_at hl 1 rfl) ?_
            refine va_get (ci := 4) (v := .int (nI 1)) (C := R_MD) (T := T_MD) (N := 13) hx hb ht i_MD hown F.2.1 hP 0 rfl rfl 0 (by decide) (ht _ tw_470) (fun _ h9 => h9) rfl d_MD_choose_83 ?_
            refine rz_ne (tgt := 126) hx hb (by omega) d_MD_choose_86 (by decide) (fun c86 => ?_) (fun c86 => ?_)
            · exact W.vret hx hb hr (fun t9 e1 hW => ⟨⟨(), rfl, trivial, PR.at F hP hD hS e1 hW.alike⟩, hS.F e1⟩) hS.2.2 d_MD_choose_126
            · exact (by omega : False).elim
        · exact (by omega : False).elim
  · refine pc_Si (As := [.int r]) (rest := []) hx hb (hml.trans hl.1.symm) hown ht F hP hD hS (c_MD_isRegister_0 l g (MW g ma cd tb hm oo kp td tt ct fd os oq vs sk ++ X) r q1) v_MD_isRegister tw_518 ⟨rfl, rfl⟩ ⟨by decide, by decide⟩ rfl rfl (Nat.le_of_ble_eq_true rfl) ⟨Nat.zero_le _, Nat.zero_le _⟩ d_MD_choose_1 (fun r9 u9 H locs hq hP hD hS => ?_)
    subst hq
    refine rz_eq (tgt := 33) hx hb (by omega) d_MD_choose_4 (by decide) (fun c4 => ?_) (fun c4 => ?_)
    · refine lv_iconst (v := nI 0) hx hb d_MD_choose_33 (by decide) ?_
      refine lv_istore (lv' := [(5, .int (nI 0)), (0, .ref (ma 0)), (1, .int r), (2, .int a), (3, .int b), (4, .int d)]) hx hb d_MD_choose_34 hl (by decide) rfl (fun ls hl => ?_)
      refine lv_aload_n hx hb d_MD_choose_36 rfl (lv_at hl 1 rfl) ?_
      refine lv_iload hx hb d_MD_choose_37 (lv_at hl 0 rfl) ?_
      refine rz_ne (tgt := 46) hx hb (by omega) d_MD_choose_39 (by decide) (fun c39 => ?_) (fun c39 => ?_)
      · exact (by omega : False).elim
      · refine lv_iconst (v := nI 1) hx hb d_MD_choose_42 (by decide) ?_
        refine lv_goto (tgt := 79) hx hb d_MD_choose_43 (by decide) ?_
        refine va_put (ci := 4) (v := .int (nI 1)) (ty := .int) (C := R_MD) (T := T_MD) (N := 13) hx hb ht i_MD t_MD t_MD_ok n_MD hown F.2.1 hP hD hS 0 rfl rfl 0 (by decide) (ht _ tw_470) (fun _ h9 => h9) rfl (by decide +kernel) rfl rfl (Nat.le_of_ble_eq_true rfl) d_MD_choose_79 (fun H locs hP hD hS => ?_)
        have hP : va_P g.1 cl (MW g ma (nI 1) tb hm oo kp td tt ct fd os oq vs sk ++ X) H := hP
        have hD : va_D (gA g) (MW g ma (nI 1) tb hm oo kp td tt ct fd os oq vs sk ++ X) := hD
        refine lv_aload_n hx hb d_MD_choose_82 rfl (lv_at hl 1 rfl) ?_
        refine va_get (ci := 4) (v := .int (nI 1)) (C := R_MD) (T := T_MD) (N := 13) hx hb ht i_MD hown F.2.1 hP 0 rfl rfl 0 (by decide) (ht _ tw_470) (fun _ h9 => h9) rfl d_MD_choose_83 ?_
        refine rz_ne (tgt := 126) hx hb (by omega) d_MD_choose_86 (by decide) (fun c86 => ?_) (fun c86 => ?_)
        · exact W.vret hx hb hr (fun t9 e1 hW => ⟨⟨(), rfl, trivial, PR.at F hP hD hS e1 hW.alike⟩, hS.F e1⟩) hS.2.2 d_MD_choose_126
        · exact (by omega : False).elim
    · exact (by omega : False).elim
set_option maxRecDepth 100000 in
set_option maxHeartbeats 4000000 in
theorem c2_MD_choose (l : Launch) (g : Gx) (ma : Nat → Nat) (cd : Int32) (tb : Nat → Int64) (hm : Nat → Int32) (oo : Nat → Int32) (kp : Nat → Int32) (td : Int32) (tt : Nat → Int32) (ct : Int32) (fd : Nat → Int64) (os : Int32) (oq : Nat → Int32) (vs : Int32) (sk : Nat → Int64) (X : va_W) (r a b d : Nat) (g_r : r < 8) (g_a : a < 8) (g_b : b < 8) (g_d : d < 8) (h9 : ∀ i, i < 8 → hm i = 0 ∨ hm i = 1) (hbad : ¬ (hm a = 1 ∧ hm b = 1 ∧ hm d = 1)) : Met l y_MD_choose (w_MD_choose :: TW) rm_MD_choose (va_Pc [.ref (ma 0), .int (nI r), .int (nI a), .int (nI b), .int (nI d)] (PR g (MW g ma cd tb hm oo kp td tt ct fd os oq vs sk ++ X))) (va_Qv (fun (u9 : Unit) => True) (fun u9 t9 => PR g (MW g ma (nI 2) tb hm oo kp td tt ct fd os oq vs sk ++ X) t9) (gA g)) 0 0 (gA g) := by
  refine mt_of (by decide) (Nat.le_of_ble_eq_true rfl) ?_
  intro p e s m below meth c ls hx hb hr hml hlk hown ht hnm F hP hD hl
  have hl : lv_has ls 6 [(0, .ref (ma 0)), (1, .int (nI r)), (2, .int (nI a)), (3, .int (nI b)), (4, .int (nI d))] := hl
  have hS : va_S (gA g) s.heap s.heap [] := va_S.rf
  refine lv_iload_n hx hb d_MD_choose_0 rfl (lv_at hl 1 rfl) ?_
  refine pc_Si (As := [.int (nI r)]) (rest := []) hx hb (hml.trans hl.1.symm) hown ht F hP hD hS (c_MD_isRegister l g (MW g ma cd tb hm oo kp td tt ct fd os oq vs sk ++ X) r (by omega)) v_MD_isRegister tw_518 ⟨rfl, rfl⟩ ⟨by decide, by decide⟩ rfl rfl (Nat.le_of_ble_eq_true rfl) ⟨Nat.zero_le _, Nat.zero_le _⟩ d_MD_choose_1 (fun r9 u9 H locs hq hP hD hS => ?_)
  subst hq
  refine rz_eq (tgt := 33) hx hb (by omega) d_MD_choose_4 (by decide) (fun c4 => ?_) (fun c4 => ?_)
  · exact (by omega : False).elim
  · refine lv_iload_n hx hb d_MD_choose_7 rfl (lv_at hl 2 rfl) ?_
    refine pc_Si (As := [.int (nI a)]) (rest := []) hx hb (hml.trans hl.1.symm) hown ht F hP hD hS (c_MD_isRegister l g (MW g ma cd tb hm oo kp td tt ct fd os oq vs sk ++ X) a (by omega)) v_MD_isRegister tw_518 ⟨rfl, rfl⟩ ⟨by decide, by decide⟩ rfl rfl (Nat.le_of_ble_eq_true rfl) ⟨Nat.zero_le _, Nat.zero_le _⟩ d_MD_choose_8 (fun r9 u9 H locs hq hP hD hS => ?_)
    subst hq
    refine rz_eq (tgt := 33) hx hb (by omega) d_MD_choose_11 (by decide) (fun c11 => ?_) (fun c11 => ?_)
    · exact (by omega : False).elim
    · refine lv_iload_n hx hb d_MD_choose_14 rfl (lv_at hl 3 rfl) ?_
      refine pc_Si (As := [.int (nI b)]) (rest := []) hx hb (hml.trans hl.1.symm) hown ht F hP hD hS (c_MD_isRegister l g (MW g ma cd tb hm oo kp td tt ct fd os oq vs sk ++ X) b (by omega)) v_MD_isRegister tw_518 ⟨rfl, rfl⟩ ⟨by decide, by decide⟩ rfl rfl (Nat.le_of_ble_eq_true rfl) ⟨Nat.zero_le _, Nat.zero_le _⟩ d_MD_choose_15 (fun r9 u9 H locs hq hP hD hS => ?_)
      subst hq
      refine rz_eq (tgt := 33) hx hb (by omega) d_MD_choose_18 (by decide) (fun c18 => ?_) (fun c18 => ?_)
      · exact (by omega : False).elim
      · refine lv_iload hx hb d_MD_choose_21 (lv_at hl 4 rfl) ?_
        refine pc_Si (As := [.int (nI d)]) (rest := []) hx hb (hml.trans hl.1.symm) hown ht F hP hD hS (c_MD_isRegister l g (MW g ma cd tb hm oo kp td tt ct fd os oq vs sk ++ X) d (by omega)) v_MD_isRegister tw_518 ⟨rfl, rfl⟩ ⟨by decide, by decide⟩ rfl rfl (Nat.le_of_ble_eq_true rfl) ⟨Nat.zero_le _, Nat.zero_le _⟩ d_MD_choose_23 (fun r9 u9 H locs hq hP hD hS => ?_)
        subst hq
        refine rz_eq (tgt := 33) hx hb (by omega) d_MD_choose_26 (by decide) (fun c26 => ?_) (fun c26 => ?_)
        · exact (by omega : False).elim
        · refine lv_iconst (v := nI 1) hx hb d_MD_choose_29 (by decide) ?_
          refine lv_goto (tgt := 34) hx hb d_MD_choose_30 (by decide) ?_
          refine lv_istore (lv' := [(5, .int (nI 1)), (0, .ref (ma 0)), (1, .int (nI r)), (2, .int (nI a)), (3, .int (nI b)), (4, .int (nI d))]) hx hb d_MD_choose_34 hl (by decide) rfl (fun ls hl => ?_)
          refine lv_aload_n hx hb d_MD_choose_36 rfl (lv_at hl 1 rfl) ?_
          refine lv_iload hx hb d_MD_choose_37 (lv_at hl 0 rfl) ?_
          refine rz_ne (tgt := 46) hx hb (by omega) d_MD_choose_39 (by decide) (fun c39 => ?_) (fun c39 => ?_)
          · refine lv_aload_n hx hb d_MD_choose_46 rfl (lv_at hl 1 rfl) ?_
            refine va_get (ci := 4) (v := .ref (ma 2)) (C := R_MD) (T := T_MD) (N := 13) hx hb ht i_MD hown F.2.1 hP 0 rfl rfl 2 (by decide) (ht _ tw_472) (fun _ h9 => h9) rfl d_MD_choose_47 ?_
            refine lv_iload_n hx hb d_MD_choose_50 rfl (lv_at hl 3 rfl) ?_
            refine ra_Z hx hb F hP 2 rfl (by omega) (by decide) d_MD_choose_51 ?_
            refine lv_if_eq (tgt := 78) hx hb d_MD_choose_52 (by decide) (fun c52 => ?_) (fun c52 => ?_)
            · refine lv_iconst (v := nI 2) hx hb d_MD_choose_78 (by decide) ?_
              refine va_put (ci := 4) (v := .int (nI 2)) (ty := .int) (C := R_MD) (T := T_MD) (N := 13) hx hb ht i_MD t_MD t_MD_ok n_MD hown F.2.1 hP hD hS 0 rfl rfl 0 (by decide) (ht _ tw_470) (fun _ h9 => h9) rfl (by decide +kernel) rfl rfl (Nat.le_of_ble_eq_true rfl) d_MD_choose_79 (fun H locs hP hD hS => ?_)
              have hP : va_P g.1 cl (MW g ma (nI 2) tb hm oo kp td tt ct fd os oq vs sk ++ X) H := hP
              have hD : va_D (gA g) (MW g ma (nI 2) tb hm oo kp td tt ct fd os oq vs sk ++ X) := hD
              refine lv_aload_n hx hb d_MD_choose_82 rfl (lv_at hl 1 rfl) ?_
              refine va_get (ci := 4) (v := .int (nI 2)) (C := R_MD) (T := T_MD) (N := 13) hx hb ht i_MD hown F.2.1 hP 0 rfl rfl 0 (by decide) (ht _ tw_470) (fun _ h9 => h9) rfl d_MD_choose_83 ?_
              refine rz_ne (tgt := 126) hx hb (by omega) d_MD_choose_86 (by decide) (fun c86 => ?_) (fun c86 => ?_)
              · exact W.vret hx hb hr (fun t9 e1 hW => ⟨⟨(), rfl, trivial, PR.at F hP hD hS e1 hW.alike⟩, hS.F e1⟩) hS.2.2 d_MD_choose_126
              · exact (by omega : False).elim
            · refine lv_aload_n hx hb d_MD_choose_55 rfl (lv_at hl 1 rfl) ?_
              refine va_get (ci := 4) (v := .ref (ma 2)) (C := R_MD) (T := T_MD) (N := 13) hx hb ht i_MD hown F.2.1 hP 0 rfl rfl 2 (by decide) (ht _ tw_472) (fun _ h9 => h9) rfl d_MD_choose_56 ?_
              refine lv_iload_n hx hb d_MD_choose_59 rfl (lv_at hl 4 rfl) ?_
              refine ra_Z hx hb F hP 2 rfl (by omega) (by decide) d_MD_choose_60 ?_
              refine lv_if_eq (tgt := 78) hx hb d_MD_choose_61 (by decide) (fun c61 => ?_) (fun c61 => ?_)
              · refine lv_iconst (v := nI 2) hx hb d_MD_choose_78 (by decide) ?_
                refine va_put (ci := 4) (v := .int (nI 2)) (ty := .int) (C := R_MD) (T := T_MD) (N := 13) hx hb ht i_MD t_MD t_MD_ok n_MD hown F.2.1 hP hD hS 0 rfl rfl 0 (by decide) (ht _ tw_470) (fun _ h9 => h9) rfl (by decide +kernel) rfl rfl (Nat.le_of_ble_eq_true rfl) d_MD_choose_79 (fun H locs hP hD hS => ?_)
                have hP : va_P g.1 cl (MW g ma (nI 2) tb hm oo kp td tt ct fd os oq vs sk ++ X) H := hP
                have hD : va_D (gA g) (MW g ma (nI 2) tb hm oo kp td tt ct fd os oq vs sk ++ X) := hD
                refine lv_aload_n hx hb d_MD_choose_82 rfl (lv_at hl 1 rfl) ?_
                refine va_get (ci := 4) (v := .int (nI 2)) (C := R_MD) (T := T_MD) (N := 13) hx hb ht i_MD hown F.2.1 hP 0 rfl rfl 0 (by decide) (ht _ tw_470) (fun _ h9 => h9) rfl d_MD_choose_83 ?_
                refine rz_ne (tgt := 126) hx hb (by omega) d_MD_choose_86 (by decide) (fun c86 => ?_) (fun c86 => ?_)
                · exact W.vret hx hb hr (fun t9 e1 hW => ⟨⟨(), rfl, trivial, PR.at F hP hD hS e1 hW.alike⟩, hS.F e1⟩) hS.2.2 d_MD_choose_126
                · exact (by omega : False).elim
              · refine lv_aload_n hx hb d_MD_choose_64 rfl (lv_at hl 1 rfl) ?_
                refine va_get (ci := 4) (v := .ref (ma 2)) (C := R_MD) (T := T_MD) (N := 13) hx hb ht i_MD hown F.2.1 hP 0 rfl rfl 2 (by decide) (ht _ tw_472) (fun _ h9 => h9) rfl d_MD_choose_65 ?_
                refine lv_iload hx hb d_MD_choose_68 (lv_at hl 5 rfl) ?_
                refine ra_Z hx hb F hP 2 rfl (by omega) (by decide) d_MD_choose_70 ?_
                refine lv_if_eq (tgt := 78) hx hb d_MD_choose_71 (by decide) (fun c71 => ?_) (fun c71 => ?_)
                · refine lv_iconst (v := nI 2) hx hb d_MD_choose_78 (by decide) ?_
                  refine va_put (ci := 4) (v := .int (nI 2)) (ty := .int) (C := R_MD) (T := T_MD) (N := 13) hx hb ht i_MD t_MD t_MD_ok n_MD hown F.2.1 hP hD hS 0 rfl rfl 0 (by decide) (ht _ tw_470) (fun _ h9 => h9) rfl (by decide +kernel) rfl rfl (Nat.le_of_ble_eq_true rfl) d_MD_choose_79 (fun H locs hP hD hS => ?_)
                  have hP : va_P g.1 cl (MW g ma (nI 2) tb hm oo kp td tt ct fd os oq vs sk ++ X) H := hP
                  have hD : va_D (gA g) (MW g ma (nI 2) tb hm oo kp td tt ct fd os oq vs sk ++ X) := hD
                  refine lv_aload_n hx hb d_MD_choose_82 rfl (lv_at hl 1 rfl) ?_
                  refine va_get (ci := 4) (v := .int (nI 2)) (C := R_MD) (T := T_MD) (N := 13) hx hb ht i_MD hown F.2.1 hP 0 rfl rfl 0 (by decide) (ht _ tw_470) (fun _ h9 => h9) rfl d_MD_choose_83 ?_
                  refine rz_ne (tgt := 126) hx hb (by omega) d_MD_choose_86 (by decide) (fun c86 => ?_) (fun c86 => ?_)
                  · exact W.vret hx hb hr (fun t9 e1 hW => ⟨⟨(), rfl, trivial, PR.at F hP hD hS e1 hW.alike⟩, hS.F e1⟩) hS.2.2 d_MD_choose_126
                  · exact (by omega : False).elim
                · exact (hbad ⟨((h9 a (by omega)).resolve_left c52), ((h9 b (by omega)).resolve_left c61), ((h9 d (by omega)).resolve_left c71)⟩).elim
          · exact (by omega : False).elim
set_option maxRecDepth 100000 in
set_option maxHeartbeats 4000000 in
theorem c_MD_restrict (l : Launch) (g : Gx) (ma : Nat → Nat) (cd : Int32) (tb : Nat → Int64) (hm : Nat → Int32) (oo : Nat → Int32) (kp : Nat → Int32) (td : Int32) (tt : Nat → Int32) (ct : Int32) (fd : Nat → Int64) (os : Int32) (oq : Nat → Int32) (vs : Int32) (sk : Nat → Int64) (X : va_W) (r a v : Nat) (z : Int32) (g_r : r < 8) (g_a : a < 8) (g_v : v < 6) (e_a : hm a = 1) : Met l y_MD_restrict (w_MD_restrict :: TW) rm_MD_restrict (va_Pc [.ref (ma 0), .int (nI r), .int (nI a), .int (nI v), .int z] (PR g (MW g ma cd tb hm oo kp td tt ct fd os oq vs sk ++ X))) (va_Qv (fun (u9 : Unit) => True) (fun u9 t9 => PR g (MW g ma (nI 0) (vp_updL tb r (if z = 0 then W0 (tb a) v else W1 (tb a) v)) (upd hm r (nI 1)) oo kp td tt ct fd os oq vs sk ++ X) t9) (gA g)) 0 0 (gA g) := by
  refine mt_of (by decide) (Nat.le_of_ble_eq_true rfl) ?_
  intro p e s m below meth c ls hx hb hr hml hlk hown ht hnm F hP hD hl
  have hl : lv_has ls 6 [(0, .ref (ma 0)), (1, .int (nI r)), (2, .int (nI a)), (3, .int (nI v)), (4, .int z)] := hl
  have hS : va_S (gA g) s.heap s.heap [] := va_S.rf
  refine lv_iload_n hx hb d_MD_restrict_0 rfl (lv_at hl 1 rfl) ?_
  refine pc_Si (As := [.int (nI r)]) (rest := []) hx hb (hml.trans hl.1.symm) hown ht F hP hD hS (c_MD_isRegister l g (MW g ma cd tb hm oo kp td tt ct fd os oq vs sk ++ X) r (by omega)) v_MD_isRegister tw_518 ⟨rfl, rfl⟩ ⟨by decide, by decide⟩ rfl rfl (Nat.le_of_ble_eq_true rfl) ⟨Nat.zero_le _, Nat.zero_le _⟩ d_MD_restrict_1 (fun r9 u9 H locs hq hP hD hS => ?_)
  subst hq
  refine rz_eq (tgt := 27) hx hb (by omega) d_MD_restrict_4 (by decide) (fun c4 => ?_) (fun c4 => ?_)
  · exact (by omega : False).elim
  · refine lv_iload_n hx hb d_MD_restrict_7 rfl (lv_at hl 2 rfl) ?_
    refine pc_Si (As := [.int (nI a)]) (rest := []) hx hb (hml.trans hl.1.symm) hown ht F hP hD hS (c_MD_isRegister l g (MW g ma cd tb hm oo kp td tt ct fd os oq vs sk ++ X) a (by omega)) v_MD_isRegister tw_518 ⟨rfl, rfl⟩ ⟨by decide, by decide⟩ rfl rfl (Nat.le_of_ble_eq_true rfl) ⟨Nat.zero_le _, Nat.zero_le _⟩ d_MD_restrict_8 (fun r9 u9 H locs hq hP hD hS => ?_)
    subst hq
    refine rz_eq (tgt := 27) hx hb (by omega) d_MD_restrict_11 (by decide) (fun c11 => ?_) (fun c11 => ?_)
    · exact (by omega : False).elim
    · refine lv_iload_n hx hb d_MD_restrict_14 rfl (lv_at hl 3 rfl) ?_
      refine lv_iconst (v := nI 0) hx hb d_MD_restrict_15 (by decide) ?_
      refine lv_iconst (v := nI 5) hx hb d_MD_restrict_16 (by decide) ?_
      refine pc_Si (As := [.int (nI v), .int (nI 0), .int (nI 5)]) (rest := []) hx hb (hml.trans hl.1.symm) hown ht F hP hD hS (c_MD_within l g (MW g ma cd tb hm oo kp td tt ct fd os oq vs sk ++ X) v 0 5 (by omega) (by omega) (by omega)) v_MD_within tw_521 ⟨rfl, rfl⟩ ⟨by decide, by decide⟩ rfl rfl (Nat.le_of_ble_eq_true rfl) ⟨Nat.zero_le _, Nat.zero_le _⟩ d_MD_restrict_17 (fun r9 u9 H locs hq hP hD hS => ?_)
      subst hq
      refine rz_eq (tgt := 27) hx hb (by omega) d_MD_restrict_20 (by decide) (fun c20 => ?_) (fun c20 => ?_)
      · exact (by omega : False).elim
      · refine lv_iconst (v := nI 1) hx hb d_MD_restrict_23 (by decide) ?_
        refine lv_goto (tgt := 28) hx hb d_MD_restrict_24 (by decide) ?_
        refine lv_istore (lv' := [(5, .int (nI 1)), (0, .ref (ma 0)), (1, .int (nI r)), (2, .int (nI a)), (3, .int (nI v)), (4, .int z)]) hx hb d_MD_restrict_28 hl (by decide) rfl (fun ls hl => ?_)
        refine lv_aload_n hx hb d_MD_restrict_30 rfl (lv_at hl 1 rfl) ?_
        refine lv_iload hx hb d_MD_restrict_31 (lv_at hl 0 rfl) ?_
        refine rz_ne (tgt := 40) hx hb (by omega) d_MD_restrict_33 (by decide) (fun c33 => ?_) (fun c33 => ?_)
        · refine lv_aload_n hx hb d_MD_restrict_40 rfl (lv_at hl 1 rfl) ?_
          refine va_get (ci := 4) (v := .ref (ma 2)) (C := R_MD) (T := T_MD) (N := 13) hx hb ht i_MD hown F.2.1 hP 0 rfl rfl 2 (by decide) (ht _ tw_472) (fun _ h9 => h9) rfl d_MD_restrict_41 ?_
          refine lv_iload_n hx hb d_MD_restrict_44 rfl (lv_at hl 3 rfl) ?_
          refine ra_Z hx hb F hP 2 rfl (by omega) (by decide) d_MD_restrict_45 ?_
          refine lv_if_eq (tgt := 53) hx hb d_MD_restrict_46 (by decide) (fun c46 => ?_) (fun c46 => ?_)
          · exact absurd (e_a.symm.trans c46) (by decide)
          · refine lv_iconst (v := nI 0) hx hb d_MD_restrict_49 (by decide) ?_
            refine lv_goto (tgt := 54) hx hb d_MD_restrict_50 (by decide) ?_
            refine va_put (ci := 4) (v := .int (nI 0)) (ty := .int) (C := R_MD) (T := T_MD) (N := 13) hx hb ht i_MD t_MD t_MD_ok n_MD hown F.2.1 hP hD hS 0 rfl rfl 0 (by decide) (ht _ tw_470) (fun _ h9 => h9) rfl (by decide +kernel) rfl rfl (Nat.le_of_ble_eq_true rfl) d_MD_restrict_54 (fun H locs hP hD hS => ?_)
            have hP : va_P g.1 cl (MW g ma (nI 0) tb hm oo kp td tt ct fd os oq vs sk ++ X) H := hP
            have hD : va_D (gA g) (MW g ma (nI 0) tb hm oo kp td tt ct fd os oq vs sk ++ X) := hD
            refine lv_aload_n hx hb d_MD_restrict_57 rfl (lv_at hl 1 rfl) ?_
            refine va_get (ci := 4) (v := .int (nI 0)) (C := R_MD) (T := T_MD) (N := 13) hx hb ht i_MD hown F.2.1 hP 0 rfl rfl 0 (by decide) (ht _ tw_470) (fun _ h9 => h9) rfl d_MD_restrict_58 ?_
            refine rz_ne (tgt := 91) hx hb (by omega) d_MD_restrict_61 (by decide) (fun c61 => ?_) (fun c61 => ?_)
            · exact (by omega : False).elim
            · refine lv_aload_n hx hb d_MD_restrict_64 rfl (lv_at hl 1 rfl) ?_
              refine lv_iload_n hx hb d_MD_restrict_65 rfl (lv_at hl 2 rfl) ?_
              refine lv_aload_n hx hb d_MD_restrict_66 rfl (lv_at hl 1 rfl) ?_
              refine va_get (ci := 4) (v := .ref (ma 1)) (C := R_MD) (T := T_MD) (N := 13) hx hb ht i_MD hown F.2.1 hP 0 rfl rfl 1 (by decide) (ht _ tw_471) (fun _ h9 => h9) rfl d_MD_restrict_67 ?_
              refine lv_iload_n hx hb d_MD_restrict_70 rfl (lv_at hl 3 rfl) ?_
              refine ra_J hx hb F hP 1 rfl (by omega) (by decide) d_MD_restrict_71 ?_
              refine lv_iload_n hx hb d_MD_restrict_72 rfl (lv_at hl 4 rfl) ?_
              refine lv_iload hx hb d_MD_restrict_73 (lv_at hl 5 rfl) ?_
              refine lv_if_eq (tgt := 84) hx hb d_MD_restrict_75 (by decide) (fun c75 => ?_) (fun c75 => ?_)
              · refine lv_lconst (v := 0) hx hb d_MD_restrict_84 (by decide) ?_
                refine pc_Sl (As := [.long (tb a), .int (nI v), .long 0]) (rest := [.int (nI r), .ref (ma 0)]) hx hb (hml.trans hl.1.symm) hown ht F hP hD hS (c_MD_with l g (MW g ma (nI 0) tb hm oo kp td tt ct fd os oq vs sk ++ X) (tb a) v 0 (by omega)) v_MD_with tw_547 ⟨rfl, rfl⟩ ⟨by decide, by decide⟩ rfl rfl (Nat.le_of_ble_eq_true rfl) ⟨Nat.zero_le _, Nat.zero_le _⟩ d_MD_restrict_85 (fun r9 u9 H locs hq hP hD hS => ?_)
                subst hq
                refine pc_Vv (q0 := 0) (As := [.int (nI r), .long (CH 0 (W1 (tb a) v) (W0 (tb a) v))]) (rest := []) hx hb (hml.trans hl.1.symm) hown ht F hP hD hS (c_MD_put l g ma (nI 0) tb hm oo kp td tt ct fd os oq vs sk X r (CH 0 (W1 (tb a) v) (W0 (tb a) v)) (by omega)) v_MD_put tw_528 ⟨rfl, rfl⟩ ⟨by decide, by decide⟩ rfl rfl rfl rfl (Nat.le_of_ble_eq_true rfl) ⟨Nat.zero_le _, Nat.zero_le _⟩ d_MD_restrict_88 (fun u9 H locs hq hP hD hS => ?_)
                have hP : va_P g.1 cl (MW g ma (nI 0) (vp_updL tb r (CH 0 (W1 (tb a) v) (W0 (tb a) v))) (upd hm r (nI 1)) oo kp td tt ct fd os oq vs sk ++ X) H := hP
                have hD : va_D (gA g) (MW g ma (nI 0) (vp_updL tb r (CH 0 (W1 (tb a) v) (W0 (tb a) v))) (upd hm r (nI 1)) oo kp td tt ct fd os oq vs sk ++ X) := hD
                have hP : va_P g.1 cl (MW g ma (nI 0) (vp_updL tb r (if z = 0 then W0 (tb a) v else W1 (tb a) v)) (upd hm r (nI 1)) oo kp td tt ct fd os oq vs sk ++ X) H := by rw [if_pos c75, ← CH_0 (W1 (tb a) v) (W0 (tb a) v)]; exact hP
                have hD : va_D (gA g) (MW g ma (nI 0) (vp_updL tb r (if z = 0 then W0 (tb a) v else W1 (tb a) v)) (upd hm r (nI 1)) oo kp td tt ct fd os oq vs sk ++ X) := by rw [if_pos c75, ← CH_0 (W1 (tb a) v) (W0 (tb a) v)]; exact hD
                exact W.vret hx hb hr (fun t9 e1 hW => ⟨⟨(), rfl, trivial, PR.at F hP hD hS e1 hW.alike⟩, hS.F e1⟩) hS.2.2 d_MD_restrict_91
              · refine lv_ldc2 (v := (-1)) hx hb hown (ht _ tw_527) d_MD_restrict_78 ?_
                refine lv_goto (tgt := 85) hx hb d_MD_restrict_81 (by decide) ?_
                refine pc_Sl (As := [.long (tb a), .int (nI v), .long (-1)]) (rest := [.int (nI r), .ref (ma 0)]) hx hb (hml.trans hl.1.symm) hown ht F hP hD hS (c_MD_with l g (MW g ma (nI 0) tb hm oo kp td tt ct fd os oq vs sk ++ X) (tb a) v (-1) (by omega)) v_MD_with tw_547 ⟨rfl, rfl⟩ ⟨by decide, by decide⟩ rfl rfl (Nat.le_of_ble_eq_true rfl) ⟨Nat.zero_le _, Nat.zero_le _⟩ d_MD_restrict_85 (fun r9 u9 H locs hq hP hD hS => ?_)
                subst hq
                refine pc_Vv (q0 := 0) (As := [.int (nI r), .long (CH (-1) (W1 (tb a) v) (W0 (tb a) v))]) (rest := []) hx hb (hml.trans hl.1.symm) hown ht F hP hD hS (c_MD_put l g ma (nI 0) tb hm oo kp td tt ct fd os oq vs sk X r (CH (-1) (W1 (tb a) v) (W0 (tb a) v)) (by omega)) v_MD_put tw_528 ⟨rfl, rfl⟩ ⟨by decide, by decide⟩ rfl rfl rfl rfl (Nat.le_of_ble_eq_true rfl) ⟨Nat.zero_le _, Nat.zero_le _⟩ d_MD_restrict_88 (fun u9 H locs hq hP hD hS => ?_)
                have hP : va_P g.1 cl (MW g ma (nI 0) (vp_updL tb r (CH (-1) (W1 (tb a) v) (W0 (tb a) v))) (upd hm r (nI 1)) oo kp td tt ct fd os oq vs sk ++ X) H := hP
                have hD : va_D (gA g) (MW g ma (nI 0) (vp_updL tb r (CH (-1) (W1 (tb a) v) (W0 (tb a) v))) (upd hm r (nI 1)) oo kp td tt ct fd os oq vs sk ++ X) := hD
                have hP : va_P g.1 cl (MW g ma (nI 0) (vp_updL tb r (if z = 0 then W0 (tb a) v else W1 (tb a) v)) (upd hm r (nI 1)) oo kp td tt ct fd os oq vs sk ++ X) H := by rw [if_neg c75, ← CH_m (W1 (tb a) v) (W0 (tb a) v)]; exact hP
                have hD : va_D (gA g) (MW g ma (nI 0) (vp_updL tb r (if z = 0 then W0 (tb a) v else W1 (tb a) v)) (upd hm r (nI 1)) oo kp td tt ct fd os oq vs sk ++ X) := by rw [if_neg c75, ← CH_m (W1 (tb a) v) (W0 (tb a) v)]; exact hD
                exact W.vret hx hb hr (fun t9 e1 hW => ⟨⟨(), rfl, trivial, PR.at F hP hD hS e1 hW.alike⟩, hS.F e1⟩) hS.2.2 d_MD_restrict_91
        · exact (by omega : False).elim
set_option maxRecDepth 100000 in
set_option maxHeartbeats 4000000 in
theorem c1_MD_restrict (l : Launch) (g : Gx) (ma : Nat → Nat) (cd : Int32) (tb : Nat → Int64) (hm : Nat → Int32) (oo : Nat → Int32) (kp : Nat → Int32) (td : Int32) (tt : Nat → Int32) (ct : Int32) (fd : Nat → Int64) (os : Int32) (oq : Nat → Int32) (vs : Int32) (sk : Nat → Int64) (X : va_W) (r : Int32) (a : Int32) (v : Int32) (z : Int32) (hbad : ¬ (inR r 8 ∧ inR a 8 ∧ inR v 6)) : Met l y_MD_restrict (w_MD_restrict :: TW) rm_MD_restrict (va_Pc [.ref (ma 0), .int r, .int a, .int v, .int z] (PR g (MW g ma cd tb hm oo kp td tt ct fd os oq vs sk ++ X))) (va_Qv (fun (u9 : Unit) => True) (fun u9 t9 => PR g (MW g ma (nI 1) tb hm oo kp td tt ct fd os oq vs sk ++ X) t9) (gA g)) 0 0 (gA g) := by
  refine mt_of (by decide) (Nat.le_of_ble_eq_true rfl) ?_
  intro p e s m below meth c ls hx hb hr hml hlk hown ht hnm F hP hD hl
  have hl : lv_has ls 6 [(0, .ref (ma 0)), (1, .int r), (2, .int a), (3, .int v), (4, .int z)] := hl
  have hS : va_S (gA g) s.heap s.heap [] := va_S.rf
  refine lv_iload_n hx hb d_MD_restrict_0 rfl (lv_at hl 1 rfl) ?_
  by_cases q1 : inR r 8
  · obtain ⟨k_r, hk_r, rfl⟩ := q1
    refine pc_Si (As := [.int (nI k_r)]) (rest := []) hx hb (hml.trans hl.1.symm) hown ht F hP hD hS (c_MD_isRegister l g (MW g ma cd tb hm oo kp td tt ct fd os oq vs sk ++ X) k_r (by omega)) v_MD_isRegister tw_518 ⟨rfl, rfl⟩ ⟨by decide, by decide⟩ rfl rfl (Nat.le_of_ble_eq_true rfl) ⟨Nat.zero_le _, Nat.zero_le _⟩ d_MD_restrict_1 (fun r9 u9 H locs hq hP hD hS => ?_)
    subst hq
    refine rz_eq (tgt := 27) hx hb (by omega) d_MD_restrict_4 (by decide) (fun c4 => ?_) (fun c4 => ?_)
    · exact (by omega : False).elim
    · refine lv_iload_n hx hb d_MD_restrict_7 rfl (lv_at hl 2 rfl) ?_
      by_cases q8 : inR a 8
      · obtain ⟨k_a, hk_a, rfl⟩ := q8
        refine pc_Si (As := [.int (nI k_a)]) (rest := []) hx hb (hml.trans hl.1.symm) hown ht F hP hD hS (c_MD_isRegister l g (MW g ma cd tb hm oo kp td tt ct fd os oq vs sk ++ X) k_a (by omega)) v_MD_isRegister tw_518 ⟨rfl, rfl⟩ ⟨by decide, by decide⟩ rfl rfl (Nat.le_of_ble_eq_true rfl) ⟨Nat.zero_le _, Nat.zero_le _⟩ d_MD_restrict_8 (fun r9 u9 H locs hq hP hD hS => ?_)
        subst hq
        refine rz_eq (tgt := 27) hx hb (by omega) d_MD_restrict_11 (by decide) (fun c11 => ?_) (fun c11 => ?_)
        · exact (by omega : False).elim
        · refine lv_iload_n hx hb d_MD_restrict_14 rfl (lv_at hl 3 rfl) ?_
          refine lv_iconst (v := nI 0) hx hb d_MD_restrict_15 (by decide) ?_
          refine lv_iconst (v := nI 5) hx hb d_MD_restrict_16 (by decide) ?_
          by_cases q17 : inR v 6
          · exact (hbad ⟨inR_nI hk_r, inR_nI hk_a, q17⟩).elim
          · refine pc_Si (As := [.int v, .int (nI 0), .int (nI 5)]) (rest := []) hx hb (hml.trans hl.1.symm) hown ht F hP hD hS (c_MD_within_0 l g (MW g ma cd tb hm oo kp td tt ct fd os oq vs sk ++ X) v 0 5 (fun h => q17 (inR_le h)) (by decide) (by decide)) v_MD_within tw_521 ⟨rfl, rfl⟩ ⟨by decide, by decide⟩ rfl rfl (Nat.le_of_ble_eq_true rfl) ⟨Nat.zero_le _, Nat.zero_le _⟩ d_MD_restrict_17 (fun r9 u9 H locs hq hP hD hS => ?_)
            subst hq
            refine rz_eq (tgt := 27) hx hb (by omega) d_MD_restrict_20 (by decide) (fun c20 => ?_) (fun c20 => ?_)
            · refine lv_iconst (v := nI 0) hx hb d_MD_restrict_27 (by decide) ?_
              refine lv_istore (lv' := [(5, .int (nI 0)), (0, .ref (ma 0)), (1, .int (nI k_r)), (2, .int (nI k_a)), (3, .int v), (4, .int z)]) hx hb d_MD_restrict_28 hl (by decide) rfl (fun ls hl => ?_)
              refine lv_aload_n hx hb d_MD_restrict_30 rfl (lv_at hl 1 rfl) ?_
              refine lv_iload hx hb d_MD_restrict_31 (lv_at hl 0 rfl) ?_
              refine rz_ne (tgt := 40) hx hb (by omega) d_MD_restrict_33 (by decide) (fun c33 => ?_) (fun c33 => ?_)
              · exact (by omega : False).elim
              · refine lv_iconst (v := nI 1) hx hb d_MD_restrict_36 (by decide) ?_
                refine lv_goto (tgt := 54) hx hb d_MD_restrict_37 (by decide) ?_
                refine va_put (ci := 4) (v := .int (nI 1)) (ty := .int) (C := R_MD) (T := T_MD) (N := 13) hx hb ht i_MD t_MD t_MD_ok n_MD hown F.2.1 hP hD hS 0 rfl rfl 0 (by decide) (ht _ tw_470) (fun _ h9 => h9) rfl (by decide +kernel) rfl rfl (Nat.le_of_ble_eq_true rfl) d_MD_restrict_54 (fun H locs hP hD hS => ?_)
                have hP : va_P g.1 cl (MW g ma (nI 1) tb hm oo kp td tt ct fd os oq vs sk ++ X) H := hP
                have hD : va_D (gA g) (MW g ma (nI 1) tb hm oo kp td tt ct fd os oq vs sk ++ X) := hD
                refine lv_aload_n hx hb d_MD_restrict_57 rfl (lv_at hl 1 rfl) ?_
                refine va_get (ci := 4) (v := .int (nI 1)) (C := R_MD) (T := T_MD) (N := 13) hx hb ht i_MD hown F.2.1 hP 0 rfl rfl 0 (by decide) (ht _ tw_470) (fun _ h9 => h9) rfl d_MD_restrict_58 ?_
                refine rz_ne (tgt := 91) hx hb (by omega) d_MD_restrict_61 (by decide) (fun c61 => ?_) (fun c61 => ?_)
                · exact W.vret hx hb hr (fun t9 e1 hW => ⟨⟨(), rfl, trivial, PR.at F hP hD hS e1 hW.alike⟩, hS.F e1⟩) hS.2.2 d_MD_restrict_91
                · exact (by omega : False).elim
            · exact (by omega : False).elim
      · refine pc_Si (As := [.int a]) (rest := []) hx hb (hml.trans hl.1.symm) hown ht F hP hD hS (c_MD_isRegister_0 l g (MW g ma cd tb hm oo kp td tt ct fd os oq vs sk ++ X) a q8) v_MD_isRegister tw_518 ⟨rfl, rfl⟩ ⟨by decide, by decide⟩ rfl rfl (Nat.le_of_ble_eq_true rfl) ⟨Nat.zero_le _, Nat.zero_le _⟩ d_MD_restrict_8 (fun r9 u9 H locs hq hP hD hS => ?_)
        subst hq
        refine rz_eq (tgt := 27) hx hb (by omega) d_MD_restrict_11 (by decide) (fun c11 => ?_) (fun c11 => ?_)
        · refine lv_iconst (v := nI 0) hx hb d_MD_restrict_27 (by decide) ?_
          refine lv_istore (lv' := [(5, .int (nI 0)), (0, .ref (ma 0)), (1, .int (nI k_r)), (2, .int a), (3, .int v), (4, .int z)]) hx hb d_MD_restrict_28 hl (by decide) rfl (fun ls hl => ?_)
          refine lv_aload_n hx hb d_MD_restrict_30 rfl (lv_at hl 1 rfl) ?_
          refine lv_iload hx hb d_MD_restrict_31 (lv_at hl 0 rfl) ?_
          refine rz_ne (tgt := 40) hx hb (by omega) d_MD_restrict_33 (by decide) (fun c33 => ?_) (fun c33 => ?_)
          · exact (by omega : False).elim
          · refine lv_iconst (v := nI 1) hx hb d_MD_restrict_36 (by decide) ?_
            refine lv_goto (tgt := 54) hx hb d_MD_restrict_37 (by decide) ?_
            refine va_put (ci := 4) (v := .int (nI 1)) (ty := .int) (C := R_MD) (T := T_MD) (N := 13) hx hb ht i_MD t_MD t_MD_ok n_MD hown F.2.1 hP hD hS 0 rfl rfl 0 (by decide) (ht _ tw_470) (fun _ h9 => h9) rfl (by decide +kernel) rfl rfl (Nat.le_of_ble_eq_true rfl) d_MD_restrict_54 (fun H locs hP hD hS => ?_)
            have hP : va_P g.1 cl (MW g ma (nI 1) tb hm oo kp td tt ct fd os oq vs sk ++ X) H := hP
            have hD : va_D (gA g) (MW g ma (nI 1) tb hm oo kp td tt ct fd os oq vs sk ++ X) := hD
            refine lv_aload_n hx hb d_MD_restrict_57 rfl (lv_at hl 1 rfl) ?_
            refine va_get (ci := 4) (v := .int (nI 1)) (C := R_MD) (T := T_MD) (N := 13) hx hb ht i_MD hown F.2.1 hP 0 rfl rfl 0 (by decide) (ht _ tw_470) (fun _ h9 => h9) rfl d_MD_restrict_58 ?_
            refine rz_ne (tgt := 91) hx hb (by omega) d_MD_restrict_61 (by decide) (fun c61 => ?_) (fun c61 => ?_)
            · exact W.vret hx hb hr (fun t9 e1 hW => ⟨⟨(), rfl, trivial, PR.at F hP hD hS e1 hW.alike⟩, hS.F e1⟩) hS.2.2 d_MD_restrict_91
            · exact (by omega : False).elim
        · exact (by omega : False).elim
  · refine pc_Si (As := [.int r]) (rest := []) hx hb (hml.trans hl.1.symm) hown ht F hP hD hS (c_MD_isRegister_0 l g (MW g ma cd tb hm oo kp td tt ct fd os oq vs sk ++ X) r q1) v_MD_isRegister tw_518 ⟨rfl, rfl⟩ ⟨by decide, by decide⟩ rfl rfl (Nat.le_of_ble_eq_true rfl) ⟨Nat.zero_le _, Nat.zero_le _⟩ d_MD_restrict_1 (fun r9 u9 H locs hq hP hD hS => ?_)
    subst hq
    refine rz_eq (tgt := 27) hx hb (by omega) d_MD_restrict_4 (by decide) (fun c4 => ?_) (fun c4 => ?_)
    · refine lv_iconst (v := nI 0) hx hb d_MD_restrict_27 (by decide) ?_
      refine lv_istore (lv' := [(5, .int (nI 0)), (0, .ref (ma 0)), (1, .int r), (2, .int a), (3, .int v), (4, .int z)]) hx hb d_MD_restrict_28 hl (by decide) rfl (fun ls hl => ?_)
      refine lv_aload_n hx hb d_MD_restrict_30 rfl (lv_at hl 1 rfl) ?_
      refine lv_iload hx hb d_MD_restrict_31 (lv_at hl 0 rfl) ?_
      refine rz_ne (tgt := 40) hx hb (by omega) d_MD_restrict_33 (by decide) (fun c33 => ?_) (fun c33 => ?_)
      · exact (by omega : False).elim
      · refine lv_iconst (v := nI 1) hx hb d_MD_restrict_36 (by decide) ?_
        refine lv_goto (tgt := 54) hx hb d_MD_restrict_37 (by decide) ?_
        refine va_put (ci := 4) (v := .int (nI 1)) (ty := .int) (C := R_MD) (T := T_MD) (N := 13) hx hb ht i_MD t_MD t_MD_ok n_MD hown F.2.1 hP hD hS 0 rfl rfl 0 (by decide) (ht _ tw_470) (fun _ h9 => h9) rfl (by decide +kernel) rfl rfl (Nat.le_of_ble_eq_true rfl) d_MD_restrict_54 (fun H locs hP hD hS => ?_)
        have hP : va_P g.1 cl (MW g ma (nI 1) tb hm oo kp td tt ct fd os oq vs sk ++ X) H := hP
        have hD : va_D (gA g) (MW g ma (nI 1) tb hm oo kp td tt ct fd os oq vs sk ++ X) := hD
        refine lv_aload_n hx hb d_MD_restrict_57 rfl (lv_at hl 1 rfl) ?_
        refine va_get (ci := 4) (v := .int (nI 1)) (C := R_MD) (T := T_MD) (N := 13) hx hb ht i_MD hown F.2.1 hP 0 rfl rfl 0 (by decide) (ht _ tw_470) (fun _ h9 => h9) rfl d_MD_restrict_58 ?_
        refine rz_ne (tgt := 91) hx hb (by omega) d_MD_restrict_61 (by decide) (fun c61 => ?_) (fun c61 => ?_)
        · exact W.vret hx hb hr (fun t9 e1 hW => ⟨⟨(), rfl, trivial, PR.at F hP hD hS e1 hW.alike⟩, hS.F e1⟩) hS.2.2 d_MD_restrict_91
        · exact (by omega : False).elim
    · exact (by omega : False).elim
set_option maxRecDepth 100000 in
set_option maxHeartbeats 4000000 in
theorem c2_MD_restrict (l : Launch) (g : Gx) (ma : Nat → Nat) (cd : Int32) (tb : Nat → Int64) (hm : Nat → Int32) (oo : Nat → Int32) (kp : Nat → Int32) (td : Int32) (tt : Nat → Int32) (ct : Int32) (fd : Nat → Int64) (os : Int32) (oq : Nat → Int32) (vs : Int32) (sk : Nat → Int64) (X : va_W) (r a v : Nat) (z : Int32) (g_r : r < 8) (g_a : a < 8) (g_v : v < 6) (h9 : ∀ i, i < 8 → hm i = 0 ∨ hm i = 1) (hbad : ¬ (hm a = 1)) : Met l y_MD_restrict (w_MD_restrict :: TW) rm_MD_restrict (va_Pc [.ref (ma 0), .int (nI r), .int (nI a), .int (nI v), .int z] (PR g (MW g ma cd tb hm oo kp td tt ct fd os oq vs sk ++ X))) (va_Qv (fun (u9 : Unit) => True) (fun u9 t9 => PR g (MW g ma (nI 2) tb hm oo kp td tt ct fd os oq vs sk ++ X) t9) (gA g)) 0 0 (gA g) := by
  refine mt_of (by decide) (Nat.le_of_ble_eq_true rfl) ?_
  intro p e s m below meth c ls hx hb hr hml hlk hown ht hnm F hP hD hl
  have hl : lv_has ls 6 [(0, .ref (ma 0)), (1, .int (nI r)), (2, .int (nI a)), (3, .int (nI v)), (4, .int z)] := hl
  have hS : va_S (gA g) s.heap s.heap [] := va_S.rf
  refine lv_iload_n hx hb d_MD_restrict_0 rfl (lv_at hl 1 rfl) ?_
  refine pc_Si (As := [.int (nI r)]) (rest := []) hx hb (hml.trans hl.1.symm) hown ht F hP hD hS (c_MD_isRegister l g (MW g ma cd tb hm oo kp td tt ct fd os oq vs sk ++ X) r (by omega)) v_MD_isRegister tw_518 ⟨rfl, rfl⟩ ⟨by decide, by decide⟩ rfl rfl (Nat.le_of_ble_eq_true rfl) ⟨Nat.zero_le _, Nat.zero_le _⟩ d_MD_restrict_1 (fun r9 u9 H locs hq hP hD hS => ?_)
  subst hq
  refine rz_eq (tgt := 27) hx hb (by omega) d_MD_restrict_4 (by decide) (fun c4 => ?_) (fun c4 => ?_)
  · exact (by omega : False).elim
  · refine lv_iload_n hx hb d_MD_restrict_7 rfl (lv_at hl 2 rfl) ?_
    refine pc_Si (As := [.int (nI a)]) (rest := []) hx hb (hml.trans hl.1.symm) hown ht F hP hD hS (c_MD_isRegister l g (MW g ma cd tb hm oo kp td tt ct fd os oq vs sk ++ X) a (by omega)) v_MD_isRegister tw_518 ⟨rfl, rfl⟩ ⟨by decide, by decide⟩ rfl rfl (Nat.le_of_ble_eq_true rfl) ⟨Nat.zero_le _, Nat.zero_le _⟩ d_MD_restrict_8 (fun r9 u9 H locs hq hP hD hS => ?_)
    subst hq
    refine rz_eq (tgt := 27) hx hb (by omega) d_MD_restrict_11 (by decide) (fun c11 => ?_) (fun c11 => ?_)
    · exact (by omega : False).elim
    · refine lv_iload_n hx hb d_MD_restrict_14 rfl (lv_at hl 3 rfl) ?_
      refine lv_iconst (v := nI 0) hx hb d_MD_restrict_15 (by decide) ?_
      refine lv_iconst (v := nI 5) hx hb d_MD_restrict_16 (by decide) ?_
      refine pc_Si (As := [.int (nI v), .int (nI 0), .int (nI 5)]) (rest := []) hx hb (hml.trans hl.1.symm) hown ht F hP hD hS (c_MD_within l g (MW g ma cd tb hm oo kp td tt ct fd os oq vs sk ++ X) v 0 5 (by omega) (by omega) (by omega)) v_MD_within tw_521 ⟨rfl, rfl⟩ ⟨by decide, by decide⟩ rfl rfl (Nat.le_of_ble_eq_true rfl) ⟨Nat.zero_le _, Nat.zero_le _⟩ d_MD_restrict_17 (fun r9 u9 H locs hq hP hD hS => ?_)
      subst hq
      refine rz_eq (tgt := 27) hx hb (by omega) d_MD_restrict_20 (by decide) (fun c20 => ?_) (fun c20 => ?_)
      · exact (by omega : False).elim
      · refine lv_iconst (v := nI 1) hx hb d_MD_restrict_23 (by decide) ?_
        refine lv_goto (tgt := 28) hx hb d_MD_restrict_24 (by decide) ?_
        refine lv_istore (lv' := [(5, .int (nI 1)), (0, .ref (ma 0)), (1, .int (nI r)), (2, .int (nI a)), (3, .int (nI v)), (4, .int z)]) hx hb d_MD_restrict_28 hl (by decide) rfl (fun ls hl => ?_)
        refine lv_aload_n hx hb d_MD_restrict_30 rfl (lv_at hl 1 rfl) ?_
        refine lv_iload hx hb d_MD_restrict_31 (lv_at hl 0 rfl) ?_
        refine rz_ne (tgt := 40) hx hb (by omega) d_MD_restrict_33 (by decide) (fun c33 => ?_) (fun c33 => ?_)
        · refine lv_aload_n hx hb d_MD_restrict_40 rfl (lv_at hl 1 rfl) ?_
          refine va_get (ci := 4) (v := .ref (ma 2)) (C := R_MD) (T := T_MD) (N := 13) hx hb ht i_MD hown F.2.1 hP 0 rfl rfl 2 (by decide) (ht _ tw_472) (fun _ h9 => h9) rfl d_MD_restrict_41 ?_
          refine lv_iload_n hx hb d_MD_restrict_44 rfl (lv_at hl 3 rfl) ?_
          refine ra_Z hx hb F hP 2 rfl (by omega) (by decide) d_MD_restrict_45 ?_
          refine lv_if_eq (tgt := 53) hx hb d_MD_restrict_46 (by decide) (fun c46 => ?_) (fun c46 => ?_)
          · refine lv_iconst (v := nI 2) hx hb d_MD_restrict_53 (by decide) ?_
            refine va_put (ci := 4) (v := .int (nI 2)) (ty := .int) (C := R_MD) (T := T_MD) (N := 13) hx hb ht i_MD t_MD t_MD_ok n_MD hown F.2.1 hP hD hS 0 rfl rfl 0 (by decide) (ht _ tw_470) (fun _ h9 => h9) rfl (by decide +kernel) rfl rfl (Nat.le_of_ble_eq_true rfl) d_MD_restrict_54 (fun H locs hP hD hS => ?_)
            have hP : va_P g.1 cl (MW g ma (nI 2) tb hm oo kp td tt ct fd os oq vs sk ++ X) H := hP
            have hD : va_D (gA g) (MW g ma (nI 2) tb hm oo kp td tt ct fd os oq vs sk ++ X) := hD
            refine lv_aload_n hx hb d_MD_restrict_57 rfl (lv_at hl 1 rfl) ?_
            refine va_get (ci := 4) (v := .int (nI 2)) (C := R_MD) (T := T_MD) (N := 13) hx hb ht i_MD hown F.2.1 hP 0 rfl rfl 0 (by decide) (ht _ tw_470) (fun _ h9 => h9) rfl d_MD_restrict_58 ?_
            refine rz_ne (tgt := 91) hx hb (by omega) d_MD_restrict_61 (by decide) (fun c61 => ?_) (fun c61 => ?_)
            · exact W.vret hx hb hr (fun t9 e1 hW => ⟨⟨(), rfl, trivial, PR.at F hP hD hS e1 hW.alike⟩, hS.F e1⟩) hS.2.2 d_MD_restrict_91
            · exact (by omega : False).elim
          · exact (hbad ((h9 a (by omega)).resolve_left c46)).elim
        · exact (by omega : False).elim
set_option maxRecDepth 100000 in
set_option maxHeartbeats 4000000 in
theorem c_MD_compose (l : Launch) (g : Gx) (ma : Nat → Nat) (cd : Int32) (tb : Nat → Int64) (hm : Nat → Int32) (oo : Nat → Int32) (kp : Nat → Int32) (td : Int32) (tt : Nat → Int32) (ct : Int32) (fd : Nat → Int64) (os : Int32) (oq : Nat → Int32) (vs : Int32) (sk : Nat → Int64) (X : va_W) (r a v b : Nat) (g_r : r < 8) (g_a : a < 8) (g_v : v < 6) (g_b : b < 8) (e_a : hm a = 1) (e_b : hm b = 1) : Met l y_MD_compose (w_MD_compose :: TW) rm_MD_compose (va_Pc [.ref (ma 0), .int (nI r), .int (nI a), .int (nI v), .int (nI b)] (PR g (MW g ma cd tb hm oo kp td tt ct fd os oq vs sk ++ X))) (va_Qv (fun (u9 : Unit) => True) (fun u9 t9 => PR g (MW g ma (nI 0) (vp_updL tb r (CH (tb b) (W1 (tb a) v) (W0 (tb a) v))) (upd hm r (nI 1)) oo kp td tt ct fd os oq vs sk ++ X) t9) (gA g)) 0 0 (gA g) := by
  refine mt_of (by decide) (Nat.le_of_ble_eq_true rfl) ?_
  intro p e s m below meth c ls hx hb hr hml hlk hown ht hnm F hP hD hl
  have hl : lv_has ls 6 [(0, .ref (ma 0)), (1, .int (nI r)), (2, .int (nI a)), (3, .int (nI v)), (4, .int (nI b))] := hl
  have hS : va_S (gA g) s.heap s.heap [] := va_S.rf
  refine lv_iload_n hx hb d_MD_compose_0 rfl (lv_at hl 1 rfl) ?_
  refine pc_Si (As := [.int (nI r)]) (rest := []) hx hb (hml.trans hl.1.symm) hown ht F hP hD hS (c_MD_isRegister l g (MW g ma cd tb hm oo kp td tt ct fd os oq vs sk ++ X) r (by omega)) v_MD_isRegister tw_518 ⟨rfl, rfl⟩ ⟨by decide, by decide⟩ rfl rfl (Nat.le_of_ble_eq_true rfl) ⟨Nat.zero_le _, Nat.zero_le _⟩ d_MD_compose_1 (fun r9 u9 H locs hq hP hD hS => ?_)
  subst hq
  refine rz_eq (tgt := 35) hx hb (by omega) d_MD_compose_4 (by decide) (fun c4 => ?_) (fun c4 => ?_)
  · exact (by omega : False).elim
  · refine lv_iload_n hx hb d_MD_compose_7 rfl (lv_at hl 2 rfl) ?_
    refine pc_Si (As := [.int (nI a)]) (rest := []) hx hb (hml.trans hl.1.symm) hown ht F hP hD hS (c_MD_isRegister l g (MW g ma cd tb hm oo kp td tt ct fd os oq vs sk ++ X) a (by omega)) v_MD_isRegister tw_518 ⟨rfl, rfl⟩ ⟨by decide, by decide⟩ rfl rfl (Nat.le_of_ble_eq_true rfl) ⟨Nat.zero_le _, Nat.zero_le _⟩ d_MD_compose_8 (fun r9 u9 H locs hq hP hD hS => ?_)
    subst hq
    refine rz_eq (tgt := 35) hx hb (by omega) d_MD_compose_11 (by decide) (fun c11 => ?_) (fun c11 => ?_)
    · exact (by omega : False).elim
    · refine lv_iload_n hx hb d_MD_compose_14 rfl (lv_at hl 3 rfl) ?_
      refine lv_iconst (v := nI 0) hx hb d_MD_compose_15 (by decide) ?_
      refine lv_iconst (v := nI 5) hx hb d_MD_compose_16 (by decide) ?_
      refine pc_Si (As := [.int (nI v), .int (nI 0), .int (nI 5)]) (rest := []) hx hb (hml.trans hl.1.symm) hown ht F hP hD hS (c_MD_within l g (MW g ma cd tb hm oo kp td tt ct fd os oq vs sk ++ X) v 0 5 (by omega) (by omega) (by omega)) v_MD_within tw_521 ⟨rfl, rfl⟩ ⟨by decide, by decide⟩ rfl rfl (Nat.le_of_ble_eq_true rfl) ⟨Nat.zero_le _, Nat.zero_le _⟩ d_MD_compose_17 (fun r9 u9 H locs hq hP hD hS => ?_)
      subst hq
      refine rz_eq (tgt := 35) hx hb (by omega) d_MD_compose_20 (by decide) (fun c20 => ?_) (fun c20 => ?_)
      · exact (by omega : False).elim
      · refine lv_iload hx hb d_MD_compose_23 (lv_at hl 4 rfl) ?_
        refine pc_Si (As := [.int (nI b)]) (rest := []) hx hb (hml.trans hl.1.symm) hown ht F hP hD hS (c_MD_isRegister l g (MW g ma cd tb hm oo kp td tt ct fd os oq vs sk ++ X) b (by omega)) v_MD_isRegister tw_518 ⟨rfl, rfl⟩ ⟨by decide, by decide⟩ rfl rfl (Nat.le_of_ble_eq_true rfl) ⟨Nat.zero_le _, Nat.zero_le _⟩ d_MD_compose_25 (fun r9 u9 H locs hq hP hD hS => ?_)
        subst hq
        refine rz_eq (tgt := 35) hx hb (by omega) d_MD_compose_28 (by decide) (fun c28 => ?_) (fun c28 => ?_)
        · exact (by omega : False).elim
        · refine lv_iconst (v := nI 1) hx hb d_MD_compose_31 (by decide) ?_
          refine lv_goto (tgt := 36) hx hb d_MD_compose_32 (by decide) ?_
          refine lv_istore (lv' := [(5, .int (nI 1)), (0, .ref (ma 0)), (1, .int (nI r)), (2, .int (nI a)), (3, .int (nI v)), (4, .int (nI b))]) hx hb d_MD_compose_36 hl (by decide) rfl (fun ls hl => ?_)
          refine lv_aload_n hx hb d_MD_compose_38 rfl (lv_at hl 1 rfl) ?_
          refine lv_iload hx hb d_MD_compose_39 (lv_at hl 0 rfl) ?_
          refine rz_ne (tgt := 48) hx hb (by omega) d_MD_compose_41 (by decide) (fun c41 => ?_) (fun c41 => ?_)
          · refine lv_aload_n hx hb d_MD_compose_48 rfl (lv_at hl 1 rfl) ?_
            refine va_get (ci := 4) (v := .ref (ma 2)) (C := R_MD) (T := T_MD) (N := 13) hx hb ht i_MD hown F.2.1 hP 0 rfl rfl 2 (by decide) (ht _ tw_472) (fun _ h9 => h9) rfl d_MD_compose_49 ?_
            refine lv_iload_n hx hb d_MD_compose_52 rfl (lv_at hl 3 rfl) ?_
            refine ra_Z hx hb F hP 2 rfl (by omega) (by decide) d_MD_compose_53 ?_
            refine lv_if_eq (tgt := 71) hx hb d_MD_compose_54 (by decide) (fun c54 => ?_) (fun c54 => ?_)
            · exact absurd (e_a.symm.trans c54) (by decide)
            · refine lv_aload_n hx hb d_MD_compose_57 rfl (lv_at hl 1 rfl) ?_
              refine va_get (ci := 4) (v := .ref (ma 2)) (C := R_MD) (T := T_MD) (N := 13) hx hb ht i_MD hown F.2.1 hP 0 rfl rfl 2 (by decide) (ht _ tw_472) (fun _ h9 => h9) rfl d_MD_compose_58 ?_
              refine lv_iload hx hb d_MD_compose_61 (lv_at hl 5 rfl) ?_
              refine ra_Z hx hb F hP 2 rfl (by omega) (by decide) d_MD_compose_63 ?_
              refine lv_if_eq (tgt := 71) hx hb d_MD_compose_64 (by decide) (fun c64 => ?_) (fun c64 => ?_)
              · exact absurd (e_b.symm.trans c64) (by decide)
              · refine lv_iconst (v := nI 0) hx hb d_MD_compose_67 (by decide) ?_
                refine lv_goto (tgt := 72) hx hb d_MD_compose_68 (by decide) ?_
                refine va_put (ci := 4) (v := .int (nI 0)) (ty := .int) (C := R_MD) (T := T_MD) (N := 13) hx hb ht i_MD t_MD t_MD_ok n_MD hown F.2.1 hP hD hS 0 rfl rfl 0 (by decide) (ht _ tw_470) (fun _ h9 => h9) rfl (by decide +kernel) rfl rfl (Nat.le_of_ble_eq_true rfl) d_MD_compose_72 (fun H locs hP hD hS => ?_)
                have hP : va_P g.1 cl (MW g ma (nI 0) tb hm oo kp td tt ct fd os oq vs sk ++ X) H := hP
                have hD : va_D (gA g) (MW g ma (nI 0) tb hm oo kp td tt ct fd os oq vs sk ++ X) := hD
                refine lv_aload_n hx hb d_MD_compose_75 rfl (lv_at hl 1 rfl) ?_
                refine va_get (ci := 4) (v := .int (nI 0)) (C := R_MD) (T := T_MD) (N := 13) hx hb ht i_MD hown F.2.1 hP 0 rfl rfl 0 (by decide) (ht _ tw_470) (fun _ h9 => h9) rfl d_MD_compose_76 ?_
                refine rz_ne (tgt := 104) hx hb (by omega) d_MD_compose_79 (by decide) (fun c79 => ?_) (fun c79 => ?_)
                · exact (by omega : False).elim
                · refine lv_aload_n hx hb d_MD_compose_82 rfl (lv_at hl 1 rfl) ?_
                  refine lv_iload_n hx hb d_MD_compose_83 rfl (lv_at hl 2 rfl) ?_
                  refine lv_aload_n hx hb d_MD_compose_84 rfl (lv_at hl 1 rfl) ?_
                  refine va_get (ci := 4) (v := .ref (ma 1)) (C := R_MD) (T := T_MD) (N := 13) hx hb ht i_MD hown F.2.1 hP 0 rfl rfl 1 (by decide) (ht _ tw_471) (fun _ h9 => h9) rfl d_MD_compose_85 ?_
                  refine lv_iload_n hx hb d_MD_compose_88 rfl (lv_at hl 3 rfl) ?_
                  refine ra_J hx hb F hP 1 rfl (by omega) (by decide) d_MD_compose_89 ?_
                  refine lv_iload_n hx hb d_MD_compose_90 rfl (lv_at hl 4 rfl) ?_
                  refine lv_aload_n hx hb d_MD_compose_91 rfl (lv_at hl 1 rfl) ?_
                  refine va_get (ci := 4) (v := .ref (ma 1)) (C := R_MD) (T := T_MD) (N := 13) hx hb ht i_MD hown F.2.1 hP 0 rfl rfl 1 (by decide) (ht _ tw_471) (fun _ h9 => h9) rfl d_MD_compose_92 ?_
                  refine lv_iload hx hb d_MD_compose_95 (lv_at hl 5 rfl) ?_
                  refine ra_J hx hb F hP 1 rfl (by omega) (by decide) d_MD_compose_97 ?_
                  refine pc_Sl (As := [.long (tb a), .int (nI v), .long (tb b)]) (rest := [.int (nI r), .ref (ma 0)]) hx hb (hml.trans hl.1.symm) hown ht F hP hD hS (c_MD_with l g (MW g ma (nI 0) tb hm oo kp td tt ct fd os oq vs sk ++ X) (tb a) v (tb b) (by omega)) v_MD_with tw_547 ⟨rfl, rfl⟩ ⟨by decide, by decide⟩ rfl rfl (Nat.le_of_ble_eq_true rfl) ⟨Nat.zero_le _, Nat.zero_le _⟩ d_MD_compose_98 (fun r9 u9 H locs hq hP hD hS => ?_)
                  subst hq
                  refine pc_Vv (q0 := 0) (As := [.int (nI r), .long (CH (tb b) (W1 (tb a) v) (W0 (tb a) v))]) (rest := []) hx hb (hml.trans hl.1.symm) hown ht F hP hD hS (c_MD_put l g ma (nI 0) tb hm oo kp td tt ct fd os oq vs sk X r (CH (tb b) (W1 (tb a) v) (W0 (tb a) v)) (by omega)) v_MD_put tw_528 ⟨rfl, rfl⟩ ⟨by decide, by decide⟩ rfl rfl rfl rfl (Nat.le_of_ble_eq_true rfl) ⟨Nat.zero_le _, Nat.zero_le _⟩ d_MD_compose_101 (fun u9 H locs hq hP hD hS => ?_)
                  have hP : va_P g.1 cl (MW g ma (nI 0) (vp_updL tb r (CH (tb b) (W1 (tb a) v) (W0 (tb a) v))) (upd hm r (nI 1)) oo kp td tt ct fd os oq vs sk ++ X) H := hP
                  have hD : va_D (gA g) (MW g ma (nI 0) (vp_updL tb r (CH (tb b) (W1 (tb a) v) (W0 (tb a) v))) (upd hm r (nI 1)) oo kp td tt ct fd os oq vs sk ++ X) := hD
                  exact W.vret hx hb hr (fun t9 e1 hW => ⟨⟨(), rfl, trivial, PR.at F hP hD hS e1 hW.alike⟩, hS.F e1⟩) hS.2.2 d_MD_compose_104
          · exact (by omega : False).elim
set_option maxRecDepth 100000 in
set_option maxHeartbeats 4000000 in
theorem c1_MD_compose (l : Launch) (g : Gx) (ma : Nat → Nat) (cd : Int32) (tb : Nat → Int64) (hm : Nat → Int32) (oo : Nat → Int32) (kp : Nat → Int32) (td : Int32) (tt : Nat → Int32) (ct : Int32) (fd : Nat → Int64) (os : Int32) (oq : Nat → Int32) (vs : Int32) (sk : Nat → Int64) (X : va_W) (r : Int32) (a : Int32) (v : Int32) (b : Int32) (hbad : ¬ (inR r 8 ∧ inR a 8 ∧ inR v 6 ∧ inR b 8)) : Met l y_MD_compose (w_MD_compose :: TW) rm_MD_compose (va_Pc [.ref (ma 0), .int r, .int a, .int v, .int b] (PR g (MW g ma cd tb hm oo kp td tt ct fd os oq vs sk ++ X))) (va_Qv (fun (u9 : Unit) => True) (fun u9 t9 => PR g (MW g ma (nI 1) tb hm oo kp td tt ct fd os oq vs sk ++ X) t9) (gA g)) 0 0 (gA g) := by
  refine mt_of (by decide) (Nat.le_of_ble_eq_true rfl) ?_
  intro p e s m below meth c ls hx hb hr hml hlk hown ht hnm F hP hD hl
  have hl : lv_has ls 6 [(0, .ref (ma 0)), (1, .int r), (2, .int a), (3, .int v), (4, .int b)] := hl
  have hS : va_S (gA g) s.heap s.heap [] := va_S.rf
  refine lv_iload_n hx hb d_MD_compose_0 rfl (lv_at hl 1 rfl) ?_
  by_cases q1 : inR r 8
  · obtain ⟨k_r, hk_r, rfl⟩ := q1
    refine pc_Si (As := [.int (nI k_r)]) (rest := []) hx hb (hml.trans hl.1.symm) hown ht F hP hD hS (c_MD_isRegister l g (MW g ma cd tb hm oo kp td tt ct fd os oq vs sk ++ X) k_r (by omega)) v_MD_isRegister tw_518 ⟨rfl, rfl⟩ ⟨by decide, by decide⟩ rfl rfl (Nat.le_of_ble_eq_true rfl) ⟨Nat.zero_le _, Nat.zero_le _⟩ d_MD_compose_1 (fun r9 u9 H locs hq hP hD hS => ?_)
    subst hq
    refine rz_eq (tgt := 35) hx hb (by omega) d_MD_compose_4 (by decide) (fun c4 => ?_) (fun c4 => ?_)
    · exact (by omega : False).elim
    · refine lv_iload_n hx hb d_MD_compose_7 rfl (lv_at hl 2 rfl) ?_
      by_cases q8 : inR a 8
      · obtain ⟨k_a, hk_a, rfl⟩ := q8
        refine pc_Si (As := [.int (nI k_a)]) (rest := []) hx hb (hml.trans hl.1.symm) hown ht F hP hD hS (c_MD_isRegister l g (MW g ma cd tb hm oo kp td tt ct fd os oq vs sk ++ X) k_a (by omega)) v_MD_isRegister tw_518 ⟨rfl, rfl⟩ ⟨by decide, by decide⟩ rfl rfl (Nat.le_of_ble_eq_true rfl) ⟨Nat.zero_le _, Nat.zero_le _⟩ d_MD_compose_8 (fun r9 u9 H locs hq hP hD hS => ?_)
        subst hq
        refine rz_eq (tgt := 35) hx hb (by omega) d_MD_compose_11 (by decide) (fun c11 => ?_) (fun c11 => ?_)
        · exact (by omega : False).elim
        · refine lv_iload_n hx hb d_MD_compose_14 rfl (lv_at hl 3 rfl) ?_
          refine lv_iconst (v := nI 0) hx hb d_MD_compose_15 (by decide) ?_
          refine lv_iconst (v := nI 5) hx hb d_MD_compose_16 (by decide) ?_
          by_cases q17 : inR v 6
          · obtain ⟨k_v, hk_v, rfl⟩ := q17
            refine pc_Si (As := [.int (nI k_v), .int (nI 0), .int (nI 5)]) (rest := []) hx hb (hml.trans hl.1.symm) hown ht F hP hD hS (c_MD_within l g (MW g ma cd tb hm oo kp td tt ct fd os oq vs sk ++ X) k_v 0 5 (by omega) (by omega) (by omega)) v_MD_within tw_521 ⟨rfl, rfl⟩ ⟨by decide, by decide⟩ rfl rfl (Nat.le_of_ble_eq_true rfl) ⟨Nat.zero_le _, Nat.zero_le _⟩ d_MD_compose_17 (fun r9 u9 H locs hq hP hD hS => ?_)
            subst hq
            refine rz_eq (tgt := 35) hx hb (by omega) d_MD_compose_20 (by decide) (fun c20 => ?_) (fun c20 => ?_)
            · exact (by omega : False).elim
            · refine lv_iload hx hb d_MD_compose_23 (lv_at hl 4 rfl) ?_
              by_cases q25 : inR b 8
              · exact (hbad ⟨inR_nI hk_r, inR_nI hk_a, inR_nI hk_v, q25⟩).elim
              · refine pc_Si (As := [.int b]) (rest := []) hx hb (hml.trans hl.1.symm) hown ht F hP hD hS (c_MD_isRegister_0 l g (MW g ma cd tb hm oo kp td tt ct fd os oq vs sk ++ X) b q25) v_MD_isRegister tw_518 ⟨rfl, rfl⟩ ⟨by decide, by decide⟩ rfl rfl (Nat.le_of_ble_eq_true rfl) ⟨Nat.zero_le _, Nat.zero_le _⟩ d_MD_compose_25 (fun r9 u9 H locs hq hP hD hS => ?_)
                subst hq
                refine rz_eq (tgt := 35) hx hb (by omega) d_MD_compose_28 (by decide) (fun c28 => ?_) (fun c28 => ?_)
                · refine lv_iconst (v := nI 0) hx hb d_MD_compose_35 (by decide) ?_
                  refine lv_istore (lv' := [(5, .int (nI 0)), (0, .ref (ma 0)), (1, .int (nI k_r)), (2, .int (nI k_a)), (3, .int (nI k_v)), (4, .int b)]) hx hb d_MD_compose_36 hl (by decide) rfl (fun ls hl => ?_)
                  refine lv_aload_n hx hb d_MD_compose_38 rfl (lv_at hl 1 rfl) ?_
                  refine lv_iload hx hb d_MD_compose_39 (lv_at hl 0 rfl) ?_
                  refine rz_ne (tgt := 48) hx hb (by omega) d_MD_compose_41 (by decide) (fun c41 => ?_) (fun c41 => ?_)
                  · exact (by omega : False).elim
                  · refine lv_iconst (v := nI 1) hx hb d_MD_compose_44 (by decide) ?_
                    refine lv_goto (tgt := 72) hx hb d_MD_compose_45 (by decide) ?_
                    refine va_put (ci := 4) (v := .int (nI 1)) (ty := .int) (C := R_MD) (T := T_MD) (N := 13) hx hb ht i_MD t_MD t_MD_ok n_MD hown F.2.1 hP hD hS 0 rfl rfl 0 (by decide) (ht _ tw_470) (fun _ h9 => h9) rfl (by decide +kernel) rfl rfl (Nat.le_of_ble_eq_true rfl) d_MD_compose_72 (fun H locs hP hD hS => ?_)
                    have hP : va_P g.1 cl (MW g ma (nI 1) tb hm oo kp td tt ct fd os oq vs sk ++ X) H := hP
                    have hD : va_D (gA g) (MW g ma (nI 1) tb hm oo kp td tt ct fd os oq vs sk ++ X) := hD
                    refine lv_aload_n hx hb d_MD_compose_75 rfl (lv_at hl 1 rfl) ?_
                    refine va_get (ci := 4) (v := .int (nI 1)) (C := R_MD) (T := T_MD) (N := 13) hx hb ht i_MD hown F.2.1 hP 0 rfl rfl 0 (by decide) (ht _ tw_470) (fun _ h9 => h9) rfl d_MD_compose_76 ?_
                    refine rz_ne (tgt := 104) hx hb (by omega) d_MD_compose_79 (by decide) (fun c79 => ?_) (fun c79 => ?_)
                    · exact W.vret hx hb hr (fun t9 e1 hW => ⟨⟨(), rfl, trivial, PR.at F hP hD hS e1 hW.alike⟩, hS.F e1⟩) hS.2.2 d_MD_compose_104
                    · exact (by omega : False).elim
                · exact (by omega : False).elim
          · refine pc_Si (As := [.int v, .int (nI 0), .int (nI 5)]) (rest := []) hx hb (hml.trans hl.1.symm) hown ht F hP hD hS (c_MD_within_0 l g (MW g ma cd tb hm oo kp td tt ct fd os oq vs sk ++ X) v 0 5 (fun h => q17 (inR_le h)) (by decide) (by decide)) v_MD_within tw_521 ⟨rfl, rfl⟩ ⟨by decide, by decide⟩ rfl rfl (Nat.le_of_ble_eq_true rfl) ⟨Nat.zero_le _, Nat.zero_le _⟩ d_MD_compose_17 (fun r9 u9 H locs hq hP hD hS => ?_)
            subst hq
            refine rz_eq (tgt := 35) hx hb (by omega) d_MD_compose_20 (by decide) (fun c20 => ?_) (fun c20 => ?_)
            · refine lv_iconst (v := nI 0) hx hb d_MD_compose_35 (by decide) ?_
              refine lv_istore (lv' := [(5, .int (nI 0)), (0, .ref (ma 0)), (1, .int (nI k_r)), (2, .int (nI k_a)), (3, .int v), (4, .int b)]) hx hb d_MD_compose_36 hl (by decide) rfl (fun ls hl => ?_)
              refine lv_aload_n hx hb d_MD_compose_38 rfl (lv_at hl 1 rfl) ?_
              refine lv_iload hx hb d_MD_compose_39 (lv_at hl 0 rfl) ?_
              refine rz_ne (tgt := 48) hx hb (by omega) d_MD_compose_41 (by decide) (fun c41 => ?_) (fun c41 => ?_)
              · exact (by omega : False).elim
              · refine lv_iconst (v := nI 1) hx hb d_MD_compose_44 (by decide) ?_
                refine lv_goto (tgt := 72) hx hb d_MD_compose_45 (by decide) ?_
                refine va_put (ci := 4) (v := .int (nI 1)) (ty := .int) (C := R_MD) (T := T_MD) (N := 13) hx hb ht i_MD t_MD t_MD_ok n_MD hown F.2.1 hP hD hS 0 rfl rfl 0 (by decide) (ht _ tw_470) (fun _ h9 => h9) rfl (by decide +kernel) rfl rfl (Nat.le_of_ble_eq_true rfl) d_MD_compose_72 (fun H locs hP hD hS => ?_)
                have hP : va_P g.1 cl (MW g ma (nI 1) tb hm oo kp td tt ct fd os oq vs sk ++ X) H := hP
                have hD : va_D (gA g) (MW g ma (nI 1) tb hm oo kp td tt ct fd os oq vs sk ++ X) := hD
                refine lv_aload_n hx hb d_MD_compose_75 rfl (lv_at hl 1 rfl) ?_
                refine va_get (ci := 4) (v := .int (nI 1)) (C := R_MD) (T := T_MD) (N := 13) hx hb ht i_MD hown F.2.1 hP 0 rfl rfl 0 (by decide) (ht _ tw_470) (fun _ h9 => h9) rfl d_MD_compose_76 ?_
                refine rz_ne (tgt := 104) hx hb (by omega) d_MD_compose_79 (by decide) (fun c79 => ?_) (fun c79 => ?_)
                · exact W.vret hx hb hr (fun t9 e1 hW => ⟨⟨(), rfl, trivial, PR.at F hP hD hS e1 hW.alike⟩, hS.F e1⟩) hS.2.2 d_MD_compose_104
                · exact (by omega : False).elim
            · exact (by omega : False).elim
      · refine pc_Si (As := [.int a]) (rest := []) hx hb (hml.trans hl.1.symm) hown ht F hP hD hS (c_MD_isRegister_0 l g (MW g ma cd tb hm oo kp td tt ct fd os oq vs sk ++ X) a q8) v_MD_isRegister tw_518 ⟨rfl, rfl⟩ ⟨by decide, by decide⟩ rfl rfl (Nat.le_of_ble_eq_true rfl) ⟨Nat.zero_le _, Nat.zero_le _⟩ d_MD_compose_8 (fun r9 u9 H locs hq hP hD hS => ?_)
        subst hq
        refine rz_eq (tgt := 35) hx hb (by omega) d_MD_compose_11 (by decide) (fun c11 => ?_) (fun c11 => ?_)
        · refine lv_iconst (v := nI 0) hx hb d_MD_compose_35 (by decide) ?_
          refine lv_istore (lv' := [(5, .int (nI 0)), (0, .ref (ma 0)), (1, .int (nI k_r)), (2, .int a), (3, .int v), (4, .int b)]) hx hb d_MD_compose_36 hl (by decide) rfl (fun ls hl => ?_)
          refine lv_aload_n hx hb d_MD_compose_38 rfl (lv_at hl 1 rfl) ?_
          refine lv_iload hx hb d_MD_compose_39 (lv_at hl 0 rfl) ?_
          refine rz_ne (tgt := 48) hx hb (by omega) d_MD_compose_41 (by decide) (fun c41 => ?_) (fun c41 => ?_)
          · exact (by omega : False).elim
          · refine lv_iconst (v := nI 1) hx hb d_MD_compose_44 (by decide) ?_
            refine lv_goto (tgt := 72) hx hb d_MD_compose_45 (by decide) ?_
            refine va_put (ci := 4) (v := .int (nI 1)) (ty := .int) (C := R_MD) (T := T_MD) (N := 13) hx hb ht i_MD t_MD t_MD_ok n_MD hown F.2.1 hP hD hS 0 rfl rfl 0 (by decide) (ht _ tw_470) (fun _ h9 => h9) rfl (by decide +kernel) rfl rfl (Nat.le_of_ble_eq_true rfl) d_MD_compose_72 (fun H locs hP hD hS => ?_)
            have hP : va_P g.1 cl (MW g ma (nI 1) tb hm oo kp td tt ct fd os oq vs sk ++ X) H := hP
            have hD : va_D (gA g) (MW g ma (nI 1) tb hm oo kp td tt ct fd os oq vs sk ++ X) := hD
            refine lv_aload_n hx hb d_MD_compose_75 rfl (lv_at hl 1 rfl) ?_
            refine va_get (ci := 4) (v := .int (nI 1)) (C := R_MD) (T := T_MD) (N := 13) hx hb ht i_MD hown F.2.1 hP 0 rfl rfl 0 (by decide) (ht _ tw_470) (fun _ h9 => h9) rfl d_MD_compose_76 ?_
            refine rz_ne (tgt := 104) hx hb (by omega) d_MD_compose_79 (by decide) (fun c79 => ?_) (fun c79 => ?_)
            · exact W.vret hx hb hr (fun t9 e1 hW => ⟨⟨(), rfl, trivial, PR.at F hP hD hS e1 hW.alike⟩, hS.F e1⟩) hS.2.2 d_MD_compose_104
            · exact (by omega : False).elim
        · exact (by omega : False).elim
  · refine pc_Si (As := [.int r]) (rest := []) hx hb (hml.trans hl.1.symm) hown ht F hP hD hS (c_MD_isRegister_0 l g (MW g ma cd tb hm oo kp td tt ct fd os oq vs sk ++ X) r q1) v_MD_isRegister tw_518 ⟨rfl, rfl⟩ ⟨by decide, by decide⟩ rfl rfl (Nat.le_of_ble_eq_true rfl) ⟨Nat.zero_le _, Nat.zero_le _⟩ d_MD_compose_1 (fun r9 u9 H locs hq hP hD hS => ?_)
    subst hq
    refine rz_eq (tgt := 35) hx hb (by omega) d_MD_compose_4 (by decide) (fun c4 => ?_) (fun c4 => ?_)
    · refine lv_iconst (v := nI 0) hx hb d_MD_compose_35 (by decide) ?_
      refine lv_istore (lv' := [(5, .int (nI 0)), (0, .ref (ma 0)), (1, .int r), (2, .int a), (3, .int v), (4, .int b)]) hx hb d_MD_compose_36 hl (by decide) rfl (fun ls hl => ?_)
      refine lv_aload_n hx hb d_MD_compose_38 rfl (lv_at hl 1 rfl) ?_
      refine lv_iload hx hb d_MD_compose_39 (lv_at hl 0 rfl) ?_
      refine rz_ne (tgt := 48) hx hb (by omega) d_MD_compose_41 (by decide) (fun c41 => ?_) (fun c41 => ?_)
      · exact (by omega : False).elim
      · refine lv_iconst (v := nI 1) hx hb d_MD_compose_44 (by decide) ?_
        refine lv_goto (tgt := 72) hx hb d_MD_compose_45 (by decide) ?_
        refine va_put (ci := 4) (v := .int (nI 1)) (ty := .int) (C := R_MD) (T := T_MD) (N := 13) hx hb ht i_MD t_MD t_MD_ok n_MD hown F.2.1 hP hD hS 0 rfl rfl 0 (by decide) (ht _ tw_470) (fun _ h9 => h9) rfl (by decide +kernel) rfl rfl (Nat.le_of_ble_eq_true rfl) d_MD_compose_72 (fun H locs hP hD hS => ?_)
        have hP : va_P g.1 cl (MW g ma (nI 1) tb hm oo kp td tt ct fd os oq vs sk ++ X) H := hP
        have hD : va_D (gA g) (MW g ma (nI 1) tb hm oo kp td tt ct fd os oq vs sk ++ X) := hD
        refine lv_aload_n hx hb d_MD_compose_75 rfl (lv_at hl 1 rfl) ?_
        refine va_get (ci := 4) (v := .int (nI 1)) (C := R_MD) (T := T_MD) (N := 13) hx hb ht i_MD hown F.2.1 hP 0 rfl rfl 0 (by decide) (ht _ tw_470) (fun _ h9 => h9) rfl d_MD_compose_76 ?_
        refine rz_ne (tgt := 104) hx hb (by omega) d_MD_compose_79 (by decide) (fun c79 => ?_) (fun c79 => ?_)
        · exact W.vret hx hb hr (fun t9 e1 hW => ⟨⟨(), rfl, trivial, PR.at F hP hD hS e1 hW.alike⟩, hS.F e1⟩) hS.2.2 d_MD_compose_104
        · exact (by omega : False).elim
    · exact (by omega : False).elim
set_option maxRecDepth 100000 in
set_option maxHeartbeats 4000000 in
theorem c2_MD_compose (l : Launch) (g : Gx) (ma : Nat → Nat) (cd : Int32) (tb : Nat → Int64) (hm : Nat → Int32) (oo : Nat → Int32) (kp : Nat → Int32) (td : Int32) (tt : Nat → Int32) (ct : Int32) (fd : Nat → Int64) (os : Int32) (oq : Nat → Int32) (vs : Int32) (sk : Nat → Int64) (X : va_W) (r a v b : Nat) (g_r : r < 8) (g_a : a < 8) (g_v : v < 6) (g_b : b < 8) (h9 : ∀ i, i < 8 → hm i = 0 ∨ hm i = 1) (hbad : ¬ (hm a = 1 ∧ hm b = 1)) : Met l y_MD_compose (w_MD_compose :: TW) rm_MD_compose (va_Pc [.ref (ma 0), .int (nI r), .int (nI a), .int (nI v), .int (nI b)] (PR g (MW g ma cd tb hm oo kp td tt ct fd os oq vs sk ++ X))) (va_Qv (fun (u9 : Unit) => True) (fun u9 t9 => PR g (MW g ma (nI 2) tb hm oo kp td tt ct fd os oq vs sk ++ X) t9) (gA g)) 0 0 (gA g) := by
  refine mt_of (by decide) (Nat.le_of_ble_eq_true rfl) ?_
  intro p e s m below meth c ls hx hb hr hml hlk hown ht hnm F hP hD hl
  have hl : lv_has ls 6 [(0, .ref (ma 0)), (1, .int (nI r)), (2, .int (nI a)), (3, .int (nI v)), (4, .int (nI b))] := hl
  have hS : va_S (gA g) s.heap s.heap [] := va_S.rf
  refine lv_iload_n hx hb d_MD_compose_0 rfl (lv_at hl 1 rfl) ?_
  refine pc_Si (As := [.int (nI r)]) (rest := []) hx hb (hml.trans hl.1.symm) hown ht F hP hD hS (c_MD_isRegister l g (MW g ma cd tb hm oo kp td tt ct fd os oq vs sk ++ X) r (by omega)) v_MD_isRegister tw_518 ⟨rfl, rfl⟩ ⟨by decide, by decide⟩ rfl rfl (Nat.le_of_ble_eq_true rfl) ⟨Nat.zero_le _, Nat.zero_le _⟩ d_MD_compose_1 (fun r9 u9 H locs hq hP hD hS => ?_)
  subst hq
  refine rz_eq (tgt := 35) hx hb (by omega) d_MD_compose_4 (by decide) (fun c4 => ?_) (fun c4 => ?_)
  · exact (by omega : False).elim
  · refine lv_iload_n hx hb d_MD_compose_7 rfl (lv_at hl 2 rfl) ?_
    refine pc_Si (As := [.int (nI a)]) (rest := []) hx hb (hml.trans hl.1.symm) hown ht F hP hD hS (c_MD_isRegister l g (MW g ma cd tb hm oo kp td tt ct fd os oq vs sk ++ X) a (by omega)) v_MD_isRegister tw_518 ⟨rfl, rfl⟩ ⟨by decide, by decide⟩ rfl rfl (Nat.le_of_ble_eq_true rfl) ⟨Nat.zero_le _, Nat.zero_le _⟩ d_MD_compose_8 (fun r9 u9 H locs hq hP hD hS => ?_)
    subst hq
    refine rz_eq (tgt := 35) hx hb (by omega) d_MD_compose_11 (by decide) (fun c11 => ?_) (fun c11 => ?_)
    · exact (by omega : False).elim
    · refine lv_iload_n hx hb d_MD_compose_14 rfl (lv_at hl 3 rfl) ?_
      refine lv_iconst (v := nI 0) hx hb d_MD_compose_15 (by decide) ?_
      refine lv_iconst (v := nI 5) hx hb d_MD_compose_16 (by decide) ?_
      refine pc_Si (As := [.int (nI v), .int (nI 0), .int (nI 5)]) (rest := []) hx hb (hml.trans hl.1.symm) hown ht F hP hD hS (c_MD_within l g (MW g ma cd tb hm oo kp td tt ct fd os oq vs sk ++ X) v 0 5 (by omega) (by omega) (by omega)) v_MD_within tw_521 ⟨rfl, rfl⟩ ⟨by decide, by decide⟩ rfl rfl (Nat.le_of_ble_eq_true rfl) ⟨Nat.zero_le _, Nat.zero_le _⟩ d_MD_compose_17 (fun r9 u9 H locs hq hP hD hS => ?_)
      subst hq
      refine rz_eq (tgt := 35) hx hb (by omega) d_MD_compose_20 (by decide) (fun c20 => ?_) (fun c20 => ?_)
      · exact (by omega : False).elim
      · refine lv_iload hx hb d_MD_compose_23 (lv_at hl 4 rfl) ?_
        refine pc_Si (As := [.int (nI b)]) (rest := []) hx hb (hml.trans hl.1.symm) hown ht F hP hD hS (c_MD_isRegister l g (MW g ma cd tb hm oo kp td tt ct fd os oq vs sk ++ X) b (by omega)) v_MD_isRegister tw_518 ⟨rfl, rfl⟩ ⟨by decide, by decide⟩ rfl rfl (Nat.le_of_ble_eq_true rfl) ⟨Nat.zero_le _, Nat.zero_le _⟩ d_MD_compose_25 (fun r9 u9 H locs hq hP hD hS => ?_)
        subst hq
        refine rz_eq (tgt := 35) hx hb (by omega) d_MD_compose_28 (by decide) (fun c28 => ?_) (fun c28 => ?_)
        · exact (by omega : False).elim
        · refine lv_iconst (v := nI 1) hx hb d_MD_compose_31 (by decide) ?_
          refine lv_goto (tgt := 36) hx hb d_MD_compose_32 (by decide) ?_
          refine lv_istore (lv' := [(5, .int (nI 1)), (0, .ref (ma 0)), (1, .int (nI r)), (2, .int (nI a)), (3, .int (nI v)), (4, .int (nI b))]) hx hb d_MD_compose_36 hl (by decide) rfl (fun ls hl => ?_)
          refine lv_aload_n hx hb d_MD_compose_38 rfl (lv_at hl 1 rfl) ?_
          refine lv_iload hx hb d_MD_compose_39 (lv_at hl 0 rfl) ?_
          refine rz_ne (tgt := 48) hx hb (by omega) d_MD_compose_41 (by decide) (fun c41 => ?_) (fun c41 => ?_)
          · refine lv_aload_n hx hb d_MD_compose_48 rfl (lv_at hl 1 rfl) ?_
            refine va_get (ci := 4) (v := .ref (ma 2)) (C := R_MD) (T := T_MD) (N := 13) hx hb ht i_MD hown F.2.1 hP 0 rfl rfl 2 (by decide) (ht _ tw_472) (fun _ h9 => h9) rfl d_MD_compose_49 ?_
            refine lv_iload_n hx hb d_MD_compose_52 rfl (lv_at hl 3 rfl) ?_
            refine ra_Z hx hb F hP 2 rfl (by omega) (by decide) d_MD_compose_53 ?_
            refine lv_if_eq (tgt := 71) hx hb d_MD_compose_54 (by decide) (fun c54 => ?_) (fun c54 => ?_)
            · refine lv_iconst (v := nI 2) hx hb d_MD_compose_71 (by decide) ?_
              refine va_put (ci := 4) (v := .int (nI 2)) (ty := .int) (C := R_MD) (T := T_MD) (N := 13) hx hb ht i_MD t_MD t_MD_ok n_MD hown F.2.1 hP hD hS 0 rfl rfl 0 (by decide) (ht _ tw_470) (fun _ h9 => h9) rfl (by decide +kernel) rfl rfl (Nat.le_of_ble_eq_true rfl) d_MD_compose_72 (fun H locs hP hD hS => ?_)
              have hP : va_P g.1 cl (MW g ma (nI 2) tb hm oo kp td tt ct fd os oq vs sk ++ X) H := hP
              have hD : va_D (gA g) (MW g ma (nI 2) tb hm oo kp td tt ct fd os oq vs sk ++ X) := hD
              refine lv_aload_n hx hb d_MD_compose_75 rfl (lv_at hl 1 rfl) ?_
              refine va_get (ci := 4) (v := .int (nI 2)) (C := R_MD) (T := T_MD) (N := 13) hx hb ht i_MD hown F.2.1 hP 0 rfl rfl 0 (by decide) (ht _ tw_470) (fun _ h9 => h9) rfl d_MD_compose_76 ?_
              refine rz_ne (tgt := 104) hx hb (by omega) d_MD_compose_79 (by decide) (fun c79 => ?_) (fun c79 => ?_)
              · exact W.vret hx hb hr (fun t9 e1 hW => ⟨⟨(), rfl, trivial, PR.at F hP hD hS e1 hW.alike⟩, hS.F e1⟩) hS.2.2 d_MD_compose_104
              · exact (by omega : False).elim
            · refine lv_aload_n hx hb d_MD_compose_57 rfl (lv_at hl 1 rfl) ?_
              refine va_get (ci := 4) (v := .ref (ma 2)) (C := R_MD) (T := T_MD) (N := 13) hx hb ht i_MD hown F.2.1 hP 0 rfl rfl 2 (by decide) (ht _ tw_472) (fun _ h9 => h9) rfl d_MD_compose_58 ?_
              refine lv_iload hx hb d_MD_compose_61 (lv_at hl 5 rfl) ?_
              refine ra_Z hx hb F hP 2 rfl (by omega) (by decide) d_MD_compose_63 ?_
              refine lv_if_eq (tgt := 71) hx hb d_MD_compose_64 (by decide) (fun c64 => ?_) (fun c64 => ?_)
              · refine lv_iconst (v := nI 2) hx hb d_MD_compose_71 (by decide) ?_
                refine va_put (ci := 4) (v := .int (nI 2)) (ty := .int) (C := R_MD) (T := T_MD) (N := 13) hx hb ht i_MD t_MD t_MD_ok n_MD hown F.2.1 hP hD hS 0 rfl rfl 0 (by decide) (ht _ tw_470) (fun _ h9 => h9) rfl (by decide +kernel) rfl rfl (Nat.le_of_ble_eq_true rfl) d_MD_compose_72 (fun H locs hP hD hS => ?_)
                have hP : va_P g.1 cl (MW g ma (nI 2) tb hm oo kp td tt ct fd os oq vs sk ++ X) H := hP
                have hD : va_D (gA g) (MW g ma (nI 2) tb hm oo kp td tt ct fd os oq vs sk ++ X) := hD
                refine lv_aload_n hx hb d_MD_compose_75 rfl (lv_at hl 1 rfl) ?_
                refine va_get (ci := 4) (v := .int (nI 2)) (C := R_MD) (T := T_MD) (N := 13) hx hb ht i_MD hown F.2.1 hP 0 rfl rfl 0 (by decide) (ht _ tw_470) (fun _ h9 => h9) rfl d_MD_compose_76 ?_
                refine rz_ne (tgt := 104) hx hb (by omega) d_MD_compose_79 (by decide) (fun c79 => ?_) (fun c79 => ?_)
                · exact W.vret hx hb hr (fun t9 e1 hW => ⟨⟨(), rfl, trivial, PR.at F hP hD hS e1 hW.alike⟩, hS.F e1⟩) hS.2.2 d_MD_compose_104
                · exact (by omega : False).elim
              · exact (hbad ⟨((h9 a (by omega)).resolve_left c54), ((h9 b (by omega)).resolve_left c64)⟩).elim
          · exact (by omega : False).elim
set_option maxRecDepth 100000 in
set_option maxHeartbeats 4000000 in
theorem c_MD_quantify (l : Launch) (g : Gx) (ma : Nat → Nat) (cd : Int32) (tb : Nat → Int64) (hm : Nat → Int32) (oo : Nat → Int32) (kp : Nat → Int32) (td : Int32) (tt : Nat → Int32) (ct : Int32) (fd : Nat → Int64) (os : Int32) (oq : Nat → Int32) (vs : Int32) (sk : Nat → Int64) (X : va_W) (r a k : Nat) (z : Int32) (g_r : r < 8) (g_a : a < 8) (g_k : k < 64) (e_a : hm a = 1) : Met l y_MD_quantify (w_MD_quantify :: TW) rm_MD_quantify (va_Pc [.ref (ma 0), .int (nI r), .int (nI a), .int (nI k), .int z] (PR g (MW g ma cd tb hm oo kp td tt ct fd os oq vs sk ++ X))) (va_Qv (fun (u9 : Unit) => True) (fun u9 t9 => PR g (MW g ma (nI 0) (vp_updL tb r (qnF k z (tb a) 6)) (upd hm r (nI 1)) oo kp td tt ct fd os oq vs sk ++ X) t9) (gA g)) 0 0 (gA g) := by
  refine mt_of (by decide) (Nat.le_of_ble_eq_true rfl) ?_
  intro p e s m below meth c ls hx hb hr hml hlk hown ht hnm F hP hD hl
  have hl : lv_has ls 13 [(0, .ref (ma 0)), (1, .int (nI r)), (2, .int (nI a)), (3, .int (nI k)), (4, .int z)] := hl
  have hS : va_S (gA g) s.heap s.heap [] := va_S.rf
  refine lv_iload_n hx hb d_MD_quantify_0 rfl (lv_at hl 1 rfl) ?_
  refine pc_Si (As := [.int (nI r)]) (rest := []) hx hb (hml.trans hl.1.symm) hown ht F hP hD hS (c_MD_isRegister l g (MW g ma cd tb hm oo kp td tt ct fd os oq vs sk ++ X) r (by omega)) v_MD_isRegister tw_518 ⟨rfl, rfl⟩ ⟨by decide, by decide⟩ rfl rfl (Nat.le_of_ble_eq_true rfl) ⟨Nat.zero_le _, Nat.zero_le _⟩ d_MD_quantify_1 (fun r9 u9 H locs hq hP hD hS => ?_)
  subst hq
  refine rz_eq (tgt := 28) hx hb (by omega) d_MD_quantify_4 (by decide) (fun c4 => ?_) (fun c4 => ?_)
  · exact (by omega : False).elim
  · refine lv_iload_n hx hb d_MD_quantify_7 rfl (lv_at hl 2 rfl) ?_
    refine pc_Si (As := [.int (nI a)]) (rest := []) hx hb (hml.trans hl.1.symm) hown ht F hP hD hS (c_MD_isRegister l g (MW g ma cd tb hm oo kp td tt ct fd os oq vs sk ++ X) a (by omega)) v_MD_isRegister tw_518 ⟨rfl, rfl⟩ ⟨by decide, by decide⟩ rfl rfl (Nat.le_of_ble_eq_true rfl) ⟨Nat.zero_le _, Nat.zero_le _⟩ d_MD_quantify_8 (fun r9 u9 H locs hq hP hD hS => ?_)
    subst hq
    refine rz_eq (tgt := 28) hx hb (by omega) d_MD_quantify_11 (by decide) (fun c11 => ?_) (fun c11 => ?_)
    · exact (by omega : False).elim
    · refine lv_iload_n hx hb d_MD_quantify_14 rfl (lv_at hl 3 rfl) ?_
      refine lv_iconst (v := nI 0) hx hb d_MD_quantify_15 (by decide) ?_
      refine lv_bipush (v := nI 63) hx hb d_MD_quantify_16 (by decide) ?_
      refine pc_Si (As := [.int (nI k), .int (nI 0), .int (nI 63)]) (rest := []) hx hb (hml.trans hl.1.symm) hown ht F hP hD hS (c_MD_within l g (MW g ma cd tb hm oo kp td tt ct fd os oq vs sk ++ X) k 0 63 (by omega) (by omega) (by omega)) v_MD_within tw_521 ⟨rfl, rfl⟩ ⟨by decide, by decide⟩ rfl rfl (Nat.le_of_ble_eq_true rfl) ⟨Nat.zero_le _, Nat.zero_le _⟩ d_MD_quantify_18 (fun r9 u9 H locs hq hP hD hS => ?_)
      subst hq
      refine rz_eq (tgt := 28) hx hb (by omega) d_MD_quantify_21 (by decide) (fun c21 => ?_) (fun c21 => ?_)
      · exact (by omega : False).elim
      · refine lv_iconst (v := nI 1) hx hb d_MD_quantify_24 (by decide) ?_
        refine lv_goto (tgt := 29) hx hb d_MD_quantify_25 (by decide) ?_
        refine lv_istore (lv' := [(5, .int (nI 1)), (0, .ref (ma 0)), (1, .int (nI r)), (2, .int (nI a)), (3, .int (nI k)), (4, .int z)]) hx hb d_MD_quantify_29 hl (by decide) rfl (fun ls hl => ?_)
        refine lv_aload_n hx hb d_MD_quantify_31 rfl (lv_at hl 1 rfl) ?_
        refine lv_iload hx hb d_MD_quantify_32 (lv_at hl 0 rfl) ?_
        refine rz_ne (tgt := 41) hx hb (by omega) d_MD_quantify_34 (by decide) (fun c34 => ?_) (fun c34 => ?_)
        · refine lv_aload_n hx hb d_MD_quantify_41 rfl (lv_at hl 1 rfl) ?_
          refine va_get (ci := 4) (v := .ref (ma 2)) (C := R_MD) (T := T_MD) (N := 13) hx hb ht i_MD hown F.2.1 hP 0 rfl rfl 2 (by decide) (ht _ tw_472) (fun _ h9 => h9) rfl d_MD_quantify_42 ?_
          refine lv_iload_n hx hb d_MD_quantify_45 rfl (lv_at hl 3 rfl) ?_
          refine ra_Z hx hb F hP 2 rfl (by omega) (by decide) d_MD_quantify_46 ?_
          refine lv_if_eq (tgt := 54) hx hb d_MD_quantify_47 (by decide) (fun c47 => ?_) (fun c47 => ?_)
          · exact absurd (e_a.symm.trans c47) (by decide)
          · refine lv_iconst (v := nI 0) hx hb d_MD_quantify_50 (by decide) ?_
            refine lv_goto (tgt := 55) hx hb d_MD_quantify_51 (by decide) ?_
            refine va_put (ci := 4) (v := .int (nI 0)) (ty := .int) (C := R_MD) (T := T_MD) (N := 13) hx hb ht i_MD t_MD t_MD_ok n_MD hown F.2.1 hP hD hS 0 rfl rfl 0 (by decide) (ht _ tw_470) (fun _ h9 => h9) rfl (by decide +kernel) rfl rfl (Nat.le_of_ble_eq_true rfl) d_MD_quantify_55 (fun H locs hP hD hS => ?_)
            have hP : va_P g.1 cl (MW g ma (nI 0) tb hm oo kp td tt ct fd os oq vs sk ++ X) H := hP
            have hD : va_D (gA g) (MW g ma (nI 0) tb hm oo kp td tt ct fd os oq vs sk ++ X) := hD
            refine lv_aload_n hx hb d_MD_quantify_58 rfl (lv_at hl 1 rfl) ?_
            refine va_get (ci := 4) (v := .int (nI 0)) (C := R_MD) (T := T_MD) (N := 13) hx hb ht i_MD hown F.2.1 hP 0 rfl rfl 0 (by decide) (ht _ tw_470) (fun _ h9 => h9) rfl d_MD_quantify_59 ?_
            refine rz_le (tgt := 66) hx hb (by omega) d_MD_quantify_62 (by decide) (fun c62 => ?_) (fun c62 => ?_)
            · refine lv_aload_n hx hb d_MD_quantify_66 rfl (lv_at hl 1 rfl) ?_
              refine va_get (ci := 4) (v := .ref (ma 1)) (C := R_MD) (T := T_MD) (N := 13) hx hb ht i_MD hown F.2.1 hP 0 rfl rfl 1 (by decide) (ht _ tw_471) (fun _ h9 => h9) rfl d_MD_quantify_67 ?_
              refine lv_iload_n hx hb d_MD_quantify_70 rfl (lv_at hl 3 rfl) ?_
              refine ra_J hx hb F hP 1 rfl (by omega) (by decide) d_MD_quantify_71 ?_
              refine lv_lstore (lv' := [(6, .long (tb a)), (5, .int (nI 1)), (0, .ref (ma 0)), (1, .int (nI r)), (2, .int (nI a)), (3, .int (nI k)), (4, .int z)]) hx hb d_MD_quantify_72 hl (by decide) rfl (fun ls hl => ?_)
              refine lv_iconst (v := nI 0) hx hb d_MD_quantify_74 (by decide) ?_
              refine lv_istore (lv' := [(8, .int (nI 0)), (6, .long (tb a)), (5, .int (nI 1)), (0, .ref (ma 0)), (1, .int (nI r)), (2, .int (nI a)), (3, .int (nI k)), (4, .int z)]) hx hb d_MD_quantify_75 hl (by decide) rfl (fun ls hl => ?_)
              have lp77 : ∀ (j77 : Nat) (i : Nat) (H : Heap) (locs : List Loc) (ls : Array Slot), i + j77 = 6 → va_P g.1 cl (MW g ma (nI 0) tb hm oo kp td tt ct fd os oq vs sk ++ X) H → va_D (gA g) (MW g ma (nI 0) tb hm oo kp td tt ct fd os oq vs sk ++ X) → va_S (gA g) s.heap H locs → lv_has ls 13 [(8, .int (nI i)), (6, .long (qnF k z (tb a) i)), (0, .ref (ma 0)), (1, .int (nI r)), (2, .int (nI a)), (3, .int (nI k)), (4, .int z)] → W p l e rm_MD_quantify s m [.ref (ma 0), .int (nI r), .int (nI a), .int (nI k), .int z].toArray below meth c H locs 0 0 (MQ below (va_Qv (fun (u9 : Unit) => True) (fun u9 t9 => PR g (MW g ma (nI 0) (vp_updL tb r (qnF k z (tb a) 6)) (upd hm r (nI 1)) oo kp td tt ct fd os oq vs sk ++ X) t9) (gA g)) [.ref (ma 0), .int (nI r), .int (nI a), .int (nI k), .int z].toArray s 0 0 (gA g)) (F0 m 77 ls []) := by
                intro j77
                induction j77 with
                | zero =>
                  intro i H locs ls hj77 hP hD hS hl
                  refine lv_iload hx hb d_MD_quantify_77 (lv_at hl 0 rfl) ?_
                  refine lv_bipush (v := nI 6) hx hb d_MD_quantify_79 (by decide) ?_
                  refine rc_ge (tgt := 142) hx hb (by omega) (by omega) d_MD_quantify_81 (by decide) (fun c81 => ?_) (fun c81 => ?_)
                  · refine lv_aload_n hx hb d_MD_quantify_142 rfl (lv_at hl 2 rfl) ?_
                    refine lv_iload_n hx hb d_MD_quantify_143 rfl (lv_at hl 3 rfl) ?_
                    refine lv_lload hx hb d_MD_quantify_144 (lv_at hl 1 rfl) ?_
                    refine pc_Vv (q0 := 0) (As := [.int (nI r), .long (qnF k z (tb a) i)]) (rest := []) hx hb (hml.trans hl.1.symm) hown ht F hP hD hS (c_MD_put l g ma (nI 0) tb hm oo kp td tt ct fd os oq vs sk X r (qnF k z (tb a) i) (by omega)) v_MD_put tw_528 ⟨rfl, rfl⟩ ⟨by decide, by decide⟩ rfl rfl rfl rfl (Nat.le_of_ble_eq_true rfl) ⟨Nat.zero_le _, Nat.zero_le _⟩ d_MD_quantify_146 (fun u9 H locs hq hP hD hS => ?_)
                    have hP : va_P g.1 cl (MW g ma (nI 0) (vp_updL tb r (qnF k z (tb a) i)) (upd hm r (nI 1)) oo kp td tt ct fd os oq vs sk ++ X) H := hP
                    have hD : va_D (gA g) (MW g ma (nI 0) (vp_updL tb r (qnF k z (tb a) i)) (upd hm r (nI 1)) oo kp td tt ct fd os oq vs sk ++ X) := hD
                    have hP : va_P g.1 cl (MW g ma (nI 0) (vp_updL tb r (qnF k z (tb a) 6)) (upd hm r (nI 1)) oo kp td tt ct fd os oq vs sk ++ X) H := by obtain rfl : i = 6 := (by omega); exact hP
                    have hD : va_D (gA g) (MW g ma (nI 0) (vp_updL tb r (qnF k z (tb a) 6)) (upd hm r (nI 1)) oo kp td tt ct fd os oq vs sk ++ X) := by obtain rfl : i = 6 := (by omega); exact hD
                    exact W.vret hx hb hr (fun t9 e1 hW => ⟨⟨(), rfl, trivial, PR.at F hP hD hS e1 hW.alike⟩, hS.F e1⟩) hS.2.2 d_MD_quantify_149
                  · exact (by omega : False).elim
                | succ j77 ih77 =>
                  intro i H locs ls hj77 hP hD hS hl
                  refine lv_iload hx hb d_MD_quantify_77 (lv_at hl 0 rfl) ?_
                  refine lv_bipush (v := nI 6) hx hb d_MD_quantify_79 (by decide) ?_
                  refine rc_ge (tgt := 142) hx hb (by omega) (by omega) d_MD_quantify_81 (by decide) (fun c81 => ?_) (fun c81 => ?_)
                  · exact (by omega : False).elim
                  · refine lv_iload_n hx hb d_MD_quantify_84 rfl (lv_at hl 5 rfl) ?_
                    refine lv_iload hx hb d_MD_quantify_85 (lv_at hl 0 rfl) ?_
                    refine lv_ishr hx hb d_MD_quantify_87 ?_
                    refine lv_iconst (v := nI 1) hx hb d_MD_quantify_88 (by decide) ?_
                    refine lv_iand hx hb d_MD_quantify_89 ?_
                    refine lv_iconst (v := nI 1) hx hb d_MD_quantify_90 (by decide) ?_
                    refine lv_icmp_ne (tgt := 136) hx hb d_MD_quantify_91 (by decide) (fun c91 => ?_) (fun c91 => ?_)
                    · refine lv_iinc (lv' := [(8, .int (nI (i + 1))), (6, .long (qnF k z (tb a) i)), (0, .ref (ma 0)), (1, .int (nI r)), (2, .int (nI a)), (3, .int (nI k)), (4, .int z)]) hx hb d_MD_quantify_136 hl (k := 0) rfl (nI_1 _) (by decide) rfl (fun ls hl => ?_)
                      refine lv_goto (tgt := 77) hx hb d_MD_quantify_139 (by decide) ?_
                      have hl := lv_sub hl [0, 1, 2, 3, 4, 5, 6] rfl
                      have hl : lv_has ls 13 [(8, .int (nI ((i + 1)))), (6, .long (qnF k z (tb a) (i + 1))), (0, .ref (ma 0)), (1, .int (nI r)), (2, .int (nI a)), (3, .int (nI k)), (4, .int z)] := by rw [show qnF k z (tb a) (i + 1) = qnF k z (tb a) i from if_neg c91]; exact hl
                      exact ih77 (i + 1) H locs ls (by omega)  hP hD hS hl
                    · refine lv_lload hx hb d_MD_quantify_94 (lv_at hl 1 rfl) ?_
                      refine lv_iload hx hb d_MD_quantify_96 (lv_at hl 0 rfl) ?_
                      refine lv_lconst (v := 0) hx hb d_MD_quantify_98 (by decide) ?_
                      refine pc_Sl (As := [.long (qnF k z (tb a) i), .int (nI i), .long 0]) (rest := []) hx hb (hml.trans hl.1.symm) hown ht F hP hD hS (c_MD_with l g (MW g ma (nI 0) tb hm oo kp td tt ct fd os oq vs sk ++ X) (qnF k z (tb a) i) i 0 (by omega)) v_MD_with tw_547 ⟨rfl, rfl⟩ ⟨by decide, by decide⟩ rfl rfl (Nat.le_of_ble_eq_true rfl) ⟨Nat.zero_le _, Nat.zero_le _⟩ d_MD_quantify_99 (fun r9 u9 H locs hq hP hD hS => ?_)
                      subst hq
                      rw [CH_0]
                      refine lv_lstore (lv' := [(9, .long (W0 (qnF k z (tb a) i) i)), (8, .int (nI i)), (6, .long (qnF k z (tb a) i)), (0, .ref (ma 0)), (1, .int (nI r)), (2, .int (nI a)), (3, .int (nI k)), (4, .int z)]) hx hb d_MD_quantify_102 hl (by decide) rfl (fun ls hl => ?_)
                      refine lv_lload hx hb d_MD_quantify_104 (lv_at hl 2 rfl) ?_
                      refine lv_iload hx hb d_MD_quantify_106 (lv_at hl 1 rfl) ?_
                      refine lv_ldc2 (v := (-1)) hx hb hown (ht _ tw_527) d_MD_quantify_108 ?_
                      refine pc_Sl (As := [.long (qnF k z (tb a) i), .int (nI i), .long (-1)]) (rest := []) hx hb (hml.trans hl.1.symm) hown ht F hP hD hS (c_MD_with l g (MW g ma (nI 0) tb hm oo kp td tt ct fd os oq vs sk ++ X) (qnF k z (tb a) i) i (-1) (by omega)) v_MD_with tw_547 ⟨rfl, rfl⟩ ⟨by decide, by decide⟩ rfl rfl (Nat.le_of_ble_eq_true rfl) ⟨Nat.zero_le _, Nat.zero_le _⟩ d_MD_quantify_111 (fun r9 u9 H locs hq hP hD hS => ?_)
                      subst hq
                      rw [CH_m]
                      refine lv_lstore (lv' := [(11, .long (W1 (qnF k z (tb a) i) i)), (9, .long (W0 (qnF k z (tb a) i) i)), (8, .int (nI i)), (6, .long (qnF k z (tb a) i)), (0, .ref (ma 0)), (1, .int (nI r)), (2, .int (nI a)), (3, .int (nI k)), (4, .int z)]) hx hb d_MD_quantify_114 hl (by decide) rfl (fun ls hl => ?_)
                      refine lv_iload hx hb d_MD_quantify_116 (lv_at hl 8 rfl) ?_
                      refine lv_if_eq (tgt := 129) hx hb d_MD_quantify_118 (by decide) (fun c118 => ?_) (fun c118 => ?_)
                      · refine lv_lload hx hb d_MD_quantify_129 (lv_at hl 1 rfl) ?_
                        refine lv_lload hx hb d_MD_quantify_131 (lv_at hl 0 rfl) ?_
                        refine lv_lor hx hb d_MD_quantify_133 ?_
                        refine lv_lstore (lv' := [(6, .long ((W0 (qnF k z (tb a) i) i) ||| (W1 (qnF k z (tb a) i) i))), (11, .long (W1 (qnF k z (tb a) i) i)), (9, .long (W0 (qnF k z (tb a) i) i)), (8, .int (nI i)), (0, .ref (ma 0)), (1, .int (nI r)), (2, .int (nI a)), (3, .int (nI k)), (4, .int z)]) hx hb d_MD_quantify_134 hl (by decide) rfl (fun ls hl => ?_)
                        refine lv_iinc (lv' := [(8, .int (nI (i + 1))), (6, .long ((W0 (qnF k z (tb a) i) i) ||| (W1 (qnF k z (tb a) i) i))), (11, .long (W1 (qnF k z (tb a) i) i)), (9, .long (W0 (qnF k z (tb a) i) i)), (0, .ref (ma 0)), (1, .int (nI r)), (2, .int (nI a)), (3, .int (nI k)), (4, .int z)]) hx hb d_MD_quantify_136 hl (k := 3) rfl (nI_1 _) (by decide) rfl (fun ls hl => ?_)
                        refine lv_goto (tgt := 77) hx hb d_MD_quantify_139 (by decide) ?_
                        have hl := lv_sub hl [0, 1, 4, 5, 6, 7, 8] rfl
                        have hl : lv_has ls 13 [(8, .int (nI ((i + 1)))), (6, .long (qnF k z (tb a) (i + 1))), (0, .ref (ma 0)), (1, .int (nI r)), (2, .int (nI a)), (3, .int (nI k)), (4, .int z)] := by rw [show qnF k z (tb a) (i + 1) = _ from (if_pos c91).trans (if_pos c118)]; exact hl
                        exact ih77 (i + 1) H locs ls (by omega)  hP hD hS hl
                      · refine lv_lload hx hb d_MD_quantify_121 (lv_at hl 1 rfl) ?_
                        refine lv_lload hx hb d_MD_quantify_123 (lv_at hl 0 rfl) ?_
                        refine lv_land hx hb d_MD_quantify_125 ?_
                        refine lv_goto (tgt := 134) hx hb d_MD_quantify_126 (by decide) ?_
                        refine lv_lstore (lv' := [(6, .long ((W0 (qnF k z (tb a) i) i) &&& (W1 (qnF k z (tb a) i) i))), (11, .long (W1 (qnF k z (tb a) i) i)), (9, .long (W0 (qnF k z (tb a) i) i)), (8, .int (nI i)), (0, .ref (ma 0)), (1, .int (nI r)), (2, .int (nI a)), (3, .int (nI k)), (4, .int z)]) hx hb d_MD_quantify_134 hl (by decide) rfl (fun ls hl => ?_)
                        refine lv_iinc (lv' := [(8, .int (nI (i + 1))), (6, .long ((W0 (qnF k z (tb a) i) i) &&& (W1 (qnF k z (tb a) i) i))), (11, .long (W1 (qnF k z (tb a) i) i)), (9, .long (W0 (qnF k z (tb a) i) i)), (0, .ref (ma 0)), (1, .int (nI r)), (2, .int (nI a)), (3, .int (nI k)), (4, .int z)]) hx hb d_MD_quantify_136 hl (k := 3) rfl (nI_1 _) (by decide) rfl (fun ls hl => ?_)
                        refine lv_goto (tgt := 77) hx hb d_MD_quantify_139 (by decide) ?_
                        have hl := lv_sub hl [0, 1, 4, 5, 6, 7, 8] rfl
                        have hl : lv_has ls 13 [(8, .int (nI ((i + 1)))), (6, .long (qnF k z (tb a) (i + 1))), (0, .ref (ma 0)), (1, .int (nI r)), (2, .int (nI a)), (3, .int (nI k)), (4, .int z)] := by rw [show qnF k z (tb a) (i + 1) = _ from (if_pos c91).trans (if_neg c118)]; exact hl
                        exact ih77 (i + 1) H locs ls (by omega)  hP hD hS hl
              have hl := lv_sub hl [0, 1, 3, 4, 5, 6, 7] rfl
              have hl : lv_has ls 13 [(8, .int (nI 0)), (6, .long (qnF k z (tb a) 0)), (0, .ref (ma 0)), (1, .int (nI r)), (2, .int (nI a)), (3, .int (nI k)), (4, .int z)] := hl
              exact lp77 (6 - 0) 0 _ _ ls (by omega)  hP hD hS hl
            · exact (by omega : False).elim
        · exact (by omega : False).elim
set_option maxRecDepth 100000 in
set_option maxHeartbeats 4000000 in
theorem c1_MD_quantify (l : Launch) (g : Gx) (ma : Nat → Nat) (cd : Int32) (tb : Nat → Int64) (hm : Nat → Int32) (oo : Nat → Int32) (kp : Nat → Int32) (td : Int32) (tt : Nat → Int32) (ct : Int32) (fd : Nat → Int64) (os : Int32) (oq : Nat → Int32) (vs : Int32) (sk : Nat → Int64) (X : va_W) (r : Int32) (a : Int32) (k : Int32) (z : Int32) (hbad : ¬ (inR r 8 ∧ inR a 8 ∧ inR k 64)) : Met l y_MD_quantify (w_MD_quantify :: TW) rm_MD_quantify (va_Pc [.ref (ma 0), .int r, .int a, .int k, .int z] (PR g (MW g ma cd tb hm oo kp td tt ct fd os oq vs sk ++ X))) (va_Qv (fun (u9 : Unit) => True) (fun u9 t9 => PR g (MW g ma (nI 1) tb hm oo kp td tt ct fd os oq vs sk ++ X) t9) (gA g)) 0 0 (gA g) := by
  refine mt_of (by decide) (Nat.le_of_ble_eq_true rfl) ?_
  intro p e s m below meth c ls hx hb hr hml hlk hown ht hnm F hP hD hl
  have hl : lv_has ls 13 [(0, .ref (ma 0)), (1, .int r), (2, .int a), (3, .int k), (4, .int z)] := hl
  have hS : va_S (gA g) s.heap s.heap [] := va_S.rf
  refine lv_iload_n hx hb d_MD_quantify_0 rfl (lv_at hl 1 rfl) ?_
  by_cases q1 : inR r 8
  · obtain ⟨k_r, hk_r, rfl⟩ := q1
    refine pc_Si (As := [.int (nI k_r)]) (rest := []) hx hb (hml.trans hl.1.symm) hown ht F hP hD hS (c_MD_isRegister l g (MW g ma cd tb hm oo kp td tt ct fd os oq vs sk ++ X) k_r (by omega)) v_MD_isRegister tw_518 ⟨rfl, rfl⟩ ⟨by decide, by decide⟩ rfl rfl (Nat.le_of_ble_eq_true rfl) ⟨Nat.zero_le _, Nat.zero_le _⟩ d_MD_quantify_1 (fun r9 u9 H locs hq hP hD hS => ?_)
    subst hq
    refine rz_eq (tgt := 28) hx hb (by omega) d_MD_quantify_4 (by decide) (fun c4 => ?_) (fun c4 => ?_)
    · exact (by omega : False).elim
    · refine lv_iload_n hx hb d_MD_quantify_7 rfl (lv_at hl 2 rfl) ?_
      by_cases q8 : inR a 8
      · obtain ⟨k_a, hk_a, rfl⟩ := q8
        refine pc_Si (As := [.int (nI k_a)]) (rest := []) hx hb (hml.trans hl.1.symm) hown ht F hP hD hS (c_MD_isRegister l g (MW g ma cd tb hm oo kp td tt ct fd os oq vs sk ++ X) k_a (by omega)) v_MD_isRegister tw_518 ⟨rfl, rfl⟩ ⟨by decide, by decide⟩ rfl rfl (Nat.le_of_ble_eq_true rfl) ⟨Nat.zero_le _, Nat.zero_le _⟩ d_MD_quantify_8 (fun r9 u9 H locs hq hP hD hS => ?_)
        subst hq
        refine rz_eq (tgt := 28) hx hb (by omega) d_MD_quantify_11 (by decide) (fun c11 => ?_) (fun c11 => ?_)
        · exact (by omega : False).elim
        · refine lv_iload_n hx hb d_MD_quantify_14 rfl (lv_at hl 3 rfl) ?_
          refine lv_iconst (v := nI 0) hx hb d_MD_quantify_15 (by decide) ?_
          refine lv_bipush (v := nI 63) hx hb d_MD_quantify_16 (by decide) ?_
          by_cases q18 : inR k 64
          · exact (hbad ⟨inR_nI hk_r, inR_nI hk_a, q18⟩).elim
          · refine pc_Si (As := [.int k, .int (nI 0), .int (nI 63)]) (rest := []) hx hb (hml.trans hl.1.symm) hown ht F hP hD hS (c_MD_within_0 l g (MW g ma cd tb hm oo kp td tt ct fd os oq vs sk ++ X) k 0 63 (fun h => q18 (inR_le h)) (by decide) (by decide)) v_MD_within tw_521 ⟨rfl, rfl⟩ ⟨by decide, by decide⟩ rfl rfl (Nat.le_of_ble_eq_true rfl) ⟨Nat.zero_le _, Nat.zero_le _⟩ d_MD_quantify_18 (fun r9 u9 H locs hq hP hD hS => ?_)
            subst hq
            refine rz_eq (tgt := 28) hx hb (by omega) d_MD_quantify_21 (by decide) (fun c21 => ?_) (fun c21 => ?_)
            · refine lv_iconst (v := nI 0) hx hb d_MD_quantify_28 (by decide) ?_
              refine lv_istore (lv' := [(5, .int (nI 0)), (0, .ref (ma 0)), (1, .int (nI k_r)), (2, .int (nI k_a)), (3, .int k), (4, .int z)]) hx hb d_MD_quantify_29 hl (by decide) rfl (fun ls hl => ?_)
              refine lv_aload_n hx hb d_MD_quantify_31 rfl (lv_at hl 1 rfl) ?_
              refine lv_iload hx hb d_MD_quantify_32 (lv_at hl 0 rfl) ?_
              refine rz_ne (tgt := 41) hx hb (by omega) d_MD_quantify_34 (by decide) (fun c34 => ?_) (fun c34 => ?_)
              · exact (by omega : False).elim
              · refine lv_iconst (v := nI 1) hx hb d_MD_quantify_37 (by decide) ?_
                refine lv_goto (tgt := 55) hx hb d_MD_quantify_38 (by decide) ?_
                refine va_put (ci := 4) (v := .int (nI 1)) (ty := .int) (C := R_MD) (T := T_MD) (N := 13) hx hb ht i_MD t_MD t_MD_ok n_MD hown F.2.1 hP hD hS 0 rfl rfl 0 (by decide) (ht _ tw_470) (fun _ h9 => h9) rfl (by decide +kernel) rfl rfl (Nat.le_of_ble_eq_true rfl) d_MD_quantify_55 (fun H locs hP hD hS => ?_)
                have hP : va_P g.1 cl (MW g ma (nI 1) tb hm oo kp td tt ct fd os oq vs sk ++ X) H := hP
                have hD : va_D (gA g) (MW g ma (nI 1) tb hm oo kp td tt ct fd os oq vs sk ++ X) := hD
                refine lv_aload_n hx hb d_MD_quantify_58 rfl (lv_at hl 1 rfl) ?_
                refine va_get (ci := 4) (v := .int (nI 1)) (C := R_MD) (T := T_MD) (N := 13) hx hb ht i_MD hown F.2.1 hP 0 rfl rfl 0 (by decide) (ht _ tw_470) (fun _ h9 => h9) rfl d_MD_quantify_59 ?_
                refine rz_le (tgt := 66) hx hb (by omega) d_MD_quantify_62 (by decide) (fun c62 => ?_) (fun c62 => ?_)
                · exact (by omega : False).elim
                · exact W.vret hx hb hr (fun t9 e1 hW => ⟨⟨(), rfl, trivial, PR.at F hP hD hS e1 hW.alike⟩, hS.F e1⟩) hS.2.2 d_MD_quantify_65
            · exact (by omega : False).elim
      · refine pc_Si (As := [.int a]) (rest := []) hx hb (hml.trans hl.1.symm) hown ht F hP hD hS (c_MD_isRegister_0 l g (MW g ma cd tb hm oo kp td tt ct fd os oq vs sk ++ X) a q8) v_MD_isRegister tw_518 ⟨rfl, rfl⟩ ⟨by decide, by decide⟩ rfl rfl (Nat.le_of_ble_eq_true rfl) ⟨Nat.zero_le _, Nat.zero_le _⟩ d_MD_quantify_8 (fun r9 u9 H locs hq hP hD hS => ?_)
        subst hq
        refine rz_eq (tgt := 28) hx hb (by omega) d_MD_quantify_11 (by decide) (fun c11 => ?_) (fun c11 => ?_)
        · refine lv_iconst (v := nI 0) hx hb d_MD_quantify_28 (by decide) ?_
          refine lv_istore (lv' := [(5, .int (nI 0)), (0, .ref (ma 0)), (1, .int (nI k_r)), (2, .int a), (3, .int k), (4, .int z)]) hx hb d_MD_quantify_29 hl (by decide) rfl (fun ls hl => ?_)
          refine lv_aload_n hx hb d_MD_quantify_31 rfl (lv_at hl 1 rfl) ?_
          refine lv_iload hx hb d_MD_quantify_32 (lv_at hl 0 rfl) ?_
          refine rz_ne (tgt := 41) hx hb (by omega) d_MD_quantify_34 (by decide) (fun c34 => ?_) (fun c34 => ?_)
          · exact (by omega : False).elim
          · refine lv_iconst (v := nI 1) hx hb d_MD_quantify_37 (by decide) ?_
            refine lv_goto (tgt := 55) hx hb d_MD_quantify_38 (by decide) ?_
            refine va_put (ci := 4) (v := .int (nI 1)) (ty := .int) (C := R_MD) (T := T_MD) (N := 13) hx hb ht i_MD t_MD t_MD_ok n_MD hown F.2.1 hP hD hS 0 rfl rfl 0 (by decide) (ht _ tw_470) (fun _ h9 => h9) rfl (by decide +kernel) rfl rfl (Nat.le_of_ble_eq_true rfl) d_MD_quantify_55 (fun H locs hP hD hS => ?_)
            have hP : va_P g.1 cl (MW g ma (nI 1) tb hm oo kp td tt ct fd os oq vs sk ++ X) H := hP
            have hD : va_D (gA g) (MW g ma (nI 1) tb hm oo kp td tt ct fd os oq vs sk ++ X) := hD
            refine lv_aload_n hx hb d_MD_quantify_58 rfl (lv_at hl 1 rfl) ?_
            refine va_get (ci := 4) (v := .int (nI 1)) (C := R_MD) (T := T_MD) (N := 13) hx hb ht i_MD hown F.2.1 hP 0 rfl rfl 0 (by decide) (ht _ tw_470) (fun _ h9 => h9) rfl d_MD_quantify_59 ?_
            refine rz_le (tgt := 66) hx hb (by omega) d_MD_quantify_62 (by decide) (fun c62 => ?_) (fun c62 => ?_)
            · exact (by omega : False).elim
            · exact W.vret hx hb hr (fun t9 e1 hW => ⟨⟨(), rfl, trivial, PR.at F hP hD hS e1 hW.alike⟩, hS.F e1⟩) hS.2.2 d_MD_quantify_65
        · exact (by omega : False).elim
  · refine pc_Si (As := [.int r]) (rest := []) hx hb (hml.trans hl.1.symm) hown ht F hP hD hS (c_MD_isRegister_0 l g (MW g ma cd tb hm oo kp td tt ct fd os oq vs sk ++ X) r q1) v_MD_isRegister tw_518 ⟨rfl, rfl⟩ ⟨by decide, by decide⟩ rfl rfl (Nat.le_of_ble_eq_true rfl) ⟨Nat.zero_le _, Nat.zero_le _⟩ d_MD_quantify_1 (fun r9 u9 H locs hq hP hD hS => ?_)
    subst hq
    refine rz_eq (tgt := 28) hx hb (by omega) d_MD_quantify_4 (by decide) (fun c4 => ?_) (fun c4 => ?_)
    · refine lv_iconst (v := nI 0) hx hb d_MD_quantify_28 (by decide) ?_
      refine lv_istore (lv' := [(5, .int (nI 0)), (0, .ref (ma 0)), (1, .int r), (2, .int a), (3, .int k), (4, .int z)]) hx hb d_MD_quantify_29 hl (by decide) rfl (fun ls hl => ?_)
      refine lv_aload_n hx hb d_MD_quantify_31 rfl (lv_at hl 1 rfl) ?_
      refine lv_iload hx hb d_MD_quantify_32 (lv_at hl 0 rfl) ?_
      refine rz_ne (tgt := 41) hx hb (by omega) d_MD_quantify_34 (by decide) (fun c34 => ?_) (fun c34 => ?_)
      · exact (by omega : False).elim
      · refine lv_iconst (v := nI 1) hx hb d_MD_quantify_37 (by decide) ?_
        refine lv_goto (tgt := 55) hx hb d_MD_quantify_38 (by decide) ?_
        refine va_put (ci := 4) (v := .int (nI 1)) (ty := .int) (C := R_MD) (T := T_MD) (N := 13) hx hb ht i_MD t_MD t_MD_ok n_MD hown F.2.1 hP hD hS 0 rfl rfl 0 (by decide) (ht _ tw_470) (fun _ h9 => h9) rfl (by decide +kernel) rfl rfl (Nat.le_of_ble_eq_true rfl) d_MD_quantify_55 (fun H locs hP hD hS => ?_)
        have hP : va_P g.1 cl (MW g ma (nI 1) tb hm oo kp td tt ct fd os oq vs sk ++ X) H := hP
        have hD : va_D (gA g) (MW g ma (nI 1) tb hm oo kp td tt ct fd os oq vs sk ++ X) := hD
        refine lv_aload_n hx hb d_MD_quantify_58 rfl (lv_at hl 1 rfl) ?_
        refine va_get (ci := 4) (v := .int (nI 1)) (C := R_MD) (T := T_MD) (N := 13) hx hb ht i_MD hown F.2.1 hP 0 rfl rfl 0 (by decide) (ht _ tw_470) (fun _ h9 => h9) rfl d_MD_quantify_59 ?_
        refine rz_le (tgt := 66) hx hb (by omega) d_MD_quantify_62 (by decide) (fun c62 => ?_) (fun c62 => ?_)
        · exact (by omega : False).elim
        · exact W.vret hx hb hr (fun t9 e1 hW => ⟨⟨(), rfl, trivial, PR.at F hP hD hS e1 hW.alike⟩, hS.F e1⟩) hS.2.2 d_MD_quantify_65
    · exact (by omega : False).elim
set_option maxRecDepth 100000 in
set_option maxHeartbeats 4000000 in
theorem c2_MD_quantify (l : Launch) (g : Gx) (ma : Nat → Nat) (cd : Int32) (tb : Nat → Int64) (hm : Nat → Int32) (oo : Nat → Int32) (kp : Nat → Int32) (td : Int32) (tt : Nat → Int32) (ct : Int32) (fd : Nat → Int64) (os : Int32) (oq : Nat → Int32) (vs : Int32) (sk : Nat → Int64) (X : va_W) (r a k : Nat) (z : Int32) (g_r : r < 8) (g_a : a < 8) (g_k : k < 64) (h9 : ∀ i, i < 8 → hm i = 0 ∨ hm i = 1) (hbad : ¬ (hm a = 1)) : Met l y_MD_quantify (w_MD_quantify :: TW) rm_MD_quantify (va_Pc [.ref (ma 0), .int (nI r), .int (nI a), .int (nI k), .int z] (PR g (MW g ma cd tb hm oo kp td tt ct fd os oq vs sk ++ X))) (va_Qv (fun (u9 : Unit) => True) (fun u9 t9 => PR g (MW g ma (nI 2) tb hm oo kp td tt ct fd os oq vs sk ++ X) t9) (gA g)) 0 0 (gA g) := by
  refine mt_of (by decide) (Nat.le_of_ble_eq_true rfl) ?_
  intro p e s m below meth c ls hx hb hr hml hlk hown ht hnm F hP hD hl
  have hl : lv_has ls 13 [(0, .ref (ma 0)), (1, .int (nI r)), (2, .int (nI a)), (3, .int (nI k)), (4, .int z)] := hl
  have hS : va_S (gA g) s.heap s.heap [] := va_S.rf
  refine lv_iload_n hx hb d_MD_quantify_0 rfl (lv_at hl 1 rfl) ?_
  refine pc_Si (As := [.int (nI r)]) (rest := []) hx hb (hml.trans hl.1.symm) hown ht F hP hD hS (c_MD_isRegister l g (MW g ma cd tb hm oo kp td tt ct fd os oq vs sk ++ X) r (by omega)) v_MD_isRegister tw_518 ⟨rfl, rfl⟩ ⟨by decide, by decide⟩ rfl rfl (Nat.le_of_ble_eq_true rfl) ⟨Nat.zero_le _, Nat.zero_le _⟩ d_MD_quantify_1 (fun r9 u9 H locs hq hP hD hS => ?_)
  subst hq
  refine rz_eq (tgt := 28) hx hb (by omega) d_MD_quantify_4 (by decide) (fun c4 => ?_) (fun c4 => ?_)
  · exact (by omega : False).elim
  · refine lv_iload_n hx hb d_MD_quantify_7 rfl (lv_at hl 2 rfl) ?_
    refine pc_Si (As := [.int (nI a)]) (rest := []) hx hb (hml.trans hl.1.symm) hown ht F hP hD hS (c_MD_isRegister l g (MW g ma cd tb hm oo kp td tt ct fd os oq vs sk ++ X) a (by omega)) v_MD_isRegister tw_518 ⟨rfl, rfl⟩ ⟨by decide, by decide⟩ rfl rfl (Nat.le_of_ble_eq_true rfl) ⟨Nat.zero_le _, Nat.zero_le _⟩ d_MD_quantify_8 (fun r9 u9 H locs hq hP hD hS => ?_)
    subst hq
    refine rz_eq (tgt := 28) hx hb (by omega) d_MD_quantify_11 (by decide) (fun c11 => ?_) (fun c11 => ?_)
    · exact (by omega : False).elim
    · refine lv_iload_n hx hb d_MD_quantify_14 rfl (lv_at hl 3 rfl) ?_
      refine lv_iconst (v := nI 0) hx hb d_MD_quantify_15 (by decide) ?_
      refine lv_bipush (v := nI 63) hx hb d_MD_quantify_16 (by decide) ?_
      refine pc_Si (As := [.int (nI k), .int (nI 0), .int (nI 63)]) (rest := []) hx hb (hml.trans hl.1.symm) hown ht F hP hD hS (c_MD_within l g (MW g ma cd tb hm oo kp td tt ct fd os oq vs sk ++ X) k 0 63 (by omega) (by omega) (by omega)) v_MD_within tw_521 ⟨rfl, rfl⟩ ⟨by decide, by decide⟩ rfl rfl (Nat.le_of_ble_eq_true rfl) ⟨Nat.zero_le _, Nat.zero_le _⟩ d_MD_quantify_18 (fun r9 u9 H locs hq hP hD hS => ?_)
      subst hq
      refine rz_eq (tgt := 28) hx hb (by omega) d_MD_quantify_21 (by decide) (fun c21 => ?_) (fun c21 => ?_)
      · exact (by omega : False).elim
      · refine lv_iconst (v := nI 1) hx hb d_MD_quantify_24 (by decide) ?_
        refine lv_goto (tgt := 29) hx hb d_MD_quantify_25 (by decide) ?_
        refine lv_istore (lv' := [(5, .int (nI 1)), (0, .ref (ma 0)), (1, .int (nI r)), (2, .int (nI a)), (3, .int (nI k)), (4, .int z)]) hx hb d_MD_quantify_29 hl (by decide) rfl (fun ls hl => ?_)
        refine lv_aload_n hx hb d_MD_quantify_31 rfl (lv_at hl 1 rfl) ?_
        refine lv_iload hx hb d_MD_quantify_32 (lv_at hl 0 rfl) ?_
        refine rz_ne (tgt := 41) hx hb (by omega) d_MD_quantify_34 (by decide) (fun c34 => ?_) (fun c34 => ?_)
        · refine lv_aload_n hx hb d_MD_quantify_41 rfl (lv_at hl 1 rfl) ?_
          refine va_get (ci := 4) (v := .ref (ma 2)) (C := R_MD) (T := T_MD) (N := 13) hx hb ht i_MD hown F.2.1 hP 0 rfl rfl 2 (by decide) (ht _ tw_472) (fun _ h9 => h9) rfl d_MD_quantify_42 ?_
          refine lv_iload_n hx hb d_MD_quantify_45 rfl (lv_at hl 3 rfl) ?_
          refine ra_Z hx hb F hP 2 rfl (by omega) (by decide) d_MD_quantify_46 ?_
          refine lv_if_eq (tgt := 54) hx hb d_MD_quantify_47 (by decide) (fun c47 => ?_) (fun c47 => ?_)
          · refine lv_iconst (v := nI 2) hx hb d_MD_quantify_54 (by decide) ?_
            refine va_put (ci := 4) (v := .int (nI 2)) (ty := .int) (C := R_MD) (T := T_MD) (N := 13) hx hb ht i_MD t_MD t_MD_ok n_MD hown F.2.1 hP hD hS 0 rfl rfl 0 (by decide) (ht _ tw_470) (fun _ h9 => h9) rfl (by decide +kernel) rfl rfl (Nat.le_of_ble_eq_true rfl) d_MD_quantify_55 (fun H locs hP hD hS => ?_)
            have hP : va_P g.1 cl (MW g ma (nI 2) tb hm oo kp td tt ct fd os oq vs sk ++ X) H := hP
            have hD : va_D (gA g) (MW g ma (nI 2) tb hm oo kp td tt ct fd os oq vs sk ++ X) := hD
            refine lv_aload_n hx hb d_MD_quantify_58 rfl (lv_at hl 1 rfl) ?_
            refine va_get (ci := 4) (v := .int (nI 2)) (C := R_MD) (T := T_MD) (N := 13) hx hb ht i_MD hown F.2.1 hP 0 rfl rfl 0 (by decide) (ht _ tw_470) (fun _ h9 => h9) rfl d_MD_quantify_59 ?_
            refine rz_le (tgt := 66) hx hb (by omega) d_MD_quantify_62 (by decide) (fun c62 => ?_) (fun c62 => ?_)
            · exact (by omega : False).elim
            · exact W.vret hx hb hr (fun t9 e1 hW => ⟨⟨(), rfl, trivial, PR.at F hP hD hS e1 hW.alike⟩, hS.F e1⟩) hS.2.2 d_MD_quantify_65
          · exact (hbad ((h9 a (by omega)).resolve_left c47)).elim
        · exact (by omega : False).elim
set_option maxRecDepth 100000 in
set_option maxHeartbeats 4000000 in
theorem c_MD_release (l : Launch) (g : Gx) (ma : Nat → Nat) (cd : Int32) (tb : Nat → Int64) (hm : Nat → Int32) (oo : Nat → Int32) (kp : Nat → Int32) (td : Int32) (tt : Nat → Int32) (ct : Int32) (fd : Nat → Int64) (os : Int32) (oq : Nat → Int32) (vs : Int32) (sk : Nat → Int64) (X : va_W) (r : Nat) (g_r : r < 8) (h2 : hm r = 0 ∨ hm r = 1) : Met l y_MD_release (w_MD_release :: TW) rm_MD_release (va_Pc [.ref (ma 0), .int (nI r)] (PR g (MW g ma cd tb hm oo kp td tt ct fd os oq vs sk ++ X))) (va_Qi (fun r9 (u9 : Unit) => r9 = hm r) (fun u9 t9 => PR g (MW g ma (nI 0) tb (upd hm r (nI 0)) oo kp td tt ct fd os oq vs sk ++ X) t9) (gA g)) 0 0 (gA g) := by
  refine mt_of (by decide) (Nat.le_of_ble_eq_true rfl) ?_
  intro p e s m below meth c ls hx hb hr hml hlk hown ht hnm F hP hD hl
  have hl : lv_has ls 3 [(0, .ref (ma 0)), (1, .int (nI r))] := hl
  have hS : va_S (gA g) s.heap s.heap [] := va_S.rf
  refine lv_aload_n hx hb d_MD_release_0 rfl (lv_at hl 0 rfl) ?_
  refine lv_iload_n hx hb d_MD_release_1 rfl (lv_at hl 1 rfl) ?_
  refine pc_Si (As := [.int (nI r)]) (rest := [.ref (ma 0)]) hx hb (hml.trans hl.1.symm) hown ht F hP hD hS (c_MD_isRegister l g (MW g ma cd tb hm oo kp td tt ct fd os oq vs sk ++ X) r (by omega)) v_MD_isRegister tw_518 ⟨rfl, rfl⟩ ⟨by decide, by decide⟩ rfl rfl (Nat.le_of_ble_eq_true rfl) ⟨Nat.zero_le _, Nat.zero_le _⟩ d_MD_release_2 (fun r9 u9 H locs hq hP hD hS => ?_)
  subst hq
  refine rz_eq (tgt := 12) hx hb (by omega) d_MD_release_5 (by decide) (fun c5 => ?_) (fun c5 => ?_)
  · exact (by omega : False).elim
  · refine lv_iconst (v := nI 0) hx hb d_MD_release_8 (by decide) ?_
    refine lv_goto (tgt := 13) hx hb d_MD_release_9 (by decide) ?_
    refine va_put (ci := 4) (v := .int (nI 0)) (ty := .int) (C := R_MD) (T := T_MD) (N := 13) hx hb ht i_MD t_MD t_MD_ok n_MD hown F.2.1 hP hD hS 0 rfl rfl 0 (by decide) (ht _ tw_470) (fun _ h9 => h9) rfl (by decide +kernel) rfl rfl (Nat.le_of_ble_eq_true rfl) d_MD_release_13 (fun H locs hP hD hS => ?_)
    have hP : va_P g.1 cl (MW g ma (nI 0) tb hm oo kp td tt ct fd os oq vs sk ++ X) H := hP
    have hD : va_D (gA g) (MW g ma (nI 0) tb hm oo kp td tt ct fd os oq vs sk ++ X) := hD
    refine lv_aload_n hx hb d_MD_release_16 rfl (lv_at hl 0 rfl) ?_
    refine va_get (ci := 4) (v := .int (nI 0)) (C := R_MD) (T := T_MD) (N := 13) hx hb ht i_MD hown F.2.1 hP 0 rfl rfl 0 (by decide) (ht _ tw_470) (fun _ h9 => h9) rfl d_MD_release_17 ?_
    refine rz_le (tgt := 25) hx hb (by omega) d_MD_release_20 (by decide) (fun c20 => ?_) (fun c20 => ?_)
    · refine lv_aload_n hx hb d_MD_release_25 rfl (lv_at hl 0 rfl) ?_
      refine va_get (ci := 4) (v := .ref (ma 2)) (C := R_MD) (T := T_MD) (N := 13) hx hb ht i_MD hown F.2.1 hP 0 rfl rfl 2 (by decide) (ht _ tw_472) (fun _ h9 => h9) rfl d_MD_release_26 ?_
      refine lv_iload_n hx hb d_MD_release_29 rfl (lv_at hl 1 rfl) ?_
      refine ra_Z hx hb F hP 2 rfl (by omega) (by decide) d_MD_release_30 ?_
      refine lv_istore_n (lv' := [(2, .int (hm r)), (0, .ref (ma 0)), (1, .int (nI r))]) hx hb d_MD_release_31 rfl hl (by decide) rfl (fun ls hl => ?_)
      refine lv_aload_n hx hb d_MD_release_32 rfl (lv_at hl 1 rfl) ?_
      refine va_get (ci := 4) (v := .ref (ma 2)) (C := R_MD) (T := T_MD) (N := 13) hx hb ht i_MD hown F.2.1 hP 0 rfl rfl 2 (by decide) (ht _ tw_472) (fun _ h9 => h9) rfl d_MD_release_33 ?_
      refine lv_iload_n hx hb d_MD_release_36 rfl (lv_at hl 2 rfl) ?_
      refine lv_iconst (v := nI 0) hx hb d_MD_release_37 (by decide) ?_
      refine wa_Z (y := nI 0) hx hb F hP hD hS 2 rfl (by decide) (by omega) (by decide) d_MD_release_38 (fun H locs hP hD hS => ?_)
      have hP : va_P g.1 cl (MW g ma (nI 0) tb (upd hm r (nI 0)) oo kp td tt ct fd os oq vs sk ++ X) H := hP
      have hD : va_D (gA g) (MW g ma (nI 0) tb (upd hm r (nI 0)) oo kp td tt ct fd os oq vs sk ++ X) := hD
      refine lv_iload_n hx hb d_MD_release_39 rfl (lv_at hl 0 rfl) ?_
      exact W.zret (v := hm r) hx hb hr (by rcases h2 with h | h <;> rw [h] <;> rfl) (fun t9 e1 hW => ⟨⟨_, (), rfl, rfl, PR.at F hP hD hS e1 hW.alike⟩, hS.F e1⟩) hS.2.2 d_MD_release_40
    · exact (by omega : False).elim
set_option maxRecDepth 100000 in
set_option maxHeartbeats 4000000 in
theorem c1_MD_release (l : Launch) (g : Gx) (ma : Nat → Nat) (cd : Int32) (tb : Nat → Int64) (hm : Nat → Int32) (oo : Nat → Int32) (kp : Nat → Int32) (td : Int32) (tt : Nat → Int32) (ct : Int32) (fd : Nat → Int64) (os : Int32) (oq : Nat → Int32) (vs : Int32) (sk : Nat → Int64) (X : va_W) (r : Int32) (hbad : ¬ (inR r 8)) : Met l y_MD_release (w_MD_release :: TW) rm_MD_release (va_Pc [.ref (ma 0), .int r] (PR g (MW g ma cd tb hm oo kp td tt ct fd os oq vs sk ++ X))) (va_Qi (fun r9 (u9 : Unit) => r9 = nI 0) (fun u9 t9 => PR g (MW g ma (nI 1) tb hm oo kp td tt ct fd os oq vs sk ++ X) t9) (gA g)) 0 0 (gA g) := by
  refine mt_of (by decide) (Nat.le_of_ble_eq_true rfl) ?_
  intro p e s m below meth c ls hx hb hr hml hlk hown ht hnm F hP hD hl
  have hl : lv_has ls 3 [(0, .ref (ma 0)), (1, .int r)] := hl
  have hS : va_S (gA g) s.heap s.heap [] := va_S.rf
  refine lv_aload_n hx hb d_MD_release_0 rfl (lv_at hl 0 rfl) ?_
  refine lv_iload_n hx hb d_MD_release_1 rfl (lv_at hl 1 rfl) ?_
  by_cases q2 : inR r 8
  · exact (hbad q2).elim
  · refine pc_Si (As := [.int r]) (rest := [.ref (ma 0)]) hx hb (hml.trans hl.1.symm) hown ht F hP hD hS (c_MD_isRegister_0 l g (MW g ma cd tb hm oo kp td tt ct fd os oq vs sk ++ X) r q2) v_MD_isRegister tw_518 ⟨rfl, rfl⟩ ⟨by decide, by decide⟩ rfl rfl (Nat.le_of_ble_eq_true rfl) ⟨Nat.zero_le _, Nat.zero_le _⟩ d_MD_release_2 (fun r9 u9 H locs hq hP hD hS => ?_)
    subst hq
    refine rz_eq (tgt := 12) hx hb (by omega) d_MD_release_5 (by decide) (fun c5 => ?_) (fun c5 => ?_)
    · refine lv_iconst (v := nI 1) hx hb d_MD_release_12 (by decide) ?_
      refine va_put (ci := 4) (v := .int (nI 1)) (ty := .int) (C := R_MD) (T := T_MD) (N := 13) hx hb ht i_MD t_MD t_MD_ok n_MD hown F.2.1 hP hD hS 0 rfl rfl 0 (by decide) (ht _ tw_470) (fun _ h9 => h9) rfl (by decide +kernel) rfl rfl (Nat.le_of_ble_eq_true rfl) d_MD_release_13 (fun H locs hP hD hS => ?_)
      have hP : va_P g.1 cl (MW g ma (nI 1) tb hm oo kp td tt ct fd os oq vs sk ++ X) H := hP
      have hD : va_D (gA g) (MW g ma (nI 1) tb hm oo kp td tt ct fd os oq vs sk ++ X) := hD
      refine lv_aload_n hx hb d_MD_release_16 rfl (lv_at hl 0 rfl) ?_
      refine va_get (ci := 4) (v := .int (nI 1)) (C := R_MD) (T := T_MD) (N := 13) hx hb ht i_MD hown F.2.1 hP 0 rfl rfl 0 (by decide) (ht _ tw_470) (fun _ h9 => h9) rfl d_MD_release_17 ?_
      refine rz_le (tgt := 25) hx hb (by omega) d_MD_release_20 (by decide) (fun c20 => ?_) (fun c20 => ?_)
      · exact (by omega : False).elim
      · refine lv_iconst (v := nI 0) hx hb d_MD_release_23 (by decide) ?_
        exact W.zret (v := nI 0) hx hb hr (by decide) (fun t9 e1 hW => ⟨⟨_, (), rfl, rfl, PR.at F hP hD hS e1 hW.alike⟩, hS.F e1⟩) hS.2.2 d_MD_release_24
    · exact (by omega : False).elim
set_option maxRecDepth 100000 in
set_option maxHeartbeats 4000000 in
theorem c1_MD_equal (l : Launch) (g : Gx) (ma : Nat → Nat) (cd : Int32) (tb : Nat → Int64) (hm : Nat → Int32) (oo : Nat → Int32) (kp : Nat → Int32) (td : Int32) (tt : Nat → Int32) (ct : Int32) (fd : Nat → Int64) (os : Int32) (oq : Nat → Int32) (vs : Int32) (sk : Nat → Int64) (X : va_W) (a : Int32) (b : Int32) (hbad : ¬ (inR a 8 ∧ inR b 8)) : Met l y_MD_equal (w_MD_equal :: TW) rm_MD_equal (va_Pc [.ref (ma 0), .int a, .int b] (PR g (MW g ma cd tb hm oo kp td tt ct fd os oq vs sk ++ X))) (va_Qi (fun r9 (u9 : Unit) => r9 = nI 0) (fun u9 t9 => PR g (MW g ma (nI 1) tb hm oo kp td tt ct fd os oq vs sk ++ X) t9) (gA g)) 0 0 (gA g) := by
  refine mt_of (by decide) (Nat.le_of_ble_eq_true rfl) ?_
  intro p e s m below meth c ls hx hb hr hml hlk hown ht hnm F hP hD hl
  have hl : lv_has ls 3 [(0, .ref (ma 0)), (1, .int a), (2, .int b)] := hl
  have hS : va_S (gA g) s.heap s.heap [] := va_S.rf
  refine lv_aload_n hx hb d_MD_equal_0 rfl (lv_at hl 0 rfl) ?_
  refine lv_iload_n hx hb d_MD_equal_1 rfl (lv_at hl 1 rfl) ?_
  by_cases q2 : inR a 8
  · obtain ⟨k_a, hk_a, rfl⟩ := q2
    refine pc_Si (As := [.int (nI k_a)]) (rest := [.ref (ma 0)]) hx hb (hml.trans hl.1.symm) hown ht F hP hD hS (c_MD_isRegister l g (MW g ma cd tb hm oo kp td tt ct fd os oq vs sk ++ X) k_a (by omega)) v_MD_isRegister tw_518 ⟨rfl, rfl⟩ ⟨by decide, by decide⟩ rfl rfl (Nat.le_of_ble_eq_true rfl) ⟨Nat.zero_le _, Nat.zero_le _⟩ d_MD_equal_2 (fun r9 u9 H locs hq hP hD hS => ?_)
    subst hq
    refine rz_eq (tgt := 15) hx hb (by omega) d_MD_equal_5 (by decide) (fun c5 => ?_) (fun c5 => ?_)
    · exact (by omega : False).elim
    · refine lv_iload_n hx hb d_MD_equal_8 rfl (lv_at hl 2 rfl) ?_
      by_cases q9 : inR b 8
      · exact (hbad ⟨inR_nI hk_a, q9⟩).elim
      · refine pc_Si (As := [.int b]) (rest := [.ref (ma 0)]) hx hb (hml.trans hl.1.symm) hown ht F hP hD hS (c_MD_isRegister_0 l g (MW g ma cd tb hm oo kp td tt ct fd os oq vs sk ++ X) b q9) v_MD_isRegister tw_518 ⟨rfl, rfl⟩ ⟨by decide, by decide⟩ rfl rfl (Nat.le_of_ble_eq_true rfl) ⟨Nat.zero_le _, Nat.zero_le _⟩ d_MD_equal_9 (fun r9 u9 H locs hq hP hD hS => ?_)
        subst hq
        refine rz_ne (tgt := 19) hx hb (by omega) d_MD_equal_12 (by decide) (fun c12 => ?_) (fun c12 => ?_)
        · exact (by omega : False).elim
        · refine lv_iconst (v := nI 1) hx hb d_MD_equal_15 (by decide) ?_
          refine lv_goto (tgt := 42) hx hb d_MD_equal_16 (by decide) ?_
          refine va_put (ci := 4) (v := .int (nI 1)) (ty := .int) (C := R_MD) (T := T_MD) (N := 13) hx hb ht i_MD t_MD t_MD_ok n_MD hown F.2.1 hP hD hS 0 rfl rfl 0 (by decide) (ht _ tw_470) (fun _ h9 => h9) rfl (by decide +kernel) rfl rfl (Nat.le_of_ble_eq_true rfl) d_MD_equal_42 (fun H locs hP hD hS => ?_)
          have hP : va_P g.1 cl (MW g ma (nI 1) tb hm oo kp td tt ct fd os oq vs sk ++ X) H := hP
          have hD : va_D (gA g) (MW g ma (nI 1) tb hm oo kp td tt ct fd os oq vs sk ++ X) := hD
          refine lv_aload_n hx hb d_MD_equal_45 rfl (lv_at hl 0 rfl) ?_
          refine va_get (ci := 4) (v := .int (nI 1)) (C := R_MD) (T := T_MD) (N := 13) hx hb ht i_MD hown F.2.1 hP 0 rfl rfl 0 (by decide) (ht _ tw_470) (fun _ h9 => h9) rfl d_MD_equal_46 ?_
          refine rz_ne (tgt := 72) hx hb (by omega) d_MD_equal_49 (by decide) (fun c49 => ?_) (fun c49 => ?_)
          · refine lv_iconst (v := nI 0) hx hb d_MD_equal_72 (by decide) ?_
            exact W.zret (v := nI 0) hx hb hr (by decide) (fun t9 e1 hW => ⟨⟨_, (), rfl, rfl, PR.at F hP hD hS e1 hW.alike⟩, hS.F e1⟩) hS.2.2 d_MD_equal_73
          · exact (by omega : False).elim
  · refine pc_Si (As := [.int a]) (rest := [.ref (ma 0)]) hx hb (hml.trans hl.1.symm) hown ht F hP hD hS (c_MD_isRegister_0 l g (MW g ma cd tb hm oo kp td tt ct fd os oq vs sk ++ X) a q2) v_MD_isRegister tw_518 ⟨rfl, rfl⟩ ⟨by decide, by decide⟩ rfl rfl (Nat.le_of_ble_eq_true rfl) ⟨Nat.zero_le _, Nat.zero_le _⟩ d_MD_equal_2 (fun r9 u9 H locs hq hP hD hS => ?_)
    subst hq
    refine rz_eq (tgt := 15) hx hb (by omega) d_MD_equal_5 (by decide) (fun c5 => ?_) (fun c5 => ?_)
    · refine lv_iconst (v := nI 1) hx hb d_MD_equal_15 (by decide) ?_
      refine lv_goto (tgt := 42) hx hb d_MD_equal_16 (by decide) ?_
      refine va_put (ci := 4) (v := .int (nI 1)) (ty := .int) (C := R_MD) (T := T_MD) (N := 13) hx hb ht i_MD t_MD t_MD_ok n_MD hown F.2.1 hP hD hS 0 rfl rfl 0 (by decide) (ht _ tw_470) (fun _ h9 => h9) rfl (by decide +kernel) rfl rfl (Nat.le_of_ble_eq_true rfl) d_MD_equal_42 (fun H locs hP hD hS => ?_)
      have hP : va_P g.1 cl (MW g ma (nI 1) tb hm oo kp td tt ct fd os oq vs sk ++ X) H := hP
      have hD : va_D (gA g) (MW g ma (nI 1) tb hm oo kp td tt ct fd os oq vs sk ++ X) := hD
      refine lv_aload_n hx hb d_MD_equal_45 rfl (lv_at hl 0 rfl) ?_
      refine va_get (ci := 4) (v := .int (nI 1)) (C := R_MD) (T := T_MD) (N := 13) hx hb ht i_MD hown F.2.1 hP 0 rfl rfl 0 (by decide) (ht _ tw_470) (fun _ h9 => h9) rfl d_MD_equal_46 ?_
      refine rz_ne (tgt := 72) hx hb (by omega) d_MD_equal_49 (by decide) (fun c49 => ?_) (fun c49 => ?_)
      · refine lv_iconst (v := nI 0) hx hb d_MD_equal_72 (by decide) ?_
        exact W.zret (v := nI 0) hx hb hr (by decide) (fun t9 e1 hW => ⟨⟨_, (), rfl, rfl, PR.at F hP hD hS e1 hW.alike⟩, hS.F e1⟩) hS.2.2 d_MD_equal_73
      · exact (by omega : False).elim
    · exact (by omega : False).elim
set_option maxRecDepth 100000 in
set_option maxHeartbeats 4000000 in
theorem c1_MD_value (l : Launch) (g : Gx) (ma : Nat → Nat) (cd : Int32) (tb : Nat → Int64) (hm : Nat → Int32) (oo : Nat → Int32) (kp : Nat → Int32) (td : Int32) (tt : Nat → Int32) (ct : Int32) (fd : Nat → Int64) (os : Int32) (oq : Nat → Int32) (vs : Int32) (sk : Nat → Int64) (X : va_W) (a : Int32) (k : Int32) (hbad : ¬ (inR a 8 ∧ inR k 64)) : Met l y_MD_value (w_MD_value :: TW) rm_MD_value (va_Pc [.ref (ma 0), .int a, .int k] (PR g (MW g ma cd tb hm oo kp td tt ct fd os oq vs sk ++ X))) (va_Qi (fun r9 (u9 : Unit) => r9 = nI 0) (fun u9 t9 => PR g (MW g ma (nI 1) tb hm oo kp td tt ct fd os oq vs sk ++ X) t9) (gA g)) 0 0 (gA g) := by
  refine mt_of (by decide) (Nat.le_of_ble_eq_true rfl) ?_
  intro p e s m below meth c ls hx hb hr hml hlk hown ht hnm F hP hD hl
  have hl : lv_has ls 3 [(0, .ref (ma 0)), (1, .int a), (2, .int k)] := hl
  have hS : va_S (gA g) s.heap s.heap [] := va_S.rf
  refine lv_aload_n hx hb d_MD_value_0 rfl (lv_at hl 0 rfl) ?_
  refine lv_iload_n hx hb d_MD_value_1 rfl (lv_at hl 1 rfl) ?_
  by_cases q2 : inR a 8
  · obtain ⟨k_a, hk_a, rfl⟩ := q2
    refine pc_Si (As := [.int (nI k_a)]) (rest := [.ref (ma 0)]) hx hb (hml.trans hl.1.symm) hown ht F hP hD hS (c_MD_isRegister l g (MW g ma cd tb hm oo kp td tt ct fd os oq vs sk ++ X) k_a (by omega)) v_MD_isRegister tw_518 ⟨rfl, rfl⟩ ⟨by decide, by decide⟩ rfl rfl (Nat.le_of_ble_eq_true rfl) ⟨Nat.zero_le _, Nat.zero_le _⟩ d_MD_value_2 (fun r9 u9 H locs hq hP hD hS => ?_)
    subst hq
    refine rz_eq (tgt := 18) hx hb (by omega) d_MD_value_5 (by decide) (fun c5 => ?_) (fun c5 => ?_)
    · exact (by omega : False).elim
    · refine lv_iload_n hx hb d_MD_value_8 rfl (lv_at hl 2 rfl) ?_
      refine lv_iconst (v := nI 0) hx hb d_MD_value_9 (by decide) ?_
      refine lv_bipush (v := nI 63) hx hb d_MD_value_10 (by decide) ?_
      by_cases q12 : inR k 64
      · exact (hbad ⟨inR_nI hk_a, q12⟩).elim
      · refine pc_Si (As := [.int k, .int (nI 0), .int (nI 63)]) (rest := [.ref (ma 0)]) hx hb (hml.trans hl.1.symm) hown ht F hP hD hS (c_MD_within_0 l g (MW g ma cd tb hm oo kp td tt ct fd os oq vs sk ++ X) k 0 63 (fun h => q12 (inR_le h)) (by decide) (by decide)) v_MD_within tw_521 ⟨rfl, rfl⟩ ⟨by decide, by decide⟩ rfl rfl (Nat.le_of_ble_eq_true rfl) ⟨Nat.zero_le _, Nat.zero_le _⟩ d_MD_value_12 (fun r9 u9 H locs hq hP hD hS => ?_)
        subst hq
        refine rz_ne (tgt := 22) hx hb (by omega) d_MD_value_15 (by decide) (fun c15 => ?_) (fun c15 => ?_)
        · exact (by omega : False).elim
        · refine lv_iconst (v := nI 1) hx hb d_MD_value_18 (by decide) ?_
          refine lv_goto (tgt := 36) hx hb d_MD_value_19 (by decide) ?_
          refine va_put (ci := 4) (v := .int (nI 1)) (ty := .int) (C := R_MD) (T := T_MD) (N := 13) hx hb ht i_MD t_MD t_MD_ok n_MD hown F.2.1 hP hD hS 0 rfl rfl 0 (by decide) (ht _ tw_470) (fun _ h9 => h9) rfl (by decide +kernel) rfl rfl (Nat.le_of_ble_eq_true rfl) d_MD_value_36 (fun H locs hP hD hS => ?_)
          have hP : va_P g.1 cl (MW g ma (nI 1) tb hm oo kp td tt ct fd os oq vs sk ++ X) H := hP
          have hD : va_D (gA g) (MW g ma (nI 1) tb hm oo kp td tt ct fd os oq vs sk ++ X) := hD
          refine lv_aload_n hx hb d_MD_value_39 rfl (lv_at hl 0 rfl) ?_
          refine va_get (ci := 4) (v := .int (nI 1)) (C := R_MD) (T := T_MD) (N := 13) hx hb ht i_MD hown F.2.1 hP 0 rfl rfl 0 (by decide) (ht _ tw_470) (fun _ h9 => h9) rfl d_MD_value_40 ?_
          refine rz_ne (tgt := 63) hx hb (by omega) d_MD_value_43 (by decide) (fun c43 => ?_) (fun c43 => ?_)
          · refine lv_iconst (v := nI 0) hx hb d_MD_value_63 (by decide) ?_
            exact W.zret (v := nI 0) hx hb hr (by decide) (fun t9 e1 hW => ⟨⟨_, (), rfl, rfl, PR.at F hP hD hS e1 hW.alike⟩, hS.F e1⟩) hS.2.2 d_MD_value_64
          · exact (by omega : False).elim
  · refine pc_Si (As := [.int a]) (rest := [.ref (ma 0)]) hx hb (hml.trans hl.1.symm) hown ht F hP hD hS (c_MD_isRegister_0 l g (MW g ma cd tb hm oo kp td tt ct fd os oq vs sk ++ X) a q2) v_MD_isRegister tw_518 ⟨rfl, rfl⟩ ⟨by decide, by decide⟩ rfl rfl (Nat.le_of_ble_eq_true rfl) ⟨Nat.zero_le _, Nat.zero_le _⟩ d_MD_value_2 (fun r9 u9 H locs hq hP hD hS => ?_)
    subst hq
    refine rz_eq (tgt := 18) hx hb (by omega) d_MD_value_5 (by decide) (fun c5 => ?_) (fun c5 => ?_)
    · refine lv_iconst (v := nI 1) hx hb d_MD_value_18 (by decide) ?_
      refine lv_goto (tgt := 36) hx hb d_MD_value_19 (by decide) ?_
      refine va_put (ci := 4) (v := .int (nI 1)) (ty := .int) (C := R_MD) (T := T_MD) (N := 13) hx hb ht i_MD t_MD t_MD_ok n_MD hown F.2.1 hP hD hS 0 rfl rfl 0 (by decide) (ht _ tw_470) (fun _ h9 => h9) rfl (by decide +kernel) rfl rfl (Nat.le_of_ble_eq_true rfl) d_MD_value_36 (fun H locs hP hD hS => ?_)
      have hP : va_P g.1 cl (MW g ma (nI 1) tb hm oo kp td tt ct fd os oq vs sk ++ X) H := hP
      have hD : va_D (gA g) (MW g ma (nI 1) tb hm oo kp td tt ct fd os oq vs sk ++ X) := hD
      refine lv_aload_n hx hb d_MD_value_39 rfl (lv_at hl 0 rfl) ?_
      refine va_get (ci := 4) (v := .int (nI 1)) (C := R_MD) (T := T_MD) (N := 13) hx hb ht i_MD hown F.2.1 hP 0 rfl rfl 0 (by decide) (ht _ tw_470) (fun _ h9 => h9) rfl d_MD_value_40 ?_
      refine rz_ne (tgt := 63) hx hb (by omega) d_MD_value_43 (by decide) (fun c43 => ?_) (fun c43 => ?_)
      · refine lv_iconst (v := nI 0) hx hb d_MD_value_63 (by decide) ?_
        exact W.zret (v := nI 0) hx hb hr (by decide) (fun t9 e1 hW => ⟨⟨_, (), rfl, rfl, PR.at F hP hD hS e1 hW.alike⟩, hS.F e1⟩) hS.2.2 d_MD_value_64
      · exact (by omega : False).elim
    · exact (by omega : False).elim
