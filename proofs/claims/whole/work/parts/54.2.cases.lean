set_option maxRecDepth 100000 in
set_option maxHeartbeats 4000000 in
theorem st_size {p : Program} {l : Launch} {e : Env} {s : State} {m : MethodId} {below : List Frame} {meth : Method} {c : Code} (hl0 : l.stackTraces = false) {g : Gx} {ad ma : Nat → Nat} {oa b L i : Nat} {xs : Nat → Int32} {x1 x2 x3 x4 : Int32} (hx : p.tables.exec = Jvm.exec) (hb : c.code = b_LW_law) (hml : c.maxLocals = 7) (hown : s.vm.findClass "SiftedGraphsLaw" = some m.cls) (ht : ∀ w ∈ TW, w.before #[Value.ref b] s = true) (F : Fx g s) (hX : va_X b L xs s s.heap) (hbl : b < s.heap.size) (hbA : ¬ gA g b) (hL : L ≤ 2560) (hi : i + 4 < L) (hx1 : xs (i + 1) = x1) (hx2 : xs (i + 2) = x2) (hx3 : xs (i + 3) = x3) (hx4 : xs (i + 4) = x4) {rg : Nat → Int64} {hd : Nat → Int32} {od : Nat → Nat} {tx : Nat → Nat} {td : Nat} {sm : Nat → Int64} {pa : Nat → Int64} {pr : Nat → Int64} {fl : Nat → Int64} {op : Int32} {du : Int32} {qa : Nat} {ab : Nat → Int64} {ac : Int32} {qb : Nat} {be : Nat → Int64} {bc : Int32} {wd : Nat → Int32} {ou : Nat → Int64} {cd : Int32} {oo : Nat → Nat} {kp : Nat → Nat} {ct : Int32} {fd : Nat → Int64} {os : Int32} {oq : Nat → Int32} {vs : Int32} {sk : Nat → Int64} (I9 : INV od oo tx hd td) {H : Heap} {locs : List Loc} {ls : Array Slot} (hP : va_P g.1 cl (CW g ad rg hd (nF od) (nF tx) (nI td) sm pa pr fl op du qa ab ac qb be bc wd ++ ((oa, aJ g 1 ou) :: (MW g ma cd rg hd (nF oo) (nF kp) (nI td) (nF tx) ct fd os oq vs sk ++ []))) H) (hD : va_D (gA g) (CW g ad rg hd (nF od) (nF tx) (nI td) sm pa pr fl op du qa ab ac qb be bc wd ++ ((oa, aJ g 1 ou) :: (MW g ma cd rg hd (nF oo) (nF kp) (nI td) (nF tx) ct fd os oq vs sk ++ [])))) (hS : va_S (gA g) s.heap H locs) (hl : lv_has ls 7 [(4, .int (nI i)), (0, .ref b), (1, .ref (ad 0)), (2, .ref (ma 0)), (3, .ref oa)]) {cells slots : Nat} (hc1 : cells + 1 ≤ room_1.cells) (hs1 : slots + 6 ≤ room_1.slots) {Q : State → Prop}
    (kk : ∀ (H : Heap) (locs : List Loc) (ls : Array Slot), LST g ad ma oa H → va_S (gA g) s.heap H locs → lv_has ls 7 [(4, .int (nI i)), (0, .ref b), (1, .ref (ad 0)), (2, .ref (ma 0)), (3, .ref oa)] → W p l e room_1 s m #[Value.ref b] below meth c H locs (cells + 1) (slots + 6) Q (F0 m 1402 ls [])) : W p l e room_1 s m #[Value.ref b] below meth c H locs cells slots Q (F0 m 1109 ls []) := by
  have hcA : cells ≤ room_1.cells := Nat.le_of_succ_le hc1
  have hsA : slots ≤ room_1.slots := Nat.le_trans (Nat.le_add_right _ _) hs1
  by_cases q1 : inR x1 8
  · obtain ⟨k1, g1, rfl⟩ := q1
    by_cases q2 : hd k1 = 1
    · refine lv_aload_n hx hb d_LW_law_1109 rfl (lv_at hl 2 rfl) ?_
      refine lv_aload_n hx hb d_LW_law_1110 rfl (lv_at hl 1 rfl) ?_
      refine lv_iload hx hb d_LW_law_1111 (lv_at hl 0 rfl) ?_
      refine lv_iconst (v := nI 1) hx hb d_LW_law_1113 (by decide) ?_
      refine rn_add hx hb d_LW_law_1114 ?_
      refine rl_s hx hb hX hbl hbA hS (by omega) (by omega) hx1 d_LW_law_1115 ?_
      refine lv_aload_n hx hb d_LW_law_1116 rfl (lv_at hl 4 rfl) ?_
      refine pc_T (As := [.ref (ad 0), .int (nI k1), .ref oa]) (rest := []) hx hb (hml.trans hl.1.symm) hown ht F hP hD hS (c_LW_size l g ad oa rg hd (nF tx) (nI td) sm pa pr fl op du qa ab ac qb be bc wd ou (MW g ma cd rg hd (nF oo) (nF kp) (nI td) (nF tx) ct fd os oq vs sk ++ []) od k1 (by first | omega | exact q1 | exact q2 | exact q2.1 | exact q2.2 | exact q2.2.1 | exact q2.2.2 | exact I9.1.1 | exact I9.2.2.2.2 | exact I9.oo.1 | exact I9.oo | exact I9.2.2.2.1 | exact I9.2.2.1 | exact I9.2.2.2.2 _ (by omega) | exact (I9.2.2.2.2 _ (by omega)).resolve_right q2) (by first | omega | exact q1 | exact q2 | exact q2.1 | exact q2.2 | exact q2.2.1 | exact q2.2.2 | exact I9.1.1 | exact I9.2.2.2.2 | exact I9.oo.1 | exact I9.oo | exact I9.2.2.2.1 | exact I9.2.2.1 | exact I9.2.2.2.2 _ (by omega) | exact (I9.2.2.2.2 _ (by omega)).resolve_right q2) (by first | omega | exact q1 | exact q2 | exact q2.1 | exact q2.2 | exact q2.2.1 | exact q2.2.2 | exact I9.1.1 | exact I9.2.2.2.2 | exact I9.oo.1 | exact I9.oo | exact I9.2.2.2.1 | exact I9.2.2.1 | exact I9.2.2.2.2 _ (by omega) | exact (I9.2.2.2.2 _ (by omega)).resolve_right q2)) v_LW_size tw_413 ⟨rfl, rfl⟩ ⟨by decide, by decide⟩ rfl rfl (Nat.le_of_ble_eq_true rfl) ⟨hcA, hsA⟩ d_LW_law_1117 (fun r9 u9 H locs hq hP hD hS => ?_)
      obtain ⟨qa1117, ab1117, ac1117, qb1117, be1117, bc1117, wd1117⟩ := u9
      subst hq
      have hP : va_P g.1 cl (CW g ad rg hd (nF od) (nF tx) (nI td) sm pa pr fl op du qa1117 ab1117 ac1117 qb1117 be1117 bc1117 wd1117 ++ ((oa, aJ g 1 (vp_updL ou 0 ((nI (toL od (adL [] (rg k1)) 6)).toInt64))) :: (MW g ma cd rg hd (nF oo) (nF kp) (nI td) (nF tx) ct fd os oq vs sk ++ []))) H := hP
      have hD : va_D (gA g) (CW g ad rg hd (nF od) (nF tx) (nI td) sm pa pr fl op du qa1117 ab1117 ac1117 qb1117 be1117 bc1117 wd1117 ++ ((oa, aJ g 1 (vp_updL ou 0 ((nI (toL od (adL [] (rg k1)) 6)).toInt64))) :: (MW g ma cd rg hd (nF oo) (nF kp) (nI td) (nF tx) ct fd os oq vs sk ++ []))) := hD
      refine lv_istore (lv' := [(5, .int (nI 0)), (4, .int (nI i)), (0, .ref b), (1, .ref (ad 0)), (2, .ref (ma 0)), (3, .ref oa)]) hx hb d_LW_law_1120 hl (by decide) rfl (fun ls hl => ?_)
      refine lv_aload_n hx hb d_LW_law_1122 rfl (lv_at hl 4 rfl) ?_
      refine lv_aload_n hx hb d_LW_law_1123 rfl (lv_at hl 2 rfl) ?_
      refine lv_iload hx hb d_LW_law_1124 (lv_at hl 1 rfl) ?_
      refine lv_iconst (v := nI 1) hx hb d_LW_law_1126 (by decide) ?_
      refine rn_add hx hb d_LW_law_1127 ?_
      refine rl_s hx hb hX hbl hbA hS (by omega) (by omega) hx1 d_LW_law_1128 ?_
      have hP : va_P g.1 cl (MW g ma cd rg hd (nF oo) (nF kp) (nI td) (nF tx) ct fd os oq vs sk ++ ((oa, aJ g 1 (vp_updL ou 0 ((nI (toL od (adL [] (rg k1)) 6)).toInt64))) :: (CW g ad rg hd (nF od) (nF tx) (nI td) sm pa pr fl op du qa1117 ab1117 ac1117 qb1117 be1117 bc1117 wd1117 ++ []))) H := wp_perm (pm_ab _ _ _) hP
      have hD : va_D (gA g) (MW g ma cd rg hd (nF oo) (nF kp) (nI td) (nF tx) ct fd os oq vs sk ++ ((oa, aJ g 1 (vp_updL ou 0 ((nI (toL od (adL [] (rg k1)) 6)).toInt64))) :: (CW g ad rg hd (nF od) (nF tx) (nI td) sm pa pr fl op du qa1117 ab1117 ac1117 qb1117 be1117 bc1117 wd1117 ++ []))) := wd_perm (pm_ab _ _ _) hD
      refine pc_Vi (q0 := 0) (As := [.int (nI k1)]) (rest := []) hx hb (hml.trans hl.1.symm) hown ht F hP hD hS (c_MD_size l g ma cd rg hd (nF kp) (nI td) (nF tx) ct fd os oq vs sk ((oa, aJ g 1 (vp_updL ou 0 ((nI (toL od (adL [] (rg k1)) 6)).toInt64))) :: (CW g ad rg hd (nF od) (nF tx) (nI td) sm pa pr fl op du qa1117 ab1117 ac1117 qb1117 be1117 bc1117 wd1117 ++ [])) oo k1 (by first | omega | exact q1 | exact q2 | exact q2.1 | exact q2.2 | exact q2.2.1 | exact q2.2.2 | exact I9.1.1 | exact I9.2.2.2.2 | exact I9.oo.1 | exact I9.oo | exact I9.2.2.2.1 | exact I9.2.2.1 | exact I9.2.2.2.2 _ (by omega) | exact (I9.2.2.2.2 _ (by omega)).resolve_right q2) (by first | omega | exact q1 | exact q2 | exact q2.1 | exact q2.2 | exact q2.2.1 | exact q2.2.2 | exact I9.1.1 | exact I9.2.2.2.2 | exact I9.oo.1 | exact I9.oo | exact I9.2.2.2.1 | exact I9.2.2.1 | exact I9.2.2.2.2 _ (by omega) | exact (I9.2.2.2.2 _ (by omega)).resolve_right q2) (by first | omega | exact q1 | exact q2 | exact q2.1 | exact q2.2 | exact q2.2.1 | exact q2.2.2 | exact I9.1.1 | exact I9.2.2.2.2 | exact I9.oo.1 | exact I9.oo | exact I9.2.2.2.1 | exact I9.2.2.1 | exact I9.2.2.2.2 _ (by omega) | exact (I9.2.2.2.2 _ (by omega)).resolve_right q2)) v_MD_size tw_616 ⟨rfl, rfl⟩ ⟨by decide, by decide⟩ rfl rfl rfl rfl (Nat.le_of_ble_eq_true rfl) ⟨hcA, hsA⟩ d_LW_law_1129 (fun r9 u9 H locs hq hP hD hS => ?_)
      obtain ⟨ct1129, fd1129⟩ := u9
      obtain ⟨hq, pq1129⟩ := hq
      have pq1129 : True := pq1129
      subst hq
      have hP : va_P g.1 cl (MW g ma (nI 0) rg hd (nF oo) (nF kp) (nI td) (nF tx) ct1129 fd1129 os oq vs sk ++ ((oa, aJ g 1 (vp_updL ou 0 ((nI (toL od (adL [] (rg k1)) 6)).toInt64))) :: (CW g ad rg hd (nF od) (nF tx) (nI td) sm pa pr fl op du qa1117 ab1117 ac1117 qb1117 be1117 bc1117 wd1117 ++ []))) H := hP
      have hD : va_D (gA g) (MW g ma (nI 0) rg hd (nF oo) (nF kp) (nI td) (nF tx) ct1129 fd1129 os oq vs sk ++ ((oa, aJ g 1 (vp_updL ou 0 ((nI (toL od (adL [] (rg k1)) 6)).toInt64))) :: (CW g ad rg hd (nF od) (nF tx) (nI td) sm pa pr fl op du qa1117 ab1117 ac1117 qb1117 be1117 bc1117 wd1117 ++ []))) := hD
      refine lv_istore (lv' := [(6, .int (nI (szL oo (rg k1) 6))), (5, .int (nI 0)), (4, .int (nI i)), (0, .ref b), (1, .ref (ad 0)), (2, .ref (ma 0)), (3, .ref oa)]) hx hb d_LW_law_1132 hl (by decide) rfl (fun ls hl => ?_)
      refine lv_aload_n hx hb d_LW_law_1134 rfl (lv_at hl 5 rfl) ?_
      refine pc_Vi (q0 := 0) (As := []) (rest := []) hx hb (hml.trans hl.1.symm) hown ht F hP hD hS (c_MD_thrown l g ma (nI 0) rg hd (nF oo) (nF kp) (nI td) (nF tx) ct1129 fd1129 os oq vs sk ((oa, aJ g 1 (vp_updL ou 0 ((nI (toL od (adL [] (rg k1)) 6)).toInt64))) :: (CW g ad rg hd (nF od) (nF tx) (nI td) sm pa pr fl op du qa1117 ab1117 ac1117 qb1117 be1117 bc1117 wd1117 ++ []))) v_MD_thrown tw_510 ⟨rfl, rfl⟩ ⟨by decide, by decide⟩ rfl rfl rfl rfl (Nat.le_of_ble_eq_true rfl) ⟨hcA, hsA⟩ d_LW_law_1135 (fun r9 u9 H locs hq hP hD hS => ?_)
      subst hq
      refine lv_iload hx hb d_LW_law_1138 (lv_at hl 1 rfl) ?_
      refine rc_eq (tgt := 1145) hx hb (by omega) (by omega) d_LW_law_1140 (by decide) (fun c1140 => ?_) (fun c1140 => ?_)
      · refine lv_iload hx hb d_LW_law_1145 (lv_at hl 1 rfl) ?_
        refine rz_ne (tgt := 1162) hx hb (by omega) d_LW_law_1147 (by decide) (fun c1147 => ?_) (fun c1147 => ?_)
        · exact (by omega : False).elim
        · refine lv_aload_n hx hb d_LW_law_1150 rfl (lv_at hl 6 rfl) ?_
          refine lv_iconst (v := nI 0) hx hb d_LW_law_1151 (by decide) ?_
          refine ra_J hx hb F hP 9 rfl (by omega) (by decide) d_LW_law_1152 ?_
          refine lv_iload hx hb d_LW_law_1153 (lv_at hl 0 rfl) ?_
          refine lv_i2l hx hb d_LW_law_1155 rfl ?_
          refine W.lcmp hx hb d_LW_law_1156 ?_
          refine lv_if_eq (tgt := 1162) hx hb d_LW_law_1157 (by decide) (fun c1157 => ?_) (fun c1157 => ?_)
          · refine lv_goto (tgt := 1402) hx hb d_LW_law_1162 (by decide) ?_
            have hP : va_P g.1 cl (CW g ad rg hd (nF od) (nF tx) (nI td) sm pa pr fl op du qa1117 ab1117 ac1117 qb1117 be1117 bc1117 wd1117 ++ ((oa, aJ g 1 (vp_updL ou 0 ((nI (toL od (adL [] (rg k1)) 6)).toInt64))) :: (MW g ma (nI 0) rg hd (nF oo) (nF kp) (nI td) (nF tx) ct1129 fd1129 os oq vs sk ++ []))) H := wp_perm (pm_ab _ _ _) hP
            have hD : va_D (gA g) (CW g ad rg hd (nF od) (nF tx) (nI td) sm pa pr fl op du qa1117 ab1117 ac1117 qb1117 be1117 bc1117 wd1117 ++ ((oa, aJ g 1 (vp_updL ou 0 ((nI (toL od (adL [] (rg k1)) 6)).toInt64))) :: (MW g ma (nI 0) rg hd (nF oo) (nF kp) (nI td) (nF tx) ct1129 fd1129 os oq vs sk ++ []))) := wd_perm (pm_ab _ _ _) hD
            refine W.widen (k := cells + 1) (n := slots + 6) (by omega) (by omega) ?_
            exact kk H locs ls ⟨rg, hd, od, tx, td, sm, pa, pr, fl, op, du, qa1117, ab1117, ac1117, qb1117, be1117, bc1117, wd1117, vp_updL ou 0 ((nI (toL od (adL [] (rg k1)) 6)).toInt64), nI 0, oo, kp, ct1129, fd1129, os, oq, vs, sk, I9, hP, hD⟩ hS (lv_sub hl [2, 3, 4, 5, 6] rfl)
          · exact absurd ((lg_cmp_eq _ _).mpr (by rw [uL_s, sz_eq I9])) c1157
      · exact (by omega : False).elim
    · refine lv_aload_n hx hb d_LW_law_1109 rfl (lv_at hl 2 rfl) ?_
      refine lv_aload_n hx hb d_LW_law_1110 rfl (lv_at hl 1 rfl) ?_
      refine lv_iload hx hb d_LW_law_1111 (lv_at hl 0 rfl) ?_
      refine lv_iconst (v := nI 1) hx hb d_LW_law_1113 (by decide) ?_
      refine rn_add hx hb d_LW_law_1114 ?_
      refine rl_s hx hb hX hbl hbA hS (by omega) (by omega) hx1 d_LW_law_1115 ?_
      refine lv_aload_n hx hb d_LW_law_1116 rfl (lv_at hl 4 rfl) ?_
      refine pc_T (As := [.ref (ad 0), .int (nI k1), .ref oa]) (rest := []) hx hb (hml.trans hl.1.symm) hown ht F hP hD hS (c2_LW_size l hl0 g ad oa rg hd (nF od) (nF tx) (nI td) sm pa pr fl op du qa ab ac qb be bc wd ou (MW g ma cd rg hd (nF oo) (nF kp) (nI td) (nF tx) ct fd os oq vs sk ++ []) k1 (by first | omega | exact q1 | exact q2 | exact q2.1 | exact q2.2 | exact q2.2.1 | exact q2.2.2 | exact I9.1.1 | exact I9.2.2.2.2 | exact I9.oo.1 | exact I9.oo | exact I9.2.2.2.1 | exact I9.2.2.1 | exact I9.2.2.2.2 _ (by omega) | exact (I9.2.2.2.2 _ (by omega)).resolve_right q2) (by first | omega | exact q1 | exact q2 | exact q2.1 | exact q2.2 | exact q2.2.1 | exact q2.2.2 | exact I9.1.1 | exact I9.2.2.2.2 | exact I9.oo.1 | exact I9.oo | exact I9.2.2.2.1 | exact I9.2.2.1 | exact I9.2.2.2.2 _ (by omega) | exact (I9.2.2.2.2 _ (by omega)).resolve_right q2) (by first | omega | exact q1 | exact q2 | exact q2.1 | exact q2.2 | exact q2.2.1 | exact q2.2.2 | exact I9.1.1 | exact I9.2.2.2.2 | exact I9.oo.1 | exact I9.oo | exact I9.2.2.2.1 | exact I9.2.2.1 | exact I9.2.2.2.2 _ (by omega) | exact (I9.2.2.2.2 _ (by omega)).resolve_right q2)) v_LW_size tw_413 ⟨rfl, rfl⟩ ⟨by decide, by decide⟩ rfl rfl (Nat.le_of_ble_eq_true rfl) ⟨hc1, hs1⟩ d_LW_law_1117 (fun r9 u9 H locs hq hP hD hS => ?_)
      subst hq
      have hP : va_P g.1 cl (CW g ad rg hd (nF od) (nF tx) (nI td) sm pa pr fl op du qa ab ac qb be (nI 0) wd ++ ((oa, aJ g 1 ou) :: (MW g ma cd rg hd (nF oo) (nF kp) (nI td) (nF tx) ct fd os oq vs sk ++ []))) H := hP
      have hD : va_D (gA g) (CW g ad rg hd (nF od) (nF tx) (nI td) sm pa pr fl op du qa ab ac qb be (nI 0) wd ++ ((oa, aJ g 1 ou) :: (MW g ma cd rg hd (nF oo) (nF kp) (nI td) (nF tx) ct fd os oq vs sk ++ []))) := hD
      refine lv_istore (lv' := [(5, .int (nI 2)), (4, .int (nI i)), (0, .ref b), (1, .ref (ad 0)), (2, .ref (ma 0)), (3, .ref oa)]) hx hb d_LW_law_1120 hl (by decide) rfl (fun ls hl => ?_)
      refine lv_aload_n hx hb d_LW_law_1122 rfl (lv_at hl 4 rfl) ?_
      refine lv_aload_n hx hb d_LW_law_1123 rfl (lv_at hl 2 rfl) ?_
      refine lv_iload hx hb d_LW_law_1124 (lv_at hl 1 rfl) ?_
      refine lv_iconst (v := nI 1) hx hb d_LW_law_1126 (by decide) ?_
      refine rn_add hx hb d_LW_law_1127 ?_
      refine rl_s hx hb hX hbl hbA hS (by omega) (by omega) hx1 d_LW_law_1128 ?_
      have hP : va_P g.1 cl (MW g ma cd rg hd (nF oo) (nF kp) (nI td) (nF tx) ct fd os oq vs sk ++ ((oa, aJ g 1 ou) :: (CW g ad rg hd (nF od) (nF tx) (nI td) sm pa pr fl op du qa ab ac qb be (nI 0) wd ++ []))) H := wp_perm (pm_ab _ _ _) hP
      have hD : va_D (gA g) (MW g ma cd rg hd (nF oo) (nF kp) (nI td) (nF tx) ct fd os oq vs sk ++ ((oa, aJ g 1 ou) :: (CW g ad rg hd (nF od) (nF tx) (nI td) sm pa pr fl op du qa ab ac qb be (nI 0) wd ++ []))) := wd_perm (pm_ab _ _ _) hD
      refine pc_Vi (q0 := 0) (As := [.int (nI k1)]) (rest := []) hx hb (hml.trans hl.1.symm) hown ht F hP hD hS (c2_MD_size l g ma cd rg hd (nF oo) (nF kp) (nI td) (nF tx) ct fd os oq vs sk ((oa, aJ g 1 ou) :: (CW g ad rg hd (nF od) (nF tx) (nI td) sm pa pr fl op du qa ab ac qb be (nI 0) wd ++ [])) k1 (by first | omega | exact q1 | exact q2 | exact q2.1 | exact q2.2 | exact q2.2.1 | exact q2.2.2 | exact I9.1.1 | exact I9.2.2.2.2 | exact I9.oo.1 | exact I9.oo | exact I9.2.2.2.1 | exact I9.2.2.1 | exact I9.2.2.2.2 _ (by omega) | exact (I9.2.2.2.2 _ (by omega)).resolve_right q2) (by first | omega | exact q1 | exact q2 | exact q2.1 | exact q2.2 | exact q2.2.1 | exact q2.2.2 | exact I9.1.1 | exact I9.2.2.2.2 | exact I9.oo.1 | exact I9.oo | exact I9.2.2.2.1 | exact I9.2.2.1 | exact I9.2.2.2.2 _ (by omega) | exact (I9.2.2.2.2 _ (by omega)).resolve_right q2)) v_MD_size tw_616 ⟨rfl, rfl⟩ ⟨by decide, by decide⟩ rfl rfl rfl rfl (Nat.le_of_ble_eq_true rfl) ⟨hc1, hs1⟩ d_LW_law_1129 (fun r9 u9 H locs hq hP hD hS => ?_)
      subst hq
      have hP : va_P g.1 cl (MW g ma (nI 2) rg hd (nF oo) (nF kp) (nI td) (nF tx) ct fd os oq vs sk ++ ((oa, aJ g 1 ou) :: (CW g ad rg hd (nF od) (nF tx) (nI td) sm pa pr fl op du qa ab ac qb be (nI 0) wd ++ []))) H := hP
      have hD : va_D (gA g) (MW g ma (nI 2) rg hd (nF oo) (nF kp) (nI td) (nF tx) ct fd os oq vs sk ++ ((oa, aJ g 1 ou) :: (CW g ad rg hd (nF od) (nF tx) (nI td) sm pa pr fl op du qa ab ac qb be (nI 0) wd ++ []))) := hD
      refine lv_istore (lv' := [(6, .int (nI 0)), (5, .int (nI 2)), (4, .int (nI i)), (0, .ref b), (1, .ref (ad 0)), (2, .ref (ma 0)), (3, .ref oa)]) hx hb d_LW_law_1132 hl (by decide) rfl (fun ls hl => ?_)
      refine lv_aload_n hx hb d_LW_law_1134 rfl (lv_at hl 5 rfl) ?_
      refine pc_Vi (q0 := 0) (As := []) (rest := []) hx hb (hml.trans hl.1.symm) hown ht F hP hD hS (c_MD_thrown l g ma (nI 2) rg hd (nF oo) (nF kp) (nI td) (nF tx) ct fd os oq vs sk ((oa, aJ g 1 ou) :: (CW g ad rg hd (nF od) (nF tx) (nI td) sm pa pr fl op du qa ab ac qb be (nI 0) wd ++ []))) v_MD_thrown tw_510 ⟨rfl, rfl⟩ ⟨by decide, by decide⟩ rfl rfl rfl rfl (Nat.le_of_ble_eq_true rfl) ⟨hc1, hs1⟩ d_LW_law_1135 (fun r9 u9 H locs hq hP hD hS => ?_)
      subst hq
      refine lv_iload hx hb d_LW_law_1138 (lv_at hl 1 rfl) ?_
      refine rc_eq (tgt := 1145) hx hb (by omega) (by omega) d_LW_law_1140 (by decide) (fun c1140 => ?_) (fun c1140 => ?_)
      · refine lv_iload hx hb d_LW_law_1145 (lv_at hl 1 rfl) ?_
        refine rz_ne (tgt := 1162) hx hb (by omega) d_LW_law_1147 (by decide) (fun c1147 => ?_) (fun c1147 => ?_)
        · refine lv_goto (tgt := 1402) hx hb d_LW_law_1162 (by decide) ?_
          have hP : va_P g.1 cl (CW g ad rg hd (nF od) (nF tx) (nI td) sm pa pr fl op du qa ab ac qb be (nI 0) wd ++ ((oa, aJ g 1 ou) :: (MW g ma (nI 2) rg hd (nF oo) (nF kp) (nI td) (nF tx) ct fd os oq vs sk ++ []))) H := wp_perm (pm_ab _ _ _) hP
          have hD : va_D (gA g) (CW g ad rg hd (nF od) (nF tx) (nI td) sm pa pr fl op du qa ab ac qb be (nI 0) wd ++ ((oa, aJ g 1 ou) :: (MW g ma (nI 2) rg hd (nF oo) (nF kp) (nI td) (nF tx) ct fd os oq vs sk ++ []))) := wd_perm (pm_ab _ _ _) hD
          refine W.widen (k := cells + 1) (n := slots + 6) (by omega) (by omega) ?_
          exact kk H locs ls ⟨rg, hd, od, tx, td, sm, pa, pr, fl, op, du, qa, ab, ac, qb, be, nI 0, wd, ou, nI 2, oo, kp, ct, fd, os, oq, vs, sk, I9, hP, hD⟩ hS (lv_sub hl [2, 3, 4, 5, 6] rfl)
        · exact (by omega : False).elim
      · exact (by omega : False).elim
  · refine lv_aload_n hx hb d_LW_law_1109 rfl (lv_at hl 2 rfl) ?_
    refine lv_aload_n hx hb d_LW_law_1110 rfl (lv_at hl 1 rfl) ?_
    refine lv_iload hx hb d_LW_law_1111 (lv_at hl 0 rfl) ?_
    refine lv_iconst (v := nI 1) hx hb d_LW_law_1113 (by decide) ?_
    refine rn_add hx hb d_LW_law_1114 ?_
    refine rl_s hx hb hX hbl hbA hS (by omega) (by omega) hx1 d_LW_law_1115 ?_
    refine lv_aload_n hx hb d_LW_law_1116 rfl (lv_at hl 4 rfl) ?_
    refine pc_T (As := [.ref (ad 0), .int x1, .ref oa]) (rest := []) hx hb (hml.trans hl.1.symm) hown ht F hP hD hS (c1_LW_size l hl0 g ad oa rg hd (nF od) (nF tx) (nI td) sm pa pr fl op du qa ab ac qb be bc wd ou (MW g ma cd rg hd (nF oo) (nF kp) (nI td) (nF tx) ct fd os oq vs sk ++ []) x1 (by first | omega | exact q1 | exact q2 | exact q2.1 | exact q2.2 | exact q2.2.1 | exact q2.2.2 | exact I9.1.1 | exact I9.2.2.2.2 | exact I9.oo.1 | exact I9.oo | exact I9.2.2.2.1 | exact I9.2.2.1 | exact I9.2.2.2.2 _ (by omega) | exact (I9.2.2.2.2 _ (by omega)).resolve_right q2)) v_LW_size tw_413 ⟨rfl, rfl⟩ ⟨by decide, by decide⟩ rfl rfl (Nat.le_of_ble_eq_true rfl) ⟨hc1, hs1⟩ d_LW_law_1117 (fun r9 u9 H locs hq hP hD hS => ?_)
    subst hq
    refine lv_istore (lv' := [(5, .int (nI 1)), (4, .int (nI i)), (0, .ref b), (1, .ref (ad 0)), (2, .ref (ma 0)), (3, .ref oa)]) hx hb d_LW_law_1120 hl (by decide) rfl (fun ls hl => ?_)
    refine lv_aload_n hx hb d_LW_law_1122 rfl (lv_at hl 4 rfl) ?_
    refine lv_aload_n hx hb d_LW_law_1123 rfl (lv_at hl 2 rfl) ?_
    refine lv_iload hx hb d_LW_law_1124 (lv_at hl 1 rfl) ?_
    refine lv_iconst (v := nI 1) hx hb d_LW_law_1126 (by decide) ?_
    refine rn_add hx hb d_LW_law_1127 ?_
    refine rl_s hx hb hX hbl hbA hS (by omega) (by omega) hx1 d_LW_law_1128 ?_
    have hP : va_P g.1 cl (MW g ma cd rg hd (nF oo) (nF kp) (nI td) (nF tx) ct fd os oq vs sk ++ ((oa, aJ g 1 ou) :: (CW g ad rg hd (nF od) (nF tx) (nI td) sm pa pr fl op du qa ab ac qb be bc wd ++ []))) H := wp_perm (pm_ab _ _ _) hP
    have hD : va_D (gA g) (MW g ma cd rg hd (nF oo) (nF kp) (nI td) (nF tx) ct fd os oq vs sk ++ ((oa, aJ g 1 ou) :: (CW g ad rg hd (nF od) (nF tx) (nI td) sm pa pr fl op du qa ab ac qb be bc wd ++ []))) := wd_perm (pm_ab _ _ _) hD
    refine pc_Vi (q0 := 0) (As := [.int x1]) (rest := []) hx hb (hml.trans hl.1.symm) hown ht F hP hD hS (c1_MD_size l g ma cd rg hd (nF oo) (nF kp) (nI td) (nF tx) ct fd os oq vs sk ((oa, aJ g 1 ou) :: (CW g ad rg hd (nF od) (nF tx) (nI td) sm pa pr fl op du qa ab ac qb be bc wd ++ [])) x1 (by first | omega | exact q1 | exact q2 | exact q2.1 | exact q2.2 | exact q2.2.1 | exact q2.2.2 | exact I9.1.1 | exact I9.2.2.2.2 | exact I9.oo.1 | exact I9.oo | exact I9.2.2.2.1 | exact I9.2.2.1 | exact I9.2.2.2.2 _ (by omega) | exact (I9.2.2.2.2 _ (by omega)).resolve_right q2)) v_MD_size tw_616 ⟨rfl, rfl⟩ ⟨by decide, by decide⟩ rfl rfl rfl rfl (Nat.le_of_ble_eq_true rfl) ⟨hc1, hs1⟩ d_LW_law_1129 (fun r9 u9 H locs hq hP hD hS => ?_)
    subst hq
    have hP : va_P g.1 cl (MW g ma (nI 1) rg hd (nF oo) (nF kp) (nI td) (nF tx) ct fd os oq vs sk ++ ((oa, aJ g 1 ou) :: (CW g ad rg hd (nF od) (nF tx) (nI td) sm pa pr fl op du qa ab ac qb be bc wd ++ []))) H := hP
    have hD : va_D (gA g) (MW g ma (nI 1) rg hd (nF oo) (nF kp) (nI td) (nF tx) ct fd os oq vs sk ++ ((oa, aJ g 1 ou) :: (CW g ad rg hd (nF od) (nF tx) (nI td) sm pa pr fl op du qa ab ac qb be bc wd ++ []))) := hD
    refine lv_istore (lv' := [(6, .int (nI 0)), (5, .int (nI 1)), (4, .int (nI i)), (0, .ref b), (1, .ref (ad 0)), (2, .ref (ma 0)), (3, .ref oa)]) hx hb d_LW_law_1132 hl (by decide) rfl (fun ls hl => ?_)
    refine lv_aload_n hx hb d_LW_law_1134 rfl (lv_at hl 5 rfl) ?_
    refine pc_Vi (q0 := 0) (As := []) (rest := []) hx hb (hml.trans hl.1.symm) hown ht F hP hD hS (c_MD_thrown l g ma (nI 1) rg hd (nF oo) (nF kp) (nI td) (nF tx) ct fd os oq vs sk ((oa, aJ g 1 ou) :: (CW g ad rg hd (nF od) (nF tx) (nI td) sm pa pr fl op du qa ab ac qb be bc wd ++ []))) v_MD_thrown tw_510 ⟨rfl, rfl⟩ ⟨by decide, by decide⟩ rfl rfl rfl rfl (Nat.le_of_ble_eq_true rfl) ⟨hc1, hs1⟩ d_LW_law_1135 (fun r9 u9 H locs hq hP hD hS => ?_)
    subst hq
    refine lv_iload hx hb d_LW_law_1138 (lv_at hl 1 rfl) ?_
    refine rc_eq (tgt := 1145) hx hb (by omega) (by omega) d_LW_law_1140 (by decide) (fun c1140 => ?_) (fun c1140 => ?_)
    · refine lv_iload hx hb d_LW_law_1145 (lv_at hl 1 rfl) ?_
      refine rz_ne (tgt := 1162) hx hb (by omega) d_LW_law_1147 (by decide) (fun c1147 => ?_) (fun c1147 => ?_)
      · refine lv_goto (tgt := 1402) hx hb d_LW_law_1162 (by decide) ?_
        have hP : va_P g.1 cl (CW g ad rg hd (nF od) (nF tx) (nI td) sm pa pr fl op du qa ab ac qb be bc wd ++ ((oa, aJ g 1 ou) :: (MW g ma (nI 1) rg hd (nF oo) (nF kp) (nI td) (nF tx) ct fd os oq vs sk ++ []))) H := wp_perm (pm_ab _ _ _) hP
        have hD : va_D (gA g) (CW g ad rg hd (nF od) (nF tx) (nI td) sm pa pr fl op du qa ab ac qb be bc wd ++ ((oa, aJ g 1 ou) :: (MW g ma (nI 1) rg hd (nF oo) (nF kp) (nI td) (nF tx) ct fd os oq vs sk ++ []))) := wd_perm (pm_ab _ _ _) hD
        refine W.widen (k := cells + 1) (n := slots + 6) (by omega) (by omega) ?_
        exact kk H locs ls ⟨rg, hd, od, tx, td, sm, pa, pr, fl, op, du, qa, ab, ac, qb, be, bc, wd, ou, nI 1, oo, kp, ct, fd, os, oq, vs, sk, I9, hP, hD⟩ hS (lv_sub hl [2, 3, 4, 5, 6] rfl)
      · exact (by omega : False).elim
    · exact (by omega : False).elim
set_option maxRecDepth 100000 in
set_option maxHeartbeats 4000000 in
theorem st_shared {p : Program} {l : Launch} {e : Env} {s : State} {m : MethodId} {below : List Frame} {meth : Method} {c : Code} (hl0 : l.stackTraces = false) {g : Gx} {ad ma : Nat → Nat} {oa b L i : Nat} {xs : Nat → Int32} {x1 x2 x3 x4 : Int32} (hx : p.tables.exec = Jvm.exec) (hb : c.code = b_LW_law) (hml : c.maxLocals = 7) (hown : s.vm.findClass "SiftedGraphsLaw" = some m.cls) (ht : ∀ w ∈ TW, w.before #[Value.ref b] s = true) (F : Fx g s) (hX : va_X b L xs s s.heap) (hbl : b < s.heap.size) (hbA : ¬ gA g b) (hL : L ≤ 2560) (hi : i + 4 < L) (hx1 : xs (i + 1) = x1) (hx2 : xs (i + 2) = x2) (hx3 : xs (i + 3) = x3) (hx4 : xs (i + 4) = x4) {rg : Nat → Int64} {hd : Nat → Int32} {od : Nat → Nat} {tx : Nat → Nat} {td : Nat} {sm : Nat → Int64} {pa : Nat → Int64} {pr : Nat → Int64} {fl : Nat → Int64} {op : Int32} {du : Int32} {qa : Nat} {ab : Nat → Int64} {ac : Int32} {qb : Nat} {be : Nat → Int64} {bc : Int32} {wd : Nat → Int32} {ou : Nat → Int64} {cd : Int32} {oo : Nat → Nat} {kp : Nat → Nat} {ct : Int32} {fd : Nat → Int64} {os : Int32} {oq : Nat → Int32} {vs : Int32} {sk : Nat → Int64} (I9 : INV od oo tx hd td) {H : Heap} {locs : List Loc} {ls : Array Slot} (hP : va_P g.1 cl (CW g ad rg hd (nF od) (nF tx) (nI td) sm pa pr fl op du qa ab ac qb be bc wd ++ ((oa, aJ g 1 ou) :: (MW g ma cd rg hd (nF oo) (nF kp) (nI td) (nF tx) ct fd os oq vs sk ++ []))) H) (hD : va_D (gA g) (CW g ad rg hd (nF od) (nF tx) (nI td) sm pa pr fl op du qa ab ac qb be bc wd ++ ((oa, aJ g 1 ou) :: (MW g ma cd rg hd (nF oo) (nF kp) (nI td) (nF tx) ct fd os oq vs sk ++ [])))) (hS : va_S (gA g) s.heap H locs) (hl : lv_has ls 7 [(4, .int (nI i)), (0, .ref b), (1, .ref (ad 0)), (2, .ref (ma 0)), (3, .ref oa)]) {cells slots : Nat} (hc1 : cells + 1 ≤ room_1.cells) (hs1 : slots + 6 ≤ room_1.slots) {Q : State → Prop}
    (kk : ∀ (H : Heap) (locs : List Loc) (ls : Array Slot), LST g ad ma oa H → va_S (gA g) s.heap H locs → lv_has ls 7 [(4, .int (nI i)), (0, .ref b), (1, .ref (ad 0)), (2, .ref (ma 0)), (3, .ref oa)] → W p l e room_1 s m #[Value.ref b] below meth c H locs (cells + 1) (slots + 6) Q (F0 m 1402 ls [])) : W p l e room_1 s m #[Value.ref b] below meth c H locs cells slots Q (F0 m 1165 ls []) := by
  have hcA : cells ≤ room_1.cells := Nat.le_of_succ_le hc1
  have hsA : slots ≤ room_1.slots := Nat.le_trans (Nat.le_add_right _ _) hs1
  refine lv_aload_n hx hb d_LW_law_1165 rfl (lv_at hl 2 rfl) ?_
  refine pc_Vi (q0 := 0) (As := []) (rest := []) hx hb (hml.trans hl.1.symm) hown ht F hP hD hS (c_SG_shared l g ad rg hd (nF tx) (nI td) sm pa pr fl op du qa ab ac qb be bc wd ((oa, aJ g 1 ou) :: (MW g ma cd rg hd (nF oo) (nF kp) (nI td) (nF tx) ct fd os oq vs sk ++ [])) od (by first | omega | exact q1 | exact q2 | exact q2.1 | exact q2.2 | exact q2.2.1 | exact q2.2.2 | exact I9.1.1 | exact I9.2.2.2.2 | exact I9.oo.1 | exact I9.oo | exact I9.2.2.2.1 | exact I9.2.2.1 | exact I9.2.2.2.2 _ (by omega) | exact (I9.2.2.2.2 _ (by omega)).resolve_right q2) (by first | omega | exact q1 | exact q2 | exact q2.1 | exact q2.2 | exact q2.2.1 | exact q2.2.2 | exact I9.1.1 | exact I9.2.2.2.2 | exact I9.oo.1 | exact I9.oo | exact I9.2.2.2.1 | exact I9.2.2.1 | exact I9.2.2.2.2 _ (by omega) | exact (I9.2.2.2.2 _ (by omega)).resolve_right q2)) v_SG_shared tw_104 ⟨rfl, rfl⟩ ⟨by decide, by decide⟩ rfl rfl rfl rfl (Nat.le_of_ble_eq_true rfl) ⟨hcA, hsA⟩ d_LW_law_1166 (fun r9 u9 H locs hq hP hD hS => ?_)
  obtain ⟨qa1166, ab1166, ac1166, qb1166, be1166, bc1166, wd1166⟩ := u9
  subst hq
  have hP : va_P g.1 cl (CW g ad rg hd (nF od) (nF tx) (nI td) sm pa pr fl op du qa1166 ab1166 ac1166 qb1166 be1166 bc1166 wd1166 ++ ((oa, aJ g 1 ou) :: (MW g ma cd rg hd (nF oo) (nF kp) (nI td) (nF tx) ct fd os oq vs sk ++ []))) H := hP
  have hD : va_D (gA g) (CW g ad rg hd (nF od) (nF tx) (nI td) sm pa pr fl op du qa1166 ab1166 ac1166 qb1166 be1166 bc1166 wd1166 ++ ((oa, aJ g 1 ou) :: (MW g ma cd rg hd (nF oo) (nF kp) (nI td) (nF tx) ct fd os oq vs sk ++ []))) := hD
  refine lv_aload_n hx hb d_LW_law_1169 rfl (lv_at hl 3 rfl) ?_
  have hP : va_P g.1 cl (MW g ma cd rg hd (nF oo) (nF kp) (nI td) (nF tx) ct fd os oq vs sk ++ ((oa, aJ g 1 ou) :: (CW g ad rg hd (nF od) (nF tx) (nI td) sm pa pr fl op du qa1166 ab1166 ac1166 qb1166 be1166 bc1166 wd1166 ++ []))) H := wp_perm (pm_ab _ _ _) hP
  have hD : va_D (gA g) (MW g ma cd rg hd (nF oo) (nF kp) (nI td) (nF tx) ct fd os oq vs sk ++ ((oa, aJ g 1 ou) :: (CW g ad rg hd (nF od) (nF tx) (nI td) sm pa pr fl op du qa1166 ab1166 ac1166 qb1166 be1166 bc1166 wd1166 ++ []))) := wd_perm (pm_ab _ _ _) hD
  refine pc_Vi (q0 := 0) (As := []) (rest := [.int (nI (toL od (rgL rg hd 8) 6))]) hx hb (hml.trans hl.1.symm) hown ht F hP hD hS (c_MD_shared l g ma cd rg hd (nF kp) (nI td) (nF tx) ct fd os oq vs sk ((oa, aJ g 1 ou) :: (CW g ad rg hd (nF od) (nF tx) (nI td) sm pa pr fl op du qa1166 ab1166 ac1166 qb1166 be1166 bc1166 wd1166 ++ [])) oo (by first | omega | exact q1 | exact q2 | exact q2.1 | exact q2.2 | exact q2.2.1 | exact q2.2.2 | exact I9.1.1 | exact I9.2.2.2.2 | exact I9.oo.1 | exact I9.oo | exact I9.2.2.2.1 | exact I9.2.2.1 | exact I9.2.2.2.2 _ (by omega) | exact (I9.2.2.2.2 _ (by omega)).resolve_right q2)) v_MD_shared tw_628 ⟨rfl, rfl⟩ ⟨by decide, by decide⟩ rfl rfl rfl rfl (Nat.le_of_ble_eq_true rfl) ⟨hcA, hsA⟩ d_LW_law_1170 (fun r9 u9 H locs hq hP hD hS => ?_)
  obtain ⟨ct1170, fd1170⟩ := u9
  obtain ⟨hq, pq1170⟩ := hq
  have pq1170 : True := pq1170
  subst hq
  have hP : va_P g.1 cl (MW g ma (nI 0) rg hd (nF oo) (nF kp) (nI td) (nF tx) ct1170 fd1170 os oq vs sk ++ ((oa, aJ g 1 ou) :: (CW g ad rg hd (nF od) (nF tx) (nI td) sm pa pr fl op du qa1166 ab1166 ac1166 qb1166 be1166 bc1166 wd1166 ++ []))) H := hP
  have hD : va_D (gA g) (MW g ma (nI 0) rg hd (nF oo) (nF kp) (nI td) (nF tx) ct1170 fd1170 os oq vs sk ++ ((oa, aJ g 1 ou) :: (CW g ad rg hd (nF od) (nF tx) (nI td) sm pa pr fl op du qa1166 ab1166 ac1166 qb1166 be1166 bc1166 wd1166 ++ []))) := hD
  refine rc_eq (tgt := 1402) hx hb toL_lt (Nat.lt_of_le_of_lt (al_le 6 (Nat.le_refl 6)) (by decide)) d_LW_law_1173 (by decide) (fun c1173 => ?_) (fun c1173 => ?_)
  · have hP : va_P g.1 cl (CW g ad rg hd (nF od) (nF tx) (nI td) sm pa pr fl op du qa1166 ab1166 ac1166 qb1166 be1166 bc1166 wd1166 ++ ((oa, aJ g 1 ou) :: (MW g ma (nI 0) rg hd (nF oo) (nF kp) (nI td) (nF tx) ct1170 fd1170 os oq vs sk ++ []))) H := wp_perm (pm_ab _ _ _) hP
    have hD : va_D (gA g) (CW g ad rg hd (nF od) (nF tx) (nI td) sm pa pr fl op du qa1166 ab1166 ac1166 qb1166 be1166 bc1166 wd1166 ++ ((oa, aJ g 1 ou) :: (MW g ma (nI 0) rg hd (nF oo) (nF kp) (nI td) (nF tx) ct1170 fd1170 os oq vs sk ++ []))) := wd_perm (pm_ab _ _ _) hD
    refine W.widen (k := cells + 1) (n := slots + 6) (by omega) (by omega) ?_
    exact kk H locs ls ⟨rg, hd, od, tx, td, sm, pa, pr, fl, op, du, qa1166, ab1166, ac1166, qb1166, be1166, bc1166, wd1166, ou, nI 0, oo, kp, ct1170, fd1170, os, oq, vs, sk, I9, hP, hD⟩ hS (lv_sub hl [0, 1, 2, 3, 4] rfl)
  · exact absurd (al_eq I9 rg) c1173
set_option maxRecDepth 100000 in
set_option maxHeartbeats 4000000 in
theorem st_width {p : Program} {l : Launch} {e : Env} {s : State} {m : MethodId} {below : List Frame} {meth : Method} {c : Code} (hl0 : l.stackTraces = false) {g : Gx} {ad ma : Nat → Nat} {oa b L i : Nat} {xs : Nat → Int32} {x1 x2 x3 x4 : Int32} (hx : p.tables.exec = Jvm.exec) (hb : c.code = b_LW_law) (hml : c.maxLocals = 7) (hown : s.vm.findClass "SiftedGraphsLaw" = some m.cls) (ht : ∀ w ∈ TW, w.before #[Value.ref b] s = true) (F : Fx g s) (hX : va_X b L xs s s.heap) (hbl : b < s.heap.size) (hbA : ¬ gA g b) (hL : L ≤ 2560) (hi : i + 4 < L) (hx1 : xs (i + 1) = x1) (hx2 : xs (i + 2) = x2) (hx3 : xs (i + 3) = x3) (hx4 : xs (i + 4) = x4) {rg : Nat → Int64} {hd : Nat → Int32} {od : Nat → Nat} {tx : Nat → Nat} {td : Nat} {sm : Nat → Int64} {pa : Nat → Int64} {pr : Nat → Int64} {fl : Nat → Int64} {op : Int32} {du : Int32} {qa : Nat} {ab : Nat → Int64} {ac : Int32} {qb : Nat} {be : Nat → Int64} {bc : Int32} {wd : Nat → Int32} {ou : Nat → Int64} {cd : Int32} {oo : Nat → Nat} {kp : Nat → Nat} {ct : Int32} {fd : Nat → Int64} {os : Int32} {oq : Nat → Int32} {vs : Int32} {sk : Nat → Int64} (I9 : INV od oo tx hd td) {H : Heap} {locs : List Loc} {ls : Array Slot} (hP : va_P g.1 cl (CW g ad rg hd (nF od) (nF tx) (nI td) sm pa pr fl op du qa ab ac qb be bc wd ++ ((oa, aJ g 1 ou) :: (MW g ma cd rg hd (nF oo) (nF kp) (nI td) (nF tx) ct fd os oq vs sk ++ []))) H) (hD : va_D (gA g) (CW g ad rg hd (nF od) (nF tx) (nI td) sm pa pr fl op du qa ab ac qb be bc wd ++ ((oa, aJ g 1 ou) :: (MW g ma cd rg hd (nF oo) (nF kp) (nI td) (nF tx) ct fd os oq vs sk ++ [])))) (hS : va_S (gA g) s.heap H locs) (hl : lv_has ls 7 [(4, .int (nI i)), (0, .ref b), (1, .ref (ad 0)), (2, .ref (ma 0)), (3, .ref oa)]) {cells slots : Nat} (hc1 : cells + 1 ≤ room_1.cells) (hs1 : slots + 6 ≤ room_1.slots) {Q : State → Prop}
    (kk : ∀ (H : Heap) (locs : List Loc) (ls : Array Slot), LST g ad ma oa H → va_S (gA g) s.heap H locs → lv_has ls 7 [(4, .int (nI i)), (0, .ref b), (1, .ref (ad 0)), (2, .ref (ma 0)), (3, .ref oa)] → W p l e room_1 s m #[Value.ref b] below meth c H locs (cells + 1) (slots + 6) Q (F0 m 1402 ls [])) : W p l e room_1 s m #[Value.ref b] below meth c H locs cells slots Q (F0 m 1178 ls []) := by
  have hcA : cells ≤ room_1.cells := Nat.le_of_succ_le hc1
  have hsA : slots ≤ room_1.slots := Nat.le_trans (Nat.le_add_right _ _) hs1
  by_cases q1 : inR x1 6
  · obtain ⟨k1, g1, rfl⟩ := q1
    refine lv_aload_n hx hb d_LW_law_1178 rfl (lv_at hl 2 rfl) ?_
    refine lv_aload_n hx hb d_LW_law_1179 rfl (lv_at hl 1 rfl) ?_
    refine lv_iload hx hb d_LW_law_1180 (lv_at hl 0 rfl) ?_
    refine lv_iconst (v := nI 1) hx hb d_LW_law_1182 (by decide) ?_
    refine rn_add hx hb d_LW_law_1183 ?_
    refine rl_s hx hb hX hbl hbA hS (by omega) (by omega) hx1 d_LW_law_1184 ?_
    refine lv_aload_n hx hb d_LW_law_1185 rfl (lv_at hl 4 rfl) ?_
    refine pc_T (As := [.ref (ad 0), .int (nI k1), .ref oa]) (rest := []) hx hb (hml.trans hl.1.symm) hown ht F hP hD hS (c_LW_width l g ad oa rg hd (nF tx) (nI td) sm pa pr fl op du qa ab ac qb be bc wd ou (MW g ma cd rg hd (nF oo) (nF kp) (nI td) (nF tx) ct fd os oq vs sk ++ []) od k1 (by first | omega | exact q1 | exact q2 | exact q2.1 | exact q2.2 | exact q2.2.1 | exact q2.2.2 | exact I9.1.1 | exact I9.2.2.2.2 | exact I9.oo.1 | exact I9.oo | exact I9.2.2.2.1 | exact I9.2.2.1 | exact I9.2.2.2.2 _ (by omega) | exact (I9.2.2.2.2 _ (by omega)).resolve_right q2) (by first | omega | exact q1 | exact q2 | exact q2.1 | exact q2.2 | exact q2.2.1 | exact q2.2.2 | exact I9.1.1 | exact I9.2.2.2.2 | exact I9.oo.1 | exact I9.oo | exact I9.2.2.2.1 | exact I9.2.2.1 | exact I9.2.2.2.2 _ (by omega) | exact (I9.2.2.2.2 _ (by omega)).resolve_right q2) (by first | omega | exact q1 | exact q2 | exact q2.1 | exact q2.2 | exact q2.2.1 | exact q2.2.2 | exact I9.1.1 | exact I9.2.2.2.2 | exact I9.oo.1 | exact I9.oo | exact I9.2.2.2.1 | exact I9.2.2.1 | exact I9.2.2.2.2 _ (by omega) | exact (I9.2.2.2.2 _ (by omega)).resolve_right q2)) v_LW_width tw_420 ⟨rfl, rfl⟩ ⟨by decide, by decide⟩ rfl rfl (Nat.le_of_ble_eq_true rfl) ⟨hcA, hsA⟩ d_LW_law_1186 (fun r9 u9 H locs hq hP hD hS => ?_)
    obtain ⟨qa1186, ab1186, ac1186, qb1186, be1186, bc1186, wd1186⟩ := u9
    subst hq
    have hP : va_P g.1 cl (CW g ad rg hd (nF od) (nF tx) (nI td) sm pa pr fl op du qa1186 ab1186 ac1186 qb1186 be1186 bc1186 wd1186 ++ ((oa, aJ g 1 (vp_updL ou 0 ((nI (wdL od (rgL rg hd 8) k1)).toInt64))) :: (MW g ma cd rg hd (nF oo) (nF kp) (nI td) (nF tx) ct fd os oq vs sk ++ []))) H := hP
    have hD : va_D (gA g) (CW g ad rg hd (nF od) (nF tx) (nI td) sm pa pr fl op du qa1186 ab1186 ac1186 qb1186 be1186 bc1186 wd1186 ++ ((oa, aJ g 1 (vp_updL ou 0 ((nI (wdL od (rgL rg hd 8) k1)).toInt64))) :: (MW g ma cd rg hd (nF oo) (nF kp) (nI td) (nF tx) ct fd os oq vs sk ++ []))) := hD
    refine lv_istore (lv' := [(5, .int (nI 0)), (4, .int (nI i)), (0, .ref b), (1, .ref (ad 0)), (2, .ref (ma 0)), (3, .ref oa)]) hx hb d_LW_law_1189 hl (by decide) rfl (fun ls hl => ?_)
    refine lv_aload_n hx hb d_LW_law_1191 rfl (lv_at hl 4 rfl) ?_
    refine lv_aload_n hx hb d_LW_law_1192 rfl (lv_at hl 2 rfl) ?_
    refine lv_iload hx hb d_LW_law_1193 (lv_at hl 1 rfl) ?_
    refine lv_iconst (v := nI 1) hx hb d_LW_law_1195 (by decide) ?_
    refine rn_add hx hb d_LW_law_1196 ?_
    refine rl_s hx hb hX hbl hbA hS (by omega) (by omega) hx1 d_LW_law_1197 ?_
    have hP : va_P g.1 cl (MW g ma cd rg hd (nF oo) (nF kp) (nI td) (nF tx) ct fd os oq vs sk ++ ((oa, aJ g 1 (vp_updL ou 0 ((nI (wdL od (rgL rg hd 8) k1)).toInt64))) :: (CW g ad rg hd (nF od) (nF tx) (nI td) sm pa pr fl op du qa1186 ab1186 ac1186 qb1186 be1186 bc1186 wd1186 ++ []))) H := wp_perm (pm_ab _ _ _) hP
    have hD : va_D (gA g) (MW g ma cd rg hd (nF oo) (nF kp) (nI td) (nF tx) ct fd os oq vs sk ++ ((oa, aJ g 1 (vp_updL ou 0 ((nI (wdL od (rgL rg hd 8) k1)).toInt64))) :: (CW g ad rg hd (nF od) (nF tx) (nI td) sm pa pr fl op du qa1186 ab1186 ac1186 qb1186 be1186 bc1186 wd1186 ++ []))) := wd_perm (pm_ab _ _ _) hD
    refine pc_Vi (q0 := 0) (As := [.int (nI k1)]) (rest := []) hx hb (hml.trans hl.1.symm) hown ht F hP hD hS (c_MD_width l g ma cd rg hd (nF kp) (nI td) (nF tx) ct fd os oq vs sk ((oa, aJ g 1 (vp_updL ou 0 ((nI (wdL od (rgL rg hd 8) k1)).toInt64))) :: (CW g ad rg hd (nF od) (nF tx) (nI td) sm pa pr fl op du qa1186 ab1186 ac1186 qb1186 be1186 bc1186 wd1186 ++ [])) oo k1 (by first | omega | exact q1 | exact q2 | exact q2.1 | exact q2.2 | exact q2.2.1 | exact q2.2.2 | exact I9.1.1 | exact I9.2.2.2.2 | exact I9.oo.1 | exact I9.oo | exact I9.2.2.2.1 | exact I9.2.2.1 | exact I9.2.2.2.2 _ (by omega) | exact (I9.2.2.2.2 _ (by omega)).resolve_right q2) (by first | omega | exact q1 | exact q2 | exact q2.1 | exact q2.2 | exact q2.2.1 | exact q2.2.2 | exact I9.1.1 | exact I9.2.2.2.2 | exact I9.oo.1 | exact I9.oo | exact I9.2.2.2.1 | exact I9.2.2.1 | exact I9.2.2.2.2 _ (by omega) | exact (I9.2.2.2.2 _ (by omega)).resolve_right q2)) v_MD_width tw_640 ⟨rfl, rfl⟩ ⟨by decide, by decide⟩ rfl rfl rfl rfl (Nat.le_of_ble_eq_true rfl) ⟨hcA, hsA⟩ d_LW_law_1198 (fun r9 u9 H locs hq hP hD hS => ?_)
    obtain ⟨ct1198, fd1198⟩ := u9
    obtain ⟨hq, pq1198⟩ := hq
    have pq1198 : True := pq1198
    subst hq
    have hP : va_P g.1 cl (MW g ma (nI 0) rg hd (nF oo) (nF kp) (nI td) (nF tx) ct1198 fd1198 os oq vs sk ++ ((oa, aJ g 1 (vp_updL ou 0 ((nI (wdL od (rgL rg hd 8) k1)).toInt64))) :: (CW g ad rg hd (nF od) (nF tx) (nI td) sm pa pr fl op du qa1186 ab1186 ac1186 qb1186 be1186 bc1186 wd1186 ++ []))) H := hP
    have hD : va_D (gA g) (MW g ma (nI 0) rg hd (nF oo) (nF kp) (nI td) (nF tx) ct1198 fd1198 os oq vs sk ++ ((oa, aJ g 1 (vp_updL ou 0 ((nI (wdL od (rgL rg hd 8) k1)).toInt64))) :: (CW g ad rg hd (nF od) (nF tx) (nI td) sm pa pr fl op du qa1186 ab1186 ac1186 qb1186 be1186 bc1186 wd1186 ++ []))) := hD
    refine lv_istore (lv' := [(6, .int (nI ((woL oo k1 rg hd 8).length))), (5, .int (nI 0)), (4, .int (nI i)), (0, .ref b), (1, .ref (ad 0)), (2, .ref (ma 0)), (3, .ref oa)]) hx hb d_LW_law_1201 hl (by decide) rfl (fun ls hl => ?_)
    refine lv_aload_n hx hb d_LW_law_1203 rfl (lv_at hl 5 rfl) ?_
    refine pc_Vi (q0 := 0) (As := []) (rest := []) hx hb (hml.trans hl.1.symm) hown ht F hP hD hS (c_MD_thrown l g ma (nI 0) rg hd (nF oo) (nF kp) (nI td) (nF tx) ct1198 fd1198 os oq vs sk ((oa, aJ g 1 (vp_updL ou 0 ((nI (wdL od (rgL rg hd 8) k1)).toInt64))) :: (CW g ad rg hd (nF od) (nF tx) (nI td) sm pa pr fl op du qa1186 ab1186 ac1186 qb1186 be1186 bc1186 wd1186 ++ []))) v_MD_thrown tw_510 ⟨rfl, rfl⟩ ⟨by decide, by decide⟩ rfl rfl rfl rfl (Nat.le_of_ble_eq_true rfl) ⟨hcA, hsA⟩ d_LW_law_1204 (fun r9 u9 H locs hq hP hD hS => ?_)
    subst hq
    refine lv_iload hx hb d_LW_law_1207 (lv_at hl 1 rfl) ?_
    refine rc_eq (tgt := 1214) hx hb (by omega) (by omega) d_LW_law_1209 (by decide) (fun c1209 => ?_) (fun c1209 => ?_)
    · refine lv_iload hx hb d_LW_law_1214 (lv_at hl 1 rfl) ?_
      refine rz_ne (tgt := 1231) hx hb (by omega) d_LW_law_1216 (by decide) (fun c1216 => ?_) (fun c1216 => ?_)
      · exact (by omega : False).elim
      · refine lv_aload_n hx hb d_LW_law_1219 rfl (lv_at hl 6 rfl) ?_
        refine lv_iconst (v := nI 0) hx hb d_LW_law_1220 (by decide) ?_
        refine ra_J hx hb F hP 9 rfl (by omega) (by decide) d_LW_law_1221 ?_
        refine lv_iload hx hb d_LW_law_1222 (lv_at hl 0 rfl) ?_
        refine lv_i2l hx hb d_LW_law_1224 rfl ?_
        refine W.lcmp hx hb d_LW_law_1225 ?_
        refine lv_if_eq (tgt := 1231) hx hb d_LW_law_1226 (by decide) (fun c1226 => ?_) (fun c1226 => ?_)
        · refine lv_goto (tgt := 1402) hx hb d_LW_law_1231 (by decide) ?_
          have hP : va_P g.1 cl (CW g ad rg hd (nF od) (nF tx) (nI td) sm pa pr fl op du qa1186 ab1186 ac1186 qb1186 be1186 bc1186 wd1186 ++ ((oa, aJ g 1 (vp_updL ou 0 ((nI (wdL od (rgL rg hd 8) k1)).toInt64))) :: (MW g ma (nI 0) rg hd (nF oo) (nF kp) (nI td) (nF tx) ct1198 fd1198 os oq vs sk ++ []))) H := wp_perm (pm_ab _ _ _) hP
          have hD : va_D (gA g) (CW g ad rg hd (nF od) (nF tx) (nI td) sm pa pr fl op du qa1186 ab1186 ac1186 qb1186 be1186 bc1186 wd1186 ++ ((oa, aJ g 1 (vp_updL ou 0 ((nI (wdL od (rgL rg hd 8) k1)).toInt64))) :: (MW g ma (nI 0) rg hd (nF oo) (nF kp) (nI td) (nF tx) ct1198 fd1198 os oq vs sk ++ []))) := wd_perm (pm_ab _ _ _) hD
          refine W.widen (k := cells + 1) (n := slots + 6) (by omega) (by omega) ?_
          exact kk H locs ls ⟨rg, hd, od, tx, td, sm, pa, pr, fl, op, du, qa1186, ab1186, ac1186, qb1186, be1186, bc1186, wd1186, vp_updL ou 0 ((nI (wdL od (rgL rg hd 8) k1)).toInt64), nI 0, oo, kp, ct1198, fd1198, os, oq, vs, sk, I9, hP, hD⟩ hS (lv_sub hl [2, 3, 4, 5, 6] rfl)
        · exact absurd ((lg_cmp_eq _ _).mpr (by rw [uL_s, wo_eq I9 rg (by omega)])) c1226
    · exact (by omega : False).elim
  · refine lv_aload_n hx hb d_LW_law_1178 rfl (lv_at hl 2 rfl) ?_
    refine lv_aload_n hx hb d_LW_law_1179 rfl (lv_at hl 1 rfl) ?_
    refine lv_iload hx hb d_LW_law_1180 (lv_at hl 0 rfl) ?_
    refine lv_iconst (v := nI 1) hx hb d_LW_law_1182 (by decide) ?_
    refine rn_add hx hb d_LW_law_1183 ?_
    refine rl_s hx hb hX hbl hbA hS (by omega) (by omega) hx1 d_LW_law_1184 ?_
    refine lv_aload_n hx hb d_LW_law_1185 rfl (lv_at hl 4 rfl) ?_
    refine pc_T (As := [.ref (ad 0), .int x1, .ref oa]) (rest := []) hx hb (hml.trans hl.1.symm) hown ht F hP hD hS (c1_LW_width l hl0 g ad oa rg hd (nF od) (nF tx) (nI td) sm pa pr fl op du qa ab ac qb be bc wd ou (MW g ma cd rg hd (nF oo) (nF kp) (nI td) (nF tx) ct fd os oq vs sk ++ []) x1 (by first | omega | exact q1 | exact q2 | exact q2.1 | exact q2.2 | exact q2.2.1 | exact q2.2.2 | exact I9.1.1 | exact I9.2.2.2.2 | exact I9.oo.1 | exact I9.oo | exact I9.2.2.2.1 | exact I9.2.2.1 | exact I9.2.2.2.2 _ (by omega) | exact (I9.2.2.2.2 _ (by omega)).resolve_right q2)) v_LW_width tw_420 ⟨rfl, rfl⟩ ⟨by decide, by decide⟩ rfl rfl (Nat.le_of_ble_eq_true rfl) ⟨hc1, hs1⟩ d_LW_law_1186 (fun r9 u9 H locs hq hP hD hS => ?_)
    subst hq
    refine lv_istore (lv' := [(5, .int (nI 1)), (4, .int (nI i)), (0, .ref b), (1, .ref (ad 0)), (2, .ref (ma 0)), (3, .ref oa)]) hx hb d_LW_law_1189 hl (by decide) rfl (fun ls hl => ?_)
    refine lv_aload_n hx hb d_LW_law_1191 rfl (lv_at hl 4 rfl) ?_
    refine lv_aload_n hx hb d_LW_law_1192 rfl (lv_at hl 2 rfl) ?_
    refine lv_iload hx hb d_LW_law_1193 (lv_at hl 1 rfl) ?_
    refine lv_iconst (v := nI 1) hx hb d_LW_law_1195 (by decide) ?_
    refine rn_add hx hb d_LW_law_1196 ?_
    refine rl_s hx hb hX hbl hbA hS (by omega) (by omega) hx1 d_LW_law_1197 ?_
    have hP : va_P g.1 cl (MW g ma cd rg hd (nF oo) (nF kp) (nI td) (nF tx) ct fd os oq vs sk ++ ((oa, aJ g 1 ou) :: (CW g ad rg hd (nF od) (nF tx) (nI td) sm pa pr fl op du qa ab ac qb be bc wd ++ []))) H := wp_perm (pm_ab _ _ _) hP
    have hD : va_D (gA g) (MW g ma cd rg hd (nF oo) (nF kp) (nI td) (nF tx) ct fd os oq vs sk ++ ((oa, aJ g 1 ou) :: (CW g ad rg hd (nF od) (nF tx) (nI td) sm pa pr fl op du qa ab ac qb be bc wd ++ []))) := wd_perm (pm_ab _ _ _) hD
    refine pc_Vi (q0 := 0) (As := [.int x1]) (rest := []) hx hb (hml.trans hl.1.symm) hown ht F hP hD hS (c1_MD_width l g ma cd rg hd (nF oo) (nF kp) (nI td) (nF tx) ct fd os oq vs sk ((oa, aJ g 1 ou) :: (CW g ad rg hd (nF od) (nF tx) (nI td) sm pa pr fl op du qa ab ac qb be bc wd ++ [])) x1 (by first | omega | exact q1 | exact q2 | exact q2.1 | exact q2.2 | exact q2.2.1 | exact q2.2.2 | exact I9.1.1 | exact I9.2.2.2.2 | exact I9.oo.1 | exact I9.oo | exact I9.2.2.2.1 | exact I9.2.2.1 | exact I9.2.2.2.2 _ (by omega) | exact (I9.2.2.2.2 _ (by omega)).resolve_right q2)) v_MD_width tw_640 ⟨rfl, rfl⟩ ⟨by decide, by decide⟩ rfl rfl rfl rfl (Nat.le_of_ble_eq_true rfl) ⟨hc1, hs1⟩ d_LW_law_1198 (fun r9 u9 H locs hq hP hD hS => ?_)
    subst hq
    have hP : va_P g.1 cl (MW g ma (nI 1) rg hd (nF oo) (nF kp) (nI td) (nF tx) ct fd os oq vs sk ++ ((oa, aJ g 1 ou) :: (CW g ad rg hd (nF od) (nF tx) (nI td) sm pa pr fl op du qa ab ac qb be bc wd ++ []))) H := hP
    have hD : va_D (gA g) (MW g ma (nI 1) rg hd (nF oo) (nF kp) (nI td) (nF tx) ct fd os oq vs sk ++ ((oa, aJ g 1 ou) :: (CW g ad rg hd (nF od) (nF tx) (nI td) sm pa pr fl op du qa ab ac qb be bc wd ++ []))) := hD
    refine lv_istore (lv' := [(6, .int (nI 0)), (5, .int (nI 1)), (4, .int (nI i)), (0, .ref b), (1, .ref (ad 0)), (2, .ref (ma 0)), (3, .ref oa)]) hx hb d_LW_law_1201 hl (by decide) rfl (fun ls hl => ?_)
    refine lv_aload_n hx hb d_LW_law_1203 rfl (lv_at hl 5 rfl) ?_
    refine pc_Vi (q0 := 0) (As := []) (rest := []) hx hb (hml.trans hl.1.symm) hown ht F hP hD hS (c_MD_thrown l g ma (nI 1) rg hd (nF oo) (nF kp) (nI td) (nF tx) ct fd os oq vs sk ((oa, aJ g 1 ou) :: (CW g ad rg hd (nF od) (nF tx) (nI td) sm pa pr fl op du qa ab ac qb be bc wd ++ []))) v_MD_thrown tw_510 ⟨rfl, rfl⟩ ⟨by decide, by decide⟩ rfl rfl rfl rfl (Nat.le_of_ble_eq_true rfl) ⟨hc1, hs1⟩ d_LW_law_1204 (fun r9 u9 H locs hq hP hD hS => ?_)
    subst hq
    refine lv_iload hx hb d_LW_law_1207 (lv_at hl 1 rfl) ?_
    refine rc_eq (tgt := 1214) hx hb (by omega) (by omega) d_LW_law_1209 (by decide) (fun c1209 => ?_) (fun c1209 => ?_)
    · refine lv_iload hx hb d_LW_law_1214 (lv_at hl 1 rfl) ?_
      refine rz_ne (tgt := 1231) hx hb (by omega) d_LW_law_1216 (by decide) (fun c1216 => ?_) (fun c1216 => ?_)
      · refine lv_goto (tgt := 1402) hx hb d_LW_law_1231 (by decide) ?_
        have hP : va_P g.1 cl (CW g ad rg hd (nF od) (nF tx) (nI td) sm pa pr fl op du qa ab ac qb be bc wd ++ ((oa, aJ g 1 ou) :: (MW g ma (nI 1) rg hd (nF oo) (nF kp) (nI td) (nF tx) ct fd os oq vs sk ++ []))) H := wp_perm (pm_ab _ _ _) hP
        have hD : va_D (gA g) (CW g ad rg hd (nF od) (nF tx) (nI td) sm pa pr fl op du qa ab ac qb be bc wd ++ ((oa, aJ g 1 ou) :: (MW g ma (nI 1) rg hd (nF oo) (nF kp) (nI td) (nF tx) ct fd os oq vs sk ++ []))) := wd_perm (pm_ab _ _ _) hD
        refine W.widen (k := cells + 1) (n := slots + 6) (by omega) (by omega) ?_
        exact kk H locs ls ⟨rg, hd, od, tx, td, sm, pa, pr, fl, op, du, qa, ab, ac, qb, be, bc, wd, ou, nI 1, oo, kp, ct, fd, os, oq, vs, sk, I9, hP, hD⟩ hS (lv_sub hl [2, 3, 4, 5, 6] rfl)
      · exact (by omega : False).elim
    · exact (by omega : False).elim
set_option maxRecDepth 100000 in
set_option maxHeartbeats 4000000 in
theorem st_variable {p : Program} {l : Launch} {e : Env} {s : State} {m : MethodId} {below : List Frame} {meth : Method} {c : Code} (hl0 : l.stackTraces = false) {g : Gx} {ad ma : Nat → Nat} {oa b L i : Nat} {xs : Nat → Int32} {x1 x2 x3 x4 : Int32} (hx : p.tables.exec = Jvm.exec) (hb : c.code = b_LW_law) (hml : c.maxLocals = 7) (hown : s.vm.findClass "SiftedGraphsLaw" = some m.cls) (ht : ∀ w ∈ TW, w.before #[Value.ref b] s = true) (F : Fx g s) (hX : va_X b L xs s s.heap) (hbl : b < s.heap.size) (hbA : ¬ gA g b) (hL : L ≤ 2560) (hi : i + 4 < L) (hx1 : xs (i + 1) = x1) (hx2 : xs (i + 2) = x2) (hx3 : xs (i + 3) = x3) (hx4 : xs (i + 4) = x4) {rg : Nat → Int64} {hd : Nat → Int32} {od : Nat → Nat} {tx : Nat → Nat} {td : Nat} {sm : Nat → Int64} {pa : Nat → Int64} {pr : Nat → Int64} {fl : Nat → Int64} {op : Int32} {du : Int32} {qa : Nat} {ab : Nat → Int64} {ac : Int32} {qb : Nat} {be : Nat → Int64} {bc : Int32} {wd : Nat → Int32} {ou : Nat → Int64} {cd : Int32} {oo : Nat → Nat} {kp : Nat → Nat} {ct : Int32} {fd : Nat → Int64} {os : Int32} {oq : Nat → Int32} {vs : Int32} {sk : Nat → Int64} (I9 : INV od oo tx hd td) {H : Heap} {locs : List Loc} {ls : Array Slot} (hP : va_P g.1 cl (CW g ad rg hd (nF od) (nF tx) (nI td) sm pa pr fl op du qa ab ac qb be bc wd ++ ((oa, aJ g 1 ou) :: (MW g ma cd rg hd (nF oo) (nF kp) (nI td) (nF tx) ct fd os oq vs sk ++ []))) H) (hD : va_D (gA g) (CW g ad rg hd (nF od) (nF tx) (nI td) sm pa pr fl op du qa ab ac qb be bc wd ++ ((oa, aJ g 1 ou) :: (MW g ma cd rg hd (nF oo) (nF kp) (nI td) (nF tx) ct fd os oq vs sk ++ [])))) (hS : va_S (gA g) s.heap H locs) (hl : lv_has ls 7 [(4, .int (nI i)), (0, .ref b), (1, .ref (ad 0)), (2, .ref (ma 0)), (3, .ref oa)]) {cells slots : Nat} (hc1 : cells + 1 ≤ room_1.cells) (hs1 : slots + 6 ≤ room_1.slots) {Q : State → Prop}
    (kk : ∀ (H : Heap) (locs : List Loc) (ls : Array Slot), LST g ad ma oa H → va_S (gA g) s.heap H locs → lv_has ls 7 [(4, .int (nI i)), (0, .ref b), (1, .ref (ad 0)), (2, .ref (ma 0)), (3, .ref oa)] → W p l e room_1 s m #[Value.ref b] below meth c H locs (cells + 1) (slots + 6) Q (F0 m 1402 ls [])) : W p l e room_1 s m #[Value.ref b] below meth c H locs cells slots Q (F0 m 1234 ls []) := by
  have hcA : cells ≤ room_1.cells := Nat.le_of_succ_le hc1
  have hsA : slots ≤ room_1.slots := Nat.le_trans (Nat.le_add_right _ _) hs1
  by_cases q1 : inR x1 6
  · obtain ⟨k1, g1, rfl⟩ := q1
    refine lv_aload_n hx hb d_LW_law_1234 rfl (lv_at hl 2 rfl) ?_
    refine lv_aload_n hx hb d_LW_law_1235 rfl (lv_at hl 1 rfl) ?_
    refine lv_iload hx hb d_LW_law_1236 (lv_at hl 0 rfl) ?_
    refine lv_iconst (v := nI 1) hx hb d_LW_law_1238 (by decide) ?_
    refine rn_add hx hb d_LW_law_1239 ?_
    refine rl_s hx hb hX hbl hbA hS (by omega) (by omega) hx1 d_LW_law_1240 ?_
    refine lv_aload_n hx hb d_LW_law_1241 rfl (lv_at hl 4 rfl) ?_
    refine pc_T (As := [.ref (ad 0), .int (nI k1), .ref oa]) (rest := []) hx hb (hml.trans hl.1.symm) hown ht F hP hD hS (c_LW_variable l g ad oa rg hd (nF tx) (nI td) sm pa pr fl op du qa ab ac qb be bc wd ou (MW g ma cd rg hd (nF oo) (nF kp) (nI td) (nF tx) ct fd os oq vs sk ++ []) od k1 (by first | omega | exact q1 | exact q2 | exact q2.1 | exact q2.2 | exact q2.2.1 | exact q2.2.2 | exact I9.1.1 | exact I9.2.2.2.2 | exact I9.oo.1 | exact I9.oo | exact I9.2.2.2.1 | exact I9.2.2.1 | exact I9.2.2.2.2 _ (by omega) | exact (I9.2.2.2.2 _ (by omega)).resolve_right q2)) v_LW_variable tw_431 ⟨rfl, rfl⟩ ⟨by decide, by decide⟩ rfl rfl (Nat.le_of_ble_eq_true rfl) ⟨hcA, hsA⟩ d_LW_law_1242 (fun r9 u9 H locs hq hP hD hS => ?_)
    subst hq
    have hP : va_P g.1 cl (CW g ad rg hd (nF od) (nF tx) (nI td) sm pa pr fl op du qa ab ac qb be bc wd ++ ((oa, aJ g 1 (vp_updL ou 0 ((nI (od k1)).toInt64))) :: (MW g ma cd rg hd (nF oo) (nF kp) (nI td) (nF tx) ct fd os oq vs sk ++ []))) H := hP
    have hD : va_D (gA g) (CW g ad rg hd (nF od) (nF tx) (nI td) sm pa pr fl op du qa ab ac qb be bc wd ++ ((oa, aJ g 1 (vp_updL ou 0 ((nI (od k1)).toInt64))) :: (MW g ma cd rg hd (nF oo) (nF kp) (nI td) (nF tx) ct fd os oq vs sk ++ []))) := hD
    refine lv_istore (lv' := [(5, .int (nI 0)), (4, .int (nI i)), (0, .ref b), (1, .ref (ad 0)), (2, .ref (ma 0)), (3, .ref oa)]) hx hb d_LW_law_1245 hl (by decide) rfl (fun ls hl => ?_)
    refine lv_aload_n hx hb d_LW_law_1247 rfl (lv_at hl 4 rfl) ?_
    refine lv_aload_n hx hb d_LW_law_1248 rfl (lv_at hl 2 rfl) ?_
    refine lv_iload hx hb d_LW_law_1249 (lv_at hl 1 rfl) ?_
    refine lv_iconst (v := nI 1) hx hb d_LW_law_1251 (by decide) ?_
    refine rn_add hx hb d_LW_law_1252 ?_
    refine rl_s hx hb hX hbl hbA hS (by omega) (by omega) hx1 d_LW_law_1253 ?_
    have hP : va_P g.1 cl (MW g ma cd rg hd (nF oo) (nF kp) (nI td) (nF tx) ct fd os oq vs sk ++ ((oa, aJ g 1 (vp_updL ou 0 ((nI (od k1)).toInt64))) :: (CW g ad rg hd (nF od) (nF tx) (nI td) sm pa pr fl op du qa ab ac qb be bc wd ++ []))) H := wp_perm (pm_ab _ _ _) hP
    have hD : va_D (gA g) (MW g ma cd rg hd (nF oo) (nF kp) (nI td) (nF tx) ct fd os oq vs sk ++ ((oa, aJ g 1 (vp_updL ou 0 ((nI (od k1)).toInt64))) :: (CW g ad rg hd (nF od) (nF tx) (nI td) sm pa pr fl op du qa ab ac qb be bc wd ++ []))) := wd_perm (pm_ab _ _ _) hD
    refine pc_Vi (q0 := 0) (As := [.int (nI k1)]) (rest := []) hx hb (hml.trans hl.1.symm) hown ht F hP hD hS (c_MD_variable l g ma cd rg hd (nF kp) (nI td) (nF tx) ct fd os oq vs sk ((oa, aJ g 1 (vp_updL ou 0 ((nI (od k1)).toInt64))) :: (CW g ad rg hd (nF od) (nF tx) (nI td) sm pa pr fl op du qa ab ac qb be bc wd ++ [])) oo k1 (by first | omega | exact q1 | exact q2 | exact q2.1 | exact q2.2 | exact q2.2.1 | exact q2.2.2 | exact I9.1.1 | exact I9.2.2.2.2 | exact I9.oo.1 | exact I9.oo | exact I9.2.2.2.1 | exact I9.2.2.1 | exact I9.2.2.2.2 _ (by omega) | exact (I9.2.2.2.2 _ (by omega)).resolve_right q2)) v_MD_variable tw_644 ⟨rfl, rfl⟩ ⟨by decide, by decide⟩ rfl rfl rfl rfl (Nat.le_of_ble_eq_true rfl) ⟨hcA, hsA⟩ d_LW_law_1254 (fun r9 u9 H locs hq hP hD hS => ?_)
    subst hq
    have hP : va_P g.1 cl (MW g ma (nI 0) rg hd (nF oo) (nF kp) (nI td) (nF tx) ct fd os oq vs sk ++ ((oa, aJ g 1 (vp_updL ou 0 ((nI (od k1)).toInt64))) :: (CW g ad rg hd (nF od) (nF tx) (nI td) sm pa pr fl op du qa ab ac qb be bc wd ++ []))) H := hP
    have hD : va_D (gA g) (MW g ma (nI 0) rg hd (nF oo) (nF kp) (nI td) (nF tx) ct fd os oq vs sk ++ ((oa, aJ g 1 (vp_updL ou 0 ((nI (od k1)).toInt64))) :: (CW g ad rg hd (nF od) (nF tx) (nI td) sm pa pr fl op du qa ab ac qb be bc wd ++ []))) := hD
    refine lv_istore (lv' := [(6, .int (nI (oo k1))), (5, .int (nI 0)), (4, .int (nI i)), (0, .ref b), (1, .ref (ad 0)), (2, .ref (ma 0)), (3, .ref oa)]) hx hb d_LW_law_1257 hl (by decide) rfl (fun ls hl => ?_)
    refine lv_aload_n hx hb d_LW_law_1259 rfl (lv_at hl 5 rfl) ?_
    refine pc_Vi (q0 := 0) (As := []) (rest := []) hx hb (hml.trans hl.1.symm) hown ht F hP hD hS (c_MD_thrown l g ma (nI 0) rg hd (nF oo) (nF kp) (nI td) (nF tx) ct fd os oq vs sk ((oa, aJ g 1 (vp_updL ou 0 ((nI (od k1)).toInt64))) :: (CW g ad rg hd (nF od) (nF tx) (nI td) sm pa pr fl op du qa ab ac qb be bc wd ++ []))) v_MD_thrown tw_510 ⟨rfl, rfl⟩ ⟨by decide, by decide⟩ rfl rfl rfl rfl (Nat.le_of_ble_eq_true rfl) ⟨hcA, hsA⟩ d_LW_law_1260 (fun r9 u9 H locs hq hP hD hS => ?_)
    subst hq
    refine lv_iload hx hb d_LW_law_1263 (lv_at hl 1 rfl) ?_
    refine rc_eq (tgt := 1270) hx hb (by omega) (by omega) d_LW_law_1265 (by decide) (fun c1265 => ?_) (fun c1265 => ?_)
    · refine lv_iload hx hb d_LW_law_1270 (lv_at hl 1 rfl) ?_
      refine rz_ne (tgt := 1287) hx hb (by omega) d_LW_law_1272 (by decide) (fun c1272 => ?_) (fun c1272 => ?_)
      · exact (by omega : False).elim
      · refine lv_aload_n hx hb d_LW_law_1275 rfl (lv_at hl 6 rfl) ?_
        refine lv_iconst (v := nI 0) hx hb d_LW_law_1276 (by decide) ?_
        refine ra_J hx hb F hP 9 rfl (by omega) (by decide) d_LW_law_1277 ?_
        refine lv_iload hx hb d_LW_law_1278 (lv_at hl 0 rfl) ?_
        refine lv_i2l hx hb d_LW_law_1280 rfl ?_
        refine W.lcmp hx hb d_LW_law_1281 ?_
        refine lv_if_eq (tgt := 1287) hx hb d_LW_law_1282 (by decide) (fun c1282 => ?_) (fun c1282 => ?_)
        · refine lv_goto (tgt := 1402) hx hb d_LW_law_1287 (by decide) ?_
          have hP : va_P g.1 cl (CW g ad rg hd (nF od) (nF tx) (nI td) sm pa pr fl op du qa ab ac qb be bc wd ++ ((oa, aJ g 1 (vp_updL ou 0 ((nI (od k1)).toInt64))) :: (MW g ma (nI 0) rg hd (nF oo) (nF kp) (nI td) (nF tx) ct fd os oq vs sk ++ []))) H := wp_perm (pm_ab _ _ _) hP
          have hD : va_D (gA g) (CW g ad rg hd (nF od) (nF tx) (nI td) sm pa pr fl op du qa ab ac qb be bc wd ++ ((oa, aJ g 1 (vp_updL ou 0 ((nI (od k1)).toInt64))) :: (MW g ma (nI 0) rg hd (nF oo) (nF kp) (nI td) (nF tx) ct fd os oq vs sk ++ []))) := wd_perm (pm_ab _ _ _) hD
          refine W.widen (k := cells + 1) (n := slots + 6) (by omega) (by omega) ?_
          exact kk H locs ls ⟨rg, hd, od, tx, td, sm, pa, pr, fl, op, du, qa, ab, ac, qb, be, bc, wd, vp_updL ou 0 ((nI (od k1)).toInt64), nI 0, oo, kp, ct, fd, os, oq, vs, sk, I9, hP, hD⟩ hS (lv_sub hl [2, 3, 4, 5, 6] rfl)
        · exact absurd ((lg_cmp_eq _ _).mpr (by rw [uL_s, I9.2.1 _ (by omega)])) c1282
    · exact (by omega : False).elim
  · refine lv_aload_n hx hb d_LW_law_1234 rfl (lv_at hl 2 rfl) ?_
    refine lv_aload_n hx hb d_LW_law_1235 rfl (lv_at hl 1 rfl) ?_
    refine lv_iload hx hb d_LW_law_1236 (lv_at hl 0 rfl) ?_
    refine lv_iconst (v := nI 1) hx hb d_LW_law_1238 (by decide) ?_
    refine rn_add hx hb d_LW_law_1239 ?_
    refine rl_s hx hb hX hbl hbA hS (by omega) (by omega) hx1 d_LW_law_1240 ?_
    refine lv_aload_n hx hb d_LW_law_1241 rfl (lv_at hl 4 rfl) ?_
    refine pc_T (As := [.ref (ad 0), .int x1, .ref oa]) (rest := []) hx hb (hml.trans hl.1.symm) hown ht F hP hD hS (c1_LW_variable l hl0 g ad oa rg hd (nF od) (nF tx) (nI td) sm pa pr fl op du qa ab ac qb be bc wd ou (MW g ma cd rg hd (nF oo) (nF kp) (nI td) (nF tx) ct fd os oq vs sk ++ []) x1 (by first | omega | exact q1 | exact q2 | exact q2.1 | exact q2.2 | exact q2.2.1 | exact q2.2.2 | exact I9.1.1 | exact I9.2.2.2.2 | exact I9.oo.1 | exact I9.oo | exact I9.2.2.2.1 | exact I9.2.2.1 | exact I9.2.2.2.2 _ (by omega) | exact (I9.2.2.2.2 _ (by omega)).resolve_right q2)) v_LW_variable tw_431 ⟨rfl, rfl⟩ ⟨by decide, by decide⟩ rfl rfl (Nat.le_of_ble_eq_true rfl) ⟨hc1, hs1⟩ d_LW_law_1242 (fun r9 u9 H locs hq hP hD hS => ?_)
    subst hq
    refine lv_istore (lv' := [(5, .int (nI 1)), (4, .int (nI i)), (0, .ref b), (1, .ref (ad 0)), (2, .ref (ma 0)), (3, .ref oa)]) hx hb d_LW_law_1245 hl (by decide) rfl (fun ls hl => ?_)
    refine lv_aload_n hx hb d_LW_law_1247 rfl (lv_at hl 4 rfl) ?_
    refine lv_aload_n hx hb d_LW_law_1248 rfl (lv_at hl 2 rfl) ?_
    refine lv_iload hx hb d_LW_law_1249 (lv_at hl 1 rfl) ?_
    refine lv_iconst (v := nI 1) hx hb d_LW_law_1251 (by decide) ?_
    refine rn_add hx hb d_LW_law_1252 ?_
    refine rl_s hx hb hX hbl hbA hS (by omega) (by omega) hx1 d_LW_law_1253 ?_
    have hP : va_P g.1 cl (MW g ma cd rg hd (nF oo) (nF kp) (nI td) (nF tx) ct fd os oq vs sk ++ ((oa, aJ g 1 ou) :: (CW g ad rg hd (nF od) (nF tx) (nI td) sm pa pr fl op du qa ab ac qb be bc wd ++ []))) H := wp_perm (pm_ab _ _ _) hP
    have hD : va_D (gA g) (MW g ma cd rg hd (nF oo) (nF kp) (nI td) (nF tx) ct fd os oq vs sk ++ ((oa, aJ g 1 ou) :: (CW g ad rg hd (nF od) (nF tx) (nI td) sm pa pr fl op du qa ab ac qb be bc wd ++ []))) := wd_perm (pm_ab _ _ _) hD
    refine pc_Vi (q0 := 0) (As := [.int x1]) (rest := []) hx hb (hml.trans hl.1.symm) hown ht F hP hD hS (c1_MD_variable l g ma cd rg hd (nF oo) (nF kp) (nI td) (nF tx) ct fd os oq vs sk ((oa, aJ g 1 ou) :: (CW g ad rg hd (nF od) (nF tx) (nI td) sm pa pr fl op du qa ab ac qb be bc wd ++ [])) x1 (by first | omega | exact q1 | exact q2 | exact q2.1 | exact q2.2 | exact q2.2.1 | exact q2.2.2 | exact I9.1.1 | exact I9.2.2.2.2 | exact I9.oo.1 | exact I9.oo | exact I9.2.2.2.1 | exact I9.2.2.1 | exact I9.2.2.2.2 _ (by omega) | exact (I9.2.2.2.2 _ (by omega)).resolve_right q2)) v_MD_variable tw_644 ⟨rfl, rfl⟩ ⟨by decide, by decide⟩ rfl rfl rfl rfl (Nat.le_of_ble_eq_true rfl) ⟨hc1, hs1⟩ d_LW_law_1254 (fun r9 u9 H locs hq hP hD hS => ?_)
    subst hq
    have hP : va_P g.1 cl (MW g ma (nI 1) rg hd (nF oo) (nF kp) (nI td) (nF tx) ct fd os oq vs sk ++ ((oa, aJ g 1 ou) :: (CW g ad rg hd (nF od) (nF tx) (nI td) sm pa pr fl op du qa ab ac qb be bc wd ++ []))) H := hP
    have hD : va_D (gA g) (MW g ma (nI 1) rg hd (nF oo) (nF kp) (nI td) (nF tx) ct fd os oq vs sk ++ ((oa, aJ g 1 ou) :: (CW g ad rg hd (nF od) (nF tx) (nI td) sm pa pr fl op du qa ab ac qb be bc wd ++ []))) := hD
    refine lv_istore (lv' := [(6, .int (nI 0)), (5, .int (nI 1)), (4, .int (nI i)), (0, .ref b), (1, .ref (ad 0)), (2, .ref (ma 0)), (3, .ref oa)]) hx hb d_LW_law_1257 hl (by decide) rfl (fun ls hl => ?_)
    refine lv_aload_n hx hb d_LW_law_1259 rfl (lv_at hl 5 rfl) ?_
    refine pc_Vi (q0 := 0) (As := []) (rest := []) hx hb (hml.trans hl.1.symm) hown ht F hP hD hS (c_MD_thrown l g ma (nI 1) rg hd (nF oo) (nF kp) (nI td) (nF tx) ct fd os oq vs sk ((oa, aJ g 1 ou) :: (CW g ad rg hd (nF od) (nF tx) (nI td) sm pa pr fl op du qa ab ac qb be bc wd ++ []))) v_MD_thrown tw_510 ⟨rfl, rfl⟩ ⟨by decide, by decide⟩ rfl rfl rfl rfl (Nat.le_of_ble_eq_true rfl) ⟨hc1, hs1⟩ d_LW_law_1260 (fun r9 u9 H locs hq hP hD hS => ?_)
    subst hq
    refine lv_iload hx hb d_LW_law_1263 (lv_at hl 1 rfl) ?_
    refine rc_eq (tgt := 1270) hx hb (by omega) (by omega) d_LW_law_1265 (by decide) (fun c1265 => ?_) (fun c1265 => ?_)
    · refine lv_iload hx hb d_LW_law_1270 (lv_at hl 1 rfl) ?_
      refine rz_ne (tgt := 1287) hx hb (by omega) d_LW_law_1272 (by decide) (fun c1272 => ?_) (fun c1272 => ?_)
      · refine lv_goto (tgt := 1402) hx hb d_LW_law_1287 (by decide) ?_
        have hP : va_P g.1 cl (CW g ad rg hd (nF od) (nF tx) (nI td) sm pa pr fl op du qa ab ac qb be bc wd ++ ((oa, aJ g 1 ou) :: (MW g ma (nI 1) rg hd (nF oo) (nF kp) (nI td) (nF tx) ct fd os oq vs sk ++ []))) H := wp_perm (pm_ab _ _ _) hP
        have hD : va_D (gA g) (CW g ad rg hd (nF od) (nF tx) (nI td) sm pa pr fl op du qa ab ac qb be bc wd ++ ((oa, aJ g 1 ou) :: (MW g ma (nI 1) rg hd (nF oo) (nF kp) (nI td) (nF tx) ct fd os oq vs sk ++ []))) := wd_perm (pm_ab _ _ _) hD
        refine W.widen (k := cells + 1) (n := slots + 6) (by omega) (by omega) ?_
        exact kk H locs ls ⟨rg, hd, od, tx, td, sm, pa, pr, fl, op, du, qa, ab, ac, qb, be, bc, wd, ou, nI 1, oo, kp, ct, fd, os, oq, vs, sk, I9, hP, hD⟩ hS (lv_sub hl [2, 3, 4, 5, 6] rfl)
      · exact (by omega : False).elim
    · exact (by omega : False).elim
set_option maxRecDepth 100000 in
set_option maxHeartbeats 4000000 in
theorem st_swap {p : Program} {l : Launch} {e : Env} {s : State} {m : MethodId} {below : List Frame} {meth : Method} {c : Code} (hl0 : l.stackTraces = false) {g : Gx} {ad ma : Nat → Nat} {oa b L i : Nat} {xs : Nat → Int32} {x1 x2 x3 x4 : Int32} (hx : p.tables.exec = Jvm.exec) (hb : c.code = b_LW_law) (hml : c.maxLocals = 7) (hown : s.vm.findClass "SiftedGraphsLaw" = some m.cls) (ht : ∀ w ∈ TW, w.before #[Value.ref b] s = true) (F : Fx g s) (hX : va_X b L xs s s.heap) (hbl : b < s.heap.size) (hbA : ¬ gA g b) (hL : L ≤ 2560) (hi : i + 4 < L) (hx1 : xs (i + 1) = x1) (hx2 : xs (i + 2) = x2) (hx3 : xs (i + 3) = x3) (hx4 : xs (i + 4) = x4) {rg : Nat → Int64} {hd : Nat → Int32} {od : Nat → Nat} {tx : Nat → Nat} {td : Nat} {sm : Nat → Int64} {pa : Nat → Int64} {pr : Nat → Int64} {fl : Nat → Int64} {op : Int32} {du : Int32} {qa : Nat} {ab : Nat → Int64} {ac : Int32} {qb : Nat} {be : Nat → Int64} {bc : Int32} {wd : Nat → Int32} {ou : Nat → Int64} {cd : Int32} {oo : Nat → Nat} {kp : Nat → Nat} {ct : Int32} {fd : Nat → Int64} {os : Int32} {oq : Nat → Int32} {vs : Int32} {sk : Nat → Int64} (I9 : INV od oo tx hd td) {H : Heap} {locs : List Loc} {ls : Array Slot} (hP : va_P g.1 cl (CW g ad rg hd (nF od) (nF tx) (nI td) sm pa pr fl op du qa ab ac qb be bc wd ++ ((oa, aJ g 1 ou) :: (MW g ma cd rg hd (nF oo) (nF kp) (nI td) (nF tx) ct fd os oq vs sk ++ []))) H) (hD : va_D (gA g) (CW g ad rg hd (nF od) (nF tx) (nI td) sm pa pr fl op du qa ab ac qb be bc wd ++ ((oa, aJ g 1 ou) :: (MW g ma cd rg hd (nF oo) (nF kp) (nI td) (nF tx) ct fd os oq vs sk ++ [])))) (hS : va_S (gA g) s.heap H locs) (hl : lv_has ls 7 [(4, .int (nI i)), (0, .ref b), (1, .ref (ad 0)), (2, .ref (ma 0)), (3, .ref oa)]) {cells slots : Nat} (hc1 : cells + 1 ≤ room_1.cells) (hs1 : slots + 6 ≤ room_1.slots) {Q : State → Prop}
    (kk : ∀ (H : Heap) (locs : List Loc) (ls : Array Slot), LST g ad ma oa H → va_S (gA g) s.heap H locs → lv_has ls 7 [(4, .int (nI i)), (0, .ref b), (1, .ref (ad 0)), (2, .ref (ma 0)), (3, .ref oa)] → W p l e room_1 s m #[Value.ref b] below meth c H locs (cells + 1) (slots + 6) Q (F0 m 1402 ls [])) : W p l e room_1 s m #[Value.ref b] below meth c H locs cells slots Q (F0 m 1290 ls []) := by
  have hcA : cells ≤ room_1.cells := Nat.le_of_succ_le hc1
  have hsA : slots ≤ room_1.slots := Nat.le_trans (Nat.le_add_right _ _) hs1
  by_cases q1 : inR x1 5
  · obtain ⟨k1, g1, rfl⟩ := q1
    refine lv_aload_n hx hb d_LW_law_1290 rfl (lv_at hl 2 rfl) ?_
    refine lv_aload_n hx hb d_LW_law_1291 rfl (lv_at hl 1 rfl) ?_
    refine lv_iload hx hb d_LW_law_1292 (lv_at hl 0 rfl) ?_
    refine lv_iconst (v := nI 1) hx hb d_LW_law_1294 (by decide) ?_
    refine rn_add hx hb d_LW_law_1295 ?_
    refine rl_s hx hb hX hbl hbA hS (by omega) (by omega) hx1 d_LW_law_1296 ?_
    refine lv_aload_n hx hb d_LW_law_1297 rfl (lv_at hl 4 rfl) ?_
    refine pc_T (As := [.ref (ad 0), .int (nI k1), .ref oa]) (rest := []) hx hb (hml.trans hl.1.symm) hown ht F hP hD hS (c_LW_swap l g ad oa rg hd (nF tx) (nI td) sm pa pr fl op du qa ab ac qb be bc wd ou (MW g ma cd rg hd (nF oo) (nF kp) (nI td) (nF tx) ct fd os oq vs sk ++ []) od k1 (by first | omega | exact q1 | exact q2 | exact q2.1 | exact q2.2 | exact q2.2.1 | exact q2.2.2 | exact I9.1.1 | exact I9.2.2.2.2 | exact I9.oo.1 | exact I9.oo | exact I9.2.2.2.1 | exact I9.2.2.1 | exact I9.2.2.2.2 _ (by omega) | exact (I9.2.2.2.2 _ (by omega)).resolve_right q2) (by first | omega | exact q1 | exact q2 | exact q2.1 | exact q2.2 | exact q2.2.1 | exact q2.2.2 | exact I9.1.1 | exact I9.2.2.2.2 | exact I9.oo.1 | exact I9.oo | exact I9.2.2.2.1 | exact I9.2.2.1 | exact I9.2.2.2.2 _ (by omega) | exact (I9.2.2.2.2 _ (by omega)).resolve_right q2) (by first | omega | exact q1 | exact q2 | exact q2.1 | exact q2.2 | exact q2.2.1 | exact q2.2.2 | exact I9.1.1 | exact I9.2.2.2.2 | exact I9.oo.1 | exact I9.oo | exact I9.2.2.2.1 | exact I9.2.2.1 | exact I9.2.2.2.2 _ (by omega) | exact (I9.2.2.2.2 _ (by omega)).resolve_right q2)) v_LW_swap tw_438 ⟨rfl, rfl⟩ ⟨by decide, by decide⟩ rfl rfl (Nat.le_of_ble_eq_true rfl) ⟨hcA, hsA⟩ d_LW_law_1298 (fun r9 u9 H locs hq hP hD hS => ?_)
    obtain ⟨qa1298, ab1298, ac1298, qb1298, be1298, bc1298, wd1298⟩ := u9
    subst hq
    have hP : va_P g.1 cl (CW g ad rg hd (nF (xch od k1)) (nF tx) (nI td) sm pa pr fl op du qa1298 ab1298 ac1298 qb1298 be1298 bc1298 wd1298 ++ ((oa, aJ g 1 (vp_updL ou 0 ((nI (toL (xch od k1) (rgL rg hd 8) 6)).toInt64))) :: (MW g ma cd rg hd (nF oo) (nF kp) (nI td) (nF tx) ct fd os oq vs sk ++ []))) H := hP
    have hD : va_D (gA g) (CW g ad rg hd (nF (xch od k1)) (nF tx) (nI td) sm pa pr fl op du qa1298 ab1298 ac1298 qb1298 be1298 bc1298 wd1298 ++ ((oa, aJ g 1 (vp_updL ou 0 ((nI (toL (xch od k1) (rgL rg hd 8) 6)).toInt64))) :: (MW g ma cd rg hd (nF oo) (nF kp) (nI td) (nF tx) ct fd os oq vs sk ++ []))) := hD
    refine lv_istore (lv' := [(5, .int (nI 0)), (4, .int (nI i)), (0, .ref b), (1, .ref (ad 0)), (2, .ref (ma 0)), (3, .ref oa)]) hx hb d_LW_law_1301 hl (by decide) rfl (fun ls hl => ?_)
    refine lv_aload_n hx hb d_LW_law_1303 rfl (lv_at hl 4 rfl) ?_
    refine lv_aload_n hx hb d_LW_law_1304 rfl (lv_at hl 2 rfl) ?_
    refine lv_iload hx hb d_LW_law_1305 (lv_at hl 1 rfl) ?_
    refine lv_iconst (v := nI 1) hx hb d_LW_law_1307 (by decide) ?_
    refine rn_add hx hb d_LW_law_1308 ?_
    refine rl_s hx hb hX hbl hbA hS (by omega) (by omega) hx1 d_LW_law_1309 ?_
    have hP : va_P g.1 cl (MW g ma cd rg hd (nF oo) (nF kp) (nI td) (nF tx) ct fd os oq vs sk ++ ((oa, aJ g 1 (vp_updL ou 0 ((nI (toL (xch od k1) (rgL rg hd 8) 6)).toInt64))) :: (CW g ad rg hd (nF (xch od k1)) (nF tx) (nI td) sm pa pr fl op du qa1298 ab1298 ac1298 qb1298 be1298 bc1298 wd1298 ++ []))) H := wp_perm (pm_ab _ _ _) hP
    have hD : va_D (gA g) (MW g ma cd rg hd (nF oo) (nF kp) (nI td) (nF tx) ct fd os oq vs sk ++ ((oa, aJ g 1 (vp_updL ou 0 ((nI (toL (xch od k1) (rgL rg hd 8) 6)).toInt64))) :: (CW g ad rg hd (nF (xch od k1)) (nF tx) (nI td) sm pa pr fl op du qa1298 ab1298 ac1298 qb1298 be1298 bc1298 wd1298 ++ []))) := wd_perm (pm_ab _ _ _) hD
    refine pc_Vi (q0 := 0) (As := [.int (nI k1)]) (rest := []) hx hb (hml.trans hl.1.symm) hown ht F hP hD hS (c_MD_swap l g ma cd rg hd (nF kp) (nI td) (nF tx) ct fd os oq vs sk ((oa, aJ g 1 (vp_updL ou 0 ((nI (toL (xch od k1) (rgL rg hd 8) 6)).toInt64))) :: (CW g ad rg hd (nF (xch od k1)) (nF tx) (nI td) sm pa pr fl op du qa1298 ab1298 ac1298 qb1298 be1298 bc1298 wd1298 ++ [])) oo k1 (by first | omega | exact q1 | exact q2 | exact q2.1 | exact q2.2 | exact q2.2.1 | exact q2.2.2 | exact I9.1.1 | exact I9.2.2.2.2 | exact I9.oo.1 | exact I9.oo | exact I9.2.2.2.1 | exact I9.2.2.1 | exact I9.2.2.2.2 _ (by omega) | exact (I9.2.2.2.2 _ (by omega)).resolve_right q2) (by first | omega | exact q1 | exact q2 | exact q2.1 | exact q2.2 | exact q2.2.1 | exact q2.2.2 | exact I9.1.1 | exact I9.2.2.2.2 | exact I9.oo.1 | exact I9.oo | exact I9.2.2.2.1 | exact I9.2.2.1 | exact I9.2.2.2.2 _ (by omega) | exact (I9.2.2.2.2 _ (by omega)).resolve_right q2)) v_MD_swap tw_648 ⟨rfl, rfl⟩ ⟨by decide, by decide⟩ rfl rfl rfl rfl (Nat.le_of_ble_eq_true rfl) ⟨hcA, hsA⟩ d_LW_law_1310 (fun r9 u9 H locs hq hP hD hS => ?_)
    obtain ⟨ct1310, fd1310⟩ := u9
    obtain ⟨hq, pq1310⟩ := hq
    have pq1310 : True := pq1310
    subst hq
    have hP : va_P g.1 cl (MW g ma (nI 0) rg hd (nF (xch oo k1)) (nF kp) (nI td) (nF tx) ct1310 fd1310 os oq vs sk ++ ((oa, aJ g 1 (vp_updL ou 0 ((nI (toL (xch od k1) (rgL rg hd 8) 6)).toInt64))) :: (CW g ad rg hd (nF (xch od k1)) (nF tx) (nI td) sm pa pr fl op du qa1298 ab1298 ac1298 qb1298 be1298 bc1298 wd1298 ++ []))) H := hP
    have hD : va_D (gA g) (MW g ma (nI 0) rg hd (nF (xch oo k1)) (nF kp) (nI td) (nF tx) ct1310 fd1310 os oq vs sk ++ ((oa, aJ g 1 (vp_updL ou 0 ((nI (toL (xch od k1) (rgL rg hd 8) 6)).toInt64))) :: (CW g ad rg hd (nF (xch od k1)) (nF tx) (nI td) sm pa pr fl op du qa1298 ab1298 ac1298 qb1298 be1298 bc1298 wd1298 ++ []))) := hD
    refine lv_istore (lv' := [(6, .int (nI (alL (xch oo k1) rg hd 6))), (5, .int (nI 0)), (4, .int (nI i)), (0, .ref b), (1, .ref (ad 0)), (2, .ref (ma 0)), (3, .ref oa)]) hx hb d_LW_law_1313 hl (by decide) rfl (fun ls hl => ?_)
    refine lv_aload_n hx hb d_LW_law_1315 rfl (lv_at hl 5 rfl) ?_
    refine pc_Vi (q0 := 0) (As := []) (rest := []) hx hb (hml.trans hl.1.symm) hown ht F hP hD hS (c_MD_thrown l g ma (nI 0) rg hd (nF (xch oo k1)) (nF kp) (nI td) (nF tx) ct1310 fd1310 os oq vs sk ((oa, aJ g 1 (vp_updL ou 0 ((nI (toL (xch od k1) (rgL rg hd 8) 6)).toInt64))) :: (CW g ad rg hd (nF (xch od k1)) (nF tx) (nI td) sm pa pr fl op du qa1298 ab1298 ac1298 qb1298 be1298 bc1298 wd1298 ++ []))) v_MD_thrown tw_510 ⟨rfl, rfl⟩ ⟨by decide, by decide⟩ rfl rfl rfl rfl (Nat.le_of_ble_eq_true rfl) ⟨hcA, hsA⟩ d_LW_law_1316 (fun r9 u9 H locs hq hP hD hS => ?_)
    subst hq
    refine lv_iload hx hb d_LW_law_1319 (lv_at hl 1 rfl) ?_
    refine rc_eq (tgt := 1326) hx hb (by omega) (by omega) d_LW_law_1321 (by decide) (fun c1321 => ?_) (fun c1321 => ?_)
    · refine lv_iload hx hb d_LW_law_1326 (lv_at hl 1 rfl) ?_
      refine rz_ne (tgt := 1343) hx hb (by omega) d_LW_law_1328 (by decide) (fun c1328 => ?_) (fun c1328 => ?_)
      · exact (by omega : False).elim
      · refine lv_aload_n hx hb d_LW_law_1331 rfl (lv_at hl 6 rfl) ?_
        refine lv_iconst (v := nI 0) hx hb d_LW_law_1332 (by decide) ?_
        refine ra_J hx hb F hP 9 rfl (by omega) (by decide) d_LW_law_1333 ?_
        refine lv_iload hx hb d_LW_law_1334 (lv_at hl 0 rfl) ?_
        refine lv_i2l hx hb d_LW_law_1336 rfl ?_
        refine W.lcmp hx hb d_LW_law_1337 ?_
        refine lv_if_eq (tgt := 1343) hx hb d_LW_law_1338 (by decide) (fun c1338 => ?_) (fun c1338 => ?_)
        · refine lv_goto (tgt := 1402) hx hb d_LW_law_1343 (by decide) ?_
          have hP : va_P g.1 cl (CW g ad rg hd (nF (xch od k1)) (nF tx) (nI td) sm pa pr fl op du qa1298 ab1298 ac1298 qb1298 be1298 bc1298 wd1298 ++ ((oa, aJ g 1 (vp_updL ou 0 ((nI (toL (xch od k1) (rgL rg hd 8) 6)).toInt64))) :: (MW g ma (nI 0) rg hd (nF (xch oo k1)) (nF kp) (nI td) (nF tx) ct1310 fd1310 os oq vs sk ++ []))) H := wp_perm (pm_ab _ _ _) hP
          have hD : va_D (gA g) (CW g ad rg hd (nF (xch od k1)) (nF tx) (nI td) sm pa pr fl op du qa1298 ab1298 ac1298 qb1298 be1298 bc1298 wd1298 ++ ((oa, aJ g 1 (vp_updL ou 0 ((nI (toL (xch od k1) (rgL rg hd 8) 6)).toInt64))) :: (MW g ma (nI 0) rg hd (nF (xch oo k1)) (nF kp) (nI td) (nF tx) ct1310 fd1310 os oq vs sk ++ []))) := wd_perm (pm_ab _ _ _) hD
          refine W.widen (k := cells + 1) (n := slots + 6) (by omega) (by omega) ?_
          exact kk H locs ls ⟨rg, hd, xch od k1, tx, td, sm, pa, pr, fl, op, du, qa1298, ab1298, ac1298, qb1298, be1298, bc1298, wd1298, vp_updL ou 0 ((nI (toL (xch od k1) (rgL rg hd 8) 6)).toInt64), nI 0, xch oo k1, kp, ct1310, fd1310, os, oq, vs, sk, (I9.swp (by omega)), hP, hD⟩ hS (lv_sub hl [2, 3, 4, 5, 6] rfl)
        · exact absurd ((lg_cmp_eq _ _).mpr (by rw [uL_s, al_eq (I9.swp (by omega)) rg])) c1338
    · exact (by omega : False).elim
  · refine lv_aload_n hx hb d_LW_law_1290 rfl (lv_at hl 2 rfl) ?_
    refine lv_aload_n hx hb d_LW_law_1291 rfl (lv_at hl 1 rfl) ?_
    refine lv_iload hx hb d_LW_law_1292 (lv_at hl 0 rfl) ?_
    refine lv_iconst (v := nI 1) hx hb d_LW_law_1294 (by decide) ?_
    refine rn_add hx hb d_LW_law_1295 ?_
    refine rl_s hx hb hX hbl hbA hS (by omega) (by omega) hx1 d_LW_law_1296 ?_
    refine lv_aload_n hx hb d_LW_law_1297 rfl (lv_at hl 4 rfl) ?_
    refine pc_T (As := [.ref (ad 0), .int x1, .ref oa]) (rest := []) hx hb (hml.trans hl.1.symm) hown ht F hP hD hS (c1_LW_swap l hl0 g ad oa rg hd (nF od) (nF tx) (nI td) sm pa pr fl op du qa ab ac qb be bc wd ou (MW g ma cd rg hd (nF oo) (nF kp) (nI td) (nF tx) ct fd os oq vs sk ++ []) x1 (by first | omega | exact q1 | exact q2 | exact q2.1 | exact q2.2 | exact q2.2.1 | exact q2.2.2 | exact I9.1.1 | exact I9.2.2.2.2 | exact I9.oo.1 | exact I9.oo | exact I9.2.2.2.1 | exact I9.2.2.1 | exact I9.2.2.2.2 _ (by omega) | exact (I9.2.2.2.2 _ (by omega)).resolve_right q2)) v_LW_swap tw_438 ⟨rfl, rfl⟩ ⟨by decide, by decide⟩ rfl rfl (Nat.le_of_ble_eq_true rfl) ⟨hc1, hs1⟩ d_LW_law_1298 (fun r9 u9 H locs hq hP hD hS => ?_)
    subst hq
    refine lv_istore (lv' := [(5, .int (nI 1)), (4, .int (nI i)), (0, .ref b), (1, .ref (ad 0)), (2, .ref (ma 0)), (3, .ref oa)]) hx hb d_LW_law_1301 hl (by decide) rfl (fun ls hl => ?_)
    refine lv_aload_n hx hb d_LW_law_1303 rfl (lv_at hl 4 rfl) ?_
    refine lv_aload_n hx hb d_LW_law_1304 rfl (lv_at hl 2 rfl) ?_
    refine lv_iload hx hb d_LW_law_1305 (lv_at hl 1 rfl) ?_
    refine lv_iconst (v := nI 1) hx hb d_LW_law_1307 (by decide) ?_
    refine rn_add hx hb d_LW_law_1308 ?_
    refine rl_s hx hb hX hbl hbA hS (by omega) (by omega) hx1 d_LW_law_1309 ?_
    have hP : va_P g.1 cl (MW g ma cd rg hd (nF oo) (nF kp) (nI td) (nF tx) ct fd os oq vs sk ++ ((oa, aJ g 1 ou) :: (CW g ad rg hd (nF od) (nF tx) (nI td) sm pa pr fl op du qa ab ac qb be bc wd ++ []))) H := wp_perm (pm_ab _ _ _) hP
    have hD : va_D (gA g) (MW g ma cd rg hd (nF oo) (nF kp) (nI td) (nF tx) ct fd os oq vs sk ++ ((oa, aJ g 1 ou) :: (CW g ad rg hd (nF od) (nF tx) (nI td) sm pa pr fl op du qa ab ac qb be bc wd ++ []))) := wd_perm (pm_ab _ _ _) hD
    refine pc_Vi (q0 := 0) (As := [.int x1]) (rest := []) hx hb (hml.trans hl.1.symm) hown ht F hP hD hS (c1_MD_swap l g ma cd rg hd (nF oo) (nF kp) (nI td) (nF tx) ct fd os oq vs sk ((oa, aJ g 1 ou) :: (CW g ad rg hd (nF od) (nF tx) (nI td) sm pa pr fl op du qa ab ac qb be bc wd ++ [])) x1 (by first | omega | exact q1 | exact q2 | exact q2.1 | exact q2.2 | exact q2.2.1 | exact q2.2.2 | exact I9.1.1 | exact I9.2.2.2.2 | exact I9.oo.1 | exact I9.oo | exact I9.2.2.2.1 | exact I9.2.2.1 | exact I9.2.2.2.2 _ (by omega) | exact (I9.2.2.2.2 _ (by omega)).resolve_right q2)) v_MD_swap tw_648 ⟨rfl, rfl⟩ ⟨by decide, by decide⟩ rfl rfl rfl rfl (Nat.le_of_ble_eq_true rfl) ⟨hc1, hs1⟩ d_LW_law_1310 (fun r9 u9 H locs hq hP hD hS => ?_)
    subst hq
    have hP : va_P g.1 cl (MW g ma (nI 1) rg hd (nF oo) (nF kp) (nI td) (nF tx) ct fd os oq vs sk ++ ((oa, aJ g 1 ou) :: (CW g ad rg hd (nF od) (nF tx) (nI td) sm pa pr fl op du qa ab ac qb be bc wd ++ []))) H := hP
    have hD : va_D (gA g) (MW g ma (nI 1) rg hd (nF oo) (nF kp) (nI td) (nF tx) ct fd os oq vs sk ++ ((oa, aJ g 1 ou) :: (CW g ad rg hd (nF od) (nF tx) (nI td) sm pa pr fl op du qa ab ac qb be bc wd ++ []))) := hD
    refine lv_istore (lv' := [(6, .int (nI 0)), (5, .int (nI 1)), (4, .int (nI i)), (0, .ref b), (1, .ref (ad 0)), (2, .ref (ma 0)), (3, .ref oa)]) hx hb d_LW_law_1313 hl (by decide) rfl (fun ls hl => ?_)
    refine lv_aload_n hx hb d_LW_law_1315 rfl (lv_at hl 5 rfl) ?_
    refine pc_Vi (q0 := 0) (As := []) (rest := []) hx hb (hml.trans hl.1.symm) hown ht F hP hD hS (c_MD_thrown l g ma (nI 1) rg hd (nF oo) (nF kp) (nI td) (nF tx) ct fd os oq vs sk ((oa, aJ g 1 ou) :: (CW g ad rg hd (nF od) (nF tx) (nI td) sm pa pr fl op du qa ab ac qb be bc wd ++ []))) v_MD_thrown tw_510 ⟨rfl, rfl⟩ ⟨by decide, by decide⟩ rfl rfl rfl rfl (Nat.le_of_ble_eq_true rfl) ⟨hc1, hs1⟩ d_LW_law_1316 (fun r9 u9 H locs hq hP hD hS => ?_)
    subst hq
    refine lv_iload hx hb d_LW_law_1319 (lv_at hl 1 rfl) ?_
    refine rc_eq (tgt := 1326) hx hb (by omega) (by omega) d_LW_law_1321 (by decide) (fun c1321 => ?_) (fun c1321 => ?_)
    · refine lv_iload hx hb d_LW_law_1326 (lv_at hl 1 rfl) ?_
      refine rz_ne (tgt := 1343) hx hb (by omega) d_LW_law_1328 (by decide) (fun c1328 => ?_) (fun c1328 => ?_)
      · refine lv_goto (tgt := 1402) hx hb d_LW_law_1343 (by decide) ?_
        have hP : va_P g.1 cl (CW g ad rg hd (nF od) (nF tx) (nI td) sm pa pr fl op du qa ab ac qb be bc wd ++ ((oa, aJ g 1 ou) :: (MW g ma (nI 1) rg hd (nF oo) (nF kp) (nI td) (nF tx) ct fd os oq vs sk ++ []))) H := wp_perm (pm_ab _ _ _) hP
        have hD : va_D (gA g) (CW g ad rg hd (nF od) (nF tx) (nI td) sm pa pr fl op du qa ab ac qb be bc wd ++ ((oa, aJ g 1 ou) :: (MW g ma (nI 1) rg hd (nF oo) (nF kp) (nI td) (nF tx) ct fd os oq vs sk ++ []))) := wd_perm (pm_ab _ _ _) hD
        refine W.widen (k := cells + 1) (n := slots + 6) (by omega) (by omega) ?_
        exact kk H locs ls ⟨rg, hd, od, tx, td, sm, pa, pr, fl, op, du, qa, ab, ac, qb, be, bc, wd, ou, nI 1, oo, kp, ct, fd, os, oq, vs, sk, I9, hP, hD⟩ hS (lv_sub hl [2, 3, 4, 5, 6] rfl)
      · exact (by omega : False).elim
    · exact (by omega : False).elim
set_option maxRecDepth 100000 in
set_option maxHeartbeats 4000000 in
theorem st_sift {p : Program} {l : Launch} {e : Env} {s : State} {m : MethodId} {below : List Frame} {meth : Method} {c : Code} (hl0 : l.stackTraces = false) {g : Gx} {ad ma : Nat → Nat} {oa b L i : Nat} {xs : Nat → Int32} {x1 x2 x3 x4 : Int32} (hx : p.tables.exec = Jvm.exec) (hb : c.code = b_LW_law) (hml : c.maxLocals = 7) (hown : s.vm.findClass "SiftedGraphsLaw" = some m.cls) (ht : ∀ w ∈ TW, w.before #[Value.ref b] s = true) (F : Fx g s) (hX : va_X b L xs s s.heap) (hbl : b < s.heap.size) (hbA : ¬ gA g b) (hL : L ≤ 2560) (hi : i + 4 < L) (hx1 : xs (i + 1) = x1) (hx2 : xs (i + 2) = x2) (hx3 : xs (i + 3) = x3) (hx4 : xs (i + 4) = x4) {rg : Nat → Int64} {hd : Nat → Int32} {od : Nat → Nat} {tx : Nat → Nat} {td : Nat} {sm : Nat → Int64} {pa : Nat → Int64} {pr : Nat → Int64} {fl : Nat → Int64} {op : Int32} {du : Int32} {qa : Nat} {ab : Nat → Int64} {ac : Int32} {qb : Nat} {be : Nat → Int64} {bc : Int32} {wd : Nat → Int32} {ou : Nat → Int64} {cd : Int32} {oo : Nat → Nat} {kp : Nat → Nat} {ct : Int32} {fd : Nat → Int64} {os : Int32} {oq : Nat → Int32} {vs : Int32} {sk : Nat → Int64} (I9 : INV od oo tx hd td) {H : Heap} {locs : List Loc} {ls : Array Slot} (hP : va_P g.1 cl (CW g ad rg hd (nF od) (nF tx) (nI td) sm pa pr fl op du qa ab ac qb be bc wd ++ ((oa, aJ g 1 ou) :: (MW g ma cd rg hd (nF oo) (nF kp) (nI td) (nF tx) ct fd os oq vs sk ++ []))) H) (hD : va_D (gA g) (CW g ad rg hd (nF od) (nF tx) (nI td) sm pa pr fl op du qa ab ac qb be bc wd ++ ((oa, aJ g 1 ou) :: (MW g ma cd rg hd (nF oo) (nF kp) (nI td) (nF tx) ct fd os oq vs sk ++ [])))) (hS : va_S (gA g) s.heap H locs) (hl : lv_has ls 7 [(4, .int (nI i)), (0, .ref b), (1, .ref (ad 0)), (2, .ref (ma 0)), (3, .ref oa)]) {cells slots : Nat} (hc1 : cells + 1 ≤ room_1.cells) (hs1 : slots + 6 ≤ room_1.slots) {Q : State → Prop}
    (kk : ∀ (H : Heap) (locs : List Loc) (ls : Array Slot), LST g ad ma oa H → va_S (gA g) s.heap H locs → lv_has ls 7 [(4, .int (nI i)), (0, .ref b), (1, .ref (ad 0)), (2, .ref (ma 0)), (3, .ref oa)] → W p l e room_1 s m #[Value.ref b] below meth c H locs (cells + 1) (slots + 6) Q (F0 m 1402 ls [])) : W p l e room_1 s m #[Value.ref b] below meth c H locs cells slots Q (F0 m 1346 ls []) := by
  have hcA : cells ≤ room_1.cells := Nat.le_of_succ_le hc1
  have hsA : slots ≤ room_1.slots := Nat.le_trans (Nat.le_add_right _ _) hs1
  by_cases q1 : inR x1 6
  · obtain ⟨k1, g1, rfl⟩ := q1
    refine lv_aload_n hx hb d_LW_law_1346 rfl (lv_at hl 2 rfl) ?_
    refine lv_aload_n hx hb d_LW_law_1347 rfl (lv_at hl 1 rfl) ?_
    refine lv_iload hx hb d_LW_law_1348 (lv_at hl 0 rfl) ?_
    refine lv_iconst (v := nI 1) hx hb d_LW_law_1350 (by decide) ?_
    refine rn_add hx hb d_LW_law_1351 ?_
    refine rl_s hx hb hX hbl hbA hS (by omega) (by omega) hx1 d_LW_law_1352 ?_
    refine lv_aload_n hx hb d_LW_law_1353 rfl (lv_at hl 4 rfl) ?_
    refine pc_T (As := [.ref (ad 0), .int (nI k1), .ref oa]) (rest := []) hx hb (hml.trans hl.1.symm) hown ht F hP hD hS (c_LW_sift l g ad oa rg hd (nF tx) (nI td) sm pa pr fl op du qa ab ac qb be bc wd ou (MW g ma cd rg hd (nF oo) (nF kp) (nI td) (nF tx) ct fd os oq vs sk ++ []) od k1 (by first | omega | exact q1 | exact q2 | exact q2.1 | exact q2.2 | exact q2.2.1 | exact q2.2.2 | exact I9.1.1 | exact I9.2.2.2.2 | exact I9.oo.1 | exact I9.oo | exact I9.2.2.2.1 | exact I9.2.2.1 | exact I9.2.2.2.2 _ (by omega) | exact (I9.2.2.2.2 _ (by omega)).resolve_right q2) (by first | omega | exact q1 | exact q2 | exact q2.1 | exact q2.2 | exact q2.2.1 | exact q2.2.2 | exact I9.1.1 | exact I9.2.2.2.2 | exact I9.oo.1 | exact I9.oo | exact I9.2.2.2.1 | exact I9.2.2.1 | exact I9.2.2.2.2 _ (by omega) | exact (I9.2.2.2.2 _ (by omega)).resolve_right q2) (by first | omega | exact q1 | exact q2 | exact q2.1 | exact q2.2 | exact q2.2.1 | exact q2.2.2 | exact I9.1.1 | exact I9.2.2.2.2 | exact I9.oo.1 | exact I9.oo | exact I9.2.2.2.1 | exact I9.2.2.1 | exact I9.2.2.2.2 _ (by omega) | exact (I9.2.2.2.2 _ (by omega)).resolve_right q2)) v_LW_sift tw_449 ⟨rfl, rfl⟩ ⟨by decide, by decide⟩ rfl rfl (Nat.le_of_ble_eq_true rfl) ⟨hcA, hsA⟩ d_LW_law_1354 (fun r9 u9 H locs hq hP hD hS => ?_)
    obtain ⟨qa1354, ab1354, ac1354, qb1354, be1354, bc1354, wd1354⟩ := u9
    subst hq
    have hP : va_P g.1 cl (CW g ad rg hd (nF (rsU (sfF (rgL rg hd 8) (rsU 0 (fdL od k1 6 - 0) od) 5).1 (5 - (sfF (rgL rg hd 8) (rsU 0 (fdL od k1 6 - 0) od) 5).1) (dnU 5 (rsU 0 (fdL od k1 6 - 0) od)))) (nF tx) (nI td) sm pa pr fl op du qa1354 ab1354 ac1354 qb1354 be1354 bc1354 wd1354 ++ ((oa, aJ g 1 (vp_updL ou 0 ((nI ((sfF (rgL rg hd 8) (rsU 0 (fdL od k1 6 - 0) od) 5).1)).toInt64))) :: (MW g ma cd rg hd (nF oo) (nF kp) (nI td) (nF tx) ct fd os oq vs sk ++ []))) H := hP
    have hD : va_D (gA g) (CW g ad rg hd (nF (rsU (sfF (rgL rg hd 8) (rsU 0 (fdL od k1 6 - 0) od) 5).1 (5 - (sfF (rgL rg hd 8) (rsU 0 (fdL od k1 6 - 0) od) 5).1) (dnU 5 (rsU 0 (fdL od k1 6 - 0) od)))) (nF tx) (nI td) sm pa pr fl op du qa1354 ab1354 ac1354 qb1354 be1354 bc1354 wd1354 ++ ((oa, aJ g 1 (vp_updL ou 0 ((nI ((sfF (rgL rg hd 8) (rsU 0 (fdL od k1 6 - 0) od) 5).1)).toInt64))) :: (MW g ma cd rg hd (nF oo) (nF kp) (nI td) (nF tx) ct fd os oq vs sk ++ []))) := hD
    refine lv_istore (lv' := [(5, .int (nI 0)), (4, .int (nI i)), (0, .ref b), (1, .ref (ad 0)), (2, .ref (ma 0)), (3, .ref oa)]) hx hb d_LW_law_1357 hl (by decide) rfl (fun ls hl => ?_)
    refine lv_aload_n hx hb d_LW_law_1359 rfl (lv_at hl 4 rfl) ?_
    refine lv_aload_n hx hb d_LW_law_1360 rfl (lv_at hl 2 rfl) ?_
    refine lv_iload hx hb d_LW_law_1361 (lv_at hl 1 rfl) ?_
    refine lv_iconst (v := nI 1) hx hb d_LW_law_1363 (by decide) ?_
    refine rn_add hx hb d_LW_law_1364 ?_
    refine rl_s hx hb hX hbl hbA hS (by omega) (by omega) hx1 d_LW_law_1365 ?_
    have hP : va_P g.1 cl (MW g ma cd rg hd (nF oo) (nF kp) (nI td) (nF tx) ct fd os oq vs sk ++ ((oa, aJ g 1 (vp_updL ou 0 ((nI ((sfF (rgL rg hd 8) (rsU 0 (fdL od k1 6 - 0) od) 5).1)).toInt64))) :: (CW g ad rg hd (nF (rsU (sfF (rgL rg hd 8) (rsU 0 (fdL od k1 6 - 0) od) 5).1 (5 - (sfF (rgL rg hd 8) (rsU 0 (fdL od k1 6 - 0) od) 5).1) (dnU 5 (rsU 0 (fdL od k1 6 - 0) od)))) (nF tx) (nI td) sm pa pr fl op du qa1354 ab1354 ac1354 qb1354 be1354 bc1354 wd1354 ++ []))) H := wp_perm (pm_ab _ _ _) hP
    have hD : va_D (gA g) (MW g ma cd rg hd (nF oo) (nF kp) (nI td) (nF tx) ct fd os oq vs sk ++ ((oa, aJ g 1 (vp_updL ou 0 ((nI ((sfF (rgL rg hd 8) (rsU 0 (fdL od k1 6 - 0) od) 5).1)).toInt64))) :: (CW g ad rg hd (nF (rsU (sfF (rgL rg hd 8) (rsU 0 (fdL od k1 6 - 0) od) 5).1 (5 - (sfF (rgL rg hd 8) (rsU 0 (fdL od k1 6 - 0) od) 5).1) (dnU 5 (rsU 0 (fdL od k1 6 - 0) od)))) (nF tx) (nI td) sm pa pr fl op du qa1354 ab1354 ac1354 qb1354 be1354 bc1354 wd1354 ++ []))) := wd_perm (pm_ab _ _ _) hD
    refine pc_Vi (q0 := 0) (As := [.int (nI k1)]) (rest := []) hx hb (hml.trans hl.1.symm) hown ht F hP hD hS (c_MD_sift l g ma cd rg hd (nI td) (nF tx) ct fd os oq vs sk ((oa, aJ g 1 (vp_updL ou 0 ((nI ((sfF (rgL rg hd 8) (rsU 0 (fdL od k1 6 - 0) od) 5).1)).toInt64))) :: (CW g ad rg hd (nF (rsU (sfF (rgL rg hd 8) (rsU 0 (fdL od k1 6 - 0) od) 5).1 (5 - (sfF (rgL rg hd 8) (rsU 0 (fdL od k1 6 - 0) od) 5).1) (dnU 5 (rsU 0 (fdL od k1 6 - 0) od)))) (nF tx) (nI td) sm pa pr fl op du qa1354 ab1354 ac1354 qb1354 be1354 bc1354 wd1354 ++ [])) kp oo k1 (by first | omega | exact q1 | exact q2 | exact q2.1 | exact q2.2 | exact q2.2.1 | exact q2.2.2 | exact I9.1.1 | exact I9.2.2.2.2 | exact I9.oo.1 | exact I9.oo | exact I9.2.2.2.1 | exact I9.2.2.1 | exact I9.2.2.2.2 _ (by omega) | exact (I9.2.2.2.2 _ (by omega)).resolve_right q2) (by first | omega | exact q1 | exact q2 | exact q2.1 | exact q2.2 | exact q2.2.1 | exact q2.2.2 | exact I9.1.1 | exact I9.2.2.2.2 | exact I9.oo.1 | exact I9.oo | exact I9.2.2.2.1 | exact I9.2.2.1 | exact I9.2.2.2.2 _ (by omega) | exact (I9.2.2.2.2 _ (by omega)).resolve_right q2)) v_MD_sift tw_652 ⟨rfl, rfl⟩ ⟨by decide, by decide⟩ rfl rfl rfl rfl (Nat.le_of_ble_eq_true rfl) ⟨hcA, hsA⟩ d_LW_law_1366 (fun r9 u9 H locs hq hP hD hS => ?_)
    obtain ⟨ct1366, fd1366⟩ := u9
    obtain ⟨hq, pq1366⟩ := hq
    have pq1366 : True := pq1366
    subst hq
    have hP : va_P g.1 cl (MW g ma (nI 0) rg hd (nF (arF (cpF kp oo 6) (fdL oo k1 6) ((bmF (cpF kp oo 6) (fdL oo k1 6) oo rg hd 6).1) (soF (cpF kp oo 6) (fdL oo k1 6) oo 6) 6)) (nF (cpF kp oo 6)) (nI td) (nF tx) ct1366 fd1366 os oq vs sk ++ ((oa, aJ g 1 (vp_updL ou 0 ((nI ((sfF (rgL rg hd 8) (rsU 0 (fdL od k1 6 - 0) od) 5).1)).toInt64))) :: (CW g ad rg hd (nF (rsU (sfF (rgL rg hd 8) (rsU 0 (fdL od k1 6 - 0) od) 5).1 (5 - (sfF (rgL rg hd 8) (rsU 0 (fdL od k1 6 - 0) od) 5).1) (dnU 5 (rsU 0 (fdL od k1 6 - 0) od)))) (nF tx) (nI td) sm pa pr fl op du qa1354 ab1354 ac1354 qb1354 be1354 bc1354 wd1354 ++ []))) H := hP
    have hD : va_D (gA g) (MW g ma (nI 0) rg hd (nF (arF (cpF kp oo 6) (fdL oo k1 6) ((bmF (cpF kp oo 6) (fdL oo k1 6) oo rg hd 6).1) (soF (cpF kp oo 6) (fdL oo k1 6) oo 6) 6)) (nF (cpF kp oo 6)) (nI td) (nF tx) ct1366 fd1366 os oq vs sk ++ ((oa, aJ g 1 (vp_updL ou 0 ((nI ((sfF (rgL rg hd 8) (rsU 0 (fdL od k1 6 - 0) od) 5).1)).toInt64))) :: (CW g ad rg hd (nF (rsU (sfF (rgL rg hd 8) (rsU 0 (fdL od k1 6 - 0) od) 5).1 (5 - (sfF (rgL rg hd 8) (rsU 0 (fdL od k1 6 - 0) od) 5).1) (dnU 5 (rsU 0 (fdL od k1 6 - 0) od)))) (nF tx) (nI td) sm pa pr fl op du qa1354 ab1354 ac1354 qb1354 be1354 bc1354 wd1354 ++ []))) := hD
    refine lv_istore (lv' := [(6, .int (nI ((bmF (cpF kp oo 6) (fdL oo k1 6) oo rg hd 6).1))), (5, .int (nI 0)), (4, .int (nI i)), (0, .ref b), (1, .ref (ad 0)), (2, .ref (ma 0)), (3, .ref oa)]) hx hb d_LW_law_1369 hl (by decide) rfl (fun ls hl => ?_)
    refine lv_aload_n hx hb d_LW_law_1371 rfl (lv_at hl 5 rfl) ?_
    refine pc_Vi (q0 := 0) (As := []) (rest := []) hx hb (hml.trans hl.1.symm) hown ht F hP hD hS (c_MD_thrown l g ma (nI 0) rg hd (nF (arF (cpF kp oo 6) (fdL oo k1 6) ((bmF (cpF kp oo 6) (fdL oo k1 6) oo rg hd 6).1) (soF (cpF kp oo 6) (fdL oo k1 6) oo 6) 6)) (nF (cpF kp oo 6)) (nI td) (nF tx) ct1366 fd1366 os oq vs sk ((oa, aJ g 1 (vp_updL ou 0 ((nI ((sfF (rgL rg hd 8) (rsU 0 (fdL od k1 6 - 0) od) 5).1)).toInt64))) :: (CW g ad rg hd (nF (rsU (sfF (rgL rg hd 8) (rsU 0 (fdL od k1 6 - 0) od) 5).1 (5 - (sfF (rgL rg hd 8) (rsU 0 (fdL od k1 6 - 0) od) 5).1) (dnU 5 (rsU 0 (fdL od k1 6 - 0) od)))) (nF tx) (nI td) sm pa pr fl op du qa1354 ab1354 ac1354 qb1354 be1354 bc1354 wd1354 ++ []))) v_MD_thrown tw_510 ⟨rfl, rfl⟩ ⟨by decide, by decide⟩ rfl rfl rfl rfl (Nat.le_of_ble_eq_true rfl) ⟨hcA, hsA⟩ d_LW_law_1372 (fun r9 u9 H locs hq hP hD hS => ?_)
    subst hq
    refine lv_iload hx hb d_LW_law_1375 (lv_at hl 1 rfl) ?_
    refine rc_eq (tgt := 1382) hx hb (by omega) (by omega) d_LW_law_1377 (by decide) (fun c1377 => ?_) (fun c1377 => ?_)
    · refine lv_iload hx hb d_LW_law_1382 (lv_at hl 1 rfl) ?_
      refine rz_ne (tgt := 1399) hx hb (by omega) d_LW_law_1384 (by decide) (fun c1384 => ?_) (fun c1384 => ?_)
      · exact (by omega : False).elim
      · refine lv_aload_n hx hb d_LW_law_1387 rfl (lv_at hl 6 rfl) ?_
        refine lv_iconst (v := nI 0) hx hb d_LW_law_1388 (by decide) ?_
        refine ra_J hx hb F hP 9 rfl (by omega) (by decide) d_LW_law_1389 ?_
        refine lv_iload hx hb d_LW_law_1390 (lv_at hl 0 rfl) ?_
        refine lv_i2l hx hb d_LW_law_1392 rfl ?_
        refine W.lcmp hx hb d_LW_law_1393 ?_
        refine lv_if_eq (tgt := 1399) hx hb d_LW_law_1394 (by decide) (fun c1394 => ?_) (fun c1394 => ?_)
        · refine lv_goto (tgt := 1402) hx hb d_LW_law_1399 (by decide) ?_
          have hP : va_P g.1 cl (CW g ad rg hd (nF (rsU (sfF (rgL rg hd 8) (rsU 0 (fdL od k1 6 - 0) od) 5).1 (5 - (sfF (rgL rg hd 8) (rsU 0 (fdL od k1 6 - 0) od) 5).1) (dnU 5 (rsU 0 (fdL od k1 6 - 0) od)))) (nF tx) (nI td) sm pa pr fl op du qa1354 ab1354 ac1354 qb1354 be1354 bc1354 wd1354 ++ ((oa, aJ g 1 (vp_updL ou 0 ((nI ((sfF (rgL rg hd 8) (rsU 0 (fdL od k1 6 - 0) od) 5).1)).toInt64))) :: (MW g ma (nI 0) rg hd (nF (arF (cpF kp oo 6) (fdL oo k1 6) ((bmF (cpF kp oo 6) (fdL oo k1 6) oo rg hd 6).1) (soF (cpF kp oo 6) (fdL oo k1 6) oo 6) 6)) (nF (cpF kp oo 6)) (nI td) (nF tx) ct1366 fd1366 os oq vs sk ++ []))) H := wp_perm (pm_ab _ _ _) hP
          have hD : va_D (gA g) (CW g ad rg hd (nF (rsU (sfF (rgL rg hd 8) (rsU 0 (fdL od k1 6 - 0) od) 5).1 (5 - (sfF (rgL rg hd 8) (rsU 0 (fdL od k1 6 - 0) od) 5).1) (dnU 5 (rsU 0 (fdL od k1 6 - 0) od)))) (nF tx) (nI td) sm pa pr fl op du qa1354 ab1354 ac1354 qb1354 be1354 bc1354 wd1354 ++ ((oa, aJ g 1 (vp_updL ou 0 ((nI ((sfF (rgL rg hd 8) (rsU 0 (fdL od k1 6 - 0) od) 5).1)).toInt64))) :: (MW g ma (nI 0) rg hd (nF (arF (cpF kp oo 6) (fdL oo k1 6) ((bmF (cpF kp oo 6) (fdL oo k1 6) oo rg hd 6).1) (soF (cpF kp oo 6) (fdL oo k1 6) oo 6) 6)) (nF (cpF kp oo 6)) (nI td) (nF tx) ct1366 fd1366 os oq vs sk ++ []))) := wd_perm (pm_ab _ _ _) hD
          refine W.widen (k := cells + 1) (n := slots + 6) (by omega) (by omega) ?_
          exact kk H locs ls ⟨rg, hd, rsU (sfF (rgL rg hd 8) (rsU 0 (fdL od k1 6 - 0) od) 5).1 (5 - (sfF (rgL rg hd 8) (rsU 0 (fdL od k1 6 - 0) od) 5).1) (dnU 5 (rsU 0 (fdL od k1 6 - 0) od)), tx, td, sm, pa, pr, fl, op, du, qa1354, ab1354, ac1354, qb1354, be1354, bc1354, wd1354, vp_updL ou 0 ((nI ((sfF (rgL rg hd 8) (rsU 0 (fdL od k1 6 - 0) od) 5).1)).toInt64), nI 0, arF (cpF kp oo 6) (fdL oo k1 6) ((bmF (cpF kp oo 6) (fdL oo k1 6) oo rg hd 6).1) (soF (cpF kp oo 6) (fdL oo k1 6) oo 6) 6, cpF kp oo 6, ct1366, fd1366, os, oq, vs, sk, (I9.sif rg (by omega)), hP, hD⟩ hS (lv_sub hl [2, 3, 4, 5, 6] rfl)
        · exact absurd ((lg_cmp_eq _ _).mpr (by rw [uL_s, sf_eq (kp := kp) I9 rg (by omega)])) c1394
    · exact (by omega : False).elim
  · refine lv_aload_n hx hb d_LW_law_1346 rfl (lv_at hl 2 rfl) ?_
    refine lv_aload_n hx hb d_LW_law_1347 rfl (lv_at hl 1 rfl) ?_
    refine lv_iload hx hb d_LW_law_1348 (lv_at hl 0 rfl) ?_
    refine lv_iconst (v := nI 1) hx hb d_LW_law_1350 (by decide) ?_
    refine rn_add hx hb d_LW_law_1351 ?_
    refine rl_s hx hb hX hbl hbA hS (by omega) (by omega) hx1 d_LW_law_1352 ?_
    refine lv_aload_n hx hb d_LW_law_1353 rfl (lv_at hl 4 rfl) ?_
    refine pc_T (As := [.ref (ad 0), .int x1, .ref oa]) (rest := []) hx hb (hml.trans hl.1.symm) hown ht F hP hD hS (c1_LW_sift l hl0 g ad oa rg hd (nF od) (nF tx) (nI td) sm pa pr fl op du qa ab ac qb be bc wd ou (MW g ma cd rg hd (nF oo) (nF kp) (nI td) (nF tx) ct fd os oq vs sk ++ []) x1 (by first | omega | exact q1 | exact q2 | exact q2.1 | exact q2.2 | exact q2.2.1 | exact q2.2.2 | exact I9.1.1 | exact I9.2.2.2.2 | exact I9.oo.1 | exact I9.oo | exact I9.2.2.2.1 | exact I9.2.2.1 | exact I9.2.2.2.2 _ (by omega) | exact (I9.2.2.2.2 _ (by omega)).resolve_right q2)) v_LW_sift tw_449 ⟨rfl, rfl⟩ ⟨by decide, by decide⟩ rfl rfl (Nat.le_of_ble_eq_true rfl) ⟨hc1, hs1⟩ d_LW_law_1354 (fun r9 u9 H locs hq hP hD hS => ?_)
    subst hq
    refine lv_istore (lv' := [(5, .int (nI 1)), (4, .int (nI i)), (0, .ref b), (1, .ref (ad 0)), (2, .ref (ma 0)), (3, .ref oa)]) hx hb d_LW_law_1357 hl (by decide) rfl (fun ls hl => ?_)
    refine lv_aload_n hx hb d_LW_law_1359 rfl (lv_at hl 4 rfl) ?_
    refine lv_aload_n hx hb d_LW_law_1360 rfl (lv_at hl 2 rfl) ?_
    refine lv_iload hx hb d_LW_law_1361 (lv_at hl 1 rfl) ?_
    refine lv_iconst (v := nI 1) hx hb d_LW_law_1363 (by decide) ?_
    refine rn_add hx hb d_LW_law_1364 ?_
    refine rl_s hx hb hX hbl hbA hS (by omega) (by omega) hx1 d_LW_law_1365 ?_
    have hP : va_P g.1 cl (MW g ma cd rg hd (nF oo) (nF kp) (nI td) (nF tx) ct fd os oq vs sk ++ ((oa, aJ g 1 ou) :: (CW g ad rg hd (nF od) (nF tx) (nI td) sm pa pr fl op du qa ab ac qb be bc wd ++ []))) H := wp_perm (pm_ab _ _ _) hP
    have hD : va_D (gA g) (MW g ma cd rg hd (nF oo) (nF kp) (nI td) (nF tx) ct fd os oq vs sk ++ ((oa, aJ g 1 ou) :: (CW g ad rg hd (nF od) (nF tx) (nI td) sm pa pr fl op du qa ab ac qb be bc wd ++ []))) := wd_perm (pm_ab _ _ _) hD
    refine pc_Vi (q0 := 0) (As := [.int x1]) (rest := []) hx hb (hml.trans hl.1.symm) hown ht F hP hD hS (c1_MD_sift l g ma cd rg hd (nF oo) (nF kp) (nI td) (nF tx) ct fd os oq vs sk ((oa, aJ g 1 ou) :: (CW g ad rg hd (nF od) (nF tx) (nI td) sm pa pr fl op du qa ab ac qb be bc wd ++ [])) x1 (by first | omega | exact q1 | exact q2 | exact q2.1 | exact q2.2 | exact q2.2.1 | exact q2.2.2 | exact I9.1.1 | exact I9.2.2.2.2 | exact I9.oo.1 | exact I9.oo | exact I9.2.2.2.1 | exact I9.2.2.1 | exact I9.2.2.2.2 _ (by omega) | exact (I9.2.2.2.2 _ (by omega)).resolve_right q2)) v_MD_sift tw_652 ⟨rfl, rfl⟩ ⟨by decide, by decide⟩ rfl rfl rfl rfl (Nat.le_of_ble_eq_true rfl) ⟨hc1, hs1⟩ d_LW_law_1366 (fun r9 u9 H locs hq hP hD hS => ?_)
    subst hq
    have hP : va_P g.1 cl (MW g ma (nI 1) rg hd (nF oo) (nF kp) (nI td) (nF tx) ct fd os oq vs sk ++ ((oa, aJ g 1 ou) :: (CW g ad rg hd (nF od) (nF tx) (nI td) sm pa pr fl op du qa ab ac qb be bc wd ++ []))) H := hP
    have hD : va_D (gA g) (MW g ma (nI 1) rg hd (nF oo) (nF kp) (nI td) (nF tx) ct fd os oq vs sk ++ ((oa, aJ g 1 ou) :: (CW g ad rg hd (nF od) (nF tx) (nI td) sm pa pr fl op du qa ab ac qb be bc wd ++ []))) := hD
    refine lv_istore (lv' := [(6, .int (nI 0)), (5, .int (nI 1)), (4, .int (nI i)), (0, .ref b), (1, .ref (ad 0)), (2, .ref (ma 0)), (3, .ref oa)]) hx hb d_LW_law_1369 hl (by decide) rfl (fun ls hl => ?_)
    refine lv_aload_n hx hb d_LW_law_1371 rfl (lv_at hl 5 rfl) ?_
    refine pc_Vi (q0 := 0) (As := []) (rest := []) hx hb (hml.trans hl.1.symm) hown ht F hP hD hS (c_MD_thrown l g ma (nI 1) rg hd (nF oo) (nF kp) (nI td) (nF tx) ct fd os oq vs sk ((oa, aJ g 1 ou) :: (CW g ad rg hd (nF od) (nF tx) (nI td) sm pa pr fl op du qa ab ac qb be bc wd ++ []))) v_MD_thrown tw_510 ⟨rfl, rfl⟩ ⟨by decide, by decide⟩ rfl rfl rfl rfl (Nat.le_of_ble_eq_true rfl) ⟨hc1, hs1⟩ d_LW_law_1372 (fun r9 u9 H locs hq hP hD hS => ?_)
    subst hq
    refine lv_iload hx hb d_LW_law_1375 (lv_at hl 1 rfl) ?_
    refine rc_eq (tgt := 1382) hx hb (by omega) (by omega) d_LW_law_1377 (by decide) (fun c1377 => ?_) (fun c1377 => ?_)
    · refine lv_iload hx hb d_LW_law_1382 (lv_at hl 1 rfl) ?_
      refine rz_ne (tgt := 1399) hx hb (by omega) d_LW_law_1384 (by decide) (fun c1384 => ?_) (fun c1384 => ?_)
      · refine lv_goto (tgt := 1402) hx hb d_LW_law_1399 (by decide) ?_
        have hP : va_P g.1 cl (CW g ad rg hd (nF od) (nF tx) (nI td) sm pa pr fl op du qa ab ac qb be bc wd ++ ((oa, aJ g 1 ou) :: (MW g ma (nI 1) rg hd (nF oo) (nF kp) (nI td) (nF tx) ct fd os oq vs sk ++ []))) H := wp_perm (pm_ab _ _ _) hP
        have hD : va_D (gA g) (CW g ad rg hd (nF od) (nF tx) (nI td) sm pa pr fl op du qa ab ac qb be bc wd ++ ((oa, aJ g 1 ou) :: (MW g ma (nI 1) rg hd (nF oo) (nF kp) (nI td) (nF tx) ct fd os oq vs sk ++ []))) := wd_perm (pm_ab _ _ _) hD
        refine W.widen (k := cells + 1) (n := slots + 6) (by omega) (by omega) ?_
        exact kk H locs ls ⟨rg, hd, od, tx, td, sm, pa, pr, fl, op, du, qa, ab, ac, qb, be, bc, wd, ou, nI 1, oo, kp, ct, fd, os, oq, vs, sk, I9, hP, hD⟩ hS (lv_sub hl [2, 3, 4, 5, 6] rfl)
      · exact (by omega : False).elim
    · exact (by omega : False).elim
