set_option maxRecDepth 100000 in
set_option maxHeartbeats 4000000 in
theorem st_set {p : Program} {l : Launch} {e : Env} {s : State} {m : MethodId} {below : List Frame} {meth : Method} {c : Code} (hl0 : l.stackTraces = false) {g : Gx} {ad ma : Nat → Nat} {oa b L i : Nat} {xs : Nat → Int32} {x1 x2 x3 x4 : Int32} (hx : p.tables.exec = Jvm.exec) (hb : c.code = b_LW_law) (hml : c.maxLocals = 7) (hown : s.vm.findClass "SiftedGraphsLaw" = some m.cls) (ht : ∀ w ∈ TW, w.before #[Value.ref b] s = true) (F : Fx g s) (hX : va_X b L xs s s.heap) (hbl : b < s.heap.size) (hbA : ¬ gA g b) (hL : L ≤ 2560) (hi : i + 4 < L) (hx1 : xs (i + 1) = x1) (hx2 : xs (i + 2) = x2) (hx3 : xs (i + 3) = x3) (hx4 : xs (i + 4) = x4) {rg : Nat → Int64} {hd : Nat → Int32} {od : Nat → Nat} {tx : Nat → Nat} {td : Nat} {sm : Nat → Int64} {pa : Nat → Int64} {pr : Nat → Int64} {fl : Nat → Int64} {op : Int32} {du : Int32} {qa : Nat} {ab : Nat → Int64} {ac : Int32} {qb : Nat} {be : Nat → Int64} {bc : Int32} {wd : Nat → Int32} {ou : Nat → Int64} {cd : Int32} {oo : Nat → Nat} {kp : Nat → Nat} {ct : Int32} {fd : Nat → Int64} {os : Int32} {oq : Nat → Int32} {vs : Int32} {sk : Nat → Int64} (I9 : INV od oo tx hd td) {H : Heap} {locs : List Loc} {ls : Array Slot} (hP : va_P g.1 cl (CW g ad rg hd (nF od) (nF tx) (nI td) sm pa pr fl op du qa ab ac qb be bc wd ++ ((oa, aJ g 1 ou) :: (MW g ma cd rg hd (nF oo) (nF kp) (nI td) (nF tx) ct fd os oq vs sk ++ []))) H) (hD : va_D (gA g) (CW g ad rg hd (nF od) (nF tx) (nI td) sm pa pr fl op du qa ab ac qb be bc wd ++ ((oa, aJ g 1 ou) :: (MW g ma cd rg hd (nF oo) (nF kp) (nI td) (nF tx) ct fd os oq vs sk ++ [])))) (hS : va_S (gA g) s.heap H locs) (hl : lv_has ls 7 [(4, .int (nI i)), (0, .ref b), (1, .ref (ad 0)), (2, .ref (ma 0)), (3, .ref oa)]) {cells slots : Nat} (hc1 : cells + 1 ≤ room_1.cells) (hs1 : slots + 6 ≤ room_1.slots) {Q : State → Prop}
    (kk : ∀ (H : Heap) (locs : List Loc) (ls : Array Slot), LST g ad ma oa H → va_S (gA g) s.heap H locs → lv_has ls 7 [(4, .int (nI i)), (0, .ref b), (1, .ref (ad 0)), (2, .ref (ma 0)), (3, .ref oa)] → W p l e room_1 s m #[Value.ref b] below meth c H locs (cells + 1) (slots + 6) Q (F0 m 1402 ls [])) : W p l e room_1 s m #[Value.ref b] below meth c H locs cells slots Q (F0 m 132 ls []) := by
  have hcA : cells ≤ room_1.cells := Nat.le_of_succ_le hc1
  have hsA : slots ≤ room_1.slots := Nat.le_trans (Nat.le_add_right _ _) hs1
  by_cases q1 : inR x1 8 ∧ inR x2 14
  · obtain ⟨⟨k1, g1, rfl⟩, ⟨k2, g2, rfl⟩⟩ := q1
    refine lv_aload_n hx hb d_LW_law_132 rfl (lv_at hl 2 rfl) ?_
    refine lv_aload_n hx hb d_LW_law_133 rfl (lv_at hl 1 rfl) ?_
    refine lv_iload hx hb d_LW_law_134 (lv_at hl 0 rfl) ?_
    refine lv_iconst (v := nI 1) hx hb d_LW_law_136 (by decide) ?_
    refine rn_add hx hb d_LW_law_137 ?_
    refine rl_s hx hb hX hbl hbA hS (by omega) (by omega) hx1 d_LW_law_138 ?_
    refine lv_aload_n hx hb d_LW_law_139 rfl (lv_at hl 1 rfl) ?_
    refine lv_iload hx hb d_LW_law_140 (lv_at hl 0 rfl) ?_
    refine lv_iconst (v := nI 2) hx hb d_LW_law_142 (by decide) ?_
    refine rn_add hx hb d_LW_law_143 ?_
    refine rl_s hx hb hX hbl hbA hS (by omega) (by omega) hx2 d_LW_law_144 ?_
    refine pc_T (As := [.ref (ad 0), .int (nI k1), .int (nI k2)]) (rest := []) hx hb (hml.trans hl.1.symm) hown ht F hP hD hS (c_LW_set l g ad oa rg hd (nF od) (nF tx) (nI td) sm pa pr fl op du qa ab ac qb be bc wd ou (MW g ma cd rg hd (nF oo) (nF kp) (nI td) (nF tx) ct fd os oq vs sk ++ []) k1 k2 (by first | omega | exact q1 | exact q2 | exact q2.1 | exact q2.2 | exact q2.2.1 | exact q2.2.2 | exact I9.1.1 | exact I9.2.2.2.2 | exact I9.oo.1 | exact I9.oo | exact I9.2.2.2.1 | exact I9.2.2.1 | exact I9.2.2.2.2 _ (by omega) | exact (I9.2.2.2.2 _ (by omega)).resolve_right q2) (by first | omega | exact q1 | exact q2 | exact q2.1 | exact q2.2 | exact q2.2.1 | exact q2.2.2 | exact I9.1.1 | exact I9.2.2.2.2 | exact I9.oo.1 | exact I9.oo | exact I9.2.2.2.1 | exact I9.2.2.1 | exact I9.2.2.2.2 _ (by omega) | exact (I9.2.2.2.2 _ (by omega)).resolve_right q2)) v_LW_set tw_153 ⟨rfl, rfl⟩ ⟨by decide, by decide⟩ rfl rfl (Nat.le_of_ble_eq_true rfl) ⟨hcA, hsA⟩ d_LW_law_145 (fun r9 u9 H locs hq hP hD hS => ?_)
    subst hq
    have hP : va_P g.1 cl (CW g ad (vp_updL rg k1 (SETT k2)) (upd hd k1 (nI 1)) (nF od) (nF tx) (nI td) sm pa pr fl op du qa ab ac qb be bc wd ++ ((oa, aJ g 1 ou) :: (MW g ma cd rg hd (nF oo) (nF kp) (nI td) (nF tx) ct fd os oq vs sk ++ []))) H := hP
    have hD : va_D (gA g) (CW g ad (vp_updL rg k1 (SETT k2)) (upd hd k1 (nI 1)) (nF od) (nF tx) (nI td) sm pa pr fl op du qa ab ac qb be bc wd ++ ((oa, aJ g 1 ou) :: (MW g ma cd rg hd (nF oo) (nF kp) (nI td) (nF tx) ct fd os oq vs sk ++ []))) := hD
    refine lv_istore (lv' := [(5, .int (nI 0)), (4, .int (nI i)), (0, .ref b), (1, .ref (ad 0)), (2, .ref (ma 0)), (3, .ref oa)]) hx hb d_LW_law_148 hl (by decide) rfl (fun ls hl => ?_)
    refine lv_aload_n hx hb d_LW_law_150 rfl (lv_at hl 4 rfl) ?_
    refine lv_aload_n hx hb d_LW_law_151 rfl (lv_at hl 2 rfl) ?_
    refine lv_iload hx hb d_LW_law_152 (lv_at hl 1 rfl) ?_
    refine lv_iconst (v := nI 1) hx hb d_LW_law_154 (by decide) ?_
    refine rn_add hx hb d_LW_law_155 ?_
    refine rl_s hx hb hX hbl hbA hS (by omega) (by omega) hx1 d_LW_law_156 ?_
    refine lv_aload_n hx hb d_LW_law_157 rfl (lv_at hl 2 rfl) ?_
    refine lv_iload hx hb d_LW_law_158 (lv_at hl 1 rfl) ?_
    refine lv_iconst (v := nI 2) hx hb d_LW_law_160 (by decide) ?_
    refine rn_add hx hb d_LW_law_161 ?_
    refine rl_s hx hb hX hbl hbA hS (by omega) (by omega) hx2 d_LW_law_162 ?_
    have hP : va_P g.1 cl (MW g ma cd rg hd (nF oo) (nF kp) (nI td) (nF tx) ct fd os oq vs sk ++ ((oa, aJ g 1 ou) :: (CW g ad (vp_updL rg k1 (SETT k2)) (upd hd k1 (nI 1)) (nF od) (nF tx) (nI td) sm pa pr fl op du qa ab ac qb be bc wd ++ []))) H := wp_perm (pm_ab _ _ _) hP
    have hD : va_D (gA g) (MW g ma cd rg hd (nF oo) (nF kp) (nI td) (nF tx) ct fd os oq vs sk ++ ((oa, aJ g 1 ou) :: (CW g ad (vp_updL rg k1 (SETT k2)) (upd hd k1 (nI 1)) (nF od) (nF tx) (nI td) sm pa pr fl op du qa ab ac qb be bc wd ++ []))) := wd_perm (pm_ab _ _ _) hD
    refine pc_Vv (q0 := 0) (As := [.int (nI k1), .int (nI k2)]) (rest := []) hx hb (hml.trans hl.1.symm) hown ht F hP hD hS (c_MD_set l g ma cd rg hd (nF oo) (nF kp) (nI td) (nF tx) ct fd os oq vs sk ((oa, aJ g 1 ou) :: (CW g ad (vp_updL rg k1 (SETT k2)) (upd hd k1 (nI 1)) (nF od) (nF tx) (nI td) sm pa pr fl op du qa ab ac qb be bc wd ++ [])) k1 k2 (by first | omega | exact q1 | exact q2 | exact q2.1 | exact q2.2 | exact q2.2.1 | exact q2.2.2 | exact I9.1.1 | exact I9.2.2.2.2 | exact I9.oo.1 | exact I9.oo | exact I9.2.2.2.1 | exact I9.2.2.1 | exact I9.2.2.2.2 _ (by omega) | exact (I9.2.2.2.2 _ (by omega)).resolve_right q2) (by first | omega | exact q1 | exact q2 | exact q2.1 | exact q2.2 | exact q2.2.1 | exact q2.2.2 | exact I9.1.1 | exact I9.2.2.2.2 | exact I9.oo.1 | exact I9.oo | exact I9.2.2.2.1 | exact I9.2.2.1 | exact I9.2.2.2.2 _ (by omega) | exact (I9.2.2.2.2 _ (by omega)).resolve_right q2)) v_MD_set tw_514 ⟨rfl, rfl⟩ ⟨by decide, by decide⟩ rfl rfl rfl rfl (Nat.le_of_ble_eq_true rfl) ⟨hcA, hsA⟩ d_LW_law_163 (fun u9 H locs hq hP hD hS => ?_)
    have hP : va_P g.1 cl (MW g ma (nI 0) (vp_updL rg k1 (SETT k2)) (upd hd k1 (nI 1)) (nF oo) (nF kp) (nI td) (nF tx) ct fd os oq vs sk ++ ((oa, aJ g 1 ou) :: (CW g ad (vp_updL rg k1 (SETT k2)) (upd hd k1 (nI 1)) (nF od) (nF tx) (nI td) sm pa pr fl op du qa ab ac qb be bc wd ++ []))) H := hP
    have hD : va_D (gA g) (MW g ma (nI 0) (vp_updL rg k1 (SETT k2)) (upd hd k1 (nI 1)) (nF oo) (nF kp) (nI td) (nF tx) ct fd os oq vs sk ++ ((oa, aJ g 1 ou) :: (CW g ad (vp_updL rg k1 (SETT k2)) (upd hd k1 (nI 1)) (nF od) (nF tx) (nI td) sm pa pr fl op du qa ab ac qb be bc wd ++ []))) := hD
    refine lv_aload_n hx hb d_LW_law_166 rfl (lv_at hl 4 rfl) ?_
    refine pc_Vi (q0 := 0) (As := []) (rest := []) hx hb (hml.trans hl.1.symm) hown ht F hP hD hS (c_MD_thrown l g ma (nI 0) (vp_updL rg k1 (SETT k2)) (upd hd k1 (nI 1)) (nF oo) (nF kp) (nI td) (nF tx) ct fd os oq vs sk ((oa, aJ g 1 ou) :: (CW g ad (vp_updL rg k1 (SETT k2)) (upd hd k1 (nI 1)) (nF od) (nF tx) (nI td) sm pa pr fl op du qa ab ac qb be bc wd ++ []))) v_MD_thrown tw_510 ⟨rfl, rfl⟩ ⟨by decide, by decide⟩ rfl rfl rfl rfl (Nat.le_of_ble_eq_true rfl) ⟨hcA, hsA⟩ d_LW_law_167 (fun r9 u9 H locs hq hP hD hS => ?_)
    subst hq
    refine lv_iload hx hb d_LW_law_170 (lv_at hl 0 rfl) ?_
    refine rc_eq (tgt := 177) hx hb (by omega) (by omega) d_LW_law_172 (by decide) (fun c172 => ?_) (fun c172 => ?_)
    · refine lv_goto (tgt := 1402) hx hb d_LW_law_177 (by decide) ?_
      have hP : va_P g.1 cl (CW g ad (vp_updL rg k1 (SETT k2)) (upd hd k1 (nI 1)) (nF od) (nF tx) (nI td) sm pa pr fl op du qa ab ac qb be bc wd ++ ((oa, aJ g 1 ou) :: (MW g ma (nI 0) (vp_updL rg k1 (SETT k2)) (upd hd k1 (nI 1)) (nF oo) (nF kp) (nI td) (nF tx) ct fd os oq vs sk ++ []))) H := wp_perm (pm_ab _ _ _) hP
      have hD : va_D (gA g) (CW g ad (vp_updL rg k1 (SETT k2)) (upd hd k1 (nI 1)) (nF od) (nF tx) (nI td) sm pa pr fl op du qa ab ac qb be bc wd ++ ((oa, aJ g 1 ou) :: (MW g ma (nI 0) (vp_updL rg k1 (SETT k2)) (upd hd k1 (nI 1)) (nF oo) (nF kp) (nI td) (nF tx) ct fd os oq vs sk ++ []))) := wd_perm (pm_ab _ _ _) hD
      refine W.widen (k := cells + 1) (n := slots + 6) (by omega) (by omega) ?_
      exact kk H locs ls ⟨vp_updL rg k1 (SETT k2), upd hd k1 (nI 1), od, tx, td, sm, pa, pr, fl, op, du, qa, ab, ac, qb, be, bc, wd, ou, nI 0, oo, kp, ct, fd, os, oq, vs, sk, (I9.put _), hP, hD⟩ hS (lv_sub hl [1, 2, 3, 4, 5] rfl)
    · exact (by omega : False).elim
  · refine lv_aload_n hx hb d_LW_law_132 rfl (lv_at hl 2 rfl) ?_
    refine lv_aload_n hx hb d_LW_law_133 rfl (lv_at hl 1 rfl) ?_
    refine lv_iload hx hb d_LW_law_134 (lv_at hl 0 rfl) ?_
    refine lv_iconst (v := nI 1) hx hb d_LW_law_136 (by decide) ?_
    refine rn_add hx hb d_LW_law_137 ?_
    refine rl_s hx hb hX hbl hbA hS (by omega) (by omega) hx1 d_LW_law_138 ?_
    refine lv_aload_n hx hb d_LW_law_139 rfl (lv_at hl 1 rfl) ?_
    refine lv_iload hx hb d_LW_law_140 (lv_at hl 0 rfl) ?_
    refine lv_iconst (v := nI 2) hx hb d_LW_law_142 (by decide) ?_
    refine rn_add hx hb d_LW_law_143 ?_
    refine rl_s hx hb hX hbl hbA hS (by omega) (by omega) hx2 d_LW_law_144 ?_
    refine pc_T (As := [.ref (ad 0), .int x1, .int x2]) (rest := []) hx hb (hml.trans hl.1.symm) hown ht F hP hD hS (c1_LW_set l hl0 g ad oa rg hd (nF od) (nF tx) (nI td) sm pa pr fl op du qa ab ac qb be bc wd ou (MW g ma cd rg hd (nF oo) (nF kp) (nI td) (nF tx) ct fd os oq vs sk ++ []) x1 x2 (by first | omega | exact q1 | exact q2 | exact q2.1 | exact q2.2 | exact q2.2.1 | exact q2.2.2 | exact I9.1.1 | exact I9.2.2.2.2 | exact I9.oo.1 | exact I9.oo | exact I9.2.2.2.1 | exact I9.2.2.1 | exact I9.2.2.2.2 _ (by omega) | exact (I9.2.2.2.2 _ (by omega)).resolve_right q2)) v_LW_set tw_153 ⟨rfl, rfl⟩ ⟨by decide, by decide⟩ rfl rfl (Nat.le_of_ble_eq_true rfl) ⟨hc1, hs1⟩ d_LW_law_145 (fun r9 u9 H locs hq hP hD hS => ?_)
    subst hq
    refine lv_istore (lv' := [(5, .int (nI 1)), (4, .int (nI i)), (0, .ref b), (1, .ref (ad 0)), (2, .ref (ma 0)), (3, .ref oa)]) hx hb d_LW_law_148 hl (by decide) rfl (fun ls hl => ?_)
    refine lv_aload_n hx hb d_LW_law_150 rfl (lv_at hl 4 rfl) ?_
    refine lv_aload_n hx hb d_LW_law_151 rfl (lv_at hl 2 rfl) ?_
    refine lv_iload hx hb d_LW_law_152 (lv_at hl 1 rfl) ?_
    refine lv_iconst (v := nI 1) hx hb d_LW_law_154 (by decide) ?_
    refine rn_add hx hb d_LW_law_155 ?_
    refine rl_s hx hb hX hbl hbA hS (by omega) (by omega) hx1 d_LW_law_156 ?_
    refine lv_aload_n hx hb d_LW_law_157 rfl (lv_at hl 2 rfl) ?_
    refine lv_iload hx hb d_LW_law_158 (lv_at hl 1 rfl) ?_
    refine lv_iconst (v := nI 2) hx hb d_LW_law_160 (by decide) ?_
    refine rn_add hx hb d_LW_law_161 ?_
    refine rl_s hx hb hX hbl hbA hS (by omega) (by omega) hx2 d_LW_law_162 ?_
    have hP : va_P g.1 cl (MW g ma cd rg hd (nF oo) (nF kp) (nI td) (nF tx) ct fd os oq vs sk ++ ((oa, aJ g 1 ou) :: (CW g ad rg hd (nF od) (nF tx) (nI td) sm pa pr fl op du qa ab ac qb be bc wd ++ []))) H := wp_perm (pm_ab _ _ _) hP
    have hD : va_D (gA g) (MW g ma cd rg hd (nF oo) (nF kp) (nI td) (nF tx) ct fd os oq vs sk ++ ((oa, aJ g 1 ou) :: (CW g ad rg hd (nF od) (nF tx) (nI td) sm pa pr fl op du qa ab ac qb be bc wd ++ []))) := wd_perm (pm_ab _ _ _) hD
    refine pc_Vv (q0 := 0) (As := [.int x1, .int x2]) (rest := []) hx hb (hml.trans hl.1.symm) hown ht F hP hD hS (c1_MD_set l g ma cd rg hd (nF oo) (nF kp) (nI td) (nF tx) ct fd os oq vs sk ((oa, aJ g 1 ou) :: (CW g ad rg hd (nF od) (nF tx) (nI td) sm pa pr fl op du qa ab ac qb be bc wd ++ [])) x1 x2 (by first | omega | exact q1 | exact q2 | exact q2.1 | exact q2.2 | exact q2.2.1 | exact q2.2.2 | exact I9.1.1 | exact I9.2.2.2.2 | exact I9.oo.1 | exact I9.oo | exact I9.2.2.2.1 | exact I9.2.2.1 | exact I9.2.2.2.2 _ (by omega) | exact (I9.2.2.2.2 _ (by omega)).resolve_right q2)) v_MD_set tw_514 ⟨rfl, rfl⟩ ⟨by decide, by decide⟩ rfl rfl rfl rfl (Nat.le_of_ble_eq_true rfl) ⟨hc1, hs1⟩ d_LW_law_163 (fun u9 H locs hq hP hD hS => ?_)
    have hP : va_P g.1 cl (MW g ma (nI 1) rg hd (nF oo) (nF kp) (nI td) (nF tx) ct fd os oq vs sk ++ ((oa, aJ g 1 ou) :: (CW g ad rg hd (nF od) (nF tx) (nI td) sm pa pr fl op du qa ab ac qb be bc wd ++ []))) H := hP
    have hD : va_D (gA g) (MW g ma (nI 1) rg hd (nF oo) (nF kp) (nI td) (nF tx) ct fd os oq vs sk ++ ((oa, aJ g 1 ou) :: (CW g ad rg hd (nF od) (nF tx) (nI td) sm pa pr fl op du qa ab ac qb be bc wd ++ []))) := hD
    refine lv_aload_n hx hb d_LW_law_166 rfl (lv_at hl 4 rfl) ?_
    refine pc_Vi (q0 := 0) (As := []) (rest := []) hx hb (hml.trans hl.1.symm) hown ht F hP hD hS (c_MD_thrown l g ma (nI 1) rg hd (nF oo) (nF kp) (nI td) (nF tx) ct fd os oq vs sk ((oa, aJ g 1 ou) :: (CW g ad rg hd (nF od) (nF tx) (nI td) sm pa pr fl op du qa ab ac qb be bc wd ++ []))) v_MD_thrown tw_510 ⟨rfl, rfl⟩ ⟨by decide, by decide⟩ rfl rfl rfl rfl (Nat.le_of_ble_eq_true rfl) ⟨hc1, hs1⟩ d_LW_law_167 (fun r9 u9 H locs hq hP hD hS => ?_)
    subst hq
    refine lv_iload hx hb d_LW_law_170 (lv_at hl 0 rfl) ?_
    refine rc_eq (tgt := 177) hx hb (by omega) (by omega) d_LW_law_172 (by decide) (fun c172 => ?_) (fun c172 => ?_)
    · refine lv_goto (tgt := 1402) hx hb d_LW_law_177 (by decide) ?_
      have hP : va_P g.1 cl (CW g ad rg hd (nF od) (nF tx) (nI td) sm pa pr fl op du qa ab ac qb be bc wd ++ ((oa, aJ g 1 ou) :: (MW g ma (nI 1) rg hd (nF oo) (nF kp) (nI td) (nF tx) ct fd os oq vs sk ++ []))) H := wp_perm (pm_ab _ _ _) hP
      have hD : va_D (gA g) (CW g ad rg hd (nF od) (nF tx) (nI td) sm pa pr fl op du qa ab ac qb be bc wd ++ ((oa, aJ g 1 ou) :: (MW g ma (nI 1) rg hd (nF oo) (nF kp) (nI td) (nF tx) ct fd os oq vs sk ++ []))) := wd_perm (pm_ab _ _ _) hD
      refine W.widen (k := cells + 1) (n := slots + 6) (by omega) (by omega) ?_
      exact kk H locs ls ⟨rg, hd, od, tx, td, sm, pa, pr, fl, op, du, qa, ab, ac, qb, be, bc, wd, ou, nI 1, oo, kp, ct, fd, os, oq, vs, sk, I9, hP, hD⟩ hS (lv_sub hl [1, 2, 3, 4, 5] rfl)
    · exact (by omega : False).elim
set_option maxRecDepth 100000 in
set_option maxHeartbeats 4000000 in
theorem st_apply {p : Program} {l : Launch} {e : Env} {s : State} {m : MethodId} {below : List Frame} {meth : Method} {c : Code} (hl0 : l.stackTraces = false) {g : Gx} {ad ma : Nat → Nat} {oa b L i : Nat} {xs : Nat → Int32} {x1 x2 x3 x4 : Int32} (hx : p.tables.exec = Jvm.exec) (hb : c.code = b_LW_law) (hml : c.maxLocals = 7) (hown : s.vm.findClass "SiftedGraphsLaw" = some m.cls) (ht : ∀ w ∈ TW, w.before #[Value.ref b] s = true) (F : Fx g s) (hX : va_X b L xs s s.heap) (hbl : b < s.heap.size) (hbA : ¬ gA g b) (hL : L ≤ 2560) (hi : i + 4 < L) (hx1 : xs (i + 1) = x1) (hx2 : xs (i + 2) = x2) (hx3 : xs (i + 3) = x3) (hx4 : xs (i + 4) = x4) {rg : Nat → Int64} {hd : Nat → Int32} {od : Nat → Nat} {tx : Nat → Nat} {td : Nat} {sm : Nat → Int64} {pa : Nat → Int64} {pr : Nat → Int64} {fl : Nat → Int64} {op : Int32} {du : Int32} {qa : Nat} {ab : Nat → Int64} {ac : Int32} {qb : Nat} {be : Nat → Int64} {bc : Int32} {wd : Nat → Int32} {ou : Nat → Int64} {cd : Int32} {oo : Nat → Nat} {kp : Nat → Nat} {ct : Int32} {fd : Nat → Int64} {os : Int32} {oq : Nat → Int32} {vs : Int32} {sk : Nat → Int64} (I9 : INV od oo tx hd td) {H : Heap} {locs : List Loc} {ls : Array Slot} (hP : va_P g.1 cl (CW g ad rg hd (nF od) (nF tx) (nI td) sm pa pr fl op du qa ab ac qb be bc wd ++ ((oa, aJ g 1 ou) :: (MW g ma cd rg hd (nF oo) (nF kp) (nI td) (nF tx) ct fd os oq vs sk ++ []))) H) (hD : va_D (gA g) (CW g ad rg hd (nF od) (nF tx) (nI td) sm pa pr fl op du qa ab ac qb be bc wd ++ ((oa, aJ g 1 ou) :: (MW g ma cd rg hd (nF oo) (nF kp) (nI td) (nF tx) ct fd os oq vs sk ++ [])))) (hS : va_S (gA g) s.heap H locs) (hl : lv_has ls 7 [(4, .int (nI i)), (0, .ref b), (1, .ref (ad 0)), (2, .ref (ma 0)), (3, .ref oa)]) {cells slots : Nat} (hc1 : cells + 1 ≤ room_1.cells) (hs1 : slots + 6 ≤ room_1.slots) {Q : State → Prop}
    (kk : ∀ (H : Heap) (locs : List Loc) (ls : Array Slot), LST g ad ma oa H → va_S (gA g) s.heap H locs → lv_has ls 7 [(4, .int (nI i)), (0, .ref b), (1, .ref (ad 0)), (2, .ref (ma 0)), (3, .ref oa)] → W p l e room_1 s m #[Value.ref b] below meth c H locs (cells + 1) (slots + 6) Q (F0 m 1402 ls [])) : W p l e room_1 s m #[Value.ref b] below meth c H locs cells slots Q (F0 m 180 ls []) := by
  have hcA : cells ≤ room_1.cells := Nat.le_of_succ_le hc1
  have hsA : slots ≤ room_1.slots := Nat.le_trans (Nat.le_add_right _ _) hs1
  by_cases q1 : inR x1 8 ∧ inR x2 8 ∧ inR x3 8 ∧ inR x4 16
  · obtain ⟨⟨k1, g1, rfl⟩, ⟨k2, g2, rfl⟩, ⟨k3, g3, rfl⟩, ⟨k4, g4, rfl⟩⟩ := q1
    by_cases q2 : hd k2 = 1 ∧ hd k3 = 1
    · refine lv_aload_n hx hb d_LW_law_180 rfl (lv_at hl 2 rfl) ?_
      refine lv_aload_n hx hb d_LW_law_181 rfl (lv_at hl 1 rfl) ?_
      refine lv_iload hx hb d_LW_law_182 (lv_at hl 0 rfl) ?_
      refine lv_iconst (v := nI 1) hx hb d_LW_law_184 (by decide) ?_
      refine rn_add hx hb d_LW_law_185 ?_
      refine rl_s hx hb hX hbl hbA hS (by omega) (by omega) hx1 d_LW_law_186 ?_
      refine lv_aload_n hx hb d_LW_law_187 rfl (lv_at hl 1 rfl) ?_
      refine lv_iload hx hb d_LW_law_188 (lv_at hl 0 rfl) ?_
      refine lv_iconst (v := nI 2) hx hb d_LW_law_190 (by decide) ?_
      refine rn_add hx hb d_LW_law_191 ?_
      refine rl_s hx hb hX hbl hbA hS (by omega) (by omega) hx2 d_LW_law_192 ?_
      refine lv_aload_n hx hb d_LW_law_193 rfl (lv_at hl 1 rfl) ?_
      refine lv_iload hx hb d_LW_law_194 (lv_at hl 0 rfl) ?_
      refine lv_iconst (v := nI 3) hx hb d_LW_law_196 (by decide) ?_
      refine rn_add hx hb d_LW_law_197 ?_
      refine rl_s hx hb hX hbl hbA hS (by omega) (by omega) hx3 d_LW_law_198 ?_
      refine lv_aload_n hx hb d_LW_law_199 rfl (lv_at hl 1 rfl) ?_
      refine lv_iload hx hb d_LW_law_200 (lv_at hl 0 rfl) ?_
      refine lv_iconst (v := nI 4) hx hb d_LW_law_202 (by decide) ?_
      refine rn_add hx hb d_LW_law_203 ?_
      refine rl_s hx hb hX hbl hbA hS (by omega) (by omega) hx4 d_LW_law_204 ?_
      refine pc_T (As := [.ref (ad 0), .int (nI k1), .int (nI k2), .int (nI k3), .int (nI k4)]) (rest := []) hx hb (hml.trans hl.1.symm) hown ht F hP hD hS (c_LW_apply l g ad oa rg hd (nF od) (nF tx) (nI td) sm pa pr fl op du qa ab ac qb be bc wd ou (MW g ma cd rg hd (nF oo) (nF kp) (nI td) (nF tx) ct fd os oq vs sk ++ []) k1 k2 k3 k4 (by first | omega | exact q1 | exact q2 | exact q2.1 | exact q2.2 | exact q2.2.1 | exact q2.2.2 | exact I9.1.1 | exact I9.2.2.2.2 | exact I9.oo.1 | exact I9.oo | exact I9.2.2.2.1 | exact I9.2.2.1 | exact I9.2.2.2.2 _ (by omega) | exact (I9.2.2.2.2 _ (by omega)).resolve_right q2) (by first | omega | exact q1 | exact q2 | exact q2.1 | exact q2.2 | exact q2.2.1 | exact q2.2.2 | exact I9.1.1 | exact I9.2.2.2.2 | exact I9.oo.1 | exact I9.oo | exact I9.2.2.2.1 | exact I9.2.2.1 | exact I9.2.2.2.2 _ (by omega) | exact (I9.2.2.2.2 _ (by omega)).resolve_right q2) (by first | omega | exact q1 | exact q2 | exact q2.1 | exact q2.2 | exact q2.2.1 | exact q2.2.2 | exact I9.1.1 | exact I9.2.2.2.2 | exact I9.oo.1 | exact I9.oo | exact I9.2.2.2.1 | exact I9.2.2.1 | exact I9.2.2.2.2 _ (by omega) | exact (I9.2.2.2.2 _ (by omega)).resolve_right q2) (by first | omega | exact q1 | exact q2 | exact q2.1 | exact q2.2 | exact q2.2.1 | exact q2.2.2 | exact I9.1.1 | exact I9.2.2.2.2 | exact I9.oo.1 | exact I9.oo | exact I9.2.2.2.1 | exact I9.2.2.1 | exact I9.2.2.2.2 _ (by omega) | exact (I9.2.2.2.2 _ (by omega)).resolve_right q2) (by first | omega | exact q1 | exact q2 | exact q2.1 | exact q2.2 | exact q2.2.1 | exact q2.2.2 | exact I9.1.1 | exact I9.2.2.2.2 | exact I9.oo.1 | exact I9.oo | exact I9.2.2.2.1 | exact I9.2.2.1 | exact I9.2.2.2.2 _ (by omega) | exact (I9.2.2.2.2 _ (by omega)).resolve_right q2) (by first | omega | exact q1 | exact q2 | exact q2.1 | exact q2.2 | exact q2.2.1 | exact q2.2.2 | exact I9.1.1 | exact I9.2.2.2.2 | exact I9.oo.1 | exact I9.oo | exact I9.2.2.2.1 | exact I9.2.2.1 | exact I9.2.2.2.2 _ (by omega) | exact (I9.2.2.2.2 _ (by omega)).resolve_right q2)) v_LW_apply tw_234 ⟨rfl, rfl⟩ ⟨by decide, by decide⟩ rfl rfl (Nat.le_of_ble_eq_true rfl) ⟨hcA, hsA⟩ d_LW_law_205 (fun r9 u9 H locs hq hP hD hS => ?_)
      subst hq
      have hP : va_P g.1 cl (CW g ad (vp_updL rg k1 (CNN (rg k2) (rg k3) k4)) (upd hd k1 (nI 1)) (nF od) (nF tx) (nI td) sm pa pr fl op du qa ab ac qb be bc wd ++ ((oa, aJ g 1 ou) :: (MW g ma cd rg hd (nF oo) (nF kp) (nI td) (nF tx) ct fd os oq vs sk ++ []))) H := hP
      have hD : va_D (gA g) (CW g ad (vp_updL rg k1 (CNN (rg k2) (rg k3) k4)) (upd hd k1 (nI 1)) (nF od) (nF tx) (nI td) sm pa pr fl op du qa ab ac qb be bc wd ++ ((oa, aJ g 1 ou) :: (MW g ma cd rg hd (nF oo) (nF kp) (nI td) (nF tx) ct fd os oq vs sk ++ []))) := hD
      refine lv_istore (lv' := [(5, .int (nI 0)), (4, .int (nI i)), (0, .ref b), (1, .ref (ad 0)), (2, .ref (ma 0)), (3, .ref oa)]) hx hb d_LW_law_208 hl (by decide) rfl (fun ls hl => ?_)
      refine lv_aload_n hx hb d_LW_law_210 rfl (lv_at hl 4 rfl) ?_
      refine lv_aload_n hx hb d_LW_law_211 rfl (lv_at hl 2 rfl) ?_
      refine lv_iload hx hb d_LW_law_212 (lv_at hl 1 rfl) ?_
      refine lv_iconst (v := nI 1) hx hb d_LW_law_214 (by decide) ?_
      refine rn_add hx hb d_LW_law_215 ?_
      refine rl_s hx hb hX hbl hbA hS (by omega) (by omega) hx1 d_LW_law_216 ?_
      refine lv_aload_n hx hb d_LW_law_217 rfl (lv_at hl 2 rfl) ?_
      refine lv_iload hx hb d_LW_law_218 (lv_at hl 1 rfl) ?_
      refine lv_iconst (v := nI 2) hx hb d_LW_law_220 (by decide) ?_
      refine rn_add hx hb d_LW_law_221 ?_
      refine rl_s hx hb hX hbl hbA hS (by omega) (by omega) hx2 d_LW_law_222 ?_
      refine lv_aload_n hx hb d_LW_law_223 rfl (lv_at hl 2 rfl) ?_
      refine lv_iload hx hb d_LW_law_224 (lv_at hl 1 rfl) ?_
      refine lv_iconst (v := nI 3) hx hb d_LW_law_226 (by decide) ?_
      refine rn_add hx hb d_LW_law_227 ?_
      refine rl_s hx hb hX hbl hbA hS (by omega) (by omega) hx3 d_LW_law_228 ?_
      refine lv_aload_n hx hb d_LW_law_229 rfl (lv_at hl 2 rfl) ?_
      refine lv_iload hx hb d_LW_law_230 (lv_at hl 1 rfl) ?_
      refine lv_iconst (v := nI 4) hx hb d_LW_law_232 (by decide) ?_
      refine rn_add hx hb d_LW_law_233 ?_
      refine rl_s hx hb hX hbl hbA hS (by omega) (by omega) hx4 d_LW_law_234 ?_
      have hP : va_P g.1 cl (MW g ma cd rg hd (nF oo) (nF kp) (nI td) (nF tx) ct fd os oq vs sk ++ ((oa, aJ g 1 ou) :: (CW g ad (vp_updL rg k1 (CNN (rg k2) (rg k3) k4)) (upd hd k1 (nI 1)) (nF od) (nF tx) (nI td) sm pa pr fl op du qa ab ac qb be bc wd ++ []))) H := wp_perm (pm_ab _ _ _) hP
      have hD : va_D (gA g) (MW g ma cd rg hd (nF oo) (nF kp) (nI td) (nF tx) ct fd os oq vs sk ++ ((oa, aJ g 1 ou) :: (CW g ad (vp_updL rg k1 (CNN (rg k2) (rg k3) k4)) (upd hd k1 (nI 1)) (nF od) (nF tx) (nI td) sm pa pr fl op du qa ab ac qb be bc wd ++ []))) := wd_perm (pm_ab _ _ _) hD
      refine pc_Vv (q0 := 0) (As := [.int (nI k1), .int (nI k2), .int (nI k3), .int (nI k4)]) (rest := []) hx hb (hml.trans hl.1.symm) hown ht F hP hD hS (c_MD_apply l g ma cd rg hd (nF oo) (nF kp) (nI td) (nF tx) ct fd os oq vs sk ((oa, aJ g 1 ou) :: (CW g ad (vp_updL rg k1 (CNN (rg k2) (rg k3) k4)) (upd hd k1 (nI 1)) (nF od) (nF tx) (nI td) sm pa pr fl op du qa ab ac qb be bc wd ++ [])) k1 k2 k3 k4 (by first | omega | exact q1 | exact q2 | exact q2.1 | exact q2.2 | exact q2.2.1 | exact q2.2.2 | exact I9.1.1 | exact I9.2.2.2.2 | exact I9.oo.1 | exact I9.oo | exact I9.2.2.2.1 | exact I9.2.2.1 | exact I9.2.2.2.2 _ (by omega) | exact (I9.2.2.2.2 _ (by omega)).resolve_right q2) (by first | omega | exact q1 | exact q2 | exact q2.1 | exact q2.2 | exact q2.2.1 | exact q2.2.2 | exact I9.1.1 | exact I9.2.2.2.2 | exact I9.oo.1 | exact I9.oo | exact I9.2.2.2.1 | exact I9.2.2.1 | exact I9.2.2.2.2 _ (by omega) | exact (I9.2.2.2.2 _ (by omega)).resolve_right q2) (by first | omega | exact q1 | exact q2 | exact q2.1 | exact q2.2 | exact q2.2.1 | exact q2.2.2 | exact I9.1.1 | exact I9.2.2.2.2 | exact I9.oo.1 | exact I9.oo | exact I9.2.2.2.1 | exact I9.2.2.1 | exact I9.2.2.2.2 _ (by omega) | exact (I9.2.2.2.2 _ (by omega)).resolve_right q2) (by first | omega | exact q1 | exact q2 | exact q2.1 | exact q2.2 | exact q2.2.1 | exact q2.2.2 | exact I9.1.1 | exact I9.2.2.2.2 | exact I9.oo.1 | exact I9.oo | exact I9.2.2.2.1 | exact I9.2.2.1 | exact I9.2.2.2.2 _ (by omega) | exact (I9.2.2.2.2 _ (by omega)).resolve_right q2) (by first | omega | exact q1 | exact q2 | exact q2.1 | exact q2.2 | exact q2.2.1 | exact q2.2.2 | exact I9.1.1 | exact I9.2.2.2.2 | exact I9.oo.1 | exact I9.oo | exact I9.2.2.2.1 | exact I9.2.2.1 | exact I9.2.2.2.2 _ (by omega) | exact (I9.2.2.2.2 _ (by omega)).resolve_right q2) (by first | omega | exact q1 | exact q2 | exact q2.1 | exact q2.2 | exact q2.2.1 | exact q2.2.2 | exact I9.1.1 | exact I9.2.2.2.2 | exact I9.oo.1 | exact I9.oo | exact I9.2.2.2.1 | exact I9.2.2.1 | exact I9.2.2.2.2 _ (by omega) | exact (I9.2.2.2.2 _ (by omega)).resolve_right q2)) v_MD_apply tw_532 ⟨rfl, rfl⟩ ⟨by decide, by decide⟩ rfl rfl rfl rfl (Nat.le_of_ble_eq_true rfl) ⟨hcA, hsA⟩ d_LW_law_235 (fun u9 H locs hq hP hD hS => ?_)
      have hP : va_P g.1 cl (MW g ma (nI 0) (vp_updL rg k1 (CNN (rg k2) (rg k3) k4)) (upd hd k1 (nI 1)) (nF oo) (nF kp) (nI td) (nF tx) ct fd os oq vs sk ++ ((oa, aJ g 1 ou) :: (CW g ad (vp_updL rg k1 (CNN (rg k2) (rg k3) k4)) (upd hd k1 (nI 1)) (nF od) (nF tx) (nI td) sm pa pr fl op du qa ab ac qb be bc wd ++ []))) H := hP
      have hD : va_D (gA g) (MW g ma (nI 0) (vp_updL rg k1 (CNN (rg k2) (rg k3) k4)) (upd hd k1 (nI 1)) (nF oo) (nF kp) (nI td) (nF tx) ct fd os oq vs sk ++ ((oa, aJ g 1 ou) :: (CW g ad (vp_updL rg k1 (CNN (rg k2) (rg k3) k4)) (upd hd k1 (nI 1)) (nF od) (nF tx) (nI td) sm pa pr fl op du qa ab ac qb be bc wd ++ []))) := hD
      refine lv_aload_n hx hb d_LW_law_238 rfl (lv_at hl 4 rfl) ?_
      refine pc_Vi (q0 := 0) (As := []) (rest := []) hx hb (hml.trans hl.1.symm) hown ht F hP hD hS (c_MD_thrown l g ma (nI 0) (vp_updL rg k1 (CNN (rg k2) (rg k3) k4)) (upd hd k1 (nI 1)) (nF oo) (nF kp) (nI td) (nF tx) ct fd os oq vs sk ((oa, aJ g 1 ou) :: (CW g ad (vp_updL rg k1 (CNN (rg k2) (rg k3) k4)) (upd hd k1 (nI 1)) (nF od) (nF tx) (nI td) sm pa pr fl op du qa ab ac qb be bc wd ++ []))) v_MD_thrown tw_510 ⟨rfl, rfl⟩ ⟨by decide, by decide⟩ rfl rfl rfl rfl (Nat.le_of_ble_eq_true rfl) ⟨hcA, hsA⟩ d_LW_law_239 (fun r9 u9 H locs hq hP hD hS => ?_)
      subst hq
      refine lv_iload hx hb d_LW_law_242 (lv_at hl 0 rfl) ?_
      refine rc_eq (tgt := 249) hx hb (by omega) (by omega) d_LW_law_244 (by decide) (fun c244 => ?_) (fun c244 => ?_)
      · refine lv_goto (tgt := 1402) hx hb d_LW_law_249 (by decide) ?_
        have hP : va_P g.1 cl (CW g ad (vp_updL rg k1 (CNN (rg k2) (rg k3) k4)) (upd hd k1 (nI 1)) (nF od) (nF tx) (nI td) sm pa pr fl op du qa ab ac qb be bc wd ++ ((oa, aJ g 1 ou) :: (MW g ma (nI 0) (vp_updL rg k1 (CNN (rg k2) (rg k3) k4)) (upd hd k1 (nI 1)) (nF oo) (nF kp) (nI td) (nF tx) ct fd os oq vs sk ++ []))) H := wp_perm (pm_ab _ _ _) hP
        have hD : va_D (gA g) (CW g ad (vp_updL rg k1 (CNN (rg k2) (rg k3) k4)) (upd hd k1 (nI 1)) (nF od) (nF tx) (nI td) sm pa pr fl op du qa ab ac qb be bc wd ++ ((oa, aJ g 1 ou) :: (MW g ma (nI 0) (vp_updL rg k1 (CNN (rg k2) (rg k3) k4)) (upd hd k1 (nI 1)) (nF oo) (nF kp) (nI td) (nF tx) ct fd os oq vs sk ++ []))) := wd_perm (pm_ab _ _ _) hD
        refine W.widen (k := cells + 1) (n := slots + 6) (by omega) (by omega) ?_
        exact kk H locs ls ⟨vp_updL rg k1 (CNN (rg k2) (rg k3) k4), upd hd k1 (nI 1), od, tx, td, sm, pa, pr, fl, op, du, qa, ab, ac, qb, be, bc, wd, ou, nI 0, oo, kp, ct, fd, os, oq, vs, sk, (I9.put _), hP, hD⟩ hS (lv_sub hl [1, 2, 3, 4, 5] rfl)
      · exact (by omega : False).elim
    · refine lv_aload_n hx hb d_LW_law_180 rfl (lv_at hl 2 rfl) ?_
      refine lv_aload_n hx hb d_LW_law_181 rfl (lv_at hl 1 rfl) ?_
      refine lv_iload hx hb d_LW_law_182 (lv_at hl 0 rfl) ?_
      refine lv_iconst (v := nI 1) hx hb d_LW_law_184 (by decide) ?_
      refine rn_add hx hb d_LW_law_185 ?_
      refine rl_s hx hb hX hbl hbA hS (by omega) (by omega) hx1 d_LW_law_186 ?_
      refine lv_aload_n hx hb d_LW_law_187 rfl (lv_at hl 1 rfl) ?_
      refine lv_iload hx hb d_LW_law_188 (lv_at hl 0 rfl) ?_
      refine lv_iconst (v := nI 2) hx hb d_LW_law_190 (by decide) ?_
      refine rn_add hx hb d_LW_law_191 ?_
      refine rl_s hx hb hX hbl hbA hS (by omega) (by omega) hx2 d_LW_law_192 ?_
      refine lv_aload_n hx hb d_LW_law_193 rfl (lv_at hl 1 rfl) ?_
      refine lv_iload hx hb d_LW_law_194 (lv_at hl 0 rfl) ?_
      refine lv_iconst (v := nI 3) hx hb d_LW_law_196 (by decide) ?_
      refine rn_add hx hb d_LW_law_197 ?_
      refine rl_s hx hb hX hbl hbA hS (by omega) (by omega) hx3 d_LW_law_198 ?_
      refine lv_aload_n hx hb d_LW_law_199 rfl (lv_at hl 1 rfl) ?_
      refine lv_iload hx hb d_LW_law_200 (lv_at hl 0 rfl) ?_
      refine lv_iconst (v := nI 4) hx hb d_LW_law_202 (by decide) ?_
      refine rn_add hx hb d_LW_law_203 ?_
      refine rl_s hx hb hX hbl hbA hS (by omega) (by omega) hx4 d_LW_law_204 ?_
      refine pc_T (As := [.ref (ad 0), .int (nI k1), .int (nI k2), .int (nI k3), .int (nI k4)]) (rest := []) hx hb (hml.trans hl.1.symm) hown ht F hP hD hS (c2_LW_apply l hl0 g ad oa rg hd (nF od) (nF tx) (nI td) sm pa pr fl op du qa ab ac qb be bc wd ou (MW g ma cd rg hd (nF oo) (nF kp) (nI td) (nF tx) ct fd os oq vs sk ++ []) k1 k2 k3 k4 (by first | omega | exact q1 | exact q2 | exact q2.1 | exact q2.2 | exact q2.2.1 | exact q2.2.2 | exact I9.1.1 | exact I9.2.2.2.2 | exact I9.oo.1 | exact I9.oo | exact I9.2.2.2.1 | exact I9.2.2.1 | exact I9.2.2.2.2 _ (by omega) | exact (I9.2.2.2.2 _ (by omega)).resolve_right q2) (by first | omega | exact q1 | exact q2 | exact q2.1 | exact q2.2 | exact q2.2.1 | exact q2.2.2 | exact I9.1.1 | exact I9.2.2.2.2 | exact I9.oo.1 | exact I9.oo | exact I9.2.2.2.1 | exact I9.2.2.1 | exact I9.2.2.2.2 _ (by omega) | exact (I9.2.2.2.2 _ (by omega)).resolve_right q2) (by first | omega | exact q1 | exact q2 | exact q2.1 | exact q2.2 | exact q2.2.1 | exact q2.2.2 | exact I9.1.1 | exact I9.2.2.2.2 | exact I9.oo.1 | exact I9.oo | exact I9.2.2.2.1 | exact I9.2.2.1 | exact I9.2.2.2.2 _ (by omega) | exact (I9.2.2.2.2 _ (by omega)).resolve_right q2) (by first | omega | exact q1 | exact q2 | exact q2.1 | exact q2.2 | exact q2.2.1 | exact q2.2.2 | exact I9.1.1 | exact I9.2.2.2.2 | exact I9.oo.1 | exact I9.oo | exact I9.2.2.2.1 | exact I9.2.2.1 | exact I9.2.2.2.2 _ (by omega) | exact (I9.2.2.2.2 _ (by omega)).resolve_right q2) (by first | omega | exact q1 | exact q2 | exact q2.1 | exact q2.2 | exact q2.2.1 | exact q2.2.2 | exact I9.1.1 | exact I9.2.2.2.2 | exact I9.oo.1 | exact I9.oo | exact I9.2.2.2.1 | exact I9.2.2.1 | exact I9.2.2.2.2 _ (by omega) | exact (I9.2.2.2.2 _ (by omega)).resolve_right q2) (by first | omega | exact q1 | exact q2 | exact q2.1 | exact q2.2 | exact q2.2.1 | exact q2.2.2 | exact I9.1.1 | exact I9.2.2.2.2 | exact I9.oo.1 | exact I9.oo | exact I9.2.2.2.1 | exact I9.2.2.1 | exact I9.2.2.2.2 _ (by omega) | exact (I9.2.2.2.2 _ (by omega)).resolve_right q2)) v_LW_apply tw_234 ⟨rfl, rfl⟩ ⟨by decide, by decide⟩ rfl rfl (Nat.le_of_ble_eq_true rfl) ⟨hc1, hs1⟩ d_LW_law_205 (fun r9 u9 H locs hq hP hD hS => ?_)
      subst hq
      refine lv_istore (lv' := [(5, .int (nI 2)), (4, .int (nI i)), (0, .ref b), (1, .ref (ad 0)), (2, .ref (ma 0)), (3, .ref oa)]) hx hb d_LW_law_208 hl (by decide) rfl (fun ls hl => ?_)
      refine lv_aload_n hx hb d_LW_law_210 rfl (lv_at hl 4 rfl) ?_
      refine lv_aload_n hx hb d_LW_law_211 rfl (lv_at hl 2 rfl) ?_
      refine lv_iload hx hb d_LW_law_212 (lv_at hl 1 rfl) ?_
      refine lv_iconst (v := nI 1) hx hb d_LW_law_214 (by decide) ?_
      refine rn_add hx hb d_LW_law_215 ?_
      refine rl_s hx hb hX hbl hbA hS (by omega) (by omega) hx1 d_LW_law_216 ?_
      refine lv_aload_n hx hb d_LW_law_217 rfl (lv_at hl 2 rfl) ?_
      refine lv_iload hx hb d_LW_law_218 (lv_at hl 1 rfl) ?_
      refine lv_iconst (v := nI 2) hx hb d_LW_law_220 (by decide) ?_
      refine rn_add hx hb d_LW_law_221 ?_
      refine rl_s hx hb hX hbl hbA hS (by omega) (by omega) hx2 d_LW_law_222 ?_
      refine lv_aload_n hx hb d_LW_law_223 rfl (lv_at hl 2 rfl) ?_
      refine lv_iload hx hb d_LW_law_224 (lv_at hl 1 rfl) ?_
      refine lv_iconst (v := nI 3) hx hb d_LW_law_226 (by decide) ?_
      refine rn_add hx hb d_LW_law_227 ?_
      refine rl_s hx hb hX hbl hbA hS (by omega) (by omega) hx3 d_LW_law_228 ?_
      refine lv_aload_n hx hb d_LW_law_229 rfl (lv_at hl 2 rfl) ?_
      refine lv_iload hx hb d_LW_law_230 (lv_at hl 1 rfl) ?_
      refine lv_iconst (v := nI 4) hx hb d_LW_law_232 (by decide) ?_
      refine rn_add hx hb d_LW_law_233 ?_
      refine rl_s hx hb hX hbl hbA hS (by omega) (by omega) hx4 d_LW_law_234 ?_
      have hP : va_P g.1 cl (MW g ma cd rg hd (nF oo) (nF kp) (nI td) (nF tx) ct fd os oq vs sk ++ ((oa, aJ g 1 ou) :: (CW g ad rg hd (nF od) (nF tx) (nI td) sm pa pr fl op du qa ab ac qb be bc wd ++ []))) H := wp_perm (pm_ab _ _ _) hP
      have hD : va_D (gA g) (MW g ma cd rg hd (nF oo) (nF kp) (nI td) (nF tx) ct fd os oq vs sk ++ ((oa, aJ g 1 ou) :: (CW g ad rg hd (nF od) (nF tx) (nI td) sm pa pr fl op du qa ab ac qb be bc wd ++ []))) := wd_perm (pm_ab _ _ _) hD
      refine pc_Vv (q0 := 0) (As := [.int (nI k1), .int (nI k2), .int (nI k3), .int (nI k4)]) (rest := []) hx hb (hml.trans hl.1.symm) hown ht F hP hD hS (c2_MD_apply l g ma cd rg hd (nF oo) (nF kp) (nI td) (nF tx) ct fd os oq vs sk ((oa, aJ g 1 ou) :: (CW g ad rg hd (nF od) (nF tx) (nI td) sm pa pr fl op du qa ab ac qb be bc wd ++ [])) k1 k2 k3 k4 (by first | omega | exact q1 | exact q2 | exact q2.1 | exact q2.2 | exact q2.2.1 | exact q2.2.2 | exact I9.1.1 | exact I9.2.2.2.2 | exact I9.oo.1 | exact I9.oo | exact I9.2.2.2.1 | exact I9.2.2.1 | exact I9.2.2.2.2 _ (by omega) | exact (I9.2.2.2.2 _ (by omega)).resolve_right q2) (by first | omega | exact q1 | exact q2 | exact q2.1 | exact q2.2 | exact q2.2.1 | exact q2.2.2 | exact I9.1.1 | exact I9.2.2.2.2 | exact I9.oo.1 | exact I9.oo | exact I9.2.2.2.1 | exact I9.2.2.1 | exact I9.2.2.2.2 _ (by omega) | exact (I9.2.2.2.2 _ (by omega)).resolve_right q2) (by first | omega | exact q1 | exact q2 | exact q2.1 | exact q2.2 | exact q2.2.1 | exact q2.2.2 | exact I9.1.1 | exact I9.2.2.2.2 | exact I9.oo.1 | exact I9.oo | exact I9.2.2.2.1 | exact I9.2.2.1 | exact I9.2.2.2.2 _ (by omega) | exact (I9.2.2.2.2 _ (by omega)).resolve_right q2) (by first | omega | exact q1 | exact q2 | exact q2.1 | exact q2.2 | exact q2.2.1 | exact q2.2.2 | exact I9.1.1 | exact I9.2.2.2.2 | exact I9.oo.1 | exact I9.oo | exact I9.2.2.2.1 | exact I9.2.2.1 | exact I9.2.2.2.2 _ (by omega) | exact (I9.2.2.2.2 _ (by omega)).resolve_right q2) (by first | omega | exact q1 | exact q2 | exact q2.1 | exact q2.2 | exact q2.2.1 | exact q2.2.2 | exact I9.1.1 | exact I9.2.2.2.2 | exact I9.oo.1 | exact I9.oo | exact I9.2.2.2.1 | exact I9.2.2.1 | exact I9.2.2.2.2 _ (by omega) | exact (I9.2.2.2.2 _ (by omega)).resolve_right q2) (by first | omega | exact q1 | exact q2 | exact q2.1 | exact q2.2 | exact q2.2.1 | exact q2.2.2 | exact I9.1.1 | exact I9.2.2.2.2 | exact I9.oo.1 | exact I9.oo | exact I9.2.2.2.1 | exact I9.2.2.1 | exact I9.2.2.2.2 _ (by omega) | exact (I9.2.2.2.2 _ (by omega)).resolve_right q2)) v_MD_apply tw_532 ⟨rfl, rfl⟩ ⟨by decide, by decide⟩ rfl rfl rfl rfl (Nat.le_of_ble_eq_true rfl) ⟨hc1, hs1⟩ d_LW_law_235 (fun u9 H locs hq hP hD hS => ?_)
      have hP : va_P g.1 cl (MW g ma (nI 2) rg hd (nF oo) (nF kp) (nI td) (nF tx) ct fd os oq vs sk ++ ((oa, aJ g 1 ou) :: (CW g ad rg hd (nF od) (nF tx) (nI td) sm pa pr fl op du qa ab ac qb be bc wd ++ []))) H := hP
      have hD : va_D (gA g) (MW g ma (nI 2) rg hd (nF oo) (nF kp) (nI td) (nF tx) ct fd os oq vs sk ++ ((oa, aJ g 1 ou) :: (CW g ad rg hd (nF od) (nF tx) (nI td) sm pa pr fl op du qa ab ac qb be bc wd ++ []))) := hD
      refine lv_aload_n hx hb d_LW_law_238 rfl (lv_at hl 4 rfl) ?_
      refine pc_Vi (q0 := 0) (As := []) (rest := []) hx hb (hml.trans hl.1.symm) hown ht F hP hD hS (c_MD_thrown l g ma (nI 2) rg hd (nF oo) (nF kp) (nI td) (nF tx) ct fd os oq vs sk ((oa, aJ g 1 ou) :: (CW g ad rg hd (nF od) (nF tx) (nI td) sm pa pr fl op du qa ab ac qb be bc wd ++ []))) v_MD_thrown tw_510 ⟨rfl, rfl⟩ ⟨by decide, by decide⟩ rfl rfl rfl rfl (Nat.le_of_ble_eq_true rfl) ⟨hc1, hs1⟩ d_LW_law_239 (fun r9 u9 H locs hq hP hD hS => ?_)
      subst hq
      refine lv_iload hx hb d_LW_law_242 (lv_at hl 0 rfl) ?_
      refine rc_eq (tgt := 249) hx hb (by omega) (by omega) d_LW_law_244 (by decide) (fun c244 => ?_) (fun c244 => ?_)
      · refine lv_goto (tgt := 1402) hx hb d_LW_law_249 (by decide) ?_
        have hP : va_P g.1 cl (CW g ad rg hd (nF od) (nF tx) (nI td) sm pa pr fl op du qa ab ac qb be bc wd ++ ((oa, aJ g 1 ou) :: (MW g ma (nI 2) rg hd (nF oo) (nF kp) (nI td) (nF tx) ct fd os oq vs sk ++ []))) H := wp_perm (pm_ab _ _ _) hP
        have hD : va_D (gA g) (CW g ad rg hd (nF od) (nF tx) (nI td) sm pa pr fl op du qa ab ac qb be bc wd ++ ((oa, aJ g 1 ou) :: (MW g ma (nI 2) rg hd (nF oo) (nF kp) (nI td) (nF tx) ct fd os oq vs sk ++ []))) := wd_perm (pm_ab _ _ _) hD
        refine W.widen (k := cells + 1) (n := slots + 6) (by omega) (by omega) ?_
        exact kk H locs ls ⟨rg, hd, od, tx, td, sm, pa, pr, fl, op, du, qa, ab, ac, qb, be, bc, wd, ou, nI 2, oo, kp, ct, fd, os, oq, vs, sk, I9, hP, hD⟩ hS (lv_sub hl [1, 2, 3, 4, 5] rfl)
      · exact (by omega : False).elim
  · refine lv_aload_n hx hb d_LW_law_180 rfl (lv_at hl 2 rfl) ?_
    refine lv_aload_n hx hb d_LW_law_181 rfl (lv_at hl 1 rfl) ?_
    refine lv_iload hx hb d_LW_law_182 (lv_at hl 0 rfl) ?_
    refine lv_iconst (v := nI 1) hx hb d_LW_law_184 (by decide) ?_
    refine rn_add hx hb d_LW_law_185 ?_
    refine rl_s hx hb hX hbl hbA hS (by omega) (by omega) hx1 d_LW_law_186 ?_
    refine lv_aload_n hx hb d_LW_law_187 rfl (lv_at hl 1 rfl) ?_
    refine lv_iload hx hb d_LW_law_188 (lv_at hl 0 rfl) ?_
    refine lv_iconst (v := nI 2) hx hb d_LW_law_190 (by decide) ?_
    refine rn_add hx hb d_LW_law_191 ?_
    refine rl_s hx hb hX hbl hbA hS (by omega) (by omega) hx2 d_LW_law_192 ?_
    refine lv_aload_n hx hb d_LW_law_193 rfl (lv_at hl 1 rfl) ?_
    refine lv_iload hx hb d_LW_law_194 (lv_at hl 0 rfl) ?_
    refine lv_iconst (v := nI 3) hx hb d_LW_law_196 (by decide) ?_
    refine rn_add hx hb d_LW_law_197 ?_
    refine rl_s hx hb hX hbl hbA hS (by omega) (by omega) hx3 d_LW_law_198 ?_
    refine lv_aload_n hx hb d_LW_law_199 rfl (lv_at hl 1 rfl) ?_
    refine lv_iload hx hb d_LW_law_200 (lv_at hl 0 rfl) ?_
    refine lv_iconst (v := nI 4) hx hb d_LW_law_202 (by decide) ?_
    refine rn_add hx hb d_LW_law_203 ?_
    refine rl_s hx hb hX hbl hbA hS (by omega) (by omega) hx4 d_LW_law_204 ?_
    refine pc_T (As := [.ref (ad 0), .int x1, .int x2, .int x3, .int x4]) (rest := []) hx hb (hml.trans hl.1.symm) hown ht F hP hD hS (c1_LW_apply l hl0 g ad oa rg hd (nF od) (nF tx) (nI td) sm pa pr fl op du qa ab ac qb be bc wd ou (MW g ma cd rg hd (nF oo) (nF kp) (nI td) (nF tx) ct fd os oq vs sk ++ []) x1 x2 x3 x4 (by first | omega | exact q1 | exact q2 | exact q2.1 | exact q2.2 | exact q2.2.1 | exact q2.2.2 | exact I9.1.1 | exact I9.2.2.2.2 | exact I9.oo.1 | exact I9.oo | exact I9.2.2.2.1 | exact I9.2.2.1 | exact I9.2.2.2.2 _ (by omega) | exact (I9.2.2.2.2 _ (by omega)).resolve_right q2)) v_LW_apply tw_234 ⟨rfl, rfl⟩ ⟨by decide, by decide⟩ rfl rfl (Nat.le_of_ble_eq_true rfl) ⟨hc1, hs1⟩ d_LW_law_205 (fun r9 u9 H locs hq hP hD hS => ?_)
    subst hq
    refine lv_istore (lv' := [(5, .int (nI 1)), (4, .int (nI i)), (0, .ref b), (1, .ref (ad 0)), (2, .ref (ma 0)), (3, .ref oa)]) hx hb d_LW_law_208 hl (by decide) rfl (fun ls hl => ?_)
    refine lv_aload_n hx hb d_LW_law_210 rfl (lv_at hl 4 rfl) ?_
    refine lv_aload_n hx hb d_LW_law_211 rfl (lv_at hl 2 rfl) ?_
    refine lv_iload hx hb d_LW_law_212 (lv_at hl 1 rfl) ?_
    refine lv_iconst (v := nI 1) hx hb d_LW_law_214 (by decide) ?_
    refine rn_add hx hb d_LW_law_215 ?_
    refine rl_s hx hb hX hbl hbA hS (by omega) (by omega) hx1 d_LW_law_216 ?_
    refine lv_aload_n hx hb d_LW_law_217 rfl (lv_at hl 2 rfl) ?_
    refine lv_iload hx hb d_LW_law_218 (lv_at hl 1 rfl) ?_
    refine lv_iconst (v := nI 2) hx hb d_LW_law_220 (by decide) ?_
    refine rn_add hx hb d_LW_law_221 ?_
    refine rl_s hx hb hX hbl hbA hS (by omega) (by omega) hx2 d_LW_law_222 ?_
    refine lv_aload_n hx hb d_LW_law_223 rfl (lv_at hl 2 rfl) ?_
    refine lv_iload hx hb d_LW_law_224 (lv_at hl 1 rfl) ?_
    refine lv_iconst (v := nI 3) hx hb d_LW_law_226 (by decide) ?_
    refine rn_add hx hb d_LW_law_227 ?_
    refine rl_s hx hb hX hbl hbA hS (by omega) (by omega) hx3 d_LW_law_228 ?_
    refine lv_aload_n hx hb d_LW_law_229 rfl (lv_at hl 2 rfl) ?_
    refine lv_iload hx hb d_LW_law_230 (lv_at hl 1 rfl) ?_
    refine lv_iconst (v := nI 4) hx hb d_LW_law_232 (by decide) ?_
    refine rn_add hx hb d_LW_law_233 ?_
    refine rl_s hx hb hX hbl hbA hS (by omega) (by omega) hx4 d_LW_law_234 ?_
    have hP : va_P g.1 cl (MW g ma cd rg hd (nF oo) (nF kp) (nI td) (nF tx) ct fd os oq vs sk ++ ((oa, aJ g 1 ou) :: (CW g ad rg hd (nF od) (nF tx) (nI td) sm pa pr fl op du qa ab ac qb be bc wd ++ []))) H := wp_perm (pm_ab _ _ _) hP
    have hD : va_D (gA g) (MW g ma cd rg hd (nF oo) (nF kp) (nI td) (nF tx) ct fd os oq vs sk ++ ((oa, aJ g 1 ou) :: (CW g ad rg hd (nF od) (nF tx) (nI td) sm pa pr fl op du qa ab ac qb be bc wd ++ []))) := wd_perm (pm_ab _ _ _) hD
    refine pc_Vv (q0 := 0) (As := [.int x1, .int x2, .int x3, .int x4]) (rest := []) hx hb (hml.trans hl.1.symm) hown ht F hP hD hS (c1_MD_apply l g ma cd rg hd (nF oo) (nF kp) (nI td) (nF tx) ct fd os oq vs sk ((oa, aJ g 1 ou) :: (CW g ad rg hd (nF od) (nF tx) (nI td) sm pa pr fl op du qa ab ac qb be bc wd ++ [])) x1 x2 x3 x4 (by first | omega | exact q1 | exact q2 | exact q2.1 | exact q2.2 | exact q2.2.1 | exact q2.2.2 | exact I9.1.1 | exact I9.2.2.2.2 | exact I9.oo.1 | exact I9.oo | exact I9.2.2.2.1 | exact I9.2.2.1 | exact I9.2.2.2.2 _ (by omega) | exact (I9.2.2.2.2 _ (by omega)).resolve_right q2)) v_MD_apply tw_532 ⟨rfl, rfl⟩ ⟨by decide, by decide⟩ rfl rfl rfl rfl (Nat.le_of_ble_eq_true rfl) ⟨hc1, hs1⟩ d_LW_law_235 (fun u9 H locs hq hP hD hS => ?_)
    have hP : va_P g.1 cl (MW g ma (nI 1) rg hd (nF oo) (nF kp) (nI td) (nF tx) ct fd os oq vs sk ++ ((oa, aJ g 1 ou) :: (CW g ad rg hd (nF od) (nF tx) (nI td) sm pa pr fl op du qa ab ac qb be bc wd ++ []))) H := hP
    have hD : va_D (gA g) (MW g ma (nI 1) rg hd (nF oo) (nF kp) (nI td) (nF tx) ct fd os oq vs sk ++ ((oa, aJ g 1 ou) :: (CW g ad rg hd (nF od) (nF tx) (nI td) sm pa pr fl op du qa ab ac qb be bc wd ++ []))) := hD
    refine lv_aload_n hx hb d_LW_law_238 rfl (lv_at hl 4 rfl) ?_
    refine pc_Vi (q0 := 0) (As := []) (rest := []) hx hb (hml.trans hl.1.symm) hown ht F hP hD hS (c_MD_thrown l g ma (nI 1) rg hd (nF oo) (nF kp) (nI td) (nF tx) ct fd os oq vs sk ((oa, aJ g 1 ou) :: (CW g ad rg hd (nF od) (nF tx) (nI td) sm pa pr fl op du qa ab ac qb be bc wd ++ []))) v_MD_thrown tw_510 ⟨rfl, rfl⟩ ⟨by decide, by decide⟩ rfl rfl rfl rfl (Nat.le_of_ble_eq_true rfl) ⟨hc1, hs1⟩ d_LW_law_239 (fun r9 u9 H locs hq hP hD hS => ?_)
    subst hq
    refine lv_iload hx hb d_LW_law_242 (lv_at hl 0 rfl) ?_
    refine rc_eq (tgt := 249) hx hb (by omega) (by omega) d_LW_law_244 (by decide) (fun c244 => ?_) (fun c244 => ?_)
    · refine lv_goto (tgt := 1402) hx hb d_LW_law_249 (by decide) ?_
      have hP : va_P g.1 cl (CW g ad rg hd (nF od) (nF tx) (nI td) sm pa pr fl op du qa ab ac qb be bc wd ++ ((oa, aJ g 1 ou) :: (MW g ma (nI 1) rg hd (nF oo) (nF kp) (nI td) (nF tx) ct fd os oq vs sk ++ []))) H := wp_perm (pm_ab _ _ _) hP
      have hD : va_D (gA g) (CW g ad rg hd (nF od) (nF tx) (nI td) sm pa pr fl op du qa ab ac qb be bc wd ++ ((oa, aJ g 1 ou) :: (MW g ma (nI 1) rg hd (nF oo) (nF kp) (nI td) (nF tx) ct fd os oq vs sk ++ []))) := wd_perm (pm_ab _ _ _) hD
      refine W.widen (k := cells + 1) (n := slots + 6) (by omega) (by omega) ?_
      exact kk H locs ls ⟨rg, hd, od, tx, td, sm, pa, pr, fl, op, du, qa, ab, ac, qb, be, bc, wd, ou, nI 1, oo, kp, ct, fd, os, oq, vs, sk, I9, hP, hD⟩ hS (lv_sub hl [1, 2, 3, 4, 5] rfl)
    · exact (by omega : False).elim
set_option maxRecDepth 100000 in
set_option maxHeartbeats 4000000 in
theorem st_choose {p : Program} {l : Launch} {e : Env} {s : State} {m : MethodId} {below : List Frame} {meth : Method} {c : Code} (hl0 : l.stackTraces = false) {g : Gx} {ad ma : Nat → Nat} {oa b L i : Nat} {xs : Nat → Int32} {x1 x2 x3 x4 : Int32} (hx : p.tables.exec = Jvm.exec) (hb : c.code = b_LW_law) (hml : c.maxLocals = 7) (hown : s.vm.findClass "SiftedGraphsLaw" = some m.cls) (ht : ∀ w ∈ TW, w.before #[Value.ref b] s = true) (F : Fx g s) (hX : va_X b L xs s s.heap) (hbl : b < s.heap.size) (hbA : ¬ gA g b) (hL : L ≤ 2560) (hi : i + 4 < L) (hx1 : xs (i + 1) = x1) (hx2 : xs (i + 2) = x2) (hx3 : xs (i + 3) = x3) (hx4 : xs (i + 4) = x4) {rg : Nat → Int64} {hd : Nat → Int32} {od : Nat → Nat} {tx : Nat → Nat} {td : Nat} {sm : Nat → Int64} {pa : Nat → Int64} {pr : Nat → Int64} {fl : Nat → Int64} {op : Int32} {du : Int32} {qa : Nat} {ab : Nat → Int64} {ac : Int32} {qb : Nat} {be : Nat → Int64} {bc : Int32} {wd : Nat → Int32} {ou : Nat → Int64} {cd : Int32} {oo : Nat → Nat} {kp : Nat → Nat} {ct : Int32} {fd : Nat → Int64} {os : Int32} {oq : Nat → Int32} {vs : Int32} {sk : Nat → Int64} (I9 : INV od oo tx hd td) {H : Heap} {locs : List Loc} {ls : Array Slot} (hP : va_P g.1 cl (CW g ad rg hd (nF od) (nF tx) (nI td) sm pa pr fl op du qa ab ac qb be bc wd ++ ((oa, aJ g 1 ou) :: (MW g ma cd rg hd (nF oo) (nF kp) (nI td) (nF tx) ct fd os oq vs sk ++ []))) H) (hD : va_D (gA g) (CW g ad rg hd (nF od) (nF tx) (nI td) sm pa pr fl op du qa ab ac qb be bc wd ++ ((oa, aJ g 1 ou) :: (MW g ma cd rg hd (nF oo) (nF kp) (nI td) (nF tx) ct fd os oq vs sk ++ [])))) (hS : va_S (gA g) s.heap H locs) (hl : lv_has ls 7 [(4, .int (nI i)), (0, .ref b), (1, .ref (ad 0)), (2, .ref (ma 0)), (3, .ref oa)]) {cells slots : Nat} (hc1 : cells + 1 ≤ room_1.cells) (hs1 : slots + 6 ≤ room_1.slots) {Q : State → Prop}
    (kk : ∀ (H : Heap) (locs : List Loc) (ls : Array Slot), LST g ad ma oa H → va_S (gA g) s.heap H locs → lv_has ls 7 [(4, .int (nI i)), (0, .ref b), (1, .ref (ad 0)), (2, .ref (ma 0)), (3, .ref oa)] → W p l e room_1 s m #[Value.ref b] below meth c H locs (cells + 1) (slots + 6) Q (F0 m 1402 ls [])) : W p l e room_1 s m #[Value.ref b] below meth c H locs cells slots Q (F0 m 252 ls []) := by
  have hcA : cells ≤ room_1.cells := Nat.le_of_succ_le hc1
  have hsA : slots ≤ room_1.slots := Nat.le_trans (Nat.le_add_right _ _) hs1
  by_cases q1 : inR x1 8 ∧ inR x2 8 ∧ inR x3 8 ∧ inR x4 8
  · obtain ⟨⟨k1, g1, rfl⟩, ⟨k2, g2, rfl⟩, ⟨k3, g3, rfl⟩, ⟨k4, g4, rfl⟩⟩ := q1
    by_cases q2 : hd k2 = 1 ∧ hd k3 = 1 ∧ hd k4 = 1
    · refine lv_aload_n hx hb d_LW_law_252 rfl (lv_at hl 2 rfl) ?_
      refine lv_aload_n hx hb d_LW_law_253 rfl (lv_at hl 1 rfl) ?_
      refine lv_iload hx hb d_LW_law_254 (lv_at hl 0 rfl) ?_
      refine lv_iconst (v := nI 1) hx hb d_LW_law_256 (by decide) ?_
      refine rn_add hx hb d_LW_law_257 ?_
      refine rl_s hx hb hX hbl hbA hS (by omega) (by omega) hx1 d_LW_law_258 ?_
      refine lv_aload_n hx hb d_LW_law_259 rfl (lv_at hl 1 rfl) ?_
      refine lv_iload hx hb d_LW_law_260 (lv_at hl 0 rfl) ?_
      refine lv_iconst (v := nI 2) hx hb d_LW_law_262 (by decide) ?_
      refine rn_add hx hb d_LW_law_263 ?_
      refine rl_s hx hb hX hbl hbA hS (by omega) (by omega) hx2 d_LW_law_264 ?_
      refine lv_aload_n hx hb d_LW_law_265 rfl (lv_at hl 1 rfl) ?_
      refine lv_iload hx hb d_LW_law_266 (lv_at hl 0 rfl) ?_
      refine lv_iconst (v := nI 3) hx hb d_LW_law_268 (by decide) ?_
      refine rn_add hx hb d_LW_law_269 ?_
      refine rl_s hx hb hX hbl hbA hS (by omega) (by omega) hx3 d_LW_law_270 ?_
      refine lv_aload_n hx hb d_LW_law_271 rfl (lv_at hl 1 rfl) ?_
      refine lv_iload hx hb d_LW_law_272 (lv_at hl 0 rfl) ?_
      refine lv_iconst (v := nI 4) hx hb d_LW_law_274 (by decide) ?_
      refine rn_add hx hb d_LW_law_275 ?_
      refine rl_s hx hb hX hbl hbA hS (by omega) (by omega) hx4 d_LW_law_276 ?_
      refine pc_T (As := [.ref (ad 0), .int (nI k1), .int (nI k2), .int (nI k3), .int (nI k4)]) (rest := []) hx hb (hml.trans hl.1.symm) hown ht F hP hD hS (c_LW_choose l g ad oa rg hd (nF od) (nF tx) (nI td) sm pa pr fl op du qa ab ac qb be bc wd ou (MW g ma cd rg hd (nF oo) (nF kp) (nI td) (nF tx) ct fd os oq vs sk ++ []) k1 k2 k3 k4 (by first | omega | exact q1 | exact q2 | exact q2.1 | exact q2.2 | exact q2.2.1 | exact q2.2.2 | exact I9.1.1 | exact I9.2.2.2.2 | exact I9.oo.1 | exact I9.oo | exact I9.2.2.2.1 | exact I9.2.2.1 | exact I9.2.2.2.2 _ (by omega) | exact (I9.2.2.2.2 _ (by omega)).resolve_right q2) (by first | omega | exact q1 | exact q2 | exact q2.1 | exact q2.2 | exact q2.2.1 | exact q2.2.2 | exact I9.1.1 | exact I9.2.2.2.2 | exact I9.oo.1 | exact I9.oo | exact I9.2.2.2.1 | exact I9.2.2.1 | exact I9.2.2.2.2 _ (by omega) | exact (I9.2.2.2.2 _ (by omega)).resolve_right q2) (by first | omega | exact q1 | exact q2 | exact q2.1 | exact q2.2 | exact q2.2.1 | exact q2.2.2 | exact I9.1.1 | exact I9.2.2.2.2 | exact I9.oo.1 | exact I9.oo | exact I9.2.2.2.1 | exact I9.2.2.1 | exact I9.2.2.2.2 _ (by omega) | exact (I9.2.2.2.2 _ (by omega)).resolve_right q2) (by first | omega | exact q1 | exact q2 | exact q2.1 | exact q2.2 | exact q2.2.1 | exact q2.2.2 | exact I9.1.1 | exact I9.2.2.2.2 | exact I9.oo.1 | exact I9.oo | exact I9.2.2.2.1 | exact I9.2.2.1 | exact I9.2.2.2.2 _ (by omega) | exact (I9.2.2.2.2 _ (by omega)).resolve_right q2) (by first | omega | exact q1 | exact q2 | exact q2.1 | exact q2.2 | exact q2.2.1 | exact q2.2.2 | exact I9.1.1 | exact I9.2.2.2.2 | exact I9.oo.1 | exact I9.oo | exact I9.2.2.2.1 | exact I9.2.2.1 | exact I9.2.2.2.2 _ (by omega) | exact (I9.2.2.2.2 _ (by omega)).resolve_right q2) (by first | omega | exact q1 | exact q2 | exact q2.1 | exact q2.2 | exact q2.2.1 | exact q2.2.2 | exact I9.1.1 | exact I9.2.2.2.2 | exact I9.oo.1 | exact I9.oo | exact I9.2.2.2.1 | exact I9.2.2.1 | exact I9.2.2.2.2 _ (by omega) | exact (I9.2.2.2.2 _ (by omega)).resolve_right q2) (by first | omega | exact q1 | exact q2 | exact q2.1 | exact q2.2 | exact q2.2.1 | exact q2.2.2 | exact I9.1.1 | exact I9.2.2.2.2 | exact I9.oo.1 | exact I9.oo | exact I9.2.2.2.1 | exact I9.2.2.1 | exact I9.2.2.2.2 _ (by omega) | exact (I9.2.2.2.2 _ (by omega)).resolve_right q2)) v_LW_choose tw_264 ⟨rfl, rfl⟩ ⟨by decide, by decide⟩ rfl rfl (Nat.le_of_ble_eq_true rfl) ⟨hcA, hsA⟩ d_LW_law_277 (fun r9 u9 H locs hq hP hD hS => ?_)
      subst hq
      have hP : va_P g.1 cl (CW g ad (vp_updL rg k1 (CH (rg k2) (rg k3) (rg k4))) (upd hd k1 (nI 1)) (nF od) (nF tx) (nI td) sm pa pr fl op du qa ab ac qb be bc wd ++ ((oa, aJ g 1 ou) :: (MW g ma cd rg hd (nF oo) (nF kp) (nI td) (nF tx) ct fd os oq vs sk ++ []))) H := hP
      have hD : va_D (gA g) (CW g ad (vp_updL rg k1 (CH (rg k2) (rg k3) (rg k4))) (upd hd k1 (nI 1)) (nF od) (nF tx) (nI td) sm pa pr fl op du qa ab ac qb be bc wd ++ ((oa, aJ g 1 ou) :: (MW g ma cd rg hd (nF oo) (nF kp) (nI td) (nF tx) ct fd os oq vs sk ++ []))) := hD
      refine lv_istore (lv' := [(5, .int (nI 0)), (4, .int (nI i)), (0, .ref b), (1, .ref (ad 0)), (2, .ref (ma 0)), (3, .ref oa)]) hx hb d_LW_law_280 hl (by decide) rfl (fun ls hl => ?_)
      refine lv_aload_n hx hb d_LW_law_282 rfl (lv_at hl 4 rfl) ?_
      refine lv_aload_n hx hb d_LW_law_283 rfl (lv_at hl 2 rfl) ?_
      refine lv_iload hx hb d_LW_law_284 (lv_at hl 1 rfl) ?_
      refine lv_iconst (v := nI 1) hx hb d_LW_law_286 (by decide) ?_
      refine rn_add hx hb d_LW_law_287 ?_
      refine rl_s hx hb hX hbl hbA hS (by omega) (by omega) hx1 d_LW_law_288 ?_
      refine lv_aload_n hx hb d_LW_law_289 rfl (lv_at hl 2 rfl) ?_
      refine lv_iload hx hb d_LW_law_290 (lv_at hl 1 rfl) ?_
      refine lv_iconst (v := nI 2) hx hb d_LW_law_292 (by decide) ?_
      refine rn_add hx hb d_LW_law_293 ?_
      refine rl_s hx hb hX hbl hbA hS (by omega) (by omega) hx2 d_LW_law_294 ?_
      refine lv_aload_n hx hb d_LW_law_295 rfl (lv_at hl 2 rfl) ?_
      refine lv_iload hx hb d_LW_law_296 (lv_at hl 1 rfl) ?_
      refine lv_iconst (v := nI 3) hx hb d_LW_law_298 (by decide) ?_
      refine rn_add hx hb d_LW_law_299 ?_
      refine rl_s hx hb hX hbl hbA hS (by omega) (by omega) hx3 d_LW_law_300 ?_
      refine lv_aload_n hx hb d_LW_law_301 rfl (lv_at hl 2 rfl) ?_
      refine lv_iload hx hb d_LW_law_302 (lv_at hl 1 rfl) ?_
      refine lv_iconst (v := nI 4) hx hb d_LW_law_304 (by decide) ?_
      refine rn_add hx hb d_LW_law_305 ?_
      refine rl_s hx hb hX hbl hbA hS (by omega) (by omega) hx4 d_LW_law_306 ?_
      have hP : va_P g.1 cl (MW g ma cd rg hd (nF oo) (nF kp) (nI td) (nF tx) ct fd os oq vs sk ++ ((oa, aJ g 1 ou) :: (CW g ad (vp_updL rg k1 (CH (rg k2) (rg k3) (rg k4))) (upd hd k1 (nI 1)) (nF od) (nF tx) (nI td) sm pa pr fl op du qa ab ac qb be bc wd ++ []))) H := wp_perm (pm_ab _ _ _) hP
      have hD : va_D (gA g) (MW g ma cd rg hd (nF oo) (nF kp) (nI td) (nF tx) ct fd os oq vs sk ++ ((oa, aJ g 1 ou) :: (CW g ad (vp_updL rg k1 (CH (rg k2) (rg k3) (rg k4))) (upd hd k1 (nI 1)) (nF od) (nF tx) (nI td) sm pa pr fl op du qa ab ac qb be bc wd ++ []))) := wd_perm (pm_ab _ _ _) hD
      refine pc_Vv (q0 := 0) (As := [.int (nI k1), .int (nI k2), .int (nI k3), .int (nI k4)]) (rest := []) hx hb (hml.trans hl.1.symm) hown ht F hP hD hS (c_MD_choose l g ma cd rg hd (nF oo) (nF kp) (nI td) (nF tx) ct fd os oq vs sk ((oa, aJ g 1 ou) :: (CW g ad (vp_updL rg k1 (CH (rg k2) (rg k3) (rg k4))) (upd hd k1 (nI 1)) (nF od) (nF tx) (nI td) sm pa pr fl op du qa ab ac qb be bc wd ++ [])) k1 k2 k3 k4 (by first | omega | exact q1 | exact q2 | exact q2.1 | exact q2.2 | exact q2.2.1 | exact q2.2.2 | exact I9.1.1 | exact I9.2.2.2.2 | exact I9.oo.1 | exact I9.oo | exact I9.2.2.2.1 | exact I9.2.2.1 | exact I9.2.2.2.2 _ (by omega) | exact (I9.2.2.2.2 _ (by omega)).resolve_right q2) (by first | omega | exact q1 | exact q2 | exact q2.1 | exact q2.2 | exact q2.2.1 | exact q2.2.2 | exact I9.1.1 | exact I9.2.2.2.2 | exact I9.oo.1 | exact I9.oo | exact I9.2.2.2.1 | exact I9.2.2.1 | exact I9.2.2.2.2 _ (by omega) | exact (I9.2.2.2.2 _ (by omega)).resolve_right q2) (by first | omega | exact q1 | exact q2 | exact q2.1 | exact q2.2 | exact q2.2.1 | exact q2.2.2 | exact I9.1.1 | exact I9.2.2.2.2 | exact I9.oo.1 | exact I9.oo | exact I9.2.2.2.1 | exact I9.2.2.1 | exact I9.2.2.2.2 _ (by omega) | exact (I9.2.2.2.2 _ (by omega)).resolve_right q2) (by first | omega | exact q1 | exact q2 | exact q2.1 | exact q2.2 | exact q2.2.1 | exact q2.2.2 | exact I9.1.1 | exact I9.2.2.2.2 | exact I9.oo.1 | exact I9.oo | exact I9.2.2.2.1 | exact I9.2.2.1 | exact I9.2.2.2.2 _ (by omega) | exact (I9.2.2.2.2 _ (by omega)).resolve_right q2) (by first | omega | exact q1 | exact q2 | exact q2.1 | exact q2.2 | exact q2.2.1 | exact q2.2.2 | exact I9.1.1 | exact I9.2.2.2.2 | exact I9.oo.1 | exact I9.oo | exact I9.2.2.2.1 | exact I9.2.2.1 | exact I9.2.2.2.2 _ (by omega) | exact (I9.2.2.2.2 _ (by omega)).resolve_right q2) (by first | omega | exact q1 | exact q2 | exact q2.1 | exact q2.2 | exact q2.2.1 | exact q2.2.2 | exact I9.1.1 | exact I9.2.2.2.2 | exact I9.oo.1 | exact I9.oo | exact I9.2.2.2.1 | exact I9.2.2.1 | exact I9.2.2.2.2 _ (by omega) | exact (I9.2.2.2.2 _ (by omega)).resolve_right q2) (by first | omega | exact q1 | exact q2 | exact q2.1 | exact q2.2 | exact q2.2.1 | exact q2.2.2 | exact I9.1.1 | exact I9.2.2.2.2 | exact I9.oo.1 | exact I9.oo | exact I9.2.2.2.1 | exact I9.2.2.1 | exact I9.2.2.2.2 _ (by omega) | exact (I9.2.2.2.2 _ (by omega)).resolve_right q2)) v_MD_choose tw_539 ⟨rfl, rfl⟩ ⟨by decide, by decide⟩ rfl rfl rfl rfl (Nat.le_of_ble_eq_true rfl) ⟨hcA, hsA⟩ d_LW_law_307 (fun u9 H locs hq hP hD hS => ?_)
      have hP : va_P g.1 cl (MW g ma (nI 0) (vp_updL rg k1 (CH (rg k2) (rg k3) (rg k4))) (upd hd k1 (nI 1)) (nF oo) (nF kp) (nI td) (nF tx) ct fd os oq vs sk ++ ((oa, aJ g 1 ou) :: (CW g ad (vp_updL rg k1 (CH (rg k2) (rg k3) (rg k4))) (upd hd k1 (nI 1)) (nF od) (nF tx) (nI td) sm pa pr fl op du qa ab ac qb be bc wd ++ []))) H := hP
      have hD : va_D (gA g) (MW g ma (nI 0) (vp_updL rg k1 (CH (rg k2) (rg k3) (rg k4))) (upd hd k1 (nI 1)) (nF oo) (nF kp) (nI td) (nF tx) ct fd os oq vs sk ++ ((oa, aJ g 1 ou) :: (CW g ad (vp_updL rg k1 (CH (rg k2) (rg k3) (rg k4))) (upd hd k1 (nI 1)) (nF od) (nF tx) (nI td) sm pa pr fl op du qa ab ac qb be bc wd ++ []))) := hD
      refine lv_aload_n hx hb d_LW_law_310 rfl (lv_at hl 4 rfl) ?_
      refine pc_Vi (q0 := 0) (As := []) (rest := []) hx hb (hml.trans hl.1.symm) hown ht F hP hD hS (c_MD_thrown l g ma (nI 0) (vp_updL rg k1 (CH (rg k2) (rg k3) (rg k4))) (upd hd k1 (nI 1)) (nF oo) (nF kp) (nI td) (nF tx) ct fd os oq vs sk ((oa, aJ g 1 ou) :: (CW g ad (vp_updL rg k1 (CH (rg k2) (rg k3) (rg k4))) (upd hd k1 (nI 1)) (nF od) (nF tx) (nI td) sm pa pr fl op du qa ab ac qb be bc wd ++ []))) v_MD_thrown tw_510 ⟨rfl, rfl⟩ ⟨by decide, by decide⟩ rfl rfl rfl rfl (Nat.le_of_ble_eq_true rfl) ⟨hcA, hsA⟩ d_LW_law_311 (fun r9 u9 H locs hq hP hD hS => ?_)
      subst hq
      refine lv_iload hx hb d_LW_law_314 (lv_at hl 0 rfl) ?_
      refine rc_eq (tgt := 321) hx hb (by omega) (by omega) d_LW_law_316 (by decide) (fun c316 => ?_) (fun c316 => ?_)
      · refine lv_goto (tgt := 1402) hx hb d_LW_law_321 (by decide) ?_
        have hP : va_P g.1 cl (CW g ad (vp_updL rg k1 (CH (rg k2) (rg k3) (rg k4))) (upd hd k1 (nI 1)) (nF od) (nF tx) (nI td) sm pa pr fl op du qa ab ac qb be bc wd ++ ((oa, aJ g 1 ou) :: (MW g ma (nI 0) (vp_updL rg k1 (CH (rg k2) (rg k3) (rg k4))) (upd hd k1 (nI 1)) (nF oo) (nF kp) (nI td) (nF tx) ct fd os oq vs sk ++ []))) H := wp_perm (pm_ab _ _ _) hP
        have hD : va_D (gA g) (CW g ad (vp_updL rg k1 (CH (rg k2) (rg k3) (rg k4))) (upd hd k1 (nI 1)) (nF od) (nF tx) (nI td) sm pa pr fl op du qa ab ac qb be bc wd ++ ((oa, aJ g 1 ou) :: (MW g ma (nI 0) (vp_updL rg k1 (CH (rg k2) (rg k3) (rg k4))) (upd hd k1 (nI 1)) (nF oo) (nF kp) (nI td) (nF tx) ct fd os oq vs sk ++ []))) := wd_perm (pm_ab _ _ _) hD
        refine W.widen (k := cells + 1) (n := slots + 6) (by omega) (by omega) ?_
        exact kk H locs ls ⟨vp_updL rg k1 (CH (rg k2) (rg k3) (rg k4)), upd hd k1 (nI 1), od, tx, td, sm, pa, pr, fl, op, du, qa, ab, ac, qb, be, bc, wd, ou, nI 0, oo, kp, ct, fd, os, oq, vs, sk, (I9.put _), hP, hD⟩ hS (lv_sub hl [1, 2, 3, 4, 5] rfl)
      · exact (by omega : False).elim
    · refine lv_aload_n hx hb d_LW_law_252 rfl (lv_at hl 2 rfl) ?_
      refine lv_aload_n hx hb d_LW_law_253 rfl (lv_at hl 1 rfl) ?_
      refine lv_iload hx hb d_LW_law_254 (lv_at hl 0 rfl) ?_
      refine lv_iconst (v := nI 1) hx hb d_LW_law_256 (by decide) ?_
      refine rn_add hx hb d_LW_law_257 ?_
      refine rl_s hx hb hX hbl hbA hS (by omega) (by omega) hx1 d_LW_law_258 ?_
      refine lv_aload_n hx hb d_LW_law_259 rfl (lv_at hl 1 rfl) ?_
      refine lv_iload hx hb d_LW_law_260 (lv_at hl 0 rfl) ?_
      refine lv_iconst (v := nI 2) hx hb d_LW_law_262 (by decide) ?_
      refine rn_add hx hb d_LW_law_263 ?_
      refine rl_s hx hb hX hbl hbA hS (by omega) (by omega) hx2 d_LW_law_264 ?_
      refine lv_aload_n hx hb d_LW_law_265 rfl (lv_at hl 1 rfl) ?_
      refine lv_iload hx hb d_LW_law_266 (lv_at hl 0 rfl) ?_
      refine lv_iconst (v := nI 3) hx hb d_LW_law_268 (by decide) ?_
      refine rn_add hx hb d_LW_law_269 ?_
      refine rl_s hx hb hX hbl hbA hS (by omega) (by omega) hx3 d_LW_law_270 ?_
      refine lv_aload_n hx hb d_LW_law_271 rfl (lv_at hl 1 rfl) ?_
      refine lv_iload hx hb d_LW_law_272 (lv_at hl 0 rfl) ?_
      refine lv_iconst (v := nI 4) hx hb d_LW_law_274 (by decide) ?_
      refine rn_add hx hb d_LW_law_275 ?_
      refine rl_s hx hb hX hbl hbA hS (by omega) (by omega) hx4 d_LW_law_276 ?_
      refine pc_T (As := [.ref (ad 0), .int (nI k1), .int (nI k2), .int (nI k3), .int (nI k4)]) (rest := []) hx hb (hml.trans hl.1.symm) hown ht F hP hD hS (c2_LW_choose l hl0 g ad oa rg hd (nF od) (nF tx) (nI td) sm pa pr fl op du qa ab ac qb be bc wd ou (MW g ma cd rg hd (nF oo) (nF kp) (nI td) (nF tx) ct fd os oq vs sk ++ []) k1 k2 k3 k4 (by first | omega | exact q1 | exact q2 | exact q2.1 | exact q2.2 | exact q2.2.1 | exact q2.2.2 | exact I9.1.1 | exact I9.2.2.2.2 | exact I9.oo.1 | exact I9.oo | exact I9.2.2.2.1 | exact I9.2.2.1 | exact I9.2.2.2.2 _ (by omega) | exact (I9.2.2.2.2 _ (by omega)).resolve_right q2) (by first | omega | exact q1 | exact q2 | exact q2.1 | exact q2.2 | exact q2.2.1 | exact q2.2.2 | exact I9.1.1 | exact I9.2.2.2.2 | exact I9.oo.1 | exact I9.oo | exact I9.2.2.2.1 | exact I9.2.2.1 | exact I9.2.2.2.2 _ (by omega) | exact (I9.2.2.2.2 _ (by omega)).resolve_right q2) (by first | omega | exact q1 | exact q2 | exact q2.1 | exact q2.2 | exact q2.2.1 | exact q2.2.2 | exact I9.1.1 | exact I9.2.2.2.2 | exact I9.oo.1 | exact I9.oo | exact I9.2.2.2.1 | exact I9.2.2.1 | exact I9.2.2.2.2 _ (by omega) | exact (I9.2.2.2.2 _ (by omega)).resolve_right q2) (by first | omega | exact q1 | exact q2 | exact q2.1 | exact q2.2 | exact q2.2.1 | exact q2.2.2 | exact I9.1.1 | exact I9.2.2.2.2 | exact I9.oo.1 | exact I9.oo | exact I9.2.2.2.1 | exact I9.2.2.1 | exact I9.2.2.2.2 _ (by omega) | exact (I9.2.2.2.2 _ (by omega)).resolve_right q2) (by first | omega | exact q1 | exact q2 | exact q2.1 | exact q2.2 | exact q2.2.1 | exact q2.2.2 | exact I9.1.1 | exact I9.2.2.2.2 | exact I9.oo.1 | exact I9.oo | exact I9.2.2.2.1 | exact I9.2.2.1 | exact I9.2.2.2.2 _ (by omega) | exact (I9.2.2.2.2 _ (by omega)).resolve_right q2) (by first | omega | exact q1 | exact q2 | exact q2.1 | exact q2.2 | exact q2.2.1 | exact q2.2.2 | exact I9.1.1 | exact I9.2.2.2.2 | exact I9.oo.1 | exact I9.oo | exact I9.2.2.2.1 | exact I9.2.2.1 | exact I9.2.2.2.2 _ (by omega) | exact (I9.2.2.2.2 _ (by omega)).resolve_right q2)) v_LW_choose tw_264 ⟨rfl, rfl⟩ ⟨by decide, by decide⟩ rfl rfl (Nat.le_of_ble_eq_true rfl) ⟨hc1, hs1⟩ d_LW_law_277 (fun r9 u9 H locs hq hP hD hS => ?_)
      subst hq
      refine lv_istore (lv' := [(5, .int (nI 2)), (4, .int (nI i)), (0, .ref b), (1, .ref (ad 0)), (2, .ref (ma 0)), (3, .ref oa)]) hx hb d_LW_law_280 hl (by decide) rfl (fun ls hl => ?_)
      refine lv_aload_n hx hb d_LW_law_282 rfl (lv_at hl 4 rfl) ?_
      refine lv_aload_n hx hb d_LW_law_283 rfl (lv_at hl 2 rfl) ?_
      refine lv_iload hx hb d_LW_law_284 (lv_at hl 1 rfl) ?_
      refine lv_iconst (v := nI 1) hx hb d_LW_law_286 (by decide) ?_
      refine rn_add hx hb d_LW_law_287 ?_
      refine rl_s hx hb hX hbl hbA hS (by omega) (by omega) hx1 d_LW_law_288 ?_
      refine lv_aload_n hx hb d_LW_law_289 rfl (lv_at hl 2 rfl) ?_
      refine lv_iload hx hb d_LW_law_290 (lv_at hl 1 rfl) ?_
      refine lv_iconst (v := nI 2) hx hb d_LW_law_292 (by decide) ?_
      refine rn_add hx hb d_LW_law_293 ?_
      refine rl_s hx hb hX hbl hbA hS (by omega) (by omega) hx2 d_LW_law_294 ?_
      refine lv_aload_n hx hb d_LW_law_295 rfl (lv_at hl 2 rfl) ?_
      refine lv_iload hx hb d_LW_law_296 (lv_at hl 1 rfl) ?_
      refine lv_iconst (v := nI 3) hx hb d_LW_law_298 (by decide) ?_
      refine rn_add hx hb d_LW_law_299 ?_
      refine rl_s hx hb hX hbl hbA hS (by omega) (by omega) hx3 d_LW_law_300 ?_
      refine lv_aload_n hx hb d_LW_law_301 rfl (lv_at hl 2 rfl) ?_
      refine lv_iload hx hb d_LW_law_302 (lv_at hl 1 rfl) ?_
      refine lv_iconst (v := nI 4) hx hb d_LW_law_304 (by decide) ?_
      refine rn_add hx hb d_LW_law_305 ?_
      refine rl_s hx hb hX hbl hbA hS (by omega) (by omega) hx4 d_LW_law_306 ?_
      have hP : va_P g.1 cl (MW g ma cd rg hd (nF oo) (nF kp) (nI td) (nF tx) ct fd os oq vs sk ++ ((oa, aJ g 1 ou) :: (CW g ad rg hd (nF od) (nF tx) (nI td) sm pa pr fl op du qa ab ac qb be bc wd ++ []))) H := wp_perm (pm_ab _ _ _) hP
      have hD : va_D (gA g) (MW g ma cd rg hd (nF oo) (nF kp) (nI td) (nF tx) ct fd os oq vs sk ++ ((oa, aJ g 1 ou) :: (CW g ad rg hd (nF od) (nF tx) (nI td) sm pa pr fl op du qa ab ac qb be bc wd ++ []))) := wd_perm (pm_ab _ _ _) hD
      refine pc_Vv (q0 := 0) (As := [.int (nI k1), .int (nI k2), .int (nI k3), .int (nI k4)]) (rest := []) hx hb (hml.trans hl.1.symm) hown ht F hP hD hS (c2_MD_choose l g ma cd rg hd (nF oo) (nF kp) (nI td) (nF tx) ct fd os oq vs sk ((oa, aJ g 1 ou) :: (CW g ad rg hd (nF od) (nF tx) (nI td) sm pa pr fl op du qa ab ac qb be bc wd ++ [])) k1 k2 k3 k4 (by first | omega | exact q1 | exact q2 | exact q2.1 | exact q2.2 | exact q2.2.1 | exact q2.2.2 | exact I9.1.1 | exact I9.2.2.2.2 | exact I9.oo.1 | exact I9.oo | exact I9.2.2.2.1 | exact I9.2.2.1 | exact I9.2.2.2.2 _ (by omega) | exact (I9.2.2.2.2 _ (by omega)).resolve_right q2) (by first | omega | exact q1 | exact q2 | exact q2.1 | exact q2.2 | exact q2.2.1 | exact q2.2.2 | exact I9.1.1 | exact I9.2.2.2.2 | exact I9.oo.1 | exact I9.oo | exact I9.2.2.2.1 | exact I9.2.2.1 | exact I9.2.2.2.2 _ (by omega) | exact (I9.2.2.2.2 _ (by omega)).resolve_right q2) (by first | omega | exact q1 | exact q2 | exact q2.1 | exact q2.2 | exact q2.2.1 | exact q2.2.2 | exact I9.1.1 | exact I9.2.2.2.2 | exact I9.oo.1 | exact I9.oo | exact I9.2.2.2.1 | exact I9.2.2.1 | exact I9.2.2.2.2 _ (by omega) | exact (I9.2.2.2.2 _ (by omega)).resolve_right q2) (by first | omega | exact q1 | exact q2 | exact q2.1 | exact q2.2 | exact q2.2.1 | exact q2.2.2 | exact I9.1.1 | exact I9.2.2.2.2 | exact I9.oo.1 | exact I9.oo | exact I9.2.2.2.1 | exact I9.2.2.1 | exact I9.2.2.2.2 _ (by omega) | exact (I9.2.2.2.2 _ (by omega)).resolve_right q2) (by first | omega | exact q1 | exact q2 | exact q2.1 | exact q2.2 | exact q2.2.1 | exact q2.2.2 | exact I9.1.1 | exact I9.2.2.2.2 | exact I9.oo.1 | exact I9.oo | exact I9.2.2.2.1 | exact I9.2.2.1 | exact I9.2.2.2.2 _ (by omega) | exact (I9.2.2.2.2 _ (by omega)).resolve_right q2) (by first | omega | exact q1 | exact q2 | exact q2.1 | exact q2.2 | exact q2.2.1 | exact q2.2.2 | exact I9.1.1 | exact I9.2.2.2.2 | exact I9.oo.1 | exact I9.oo | exact I9.2.2.2.1 | exact I9.2.2.1 | exact I9.2.2.2.2 _ (by omega) | exact (I9.2.2.2.2 _ (by omega)).resolve_right q2)) v_MD_choose tw_539 ⟨rfl, rfl⟩ ⟨by decide, by decide⟩ rfl rfl rfl rfl (Nat.le_of_ble_eq_true rfl) ⟨hc1, hs1⟩ d_LW_law_307 (fun u9 H locs hq hP hD hS => ?_)
      have hP : va_P g.1 cl (MW g ma (nI 2) rg hd (nF oo) (nF kp) (nI td) (nF tx) ct fd os oq vs sk ++ ((oa, aJ g 1 ou) :: (CW g ad rg hd (nF od) (nF tx) (nI td) sm pa pr fl op du qa ab ac qb be bc wd ++ []))) H := hP
      have hD : va_D (gA g) (MW g ma (nI 2) rg hd (nF oo) (nF kp) (nI td) (nF tx) ct fd os oq vs sk ++ ((oa, aJ g 1 ou) :: (CW g ad rg hd (nF od) (nF tx) (nI td) sm pa pr fl op du qa ab ac qb be bc wd ++ []))) := hD
      refine lv_aload_n hx hb d_LW_law_310 rfl (lv_at hl 4 rfl) ?_
      refine pc_Vi (q0 := 0) (As := []) (rest := []) hx hb (hml.trans hl.1.symm) hown ht F hP hD hS (c_MD_thrown l g ma (nI 2) rg hd (nF oo) (nF kp) (nI td) (nF tx) ct fd os oq vs sk ((oa, aJ g 1 ou) :: (CW g ad rg hd (nF od) (nF tx) (nI td) sm pa pr fl op du qa ab ac qb be bc wd ++ []))) v_MD_thrown tw_510 ⟨rfl, rfl⟩ ⟨by decide, by decide⟩ rfl rfl rfl rfl (Nat.le_of_ble_eq_true rfl) ⟨hc1, hs1⟩ d_LW_law_311 (fun r9 u9 H locs hq hP hD hS => ?_)
      subst hq
      refine lv_iload hx hb d_LW_law_314 (lv_at hl 0 rfl) ?_
      refine rc_eq (tgt := 321) hx hb (by omega) (by omega) d_LW_law_316 (by decide) (fun c316 => ?_) (fun c316 => ?_)
      · refine lv_goto (tgt := 1402) hx hb d_LW_law_321 (by decide) ?_
        have hP : va_P g.1 cl (CW g ad rg hd (nF od) (nF tx) (nI td) sm pa pr fl op du qa ab ac qb be bc wd ++ ((oa, aJ g 1 ou) :: (MW g ma (nI 2) rg hd (nF oo) (nF kp) (nI td) (nF tx) ct fd os oq vs sk ++ []))) H := wp_perm (pm_ab _ _ _) hP
        have hD : va_D (gA g) (CW g ad rg hd (nF od) (nF tx) (nI td) sm pa pr fl op du qa ab ac qb be bc wd ++ ((oa, aJ g 1 ou) :: (MW g ma (nI 2) rg hd (nF oo) (nF kp) (nI td) (nF tx) ct fd os oq vs sk ++ []))) := wd_perm (pm_ab _ _ _) hD
        refine W.widen (k := cells + 1) (n := slots + 6) (by omega) (by omega) ?_
        exact kk H locs ls ⟨rg, hd, od, tx, td, sm, pa, pr, fl, op, du, qa, ab, ac, qb, be, bc, wd, ou, nI 2, oo, kp, ct, fd, os, oq, vs, sk, I9, hP, hD⟩ hS (lv_sub hl [1, 2, 3, 4, 5] rfl)
      · exact (by omega : False).elim
  · refine lv_aload_n hx hb d_LW_law_252 rfl (lv_at hl 2 rfl) ?_
    refine lv_aload_n hx hb d_LW_law_253 rfl (lv_at hl 1 rfl) ?_
    refine lv_iload hx hb d_LW_law_254 (lv_at hl 0 rfl) ?_
    refine lv_iconst (v := nI 1) hx hb d_LW_law_256 (by decide) ?_
    refine rn_add hx hb d_LW_law_257 ?_
    refine rl_s hx hb hX hbl hbA hS (by omega) (by omega) hx1 d_LW_law_258 ?_
    refine lv_aload_n hx hb d_LW_law_259 rfl (lv_at hl 1 rfl) ?_
    refine lv_iload hx hb d_LW_law_260 (lv_at hl 0 rfl) ?_
    refine lv_iconst (v := nI 2) hx hb d_LW_law_262 (by decide) ?_
    refine rn_add hx hb d_LW_law_263 ?_
    refine rl_s hx hb hX hbl hbA hS (by omega) (by omega) hx2 d_LW_law_264 ?_
    refine lv_aload_n hx hb d_LW_law_265 rfl (lv_at hl 1 rfl) ?_
    refine lv_iload hx hb d_LW_law_266 (lv_at hl 0 rfl) ?_
    refine lv_iconst (v := nI 3) hx hb d_LW_law_268 (by decide) ?_
    refine rn_add hx hb d_LW_law_269 ?_
    refine rl_s hx hb hX hbl hbA hS (by omega) (by omega) hx3 d_LW_law_270 ?_
    refine lv_aload_n hx hb d_LW_law_271 rfl (lv_at hl 1 rfl) ?_
    refine lv_iload hx hb d_LW_law_272 (lv_at hl 0 rfl) ?_
    refine lv_iconst (v := nI 4) hx hb d_LW_law_274 (by decide) ?_
    refine rn_add hx hb d_LW_law_275 ?_
    refine rl_s hx hb hX hbl hbA hS (by omega) (by omega) hx4 d_LW_law_276 ?_
    refine pc_T (As := [.ref (ad 0), .int x1, .int x2, .int x3, .int x4]) (rest := []) hx hb (hml.trans hl.1.symm) hown ht F hP hD hS (c1_LW_choose l hl0 g ad oa rg hd (nF od) (nF tx) (nI td) sm pa pr fl op du qa ab ac qb be bc wd ou (MW g ma cd rg hd (nF oo) (nF kp) (nI td) (nF tx) ct fd os oq vs sk ++ []) x1 x2 x3 x4 (by first | omega | exact q1 | exact q2 | exact q2.1 | exact q2.2 | exact q2.2.1 | exact q2.2.2 | exact I9.1.1 | exact I9.2.2.2.2 | exact I9.oo.1 | exact I9.oo | exact I9.2.2.2.1 | exact I9.2.2.1 | exact I9.2.2.2.2 _ (by omega) | exact (I9.2.2.2.2 _ (by omega)).resolve_right q2)) v_LW_choose tw_264 ⟨rfl, rfl⟩ ⟨by decide, by decide⟩ rfl rfl (Nat.le_of_ble_eq_true rfl) ⟨hc1, hs1⟩ d_LW_law_277 (fun r9 u9 H locs hq hP hD hS => ?_)
    subst hq
    refine lv_istore (lv' := [(5, .int (nI 1)), (4, .int (nI i)), (0, .ref b), (1, .ref (ad 0)), (2, .ref (ma 0)), (3, .ref oa)]) hx hb d_LW_law_280 hl (by decide) rfl (fun ls hl => ?_)
    refine lv_aload_n hx hb d_LW_law_282 rfl (lv_at hl 4 rfl) ?_
    refine lv_aload_n hx hb d_LW_law_283 rfl (lv_at hl 2 rfl) ?_
    refine lv_iload hx hb d_LW_law_284 (lv_at hl 1 rfl) ?_
    refine lv_iconst (v := nI 1) hx hb d_LW_law_286 (by decide) ?_
    refine rn_add hx hb d_LW_law_287 ?_
    refine rl_s hx hb hX hbl hbA hS (by omega) (by omega) hx1 d_LW_law_288 ?_
    refine lv_aload_n hx hb d_LW_law_289 rfl (lv_at hl 2 rfl) ?_
    refine lv_iload hx hb d_LW_law_290 (lv_at hl 1 rfl) ?_
    refine lv_iconst (v := nI 2) hx hb d_LW_law_292 (by decide) ?_
    refine rn_add hx hb d_LW_law_293 ?_
    refine rl_s hx hb hX hbl hbA hS (by omega) (by omega) hx2 d_LW_law_294 ?_
    refine lv_aload_n hx hb d_LW_law_295 rfl (lv_at hl 2 rfl) ?_
    refine lv_iload hx hb d_LW_law_296 (lv_at hl 1 rfl) ?_
    refine lv_iconst (v := nI 3) hx hb d_LW_law_298 (by decide) ?_
    refine rn_add hx hb d_LW_law_299 ?_
    refine rl_s hx hb hX hbl hbA hS (by omega) (by omega) hx3 d_LW_law_300 ?_
    refine lv_aload_n hx hb d_LW_law_301 rfl (lv_at hl 2 rfl) ?_
    refine lv_iload hx hb d_LW_law_302 (lv_at hl 1 rfl) ?_
    refine lv_iconst (v := nI 4) hx hb d_LW_law_304 (by decide) ?_
    refine rn_add hx hb d_LW_law_305 ?_
    refine rl_s hx hb hX hbl hbA hS (by omega) (by omega) hx4 d_LW_law_306 ?_
    have hP : va_P g.1 cl (MW g ma cd rg hd (nF oo) (nF kp) (nI td) (nF tx) ct fd os oq vs sk ++ ((oa, aJ g 1 ou) :: (CW g ad rg hd (nF od) (nF tx) (nI td) sm pa pr fl op du qa ab ac qb be bc wd ++ []))) H := wp_perm (pm_ab _ _ _) hP
    have hD : va_D (gA g) (MW g ma cd rg hd (nF oo) (nF kp) (nI td) (nF tx) ct fd os oq vs sk ++ ((oa, aJ g 1 ou) :: (CW g ad rg hd (nF od) (nF tx) (nI td) sm pa pr fl op du qa ab ac qb be bc wd ++ []))) := wd_perm (pm_ab _ _ _) hD
    refine pc_Vv (q0 := 0) (As := [.int x1, .int x2, .int x3, .int x4]) (rest := []) hx hb (hml.trans hl.1.symm) hown ht F hP hD hS (c1_MD_choose l g ma cd rg hd (nF oo) (nF kp) (nI td) (nF tx) ct fd os oq vs sk ((oa, aJ g 1 ou) :: (CW g ad rg hd (nF od) (nF tx) (nI td) sm pa pr fl op du qa ab ac qb be bc wd ++ [])) x1 x2 x3 x4 (by first | omega | exact q1 | exact q2 | exact q2.1 | exact q2.2 | exact q2.2.1 | exact q2.2.2 | exact I9.1.1 | exact I9.2.2.2.2 | exact I9.oo.1 | exact I9.oo | exact I9.2.2.2.1 | exact I9.2.2.1 | exact I9.2.2.2.2 _ (by omega) | exact (I9.2.2.2.2 _ (by omega)).resolve_right q2)) v_MD_choose tw_539 ⟨rfl, rfl⟩ ⟨by decide, by decide⟩ rfl rfl rfl rfl (Nat.le_of_ble_eq_true rfl) ⟨hc1, hs1⟩ d_LW_law_307 (fun u9 H locs hq hP hD hS => ?_)
    have hP : va_P g.1 cl (MW g ma (nI 1) rg hd (nF oo) (nF kp) (nI td) (nF tx) ct fd os oq vs sk ++ ((oa, aJ g 1 ou) :: (CW g ad rg hd (nF od) (nF tx) (nI td) sm pa pr fl op du qa ab ac qb be bc wd ++ []))) H := hP
    have hD : va_D (gA g) (MW g ma (nI 1) rg hd (nF oo) (nF kp) (nI td) (nF tx) ct fd os oq vs sk ++ ((oa, aJ g 1 ou) :: (CW g ad rg hd (nF od) (nF tx) (nI td) sm pa pr fl op du qa ab ac qb be bc wd ++ []))) := hD
    refine lv_aload_n hx hb d_LW_law_310 rfl (lv_at hl 4 rfl) ?_
    refine pc_Vi (q0 := 0) (As := []) (rest := []) hx hb (hml.trans hl.1.symm) hown ht F hP hD hS (c_MD_thrown l g ma (nI 1) rg hd (nF oo) (nF kp) (nI td) (nF tx) ct fd os oq vs sk ((oa, aJ g 1 ou) :: (CW g ad rg hd (nF od) (nF tx) (nI td) sm pa pr fl op du qa ab ac qb be bc wd ++ []))) v_MD_thrown tw_510 ⟨rfl, rfl⟩ ⟨by decide, by decide⟩ rfl rfl rfl rfl (Nat.le_of_ble_eq_true rfl) ⟨hc1, hs1⟩ d_LW_law_311 (fun r9 u9 H locs hq hP hD hS => ?_)
    subst hq
    refine lv_iload hx hb d_LW_law_314 (lv_at hl 0 rfl) ?_
    refine rc_eq (tgt := 321) hx hb (by omega) (by omega) d_LW_law_316 (by decide) (fun c316 => ?_) (fun c316 => ?_)
    · refine lv_goto (tgt := 1402) hx hb d_LW_law_321 (by decide) ?_
      have hP : va_P g.1 cl (CW g ad rg hd (nF od) (nF tx) (nI td) sm pa pr fl op du qa ab ac qb be bc wd ++ ((oa, aJ g 1 ou) :: (MW g ma (nI 1) rg hd (nF oo) (nF kp) (nI td) (nF tx) ct fd os oq vs sk ++ []))) H := wp_perm (pm_ab _ _ _) hP
      have hD : va_D (gA g) (CW g ad rg hd (nF od) (nF tx) (nI td) sm pa pr fl op du qa ab ac qb be bc wd ++ ((oa, aJ g 1 ou) :: (MW g ma (nI 1) rg hd (nF oo) (nF kp) (nI td) (nF tx) ct fd os oq vs sk ++ []))) := wd_perm (pm_ab _ _ _) hD
      refine W.widen (k := cells + 1) (n := slots + 6) (by omega) (by omega) ?_
      exact kk H locs ls ⟨rg, hd, od, tx, td, sm, pa, pr, fl, op, du, qa, ab, ac, qb, be, bc, wd, ou, nI 1, oo, kp, ct, fd, os, oq, vs, sk, I9, hP, hD⟩ hS (lv_sub hl [1, 2, 3, 4, 5] rfl)
    · exact (by omega : False).elim
set_option maxRecDepth 100000 in
set_option maxHeartbeats 4000000 in
theorem st_restrict {p : Program} {l : Launch} {e : Env} {s : State} {m : MethodId} {below : List Frame} {meth : Method} {c : Code} (hl0 : l.stackTraces = false) {g : Gx} {ad ma : Nat → Nat} {oa b L i : Nat} {xs : Nat → Int32} {x1 x2 x3 x4 : Int32} (hx : p.tables.exec = Jvm.exec) (hb : c.code = b_LW_law) (hml : c.maxLocals = 7) (hown : s.vm.findClass "SiftedGraphsLaw" = some m.cls) (ht : ∀ w ∈ TW, w.before #[Value.ref b] s = true) (F : Fx g s) (hX : va_X b L xs s s.heap) (hbl : b < s.heap.size) (hbA : ¬ gA g b) (hL : L ≤ 2560) (hi : i + 4 < L) (hx1 : xs (i + 1) = x1) (hx2 : xs (i + 2) = x2) (hx3 : xs (i + 3) = x3) (hx4 : xs (i + 4) = x4) {rg : Nat → Int64} {hd : Nat → Int32} {od : Nat → Nat} {tx : Nat → Nat} {td : Nat} {sm : Nat → Int64} {pa : Nat → Int64} {pr : Nat → Int64} {fl : Nat → Int64} {op : Int32} {du : Int32} {qa : Nat} {ab : Nat → Int64} {ac : Int32} {qb : Nat} {be : Nat → Int64} {bc : Int32} {wd : Nat → Int32} {ou : Nat → Int64} {cd : Int32} {oo : Nat → Nat} {kp : Nat → Nat} {ct : Int32} {fd : Nat → Int64} {os : Int32} {oq : Nat → Int32} {vs : Int32} {sk : Nat → Int64} (I9 : INV od oo tx hd td) {H : Heap} {locs : List Loc} {ls : Array Slot} (hP : va_P g.1 cl (CW g ad rg hd (nF od) (nF tx) (nI td) sm pa pr fl op du qa ab ac qb be bc wd ++ ((oa, aJ g 1 ou) :: (MW g ma cd rg hd (nF oo) (nF kp) (nI td) (nF tx) ct fd os oq vs sk ++ []))) H) (hD : va_D (gA g) (CW g ad rg hd (nF od) (nF tx) (nI td) sm pa pr fl op du qa ab ac qb be bc wd ++ ((oa, aJ g 1 ou) :: (MW g ma cd rg hd (nF oo) (nF kp) (nI td) (nF tx) ct fd os oq vs sk ++ [])))) (hS : va_S (gA g) s.heap H locs) (hl : lv_has ls 7 [(4, .int (nI i)), (0, .ref b), (1, .ref (ad 0)), (2, .ref (ma 0)), (3, .ref oa)]) {cells slots : Nat} (hc1 : cells + 1 ≤ room_1.cells) (hs1 : slots + 6 ≤ room_1.slots) {Q : State → Prop}
    (kk : ∀ (H : Heap) (locs : List Loc) (ls : Array Slot), LST g ad ma oa H → va_S (gA g) s.heap H locs → lv_has ls 7 [(4, .int (nI i)), (0, .ref b), (1, .ref (ad 0)), (2, .ref (ma 0)), (3, .ref oa)] → W p l e room_1 s m #[Value.ref b] below meth c H locs (cells + 1) (slots + 6) Q (F0 m 1402 ls [])) : W p l e room_1 s m #[Value.ref b] below meth c H locs cells slots Q (F0 m 324 ls []) := by
  have hcA : cells ≤ room_1.cells := Nat.le_of_succ_le hc1
  have hsA : slots ≤ room_1.slots := Nat.le_trans (Nat.le_add_right _ _) hs1
  by_cases q1 : inR x1 8 ∧ inR x2 8 ∧ inR x3 6
  · obtain ⟨⟨k1, g1, rfl⟩, ⟨k2, g2, rfl⟩, ⟨k3, g3, rfl⟩⟩ := q1
    by_cases q2 : hd k2 = 1
    · refine lv_aload_n hx hb d_LW_law_324 rfl (lv_at hl 2 rfl) ?_
      refine lv_aload_n hx hb d_LW_law_325 rfl (lv_at hl 1 rfl) ?_
      refine lv_iload hx hb d_LW_law_326 (lv_at hl 0 rfl) ?_
      refine lv_iconst (v := nI 1) hx hb d_LW_law_328 (by decide) ?_
      refine rn_add hx hb d_LW_law_329 ?_
      refine rl_s hx hb hX hbl hbA hS (by omega) (by omega) hx1 d_LW_law_330 ?_
      refine lv_aload_n hx hb d_LW_law_331 rfl (lv_at hl 1 rfl) ?_
      refine lv_iload hx hb d_LW_law_332 (lv_at hl 0 rfl) ?_
      refine lv_iconst (v := nI 2) hx hb d_LW_law_334 (by decide) ?_
      refine rn_add hx hb d_LW_law_335 ?_
      refine rl_s hx hb hX hbl hbA hS (by omega) (by omega) hx2 d_LW_law_336 ?_
      refine lv_aload_n hx hb d_LW_law_337 rfl (lv_at hl 1 rfl) ?_
      refine lv_iload hx hb d_LW_law_338 (lv_at hl 0 rfl) ?_
      refine lv_iconst (v := nI 3) hx hb d_LW_law_340 (by decide) ?_
      refine rn_add hx hb d_LW_law_341 ?_
      refine rl_s hx hb hX hbl hbA hS (by omega) (by omega) hx3 d_LW_law_342 ?_
      refine lv_aload_n hx hb d_LW_law_343 rfl (lv_at hl 1 rfl) ?_
      refine lv_iload hx hb d_LW_law_344 (lv_at hl 0 rfl) ?_
      refine lv_iconst (v := nI 4) hx hb d_LW_law_346 (by decide) ?_
      refine rn_add hx hb d_LW_law_347 ?_
      refine rl_s hx hb hX hbl hbA hS (by omega) (by omega) hx4 d_LW_law_348 ?_
      refine lv_if_eq (tgt := 356) hx hb d_LW_law_349 (by decide) (fun c349 => ?_) (fun c349 => ?_)
      · refine lv_iconst (v := nI 0) hx hb d_LW_law_356 (by decide) ?_
        refine pc_T (As := [.ref (ad 0), .int (nI k1), .int (nI k2), .int (nI k3), .int (nI 0)]) (rest := []) hx hb (hml.trans hl.1.symm) hown ht F hP hD hS (c_LW_restrict l g ad oa rg hd (nF od) (nF tx) (nI td) sm pa pr fl op du qa ab ac qb be bc wd ou (MW g ma cd rg hd (nF oo) (nF kp) (nI td) (nF tx) ct fd os oq vs sk ++ []) k1 k2 k3 (nI 0) (by first | omega | exact q1 | exact q2 | exact q2.1 | exact q2.2 | exact q2.2.1 | exact q2.2.2 | exact I9.1.1 | exact I9.2.2.2.2 | exact I9.oo.1 | exact I9.oo | exact I9.2.2.2.1 | exact I9.2.2.1 | exact I9.2.2.2.2 _ (by omega) | exact (I9.2.2.2.2 _ (by omega)).resolve_right q2) (by first | omega | exact q1 | exact q2 | exact q2.1 | exact q2.2 | exact q2.2.1 | exact q2.2.2 | exact I9.1.1 | exact I9.2.2.2.2 | exact I9.oo.1 | exact I9.oo | exact I9.2.2.2.1 | exact I9.2.2.1 | exact I9.2.2.2.2 _ (by omega) | exact (I9.2.2.2.2 _ (by omega)).resolve_right q2) (by first | omega | exact q1 | exact q2 | exact q2.1 | exact q2.2 | exact q2.2.1 | exact q2.2.2 | exact I9.1.1 | exact I9.2.2.2.2 | exact I9.oo.1 | exact I9.oo | exact I9.2.2.2.1 | exact I9.2.2.1 | exact I9.2.2.2.2 _ (by omega) | exact (I9.2.2.2.2 _ (by omega)).resolve_right q2) (by first | omega | exact q1 | exact q2 | exact q2.1 | exact q2.2 | exact q2.2.1 | exact q2.2.2 | exact I9.1.1 | exact I9.2.2.2.2 | exact I9.oo.1 | exact I9.oo | exact I9.2.2.2.1 | exact I9.2.2.1 | exact I9.2.2.2.2 _ (by omega) | exact (I9.2.2.2.2 _ (by omega)).resolve_right q2)) v_LW_restrict tw_274 ⟨rfl, rfl⟩ ⟨by decide, by decide⟩ rfl rfl (Nat.le_of_ble_eq_true rfl) ⟨hcA, hsA⟩ d_LW_law_357 (fun r9 u9 H locs hq hP hD hS => ?_)
        subst hq
        have hP : va_P g.1 cl (CW g ad (vp_updL rg k1 (if (nI 0) = 0 then W0 (rg k2) k3 else W1 (rg k2) k3)) (upd hd k1 (nI 1)) (nF od) (nF tx) (nI td) sm pa pr fl op du qa ab ac qb be bc wd ++ ((oa, aJ g 1 ou) :: (MW g ma cd rg hd (nF oo) (nF kp) (nI td) (nF tx) ct fd os oq vs sk ++ []))) H := hP
        have hD : va_D (gA g) (CW g ad (vp_updL rg k1 (if (nI 0) = 0 then W0 (rg k2) k3 else W1 (rg k2) k3)) (upd hd k1 (nI 1)) (nF od) (nF tx) (nI td) sm pa pr fl op du qa ab ac qb be bc wd ++ ((oa, aJ g 1 ou) :: (MW g ma cd rg hd (nF oo) (nF kp) (nI td) (nF tx) ct fd os oq vs sk ++ []))) := hD
        refine lv_istore (lv' := [(5, .int (nI 0)), (4, .int (nI i)), (0, .ref b), (1, .ref (ad 0)), (2, .ref (ma 0)), (3, .ref oa)]) hx hb d_LW_law_360 hl (by decide) rfl (fun ls hl => ?_)
        refine lv_aload_n hx hb d_LW_law_362 rfl (lv_at hl 4 rfl) ?_
        refine lv_aload_n hx hb d_LW_law_363 rfl (lv_at hl 2 rfl) ?_
        refine lv_iload hx hb d_LW_law_364 (lv_at hl 1 rfl) ?_
        refine lv_iconst (v := nI 1) hx hb d_LW_law_366 (by decide) ?_
        refine rn_add hx hb d_LW_law_367 ?_
        refine rl_s hx hb hX hbl hbA hS (by omega) (by omega) hx1 d_LW_law_368 ?_
        refine lv_aload_n hx hb d_LW_law_369 rfl (lv_at hl 2 rfl) ?_
        refine lv_iload hx hb d_LW_law_370 (lv_at hl 1 rfl) ?_
        refine lv_iconst (v := nI 2) hx hb d_LW_law_372 (by decide) ?_
        refine rn_add hx hb d_LW_law_373 ?_
        refine rl_s hx hb hX hbl hbA hS (by omega) (by omega) hx2 d_LW_law_374 ?_
        refine lv_aload_n hx hb d_LW_law_375 rfl (lv_at hl 2 rfl) ?_
        refine lv_iload hx hb d_LW_law_376 (lv_at hl 1 rfl) ?_
        refine lv_iconst (v := nI 3) hx hb d_LW_law_378 (by decide) ?_
        refine rn_add hx hb d_LW_law_379 ?_
        refine rl_s hx hb hX hbl hbA hS (by omega) (by omega) hx3 d_LW_law_380 ?_
        refine lv_aload_n hx hb d_LW_law_381 rfl (lv_at hl 2 rfl) ?_
        refine lv_iload hx hb d_LW_law_382 (lv_at hl 1 rfl) ?_
        refine lv_iconst (v := nI 4) hx hb d_LW_law_384 (by decide) ?_
        refine rn_add hx hb d_LW_law_385 ?_
        refine rl_s hx hb hX hbl hbA hS (by omega) (by omega) hx4 d_LW_law_386 ?_
        refine lv_if_eq (tgt := 394) hx hb d_LW_law_387 (by decide) (fun c387 => ?_) (fun c387 => ?_)
        · refine lv_iconst (v := nI 0) hx hb d_LW_law_394 (by decide) ?_
          have hP : va_P g.1 cl (MW g ma cd rg hd (nF oo) (nF kp) (nI td) (nF tx) ct fd os oq vs sk ++ ((oa, aJ g 1 ou) :: (CW g ad (vp_updL rg k1 (if (nI 0) = 0 then W0 (rg k2) k3 else W1 (rg k2) k3)) (upd hd k1 (nI 1)) (nF od) (nF tx) (nI td) sm pa pr fl op du qa ab ac qb be bc wd ++ []))) H := wp_perm (pm_ab _ _ _) hP
          have hD : va_D (gA g) (MW g ma cd rg hd (nF oo) (nF kp) (nI td) (nF tx) ct fd os oq vs sk ++ ((oa, aJ g 1 ou) :: (CW g ad (vp_updL rg k1 (if (nI 0) = 0 then W0 (rg k2) k3 else W1 (rg k2) k3)) (upd hd k1 (nI 1)) (nF od) (nF tx) (nI td) sm pa pr fl op du qa ab ac qb be bc wd ++ []))) := wd_perm (pm_ab _ _ _) hD
          refine pc_Vv (q0 := 0) (As := [.int (nI k1), .int (nI k2), .int (nI k3), .int (nI 0)]) (rest := []) hx hb (hml.trans hl.1.symm) hown ht F hP hD hS (c_MD_restrict l g ma cd rg hd (nF oo) (nF kp) (nI td) (nF tx) ct fd os oq vs sk ((oa, aJ g 1 ou) :: (CW g ad (vp_updL rg k1 (if (nI 0) = 0 then W0 (rg k2) k3 else W1 (rg k2) k3)) (upd hd k1 (nI 1)) (nF od) (nF tx) (nI td) sm pa pr fl op du qa ab ac qb be bc wd ++ [])) k1 k2 k3 (nI 0) (by first | omega | exact q1 | exact q2 | exact q2.1 | exact q2.2 | exact q2.2.1 | exact q2.2.2 | exact I9.1.1 | exact I9.2.2.2.2 | exact I9.oo.1 | exact I9.oo | exact I9.2.2.2.1 | exact I9.2.2.1 | exact I9.2.2.2.2 _ (by omega) | exact (I9.2.2.2.2 _ (by omega)).resolve_right q2) (by first | omega | exact q1 | exact q2 | exact q2.1 | exact q2.2 | exact q2.2.1 | exact q2.2.2 | exact I9.1.1 | exact I9.2.2.2.2 | exact I9.oo.1 | exact I9.oo | exact I9.2.2.2.1 | exact I9.2.2.1 | exact I9.2.2.2.2 _ (by omega) | exact (I9.2.2.2.2 _ (by omega)).resolve_right q2) (by first | omega | exact q1 | exact q2 | exact q2.1 | exact q2.2 | exact q2.2.1 | exact q2.2.2 | exact I9.1.1 | exact I9.2.2.2.2 | exact I9.oo.1 | exact I9.oo | exact I9.2.2.2.1 | exact I9.2.2.1 | exact I9.2.2.2.2 _ (by omega) | exact (I9.2.2.2.2 _ (by omega)).resolve_right q2) (by first | omega | exact q1 | exact q2 | exact q2.1 | exact q2.2 | exact q2.2.1 | exact q2.2.2 | exact I9.1.1 | exact I9.2.2.2.2 | exact I9.oo.1 | exact I9.oo | exact I9.2.2.2.1 | exact I9.2.2.1 | exact I9.2.2.2.2 _ (by omega) | exact (I9.2.2.2.2 _ (by omega)).resolve_right q2)) v_MD_restrict tw_543 ⟨rfl, rfl⟩ ⟨by decide, by decide⟩ rfl rfl rfl rfl (Nat.le_of_ble_eq_true rfl) ⟨hcA, hsA⟩ d_LW_law_395 (fun u9 H locs hq hP hD hS => ?_)
          have hP : va_P g.1 cl (MW g ma (nI 0) (vp_updL rg k1 (if (nI 0) = 0 then W0 (rg k2) k3 else W1 (rg k2) k3)) (upd hd k1 (nI 1)) (nF oo) (nF kp) (nI td) (nF tx) ct fd os oq vs sk ++ ((oa, aJ g 1 ou) :: (CW g ad (vp_updL rg k1 (if (nI 0) = 0 then W0 (rg k2) k3 else W1 (rg k2) k3)) (upd hd k1 (nI 1)) (nF od) (nF tx) (nI td) sm pa pr fl op du qa ab ac qb be bc wd ++ []))) H := hP
          have hD : va_D (gA g) (MW g ma (nI 0) (vp_updL rg k1 (if (nI 0) = 0 then W0 (rg k2) k3 else W1 (rg k2) k3)) (upd hd k1 (nI 1)) (nF oo) (nF kp) (nI td) (nF tx) ct fd os oq vs sk ++ ((oa, aJ g 1 ou) :: (CW g ad (vp_updL rg k1 (if (nI 0) = 0 then W0 (rg k2) k3 else W1 (rg k2) k3)) (upd hd k1 (nI 1)) (nF od) (nF tx) (nI td) sm pa pr fl op du qa ab ac qb be bc wd ++ []))) := hD
          refine lv_aload_n hx hb d_LW_law_398 rfl (lv_at hl 4 rfl) ?_
          refine pc_Vi (q0 := 0) (As := []) (rest := []) hx hb (hml.trans hl.1.symm) hown ht F hP hD hS (c_MD_thrown l g ma (nI 0) (vp_updL rg k1 (if (nI 0) = 0 then W0 (rg k2) k3 else W1 (rg k2) k3)) (upd hd k1 (nI 1)) (nF oo) (nF kp) (nI td) (nF tx) ct fd os oq vs sk ((oa, aJ g 1 ou) :: (CW g ad (vp_updL rg k1 (if (nI 0) = 0 then W0 (rg k2) k3 else W1 (rg k2) k3)) (upd hd k1 (nI 1)) (nF od) (nF tx) (nI td) sm pa pr fl op du qa ab ac qb be bc wd ++ []))) v_MD_thrown tw_510 ⟨rfl, rfl⟩ ⟨by decide, by decide⟩ rfl rfl rfl rfl (Nat.le_of_ble_eq_true rfl) ⟨hcA, hsA⟩ d_LW_law_399 (fun r9 u9 H locs hq hP hD hS => ?_)
          subst hq
          refine lv_iload hx hb d_LW_law_402 (lv_at hl 0 rfl) ?_
          refine rc_eq (tgt := 409) hx hb (by omega) (by omega) d_LW_law_404 (by decide) (fun c404 => ?_) (fun c404 => ?_)
          · refine lv_goto (tgt := 1402) hx hb d_LW_law_409 (by decide) ?_
            have hP : va_P g.1 cl (CW g ad (vp_updL rg k1 (if (nI 0) = 0 then W0 (rg k2) k3 else W1 (rg k2) k3)) (upd hd k1 (nI 1)) (nF od) (nF tx) (nI td) sm pa pr fl op du qa ab ac qb be bc wd ++ ((oa, aJ g 1 ou) :: (MW g ma (nI 0) (vp_updL rg k1 (if (nI 0) = 0 then W0 (rg k2) k3 else W1 (rg k2) k3)) (upd hd k1 (nI 1)) (nF oo) (nF kp) (nI td) (nF tx) ct fd os oq vs sk ++ []))) H := wp_perm (pm_ab _ _ _) hP
            have hD : va_D (gA g) (CW g ad (vp_updL rg k1 (if (nI 0) = 0 then W0 (rg k2) k3 else W1 (rg k2) k3)) (upd hd k1 (nI 1)) (nF od) (nF tx) (nI td) sm pa pr fl op du qa ab ac qb be bc wd ++ ((oa, aJ g 1 ou) :: (MW g ma (nI 0) (vp_updL rg k1 (if (nI 0) = 0 then W0 (rg k2) k3 else W1 (rg k2) k3)) (upd hd k1 (nI 1)) (nF oo) (nF kp) (nI td) (nF tx) ct fd os oq vs sk ++ []))) := wd_perm (pm_ab _ _ _) hD
            refine W.widen (k := cells + 1) (n := slots + 6) (by omega) (by omega) ?_
            exact kk H locs ls ⟨vp_updL rg k1 (if (nI 0) = 0 then W0 (rg k2) k3 else W1 (rg k2) k3), upd hd k1 (nI 1), od, tx, td, sm, pa, pr, fl, op, du, qa, ab, ac, qb, be, bc, wd, ou, nI 0, oo, kp, ct, fd, os, oq, vs, sk, (I9.put _), hP, hD⟩ hS (lv_sub hl [1, 2, 3, 4, 5] rfl)
          · exact (by omega : False).elim
        · exact absurd c349 c387
      · refine lv_iconst (v := nI 1) hx hb d_LW_law_352 (by decide) ?_
        refine lv_goto (tgt := 357) hx hb d_LW_law_353 (by decide) ?_
        refine pc_T (As := [.ref (ad 0), .int (nI k1), .int (nI k2), .int (nI k3), .int (nI 1)]) (rest := []) hx hb (hml.trans hl.1.symm) hown ht F hP hD hS (c_LW_restrict l g ad oa rg hd (nF od) (nF tx) (nI td) sm pa pr fl op du qa ab ac qb be bc wd ou (MW g ma cd rg hd (nF oo) (nF kp) (nI td) (nF tx) ct fd os oq vs sk ++ []) k1 k2 k3 (nI 1) (by first | omega | exact q1 | exact q2 | exact q2.1 | exact q2.2 | exact q2.2.1 | exact q2.2.2 | exact I9.1.1 | exact I9.2.2.2.2 | exact I9.oo.1 | exact I9.oo | exact I9.2.2.2.1 | exact I9.2.2.1 | exact I9.2.2.2.2 _ (by omega) | exact (I9.2.2.2.2 _ (by omega)).resolve_right q2) (by first | omega | exact q1 | exact q2 | exact q2.1 | exact q2.2 | exact q2.2.1 | exact q2.2.2 | exact I9.1.1 | exact I9.2.2.2.2 | exact I9.oo.1 | exact I9.oo | exact I9.2.2.2.1 | exact I9.2.2.1 | exact I9.2.2.2.2 _ (by omega) | exact (I9.2.2.2.2 _ (by omega)).resolve_right q2) (by first | omega | exact q1 | exact q2 | exact q2.1 | exact q2.2 | exact q2.2.1 | exact q2.2.2 | exact I9.1.1 | exact I9.2.2.2.2 | exact I9.oo.1 | exact I9.oo | exact I9.2.2.2.1 | exact I9.2.2.1 | exact I9.2.2.2.2 _ (by omega) | exact (I9.2.2.2.2 _ (by omega)).resolve_right q2) (by first | omega | exact q1 | exact q2 | exact q2.1 | exact q2.2 | exact q2.2.1 | exact q2.2.2 | exact I9.1.1 | exact I9.2.2.2.2 | exact I9.oo.1 | exact I9.oo | exact I9.2.2.2.1 | exact I9.2.2.1 | exact I9.2.2.2.2 _ (by omega) | exact (I9.2.2.2.2 _ (by omega)).resolve_right q2)) v_LW_restrict tw_274 ⟨rfl, rfl⟩ ⟨by decide, by decide⟩ rfl rfl (Nat.le_of_ble_eq_true rfl) ⟨hcA, hsA⟩ d_LW_law_357 (fun r9 u9 H locs hq hP hD hS => ?_)
        subst hq
        have hP : va_P g.1 cl (CW g ad (vp_updL rg k1 (if (nI 1) = 0 then W0 (rg k2) k3 else W1 (rg k2) k3)) (upd hd k1 (nI 1)) (nF od) (nF tx) (nI td) sm pa pr fl op du qa ab ac qb be bc wd ++ ((oa, aJ g 1 ou) :: (MW g ma cd rg hd (nF oo) (nF kp) (nI td) (nF tx) ct fd os oq vs sk ++ []))) H := hP
        have hD : va_D (gA g) (CW g ad (vp_updL rg k1 (if (nI 1) = 0 then W0 (rg k2) k3 else W1 (rg k2) k3)) (upd hd k1 (nI 1)) (nF od) (nF tx) (nI td) sm pa pr fl op du qa ab ac qb be bc wd ++ ((oa, aJ g 1 ou) :: (MW g ma cd rg hd (nF oo) (nF kp) (nI td) (nF tx) ct fd os oq vs sk ++ []))) := hD
        refine lv_istore (lv' := [(5, .int (nI 0)), (4, .int (nI i)), (0, .ref b), (1, .ref (ad 0)), (2, .ref (ma 0)), (3, .ref oa)]) hx hb d_LW_law_360 hl (by decide) rfl (fun ls hl => ?_)
        refine lv_aload_n hx hb d_LW_law_362 rfl (lv_at hl 4 rfl) ?_
        refine lv_aload_n hx hb d_LW_law_363 rfl (lv_at hl 2 rfl) ?_
        refine lv_iload hx hb d_LW_law_364 (lv_at hl 1 rfl) ?_
        refine lv_iconst (v := nI 1) hx hb d_LW_law_366 (by decide) ?_
        refine rn_add hx hb d_LW_law_367 ?_
        refine rl_s hx hb hX hbl hbA hS (by omega) (by omega) hx1 d_LW_law_368 ?_
        refine lv_aload_n hx hb d_LW_law_369 rfl (lv_at hl 2 rfl) ?_
        refine lv_iload hx hb d_LW_law_370 (lv_at hl 1 rfl) ?_
        refine lv_iconst (v := nI 2) hx hb d_LW_law_372 (by decide) ?_
        refine rn_add hx hb d_LW_law_373 ?_
        refine rl_s hx hb hX hbl hbA hS (by omega) (by omega) hx2 d_LW_law_374 ?_
        refine lv_aload_n hx hb d_LW_law_375 rfl (lv_at hl 2 rfl) ?_
        refine lv_iload hx hb d_LW_law_376 (lv_at hl 1 rfl) ?_
        refine lv_iconst (v := nI 3) hx hb d_LW_law_378 (by decide) ?_
        refine rn_add hx hb d_LW_law_379 ?_
        refine rl_s hx hb hX hbl hbA hS (by omega) (by omega) hx3 d_LW_law_380 ?_
        refine lv_aload_n hx hb d_LW_law_381 rfl (lv_at hl 2 rfl) ?_
        refine lv_iload hx hb d_LW_law_382 (lv_at hl 1 rfl) ?_
        refine lv_iconst (v := nI 4) hx hb d_LW_law_384 (by decide) ?_
        refine rn_add hx hb d_LW_law_385 ?_
        refine rl_s hx hb hX hbl hbA hS (by omega) (by omega) hx4 d_LW_law_386 ?_
        refine lv_if_eq (tgt := 394) hx hb d_LW_law_387 (by decide) (fun c387 => ?_) (fun c387 => ?_)
        · exact absurd c387 c349
        · refine lv_iconst (v := nI 1) hx hb d_LW_law_390 (by decide) ?_
          refine lv_goto (tgt := 395) hx hb d_LW_law_391 (by decide) ?_
          have hP : va_P g.1 cl (MW g ma cd rg hd (nF oo) (nF kp) (nI td) (nF tx) ct fd os oq vs sk ++ ((oa, aJ g 1 ou) :: (CW g ad (vp_updL rg k1 (if (nI 1) = 0 then W0 (rg k2) k3 else W1 (rg k2) k3)) (upd hd k1 (nI 1)) (nF od) (nF tx) (nI td) sm pa pr fl op du qa ab ac qb be bc wd ++ []))) H := wp_perm (pm_ab _ _ _) hP
          have hD : va_D (gA g) (MW g ma cd rg hd (nF oo) (nF kp) (nI td) (nF tx) ct fd os oq vs sk ++ ((oa, aJ g 1 ou) :: (CW g ad (vp_updL rg k1 (if (nI 1) = 0 then W0 (rg k2) k3 else W1 (rg k2) k3)) (upd hd k1 (nI 1)) (nF od) (nF tx) (nI td) sm pa pr fl op du qa ab ac qb be bc wd ++ []))) := wd_perm (pm_ab _ _ _) hD
          refine pc_Vv (q0 := 0) (As := [.int (nI k1), .int (nI k2), .int (nI k3), .int (nI 1)]) (rest := []) hx hb (hml.trans hl.1.symm) hown ht F hP hD hS (c_MD_restrict l g ma cd rg hd (nF oo) (nF kp) (nI td) (nF tx) ct fd os oq vs sk ((oa, aJ g 1 ou) :: (CW g ad (vp_updL rg k1 (if (nI 1) = 0 then W0 (rg k2) k3 else W1 (rg k2) k3)) (upd hd k1 (nI 1)) (nF od) (nF tx) (nI td) sm pa pr fl op du qa ab ac qb be bc wd ++ [])) k1 k2 k3 (nI 1) (by first | omega | exact q1 | exact q2 | exact q2.1 | exact q2.2 | exact q2.2.1 | exact q2.2.2 | exact I9.1.1 | exact I9.2.2.2.2 | exact I9.oo.1 | exact I9.oo | exact I9.2.2.2.1 | exact I9.2.2.1 | exact I9.2.2.2.2 _ (by omega) | exact (I9.2.2.2.2 _ (by omega)).resolve_right q2) (by first | omega | exact q1 | exact q2 | exact q2.1 | exact q2.2 | exact q2.2.1 | exact q2.2.2 | exact I9.1.1 | exact I9.2.2.2.2 | exact I9.oo.1 | exact I9.oo | exact I9.2.2.2.1 | exact I9.2.2.1 | exact I9.2.2.2.2 _ (by omega) | exact (I9.2.2.2.2 _ (by omega)).resolve_right q2) (by first | omega | exact q1 | exact q2 | exact q2.1 | exact q2.2 | exact q2.2.1 | exact q2.2.2 | exact I9.1.1 | exact I9.2.2.2.2 | exact I9.oo.1 | exact I9.oo | exact I9.2.2.2.1 | exact I9.2.2.1 | exact I9.2.2.2.2 _ (by omega) | exact (I9.2.2.2.2 _ (by omega)).resolve_right q2) (by first | omega | exact q1 | exact q2 | exact q2.1 | exact q2.2 | exact q2.2.1 | exact q2.2.2 | exact I9.1.1 | exact I9.2.2.2.2 | exact I9.oo.1 | exact I9.oo | exact I9.2.2.2.1 | exact I9.2.2.1 | exact I9.2.2.2.2 _ (by omega) | exact (I9.2.2.2.2 _ (by omega)).resolve_right q2)) v_MD_restrict tw_543 ⟨rfl, rfl⟩ ⟨by decide, by decide⟩ rfl rfl rfl rfl (Nat.le_of_ble_eq_true rfl) ⟨hcA, hsA⟩ d_LW_law_395 (fun u9 H locs hq hP hD hS => ?_)
          have hP : va_P g.1 cl (MW g ma (nI 0) (vp_updL rg k1 (if (nI 1) = 0 then W0 (rg k2) k3 else W1 (rg k2) k3)) (upd hd k1 (nI 1)) (nF oo) (nF kp) (nI td) (nF tx) ct fd os oq vs sk ++ ((oa, aJ g 1 ou) :: (CW g ad (vp_updL rg k1 (if (nI 1) = 0 then W0 (rg k2) k3 else W1 (rg k2) k3)) (upd hd k1 (nI 1)) (nF od) (nF tx) (nI td) sm pa pr fl op du qa ab ac qb be bc wd ++ []))) H := hP
          have hD : va_D (gA g) (MW g ma (nI 0) (vp_updL rg k1 (if (nI 1) = 0 then W0 (rg k2) k3 else W1 (rg k2) k3)) (upd hd k1 (nI 1)) (nF oo) (nF kp) (nI td) (nF tx) ct fd os oq vs sk ++ ((oa, aJ g 1 ou) :: (CW g ad (vp_updL rg k1 (if (nI 1) = 0 then W0 (rg k2) k3 else W1 (rg k2) k3)) (upd hd k1 (nI 1)) (nF od) (nF tx) (nI td) sm pa pr fl op du qa ab ac qb be bc wd ++ []))) := hD
          refine lv_aload_n hx hb d_LW_law_398 rfl (lv_at hl 4 rfl) ?_
          refine pc_Vi (q0 := 0) (As := []) (rest := []) hx hb (hml.trans hl.1.symm) hown ht F hP hD hS (c_MD_thrown l g ma (nI 0) (vp_updL rg k1 (if (nI 1) = 0 then W0 (rg k2) k3 else W1 (rg k2) k3)) (upd hd k1 (nI 1)) (nF oo) (nF kp) (nI td) (nF tx) ct fd os oq vs sk ((oa, aJ g 1 ou) :: (CW g ad (vp_updL rg k1 (if (nI 1) = 0 then W0 (rg k2) k3 else W1 (rg k2) k3)) (upd hd k1 (nI 1)) (nF od) (nF tx) (nI td) sm pa pr fl op du qa ab ac qb be bc wd ++ []))) v_MD_thrown tw_510 ⟨rfl, rfl⟩ ⟨by decide, by decide⟩ rfl rfl rfl rfl (Nat.le_of_ble_eq_true rfl) ⟨hcA, hsA⟩ d_LW_law_399 (fun r9 u9 H locs hq hP hD hS => ?_)
          subst hq
          refine lv_iload hx hb d_LW_law_402 (lv_at hl 0 rfl) ?_
          refine rc_eq (tgt := 409) hx hb (by omega) (by omega) d_LW_law_404 (by decide) (fun c404 => ?_) (fun c404 => ?_)
          · refine lv_goto (tgt := 1402) hx hb d_LW_law_409 (by decide) ?_
            have hP : va_P g.1 cl (CW g ad (vp_updL rg k1 (if (nI 1) = 0 then W0 (rg k2) k3 else W1 (rg k2) k3)) (upd hd k1 (nI 1)) (nF od) (nF tx) (nI td) sm pa pr fl op du qa ab ac qb be bc wd ++ ((oa, aJ g 1 ou) :: (MW g ma (nI 0) (vp_updL rg k1 (if (nI 1) = 0 then W0 (rg k2) k3 else W1 (rg k2) k3)) (upd hd k1 (nI 1)) (nF oo) (nF kp) (nI td) (nF tx) ct fd os oq vs sk ++ []))) H := wp_perm (pm_ab _ _ _) hP
            have hD : va_D (gA g) (CW g ad (vp_updL rg k1 (if (nI 1) = 0 then W0 (rg k2) k3 else W1 (rg k2) k3)) (upd hd k1 (nI 1)) (nF od) (nF tx) (nI td) sm pa pr fl op du qa ab ac qb be bc wd ++ ((oa, aJ g 1 ou) :: (MW g ma (nI 0) (vp_updL rg k1 (if (nI 1) = 0 then W0 (rg k2) k3 else W1 (rg k2) k3)) (upd hd k1 (nI 1)) (nF oo) (nF kp) (nI td) (nF tx) ct fd os oq vs sk ++ []))) := wd_perm (pm_ab _ _ _) hD
            refine W.widen (k := cells + 1) (n := slots + 6) (by omega) (by omega) ?_
            exact kk H locs ls ⟨vp_updL rg k1 (if (nI 1) = 0 then W0 (rg k2) k3 else W1 (rg k2) k3), upd hd k1 (nI 1), od, tx, td, sm, pa, pr, fl, op, du, qa, ab, ac, qb, be, bc, wd, ou, nI 0, oo, kp, ct, fd, os, oq, vs, sk, (I9.put _), hP, hD⟩ hS (lv_sub hl [1, 2, 3, 4, 5] rfl)
          · exact (by omega : False).elim
    · refine lv_aload_n hx hb d_LW_law_324 rfl (lv_at hl 2 rfl) ?_
      refine lv_aload_n hx hb d_LW_law_325 rfl (lv_at hl 1 rfl) ?_
      refine lv_iload hx hb d_LW_law_326 (lv_at hl 0 rfl) ?_
      refine lv_iconst (v := nI 1) hx hb d_LW_law_328 (by decide) ?_
      refine rn_add hx hb d_LW_law_329 ?_
      refine rl_s hx hb hX hbl hbA hS (by omega) (by omega) hx1 d_LW_law_330 ?_
      refine lv_aload_n hx hb d_LW_law_331 rfl (lv_at hl 1 rfl) ?_
      refine lv_iload hx hb d_LW_law_332 (lv_at hl 0 rfl) ?_
      refine lv_iconst (v := nI 2) hx hb d_LW_law_334 (by decide) ?_
      refine rn_add hx hb d_LW_law_335 ?_
      refine rl_s hx hb hX hbl hbA hS (by omega) (by omega) hx2 d_LW_law_336 ?_
      refine lv_aload_n hx hb d_LW_law_337 rfl (lv_at hl 1 rfl) ?_
      refine lv_iload hx hb d_LW_law_338 (lv_at hl 0 rfl) ?_
      refine lv_iconst (v := nI 3) hx hb d_LW_law_340 (by decide) ?_
      refine rn_add hx hb d_LW_law_341 ?_
      refine rl_s hx hb hX hbl hbA hS (by omega) (by omega) hx3 d_LW_law_342 ?_
      refine lv_aload_n hx hb d_LW_law_343 rfl (lv_at hl 1 rfl) ?_
      refine lv_iload hx hb d_LW_law_344 (lv_at hl 0 rfl) ?_
      refine lv_iconst (v := nI 4) hx hb d_LW_law_346 (by decide) ?_
      refine rn_add hx hb d_LW_law_347 ?_
      refine rl_s hx hb hX hbl hbA hS (by omega) (by omega) hx4 d_LW_law_348 ?_
      refine lv_if_eq (tgt := 356) hx hb d_LW_law_349 (by decide) (fun c349 => ?_) (fun c349 => ?_)
      · refine lv_iconst (v := nI 0) hx hb d_LW_law_356 (by decide) ?_
        refine pc_T (As := [.ref (ad 0), .int (nI k1), .int (nI k2), .int (nI k3), .int (nI 0)]) (rest := []) hx hb (hml.trans hl.1.symm) hown ht F hP hD hS (c2_LW_restrict l hl0 g ad oa rg hd (nF od) (nF tx) (nI td) sm pa pr fl op du qa ab ac qb be bc wd ou (MW g ma cd rg hd (nF oo) (nF kp) (nI td) (nF tx) ct fd os oq vs sk ++ []) k1 k2 k3 (nI 0) (by first | omega | exact q1 | exact q2 | exact q2.1 | exact q2.2 | exact q2.2.1 | exact q2.2.2 | exact I9.1.1 | exact I9.2.2.2.2 | exact I9.oo.1 | exact I9.oo | exact I9.2.2.2.1 | exact I9.2.2.1 | exact I9.2.2.2.2 _ (by omega) | exact (I9.2.2.2.2 _ (by omega)).resolve_right q2) (by first | omega | exact q1 | exact q2 | exact q2.1 | exact q2.2 | exact q2.2.1 | exact q2.2.2 | exact I9.1.1 | exact I9.2.2.2.2 | exact I9.oo.1 | exact I9.oo | exact I9.2.2.2.1 | exact I9.2.2.1 | exact I9.2.2.2.2 _ (by omega) | exact (I9.2.2.2.2 _ (by omega)).resolve_right q2) (by first | omega | exact q1 | exact q2 | exact q2.1 | exact q2.2 | exact q2.2.1 | exact q2.2.2 | exact I9.1.1 | exact I9.2.2.2.2 | exact I9.oo.1 | exact I9.oo | exact I9.2.2.2.1 | exact I9.2.2.1 | exact I9.2.2.2.2 _ (by omega) | exact (I9.2.2.2.2 _ (by omega)).resolve_right q2) (by first | omega | exact q1 | exact q2 | exact q2.1 | exact q2.2 | exact q2.2.1 | exact q2.2.2 | exact I9.1.1 | exact I9.2.2.2.2 | exact I9.oo.1 | exact I9.oo | exact I9.2.2.2.1 | exact I9.2.2.1 | exact I9.2.2.2.2 _ (by omega) | exact (I9.2.2.2.2 _ (by omega)).resolve_right q2) (by first | omega | exact q1 | exact q2 | exact q2.1 | exact q2.2 | exact q2.2.1 | exact q2.2.2 | exact I9.1.1 | exact I9.2.2.2.2 | exact I9.oo.1 | exact I9.oo | exact I9.2.2.2.1 | exact I9.2.2.1 | exact I9.2.2.2.2 _ (by omega) | exact (I9.2.2.2.2 _ (by omega)).resolve_right q2)) v_LW_restrict tw_274 ⟨rfl, rfl⟩ ⟨by decide, by decide⟩ rfl rfl (Nat.le_of_ble_eq_true rfl) ⟨hc1, hs1⟩ d_LW_law_357 (fun r9 u9 H locs hq hP hD hS => ?_)
        subst hq
        refine lv_istore (lv' := [(5, .int (nI 2)), (4, .int (nI i)), (0, .ref b), (1, .ref (ad 0)), (2, .ref (ma 0)), (3, .ref oa)]) hx hb d_LW_law_360 hl (by decide) rfl (fun ls hl => ?_)
        refine lv_aload_n hx hb d_LW_law_362 rfl (lv_at hl 4 rfl) ?_
        refine lv_aload_n hx hb d_LW_law_363 rfl (lv_at hl 2 rfl) ?_
        refine lv_iload hx hb d_LW_law_364 (lv_at hl 1 rfl) ?_
        refine lv_iconst (v := nI 1) hx hb d_LW_law_366 (by decide) ?_
        refine rn_add hx hb d_LW_law_367 ?_
        refine rl_s hx hb hX hbl hbA hS (by omega) (by omega) hx1 d_LW_law_368 ?_
        refine lv_aload_n hx hb d_LW_law_369 rfl (lv_at hl 2 rfl) ?_
        refine lv_iload hx hb d_LW_law_370 (lv_at hl 1 rfl) ?_
        refine lv_iconst (v := nI 2) hx hb d_LW_law_372 (by decide) ?_
        refine rn_add hx hb d_LW_law_373 ?_
        refine rl_s hx hb hX hbl hbA hS (by omega) (by omega) hx2 d_LW_law_374 ?_
        refine lv_aload_n hx hb d_LW_law_375 rfl (lv_at hl 2 rfl) ?_
        refine lv_iload hx hb d_LW_law_376 (lv_at hl 1 rfl) ?_
        refine lv_iconst (v := nI 3) hx hb d_LW_law_378 (by decide) ?_
        refine rn_add hx hb d_LW_law_379 ?_
        refine rl_s hx hb hX hbl hbA hS (by omega) (by omega) hx3 d_LW_law_380 ?_
        refine lv_aload_n hx hb d_LW_law_381 rfl (lv_at hl 2 rfl) ?_
        refine lv_iload hx hb d_LW_law_382 (lv_at hl 1 rfl) ?_
        refine lv_iconst (v := nI 4) hx hb d_LW_law_384 (by decide) ?_
        refine rn_add hx hb d_LW_law_385 ?_
        refine rl_s hx hb hX hbl hbA hS (by omega) (by omega) hx4 d_LW_law_386 ?_
        refine lv_if_eq (tgt := 394) hx hb d_LW_law_387 (by decide) (fun c387 => ?_) (fun c387 => ?_)
        · refine lv_iconst (v := nI 0) hx hb d_LW_law_394 (by decide) ?_
          have hP : va_P g.1 cl (MW g ma cd rg hd (nF oo) (nF kp) (nI td) (nF tx) ct fd os oq vs sk ++ ((oa, aJ g 1 ou) :: (CW g ad rg hd (nF od) (nF tx) (nI td) sm pa pr fl op du qa ab ac qb be bc wd ++ []))) H := wp_perm (pm_ab _ _ _) hP
          have hD : va_D (gA g) (MW g ma cd rg hd (nF oo) (nF kp) (nI td) (nF tx) ct fd os oq vs sk ++ ((oa, aJ g 1 ou) :: (CW g ad rg hd (nF od) (nF tx) (nI td) sm pa pr fl op du qa ab ac qb be bc wd ++ []))) := wd_perm (pm_ab _ _ _) hD
          refine pc_Vv (q0 := 0) (As := [.int (nI k1), .int (nI k2), .int (nI k3), .int (nI 0)]) (rest := []) hx hb (hml.trans hl.1.symm) hown ht F hP hD hS (c2_MD_restrict l g ma cd rg hd (nF oo) (nF kp) (nI td) (nF tx) ct fd os oq vs sk ((oa, aJ g 1 ou) :: (CW g ad rg hd (nF od) (nF tx) (nI td) sm pa pr fl op du qa ab ac qb be bc wd ++ [])) k1 k2 k3 (nI 0) (by first | omega | exact q1 | exact q2 | exact q2.1 | exact q2.2 | exact q2.2.1 | exact q2.2.2 | exact I9.1.1 | exact I9.2.2.2.2 | exact I9.oo.1 | exact I9.oo | exact I9.2.2.2.1 | exact I9.2.2.1 | exact I9.2.2.2.2 _ (by omega) | exact (I9.2.2.2.2 _ (by omega)).resolve_right q2) (by first | omega | exact q1 | exact q2 | exact q2.1 | exact q2.2 | exact q2.2.1 | exact q2.2.2 | exact I9.1.1 | exact I9.2.2.2.2 | exact I9.oo.1 | exact I9.oo | exact I9.2.2.2.1 | exact I9.2.2.1 | exact I9.2.2.2.2 _ (by omega) | exact (I9.2.2.2.2 _ (by omega)).resolve_right q2) (by first | omega | exact q1 | exact q2 | exact q2.1 | exact q2.2 | exact q2.2.1 | exact q2.2.2 | exact I9.1.1 | exact I9.2.2.2.2 | exact I9.oo.1 | exact I9.oo | exact I9.2.2.2.1 | exact I9.2.2.1 | exact I9.2.2.2.2 _ (by omega) | exact (I9.2.2.2.2 _ (by omega)).resolve_right q2) (by first | omega | exact q1 | exact q2 | exact q2.1 | exact q2.2 | exact q2.2.1 | exact q2.2.2 | exact I9.1.1 | exact I9.2.2.2.2 | exact I9.oo.1 | exact I9.oo | exact I9.2.2.2.1 | exact I9.2.2.1 | exact I9.2.2.2.2 _ (by omega) | exact (I9.2.2.2.2 _ (by omega)).resolve_right q2) (by first | omega | exact q1 | exact q2 | exact q2.1 | exact q2.2 | exact q2.2.1 | exact q2.2.2 | exact I9.1.1 | exact I9.2.2.2.2 | exact I9.oo.1 | exact I9.oo | exact I9.2.2.2.1 | exact I9.2.2.1 | exact I9.2.2.2.2 _ (by omega) | exact (I9.2.2.2.2 _ (by omega)).resolve_right q2)) v_MD_restrict tw_543 ⟨rfl, rfl⟩ ⟨by decide, by decide⟩ rfl rfl rfl rfl (Nat.le_of_ble_eq_true rfl) ⟨hc1, hs1⟩ d_LW_law_395 (fun u9 H locs hq hP hD hS => ?_)
          have hP : va_P g.1 cl (MW g ma (nI 2) rg hd (nF oo) (nF kp) (nI td) (nF tx) ct fd os oq vs sk ++ ((oa, aJ g 1 ou) :: (CW g ad rg hd (nF od) (nF tx) (nI td) sm pa pr fl op du qa ab ac qb be bc wd ++ []))) H := hP
          have hD : va_D (gA g) (MW g ma (nI 2) rg hd (nF oo) (nF kp) (nI td) (nF tx) ct fd os oq vs sk ++ ((oa, aJ g 1 ou) :: (CW g ad rg hd (nF od) (nF tx) (nI td) sm pa pr fl op du qa ab ac qb be bc wd ++ []))) := hD
          refine lv_aload_n hx hb d_LW_law_398 rfl (lv_at hl 4 rfl) ?_
          refine pc_Vi (q0 := 0) (As := []) (rest := []) hx hb (hml.trans hl.1.symm) hown ht F hP hD hS (c_MD_thrown l g ma (nI 2) rg hd (nF oo) (nF kp) (nI td) (nF tx) ct fd os oq vs sk ((oa, aJ g 1 ou) :: (CW g ad rg hd (nF od) (nF tx) (nI td) sm pa pr fl op du qa ab ac qb be bc wd ++ []))) v_MD_thrown tw_510 ⟨rfl, rfl⟩ ⟨by decide, by decide⟩ rfl rfl rfl rfl (Nat.le_of_ble_eq_true rfl) ⟨hc1, hs1⟩ d_LW_law_399 (fun r9 u9 H locs hq hP hD hS => ?_)
          subst hq
          refine lv_iload hx hb d_LW_law_402 (lv_at hl 0 rfl) ?_
          refine rc_eq (tgt := 409) hx hb (by omega) (by omega) d_LW_law_404 (by decide) (fun c404 => ?_) (fun c404 => ?_)
          · refine lv_goto (tgt := 1402) hx hb d_LW_law_409 (by decide) ?_
            have hP : va_P g.1 cl (CW g ad rg hd (nF od) (nF tx) (nI td) sm pa pr fl op du qa ab ac qb be bc wd ++ ((oa, aJ g 1 ou) :: (MW g ma (nI 2) rg hd (nF oo) (nF kp) (nI td) (nF tx) ct fd os oq vs sk ++ []))) H := wp_perm (pm_ab _ _ _) hP
            have hD : va_D (gA g) (CW g ad rg hd (nF od) (nF tx) (nI td) sm pa pr fl op du qa ab ac qb be bc wd ++ ((oa, aJ g 1 ou) :: (MW g ma (nI 2) rg hd (nF oo) (nF kp) (nI td) (nF tx) ct fd os oq vs sk ++ []))) := wd_perm (pm_ab _ _ _) hD
            refine W.widen (k := cells + 1) (n := slots + 6) (by omega) (by omega) ?_
            exact kk H locs ls ⟨rg, hd, od, tx, td, sm, pa, pr, fl, op, du, qa, ab, ac, qb, be, bc, wd, ou, nI 2, oo, kp, ct, fd, os, oq, vs, sk, I9, hP, hD⟩ hS (lv_sub hl [1, 2, 3, 4, 5] rfl)
          · exact (by omega : False).elim
        · exact absurd c349 c387
      · refine lv_iconst (v := nI 1) hx hb d_LW_law_352 (by decide) ?_
        refine lv_goto (tgt := 357) hx hb d_LW_law_353 (by decide) ?_
        refine pc_T (As := [.ref (ad 0), .int (nI k1), .int (nI k2), .int (nI k3), .int (nI 1)]) (rest := []) hx hb (hml.trans hl.1.symm) hown ht F hP hD hS (c2_LW_restrict l hl0 g ad oa rg hd (nF od) (nF tx) (nI td) sm pa pr fl op du qa ab ac qb be bc wd ou (MW g ma cd rg hd (nF oo) (nF kp) (nI td) (nF tx) ct fd os oq vs sk ++ []) k1 k2 k3 (nI 1) (by first | omega | exact q1 | exact q2 | exact q2.1 | exact q2.2 | exact q2.2.1 | exact q2.2.2 | exact I9.1.1 | exact I9.2.2.2.2 | exact I9.oo.1 | exact I9.oo | exact I9.2.2.2.1 | exact I9.2.2.1 | exact I9.2.2.2.2 _ (by omega) | exact (I9.2.2.2.2 _ (by omega)).resolve_right q2) (by first | omega | exact q1 | exact q2 | exact q2.1 | exact q2.2 | exact q2.2.1 | exact q2.2.2 | exact I9.1.1 | exact I9.2.2.2.2 | exact I9.oo.1 | exact I9.oo | exact I9.2.2.2.1 | exact I9.2.2.1 | exact I9.2.2.2.2 _ (by omega) | exact (I9.2.2.2.2 _ (by omega)).resolve_right q2) (by first | omega | exact q1 | exact q2 | exact q2.1 | exact q2.2 | exact q2.2.1 | exact q2.2.2 | exact I9.1.1 | exact I9.2.2.2.2 | exact I9.oo.1 | exact I9.oo | exact I9.2.2.2.1 | exact I9.2.2.1 | exact I9.2.2.2.2 _ (by omega) | exact (I9.2.2.2.2 _ (by omega)).resolve_right q2) (by first | omega | exact q1 | exact q2 | exact q2.1 | exact q2.2 | exact q2.2.1 | exact q2.2.2 | exact I9.1.1 | exact I9.2.2.2.2 | exact I9.oo.1 | exact I9.oo | exact I9.2.2.2.1 | exact I9.2.2.1 | exact I9.2.2.2.2 _ (by omega) | exact (I9.2.2.2.2 _ (by omega)).resolve_right q2) (by first | omega | exact q1 | exact q2 | exact q2.1 | exact q2.2 | exact q2.2.1 | exact q2.2.2 | exact I9.1.1 | exact I9.2.2.2.2 | exact I9.oo.1 | exact I9.oo | exact I9.2.2.2.1 | exact I9.2.2.1 | exact I9.2.2.2.2 _ (by omega) | exact (I9.2.2.2.2 _ (by omega)).resolve_right q2)) v_LW_restrict tw_274 ⟨rfl, rfl⟩ ⟨by decide, by decide⟩ rfl rfl (Nat.le_of_ble_eq_true rfl) ⟨hc1, hs1⟩ d_LW_law_357 (fun r9 u9 H locs hq hP hD hS => ?_)
        subst hq
        refine lv_istore (lv' := [(5, .int (nI 2)), (4, .int (nI i)), (0, .ref b), (1, .ref (ad 0)), (2, .ref (ma 0)), (3, .ref oa)]) hx hb d_LW_law_360 hl (by decide) rfl (fun ls hl => ?_)
        refine lv_aload_n hx hb d_LW_law_362 rfl (lv_at hl 4 rfl) ?_
        refine lv_aload_n hx hb d_LW_law_363 rfl (lv_at hl 2 rfl) ?_
        refine lv_iload hx hb d_LW_law_364 (lv_at hl 1 rfl) ?_
        refine lv_iconst (v := nI 1) hx hb d_LW_law_366 (by decide) ?_
        refine rn_add hx hb d_LW_law_367 ?_
        refine rl_s hx hb hX hbl hbA hS (by omega) (by omega) hx1 d_LW_law_368 ?_
        refine lv_aload_n hx hb d_LW_law_369 rfl (lv_at hl 2 rfl) ?_
        refine lv_iload hx hb d_LW_law_370 (lv_at hl 1 rfl) ?_
        refine lv_iconst (v := nI 2) hx hb d_LW_law_372 (by decide) ?_
        refine rn_add hx hb d_LW_law_373 ?_
        refine rl_s hx hb hX hbl hbA hS (by omega) (by omega) hx2 d_LW_law_374 ?_
        refine lv_aload_n hx hb d_LW_law_375 rfl (lv_at hl 2 rfl) ?_
        refine lv_iload hx hb d_LW_law_376 (lv_at hl 1 rfl) ?_
        refine lv_iconst (v := nI 3) hx hb d_LW_law_378 (by decide) ?_
        refine rn_add hx hb d_LW_law_379 ?_
        refine rl_s hx hb hX hbl hbA hS (by omega) (by omega) hx3 d_LW_law_380 ?_
        refine lv_aload_n hx hb d_LW_law_381 rfl (lv_at hl 2 rfl) ?_
        refine lv_iload hx hb d_LW_law_382 (lv_at hl 1 rfl) ?_
        refine lv_iconst (v := nI 4) hx hb d_LW_law_384 (by decide) ?_
        refine rn_add hx hb d_LW_law_385 ?_
        refine rl_s hx hb hX hbl hbA hS (by omega) (by omega) hx4 d_LW_law_386 ?_
        refine lv_if_eq (tgt := 394) hx hb d_LW_law_387 (by decide) (fun c387 => ?_) (fun c387 => ?_)
        · exact absurd c387 c349
        · refine lv_iconst (v := nI 1) hx hb d_LW_law_390 (by decide) ?_
          refine lv_goto (tgt := 395) hx hb d_LW_law_391 (by decide) ?_
          have hP : va_P g.1 cl (MW g ma cd rg hd (nF oo) (nF kp) (nI td) (nF tx) ct fd os oq vs sk ++ ((oa, aJ g 1 ou) :: (CW g ad rg hd (nF od) (nF tx) (nI td) sm pa pr fl op du qa ab ac qb be bc wd ++ []))) H := wp_perm (pm_ab _ _ _) hP
          have hD : va_D (gA g) (MW g ma cd rg hd (nF oo) (nF kp) (nI td) (nF tx) ct fd os oq vs sk ++ ((oa, aJ g 1 ou) :: (CW g ad rg hd (nF od) (nF tx) (nI td) sm pa pr fl op du qa ab ac qb be bc wd ++ []))) := wd_perm (pm_ab _ _ _) hD
          refine pc_Vv (q0 := 0) (As := [.int (nI k1), .int (nI k2), .int (nI k3), .int (nI 1)]) (rest := []) hx hb (hml.trans hl.1.symm) hown ht F hP hD hS (c2_MD_restrict l g ma cd rg hd (nF oo) (nF kp) (nI td) (nF tx) ct fd os oq vs sk ((oa, aJ g 1 ou) :: (CW g ad rg hd (nF od) (nF tx) (nI td) sm pa pr fl op du qa ab ac qb be bc wd ++ [])) k1 k2 k3 (nI 1) (by first | omega | exact q1 | exact q2 | exact q2.1 | exact q2.2 | exact q2.2.1 | exact q2.2.2 | exact I9.1.1 | exact I9.2.2.2.2 | exact I9.oo.1 | exact I9.oo | exact I9.2.2.2.1 | exact I9.2.2.1 | exact I9.2.2.2.2 _ (by omega) | exact (I9.2.2.2.2 _ (by omega)).resolve_right q2) (by first | omega | exact q1 | exact q2 | exact q2.1 | exact q2.2 | exact q2.2.1 | exact q2.2.2 | exact I9.1.1 | exact I9.2.2.2.2 | exact I9.oo.1 | exact I9.oo | exact I9.2.2.2.1 | exact I9.2.2.1 | exact I9.2.2.2.2 _ (by omega) | exact (I9.2.2.2.2 _ (by omega)).resolve_right q2) (by first | omega | exact q1 | exact q2 | exact q2.1 | exact q2.2 | exact q2.2.1 | exact q2.2.2 | exact I9.1.1 | exact I9.2.2.2.2 | exact I9.oo.1 | exact I9.oo | exact I9.2.2.2.1 | exact I9.2.2.1 | exact I9.2.2.2.2 _ (by omega) | exact (I9.2.2.2.2 _ (by omega)).resolve_right q2) (by first | omega | exact q1 | exact q2 | exact q2.1 | exact q2.2 | exact q2.2.1 | exact q2.2.2 | exact I9.1.1 | exact I9.2.2.2.2 | exact I9.oo.1 | exact I9.oo | exact I9.2.2.2.1 | exact I9.2.2.1 | exact I9.2.2.2.2 _ (by omega) | exact (I9.2.2.2.2 _ (by omega)).resolve_right q2) (by first | omega | exact q1 | exact q2 | exact q2.1 | exact q2.2 | exact q2.2.1 | exact q2.2.2 | exact I9.1.1 | exact I9.2.2.2.2 | exact I9.oo.1 | exact I9.oo | exact I9.2.2.2.1 | exact I9.2.2.1 | exact I9.2.2.2.2 _ (by omega) | exact (I9.2.2.2.2 _ (by omega)).resolve_right q2)) v_MD_restrict tw_543 ⟨rfl, rfl⟩ ⟨by decide, by decide⟩ rfl rfl rfl rfl (Nat.le_of_ble_eq_true rfl) ⟨hc1, hs1⟩ d_LW_law_395 (fun u9 H locs hq hP hD hS => ?_)
          have hP : va_P g.1 cl (MW g ma (nI 2) rg hd (nF oo) (nF kp) (nI td) (nF tx) ct fd os oq vs sk ++ ((oa, aJ g 1 ou) :: (CW g ad rg hd (nF od) (nF tx) (nI td) sm pa pr fl op du qa ab ac qb be bc wd ++ []))) H := hP
          have hD : va_D (gA g) (MW g ma (nI 2) rg hd (nF oo) (nF kp) (nI td) (nF tx) ct fd os oq vs sk ++ ((oa, aJ g 1 ou) :: (CW g ad rg hd (nF od) (nF tx) (nI td) sm pa pr fl op du qa ab ac qb be bc wd ++ []))) := hD
          refine lv_aload_n hx hb d_LW_law_398 rfl (lv_at hl 4 rfl) ?_
          refine pc_Vi (q0 := 0) (As := []) (rest := []) hx hb (hml.trans hl.1.symm) hown ht F hP hD hS (c_MD_thrown l g ma (nI 2) rg hd (nF oo) (nF kp) (nI td) (nF tx) ct fd os oq vs sk ((oa, aJ g 1 ou) :: (CW g ad rg hd (nF od) (nF tx) (nI td) sm pa pr fl op du qa ab ac qb be bc wd ++ []))) v_MD_thrown tw_510 ⟨rfl, rfl⟩ ⟨by decide, by decide⟩ rfl rfl rfl rfl (Nat.le_of_ble_eq_true rfl) ⟨hc1, hs1⟩ d_LW_law_399 (fun r9 u9 H locs hq hP hD hS => ?_)
          subst hq
          refine lv_iload hx hb d_LW_law_402 (lv_at hl 0 rfl) ?_
          refine rc_eq (tgt := 409) hx hb (by omega) (by omega) d_LW_law_404 (by decide) (fun c404 => ?_) (fun c404 => ?_)
          · refine lv_goto (tgt := 1402) hx hb d_LW_law_409 (by decide) ?_
            have hP : va_P g.1 cl (CW g ad rg hd (nF od) (nF tx) (nI td) sm pa pr fl op du qa ab ac qb be bc wd ++ ((oa, aJ g 1 ou) :: (MW g ma (nI 2) rg hd (nF oo) (nF kp) (nI td) (nF tx) ct fd os oq vs sk ++ []))) H := wp_perm (pm_ab _ _ _) hP
            have hD : va_D (gA g) (CW g ad rg hd (nF od) (nF tx) (nI td) sm pa pr fl op du qa ab ac qb be bc wd ++ ((oa, aJ g 1 ou) :: (MW g ma (nI 2) rg hd (nF oo) (nF kp) (nI td) (nF tx) ct fd os oq vs sk ++ []))) := wd_perm (pm_ab _ _ _) hD
            refine W.widen (k := cells + 1) (n := slots + 6) (by omega) (by omega) ?_
            exact kk H locs ls ⟨rg, hd, od, tx, td, sm, pa, pr, fl, op, du, qa, ab, ac, qb, be, bc, wd, ou, nI 2, oo, kp, ct, fd, os, oq, vs, sk, I9, hP, hD⟩ hS (lv_sub hl [1, 2, 3, 4, 5] rfl)
          · exact (by omega : False).elim
  · refine lv_aload_n hx hb d_LW_law_324 rfl (lv_at hl 2 rfl) ?_
    refine lv_aload_n hx hb d_LW_law_325 rfl (lv_at hl 1 rfl) ?_
    refine lv_iload hx hb d_LW_law_326 (lv_at hl 0 rfl) ?_
    refine lv_iconst (v := nI 1) hx hb d_LW_law_328 (by decide) ?_
    refine rn_add hx hb d_LW_law_329 ?_
    refine rl_s hx hb hX hbl hbA hS (by omega) (by omega) hx1 d_LW_law_330 ?_
    refine lv_aload_n hx hb d_LW_law_331 rfl (lv_at hl 1 rfl) ?_
    refine lv_iload hx hb d_LW_law_332 (lv_at hl 0 rfl) ?_
    refine lv_iconst (v := nI 2) hx hb d_LW_law_334 (by decide) ?_
    refine rn_add hx hb d_LW_law_335 ?_
    refine rl_s hx hb hX hbl hbA hS (by omega) (by omega) hx2 d_LW_law_336 ?_
    refine lv_aload_n hx hb d_LW_law_337 rfl (lv_at hl 1 rfl) ?_
    refine lv_iload hx hb d_LW_law_338 (lv_at hl 0 rfl) ?_
    refine lv_iconst (v := nI 3) hx hb d_LW_law_340 (by decide) ?_
    refine rn_add hx hb d_LW_law_341 ?_
    refine rl_s hx hb hX hbl hbA hS (by omega) (by omega) hx3 d_LW_law_342 ?_
    refine lv_aload_n hx hb d_LW_law_343 rfl (lv_at hl 1 rfl) ?_
    refine lv_iload hx hb d_LW_law_344 (lv_at hl 0 rfl) ?_
    refine lv_iconst (v := nI 4) hx hb d_LW_law_346 (by decide) ?_
    refine rn_add hx hb d_LW_law_347 ?_
    refine rl_s hx hb hX hbl hbA hS (by omega) (by omega) hx4 d_LW_law_348 ?_
    refine lv_if_eq (tgt := 356) hx hb d_LW_law_349 (by decide) (fun c349 => ?_) (fun c349 => ?_)
    · refine lv_iconst (v := nI 0) hx hb d_LW_law_356 (by decide) ?_
      refine pc_T (As := [.ref (ad 0), .int x1, .int x2, .int x3, .int (nI 0)]) (rest := []) hx hb (hml.trans hl.1.symm) hown ht F hP hD hS (c1_LW_restrict l hl0 g ad oa rg hd (nF od) (nF tx) (nI td) sm pa pr fl op du qa ab ac qb be bc wd ou (MW g ma cd rg hd (nF oo) (nF kp) (nI td) (nF tx) ct fd os oq vs sk ++ []) x1 x2 x3 (nI 0) (by first | omega | exact q1 | exact q2 | exact q2.1 | exact q2.2 | exact q2.2.1 | exact q2.2.2 | exact I9.1.1 | exact I9.2.2.2.2 | exact I9.oo.1 | exact I9.oo | exact I9.2.2.2.1 | exact I9.2.2.1 | exact I9.2.2.2.2 _ (by omega) | exact (I9.2.2.2.2 _ (by omega)).resolve_right q2)) v_LW_restrict tw_274 ⟨rfl, rfl⟩ ⟨by decide, by decide⟩ rfl rfl (Nat.le_of_ble_eq_true rfl) ⟨hc1, hs1⟩ d_LW_law_357 (fun r9 u9 H locs hq hP hD hS => ?_)
      subst hq
      refine lv_istore (lv' := [(5, .int (nI 1)), (4, .int (nI i)), (0, .ref b), (1, .ref (ad 0)), (2, .ref (ma 0)), (3, .ref oa)]) hx hb d_LW_law_360 hl (by decide) rfl (fun ls hl => ?_)
      refine lv_aload_n hx hb d_LW_law_362 rfl (lv_at hl 4 rfl) ?_
      refine lv_aload_n hx hb d_LW_law_363 rfl (lv_at hl 2 rfl) ?_
      refine lv_iload hx hb d_LW_law_364 (lv_at hl 1 rfl) ?_
      refine lv_iconst (v := nI 1) hx hb d_LW_law_366 (by decide) ?_
      refine rn_add hx hb d_LW_law_367 ?_
      refine rl_s hx hb hX hbl hbA hS (by omega) (by omega) hx1 d_LW_law_368 ?_
      refine lv_aload_n hx hb d_LW_law_369 rfl (lv_at hl 2 rfl) ?_
      refine lv_iload hx hb d_LW_law_370 (lv_at hl 1 rfl) ?_
      refine lv_iconst (v := nI 2) hx hb d_LW_law_372 (by decide) ?_
      refine rn_add hx hb d_LW_law_373 ?_
      refine rl_s hx hb hX hbl hbA hS (by omega) (by omega) hx2 d_LW_law_374 ?_
      refine lv_aload_n hx hb d_LW_law_375 rfl (lv_at hl 2 rfl) ?_
      refine lv_iload hx hb d_LW_law_376 (lv_at hl 1 rfl) ?_
      refine lv_iconst (v := nI 3) hx hb d_LW_law_378 (by decide) ?_
      refine rn_add hx hb d_LW_law_379 ?_
      refine rl_s hx hb hX hbl hbA hS (by omega) (by omega) hx3 d_LW_law_380 ?_
      refine lv_aload_n hx hb d_LW_law_381 rfl (lv_at hl 2 rfl) ?_
      refine lv_iload hx hb d_LW_law_382 (lv_at hl 1 rfl) ?_
      refine lv_iconst (v := nI 4) hx hb d_LW_law_384 (by decide) ?_
      refine rn_add hx hb d_LW_law_385 ?_
      refine rl_s hx hb hX hbl hbA hS (by omega) (by omega) hx4 d_LW_law_386 ?_
      refine lv_if_eq (tgt := 394) hx hb d_LW_law_387 (by decide) (fun c387 => ?_) (fun c387 => ?_)
      · refine lv_iconst (v := nI 0) hx hb d_LW_law_394 (by decide) ?_
        have hP : va_P g.1 cl (MW g ma cd rg hd (nF oo) (nF kp) (nI td) (nF tx) ct fd os oq vs sk ++ ((oa, aJ g 1 ou) :: (CW g ad rg hd (nF od) (nF tx) (nI td) sm pa pr fl op du qa ab ac qb be bc wd ++ []))) H := wp_perm (pm_ab _ _ _) hP
        have hD : va_D (gA g) (MW g ma cd rg hd (nF oo) (nF kp) (nI td) (nF tx) ct fd os oq vs sk ++ ((oa, aJ g 1 ou) :: (CW g ad rg hd (nF od) (nF tx) (nI td) sm pa pr fl op du qa ab ac qb be bc wd ++ []))) := wd_perm (pm_ab _ _ _) hD
        refine pc_Vv (q0 := 0) (As := [.int x1, .int x2, .int x3, .int (nI 0)]) (rest := []) hx hb (hml.trans hl.1.symm) hown ht F hP hD hS (c1_MD_restrict l g ma cd rg hd (nF oo) (nF kp) (nI td) (nF tx) ct fd os oq vs sk ((oa, aJ g 1 ou) :: (CW g ad rg hd (nF od) (nF tx) (nI td) sm pa pr fl op du qa ab ac qb be bc wd ++ [])) x1 x2 x3 (nI 0) (by first | omega | exact q1 | exact q2 | exact q2.1 | exact q2.2 | exact q2.2.1 | exact q2.2.2 | exact I9.1.1 | exact I9.2.2.2.2 | exact I9.oo.1 | exact I9.oo | exact I9.2.2.2.1 | exact I9.2.2.1 | exact I9.2.2.2.2 _ (by omega) | exact (I9.2.2.2.2 _ (by omega)).resolve_right q2)) v_MD_restrict tw_543 ⟨rfl, rfl⟩ ⟨by decide, by decide⟩ rfl rfl rfl rfl (Nat.le_of_ble_eq_true rfl) ⟨hc1, hs1⟩ d_LW_law_395 (fun u9 H locs hq hP hD hS => ?_)
        have hP : va_P g.1 cl (MW g ma (nI 1) rg hd (nF oo) (nF kp) (nI td) (nF tx) ct fd os oq vs sk ++ ((oa, aJ g 1 ou) :: (CW g ad rg hd (nF od) (nF tx) (nI td) sm pa pr fl op du qa ab ac qb be bc wd ++ []))) H := hP
        have hD : va_D (gA g) (MW g ma (nI 1) rg hd (nF oo) (nF kp) (nI td) (nF tx) ct fd os oq vs sk ++ ((oa, aJ g 1 ou) :: (CW g ad rg hd (nF od) (nF tx) (nI td) sm pa pr fl op du qa ab ac qb be bc wd ++ []))) := hD
        refine lv_aload_n hx hb d_LW_law_398 rfl (lv_at hl 4 rfl) ?_
        refine pc_Vi (q0 := 0) (As := []) (rest := []) hx hb (hml.trans hl.1.symm) hown ht F hP hD hS (c_MD_thrown l g ma (nI 1) rg hd (nF oo) (nF kp) (nI td) (nF tx) ct fd os oq vs sk ((oa, aJ g 1 ou) :: (CW g ad rg hd (nF od) (nF tx) (nI td) sm pa pr fl op du qa ab ac qb be bc wd ++ []))) v_MD_thrown tw_510 ⟨rfl, rfl⟩ ⟨by decide, by decide⟩ rfl rfl rfl rfl (Nat.le_of_ble_eq_true rfl) ⟨hc1, hs1⟩ d_LW_law_399 (fun r9 u9 H locs hq hP hD hS => ?_)
        subst hq
        refine lv_iload hx hb d_LW_law_402 (lv_at hl 0 rfl) ?_
        refine rc_eq (tgt := 409) hx hb (by omega) (by omega) d_LW_law_404 (by decide) (fun c404 => ?_) (fun c404 => ?_)
        · refine lv_goto (tgt := 1402) hx hb d_LW_law_409 (by decide) ?_
          have hP : va_P g.1 cl (CW g ad rg hd (nF od) (nF tx) (nI td) sm pa pr fl op du qa ab ac qb be bc wd ++ ((oa, aJ g 1 ou) :: (MW g ma (nI 1) rg hd (nF oo) (nF kp) (nI td) (nF tx) ct fd os oq vs sk ++ []))) H := wp_perm (pm_ab _ _ _) hP
          have hD : va_D (gA g) (CW g ad rg hd (nF od) (nF tx) (nI td) sm pa pr fl op du qa ab ac qb be bc wd ++ ((oa, aJ g 1 ou) :: (MW g ma (nI 1) rg hd (nF oo) (nF kp) (nI td) (nF tx) ct fd os oq vs sk ++ []))) := wd_perm (pm_ab _ _ _) hD
          refine W.widen (k := cells + 1) (n := slots + 6) (by omega) (by omega) ?_
          exact kk H locs ls ⟨rg, hd, od, tx, td, sm, pa, pr, fl, op, du, qa, ab, ac, qb, be, bc, wd, ou, nI 1, oo, kp, ct, fd, os, oq, vs, sk, I9, hP, hD⟩ hS (lv_sub hl [1, 2, 3, 4, 5] rfl)
        · exact (by omega : False).elim
      · exact absurd c349 c387
    · refine lv_iconst (v := nI 1) hx hb d_LW_law_352 (by decide) ?_
      refine lv_goto (tgt := 357) hx hb d_LW_law_353 (by decide) ?_
      refine pc_T (As := [.ref (ad 0), .int x1, .int x2, .int x3, .int (nI 1)]) (rest := []) hx hb (hml.trans hl.1.symm) hown ht F hP hD hS (c1_LW_restrict l hl0 g ad oa rg hd (nF od) (nF tx) (nI td) sm pa pr fl op du qa ab ac qb be bc wd ou (MW g ma cd rg hd (nF oo) (nF kp) (nI td) (nF tx) ct fd os oq vs sk ++ []) x1 x2 x3 (nI 1) (by first | omega | exact q1 | exact q2 | exact q2.1 | exact q2.2 | exact q2.2.1 | exact q2.2.2 | exact I9.1.1 | exact I9.2.2.2.2 | exact I9.oo.1 | exact I9.oo | exact I9.2.2.2.1 | exact I9.2.2.1 | exact I9.2.2.2.2 _ (by omega) | exact (I9.2.2.2.2 _ (by omega)).resolve_right q2)) v_LW_restrict tw_274 ⟨rfl, rfl⟩ ⟨by decide, by decide⟩ rfl rfl (Nat.le_of_ble_eq_true rfl) ⟨hc1, hs1⟩ d_LW_law_357 (fun r9 u9 H locs hq hP hD hS => ?_)
      subst hq
      refine lv_istore (lv' := [(5, .int (nI 1)), (4, .int (nI i)), (0, .ref b), (1, .ref (ad 0)), (2, .ref (ma 0)), (3, .ref oa)]) hx hb d_LW_law_360 hl (by decide) rfl (fun ls hl => ?_)
      refine lv_aload_n hx hb d_LW_law_362 rfl (lv_at hl 4 rfl) ?_
      refine lv_aload_n hx hb d_LW_law_363 rfl (lv_at hl 2 rfl) ?_
      refine lv_iload hx hb d_LW_law_364 (lv_at hl 1 rfl) ?_
      refine lv_iconst (v := nI 1) hx hb d_LW_law_366 (by decide) ?_
      refine rn_add hx hb d_LW_law_367 ?_
      refine rl_s hx hb hX hbl hbA hS (by omega) (by omega) hx1 d_LW_law_368 ?_
      refine lv_aload_n hx hb d_LW_law_369 rfl (lv_at hl 2 rfl) ?_
      refine lv_iload hx hb d_LW_law_370 (lv_at hl 1 rfl) ?_
      refine lv_iconst (v := nI 2) hx hb d_LW_law_372 (by decide) ?_
      refine rn_add hx hb d_LW_law_373 ?_
      refine rl_s hx hb hX hbl hbA hS (by omega) (by omega) hx2 d_LW_law_374 ?_
      refine lv_aload_n hx hb d_LW_law_375 rfl (lv_at hl 2 rfl) ?_
      refine lv_iload hx hb d_LW_law_376 (lv_at hl 1 rfl) ?_
      refine lv_iconst (v := nI 3) hx hb d_LW_law_378 (by decide) ?_
      refine rn_add hx hb d_LW_law_379 ?_
      refine rl_s hx hb hX hbl hbA hS (by omega) (by omega) hx3 d_LW_law_380 ?_
      refine lv_aload_n hx hb d_LW_law_381 rfl (lv_at hl 2 rfl) ?_
      refine lv_iload hx hb d_LW_law_382 (lv_at hl 1 rfl) ?_
      refine lv_iconst (v := nI 4) hx hb d_LW_law_384 (by decide) ?_
      refine rn_add hx hb d_LW_law_385 ?_
      refine rl_s hx hb hX hbl hbA hS (by omega) (by omega) hx4 d_LW_law_386 ?_
      refine lv_if_eq (tgt := 394) hx hb d_LW_law_387 (by decide) (fun c387 => ?_) (fun c387 => ?_)
      · exact absurd c387 c349
      · refine lv_iconst (v := nI 1) hx hb d_LW_law_390 (by decide) ?_
        refine lv_goto (tgt := 395) hx hb d_LW_law_391 (by decide) ?_
        have hP : va_P g.1 cl (MW g ma cd rg hd (nF oo) (nF kp) (nI td) (nF tx) ct fd os oq vs sk ++ ((oa, aJ g 1 ou) :: (CW g ad rg hd (nF od) (nF tx) (nI td) sm pa pr fl op du qa ab ac qb be bc wd ++ []))) H := wp_perm (pm_ab _ _ _) hP
        have hD : va_D (gA g) (MW g ma cd rg hd (nF oo) (nF kp) (nI td) (nF tx) ct fd os oq vs sk ++ ((oa, aJ g 1 ou) :: (CW g ad rg hd (nF od) (nF tx) (nI td) sm pa pr fl op du qa ab ac qb be bc wd ++ []))) := wd_perm (pm_ab _ _ _) hD
        refine pc_Vv (q0 := 0) (As := [.int x1, .int x2, .int x3, .int (nI 1)]) (rest := []) hx hb (hml.trans hl.1.symm) hown ht F hP hD hS (c1_MD_restrict l g ma cd rg hd (nF oo) (nF kp) (nI td) (nF tx) ct fd os oq vs sk ((oa, aJ g 1 ou) :: (CW g ad rg hd (nF od) (nF tx) (nI td) sm pa pr fl op du qa ab ac qb be bc wd ++ [])) x1 x2 x3 (nI 1) (by first | omega | exact q1 | exact q2 | exact q2.1 | exact q2.2 | exact q2.2.1 | exact q2.2.2 | exact I9.1.1 | exact I9.2.2.2.2 | exact I9.oo.1 | exact I9.oo | exact I9.2.2.2.1 | exact I9.2.2.1 | exact I9.2.2.2.2 _ (by omega) | exact (I9.2.2.2.2 _ (by omega)).resolve_right q2)) v_MD_restrict tw_543 ⟨rfl, rfl⟩ ⟨by decide, by decide⟩ rfl rfl rfl rfl (Nat.le_of_ble_eq_true rfl) ⟨hc1, hs1⟩ d_LW_law_395 (fun u9 H locs hq hP hD hS => ?_)
        have hP : va_P g.1 cl (MW g ma (nI 1) rg hd (nF oo) (nF kp) (nI td) (nF tx) ct fd os oq vs sk ++ ((oa, aJ g 1 ou) :: (CW g ad rg hd (nF od) (nF tx) (nI td) sm pa pr fl op du qa ab ac qb be bc wd ++ []))) H := hP
        have hD : va_D (gA g) (MW g ma (nI 1) rg hd (nF oo) (nF kp) (nI td) (nF tx) ct fd os oq vs sk ++ ((oa, aJ g 1 ou) :: (CW g ad rg hd (nF od) (nF tx) (nI td) sm pa pr fl op du qa ab ac qb be bc wd ++ []))) := hD
        refine lv_aload_n hx hb d_LW_law_398 rfl (lv_at hl 4 rfl) ?_
        refine pc_Vi (q0 := 0) (As := []) (rest := []) hx hb (hml.trans hl.1.symm) hown ht F hP hD hS (c_MD_thrown l g ma (nI 1) rg hd (nF oo) (nF kp) (nI td) (nF tx) ct fd os oq vs sk ((oa, aJ g 1 ou) :: (CW g ad rg hd (nF od) (nF tx) (nI td) sm pa pr fl op du qa ab ac qb be bc wd ++ []))) v_MD_thrown tw_510 ⟨rfl, rfl⟩ ⟨by decide, by decide⟩ rfl rfl rfl rfl (Nat.le_of_ble_eq_true rfl) ⟨hc1, hs1⟩ d_LW_law_399 (fun r9 u9 H locs hq hP hD hS => ?_)
        subst hq
        refine lv_iload hx hb d_LW_law_402 (lv_at hl 0 rfl) ?_
        refine rc_eq (tgt := 409) hx hb (by omega) (by omega) d_LW_law_404 (by decide) (fun c404 => ?_) (fun c404 => ?_)
        · refine lv_goto (tgt := 1402) hx hb d_LW_law_409 (by decide) ?_
          have hP : va_P g.1 cl (CW g ad rg hd (nF od) (nF tx) (nI td) sm pa pr fl op du qa ab ac qb be bc wd ++ ((oa, aJ g 1 ou) :: (MW g ma (nI 1) rg hd (nF oo) (nF kp) (nI td) (nF tx) ct fd os oq vs sk ++ []))) H := wp_perm (pm_ab _ _ _) hP
          have hD : va_D (gA g) (CW g ad rg hd (nF od) (nF tx) (nI td) sm pa pr fl op du qa ab ac qb be bc wd ++ ((oa, aJ g 1 ou) :: (MW g ma (nI 1) rg hd (nF oo) (nF kp) (nI td) (nF tx) ct fd os oq vs sk ++ []))) := wd_perm (pm_ab _ _ _) hD
          refine W.widen (k := cells + 1) (n := slots + 6) (by omega) (by omega) ?_
          exact kk H locs ls ⟨rg, hd, od, tx, td, sm, pa, pr, fl, op, du, qa, ab, ac, qb, be, bc, wd, ou, nI 1, oo, kp, ct, fd, os, oq, vs, sk, I9, hP, hD⟩ hS (lv_sub hl [1, 2, 3, 4, 5] rfl)
        · exact (by omega : False).elim
set_option maxRecDepth 100000 in
set_option maxHeartbeats 4000000 in
theorem st_compose {p : Program} {l : Launch} {e : Env} {s : State} {m : MethodId} {below : List Frame} {meth : Method} {c : Code} (hl0 : l.stackTraces = false) {g : Gx} {ad ma : Nat → Nat} {oa b L i : Nat} {xs : Nat → Int32} {x1 x2 x3 x4 : Int32} (hx : p.tables.exec = Jvm.exec) (hb : c.code = b_LW_law) (hml : c.maxLocals = 7) (hown : s.vm.findClass "SiftedGraphsLaw" = some m.cls) (ht : ∀ w ∈ TW, w.before #[Value.ref b] s = true) (F : Fx g s) (hX : va_X b L xs s s.heap) (hbl : b < s.heap.size) (hbA : ¬ gA g b) (hL : L ≤ 2560) (hi : i + 4 < L) (hx1 : xs (i + 1) = x1) (hx2 : xs (i + 2) = x2) (hx3 : xs (i + 3) = x3) (hx4 : xs (i + 4) = x4) {rg : Nat → Int64} {hd : Nat → Int32} {od : Nat → Nat} {tx : Nat → Nat} {td : Nat} {sm : Nat → Int64} {pa : Nat → Int64} {pr : Nat → Int64} {fl : Nat → Int64} {op : Int32} {du : Int32} {qa : Nat} {ab : Nat → Int64} {ac : Int32} {qb : Nat} {be : Nat → Int64} {bc : Int32} {wd : Nat → Int32} {ou : Nat → Int64} {cd : Int32} {oo : Nat → Nat} {kp : Nat → Nat} {ct : Int32} {fd : Nat → Int64} {os : Int32} {oq : Nat → Int32} {vs : Int32} {sk : Nat → Int64} (I9 : INV od oo tx hd td) {H : Heap} {locs : List Loc} {ls : Array Slot} (hP : va_P g.1 cl (CW g ad rg hd (nF od) (nF tx) (nI td) sm pa pr fl op du qa ab ac qb be bc wd ++ ((oa, aJ g 1 ou) :: (MW g ma cd rg hd (nF oo) (nF kp) (nI td) (nF tx) ct fd os oq vs sk ++ []))) H) (hD : va_D (gA g) (CW g ad rg hd (nF od) (nF tx) (nI td) sm pa pr fl op du qa ab ac qb be bc wd ++ ((oa, aJ g 1 ou) :: (MW g ma cd rg hd (nF oo) (nF kp) (nI td) (nF tx) ct fd os oq vs sk ++ [])))) (hS : va_S (gA g) s.heap H locs) (hl : lv_has ls 7 [(4, .int (nI i)), (0, .ref b), (1, .ref (ad 0)), (2, .ref (ma 0)), (3, .ref oa)]) {cells slots : Nat} (hc1 : cells + 1 ≤ room_1.cells) (hs1 : slots + 6 ≤ room_1.slots) {Q : State → Prop}
    (kk : ∀ (H : Heap) (locs : List Loc) (ls : Array Slot), LST g ad ma oa H → va_S (gA g) s.heap H locs → lv_has ls 7 [(4, .int (nI i)), (0, .ref b), (1, .ref (ad 0)), (2, .ref (ma 0)), (3, .ref oa)] → W p l e room_1 s m #[Value.ref b] below meth c H locs (cells + 1) (slots + 6) Q (F0 m 1402 ls [])) : W p l e room_1 s m #[Value.ref b] below meth c H locs cells slots Q (F0 m 412 ls []) := by
  have hcA : cells ≤ room_1.cells := Nat.le_of_succ_le hc1
  have hsA : slots ≤ room_1.slots := Nat.le_trans (Nat.le_add_right _ _) hs1
  by_cases q1 : inR x1 8 ∧ inR x2 8 ∧ inR x3 6 ∧ inR x4 8
  · obtain ⟨⟨k1, g1, rfl⟩, ⟨k2, g2, rfl⟩, ⟨k3, g3, rfl⟩, ⟨k4, g4, rfl⟩⟩ := q1
    by_cases q2 : hd k2 = 1 ∧ hd k4 = 1
    · refine lv_aload_n hx hb d_LW_law_412 rfl (lv_at hl 2 rfl) ?_
      refine lv_aload_n hx hb d_LW_law_413 rfl (lv_at hl 1 rfl) ?_
      refine lv_iload hx hb d_LW_law_414 (lv_at hl 0 rfl) ?_
      refine lv_iconst (v := nI 1) hx hb d_LW_law_416 (by decide) ?_
      refine rn_add hx hb d_LW_law_417 ?_
      refine rl_s hx hb hX hbl hbA hS (by omega) (by omega) hx1 d_LW_law_418 ?_
      refine lv_aload_n hx hb d_LW_law_419 rfl (lv_at hl 1 rfl) ?_
      refine lv_iload hx hb d_LW_law_420 (lv_at hl 0 rfl) ?_
      refine lv_iconst (v := nI 2) hx hb d_LW_law_422 (by decide) ?_
      refine rn_add hx hb d_LW_law_423 ?_
      refine rl_s hx hb hX hbl hbA hS (by omega) (by omega) hx2 d_LW_law_424 ?_
      refine lv_aload_n hx hb d_LW_law_425 rfl (lv_at hl 1 rfl) ?_
      refine lv_iload hx hb d_LW_law_426 (lv_at hl 0 rfl) ?_
      refine lv_iconst (v := nI 3) hx hb d_LW_law_428 (by decide) ?_
      refine rn_add hx hb d_LW_law_429 ?_
      refine rl_s hx hb hX hbl hbA hS (by omega) (by omega) hx3 d_LW_law_430 ?_
      refine lv_aload_n hx hb d_LW_law_431 rfl (lv_at hl 1 rfl) ?_
      refine lv_iload hx hb d_LW_law_432 (lv_at hl 0 rfl) ?_
      refine lv_iconst (v := nI 4) hx hb d_LW_law_434 (by decide) ?_
      refine rn_add hx hb d_LW_law_435 ?_
      refine rl_s hx hb hX hbl hbA hS (by omega) (by omega) hx4 d_LW_law_436 ?_
      refine pc_T (As := [.ref (ad 0), .int (nI k1), .int (nI k2), .int (nI k3), .int (nI k4)]) (rest := []) hx hb (hml.trans hl.1.symm) hown ht F hP hD hS (c_LW_compose l g ad oa rg hd (nF od) (nF tx) (nI td) sm pa pr fl op du qa ab ac qb be bc wd ou (MW g ma cd rg hd (nF oo) (nF kp) (nI td) (nF tx) ct fd os oq vs sk ++ []) k1 k2 k3 k4 (by first | omega | exact q1 | exact q2 | exact q2.1 | exact q2.2 | exact q2.2.1 | exact q2.2.2 | exact I9.1.1 | exact I9.2.2.2.2 | exact I9.oo.1 | exact I9.oo | exact I9.2.2.2.1 | exact I9.2.2.1 | exact I9.2.2.2.2 _ (by omega) | exact (I9.2.2.2.2 _ (by omega)).resolve_right q2) (by first | omega | exact q1 | exact q2 | exact q2.1 | exact q2.2 | exact q2.2.1 | exact q2.2.2 | exact I9.1.1 | exact I9.2.2.2.2 | exact I9.oo.1 | exact I9.oo | exact I9.2.2.2.1 | exact I9.2.2.1 | exact I9.2.2.2.2 _ (by omega) | exact (I9.2.2.2.2 _ (by omega)).resolve_right q2) (by first | omega | exact q1 | exact q2 | exact q2.1 | exact q2.2 | exact q2.2.1 | exact q2.2.2 | exact I9.1.1 | exact I9.2.2.2.2 | exact I9.oo.1 | exact I9.oo | exact I9.2.2.2.1 | exact I9.2.2.1 | exact I9.2.2.2.2 _ (by omega) | exact (I9.2.2.2.2 _ (by omega)).resolve_right q2) (by first | omega | exact q1 | exact q2 | exact q2.1 | exact q2.2 | exact q2.2.1 | exact q2.2.2 | exact I9.1.1 | exact I9.2.2.2.2 | exact I9.oo.1 | exact I9.oo | exact I9.2.2.2.1 | exact I9.2.2.1 | exact I9.2.2.2.2 _ (by omega) | exact (I9.2.2.2.2 _ (by omega)).resolve_right q2) (by first | omega | exact q1 | exact q2 | exact q2.1 | exact q2.2 | exact q2.2.1 | exact q2.2.2 | exact I9.1.1 | exact I9.2.2.2.2 | exact I9.oo.1 | exact I9.oo | exact I9.2.2.2.1 | exact I9.2.2.1 | exact I9.2.2.2.2 _ (by omega) | exact (I9.2.2.2.2 _ (by omega)).resolve_right q2) (by first | omega | exact q1 | exact q2 | exact q2.1 | exact q2.2 | exact q2.2.1 | exact q2.2.2 | exact I9.1.1 | exact I9.2.2.2.2 | exact I9.oo.1 | exact I9.oo | exact I9.2.2.2.1 | exact I9.2.2.1 | exact I9.2.2.2.2 _ (by omega) | exact (I9.2.2.2.2 _ (by omega)).resolve_right q2)) v_LW_compose tw_283 ⟨rfl, rfl⟩ ⟨by decide, by decide⟩ rfl rfl (Nat.le_of_ble_eq_true rfl) ⟨hcA, hsA⟩ d_LW_law_437 (fun r9 u9 H locs hq hP hD hS => ?_)
      subst hq
      have hP : va_P g.1 cl (CW g ad (vp_updL rg k1 (CH (rg k4) (W1 (rg k2) k3) (W0 (rg k2) k3))) (upd hd k1 (nI 1)) (nF od) (nF tx) (nI td) sm pa pr fl op du qa ab ac qb be bc wd ++ ((oa, aJ g 1 ou) :: (MW g ma cd rg hd (nF oo) (nF kp) (nI td) (nF tx) ct fd os oq vs sk ++ []))) H := hP
      have hD : va_D (gA g) (CW g ad (vp_updL rg k1 (CH (rg k4) (W1 (rg k2) k3) (W0 (rg k2) k3))) (upd hd k1 (nI 1)) (nF od) (nF tx) (nI td) sm pa pr fl op du qa ab ac qb be bc wd ++ ((oa, aJ g 1 ou) :: (MW g ma cd rg hd (nF oo) (nF kp) (nI td) (nF tx) ct fd os oq vs sk ++ []))) := hD
      refine lv_istore (lv' := [(5, .int (nI 0)), (4, .int (nI i)), (0, .ref b), (1, .ref (ad 0)), (2, .ref (ma 0)), (3, .ref oa)]) hx hb d_LW_law_440 hl (by decide) rfl (fun ls hl => ?_)
      refine lv_aload_n hx hb d_LW_law_442 rfl (lv_at hl 4 rfl) ?_
      refine lv_aload_n hx hb d_LW_law_443 rfl (lv_at hl 2 rfl) ?_
      refine lv_iload hx hb d_LW_law_444 (lv_at hl 1 rfl) ?_
      refine lv_iconst (v := nI 1) hx hb d_LW_law_446 (by decide) ?_
      refine rn_add hx hb d_LW_law_447 ?_
      refine rl_s hx hb hX hbl hbA hS (by omega) (by omega) hx1 d_LW_law_448 ?_
      refine lv_aload_n hx hb d_LW_law_449 rfl (lv_at hl 2 rfl) ?_
      refine lv_iload hx hb d_LW_law_450 (lv_at hl 1 rfl) ?_
      refine lv_iconst (v := nI 2) hx hb d_LW_law_452 (by decide) ?_
      refine rn_add hx hb d_LW_law_453 ?_
      refine rl_s hx hb hX hbl hbA hS (by omega) (by omega) hx2 d_LW_law_454 ?_
      refine lv_aload_n hx hb d_LW_law_455 rfl (lv_at hl 2 rfl) ?_
      refine lv_iload hx hb d_LW_law_456 (lv_at hl 1 rfl) ?_
      refine lv_iconst (v := nI 3) hx hb d_LW_law_458 (by decide) ?_
      refine rn_add hx hb d_LW_law_459 ?_
      refine rl_s hx hb hX hbl hbA hS (by omega) (by omega) hx3 d_LW_law_460 ?_
      refine lv_aload_n hx hb d_LW_law_461 rfl (lv_at hl 2 rfl) ?_
      refine lv_iload hx hb d_LW_law_462 (lv_at hl 1 rfl) ?_
      refine lv_iconst (v := nI 4) hx hb d_LW_law_464 (by decide) ?_
      refine rn_add hx hb d_LW_law_465 ?_
      refine rl_s hx hb hX hbl hbA hS (by omega) (by omega) hx4 d_LW_law_466 ?_
      have hP : va_P g.1 cl (MW g ma cd rg hd (nF oo) (nF kp) (nI td) (nF tx) ct fd os oq vs sk ++ ((oa, aJ g 1 ou) :: (CW g ad (vp_updL rg k1 (CH (rg k4) (W1 (rg k2) k3) (W0 (rg k2) k3))) (upd hd k1 (nI 1)) (nF od) (nF tx) (nI td) sm pa pr fl op du qa ab ac qb be bc wd ++ []))) H := wp_perm (pm_ab _ _ _) hP
      have hD : va_D (gA g) (MW g ma cd rg hd (nF oo) (nF kp) (nI td) (nF tx) ct fd os oq vs sk ++ ((oa, aJ g 1 ou) :: (CW g ad (vp_updL rg k1 (CH (rg k4) (W1 (rg k2) k3) (W0 (rg k2) k3))) (upd hd k1 (nI 1)) (nF od) (nF tx) (nI td) sm pa pr fl op du qa ab ac qb be bc wd ++ []))) := wd_perm (pm_ab _ _ _) hD
      refine pc_Vv (q0 := 0) (As := [.int (nI k1), .int (nI k2), .int (nI k3), .int (nI k4)]) (rest := []) hx hb (hml.trans hl.1.symm) hown ht F hP hD hS (c_MD_compose l g ma cd rg hd (nF oo) (nF kp) (nI td) (nF tx) ct fd os oq vs sk ((oa, aJ g 1 ou) :: (CW g ad (vp_updL rg k1 (CH (rg k4) (W1 (rg k2) k3) (W0 (rg k2) k3))) (upd hd k1 (nI 1)) (nF od) (nF tx) (nI td) sm pa pr fl op du qa ab ac qb be bc wd ++ [])) k1 k2 k3 k4 (by first | omega | exact q1 | exact q2 | exact q2.1 | exact q2.2 | exact q2.2.1 | exact q2.2.2 | exact I9.1.1 | exact I9.2.2.2.2 | exact I9.oo.1 | exact I9.oo | exact I9.2.2.2.1 | exact I9.2.2.1 | exact I9.2.2.2.2 _ (by omega) | exact (I9.2.2.2.2 _ (by omega)).resolve_right q2) (by first | omega | exact q1 | exact q2 | exact q2.1 | exact q2.2 | exact q2.2.1 | exact q2.2.2 | exact I9.1.1 | exact I9.2.2.2.2 | exact I9.oo.1 | exact I9.oo | exact I9.2.2.2.1 | exact I9.2.2.1 | exact I9.2.2.2.2 _ (by omega) | exact (I9.2.2.2.2 _ (by omega)).resolve_right q2) (by first | omega | exact q1 | exact q2 | exact q2.1 | exact q2.2 | exact q2.2.1 | exact q2.2.2 | exact I9.1.1 | exact I9.2.2.2.2 | exact I9.oo.1 | exact I9.oo | exact I9.2.2.2.1 | exact I9.2.2.1 | exact I9.2.2.2.2 _ (by omega) | exact (I9.2.2.2.2 _ (by omega)).resolve_right q2) (by first | omega | exact q1 | exact q2 | exact q2.1 | exact q2.2 | exact q2.2.1 | exact q2.2.2 | exact I9.1.1 | exact I9.2.2.2.2 | exact I9.oo.1 | exact I9.oo | exact I9.2.2.2.1 | exact I9.2.2.1 | exact I9.2.2.2.2 _ (by omega) | exact (I9.2.2.2.2 _ (by omega)).resolve_right q2) (by first | omega | exact q1 | exact q2 | exact q2.1 | exact q2.2 | exact q2.2.1 | exact q2.2.2 | exact I9.1.1 | exact I9.2.2.2.2 | exact I9.oo.1 | exact I9.oo | exact I9.2.2.2.1 | exact I9.2.2.1 | exact I9.2.2.2.2 _ (by omega) | exact (I9.2.2.2.2 _ (by omega)).resolve_right q2) (by first | omega | exact q1 | exact q2 | exact q2.1 | exact q2.2 | exact q2.2.1 | exact q2.2.2 | exact I9.1.1 | exact I9.2.2.2.2 | exact I9.oo.1 | exact I9.oo | exact I9.2.2.2.1 | exact I9.2.2.1 | exact I9.2.2.2.2 _ (by omega) | exact (I9.2.2.2.2 _ (by omega)).resolve_right q2)) v_MD_compose tw_550 ⟨rfl, rfl⟩ ⟨by decide, by decide⟩ rfl rfl rfl rfl (Nat.le_of_ble_eq_true rfl) ⟨hcA, hsA⟩ d_LW_law_467 (fun u9 H locs hq hP hD hS => ?_)
      have hP : va_P g.1 cl (MW g ma (nI 0) (vp_updL rg k1 (CH (rg k4) (W1 (rg k2) k3) (W0 (rg k2) k3))) (upd hd k1 (nI 1)) (nF oo) (nF kp) (nI td) (nF tx) ct fd os oq vs sk ++ ((oa, aJ g 1 ou) :: (CW g ad (vp_updL rg k1 (CH (rg k4) (W1 (rg k2) k3) (W0 (rg k2) k3))) (upd hd k1 (nI 1)) (nF od) (nF tx) (nI td) sm pa pr fl op du qa ab ac qb be bc wd ++ []))) H := hP
      have hD : va_D (gA g) (MW g ma (nI 0) (vp_updL rg k1 (CH (rg k4) (W1 (rg k2) k3) (W0 (rg k2) k3))) (upd hd k1 (nI 1)) (nF oo) (nF kp) (nI td) (nF tx) ct fd os oq vs sk ++ ((oa, aJ g 1 ou) :: (CW g ad (vp_updL rg k1 (CH (rg k4) (W1 (rg k2) k3) (W0 (rg k2) k3))) (upd hd k1 (nI 1)) (nF od) (nF tx) (nI td) sm pa pr fl op du qa ab ac qb be bc wd ++ []))) := hD
      refine lv_aload_n hx hb d_LW_law_470 rfl (lv_at hl 4 rfl) ?_
      refine pc_Vi (q0 := 0) (As := []) (rest := []) hx hb (hml.trans hl.1.symm) hown ht F hP hD hS (c_MD_thrown l g ma (nI 0) (vp_updL rg k1 (CH (rg k4) (W1 (rg k2) k3) (W0 (rg k2) k3))) (upd hd k1 (nI 1)) (nF oo) (nF kp) (nI td) (nF tx) ct fd os oq vs sk ((oa, aJ g 1 ou) :: (CW g ad (vp_updL rg k1 (CH (rg k4) (W1 (rg k2) k3) (W0 (rg k2) k3))) (upd hd k1 (nI 1)) (nF od) (nF tx) (nI td) sm pa pr fl op du qa ab ac qb be bc wd ++ []))) v_MD_thrown tw_510 ⟨rfl, rfl⟩ ⟨by decide, by decide⟩ rfl rfl rfl rfl (Nat.le_of_ble_eq_true rfl) ⟨hcA, hsA⟩ d_LW_law_471 (fun r9 u9 H locs hq hP hD hS => ?_)
      subst hq
      refine lv_iload hx hb d_LW_law_474 (lv_at hl 0 rfl) ?_
      refine rc_eq (tgt := 481) hx hb (by omega) (by omega) d_LW_law_476 (by decide) (fun c476 => ?_) (fun c476 => ?_)
      · refine lv_goto (tgt := 1402) hx hb d_LW_law_481 (by decide) ?_
        have hP : va_P g.1 cl (CW g ad (vp_updL rg k1 (CH (rg k4) (W1 (rg k2) k3) (W0 (rg k2) k3))) (upd hd k1 (nI 1)) (nF od) (nF tx) (nI td) sm pa pr fl op du qa ab ac qb be bc wd ++ ((oa, aJ g 1 ou) :: (MW g ma (nI 0) (vp_updL rg k1 (CH (rg k4) (W1 (rg k2) k3) (W0 (rg k2) k3))) (upd hd k1 (nI 1)) (nF oo) (nF kp) (nI td) (nF tx) ct fd os oq vs sk ++ []))) H := wp_perm (pm_ab _ _ _) hP
        have hD : va_D (gA g) (CW g ad (vp_updL rg k1 (CH (rg k4) (W1 (rg k2) k3) (W0 (rg k2) k3))) (upd hd k1 (nI 1)) (nF od) (nF tx) (nI td) sm pa pr fl op du qa ab ac qb be bc wd ++ ((oa, aJ g 1 ou) :: (MW g ma (nI 0) (vp_updL rg k1 (CH (rg k4) (W1 (rg k2) k3) (W0 (rg k2) k3))) (upd hd k1 (nI 1)) (nF oo) (nF kp) (nI td) (nF tx) ct fd os oq vs sk ++ []))) := wd_perm (pm_ab _ _ _) hD
        refine W.widen (k := cells + 1) (n := slots + 6) (by omega) (by omega) ?_
        exact kk H locs ls ⟨vp_updL rg k1 (CH (rg k4) (W1 (rg k2) k3) (W0 (rg k2) k3)), upd hd k1 (nI 1), od, tx, td, sm, pa, pr, fl, op, du, qa, ab, ac, qb, be, bc, wd, ou, nI 0, oo, kp, ct, fd, os, oq, vs, sk, (I9.put _), hP, hD⟩ hS (lv_sub hl [1, 2, 3, 4, 5] rfl)
      · exact (by omega : False).elim
    · refine lv_aload_n hx hb d_LW_law_412 rfl (lv_at hl 2 rfl) ?_
      refine lv_aload_n hx hb d_LW_law_413 rfl (lv_at hl 1 rfl) ?_
      refine lv_iload hx hb d_LW_law_414 (lv_at hl 0 rfl) ?_
      refine lv_iconst (v := nI 1) hx hb d_LW_law_416 (by decide) ?_
      refine rn_add hx hb d_LW_law_417 ?_
      refine rl_s hx hb hX hbl hbA hS (by omega) (by omega) hx1 d_LW_law_418 ?_
      refine lv_aload_n hx hb d_LW_law_419 rfl (lv_at hl 1 rfl) ?_
      refine lv_iload hx hb d_LW_law_420 (lv_at hl 0 rfl) ?_
      refine lv_iconst (v := nI 2) hx hb d_LW_law_422 (by decide) ?_
      refine rn_add hx hb d_LW_law_423 ?_
      refine rl_s hx hb hX hbl hbA hS (by omega) (by omega) hx2 d_LW_law_424 ?_
      refine lv_aload_n hx hb d_LW_law_425 rfl (lv_at hl 1 rfl) ?_
      refine lv_iload hx hb d_LW_law_426 (lv_at hl 0 rfl) ?_
      refine lv_iconst (v := nI 3) hx hb d_LW_law_428 (by decide) ?_
      refine rn_add hx hb d_LW_law_429 ?_
      refine rl_s hx hb hX hbl hbA hS (by omega) (by omega) hx3 d_LW_law_430 ?_
      refine lv_aload_n hx hb d_LW_law_431 rfl (lv_at hl 1 rfl) ?_
      refine lv_iload hx hb d_LW_law_432 (lv_at hl 0 rfl) ?_
      refine lv_iconst (v := nI 4) hx hb d_LW_law_434 (by decide) ?_
      refine rn_add hx hb d_LW_law_435 ?_
      refine rl_s hx hb hX hbl hbA hS (by omega) (by omega) hx4 d_LW_law_436 ?_
      refine pc_T (As := [.ref (ad 0), .int (nI k1), .int (nI k2), .int (nI k3), .int (nI k4)]) (rest := []) hx hb (hml.trans hl.1.symm) hown ht F hP hD hS (c2_LW_compose l hl0 g ad oa rg hd (nF od) (nF tx) (nI td) sm pa pr fl op du qa ab ac qb be bc wd ou (MW g ma cd rg hd (nF oo) (nF kp) (nI td) (nF tx) ct fd os oq vs sk ++ []) k1 k2 k3 k4 (by first | omega | exact q1 | exact q2 | exact q2.1 | exact q2.2 | exact q2.2.1 | exact q2.2.2 | exact I9.1.1 | exact I9.2.2.2.2 | exact I9.oo.1 | exact I9.oo | exact I9.2.2.2.1 | exact I9.2.2.1 | exact I9.2.2.2.2 _ (by omega) | exact (I9.2.2.2.2 _ (by omega)).resolve_right q2) (by first | omega | exact q1 | exact q2 | exact q2.1 | exact q2.2 | exact q2.2.1 | exact q2.2.2 | exact I9.1.1 | exact I9.2.2.2.2 | exact I9.oo.1 | exact I9.oo | exact I9.2.2.2.1 | exact I9.2.2.1 | exact I9.2.2.2.2 _ (by omega) | exact (I9.2.2.2.2 _ (by omega)).resolve_right q2) (by first | omega | exact q1 | exact q2 | exact q2.1 | exact q2.2 | exact q2.2.1 | exact q2.2.2 | exact I9.1.1 | exact I9.2.2.2.2 | exact I9.oo.1 | exact I9.oo | exact I9.2.2.2.1 | exact I9.2.2.1 | exact I9.2.2.2.2 _ (by omega) | exact (I9.2.2.2.2 _ (by omega)).resolve_right q2) (by first | omega | exact q1 | exact q2 | exact q2.1 | exact q2.2 | exact q2.2.1 | exact q2.2.2 | exact I9.1.1 | exact I9.2.2.2.2 | exact I9.oo.1 | exact I9.oo | exact I9.2.2.2.1 | exact I9.2.2.1 | exact I9.2.2.2.2 _ (by omega) | exact (I9.2.2.2.2 _ (by omega)).resolve_right q2) (by first | omega | exact q1 | exact q2 | exact q2.1 | exact q2.2 | exact q2.2.1 | exact q2.2.2 | exact I9.1.1 | exact I9.2.2.2.2 | exact I9.oo.1 | exact I9.oo | exact I9.2.2.2.1 | exact I9.2.2.1 | exact I9.2.2.2.2 _ (by omega) | exact (I9.2.2.2.2 _ (by omega)).resolve_right q2) (by first | omega | exact q1 | exact q2 | exact q2.1 | exact q2.2 | exact q2.2.1 | exact q2.2.2 | exact I9.1.1 | exact I9.2.2.2.2 | exact I9.oo.1 | exact I9.oo | exact I9.2.2.2.1 | exact I9.2.2.1 | exact I9.2.2.2.2 _ (by omega) | exact (I9.2.2.2.2 _ (by omega)).resolve_right q2)) v_LW_compose tw_283 ⟨rfl, rfl⟩ ⟨by decide, by decide⟩ rfl rfl (Nat.le_of_ble_eq_true rfl) ⟨hc1, hs1⟩ d_LW_law_437 (fun r9 u9 H locs hq hP hD hS => ?_)
      subst hq
      refine lv_istore (lv' := [(5, .int (nI 2)), (4, .int (nI i)), (0, .ref b), (1, .ref (ad 0)), (2, .ref (ma 0)), (3, .ref oa)]) hx hb d_LW_law_440 hl (by decide) rfl (fun ls hl => ?_)
      refine lv_aload_n hx hb d_LW_law_442 rfl (lv_at hl 4 rfl) ?_
      refine lv_aload_n hx hb d_LW_law_443 rfl (lv_at hl 2 rfl) ?_
      refine lv_iload hx hb d_LW_law_444 (lv_at hl 1 rfl) ?_
      refine lv_iconst (v := nI 1) hx hb d_LW_law_446 (by decide) ?_
      refine rn_add hx hb d_LW_law_447 ?_
      refine rl_s hx hb hX hbl hbA hS (by omega) (by omega) hx1 d_LW_law_448 ?_
      refine lv_aload_n hx hb d_LW_law_449 rfl (lv_at hl 2 rfl) ?_
      refine lv_iload hx hb d_LW_law_450 (lv_at hl 1 rfl) ?_
      refine lv_iconst (v := nI 2) hx hb d_LW_law_452 (by decide) ?_
      refine rn_add hx hb d_LW_law_453 ?_
      refine rl_s hx hb hX hbl hbA hS (by omega) (by omega) hx2 d_LW_law_454 ?_
      refine lv_aload_n hx hb d_LW_law_455 rfl (lv_at hl 2 rfl) ?_
      refine lv_iload hx hb d_LW_law_456 (lv_at hl 1 rfl) ?_
      refine lv_iconst (v := nI 3) hx hb d_LW_law_458 (by decide) ?_
      refine rn_add hx hb d_LW_law_459 ?_
      refine rl_s hx hb hX hbl hbA hS (by omega) (by omega) hx3 d_LW_law_460 ?_
      refine lv_aload_n hx hb d_LW_law_461 rfl (lv_at hl 2 rfl) ?_
      refine lv_iload hx hb d_LW_law_462 (lv_at hl 1 rfl) ?_
      refine lv_iconst (v := nI 4) hx hb d_LW_law_464 (by decide) ?_
      refine rn_add hx hb d_LW_law_465 ?_
      refine rl_s hx hb hX hbl hbA hS (by omega) (by omega) hx4 d_LW_law_466 ?_
      have hP : va_P g.1 cl (MW g ma cd rg hd (nF oo) (nF kp) (nI td) (nF tx) ct fd os oq vs sk ++ ((oa, aJ g 1 ou) :: (CW g ad rg hd (nF od) (nF tx) (nI td) sm pa pr fl op du qa ab ac qb be bc wd ++ []))) H := wp_perm (pm_ab _ _ _) hP
      have hD : va_D (gA g) (MW g ma cd rg hd (nF oo) (nF kp) (nI td) (nF tx) ct fd os oq vs sk ++ ((oa, aJ g 1 ou) :: (CW g ad rg hd (nF od) (nF tx) (nI td) sm pa pr fl op du qa ab ac qb be bc wd ++ []))) := wd_perm (pm_ab _ _ _) hD
      refine pc_Vv (q0 := 0) (As := [.int (nI k1), .int (nI k2), .int (nI k3), .int (nI k4)]) (rest := []) hx hb (hml.trans hl.1.symm) hown ht F hP hD hS (c2_MD_compose l g ma cd rg hd (nF oo) (nF kp) (nI td) (nF tx) ct fd os oq vs sk ((oa, aJ g 1 ou) :: (CW g ad rg hd (nF od) (nF tx) (nI td) sm pa pr fl op du qa ab ac qb be bc wd ++ [])) k1 k2 k3 k4 (by first | omega | exact q1 | exact q2 | exact q2.1 | exact q2.2 | exact q2.2.1 | exact q2.2.2 | exact I9.1.1 | exact I9.2.2.2.2 | exact I9.oo.1 | exact I9.oo | exact I9.2.2.2.1 | exact I9.2.2.1 | exact I9.2.2.2.2 _ (by omega) | exact (I9.2.2.2.2 _ (by omega)).resolve_right q2) (by first | omega | exact q1 | exact q2 | exact q2.1 | exact q2.2 | exact q2.2.1 | exact q2.2.2 | exact I9.1.1 | exact I9.2.2.2.2 | exact I9.oo.1 | exact I9.oo | exact I9.2.2.2.1 | exact I9.2.2.1 | exact I9.2.2.2.2 _ (by omega) | exact (I9.2.2.2.2 _ (by omega)).resolve_right q2) (by first | omega | exact q1 | exact q2 | exact q2.1 | exact q2.2 | exact q2.2.1 | exact q2.2.2 | exact I9.1.1 | exact I9.2.2.2.2 | exact I9.oo.1 | exact I9.oo | exact I9.2.2.2.1 | exact I9.2.2.1 | exact I9.2.2.2.2 _ (by omega) | exact (I9.2.2.2.2 _ (by omega)).resolve_right q2) (by first | omega | exact q1 | exact q2 | exact q2.1 | exact q2.2 | exact q2.2.1 | exact q2.2.2 | exact I9.1.1 | exact I9.2.2.2.2 | exact I9.oo.1 | exact I9.oo | exact I9.2.2.2.1 | exact I9.2.2.1 | exact I9.2.2.2.2 _ (by omega) | exact (I9.2.2.2.2 _ (by omega)).resolve_right q2) (by first | omega | exact q1 | exact q2 | exact q2.1 | exact q2.2 | exact q2.2.1 | exact q2.2.2 | exact I9.1.1 | exact I9.2.2.2.2 | exact I9.oo.1 | exact I9.oo | exact I9.2.2.2.1 | exact I9.2.2.1 | exact I9.2.2.2.2 _ (by omega) | exact (I9.2.2.2.2 _ (by omega)).resolve_right q2) (by first | omega | exact q1 | exact q2 | exact q2.1 | exact q2.2 | exact q2.2.1 | exact q2.2.2 | exact I9.1.1 | exact I9.2.2.2.2 | exact I9.oo.1 | exact I9.oo | exact I9.2.2.2.1 | exact I9.2.2.1 | exact I9.2.2.2.2 _ (by omega) | exact (I9.2.2.2.2 _ (by omega)).resolve_right q2)) v_MD_compose tw_550 ⟨rfl, rfl⟩ ⟨by decide, by decide⟩ rfl rfl rfl rfl (Nat.le_of_ble_eq_true rfl) ⟨hc1, hs1⟩ d_LW_law_467 (fun u9 H locs hq hP hD hS => ?_)
      have hP : va_P g.1 cl (MW g ma (nI 2) rg hd (nF oo) (nF kp) (nI td) (nF tx) ct fd os oq vs sk ++ ((oa, aJ g 1 ou) :: (CW g ad rg hd (nF od) (nF tx) (nI td) sm pa pr fl op du qa ab ac qb be bc wd ++ []))) H := hP
      have hD : va_D (gA g) (MW g ma (nI 2) rg hd (nF oo) (nF kp) (nI td) (nF tx) ct fd os oq vs sk ++ ((oa, aJ g 1 ou) :: (CW g ad rg hd (nF od) (nF tx) (nI td) sm pa pr fl op du qa ab ac qb be bc wd ++ []))) := hD
      refine lv_aload_n hx hb d_LW_law_470 rfl (lv_at hl 4 rfl) ?_
      refine pc_Vi (q0 := 0) (As := []) (rest := []) hx hb (hml.trans hl.1.symm) hown ht F hP hD hS (c_MD_thrown l g ma (nI 2) rg hd (nF oo) (nF kp) (nI td) (nF tx) ct fd os oq vs sk ((oa, aJ g 1 ou) :: (CW g ad rg hd (nF od) (nF tx) (nI td) sm pa pr fl op du qa ab ac qb be bc wd ++ []))) v_MD_thrown tw_510 ⟨rfl, rfl⟩ ⟨by decide, by decide⟩ rfl rfl rfl rfl (Nat.le_of_ble_eq_true rfl) ⟨hc1, hs1⟩ d_LW_law_471 (fun r9 u9 H locs hq hP hD hS => ?_)
      subst hq
      refine lv_iload hx hb d_LW_law_474 (lv_at hl 0 rfl) ?_
      refine rc_eq (tgt := 481) hx hb (by omega) (by omega) d_LW_law_476 (by decide) (fun c476 => ?_) (fun c476 => ?_)
      · refine lv_goto (tgt := 1402) hx hb d_LW_law_481 (by decide) ?_
        have hP : va_P g.1 cl (CW g ad rg hd (nF od) (nF tx) (nI td) sm pa pr fl op du qa ab ac qb be bc wd ++ ((oa, aJ g 1 ou) :: (MW g ma (nI 2) rg hd (nF oo) (nF kp) (nI td) (nF tx) ct fd os oq vs sk ++ []))) H := wp_perm (pm_ab _ _ _) hP
        have hD : va_D (gA g) (CW g ad rg hd (nF od) (nF tx) (nI td) sm pa pr fl op du qa ab ac qb be bc wd ++ ((oa, aJ g 1 ou) :: (MW g ma (nI 2) rg hd (nF oo) (nF kp) (nI td) (nF tx) ct fd os oq vs sk ++ []))) := wd_perm (pm_ab _ _ _) hD
        refine W.widen (k := cells + 1) (n := slots + 6) (by omega) (by omega) ?_
        exact kk H locs ls ⟨rg, hd, od, tx, td, sm, pa, pr, fl, op, du, qa, ab, ac, qb, be, bc, wd, ou, nI 2, oo, kp, ct, fd, os, oq, vs, sk, I9, hP, hD⟩ hS (lv_sub hl [1, 2, 3, 4, 5] rfl)
      · exact (by omega : False).elim
  · refine lv_aload_n hx hb d_LW_law_412 rfl (lv_at hl 2 rfl) ?_
    refine lv_aload_n hx hb d_LW_law_413 rfl (lv_at hl 1 rfl) ?_
    refine lv_iload hx hb d_LW_law_414 (lv_at hl 0 rfl) ?_
    refine lv_iconst (v := nI 1) hx hb d_LW_law_416 (by decide) ?_
    refine rn_add hx hb d_LW_law_417 ?_
    refine rl_s hx hb hX hbl hbA hS (by omega) (by omega) hx1 d_LW_law_418 ?_
    refine lv_aload_n hx hb d_LW_law_419 rfl (lv_at hl 1 rfl) ?_
    refine lv_iload hx hb d_LW_law_420 (lv_at hl 0 rfl) ?_
    refine lv_iconst (v := nI 2) hx hb d_LW_law_422 (by decide) ?_
    refine rn_add hx hb d_LW_law_423 ?_
    refine rl_s hx hb hX hbl hbA hS (by omega) (by omega) hx2 d_LW_law_424 ?_
    refine lv_aload_n hx hb d_LW_law_425 rfl (lv_at hl 1 rfl) ?_
    refine lv_iload hx hb d_LW_law_426 (lv_at hl 0 rfl) ?_
    refine lv_iconst (v := nI 3) hx hb d_LW_law_428 (by decide) ?_
    refine rn_add hx hb d_LW_law_429 ?_
    refine rl_s hx hb hX hbl hbA hS (by omega) (by omega) hx3 d_LW_law_430 ?_
    refine lv_aload_n hx hb d_LW_law_431 rfl (lv_at hl 1 rfl) ?_
    refine lv_iload hx hb d_LW_law_432 (lv_at hl 0 rfl) ?_
    refine lv_iconst (v := nI 4) hx hb d_LW_law_434 (by decide) ?_
    refine rn_add hx hb d_LW_law_435 ?_
    refine rl_s hx hb hX hbl hbA hS (by omega) (by omega) hx4 d_LW_law_436 ?_
    refine pc_T (As := [.ref (ad 0), .int x1, .int x2, .int x3, .int x4]) (rest := []) hx hb (hml.trans hl.1.symm) hown ht F hP hD hS (c1_LW_compose l hl0 g ad oa rg hd (nF od) (nF tx) (nI td) sm pa pr fl op du qa ab ac qb be bc wd ou (MW g ma cd rg hd (nF oo) (nF kp) (nI td) (nF tx) ct fd os oq vs sk ++ []) x1 x2 x3 x4 (by first | omega | exact q1 | exact q2 | exact q2.1 | exact q2.2 | exact q2.2.1 | exact q2.2.2 | exact I9.1.1 | exact I9.2.2.2.2 | exact I9.oo.1 | exact I9.oo | exact I9.2.2.2.1 | exact I9.2.2.1 | exact I9.2.2.2.2 _ (by omega) | exact (I9.2.2.2.2 _ (by omega)).resolve_right q2)) v_LW_compose tw_283 ⟨rfl, rfl⟩ ⟨by decide, by decide⟩ rfl rfl (Nat.le_of_ble_eq_true rfl) ⟨hc1, hs1⟩ d_LW_law_437 (fun r9 u9 H locs hq hP hD hS => ?_)
    subst hq
    refine lv_istore (lv' := [(5, .int (nI 1)), (4, .int (nI i)), (0, .ref b), (1, .ref (ad 0)), (2, .ref (ma 0)), (3, .ref oa)]) hx hb d_LW_law_440 hl (by decide) rfl (fun ls hl => ?_)
    refine lv_aload_n hx hb d_LW_law_442 rfl (lv_at hl 4 rfl) ?_
    refine lv_aload_n hx hb d_LW_law_443 rfl (lv_at hl 2 rfl) ?_
    refine lv_iload hx hb d_LW_law_444 (lv_at hl 1 rfl) ?_
    refine lv_iconst (v := nI 1) hx hb d_LW_law_446 (by decide) ?_
    refine rn_add hx hb d_LW_law_447 ?_
    refine rl_s hx hb hX hbl hbA hS (by omega) (by omega) hx1 d_LW_law_448 ?_
    refine lv_aload_n hx hb d_LW_law_449 rfl (lv_at hl 2 rfl) ?_
    refine lv_iload hx hb d_LW_law_450 (lv_at hl 1 rfl) ?_
    refine lv_iconst (v := nI 2) hx hb d_LW_law_452 (by decide) ?_
    refine rn_add hx hb d_LW_law_453 ?_
    refine rl_s hx hb hX hbl hbA hS (by omega) (by omega) hx2 d_LW_law_454 ?_
    refine lv_aload_n hx hb d_LW_law_455 rfl (lv_at hl 2 rfl) ?_
    refine lv_iload hx hb d_LW_law_456 (lv_at hl 1 rfl) ?_
    refine lv_iconst (v := nI 3) hx hb d_LW_law_458 (by decide) ?_
    refine rn_add hx hb d_LW_law_459 ?_
    refine rl_s hx hb hX hbl hbA hS (by omega) (by omega) hx3 d_LW_law_460 ?_
    refine lv_aload_n hx hb d_LW_law_461 rfl (lv_at hl 2 rfl) ?_
    refine lv_iload hx hb d_LW_law_462 (lv_at hl 1 rfl) ?_
    refine lv_iconst (v := nI 4) hx hb d_LW_law_464 (by decide) ?_
    refine rn_add hx hb d_LW_law_465 ?_
    refine rl_s hx hb hX hbl hbA hS (by omega) (by omega) hx4 d_LW_law_466 ?_
    have hP : va_P g.1 cl (MW g ma cd rg hd (nF oo) (nF kp) (nI td) (nF tx) ct fd os oq vs sk ++ ((oa, aJ g 1 ou) :: (CW g ad rg hd (nF od) (nF tx) (nI td) sm pa pr fl op du qa ab ac qb be bc wd ++ []))) H := wp_perm (pm_ab _ _ _) hP
    have hD : va_D (gA g) (MW g ma cd rg hd (nF oo) (nF kp) (nI td) (nF tx) ct fd os oq vs sk ++ ((oa, aJ g 1 ou) :: (CW g ad rg hd (nF od) (nF tx) (nI td) sm pa pr fl op du qa ab ac qb be bc wd ++ []))) := wd_perm (pm_ab _ _ _) hD
    refine pc_Vv (q0 := 0) (As := [.int x1, .int x2, .int x3, .int x4]) (rest := []) hx hb (hml.trans hl.1.symm) hown ht F hP hD hS (c1_MD_compose l g ma cd rg hd (nF oo) (nF kp) (nI td) (nF tx) ct fd os oq vs sk ((oa, aJ g 1 ou) :: (CW g ad rg hd (nF od) (nF tx) (nI td) sm pa pr fl op du qa ab ac qb be bc wd ++ [])) x1 x2 x3 x4 (by first | omega | exact q1 | exact q2 | exact q2.1 | exact q2.2 | exact q2.2.1 | exact q2.2.2 | exact I9.1.1 | exact I9.2.2.2.2 | exact I9.oo.1 | exact I9.oo | exact I9.2.2.2.1 | exact I9.2.2.1 | exact I9.2.2.2.2 _ (by omega) | exact (I9.2.2.2.2 _ (by omega)).resolve_right q2)) v_MD_compose tw_550 ⟨rfl, rfl⟩ ⟨by decide, by decide⟩ rfl rfl rfl rfl (Nat.le_of_ble_eq_true rfl) ⟨hc1, hs1⟩ d_LW_law_467 (fun u9 H locs hq hP hD hS => ?_)
    have hP : va_P g.1 cl (MW g ma (nI 1) rg hd (nF oo) (nF kp) (nI td) (nF tx) ct fd os oq vs sk ++ ((oa, aJ g 1 ou) :: (CW g ad rg hd (nF od) (nF tx) (nI td) sm pa pr fl op du qa ab ac qb be bc wd ++ []))) H := hP
    have hD : va_D (gA g) (MW g ma (nI 1) rg hd (nF oo) (nF kp) (nI td) (nF tx) ct fd os oq vs sk ++ ((oa, aJ g 1 ou) :: (CW g ad rg hd (nF od) (nF tx) (nI td) sm pa pr fl op du qa ab ac qb be bc wd ++ []))) := hD
    refine lv_aload_n hx hb d_LW_law_470 rfl (lv_at hl 4 rfl) ?_
    refine pc_Vi (q0 := 0) (As := []) (rest := []) hx hb (hml.trans hl.1.symm) hown ht F hP hD hS (c_MD_thrown l g ma (nI 1) rg hd (nF oo) (nF kp) (nI td) (nF tx) ct fd os oq vs sk ((oa, aJ g 1 ou) :: (CW g ad rg hd (nF od) (nF tx) (nI td) sm pa pr fl op du qa ab ac qb be bc wd ++ []))) v_MD_thrown tw_510 ⟨rfl, rfl⟩ ⟨by decide, by decide⟩ rfl rfl rfl rfl (Nat.le_of_ble_eq_true rfl) ⟨hc1, hs1⟩ d_LW_law_471 (fun r9 u9 H locs hq hP hD hS => ?_)
    subst hq
    refine lv_iload hx hb d_LW_law_474 (lv_at hl 0 rfl) ?_
    refine rc_eq (tgt := 481) hx hb (by omega) (by omega) d_LW_law_476 (by decide) (fun c476 => ?_) (fun c476 => ?_)
    · refine lv_goto (tgt := 1402) hx hb d_LW_law_481 (by decide) ?_
      have hP : va_P g.1 cl (CW g ad rg hd (nF od) (nF tx) (nI td) sm pa pr fl op du qa ab ac qb be bc wd ++ ((oa, aJ g 1 ou) :: (MW g ma (nI 1) rg hd (nF oo) (nF kp) (nI td) (nF tx) ct fd os oq vs sk ++ []))) H := wp_perm (pm_ab _ _ _) hP
      have hD : va_D (gA g) (CW g ad rg hd (nF od) (nF tx) (nI td) sm pa pr fl op du qa ab ac qb be bc wd ++ ((oa, aJ g 1 ou) :: (MW g ma (nI 1) rg hd (nF oo) (nF kp) (nI td) (nF tx) ct fd os oq vs sk ++ []))) := wd_perm (pm_ab _ _ _) hD
      refine W.widen (k := cells + 1) (n := slots + 6) (by omega) (by omega) ?_
      exact kk H locs ls ⟨rg, hd, od, tx, td, sm, pa, pr, fl, op, du, qa, ab, ac, qb, be, bc, wd, ou, nI 1, oo, kp, ct, fd, os, oq, vs, sk, I9, hP, hD⟩ hS (lv_sub hl [1, 2, 3, 4, 5] rfl)
    · exact (by omega : False).elim
set_option maxRecDepth 100000 in
set_option maxHeartbeats 4000000 in
theorem st_quantify {p : Program} {l : Launch} {e : Env} {s : State} {m : MethodId} {below : List Frame} {meth : Method} {c : Code} (hl0 : l.stackTraces = false) {g : Gx} {ad ma : Nat → Nat} {oa b L i : Nat} {xs : Nat → Int32} {x1 x2 x3 x4 : Int32} (hx : p.tables.exec = Jvm.exec) (hb : c.code = b_LW_law) (hml : c.maxLocals = 7) (hown : s.vm.findClass "SiftedGraphsLaw" = some m.cls) (ht : ∀ w ∈ TW, w.before #[Value.ref b] s = true) (F : Fx g s) (hX : va_X b L xs s s.heap) (hbl : b < s.heap.size) (hbA : ¬ gA g b) (hL : L ≤ 2560) (hi : i + 4 < L) (hx1 : xs (i + 1) = x1) (hx2 : xs (i + 2) = x2) (hx3 : xs (i + 3) = x3) (hx4 : xs (i + 4) = x4) {rg : Nat → Int64} {hd : Nat → Int32} {od : Nat → Nat} {tx : Nat → Nat} {td : Nat} {sm : Nat → Int64} {pa : Nat → Int64} {pr : Nat → Int64} {fl : Nat → Int64} {op : Int32} {du : Int32} {qa : Nat} {ab : Nat → Int64} {ac : Int32} {qb : Nat} {be : Nat → Int64} {bc : Int32} {wd : Nat → Int32} {ou : Nat → Int64} {cd : Int32} {oo : Nat → Nat} {kp : Nat → Nat} {ct : Int32} {fd : Nat → Int64} {os : Int32} {oq : Nat → Int32} {vs : Int32} {sk : Nat → Int64} (I9 : INV od oo tx hd td) {H : Heap} {locs : List Loc} {ls : Array Slot} (hP : va_P g.1 cl (CW g ad rg hd (nF od) (nF tx) (nI td) sm pa pr fl op du qa ab ac qb be bc wd ++ ((oa, aJ g 1 ou) :: (MW g ma cd rg hd (nF oo) (nF kp) (nI td) (nF tx) ct fd os oq vs sk ++ []))) H) (hD : va_D (gA g) (CW g ad rg hd (nF od) (nF tx) (nI td) sm pa pr fl op du qa ab ac qb be bc wd ++ ((oa, aJ g 1 ou) :: (MW g ma cd rg hd (nF oo) (nF kp) (nI td) (nF tx) ct fd os oq vs sk ++ [])))) (hS : va_S (gA g) s.heap H locs) (hl : lv_has ls 7 [(4, .int (nI i)), (0, .ref b), (1, .ref (ad 0)), (2, .ref (ma 0)), (3, .ref oa)]) {cells slots : Nat} (hc1 : cells + 1 ≤ room_1.cells) (hs1 : slots + 6 ≤ room_1.slots) {Q : State → Prop}
    (kk : ∀ (H : Heap) (locs : List Loc) (ls : Array Slot), LST g ad ma oa H → va_S (gA g) s.heap H locs → lv_has ls 7 [(4, .int (nI i)), (0, .ref b), (1, .ref (ad 0)), (2, .ref (ma 0)), (3, .ref oa)] → W p l e room_1 s m #[Value.ref b] below meth c H locs (cells + 1) (slots + 6) Q (F0 m 1402 ls [])) : W p l e room_1 s m #[Value.ref b] below meth c H locs cells slots Q (F0 m 484 ls []) := by
  have hcA : cells ≤ room_1.cells := Nat.le_of_succ_le hc1
  have hsA : slots ≤ room_1.slots := Nat.le_trans (Nat.le_add_right _ _) hs1
  by_cases q1 : inR x1 8 ∧ inR x2 8 ∧ inR x3 64
  · obtain ⟨⟨k1, g1, rfl⟩, ⟨k2, g2, rfl⟩, ⟨k3, g3, rfl⟩⟩ := q1
    by_cases q2 : hd k2 = 1
    · refine lv_aload_n hx hb d_LW_law_484 rfl (lv_at hl 2 rfl) ?_
      refine lv_aload_n hx hb d_LW_law_485 rfl (lv_at hl 1 rfl) ?_
      refine lv_iload hx hb d_LW_law_486 (lv_at hl 0 rfl) ?_
      refine lv_iconst (v := nI 1) hx hb d_LW_law_488 (by decide) ?_
      refine rn_add hx hb d_LW_law_489 ?_
      refine rl_s hx hb hX hbl hbA hS (by omega) (by omega) hx1 d_LW_law_490 ?_
      refine lv_aload_n hx hb d_LW_law_491 rfl (lv_at hl 1 rfl) ?_
      refine lv_iload hx hb d_LW_law_492 (lv_at hl 0 rfl) ?_
      refine lv_iconst (v := nI 2) hx hb d_LW_law_494 (by decide) ?_
      refine rn_add hx hb d_LW_law_495 ?_
      refine rl_s hx hb hX hbl hbA hS (by omega) (by omega) hx2 d_LW_law_496 ?_
      refine lv_aload_n hx hb d_LW_law_497 rfl (lv_at hl 1 rfl) ?_
      refine lv_iload hx hb d_LW_law_498 (lv_at hl 0 rfl) ?_
      refine lv_iconst (v := nI 3) hx hb d_LW_law_500 (by decide) ?_
      refine rn_add hx hb d_LW_law_501 ?_
      refine rl_s hx hb hX hbl hbA hS (by omega) (by omega) hx3 d_LW_law_502 ?_
      refine lv_aload_n hx hb d_LW_law_503 rfl (lv_at hl 1 rfl) ?_
      refine lv_iload hx hb d_LW_law_504 (lv_at hl 0 rfl) ?_
      refine lv_iconst (v := nI 4) hx hb d_LW_law_506 (by decide) ?_
      refine rn_add hx hb d_LW_law_507 ?_
      refine rl_s hx hb hX hbl hbA hS (by omega) (by omega) hx4 d_LW_law_508 ?_
      refine lv_if_eq (tgt := 516) hx hb d_LW_law_509 (by decide) (fun c509 => ?_) (fun c509 => ?_)
      · refine lv_iconst (v := nI 0) hx hb d_LW_law_516 (by decide) ?_
        refine pc_T (As := [.ref (ad 0), .int (nI k1), .int (nI k2), .int (nI k3), .int (nI 0)]) (rest := []) hx hb (hml.trans hl.1.symm) hown ht F hP hD hS (c_LW_quantify l g ad oa rg hd (nF od) (nF tx) (nI td) sm pa pr fl op du qa ab ac qb be bc wd ou (MW g ma cd rg hd (nF oo) (nF kp) (nI td) (nF tx) ct fd os oq vs sk ++ []) k1 k2 k3 (nI 0) (by first | omega | exact q1 | exact q2 | exact q2.1 | exact q2.2 | exact q2.2.1 | exact q2.2.2 | exact I9.1.1 | exact I9.2.2.2.2 | exact I9.oo.1 | exact I9.oo | exact I9.2.2.2.1 | exact I9.2.2.1 | exact I9.2.2.2.2 _ (by omega) | exact (I9.2.2.2.2 _ (by omega)).resolve_right q2) (by first | omega | exact q1 | exact q2 | exact q2.1 | exact q2.2 | exact q2.2.1 | exact q2.2.2 | exact I9.1.1 | exact I9.2.2.2.2 | exact I9.oo.1 | exact I9.oo | exact I9.2.2.2.1 | exact I9.2.2.1 | exact I9.2.2.2.2 _ (by omega) | exact (I9.2.2.2.2 _ (by omega)).resolve_right q2) (by first | omega | exact q1 | exact q2 | exact q2.1 | exact q2.2 | exact q2.2.1 | exact q2.2.2 | exact I9.1.1 | exact I9.2.2.2.2 | exact I9.oo.1 | exact I9.oo | exact I9.2.2.2.1 | exact I9.2.2.1 | exact I9.2.2.2.2 _ (by omega) | exact (I9.2.2.2.2 _ (by omega)).resolve_right q2) (by first | omega | exact q1 | exact q2 | exact q2.1 | exact q2.2 | exact q2.2.1 | exact q2.2.2 | exact I9.1.1 | exact I9.2.2.2.2 | exact I9.oo.1 | exact I9.oo | exact I9.2.2.2.1 | exact I9.2.2.1 | exact I9.2.2.2.2 _ (by omega) | exact (I9.2.2.2.2 _ (by omega)).resolve_right q2)) v_LW_quantify tw_290 ⟨rfl, rfl⟩ ⟨by decide, by decide⟩ rfl rfl (Nat.le_of_ble_eq_true rfl) ⟨hcA, hsA⟩ d_LW_law_517 (fun r9 u9 H locs hq hP hD hS => ?_)
        subst hq
        have hP : va_P g.1 cl (CW g ad (vp_updL rg k1 (qnF k3 (nI 0) (rg k2) 6)) (upd hd k1 (nI 1)) (nF od) (nF tx) (nI td) sm pa pr fl op du qa ab ac qb be bc wd ++ ((oa, aJ g 1 ou) :: (MW g ma cd rg hd (nF oo) (nF kp) (nI td) (nF tx) ct fd os oq vs sk ++ []))) H := hP
        have hD : va_D (gA g) (CW g ad (vp_updL rg k1 (qnF k3 (nI 0) (rg k2) 6)) (upd hd k1 (nI 1)) (nF od) (nF tx) (nI td) sm pa pr fl op du qa ab ac qb be bc wd ++ ((oa, aJ g 1 ou) :: (MW g ma cd rg hd (nF oo) (nF kp) (nI td) (nF tx) ct fd os oq vs sk ++ []))) := hD
        refine lv_istore (lv' := [(5, .int (nI 0)), (4, .int (nI i)), (0, .ref b), (1, .ref (ad 0)), (2, .ref (ma 0)), (3, .ref oa)]) hx hb d_LW_law_520 hl (by decide) rfl (fun ls hl => ?_)
        refine lv_aload_n hx hb d_LW_law_522 rfl (lv_at hl 4 rfl) ?_
        refine lv_aload_n hx hb d_LW_law_523 rfl (lv_at hl 2 rfl) ?_
        refine lv_iload hx hb d_LW_law_524 (lv_at hl 1 rfl) ?_
        refine lv_iconst (v := nI 1) hx hb d_LW_law_526 (by decide) ?_
        refine rn_add hx hb d_LW_law_527 ?_
        refine rl_s hx hb hX hbl hbA hS (by omega) (by omega) hx1 d_LW_law_528 ?_
        refine lv_aload_n hx hb d_LW_law_529 rfl (lv_at hl 2 rfl) ?_
        refine lv_iload hx hb d_LW_law_530 (lv_at hl 1 rfl) ?_
        refine lv_iconst (v := nI 2) hx hb d_LW_law_532 (by decide) ?_
        refine rn_add hx hb d_LW_law_533 ?_
        refine rl_s hx hb hX hbl hbA hS (by omega) (by omega) hx2 d_LW_law_534 ?_
        refine lv_aload_n hx hb d_LW_law_535 rfl (lv_at hl 2 rfl) ?_
        refine lv_iload hx hb d_LW_law_536 (lv_at hl 1 rfl) ?_
        refine lv_iconst (v := nI 3) hx hb d_LW_law_538 (by decide) ?_
        refine rn_add hx hb d_LW_law_539 ?_
        refine rl_s hx hb hX hbl hbA hS (by omega) (by omega) hx3 d_LW_law_540 ?_
        refine lv_aload_n hx hb d_LW_law_541 rfl (lv_at hl 2 rfl) ?_
        refine lv_iload hx hb d_LW_law_542 (lv_at hl 1 rfl) ?_
        refine lv_iconst (v := nI 4) hx hb d_LW_law_544 (by decide) ?_
        refine rn_add hx hb d_LW_law_545 ?_
        refine rl_s hx hb hX hbl hbA hS (by omega) (by omega) hx4 d_LW_law_546 ?_
        refine lv_if_eq (tgt := 554) hx hb d_LW_law_547 (by decide) (fun c547 => ?_) (fun c547 => ?_)
        · refine lv_iconst (v := nI 0) hx hb d_LW_law_554 (by decide) ?_
          have hP : va_P g.1 cl (MW g ma cd rg hd (nF oo) (nF kp) (nI td) (nF tx) ct fd os oq vs sk ++ ((oa, aJ g 1 ou) :: (CW g ad (vp_updL rg k1 (qnF k3 (nI 0) (rg k2) 6)) (upd hd k1 (nI 1)) (nF od) (nF tx) (nI td) sm pa pr fl op du qa ab ac qb be bc wd ++ []))) H := wp_perm (pm_ab _ _ _) hP
          have hD : va_D (gA g) (MW g ma cd rg hd (nF oo) (nF kp) (nI td) (nF tx) ct fd os oq vs sk ++ ((oa, aJ g 1 ou) :: (CW g ad (vp_updL rg k1 (qnF k3 (nI 0) (rg k2) 6)) (upd hd k1 (nI 1)) (nF od) (nF tx) (nI td) sm pa pr fl op du qa ab ac qb be bc wd ++ []))) := wd_perm (pm_ab _ _ _) hD
          refine pc_Vv (q0 := 0) (As := [.int (nI k1), .int (nI k2), .int (nI k3), .int (nI 0)]) (rest := []) hx hb (hml.trans hl.1.symm) hown ht F hP hD hS (c_MD_quantify l g ma cd rg hd (nF oo) (nF kp) (nI td) (nF tx) ct fd os oq vs sk ((oa, aJ g 1 ou) :: (CW g ad (vp_updL rg k1 (qnF k3 (nI 0) (rg k2) 6)) (upd hd k1 (nI 1)) (nF od) (nF tx) (nI td) sm pa pr fl op du qa ab ac qb be bc wd ++ [])) k1 k2 k3 (nI 0) (by first | omega | exact q1 | exact q2 | exact q2.1 | exact q2.2 | exact q2.2.1 | exact q2.2.2 | exact I9.1.1 | exact I9.2.2.2.2 | exact I9.oo.1 | exact I9.oo | exact I9.2.2.2.1 | exact I9.2.2.1 | exact I9.2.2.2.2 _ (by omega) | exact (I9.2.2.2.2 _ (by omega)).resolve_right q2) (by first | omega | exact q1 | exact q2 | exact q2.1 | exact q2.2 | exact q2.2.1 | exact q2.2.2 | exact I9.1.1 | exact I9.2.2.2.2 | exact I9.oo.1 | exact I9.oo | exact I9.2.2.2.1 | exact I9.2.2.1 | exact I9.2.2.2.2 _ (by omega) | exact (I9.2.2.2.2 _ (by omega)).resolve_right q2) (by first | omega | exact q1 | exact q2 | exact q2.1 | exact q2.2 | exact q2.2.1 | exact q2.2.2 | exact I9.1.1 | exact I9.2.2.2.2 | exact I9.oo.1 | exact I9.oo | exact I9.2.2.2.1 | exact I9.2.2.1 | exact I9.2.2.2.2 _ (by omega) | exact (I9.2.2.2.2 _ (by omega)).resolve_right q2) (by first | omega | exact q1 | exact q2 | exact q2.1 | exact q2.2 | exact q2.2.1 | exact q2.2.2 | exact I9.1.1 | exact I9.2.2.2.2 | exact I9.oo.1 | exact I9.oo | exact I9.2.2.2.1 | exact I9.2.2.1 | exact I9.2.2.2.2 _ (by omega) | exact (I9.2.2.2.2 _ (by omega)).resolve_right q2)) v_MD_quantify tw_554 ⟨rfl, rfl⟩ ⟨by decide, by decide⟩ rfl rfl rfl rfl (Nat.le_of_ble_eq_true rfl) ⟨hcA, hsA⟩ d_LW_law_555 (fun u9 H locs hq hP hD hS => ?_)
          have hP : va_P g.1 cl (MW g ma (nI 0) (vp_updL rg k1 (qnF k3 (nI 0) (rg k2) 6)) (upd hd k1 (nI 1)) (nF oo) (nF kp) (nI td) (nF tx) ct fd os oq vs sk ++ ((oa, aJ g 1 ou) :: (CW g ad (vp_updL rg k1 (qnF k3 (nI 0) (rg k2) 6)) (upd hd k1 (nI 1)) (nF od) (nF tx) (nI td) sm pa pr fl op du qa ab ac qb be bc wd ++ []))) H := hP
          have hD : va_D (gA g) (MW g ma (nI 0) (vp_updL rg k1 (qnF k3 (nI 0) (rg k2) 6)) (upd hd k1 (nI 1)) (nF oo) (nF kp) (nI td) (nF tx) ct fd os oq vs sk ++ ((oa, aJ g 1 ou) :: (CW g ad (vp_updL rg k1 (qnF k3 (nI 0) (rg k2) 6)) (upd hd k1 (nI 1)) (nF od) (nF tx) (nI td) sm pa pr fl op du qa ab ac qb be bc wd ++ []))) := hD
          refine lv_aload_n hx hb d_LW_law_558 rfl (lv_at hl 4 rfl) ?_
          refine pc_Vi (q0 := 0) (As := []) (rest := []) hx hb (hml.trans hl.1.symm) hown ht F hP hD hS (c_MD_thrown l g ma (nI 0) (vp_updL rg k1 (qnF k3 (nI 0) (rg k2) 6)) (upd hd k1 (nI 1)) (nF oo) (nF kp) (nI td) (nF tx) ct fd os oq vs sk ((oa, aJ g 1 ou) :: (CW g ad (vp_updL rg k1 (qnF k3 (nI 0) (rg k2) 6)) (upd hd k1 (nI 1)) (nF od) (nF tx) (nI td) sm pa pr fl op du qa ab ac qb be bc wd ++ []))) v_MD_thrown tw_510 ⟨rfl, rfl⟩ ⟨by decide, by decide⟩ rfl rfl rfl rfl (Nat.le_of_ble_eq_true rfl) ⟨hcA, hsA⟩ d_LW_law_559 (fun r9 u9 H locs hq hP hD hS => ?_)
          subst hq
          refine lv_iload hx hb d_LW_law_562 (lv_at hl 0 rfl) ?_
          refine rc_eq (tgt := 569) hx hb (by omega) (by omega) d_LW_law_564 (by decide) (fun c564 => ?_) (fun c564 => ?_)
          · refine lv_goto (tgt := 1402) hx hb d_LW_law_569 (by decide) ?_
            have hP : va_P g.1 cl (CW g ad (vp_updL rg k1 (qnF k3 (nI 0) (rg k2) 6)) (upd hd k1 (nI 1)) (nF od) (nF tx) (nI td) sm pa pr fl op du qa ab ac qb be bc wd ++ ((oa, aJ g 1 ou) :: (MW g ma (nI 0) (vp_updL rg k1 (qnF k3 (nI 0) (rg k2) 6)) (upd hd k1 (nI 1)) (nF oo) (nF kp) (nI td) (nF tx) ct fd os oq vs sk ++ []))) H := wp_perm (pm_ab _ _ _) hP
            have hD : va_D (gA g) (CW g ad (vp_updL rg k1 (qnF k3 (nI 0) (rg k2) 6)) (upd hd k1 (nI 1)) (nF od) (nF tx) (nI td) sm pa pr fl op du qa ab ac qb be bc wd ++ ((oa, aJ g 1 ou) :: (MW g ma (nI 0) (vp_updL rg k1 (qnF k3 (nI 0) (rg k2) 6)) (upd hd k1 (nI 1)) (nF oo) (nF kp) (nI td) (nF tx) ct fd os oq vs sk ++ []))) := wd_perm (pm_ab _ _ _) hD
            refine W.widen (k := cells + 1) (n := slots + 6) (by omega) (by omega) ?_
            exact kk H locs ls ⟨vp_updL rg k1 (qnF k3 (nI 0) (rg k2) 6), upd hd k1 (nI 1), od, tx, td, sm, pa, pr, fl, op, du, qa, ab, ac, qb, be, bc, wd, ou, nI 0, oo, kp, ct, fd, os, oq, vs, sk, (I9.put _), hP, hD⟩ hS (lv_sub hl [1, 2, 3, 4, 5] rfl)
          · exact (by omega : False).elim
        · exact absurd c509 c547
      · refine lv_iconst (v := nI 1) hx hb d_LW_law_512 (by decide) ?_
        refine lv_goto (tgt := 517) hx hb d_LW_law_513 (by decide) ?_
        refine pc_T (As := [.ref (ad 0), .int (nI k1), .int (nI k2), .int (nI k3), .int (nI 1)]) (rest := []) hx hb (hml.trans hl.1.symm) hown ht F hP hD hS (c_LW_quantify l g ad oa rg hd (nF od) (nF tx) (nI td) sm pa pr fl op du qa ab ac qb be bc wd ou (MW g ma cd rg hd (nF oo) (nF kp) (nI td) (nF tx) ct fd os oq vs sk ++ []) k1 k2 k3 (nI 1) (by first | omega | exact q1 | exact q2 | exact q2.1 | exact q2.2 | exact q2.2.1 | exact q2.2.2 | exact I9.1.1 | exact I9.2.2.2.2 | exact I9.oo.1 | exact I9.oo | exact I9.2.2.2.1 | exact I9.2.2.1 | exact I9.2.2.2.2 _ (by omega) | exact (I9.2.2.2.2 _ (by omega)).resolve_right q2) (by first | omega | exact q1 | exact q2 | exact q2.1 | exact q2.2 | exact q2.2.1 | exact q2.2.2 | exact I9.1.1 | exact I9.2.2.2.2 | exact I9.oo.1 | exact I9.oo | exact I9.2.2.2.1 | exact I9.2.2.1 | exact I9.2.2.2.2 _ (by omega) | exact (I9.2.2.2.2 _ (by omega)).resolve_right q2) (by first | omega | exact q1 | exact q2 | exact q2.1 | exact q2.2 | exact q2.2.1 | exact q2.2.2 | exact I9.1.1 | exact I9.2.2.2.2 | exact I9.oo.1 | exact I9.oo | exact I9.2.2.2.1 | exact I9.2.2.1 | exact I9.2.2.2.2 _ (by omega) | exact (I9.2.2.2.2 _ (by omega)).resolve_right q2) (by first | omega | exact q1 | exact q2 | exact q2.1 | exact q2.2 | exact q2.2.1 | exact q2.2.2 | exact I9.1.1 | exact I9.2.2.2.2 | exact I9.oo.1 | exact I9.oo | exact I9.2.2.2.1 | exact I9.2.2.1 | exact I9.2.2.2.2 _ (by omega) | exact (I9.2.2.2.2 _ (by omega)).resolve_right q2)) v_LW_quantify tw_290 ⟨rfl, rfl⟩ ⟨by decide, by decide⟩ rfl rfl (Nat.le_of_ble_eq_true rfl) ⟨hcA, hsA⟩ d_LW_law_517 (fun r9 u9 H locs hq hP hD hS => ?_)
        subst hq
        have hP : va_P g.1 cl (CW g ad (vp_updL rg k1 (qnF k3 (nI 1) (rg k2) 6)) (upd hd k1 (nI 1)) (nF od) (nF tx) (nI td) sm pa pr fl op du qa ab ac qb be bc wd ++ ((oa, aJ g 1 ou) :: (MW g ma cd rg hd (nF oo) (nF kp) (nI td) (nF tx) ct fd os oq vs sk ++ []))) H := hP
        have hD : va_D (gA g) (CW g ad (vp_updL rg k1 (qnF k3 (nI 1) (rg k2) 6)) (upd hd k1 (nI 1)) (nF od) (nF tx) (nI td) sm pa pr fl op du qa ab ac qb be bc wd ++ ((oa, aJ g 1 ou) :: (MW g ma cd rg hd (nF oo) (nF kp) (nI td) (nF tx) ct fd os oq vs sk ++ []))) := hD
        refine lv_istore (lv' := [(5, .int (nI 0)), (4, .int (nI i)), (0, .ref b), (1, .ref (ad 0)), (2, .ref (ma 0)), (3, .ref oa)]) hx hb d_LW_law_520 hl (by decide) rfl (fun ls hl => ?_)
        refine lv_aload_n hx hb d_LW_law_522 rfl (lv_at hl 4 rfl) ?_
        refine lv_aload_n hx hb d_LW_law_523 rfl (lv_at hl 2 rfl) ?_
        refine lv_iload hx hb d_LW_law_524 (lv_at hl 1 rfl) ?_
        refine lv_iconst (v := nI 1) hx hb d_LW_law_526 (by decide) ?_
        refine rn_add hx hb d_LW_law_527 ?_
        refine rl_s hx hb hX hbl hbA hS (by omega) (by omega) hx1 d_LW_law_528 ?_
        refine lv_aload_n hx hb d_LW_law_529 rfl (lv_at hl 2 rfl) ?_
        refine lv_iload hx hb d_LW_law_530 (lv_at hl 1 rfl) ?_
        refine lv_iconst (v := nI 2) hx hb d_LW_law_532 (by decide) ?_
        refine rn_add hx hb d_LW_law_533 ?_
        refine rl_s hx hb hX hbl hbA hS (by omega) (by omega) hx2 d_LW_law_534 ?_
        refine lv_aload_n hx hb d_LW_law_535 rfl (lv_at hl 2 rfl) ?_
        refine lv_iload hx hb d_LW_law_536 (lv_at hl 1 rfl) ?_
        refine lv_iconst (v := nI 3) hx hb d_LW_law_538 (by decide) ?_
        refine rn_add hx hb d_LW_law_539 ?_
        refine rl_s hx hb hX hbl hbA hS (by omega) (by omega) hx3 d_LW_law_540 ?_
        refine lv_aload_n hx hb d_LW_law_541 rfl (lv_at hl 2 rfl) ?_
        refine lv_iload hx hb d_LW_law_542 (lv_at hl 1 rfl) ?_
        refine lv_iconst (v := nI 4) hx hb d_LW_law_544 (by decide) ?_
        refine rn_add hx hb d_LW_law_545 ?_
        refine rl_s hx hb hX hbl hbA hS (by omega) (by omega) hx4 d_LW_law_546 ?_
        refine lv_if_eq (tgt := 554) hx hb d_LW_law_547 (by decide) (fun c547 => ?_) (fun c547 => ?_)
        · exact absurd c547 c509
        · refine lv_iconst (v := nI 1) hx hb d_LW_law_550 (by decide) ?_
          refine lv_goto (tgt := 555) hx hb d_LW_law_551 (by decide) ?_
          have hP : va_P g.1 cl (MW g ma cd rg hd (nF oo) (nF kp) (nI td) (nF tx) ct fd os oq vs sk ++ ((oa, aJ g 1 ou) :: (CW g ad (vp_updL rg k1 (qnF k3 (nI 1) (rg k2) 6)) (upd hd k1 (nI 1)) (nF od) (nF tx) (nI td) sm pa pr fl op du qa ab ac qb be bc wd ++ []))) H := wp_perm (pm_ab _ _ _) hP
          have hD : va_D (gA g) (MW g ma cd rg hd (nF oo) (nF kp) (nI td) (nF tx) ct fd os oq vs sk ++ ((oa, aJ g 1 ou) :: (CW g ad (vp_updL rg k1 (qnF k3 (nI 1) (rg k2) 6)) (upd hd k1 (nI 1)) (nF od) (nF tx) (nI td) sm pa pr fl op du qa ab ac qb be bc wd ++ []))) := wd_perm (pm_ab _ _ _) hD
          refine pc_Vv (q0 := 0) (As := [.int (nI k1), .int (nI k2), .int (nI k3), .int (nI 1)]) (rest := []) hx hb (hml.trans hl.1.symm) hown ht F hP hD hS (c_MD_quantify l g ma cd rg hd (nF oo) (nF kp) (nI td) (nF tx) ct fd os oq vs sk ((oa, aJ g 1 ou) :: (CW g ad (vp_updL rg k1 (qnF k3 (nI 1) (rg k2) 6)) (upd hd k1 (nI 1)) (nF od) (nF tx) (nI td) sm pa pr fl op du qa ab ac qb be bc wd ++ [])) k1 k2 k3 (nI 1) (by first | omega | exact q1 | exact q2 | exact q2.1 | exact q2.2 | exact q2.2.1 | exact q2.2.2 | exact I9.1.1 | exact I9.2.2.2.2 | exact I9.oo.1 | exact I9.oo | exact I9.2.2.2.1 | exact I9.2.2.1 | exact I9.2.2.2.2 _ (by omega) | exact (I9.2.2.2.2 _ (by omega)).resolve_right q2) (by first | omega | exact q1 | exact q2 | exact q2.1 | exact q2.2 | exact q2.2.1 | exact q2.2.2 | exact I9.1.1 | exact I9.2.2.2.2 | exact I9.oo.1 | exact I9.oo | exact I9.2.2.2.1 | exact I9.2.2.1 | exact I9.2.2.2.2 _ (by omega) | exact (I9.2.2.2.2 _ (by omega)).resolve_right q2) (by first | omega | exact q1 | exact q2 | exact q2.1 | exact q2.2 | exact q2.2.1 | exact q2.2.2 | exact I9.1.1 | exact I9.2.2.2.2 | exact I9.oo.1 | exact I9.oo | exact I9.2.2.2.1 | exact I9.2.2.1 | exact I9.2.2.2.2 _ (by omega) | exact (I9.2.2.2.2 _ (by omega)).resolve_right q2) (by first | omega | exact q1 | exact q2 | exact q2.1 | exact q2.2 | exact q2.2.1 | exact q2.2.2 | exact I9.1.1 | exact I9.2.2.2.2 | exact I9.oo.1 | exact I9.oo | exact I9.2.2.2.1 | exact I9.2.2.1 | exact I9.2.2.2.2 _ (by omega) | exact (I9.2.2.2.2 _ (by omega)).resolve_right q2)) v_MD_quantify tw_554 ⟨rfl, rfl⟩ ⟨by decide, by decide⟩ rfl rfl rfl rfl (Nat.le_of_ble_eq_true rfl) ⟨hcA, hsA⟩ d_LW_law_555 (fun u9 H locs hq hP hD hS => ?_)
          have hP : va_P g.1 cl (MW g ma (nI 0) (vp_updL rg k1 (qnF k3 (nI 1) (rg k2) 6)) (upd hd k1 (nI 1)) (nF oo) (nF kp) (nI td) (nF tx) ct fd os oq vs sk ++ ((oa, aJ g 1 ou) :: (CW g ad (vp_updL rg k1 (qnF k3 (nI 1) (rg k2) 6)) (upd hd k1 (nI 1)) (nF od) (nF tx) (nI td) sm pa pr fl op du qa ab ac qb be bc wd ++ []))) H := hP
          have hD : va_D (gA g) (MW g ma (nI 0) (vp_updL rg k1 (qnF k3 (nI 1) (rg k2) 6)) (upd hd k1 (nI 1)) (nF oo) (nF kp) (nI td) (nF tx) ct fd os oq vs sk ++ ((oa, aJ g 1 ou) :: (CW g ad (vp_updL rg k1 (qnF k3 (nI 1) (rg k2) 6)) (upd hd k1 (nI 1)) (nF od) (nF tx) (nI td) sm pa pr fl op du qa ab ac qb be bc wd ++ []))) := hD
          refine lv_aload_n hx hb d_LW_law_558 rfl (lv_at hl 4 rfl) ?_
          refine pc_Vi (q0 := 0) (As := []) (rest := []) hx hb (hml.trans hl.1.symm) hown ht F hP hD hS (c_MD_thrown l g ma (nI 0) (vp_updL rg k1 (qnF k3 (nI 1) (rg k2) 6)) (upd hd k1 (nI 1)) (nF oo) (nF kp) (nI td) (nF tx) ct fd os oq vs sk ((oa, aJ g 1 ou) :: (CW g ad (vp_updL rg k1 (qnF k3 (nI 1) (rg k2) 6)) (upd hd k1 (nI 1)) (nF od) (nF tx) (nI td) sm pa pr fl op du qa ab ac qb be bc wd ++ []))) v_MD_thrown tw_510 ⟨rfl, rfl⟩ ⟨by decide, by decide⟩ rfl rfl rfl rfl (Nat.le_of_ble_eq_true rfl) ⟨hcA, hsA⟩ d_LW_law_559 (fun r9 u9 H locs hq hP hD hS => ?_)
          subst hq
          refine lv_iload hx hb d_LW_law_562 (lv_at hl 0 rfl) ?_
          refine rc_eq (tgt := 569) hx hb (by omega) (by omega) d_LW_law_564 (by decide) (fun c564 => ?_) (fun c564 => ?_)
          · refine lv_goto (tgt := 1402) hx hb d_LW_law_569 (by decide) ?_
            have hP : va_P g.1 cl (CW g ad (vp_updL rg k1 (qnF k3 (nI 1) (rg k2) 6)) (upd hd k1 (nI 1)) (nF od) (nF tx) (nI td) sm pa pr fl op du qa ab ac qb be bc wd ++ ((oa, aJ g 1 ou) :: (MW g ma (nI 0) (vp_updL rg k1 (qnF k3 (nI 1) (rg k2) 6)) (upd hd k1 (nI 1)) (nF oo) (nF kp) (nI td) (nF tx) ct fd os oq vs sk ++ []))) H := wp_perm (pm_ab _ _ _) hP
            have hD : va_D (gA g) (CW g ad (vp_updL rg k1 (qnF k3 (nI 1) (rg k2) 6)) (upd hd k1 (nI 1)) (nF od) (nF tx) (nI td) sm pa pr fl op du qa ab ac qb be bc wd ++ ((oa, aJ g 1 ou) :: (MW g ma (nI 0) (vp_updL rg k1 (qnF k3 (nI 1) (rg k2) 6)) (upd hd k1 (nI 1)) (nF oo) (nF kp) (nI td) (nF tx) ct fd os oq vs sk ++ []))) := wd_perm (pm_ab _ _ _) hD
            refine W.widen (k := cells + 1) (n := slots + 6) (by omega) (by omega) ?_
            exact kk H locs ls ⟨vp_updL rg k1 (qnF k3 (nI 1) (rg k2) 6), upd hd k1 (nI 1), od, tx, td, sm, pa, pr, fl, op, du, qa, ab, ac, qb, be, bc, wd, ou, nI 0, oo, kp, ct, fd, os, oq, vs, sk, (I9.put _), hP, hD⟩ hS (lv_sub hl [1, 2, 3, 4, 5] rfl)
          · exact (by omega : False).elim
    · refine lv_aload_n hx hb d_LW_law_484 rfl (lv_at hl 2 rfl) ?_
      refine lv_aload_n hx hb d_LW_law_485 rfl (lv_at hl 1 rfl) ?_
      refine lv_iload hx hb d_LW_law_486 (lv_at hl 0 rfl) ?_
      refine lv_iconst (v := nI 1) hx hb d_LW_law_488 (by decide) ?_
      refine rn_add hx hb d_LW_law_489 ?_
      refine rl_s hx hb hX hbl hbA hS (by omega) (by omega) hx1 d_LW_law_490 ?_
      refine lv_aload_n hx hb d_LW_law_491 rfl (lv_at hl 1 rfl) ?_
      refine lv_iload hx hb d_LW_law_492 (lv_at hl 0 rfl) ?_
      refine lv_iconst (v := nI 2) hx hb d_LW_law_494 (by decide) ?_
      refine rn_add hx hb d_LW_law_495 ?_
      refine rl_s hx hb hX hbl hbA hS (by omega) (by omega) hx2 d_LW_law_496 ?_
      refine lv_aload_n hx hb d_LW_law_497 rfl (lv_at hl 1 rfl) ?_
      refine lv_iload hx hb d_LW_law_498 (lv_at hl 0 rfl) ?_
      refine lv_iconst (v := nI 3) hx hb d_LW_law_500 (by decide) ?_
      refine rn_add hx hb d_LW_law_501 ?_
      refine rl_s hx hb hX hbl hbA hS (by omega) (by omega) hx3 d_LW_law_502 ?_
      refine lv_aload_n hx hb d_LW_law_503 rfl (lv_at hl 1 rfl) ?_
      refine lv_iload hx hb d_LW_law_504 (lv_at hl 0 rfl) ?_
      refine lv_iconst (v := nI 4) hx hb d_LW_law_506 (by decide) ?_
      refine rn_add hx hb d_LW_law_507 ?_
      refine rl_s hx hb hX hbl hbA hS (by omega) (by omega) hx4 d_LW_law_508 ?_
      refine lv_if_eq (tgt := 516) hx hb d_LW_law_509 (by decide) (fun c509 => ?_) (fun c509 => ?_)
      · refine lv_iconst (v := nI 0) hx hb d_LW_law_516 (by decide) ?_
        refine pc_T (As := [.ref (ad 0), .int (nI k1), .int (nI k2), .int (nI k3), .int (nI 0)]) (rest := []) hx hb (hml.trans hl.1.symm) hown ht F hP hD hS (c2_LW_quantify l hl0 g ad oa rg hd (nF od) (nF tx) (nI td) sm pa pr fl op du qa ab ac qb be bc wd ou (MW g ma cd rg hd (nF oo) (nF kp) (nI td) (nF tx) ct fd os oq vs sk ++ []) k1 k2 k3 (nI 0) (by first | omega | exact q1 | exact q2 | exact q2.1 | exact q2.2 | exact q2.2.1 | exact q2.2.2 | exact I9.1.1 | exact I9.2.2.2.2 | exact I9.oo.1 | exact I9.oo | exact I9.2.2.2.1 | exact I9.2.2.1 | exact I9.2.2.2.2 _ (by omega) | exact (I9.2.2.2.2 _ (by omega)).resolve_right q2) (by first | omega | exact q1 | exact q2 | exact q2.1 | exact q2.2 | exact q2.2.1 | exact q2.2.2 | exact I9.1.1 | exact I9.2.2.2.2 | exact I9.oo.1 | exact I9.oo | exact I9.2.2.2.1 | exact I9.2.2.1 | exact I9.2.2.2.2 _ (by omega) | exact (I9.2.2.2.2 _ (by omega)).resolve_right q2) (by first | omega | exact q1 | exact q2 | exact q2.1 | exact q2.2 | exact q2.2.1 | exact q2.2.2 | exact I9.1.1 | exact I9.2.2.2.2 | exact I9.oo.1 | exact I9.oo | exact I9.2.2.2.1 | exact I9.2.2.1 | exact I9.2.2.2.2 _ (by omega) | exact (I9.2.2.2.2 _ (by omega)).resolve_right q2) (by first | omega | exact q1 | exact q2 | exact q2.1 | exact q2.2 | exact q2.2.1 | exact q2.2.2 | exact I9.1.1 | exact I9.2.2.2.2 | exact I9.oo.1 | exact I9.oo | exact I9.2.2.2.1 | exact I9.2.2.1 | exact I9.2.2.2.2 _ (by omega) | exact (I9.2.2.2.2 _ (by omega)).resolve_right q2) (by first | omega | exact q1 | exact q2 | exact q2.1 | exact q2.2 | exact q2.2.1 | exact q2.2.2 | exact I9.1.1 | exact I9.2.2.2.2 | exact I9.oo.1 | exact I9.oo | exact I9.2.2.2.1 | exact I9.2.2.1 | exact I9.2.2.2.2 _ (by omega) | exact (I9.2.2.2.2 _ (by omega)).resolve_right q2)) v_LW_quantify tw_290 ⟨rfl, rfl⟩ ⟨by decide, by decide⟩ rfl rfl (Nat.le_of_ble_eq_true rfl) ⟨hc1, hs1⟩ d_LW_law_517 (fun r9 u9 H locs hq hP hD hS => ?_)
        subst hq
        refine lv_istore (lv' := [(5, .int (nI 2)), (4, .int (nI i)), (0, .ref b), (1, .ref (ad 0)), (2, .ref (ma 0)), (3, .ref oa)]) hx hb d_LW_law_520 hl (by decide) rfl (fun ls hl => ?_)
        refine lv_aload_n hx hb d_LW_law_522 rfl (lv_at hl 4 rfl) ?_
        refine lv_aload_n hx hb d_LW_law_523 rfl (lv_at hl 2 rfl) ?_
        refine lv_iload hx hb d_LW_law_524 (lv_at hl 1 rfl) ?_
        refine lv_iconst (v := nI 1) hx hb d_LW_law_526 (by decide) ?_
        refine rn_add hx hb d_LW_law_527 ?_
        refine rl_s hx hb hX hbl hbA hS (by omega) (by omega) hx1 d_LW_law_528 ?_
        refine lv_aload_n hx hb d_LW_law_529 rfl (lv_at hl 2 rfl) ?_
        refine lv_iload hx hb d_LW_law_530 (lv_at hl 1 rfl) ?_
        refine lv_iconst (v := nI 2) hx hb d_LW_law_532 (by decide) ?_
        refine rn_add hx hb d_LW_law_533 ?_
        refine rl_s hx hb hX hbl hbA hS (by omega) (by omega) hx2 d_LW_law_534 ?_
        refine lv_aload_n hx hb d_LW_law_535 rfl (lv_at hl 2 rfl) ?_
        refine lv_iload hx hb d_LW_law_536 (lv_at hl 1 rfl) ?_
        refine lv_iconst (v := nI 3) hx hb d_LW_law_538 (by decide) ?_
        refine rn_add hx hb d_LW_law_539 ?_
        refine rl_s hx hb hX hbl hbA hS (by omega) (by omega) hx3 d_LW_law_540 ?_
        refine lv_aload_n hx hb d_LW_law_541 rfl (lv_at hl 2 rfl) ?_
        refine lv_iload hx hb d_LW_law_542 (lv_at hl 1 rfl) ?_
        refine lv_iconst (v := nI 4) hx hb d_LW_law_544 (by decide) ?_
        refine rn_add hx hb d_LW_law_545 ?_
        refine rl_s hx hb hX hbl hbA hS (by omega) (by omega) hx4 d_LW_law_546 ?_
        refine lv_if_eq (tgt := 554) hx hb d_LW_law_547 (by decide) (fun c547 => ?_) (fun c547 => ?_)
        · refine lv_iconst (v := nI 0) hx hb d_LW_law_554 (by decide) ?_
          have hP : va_P g.1 cl (MW g ma cd rg hd (nF oo) (nF kp) (nI td) (nF tx) ct fd os oq vs sk ++ ((oa, aJ g 1 ou) :: (CW g ad rg hd (nF od) (nF tx) (nI td) sm pa pr fl op du qa ab ac qb be bc wd ++ []))) H := wp_perm (pm_ab _ _ _) hP
          have hD : va_D (gA g) (MW g ma cd rg hd (nF oo) (nF kp) (nI td) (nF tx) ct fd os oq vs sk ++ ((oa, aJ g 1 ou) :: (CW g ad rg hd (nF od) (nF tx) (nI td) sm pa pr fl op du qa ab ac qb be bc wd ++ []))) := wd_perm (pm_ab _ _ _) hD
          refine pc_Vv (q0 := 0) (As := [.int (nI k1), .int (nI k2), .int (nI k3), .int (nI 0)]) (rest := []) hx hb (hml.trans hl.1.symm) hown ht F hP hD hS (c2_MD_quantify l g ma cd rg hd (nF oo) (nF kp) (nI td) (nF tx) ct fd os oq vs sk ((oa, aJ g 1 ou) :: (CW g ad rg hd (nF od) (nF tx) (nI td) sm pa pr fl op du qa ab ac qb be bc wd ++ [])) k1 k2 k3 (nI 0) (by first | omega | exact q1 | exact q2 | exact q2.1 | exact q2.2 | exact q2.2.1 | exact q2.2.2 | exact I9.1.1 | exact I9.2.2.2.2 | exact I9.oo.1 | exact I9.oo | exact I9.2.2.2.1 | exact I9.2.2.1 | exact I9.2.2.2.2 _ (by omega) | exact (I9.2.2.2.2 _ (by omega)).resolve_right q2) (by first | omega | exact q1 | exact q2 | exact q2.1 | exact q2.2 | exact q2.2.1 | exact q2.2.2 | exact I9.1.1 | exact I9.2.2.2.2 | exact I9.oo.1 | exact I9.oo | exact I9.2.2.2.1 | exact I9.2.2.1 | exact I9.2.2.2.2 _ (by omega) | exact (I9.2.2.2.2 _ (by omega)).resolve_right q2) (by first | omega | exact q1 | exact q2 | exact q2.1 | exact q2.2 | exact q2.2.1 | exact q2.2.2 | exact I9.1.1 | exact I9.2.2.2.2 | exact I9.oo.1 | exact I9.oo | exact I9.2.2.2.1 | exact I9.2.2.1 | exact I9.2.2.2.2 _ (by omega) | exact (I9.2.2.2.2 _ (by omega)).resolve_right q2) (by first | omega | exact q1 | exact q2 | exact q2.1 | exact q2.2 | exact q2.2.1 | exact q2.2.2 | exact I9.1.1 | exact I9.2.2.2.2 | exact I9.oo.1 | exact I9.oo | exact I9.2.2.2.1 | exact I9.2.2.1 | exact I9.2.2.2.2 _ (by omega) | exact (I9.2.2.2.2 _ (by omega)).resolve_right q2) (by first | omega | exact q1 | exact q2 | exact q2.1 | exact q2.2 | exact q2.2.1 | exact q2.2.2 | exact I9.1.1 | exact I9.2.2.2.2 | exact I9.oo.1 | exact I9.oo | exact I9.2.2.2.1 | exact I9.2.2.1 | exact I9.2.2.2.2 _ (by omega) | exact (I9.2.2.2.2 _ (by omega)).resolve_right q2)) v_MD_quantify tw_554 ⟨rfl, rfl⟩ ⟨by decide, by decide⟩ rfl rfl rfl rfl (Nat.le_of_ble_eq_true rfl) ⟨hc1, hs1⟩ d_LW_law_555 (fun u9 H locs hq hP hD hS => ?_)
          have hP : va_P g.1 cl (MW g ma (nI 2) rg hd (nF oo) (nF kp) (nI td) (nF tx) ct fd os oq vs sk ++ ((oa, aJ g 1 ou) :: (CW g ad rg hd (nF od) (nF tx) (nI td) sm pa pr fl op du qa ab ac qb be bc wd ++ []))) H := hP
          have hD : va_D (gA g) (MW g ma (nI 2) rg hd (nF oo) (nF kp) (nI td) (nF tx) ct fd os oq vs sk ++ ((oa, aJ g 1 ou) :: (CW g ad rg hd (nF od) (nF tx) (nI td) sm pa pr fl op du qa ab ac qb be bc wd ++ []))) := hD
          refine lv_aload_n hx hb d_LW_law_558 rfl (lv_at hl 4 rfl) ?_
          refine pc_Vi (q0 := 0) (As := []) (rest := []) hx hb (hml.trans hl.1.symm) hown ht F hP hD hS (c_MD_thrown l g ma (nI 2) rg hd (nF oo) (nF kp) (nI td) (nF tx) ct fd os oq vs sk ((oa, aJ g 1 ou) :: (CW g ad rg hd (nF od) (nF tx) (nI td) sm pa pr fl op du qa ab ac qb be bc wd ++ []))) v_MD_thrown tw_510 ⟨rfl, rfl⟩ ⟨by decide, by decide⟩ rfl rfl rfl rfl (Nat.le_of_ble_eq_true rfl) ⟨hc1, hs1⟩ d_LW_law_559 (fun r9 u9 H locs hq hP hD hS => ?_)
          subst hq
          refine lv_iload hx hb d_LW_law_562 (lv_at hl 0 rfl) ?_
          refine rc_eq (tgt := 569) hx hb (by omega) (by omega) d_LW_law_564 (by decide) (fun c564 => ?_) (fun c564 => ?_)
          · refine lv_goto (tgt := 1402) hx hb d_LW_law_569 (by decide) ?_
            have hP : va_P g.1 cl (CW g ad rg hd (nF od) (nF tx) (nI td) sm pa pr fl op du qa ab ac qb be bc wd ++ ((oa, aJ g 1 ou) :: (MW g ma (nI 2) rg hd (nF oo) (nF kp) (nI td) (nF tx) ct fd os oq vs sk ++ []))) H := wp_perm (pm_ab _ _ _) hP
            have hD : va_D (gA g) (CW g ad rg hd (nF od) (nF tx) (nI td) sm pa pr fl op du qa ab ac qb be bc wd ++ ((oa, aJ g 1 ou) :: (MW g ma (nI 2) rg hd (nF oo) (nF kp) (nI td) (nF tx) ct fd os oq vs sk ++ []))) := wd_perm (pm_ab _ _ _) hD
            refine W.widen (k := cells + 1) (n := slots + 6) (by omega) (by omega) ?_
            exact kk H locs ls ⟨rg, hd, od, tx, td, sm, pa, pr, fl, op, du, qa, ab, ac, qb, be, bc, wd, ou, nI 2, oo, kp, ct, fd, os, oq, vs, sk, I9, hP, hD⟩ hS (lv_sub hl [1, 2, 3, 4, 5] rfl)
          · exact (by omega : False).elim
        · exact absurd c509 c547
      · refine lv_iconst (v := nI 1) hx hb d_LW_law_512 (by decide) ?_
        refine lv_goto (tgt := 517) hx hb d_LW_law_513 (by decide) ?_
        refine pc_T (As := [.ref (ad 0), .int (nI k1), .int (nI k2), .int (nI k3), .int (nI 1)]) (rest := []) hx hb (hml.trans hl.1.symm) hown ht F hP hD hS (c2_LW_quantify l hl0 g ad oa rg hd (nF od) (nF tx) (nI td) sm pa pr fl op du qa ab ac qb be bc wd ou (MW g ma cd rg hd (nF oo) (nF kp) (nI td) (nF tx) ct fd os oq vs sk ++ []) k1 k2 k3 (nI 1) (by first | omega | exact q1 | exact q2 | exact q2.1 | exact q2.2 | exact q2.2.1 | exact q2.2.2 | exact I9.1.1 | exact I9.2.2.2.2 | exact I9.oo.1 | exact I9.oo | exact I9.2.2.2.1 | exact I9.2.2.1 | exact I9.2.2.2.2 _ (by omega) | exact (I9.2.2.2.2 _ (by omega)).resolve_right q2) (by first | omega | exact q1 | exact q2 | exact q2.1 | exact q2.2 | exact q2.2.1 | exact q2.2.2 | exact I9.1.1 | exact I9.2.2.2.2 | exact I9.oo.1 | exact I9.oo | exact I9.2.2.2.1 | exact I9.2.2.1 | exact I9.2.2.2.2 _ (by omega) | exact (I9.2.2.2.2 _ (by omega)).resolve_right q2) (by first | omega | exact q1 | exact q2 | exact q2.1 | exact q2.2 | exact q2.2.1 | exact q2.2.2 | exact I9.1.1 | exact I9.2.2.2.2 | exact I9.oo.1 | exact I9.oo | exact I9.2.2.2.1 | exact I9.2.2.1 | exact I9.2.2.2.2 _ (by omega) | exact (I9.2.2.2.2 _ (by omega)).resolve_right q2) (by first | omega | exact q1 | exact q2 | exact q2.1 | exact q2.2 | exact q2.2.1 | exact q2.2.2 | exact I9.1.1 | exact I9.2.2.2.2 | exact I9.oo.1 | exact I9.oo | exact I9.2.2.2.1 | exact I9.2.2.1 | exact I9.2.2.2.2 _ (by omega) | exact (I9.2.2.2.2 _ (by omega)).resolve_right q2) (by first | omega | exact q1 | exact q2 | exact q2.1 | exact q2.2 | exact q2.2.1 | exact q2.2.2 | exact I9.1.1 | exact I9.2.2.2.2 | exact I9.oo.1 | exact I9.oo | exact I9.2.2.2.1 | exact I9.2.2.1 | exact I9.2.2.2.2 _ (by omega) | exact (I9.2.2.2.2 _ (by omega)).resolve_right q2)) v_LW_quantify tw_290 ⟨rfl, rfl⟩ ⟨by decide, by decide⟩ rfl rfl (Nat.le_of_ble_eq_true rfl) ⟨hc1, hs1⟩ d_LW_law_517 (fun r9 u9 H locs hq hP hD hS => ?_)
        subst hq
        refine lv_istore (lv' := [(5, .int (nI 2)), (4, .int (nI i)), (0, .ref b), (1, .ref (ad 0)), (2, .ref (ma 0)), (3, .ref oa)]) hx hb d_LW_law_520 hl (by decide) rfl (fun ls hl => ?_)
        refine lv_aload_n hx hb d_LW_law_522 rfl (lv_at hl 4 rfl) ?_
        refine lv_aload_n hx hb d_LW_law_523 rfl (lv_at hl 2 rfl) ?_
        refine lv_iload hx hb d_LW_law_524 (lv_at hl 1 rfl) ?_
        refine lv_iconst (v := nI 1) hx hb d_LW_law_526 (by decide) ?_
        refine rn_add hx hb d_LW_law_527 ?_
        refine rl_s hx hb hX hbl hbA hS (by omega) (by omega) hx1 d_LW_law_528 ?_
        refine lv_aload_n hx hb d_LW_law_529 rfl (lv_at hl 2 rfl) ?_
        refine lv_iload hx hb d_LW_law_530 (lv_at hl 1 rfl) ?_
        refine lv_iconst (v := nI 2) hx hb d_LW_law_532 (by decide) ?_
        refine rn_add hx hb d_LW_law_533 ?_
        refine rl_s hx hb hX hbl hbA hS (by omega) (by omega) hx2 d_LW_law_534 ?_
        refine lv_aload_n hx hb d_LW_law_535 rfl (lv_at hl 2 rfl) ?_
        refine lv_iload hx hb d_LW_law_536 (lv_at hl 1 rfl) ?_
        refine lv_iconst (v := nI 3) hx hb d_LW_law_538 (by decide) ?_
        refine rn_add hx hb d_LW_law_539 ?_
        refine rl_s hx hb hX hbl hbA hS (by omega) (by omega) hx3 d_LW_law_540 ?_
        refine lv_aload_n hx hb d_LW_law_541 rfl (lv_at hl 2 rfl) ?_
        refine lv_iload hx hb d_LW_law_542 (lv_at hl 1 rfl) ?_
        refine lv_iconst (v := nI 4) hx hb d_LW_law_544 (by decide) ?_
        refine rn_add hx hb d_LW_law_545 ?_
        refine rl_s hx hb hX hbl hbA hS (by omega) (by omega) hx4 d_LW_law_546 ?_
        refine lv_if_eq (tgt := 554) hx hb d_LW_law_547 (by decide) (fun c547 => ?_) (fun c547 => ?_)
        · exact absurd c547 c509
        · refine lv_iconst (v := nI 1) hx hb d_LW_law_550 (by decide) ?_
          refine lv_goto (tgt := 555) hx hb d_LW_law_551 (by decide) ?_
          have hP : va_P g.1 cl (MW g ma cd rg hd (nF oo) (nF kp) (nI td) (nF tx) ct fd os oq vs sk ++ ((oa, aJ g 1 ou) :: (CW g ad rg hd (nF od) (nF tx) (nI td) sm pa pr fl op du qa ab ac qb be bc wd ++ []))) H := wp_perm (pm_ab _ _ _) hP
          have hD : va_D (gA g) (MW g ma cd rg hd (nF oo) (nF kp) (nI td) (nF tx) ct fd os oq vs sk ++ ((oa, aJ g 1 ou) :: (CW g ad rg hd (nF od) (nF tx) (nI td) sm pa pr fl op du qa ab ac qb be bc wd ++ []))) := wd_perm (pm_ab _ _ _) hD
          refine pc_Vv (q0 := 0) (As := [.int (nI k1), .int (nI k2), .int (nI k3), .int (nI 1)]) (rest := []) hx hb (hml.trans hl.1.symm) hown ht F hP hD hS (c2_MD_quantify l g ma cd rg hd (nF oo) (nF kp) (nI td) (nF tx) ct fd os oq vs sk ((oa, aJ g 1 ou) :: (CW g ad rg hd (nF od) (nF tx) (nI td) sm pa pr fl op du qa ab ac qb be bc wd ++ [])) k1 k2 k3 (nI 1) (by first | omega | exact q1 | exact q2 | exact q2.1 | exact q2.2 | exact q2.2.1 | exact q2.2.2 | exact I9.1.1 | exact I9.2.2.2.2 | exact I9.oo.1 | exact I9.oo | exact I9.2.2.2.1 | exact I9.2.2.1 | exact I9.2.2.2.2 _ (by omega) | exact (I9.2.2.2.2 _ (by omega)).resolve_right q2) (by first | omega | exact q1 | exact q2 | exact q2.1 | exact q2.2 | exact q2.2.1 | exact q2.2.2 | exact I9.1.1 | exact I9.2.2.2.2 | exact I9.oo.1 | exact I9.oo | exact I9.2.2.2.1 | exact I9.2.2.1 | exact I9.2.2.2.2 _ (by omega) | exact (I9.2.2.2.2 _ (by omega)).resolve_right q2) (by first | omega | exact q1 | exact q2 | exact q2.1 | exact q2.2 | exact q2.2.1 | exact q2.2.2 | exact I9.1.1 | exact I9.2.2.2.2 | exact I9.oo.1 | exact I9.oo | exact I9.2.2.2.1 | exact I9.2.2.1 | exact I9.2.2.2.2 _ (by omega) | exact (I9.2.2.2.2 _ (by omega)).resolve_right q2) (by first | omega | exact q1 | exact q2 | exact q2.1 | exact q2.2 | exact q2.2.1 | exact q2.2.2 | exact I9.1.1 | exact I9.2.2.2.2 | exact I9.oo.1 | exact I9.oo | exact I9.2.2.2.1 | exact I9.2.2.1 | exact I9.2.2.2.2 _ (by omega) | exact (I9.2.2.2.2 _ (by omega)).resolve_right q2) (by first | omega | exact q1 | exact q2 | exact q2.1 | exact q2.2 | exact q2.2.1 | exact q2.2.2 | exact I9.1.1 | exact I9.2.2.2.2 | exact I9.oo.1 | exact I9.oo | exact I9.2.2.2.1 | exact I9.2.2.1 | exact I9.2.2.2.2 _ (by omega) | exact (I9.2.2.2.2 _ (by omega)).resolve_right q2)) v_MD_quantify tw_554 ⟨rfl, rfl⟩ ⟨by decide, by decide⟩ rfl rfl rfl rfl (Nat.le_of_ble_eq_true rfl) ⟨hc1, hs1⟩ d_LW_law_555 (fun u9 H locs hq hP hD hS => ?_)
          have hP : va_P g.1 cl (MW g ma (nI 2) rg hd (nF oo) (nF kp) (nI td) (nF tx) ct fd os oq vs sk ++ ((oa, aJ g 1 ou) :: (CW g ad rg hd (nF od) (nF tx) (nI td) sm pa pr fl op du qa ab ac qb be bc wd ++ []))) H := hP
          have hD : va_D (gA g) (MW g ma (nI 2) rg hd (nF oo) (nF kp) (nI td) (nF tx) ct fd os oq vs sk ++ ((oa, aJ g 1 ou) :: (CW g ad rg hd (nF od) (nF tx) (nI td) sm pa pr fl op du qa ab ac qb be bc wd ++ []))) := hD
          refine lv_aload_n hx hb d_LW_law_558 rfl (lv_at hl 4 rfl) ?_
          refine pc_Vi (q0 := 0) (As := []) (rest := []) hx hb (hml.trans hl.1.symm) hown ht F hP hD hS (c_MD_thrown l g ma (nI 2) rg hd (nF oo) (nF kp) (nI td) (nF tx) ct fd os oq vs sk ((oa, aJ g 1 ou) :: (CW g ad rg hd (nF od) (nF tx) (nI td) sm pa pr fl op du qa ab ac qb be bc wd ++ []))) v_MD_thrown tw_510 ⟨rfl, rfl⟩ ⟨by decide, by decide⟩ rfl rfl rfl rfl (Nat.le_of_ble_eq_true rfl) ⟨hc1, hs1⟩ d_LW_law_559 (fun r9 u9 H locs hq hP hD hS => ?_)
          subst hq
          refine lv_iload hx hb d_LW_law_562 (lv_at hl 0 rfl) ?_
          refine rc_eq (tgt := 569) hx hb (by omega) (by omega) d_LW_law_564 (by decide) (fun c564 => ?_) (fun c564 => ?_)
          · refine lv_goto (tgt := 1402) hx hb d_LW_law_569 (by decide) ?_
            have hP : va_P g.1 cl (CW g ad rg hd (nF od) (nF tx) (nI td) sm pa pr fl op du qa ab ac qb be bc wd ++ ((oa, aJ g 1 ou) :: (MW g ma (nI 2) rg hd (nF oo) (nF kp) (nI td) (nF tx) ct fd os oq vs sk ++ []))) H := wp_perm (pm_ab _ _ _) hP
            have hD : va_D (gA g) (CW g ad rg hd (nF od) (nF tx) (nI td) sm pa pr fl op du qa ab ac qb be bc wd ++ ((oa, aJ g 1 ou) :: (MW g ma (nI 2) rg hd (nF oo) (nF kp) (nI td) (nF tx) ct fd os oq vs sk ++ []))) := wd_perm (pm_ab _ _ _) hD
            refine W.widen (k := cells + 1) (n := slots + 6) (by omega) (by omega) ?_
            exact kk H locs ls ⟨rg, hd, od, tx, td, sm, pa, pr, fl, op, du, qa, ab, ac, qb, be, bc, wd, ou, nI 2, oo, kp, ct, fd, os, oq, vs, sk, I9, hP, hD⟩ hS (lv_sub hl [1, 2, 3, 4, 5] rfl)
          · exact (by omega : False).elim
  · refine lv_aload_n hx hb d_LW_law_484 rfl (lv_at hl 2 rfl) ?_
    refine lv_aload_n hx hb d_LW_law_485 rfl (lv_at hl 1 rfl) ?_
    refine lv_iload hx hb d_LW_law_486 (lv_at hl 0 rfl) ?_
    refine lv_iconst (v := nI 1) hx hb d_LW_law_488 (by decide) ?_
    refine rn_add hx hb d_LW_law_489 ?_
    refine rl_s hx hb hX hbl hbA hS (by omega) (by omega) hx1 d_LW_law_490 ?_
    refine lv_aload_n hx hb d_LW_law_491 rfl (lv_at hl 1 rfl) ?_
    refine lv_iload hx hb d_LW_law_492 (lv_at hl 0 rfl) ?_
    refine lv_iconst (v := nI 2) hx hb d_LW_law_494 (by decide) ?_
    refine rn_add hx hb d_LW_law_495 ?_
    refine rl_s hx hb hX hbl hbA hS (by omega) (by omega) hx2 d_LW_law_496 ?_
    refine lv_aload_n hx hb d_LW_law_497 rfl (lv_at hl 1 rfl) ?_
    refine lv_iload hx hb d_LW_law_498 (lv_at hl 0 rfl) ?_
    refine lv_iconst (v := nI 3) hx hb d_LW_law_500 (by decide) ?_
    refine rn_add hx hb d_LW_law_501 ?_
    refine rl_s hx hb hX hbl hbA hS (by omega) (by omega) hx3 d_LW_law_502 ?_
    refine lv_aload_n hx hb d_LW_law_503 rfl (lv_at hl 1 rfl) ?_
    refine lv_iload hx hb d_LW_law_504 (lv_at hl 0 rfl) ?_
    refine lv_iconst (v := nI 4) hx hb d_LW_law_506 (by decide) ?_
    refine rn_add hx hb d_LW_law_507 ?_
    refine rl_s hx hb hX hbl hbA hS (by omega) (by omega) hx4 d_LW_law_508 ?_
    refine lv_if_eq (tgt := 516) hx hb d_LW_law_509 (by decide) (fun c509 => ?_) (fun c509 => ?_)
    · refine lv_iconst (v := nI 0) hx hb d_LW_law_516 (by decide) ?_
      refine pc_T (As := [.ref (ad 0), .int x1, .int x2, .int x3, .int (nI 0)]) (rest := []) hx hb (hml.trans hl.1.symm) hown ht F hP hD hS (c1_LW_quantify l hl0 g ad oa rg hd (nF od) (nF tx) (nI td) sm pa pr fl op du qa ab ac qb be bc wd ou (MW g ma cd rg hd (nF oo) (nF kp) (nI td) (nF tx) ct fd os oq vs sk ++ []) x1 x2 x3 (nI 0) (by first | omega | exact q1 | exact q2 | exact q2.1 | exact q2.2 | exact q2.2.1 | exact q2.2.2 | exact I9.1.1 | exact I9.2.2.2.2 | exact I9.oo.1 | exact I9.oo | exact I9.2.2.2.1 | exact I9.2.2.1 | exact I9.2.2.2.2 _ (by omega) | exact (I9.2.2.2.2 _ (by omega)).resolve_right q2)) v_LW_quantify tw_290 ⟨rfl, rfl⟩ ⟨by decide, by decide⟩ rfl rfl (Nat.le_of_ble_eq_true rfl) ⟨hc1, hs1⟩ d_LW_law_517 (fun r9 u9 H locs hq hP hD hS => ?_)
      subst hq
      refine lv_istore (lv' := [(5, .int (nI 1)), (4, .int (nI i)), (0, .ref b), (1, .ref (ad 0)), (2, .ref (ma 0)), (3, .ref oa)]) hx hb d_LW_law_520 hl (by decide) rfl (fun ls hl => ?_)
      refine lv_aload_n hx hb d_LW_law_522 rfl (lv_at hl 4 rfl) ?_
      refine lv_aload_n hx hb d_LW_law_523 rfl (lv_at hl 2 rfl) ?_
      refine lv_iload hx hb d_LW_law_524 (lv_at hl 1 rfl) ?_
      refine lv_iconst (v := nI 1) hx hb d_LW_law_526 (by decide) ?_
      refine rn_add hx hb d_LW_law_527 ?_
      refine rl_s hx hb hX hbl hbA hS (by omega) (by omega) hx1 d_LW_law_528 ?_
      refine lv_aload_n hx hb d_LW_law_529 rfl (lv_at hl 2 rfl) ?_
      refine lv_iload hx hb d_LW_law_530 (lv_at hl 1 rfl) ?_
      refine lv_iconst (v := nI 2) hx hb d_LW_law_532 (by decide) ?_
      refine rn_add hx hb d_LW_law_533 ?_
      refine rl_s hx hb hX hbl hbA hS (by omega) (by omega) hx2 d_LW_law_534 ?_
      refine lv_aload_n hx hb d_LW_law_535 rfl (lv_at hl 2 rfl) ?_
      refine lv_iload hx hb d_LW_law_536 (lv_at hl 1 rfl) ?_
      refine lv_iconst (v := nI 3) hx hb d_LW_law_538 (by decide) ?_
      refine rn_add hx hb d_LW_law_539 ?_
      refine rl_s hx hb hX hbl hbA hS (by omega) (by omega) hx3 d_LW_law_540 ?_
      refine lv_aload_n hx hb d_LW_law_541 rfl (lv_at hl 2 rfl) ?_
      refine lv_iload hx hb d_LW_law_542 (lv_at hl 1 rfl) ?_
      refine lv_iconst (v := nI 4) hx hb d_LW_law_544 (by decide) ?_
      refine rn_add hx hb d_LW_law_545 ?_
      refine rl_s hx hb hX hbl hbA hS (by omega) (by omega) hx4 d_LW_law_546 ?_
      refine lv_if_eq (tgt := 554) hx hb d_LW_law_547 (by decide) (fun c547 => ?_) (fun c547 => ?_)
      · refine lv_iconst (v := nI 0) hx hb d_LW_law_554 (by decide) ?_
        have hP : va_P g.1 cl (MW g ma cd rg hd (nF oo) (nF kp) (nI td) (nF tx) ct fd os oq vs sk ++ ((oa, aJ g 1 ou) :: (CW g ad rg hd (nF od) (nF tx) (nI td) sm pa pr fl op du qa ab ac qb be bc wd ++ []))) H := wp_perm (pm_ab _ _ _) hP
        have hD : va_D (gA g) (MW g ma cd rg hd (nF oo) (nF kp) (nI td) (nF tx) ct fd os oq vs sk ++ ((oa, aJ g 1 ou) :: (CW g ad rg hd (nF od) (nF tx) (nI td) sm pa pr fl op du qa ab ac qb be bc wd ++ []))) := wd_perm (pm_ab _ _ _) hD
        refine pc_Vv (q0 := 0) (As := [.int x1, .int x2, .int x3, .int (nI 0)]) (rest := []) hx hb (hml.trans hl.1.symm) hown ht F hP hD hS (c1_MD_quantify l g ma cd rg hd (nF oo) (nF kp) (nI td) (nF tx) ct fd os oq vs sk ((oa, aJ g 1 ou) :: (CW g ad rg hd (nF od) (nF tx) (nI td) sm pa pr fl op du qa ab ac qb be bc wd ++ [])) x1 x2 x3 (nI 0) (by first | omega | exact q1 | exact q2 | exact q2.1 | exact q2.2 | exact q2.2.1 | exact q2.2.2 | exact I9.1.1 | exact I9.2.2.2.2 | exact I9.oo.1 | exact I9.oo | exact I9.2.2.2.1 | exact I9.2.2.1 | exact I9.2.2.2.2 _ (by omega) | exact (I9.2.2.2.2 _ (by omega)).resolve_right q2)) v_MD_quantify tw_554 ⟨rfl, rfl⟩ ⟨by decide, by decide⟩ rfl rfl rfl rfl (Nat.le_of_ble_eq_true rfl) ⟨hc1, hs1⟩ d_LW_law_555 (fun u9 H locs hq hP hD hS => ?_)
        have hP : va_P g.1 cl (MW g ma (nI 1) rg hd (nF oo) (nF kp) (nI td) (nF tx) ct fd os oq vs sk ++ ((oa, aJ g 1 ou) :: (CW g ad rg hd (nF od) (nF tx) (nI td) sm pa pr fl op du qa ab ac qb be bc wd ++ []))) H := hP
        have hD : va_D (gA g) (MW g ma (nI 1) rg hd (nF oo) (nF kp) (nI td) (nF tx) ct fd os oq vs sk ++ ((oa, aJ g 1 ou) :: (CW g ad rg hd (nF od) (nF tx) (nI td) sm pa pr fl op du qa ab ac qb be bc wd ++ []))) := hD
        refine lv_aload_n hx hb d_LW_law_558 rfl (lv_at hl 4 rfl) ?_
        refine pc_Vi (q0 := 0) (As := []) (rest := []) hx hb (hml.trans hl.1.symm) hown ht F hP hD hS (c_MD_thrown l g ma (nI 1) rg hd (nF oo) (nF kp) (nI td) (nF tx) ct fd os oq vs sk ((oa, aJ g 1 ou) :: (CW g ad rg hd (nF od) (nF tx) (nI td) sm pa pr fl op du qa ab ac qb be bc wd ++ []))) v_MD_thrown tw_510 ⟨rfl, rfl⟩ ⟨by decide, by decide⟩ rfl rfl rfl rfl (Nat.le_of_ble_eq_true rfl) ⟨hc1, hs1⟩ d_LW_law_559 (fun r9 u9 H locs hq hP hD hS => ?_)
        subst hq
        refine lv_iload hx hb d_LW_law_562 (lv_at hl 0 rfl) ?_
        refine rc_eq (tgt := 569) hx hb (by omega) (by omega) d_LW_law_564 (by decide) (fun c564 => ?_) (fun c564 => ?_)
        · refine lv_goto (tgt := 1402) hx hb d_LW_law_569 (by decide) ?_
          have hP : va_P g.1 cl (CW g ad rg hd (nF od) (nF tx) (nI td) sm pa pr fl op du qa ab ac qb be bc wd ++ ((oa, aJ g 1 ou) :: (MW g ma (nI 1) rg hd (nF oo) (nF kp) (nI td) (nF tx) ct fd os oq vs sk ++ []))) H := wp_perm (pm_ab _ _ _) hP
          have hD : va_D (gA g) (CW g ad rg hd (nF od) (nF tx) (nI td) sm pa pr fl op du qa ab ac qb be bc wd ++ ((oa, aJ g 1 ou) :: (MW g ma (nI 1) rg hd (nF oo) (nF kp) (nI td) (nF tx) ct fd os oq vs sk ++ []))) := wd_perm (pm_ab _ _ _) hD
          refine W.widen (k := cells + 1) (n := slots + 6) (by omega) (by omega) ?_
          exact kk H locs ls ⟨rg, hd, od, tx, td, sm, pa, pr, fl, op, du, qa, ab, ac, qb, be, bc, wd, ou, nI 1, oo, kp, ct, fd, os, oq, vs, sk, I9, hP, hD⟩ hS (lv_sub hl [1, 2, 3, 4, 5] rfl)
        · exact (by omega : False).elim
      · exact absurd c509 c547
    · refine lv_iconst (v := nI 1) hx hb d_LW_law_512 (by decide) ?_
      refine lv_goto (tgt := 517) hx hb d_LW_law_513 (by decide) ?_
      refine pc_T (As := [.ref (ad 0), .int x1, .int x2, .int x3, .int (nI 1)]) (rest := []) hx hb (hml.trans hl.1.symm) hown ht F hP hD hS (c1_LW_quantify l hl0 g ad oa rg hd (nF od) (nF tx) (nI td) sm pa pr fl op du qa ab ac qb be bc wd ou (MW g ma cd rg hd (nF oo) (nF kp) (nI td) (nF tx) ct fd os oq vs sk ++ []) x1 x2 x3 (nI 1) (by first | omega | exact q1 | exact q2 | exact q2.1 | exact q2.2 | exact q2.2.1 | exact q2.2.2 | exact I9.1.1 | exact I9.2.2.2.2 | exact I9.oo.1 | exact I9.oo | exact I9.2.2.2.1 | exact I9.2.2.1 | exact I9.2.2.2.2 _ (by omega) | exact (I9.2.2.2.2 _ (by omega)).resolve_right q2)) v_LW_quantify tw_290 ⟨rfl, rfl⟩ ⟨by decide, by decide⟩ rfl rfl (Nat.le_of_ble_eq_true rfl) ⟨hc1, hs1⟩ d_LW_law_517 (fun r9 u9 H locs hq hP hD hS => ?_)
      subst hq
      refine lv_istore (lv' := [(5, .int (nI 1)), (4, .int (nI i)), (0, .ref b), (1, .ref (ad 0)), (2, .ref (ma 0)), (3, .ref oa)]) hx hb d_LW_law_520 hl (by decide) rfl (fun ls hl => ?_)
      refine lv_aload_n hx hb d_LW_law_522 rfl (lv_at hl 4 rfl) ?_
      refine lv_aload_n hx hb d_LW_law_523 rfl (lv_at hl 2 rfl) ?_
      refine lv_iload hx hb d_LW_law_524 (lv_at hl 1 rfl) ?_
      refine lv_iconst (v := nI 1) hx hb d_LW_law_526 (by decide) ?_
      refine rn_add hx hb d_LW_law_527 ?_
      refine rl_s hx hb hX hbl hbA hS (by omega) (by omega) hx1 d_LW_law_528 ?_
      refine lv_aload_n hx hb d_LW_law_529 rfl (lv_at hl 2 rfl) ?_
      refine lv_iload hx hb d_LW_law_530 (lv_at hl 1 rfl) ?_
      refine lv_iconst (v := nI 2) hx hb d_LW_law_532 (by decide) ?_
      refine rn_add hx hb d_LW_law_533 ?_
      refine rl_s hx hb hX hbl hbA hS (by omega) (by omega) hx2 d_LW_law_534 ?_
      refine lv_aload_n hx hb d_LW_law_535 rfl (lv_at hl 2 rfl) ?_
      refine lv_iload hx hb d_LW_law_536 (lv_at hl 1 rfl) ?_
      refine lv_iconst (v := nI 3) hx hb d_LW_law_538 (by decide) ?_
      refine rn_add hx hb d_LW_law_539 ?_
      refine rl_s hx hb hX hbl hbA hS (by omega) (by omega) hx3 d_LW_law_540 ?_
      refine lv_aload_n hx hb d_LW_law_541 rfl (lv_at hl 2 rfl) ?_
      refine lv_iload hx hb d_LW_law_542 (lv_at hl 1 rfl) ?_
      refine lv_iconst (v := nI 4) hx hb d_LW_law_544 (by decide) ?_
      refine rn_add hx hb d_LW_law_545 ?_
      refine rl_s hx hb hX hbl hbA hS (by omega) (by omega) hx4 d_LW_law_546 ?_
      refine lv_if_eq (tgt := 554) hx hb d_LW_law_547 (by decide) (fun c547 => ?_) (fun c547 => ?_)
      · exact absurd c547 c509
      · refine lv_iconst (v := nI 1) hx hb d_LW_law_550 (by decide) ?_
        refine lv_goto (tgt := 555) hx hb d_LW_law_551 (by decide) ?_
        have hP : va_P g.1 cl (MW g ma cd rg hd (nF oo) (nF kp) (nI td) (nF tx) ct fd os oq vs sk ++ ((oa, aJ g 1 ou) :: (CW g ad rg hd (nF od) (nF tx) (nI td) sm pa pr fl op du qa ab ac qb be bc wd ++ []))) H := wp_perm (pm_ab _ _ _) hP
        have hD : va_D (gA g) (MW g ma cd rg hd (nF oo) (nF kp) (nI td) (nF tx) ct fd os oq vs sk ++ ((oa, aJ g 1 ou) :: (CW g ad rg hd (nF od) (nF tx) (nI td) sm pa pr fl op du qa ab ac qb be bc wd ++ []))) := wd_perm (pm_ab _ _ _) hD
        refine pc_Vv (q0 := 0) (As := [.int x1, .int x2, .int x3, .int (nI 1)]) (rest := []) hx hb (hml.trans hl.1.symm) hown ht F hP hD hS (c1_MD_quantify l g ma cd rg hd (nF oo) (nF kp) (nI td) (nF tx) ct fd os oq vs sk ((oa, aJ g 1 ou) :: (CW g ad rg hd (nF od) (nF tx) (nI td) sm pa pr fl op du qa ab ac qb be bc wd ++ [])) x1 x2 x3 (nI 1) (by first | omega | exact q1 | exact q2 | exact q2.1 | exact q2.2 | exact q2.2.1 | exact q2.2.2 | exact I9.1.1 | exact I9.2.2.2.2 | exact I9.oo.1 | exact I9.oo | exact I9.2.2.2.1 | exact I9.2.2.1 | exact I9.2.2.2.2 _ (by omega) | exact (I9.2.2.2.2 _ (by omega)).resolve_right q2)) v_MD_quantify tw_554 ⟨rfl, rfl⟩ ⟨by decide, by decide⟩ rfl rfl rfl rfl (Nat.le_of_ble_eq_true rfl) ⟨hc1, hs1⟩ d_LW_law_555 (fun u9 H locs hq hP hD hS => ?_)
        have hP : va_P g.1 cl (MW g ma (nI 1) rg hd (nF oo) (nF kp) (nI td) (nF tx) ct fd os oq vs sk ++ ((oa, aJ g 1 ou) :: (CW g ad rg hd (nF od) (nF tx) (nI td) sm pa pr fl op du qa ab ac qb be bc wd ++ []))) H := hP
        have hD : va_D (gA g) (MW g ma (nI 1) rg hd (nF oo) (nF kp) (nI td) (nF tx) ct fd os oq vs sk ++ ((oa, aJ g 1 ou) :: (CW g ad rg hd (nF od) (nF tx) (nI td) sm pa pr fl op du qa ab ac qb be bc wd ++ []))) := hD
        refine lv_aload_n hx hb d_LW_law_558 rfl (lv_at hl 4 rfl) ?_
        refine pc_Vi (q0 := 0) (As := []) (rest := []) hx hb (hml.trans hl.1.symm) hown ht F hP hD hS (c_MD_thrown l g ma (nI 1) rg hd (nF oo) (nF kp) (nI td) (nF tx) ct fd os oq vs sk ((oa, aJ g 1 ou) :: (CW g ad rg hd (nF od) (nF tx) (nI td) sm pa pr fl op du qa ab ac qb be bc wd ++ []))) v_MD_thrown tw_510 ⟨rfl, rfl⟩ ⟨by decide, by decide⟩ rfl rfl rfl rfl (Nat.le_of_ble_eq_true rfl) ⟨hc1, hs1⟩ d_LW_law_559 (fun r9 u9 H locs hq hP hD hS => ?_)
        subst hq
        refine lv_iload hx hb d_LW_law_562 (lv_at hl 0 rfl) ?_
        refine rc_eq (tgt := 569) hx hb (by omega) (by omega) d_LW_law_564 (by decide) (fun c564 => ?_) (fun c564 => ?_)
        · refine lv_goto (tgt := 1402) hx hb d_LW_law_569 (by decide) ?_
          have hP : va_P g.1 cl (CW g ad rg hd (nF od) (nF tx) (nI td) sm pa pr fl op du qa ab ac qb be bc wd ++ ((oa, aJ g 1 ou) :: (MW g ma (nI 1) rg hd (nF oo) (nF kp) (nI td) (nF tx) ct fd os oq vs sk ++ []))) H := wp_perm (pm_ab _ _ _) hP
          have hD : va_D (gA g) (CW g ad rg hd (nF od) (nF tx) (nI td) sm pa pr fl op du qa ab ac qb be bc wd ++ ((oa, aJ g 1 ou) :: (MW g ma (nI 1) rg hd (nF oo) (nF kp) (nI td) (nF tx) ct fd os oq vs sk ++ []))) := wd_perm (pm_ab _ _ _) hD
          refine W.widen (k := cells + 1) (n := slots + 6) (by omega) (by omega) ?_
          exact kk H locs ls ⟨rg, hd, od, tx, td, sm, pa, pr, fl, op, du, qa, ab, ac, qb, be, bc, wd, ou, nI 1, oo, kp, ct, fd, os, oq, vs, sk, I9, hP, hD⟩ hS (lv_sub hl [1, 2, 3, 4, 5] rfl)
        · exact (by omega : False).elim
set_option maxRecDepth 100000 in
set_option maxHeartbeats 4000000 in
theorem st_type {p : Program} {l : Launch} {e : Env} {s : State} {m : MethodId} {below : List Frame} {meth : Method} {c : Code} (hl0 : l.stackTraces = false) {g : Gx} {ad ma : Nat → Nat} {oa b L i : Nat} {xs : Nat → Int32} {x1 x2 x3 x4 : Int32} (hx : p.tables.exec = Jvm.exec) (hb : c.code = b_LW_law) (hml : c.maxLocals = 7) (hown : s.vm.findClass "SiftedGraphsLaw" = some m.cls) (ht : ∀ w ∈ TW, w.before #[Value.ref b] s = true) (F : Fx g s) (hX : va_X b L xs s s.heap) (hbl : b < s.heap.size) (hbA : ¬ gA g b) (hL : L ≤ 2560) (hi : i + 4 < L) (hx1 : xs (i + 1) = x1) (hx2 : xs (i + 2) = x2) (hx3 : xs (i + 3) = x3) (hx4 : xs (i + 4) = x4) {rg : Nat → Int64} {hd : Nat → Int32} {od : Nat → Nat} {tx : Nat → Nat} {td : Nat} {sm : Nat → Int64} {pa : Nat → Int64} {pr : Nat → Int64} {fl : Nat → Int64} {op : Int32} {du : Int32} {qa : Nat} {ab : Nat → Int64} {ac : Int32} {qb : Nat} {be : Nat → Int64} {bc : Int32} {wd : Nat → Int32} {ou : Nat → Int64} {cd : Int32} {oo : Nat → Nat} {kp : Nat → Nat} {ct : Int32} {fd : Nat → Int64} {os : Int32} {oq : Nat → Int32} {vs : Int32} {sk : Nat → Int64} (I9 : INV od oo tx hd td) {H : Heap} {locs : List Loc} {ls : Array Slot} (hP : va_P g.1 cl (CW g ad rg hd (nF od) (nF tx) (nI td) sm pa pr fl op du qa ab ac qb be bc wd ++ ((oa, aJ g 1 ou) :: (MW g ma cd rg hd (nF oo) (nF kp) (nI td) (nF tx) ct fd os oq vs sk ++ []))) H) (hD : va_D (gA g) (CW g ad rg hd (nF od) (nF tx) (nI td) sm pa pr fl op du qa ab ac qb be bc wd ++ ((oa, aJ g 1 ou) :: (MW g ma cd rg hd (nF oo) (nF kp) (nI td) (nF tx) ct fd os oq vs sk ++ [])))) (hS : va_S (gA g) s.heap H locs) (hl : lv_has ls 7 [(4, .int (nI i)), (0, .ref b), (1, .ref (ad 0)), (2, .ref (ma 0)), (3, .ref oa)]) {cells slots : Nat} (hc1 : cells + 1 ≤ room_1.cells) (hs1 : slots + 6 ≤ room_1.slots) {Q : State → Prop}
    (kk : ∀ (H : Heap) (locs : List Loc) (ls : Array Slot), LST g ad ma oa H → va_S (gA g) s.heap H locs → lv_has ls 7 [(4, .int (nI i)), (0, .ref b), (1, .ref (ad 0)), (2, .ref (ma 0)), (3, .ref oa)] → W p l e room_1 s m #[Value.ref b] below meth c H locs (cells + 1) (slots + 6) Q (F0 m 1402 ls [])) : W p l e room_1 s m #[Value.ref b] below meth c H locs cells slots Q (F0 m 572 ls []) := by
  have hcA : cells ≤ room_1.cells := Nat.le_of_succ_le hc1
  have hsA : slots ≤ room_1.slots := Nat.le_trans (Nat.le_add_right _ _) hs1
  by_cases q1 : ∃ k, 1 ≤ k ∧ k ≤ 8 ∧ td + k ≤ 40 ∧ x3 = nI k
  · obtain ⟨k3, g1, g2, g3, rfl⟩ := q1
    refine lv_aload_n hx hb d_LW_law_572 rfl (lv_at hl 2 rfl) ?_
    refine lv_aload_n hx hb d_LW_law_573 rfl (lv_at hl 1 rfl) ?_
    refine lv_iload hx hb d_LW_law_574 (lv_at hl 0 rfl) ?_
    refine lv_iconst (v := nI 1) hx hb d_LW_law_576 (by decide) ?_
    refine rn_add hx hb d_LW_law_577 ?_
    refine rl_s hx hb hX hbl hbA hS (by omega) (by omega) hx1 d_LW_law_578 ?_
    refine lv_i2l hx hb d_LW_law_579 rfl ?_
    refine lv_bipush (v := nI 32) hx hb d_LW_law_580 (by decide) ?_
    refine lv_lshl hx hb d_LW_law_582 rfl ?_
    refine lv_aload_n hx hb d_LW_law_583 rfl (lv_at hl 1 rfl) ?_
    refine lv_iload hx hb d_LW_law_584 (lv_at hl 0 rfl) ?_
    refine lv_iconst (v := nI 2) hx hb d_LW_law_586 (by decide) ?_
    refine rn_add hx hb d_LW_law_587 ?_
    refine rl_s hx hb hX hbl hbA hS (by omega) (by omega) hx2 d_LW_law_588 ?_
    refine lv_i2l hx hb d_LW_law_589 rfl ?_
    refine lv_ldc2 (v := 4294967295) hx hb hown (ht _ tw_660) d_LW_law_590 ?_
    refine lv_land hx hb d_LW_law_593 ?_
    refine lv_lor hx hb d_LW_law_594 ?_
    refine lv_aload_n hx hb d_LW_law_595 rfl (lv_at hl 1 rfl) ?_
    refine lv_iload hx hb d_LW_law_596 (lv_at hl 0 rfl) ?_
    refine lv_iconst (v := nI 3) hx hb d_LW_law_598 (by decide) ?_
    refine rn_add hx hb d_LW_law_599 ?_
    refine rl_s hx hb hX hbl hbA hS (by omega) (by omega) hx3 d_LW_law_600 ?_
    refine lv_aload_n hx hb d_LW_law_601 rfl (lv_at hl 4 rfl) ?_
    refine pc_T (As := [.ref (ad 0), .long ((x1.toInt64 <<< ((nI 32).toInt64 &&& 63)) ||| (x2.toInt64 &&& 4294967295)), .int (nI k3), .ref oa]) (rest := []) hx hb (hml.trans hl.1.symm) hown ht F hP hD hS (c_LW_type l g ad oa rg hd (nF od) sm pa pr fl op du qa ab ac qb be bc wd ou (MW g ma cd rg hd (nF oo) (nF kp) (nI td) (nF tx) ct fd os oq vs sk ++ []) tx td ((x1.toInt64 <<< ((nI 32).toInt64 &&& 63)) ||| (x2.toInt64 &&& 4294967295)) k3 (by first | omega | exact q1 | exact q2 | exact q2.1 | exact q2.2 | exact q2.2.1 | exact q2.2.2 | exact I9.1.1 | exact I9.2.2.2.2 | exact I9.oo.1 | exact I9.oo | exact I9.2.2.2.1 | exact I9.2.2.1 | exact I9.2.2.2.2 _ (by omega) | exact (I9.2.2.2.2 _ (by omega)).resolve_right q2) (by first | omega | exact q1 | exact q2 | exact q2.1 | exact q2.2 | exact q2.2.1 | exact q2.2.2 | exact I9.1.1 | exact I9.2.2.2.2 | exact I9.oo.1 | exact I9.oo | exact I9.2.2.2.1 | exact I9.2.2.1 | exact I9.2.2.2.2 _ (by omega) | exact (I9.2.2.2.2 _ (by omega)).resolve_right q2) (by first | omega | exact q1 | exact q2 | exact q2.1 | exact q2.2 | exact q2.2.1 | exact q2.2.2 | exact I9.1.1 | exact I9.2.2.2.2 | exact I9.oo.1 | exact I9.oo | exact I9.2.2.2.1 | exact I9.2.2.1 | exact I9.2.2.2.2 _ (by omega) | exact (I9.2.2.2.2 _ (by omega)).resolve_right q2)) v_LW_type tw_297 ⟨rfl, rfl⟩ ⟨by decide, by decide⟩ rfl rfl (Nat.le_of_ble_eq_true rfl) ⟨hcA, hsA⟩ d_LW_law_602 (fun r9 u9 H locs hq hP hD hS => ?_)
    subst hq
    have hP : va_P g.1 cl (CW g ad rg hd (nF od) (nF (tyW tx td ((x1.toInt64 <<< ((nI 32).toInt64 &&& 63)) ||| (x2.toInt64 &&& 4294967295)) k3)) (nI (td + k3)) sm pa pr fl op du qa ab ac qb be bc wd ++ ((oa, aJ g 1 (vp_updL ou 0 ((nI (td + k3)).toInt64))) :: (MW g ma cd rg hd (nF oo) (nF kp) (nI td) (nF tx) ct fd os oq vs sk ++ []))) H := hP
    have hD : va_D (gA g) (CW g ad rg hd (nF od) (nF (tyW tx td ((x1.toInt64 <<< ((nI 32).toInt64 &&& 63)) ||| (x2.toInt64 &&& 4294967295)) k3)) (nI (td + k3)) sm pa pr fl op du qa ab ac qb be bc wd ++ ((oa, aJ g 1 (vp_updL ou 0 ((nI (td + k3)).toInt64))) :: (MW g ma cd rg hd (nF oo) (nF kp) (nI td) (nF tx) ct fd os oq vs sk ++ []))) := hD
    refine lv_istore (lv' := [(5, .int (nI 0)), (4, .int (nI i)), (0, .ref b), (1, .ref (ad 0)), (2, .ref (ma 0)), (3, .ref oa)]) hx hb d_LW_law_605 hl (by decide) rfl (fun ls hl => ?_)
    refine lv_aload_n hx hb d_LW_law_607 rfl (lv_at hl 4 rfl) ?_
    refine lv_aload_n hx hb d_LW_law_608 rfl (lv_at hl 2 rfl) ?_
    refine lv_iload hx hb d_LW_law_609 (lv_at hl 1 rfl) ?_
    refine lv_iconst (v := nI 1) hx hb d_LW_law_611 (by decide) ?_
    refine rn_add hx hb d_LW_law_612 ?_
    refine rl_s hx hb hX hbl hbA hS (by omega) (by omega) hx1 d_LW_law_613 ?_
    refine lv_i2l hx hb d_LW_law_614 rfl ?_
    refine lv_bipush (v := nI 32) hx hb d_LW_law_615 (by decide) ?_
    refine lv_lshl hx hb d_LW_law_617 rfl ?_
    refine lv_aload_n hx hb d_LW_law_618 rfl (lv_at hl 2 rfl) ?_
    refine lv_iload hx hb d_LW_law_619 (lv_at hl 1 rfl) ?_
    refine lv_iconst (v := nI 2) hx hb d_LW_law_621 (by decide) ?_
    refine rn_add hx hb d_LW_law_622 ?_
    refine rl_s hx hb hX hbl hbA hS (by omega) (by omega) hx2 d_LW_law_623 ?_
    refine lv_i2l hx hb d_LW_law_624 rfl ?_
    refine lv_ldc2 (v := 4294967295) hx hb hown (ht _ tw_660) d_LW_law_625 ?_
    refine lv_land hx hb d_LW_law_628 ?_
    refine lv_lor hx hb d_LW_law_629 ?_
    refine lv_aload_n hx hb d_LW_law_630 rfl (lv_at hl 2 rfl) ?_
    refine lv_iload hx hb d_LW_law_631 (lv_at hl 1 rfl) ?_
    refine lv_iconst (v := nI 3) hx hb d_LW_law_633 (by decide) ?_
    refine rn_add hx hb d_LW_law_634 ?_
    refine rl_s hx hb hX hbl hbA hS (by omega) (by omega) hx3 d_LW_law_635 ?_
    have hP : va_P g.1 cl (MW g ma cd rg hd (nF oo) (nF kp) (nI td) (nF tx) ct fd os oq vs sk ++ ((oa, aJ g 1 (vp_updL ou 0 ((nI (td + k3)).toInt64))) :: (CW g ad rg hd (nF od) (nF (tyW tx td ((x1.toInt64 <<< ((nI 32).toInt64 &&& 63)) ||| (x2.toInt64 &&& 4294967295)) k3)) (nI (td + k3)) sm pa pr fl op du qa ab ac qb be bc wd ++ []))) H := wp_perm (pm_ab _ _ _) hP
    have hD : va_D (gA g) (MW g ma cd rg hd (nF oo) (nF kp) (nI td) (nF tx) ct fd os oq vs sk ++ ((oa, aJ g 1 (vp_updL ou 0 ((nI (td + k3)).toInt64))) :: (CW g ad rg hd (nF od) (nF (tyW tx td ((x1.toInt64 <<< ((nI 32).toInt64 &&& 63)) ||| (x2.toInt64 &&& 4294967295)) k3)) (nI (td + k3)) sm pa pr fl op du qa ab ac qb be bc wd ++ []))) := wd_perm (pm_ab _ _ _) hD
    refine pc_Vi (q0 := 0) (As := [.long ((x1.toInt64 <<< ((nI 32).toInt64 &&& 63)) ||| (x2.toInt64 &&& 4294967295)), .int (nI k3)]) (rest := []) hx hb (hml.trans hl.1.symm) hown ht F hP hD hS (c_MD_type l g ma cd rg hd (nF oo) (nF kp) ct fd os oq vs sk ((oa, aJ g 1 (vp_updL ou 0 ((nI (td + k3)).toInt64))) :: (CW g ad rg hd (nF od) (nF (tyW tx td ((x1.toInt64 <<< ((nI 32).toInt64 &&& 63)) ||| (x2.toInt64 &&& 4294967295)) k3)) (nI (td + k3)) sm pa pr fl op du qa ab ac qb be bc wd ++ [])) tx td ((x1.toInt64 <<< ((nI 32).toInt64 &&& 63)) ||| (x2.toInt64 &&& 4294967295)) k3 (by first | omega | exact q1 | exact q2 | exact q2.1 | exact q2.2 | exact q2.2.1 | exact q2.2.2 | exact I9.1.1 | exact I9.2.2.2.2 | exact I9.oo.1 | exact I9.oo | exact I9.2.2.2.1 | exact I9.2.2.1 | exact I9.2.2.2.2 _ (by omega) | exact (I9.2.2.2.2 _ (by omega)).resolve_right q2) (by first | omega | exact q1 | exact q2 | exact q2.1 | exact q2.2 | exact q2.2.1 | exact q2.2.2 | exact I9.1.1 | exact I9.2.2.2.2 | exact I9.oo.1 | exact I9.oo | exact I9.2.2.2.1 | exact I9.2.2.1 | exact I9.2.2.2.2 _ (by omega) | exact (I9.2.2.2.2 _ (by omega)).resolve_right q2) (by first | omega | exact q1 | exact q2 | exact q2.1 | exact q2.2 | exact q2.2.1 | exact q2.2.2 | exact I9.1.1 | exact I9.2.2.2.2 | exact I9.oo.1 | exact I9.oo | exact I9.2.2.2.1 | exact I9.2.2.1 | exact I9.2.2.2.2 _ (by omega) | exact (I9.2.2.2.2 _ (by omega)).resolve_right q2)) v_MD_type tw_562 ⟨rfl, rfl⟩ ⟨by decide, by decide⟩ rfl rfl rfl rfl (Nat.le_of_ble_eq_true rfl) ⟨hcA, hsA⟩ d_LW_law_636 (fun r9 u9 H locs hq hP hD hS => ?_)
    subst hq
    have hP : va_P g.1 cl (MW g ma (nI 0) rg hd (nF oo) (nF kp) (nI (td + k3)) (nF (tyW tx td ((x1.toInt64 <<< ((nI 32).toInt64 &&& 63)) ||| (x2.toInt64 &&& 4294967295)) k3)) ct fd os oq vs sk ++ ((oa, aJ g 1 (vp_updL ou 0 ((nI (td + k3)).toInt64))) :: (CW g ad rg hd (nF od) (nF (tyW tx td ((x1.toInt64 <<< ((nI 32).toInt64 &&& 63)) ||| (x2.toInt64 &&& 4294967295)) k3)) (nI (td + k3)) sm pa pr fl op du qa ab ac qb be bc wd ++ []))) H := hP
    have hD : va_D (gA g) (MW g ma (nI 0) rg hd (nF oo) (nF kp) (nI (td + k3)) (nF (tyW tx td ((x1.toInt64 <<< ((nI 32).toInt64 &&& 63)) ||| (x2.toInt64 &&& 4294967295)) k3)) ct fd os oq vs sk ++ ((oa, aJ g 1 (vp_updL ou 0 ((nI (td + k3)).toInt64))) :: (CW g ad rg hd (nF od) (nF (tyW tx td ((x1.toInt64 <<< ((nI 32).toInt64 &&& 63)) ||| (x2.toInt64 &&& 4294967295)) k3)) (nI (td + k3)) sm pa pr fl op du qa ab ac qb be bc wd ++ []))) := hD
    refine lv_istore (lv' := [(6, .int (nI (td + k3))), (5, .int (nI 0)), (4, .int (nI i)), (0, .ref b), (1, .ref (ad 0)), (2, .ref (ma 0)), (3, .ref oa)]) hx hb d_LW_law_639 hl (by decide) rfl (fun ls hl => ?_)
    refine lv_aload_n hx hb d_LW_law_641 rfl (lv_at hl 5 rfl) ?_
    refine pc_Vi (q0 := 0) (As := []) (rest := []) hx hb (hml.trans hl.1.symm) hown ht F hP hD hS (c_MD_thrown l g ma (nI 0) rg hd (nF oo) (nF kp) (nI (td + k3)) (nF (tyW tx td ((x1.toInt64 <<< ((nI 32).toInt64 &&& 63)) ||| (x2.toInt64 &&& 4294967295)) k3)) ct fd os oq vs sk ((oa, aJ g 1 (vp_updL ou 0 ((nI (td + k3)).toInt64))) :: (CW g ad rg hd (nF od) (nF (tyW tx td ((x1.toInt64 <<< ((nI 32).toInt64 &&& 63)) ||| (x2.toInt64 &&& 4294967295)) k3)) (nI (td + k3)) sm pa pr fl op du qa ab ac qb be bc wd ++ []))) v_MD_thrown tw_510 ⟨rfl, rfl⟩ ⟨by decide, by decide⟩ rfl rfl rfl rfl (Nat.le_of_ble_eq_true rfl) ⟨hcA, hsA⟩ d_LW_law_642 (fun r9 u9 H locs hq hP hD hS => ?_)
    subst hq
    refine lv_iload hx hb d_LW_law_645 (lv_at hl 1 rfl) ?_
    refine rc_eq (tgt := 652) hx hb (by omega) (by omega) d_LW_law_647 (by decide) (fun c647 => ?_) (fun c647 => ?_)
    · refine lv_iload hx hb d_LW_law_652 (lv_at hl 1 rfl) ?_
      refine rz_ne (tgt := 669) hx hb (by omega) d_LW_law_654 (by decide) (fun c654 => ?_) (fun c654 => ?_)
      · exact (by omega : False).elim
      · refine lv_aload_n hx hb d_LW_law_657 rfl (lv_at hl 6 rfl) ?_
        refine lv_iconst (v := nI 0) hx hb d_LW_law_658 (by decide) ?_
        refine ra_J hx hb F hP 9 rfl (by omega) (by decide) d_LW_law_659 ?_
        refine lv_iload hx hb d_LW_law_660 (lv_at hl 0 rfl) ?_
        refine lv_i2l hx hb d_LW_law_662 rfl ?_
        refine W.lcmp hx hb d_LW_law_663 ?_
        refine lv_if_eq (tgt := 669) hx hb d_LW_law_664 (by decide) (fun c664 => ?_) (fun c664 => ?_)
        · refine lv_goto (tgt := 1402) hx hb d_LW_law_669 (by decide) ?_
          have hP : va_P g.1 cl (CW g ad rg hd (nF od) (nF (tyW tx td ((x1.toInt64 <<< ((nI 32).toInt64 &&& 63)) ||| (x2.toInt64 &&& 4294967295)) k3)) (nI (td + k3)) sm pa pr fl op du qa ab ac qb be bc wd ++ ((oa, aJ g 1 (vp_updL ou 0 ((nI (td + k3)).toInt64))) :: (MW g ma (nI 0) rg hd (nF oo) (nF kp) (nI (td + k3)) (nF (tyW tx td ((x1.toInt64 <<< ((nI 32).toInt64 &&& 63)) ||| (x2.toInt64 &&& 4294967295)) k3)) ct fd os oq vs sk ++ []))) H := wp_perm (pm_ab _ _ _) hP
          have hD : va_D (gA g) (CW g ad rg hd (nF od) (nF (tyW tx td ((x1.toInt64 <<< ((nI 32).toInt64 &&& 63)) ||| (x2.toInt64 &&& 4294967295)) k3)) (nI (td + k3)) sm pa pr fl op du qa ab ac qb be bc wd ++ ((oa, aJ g 1 (vp_updL ou 0 ((nI (td + k3)).toInt64))) :: (MW g ma (nI 0) rg hd (nF oo) (nF kp) (nI (td + k3)) (nF (tyW tx td ((x1.toInt64 <<< ((nI 32).toInt64 &&& 63)) ||| (x2.toInt64 &&& 4294967295)) k3)) ct fd os oq vs sk ++ []))) := wd_perm (pm_ab _ _ _) hD
          refine W.widen (k := cells + 1) (n := slots + 6) (by omega) (by omega) ?_
          exact kk H locs ls ⟨rg, hd, od, tyW tx td ((x1.toInt64 <<< ((nI 32).toInt64 &&& 63)) ||| (x2.toInt64 &&& 4294967295)) k3, td + k3, sm, pa, pr, fl, op, du, qa, ab, ac, qb, be, bc, wd, vp_updL ou 0 ((nI (td + k3)).toInt64), nI 0, oo, kp, ct, fd, os, oq, vs, sk, (I9.typ _ (by omega)), hP, hD⟩ hS (lv_sub hl [2, 3, 4, 5, 6] rfl)
        · exact absurd ((lg_cmp_eq _ _).mpr (uL_s _ _ _)) c664
    · exact (by omega : False).elim
  · refine lv_aload_n hx hb d_LW_law_572 rfl (lv_at hl 2 rfl) ?_
    refine lv_aload_n hx hb d_LW_law_573 rfl (lv_at hl 1 rfl) ?_
    refine lv_iload hx hb d_LW_law_574 (lv_at hl 0 rfl) ?_
    refine lv_iconst (v := nI 1) hx hb d_LW_law_576 (by decide) ?_
    refine rn_add hx hb d_LW_law_577 ?_
    refine rl_s hx hb hX hbl hbA hS (by omega) (by omega) hx1 d_LW_law_578 ?_
    refine lv_i2l hx hb d_LW_law_579 rfl ?_
    refine lv_bipush (v := nI 32) hx hb d_LW_law_580 (by decide) ?_
    refine lv_lshl hx hb d_LW_law_582 rfl ?_
    refine lv_aload_n hx hb d_LW_law_583 rfl (lv_at hl 1 rfl) ?_
    refine lv_iload hx hb d_LW_law_584 (lv_at hl 0 rfl) ?_
    refine lv_iconst (v := nI 2) hx hb d_LW_law_586 (by decide) ?_
    refine rn_add hx hb d_LW_law_587 ?_
    refine rl_s hx hb hX hbl hbA hS (by omega) (by omega) hx2 d_LW_law_588 ?_
    refine lv_i2l hx hb d_LW_law_589 rfl ?_
    refine lv_ldc2 (v := 4294967295) hx hb hown (ht _ tw_660) d_LW_law_590 ?_
    refine lv_land hx hb d_LW_law_593 ?_
    refine lv_lor hx hb d_LW_law_594 ?_
    refine lv_aload_n hx hb d_LW_law_595 rfl (lv_at hl 1 rfl) ?_
    refine lv_iload hx hb d_LW_law_596 (lv_at hl 0 rfl) ?_
    refine lv_iconst (v := nI 3) hx hb d_LW_law_598 (by decide) ?_
    refine rn_add hx hb d_LW_law_599 ?_
    refine rl_s hx hb hX hbl hbA hS (by omega) (by omega) hx3 d_LW_law_600 ?_
    refine lv_aload_n hx hb d_LW_law_601 rfl (lv_at hl 4 rfl) ?_
    refine pc_T (As := [.ref (ad 0), .long ((x1.toInt64 <<< ((nI 32).toInt64 &&& 63)) ||| (x2.toInt64 &&& 4294967295)), .int x3, .ref oa]) (rest := []) hx hb (hml.trans hl.1.symm) hown ht F hP hD hS (c1_LW_type l hl0 g ad oa rg hd (nF od) (nF tx) sm pa pr fl op du qa ab ac qb be bc wd ou (MW g ma cd rg hd (nF oo) (nF kp) (nI td) (nF tx) ct fd os oq vs sk ++ []) td ((x1.toInt64 <<< ((nI 32).toInt64 &&& 63)) ||| (x2.toInt64 &&& 4294967295)) x3 (by first | omega | exact q1 | exact q2 | exact q2.1 | exact q2.2 | exact q2.2.1 | exact q2.2.2 | exact I9.1.1 | exact I9.2.2.2.2 | exact I9.oo.1 | exact I9.oo | exact I9.2.2.2.1 | exact I9.2.2.1 | exact I9.2.2.2.2 _ (by omega) | exact (I9.2.2.2.2 _ (by omega)).resolve_right q2) (by first | omega | exact q1 | exact q2 | exact q2.1 | exact q2.2 | exact q2.2.1 | exact q2.2.2 | exact I9.1.1 | exact I9.2.2.2.2 | exact I9.oo.1 | exact I9.oo | exact I9.2.2.2.1 | exact I9.2.2.1 | exact I9.2.2.2.2 _ (by omega) | exact (I9.2.2.2.2 _ (by omega)).resolve_right q2)) v_LW_type tw_297 ⟨rfl, rfl⟩ ⟨by decide, by decide⟩ rfl rfl (Nat.le_of_ble_eq_true rfl) ⟨hc1, hs1⟩ d_LW_law_602 (fun r9 u9 H locs hq hP hD hS => ?_)
    subst hq
    refine lv_istore (lv' := [(5, .int (nI 1)), (4, .int (nI i)), (0, .ref b), (1, .ref (ad 0)), (2, .ref (ma 0)), (3, .ref oa)]) hx hb d_LW_law_605 hl (by decide) rfl (fun ls hl => ?_)
    refine lv_aload_n hx hb d_LW_law_607 rfl (lv_at hl 4 rfl) ?_
    refine lv_aload_n hx hb d_LW_law_608 rfl (lv_at hl 2 rfl) ?_
    refine lv_iload hx hb d_LW_law_609 (lv_at hl 1 rfl) ?_
    refine lv_iconst (v := nI 1) hx hb d_LW_law_611 (by decide) ?_
    refine rn_add hx hb d_LW_law_612 ?_
    refine rl_s hx hb hX hbl hbA hS (by omega) (by omega) hx1 d_LW_law_613 ?_
    refine lv_i2l hx hb d_LW_law_614 rfl ?_
    refine lv_bipush (v := nI 32) hx hb d_LW_law_615 (by decide) ?_
    refine lv_lshl hx hb d_LW_law_617 rfl ?_
    refine lv_aload_n hx hb d_LW_law_618 rfl (lv_at hl 2 rfl) ?_
    refine lv_iload hx hb d_LW_law_619 (lv_at hl 1 rfl) ?_
    refine lv_iconst (v := nI 2) hx hb d_LW_law_621 (by decide) ?_
    refine rn_add hx hb d_LW_law_622 ?_
    refine rl_s hx hb hX hbl hbA hS (by omega) (by omega) hx2 d_LW_law_623 ?_
    refine lv_i2l hx hb d_LW_law_624 rfl ?_
    refine lv_ldc2 (v := 4294967295) hx hb hown (ht _ tw_660) d_LW_law_625 ?_
    refine lv_land hx hb d_LW_law_628 ?_
    refine lv_lor hx hb d_LW_law_629 ?_
    refine lv_aload_n hx hb d_LW_law_630 rfl (lv_at hl 2 rfl) ?_
    refine lv_iload hx hb d_LW_law_631 (lv_at hl 1 rfl) ?_
    refine lv_iconst (v := nI 3) hx hb d_LW_law_633 (by decide) ?_
    refine rn_add hx hb d_LW_law_634 ?_
    refine rl_s hx hb hX hbl hbA hS (by omega) (by omega) hx3 d_LW_law_635 ?_
    have hP : va_P g.1 cl (MW g ma cd rg hd (nF oo) (nF kp) (nI td) (nF tx) ct fd os oq vs sk ++ ((oa, aJ g 1 ou) :: (CW g ad rg hd (nF od) (nF tx) (nI td) sm pa pr fl op du qa ab ac qb be bc wd ++ []))) H := wp_perm (pm_ab _ _ _) hP
    have hD : va_D (gA g) (MW g ma cd rg hd (nF oo) (nF kp) (nI td) (nF tx) ct fd os oq vs sk ++ ((oa, aJ g 1 ou) :: (CW g ad rg hd (nF od) (nF tx) (nI td) sm pa pr fl op du qa ab ac qb be bc wd ++ []))) := wd_perm (pm_ab _ _ _) hD
    refine pc_Vi (q0 := 0) (As := [.long ((x1.toInt64 <<< ((nI 32).toInt64 &&& 63)) ||| (x2.toInt64 &&& 4294967295)), .int x3]) (rest := []) hx hb (hml.trans hl.1.symm) hown ht F hP hD hS (c1_MD_type l g ma cd rg hd (nF oo) (nF kp) (nF tx) ct fd os oq vs sk ((oa, aJ g 1 ou) :: (CW g ad rg hd (nF od) (nF tx) (nI td) sm pa pr fl op du qa ab ac qb be bc wd ++ [])) td ((x1.toInt64 <<< ((nI 32).toInt64 &&& 63)) ||| (x2.toInt64 &&& 4294967295)) x3 (by first | omega | exact q1 | exact q2 | exact q2.1 | exact q2.2 | exact q2.2.1 | exact q2.2.2 | exact I9.1.1 | exact I9.2.2.2.2 | exact I9.oo.1 | exact I9.oo | exact I9.2.2.2.1 | exact I9.2.2.1 | exact I9.2.2.2.2 _ (by omega) | exact (I9.2.2.2.2 _ (by omega)).resolve_right q2) (by first | omega | exact q1 | exact q2 | exact q2.1 | exact q2.2 | exact q2.2.1 | exact q2.2.2 | exact I9.1.1 | exact I9.2.2.2.2 | exact I9.oo.1 | exact I9.oo | exact I9.2.2.2.1 | exact I9.2.2.1 | exact I9.2.2.2.2 _ (by omega) | exact (I9.2.2.2.2 _ (by omega)).resolve_right q2)) v_MD_type tw_562 ⟨rfl, rfl⟩ ⟨by decide, by decide⟩ rfl rfl rfl rfl (Nat.le_of_ble_eq_true rfl) ⟨hc1, hs1⟩ d_LW_law_636 (fun r9 u9 H locs hq hP hD hS => ?_)
    subst hq
    have hP : va_P g.1 cl (MW g ma (nI 1) rg hd (nF oo) (nF kp) (nI td) (nF tx) ct fd os oq vs sk ++ ((oa, aJ g 1 ou) :: (CW g ad rg hd (nF od) (nF tx) (nI td) sm pa pr fl op du qa ab ac qb be bc wd ++ []))) H := hP
    have hD : va_D (gA g) (MW g ma (nI 1) rg hd (nF oo) (nF kp) (nI td) (nF tx) ct fd os oq vs sk ++ ((oa, aJ g 1 ou) :: (CW g ad rg hd (nF od) (nF tx) (nI td) sm pa pr fl op du qa ab ac qb be bc wd ++ []))) := hD
    refine lv_istore (lv' := [(6, .int (nI 0)), (5, .int (nI 1)), (4, .int (nI i)), (0, .ref b), (1, .ref (ad 0)), (2, .ref (ma 0)), (3, .ref oa)]) hx hb d_LW_law_639 hl (by decide) rfl (fun ls hl => ?_)
    refine lv_aload_n hx hb d_LW_law_641 rfl (lv_at hl 5 rfl) ?_
    refine pc_Vi (q0 := 0) (As := []) (rest := []) hx hb (hml.trans hl.1.symm) hown ht F hP hD hS (c_MD_thrown l g ma (nI 1) rg hd (nF oo) (nF kp) (nI td) (nF tx) ct fd os oq vs sk ((oa, aJ g 1 ou) :: (CW g ad rg hd (nF od) (nF tx) (nI td) sm pa pr fl op du qa ab ac qb be bc wd ++ []))) v_MD_thrown tw_510 ⟨rfl, rfl⟩ ⟨by decide, by decide⟩ rfl rfl rfl rfl (Nat.le_of_ble_eq_true rfl) ⟨hc1, hs1⟩ d_LW_law_642 (fun r9 u9 H locs hq hP hD hS => ?_)
    subst hq
    refine lv_iload hx hb d_LW_law_645 (lv_at hl 1 rfl) ?_
    refine rc_eq (tgt := 652) hx hb (by omega) (by omega) d_LW_law_647 (by decide) (fun c647 => ?_) (fun c647 => ?_)
    · refine lv_iload hx hb d_LW_law_652 (lv_at hl 1 rfl) ?_
      refine rz_ne (tgt := 669) hx hb (by omega) d_LW_law_654 (by decide) (fun c654 => ?_) (fun c654 => ?_)
      · refine lv_goto (tgt := 1402) hx hb d_LW_law_669 (by decide) ?_
        have hP : va_P g.1 cl (CW g ad rg hd (nF od) (nF tx) (nI td) sm pa pr fl op du qa ab ac qb be bc wd ++ ((oa, aJ g 1 ou) :: (MW g ma (nI 1) rg hd (nF oo) (nF kp) (nI td) (nF tx) ct fd os oq vs sk ++ []))) H := wp_perm (pm_ab _ _ _) hP
        have hD : va_D (gA g) (CW g ad rg hd (nF od) (nF tx) (nI td) sm pa pr fl op du qa ab ac qb be bc wd ++ ((oa, aJ g 1 ou) :: (MW g ma (nI 1) rg hd (nF oo) (nF kp) (nI td) (nF tx) ct fd os oq vs sk ++ []))) := wd_perm (pm_ab _ _ _) hD
        refine W.widen (k := cells + 1) (n := slots + 6) (by omega) (by omega) ?_
        exact kk H locs ls ⟨rg, hd, od, tx, td, sm, pa, pr, fl, op, du, qa, ab, ac, qb, be, bc, wd, ou, nI 1, oo, kp, ct, fd, os, oq, vs, sk, I9, hP, hD⟩ hS (lv_sub hl [2, 3, 4, 5, 6] rfl)
      · exact (by omega : False).elim
    · exact (by omega : False).elim
