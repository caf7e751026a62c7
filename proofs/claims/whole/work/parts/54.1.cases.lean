set_option maxRecDepth 100000 in
set_option maxHeartbeats 4000000 in
theorem st_read {p : Program} {l : Launch} {e : Env} {s : State} {m : MethodId} {below : List Frame} {meth : Method} {c : Code} (hl0 : l.stackTraces = false) {g : Gx} {ad ma : Nat → Nat} {oa b L i : Nat} {xs : Nat → Int32} {x1 x2 x3 x4 : Int32} (hx : p.tables.exec = Jvm.exec) (hb : c.code = b_LW_law) (hml : c.maxLocals = 7) (hown : s.vm.findClass "SiftedGraphsLaw" = some m.cls) (ht : ∀ w ∈ TW, w.before #[Value.ref b] s = true) (F : Fx g s) (hX : va_X b L xs s s.heap) (hbl : b < s.heap.size) (hbA : ¬ gA g b) (hL : L ≤ 2560) (hi : i + 4 < L) (hx1 : xs (i + 1) = x1) (hx2 : xs (i + 2) = x2) (hx3 : xs (i + 3) = x3) (hx4 : xs (i + 4) = x4) {rg : Nat → Int64} {hd : Nat → Int32} {od : Nat → Nat} {tx : Nat → Nat} {td : Nat} {sm : Nat → Int64} {pa : Nat → Int64} {pr : Nat → Int64} {fl : Nat → Int64} {op : Int32} {du : Int32} {qa : Nat} {ab : Nat → Int64} {ac : Int32} {qb : Nat} {be : Nat → Int64} {bc : Int32} {wd : Nat → Int32} {ou : Nat → Int64} {cd : Int32} {oo : Nat → Nat} {kp : Nat → Nat} {ct : Int32} {fd : Nat → Int64} {os : Int32} {oq : Nat → Int32} {vs : Int32} {sk : Nat → Int64} (I9 : INV od oo tx hd td) {H : Heap} {locs : List Loc} {ls : Array Slot} (hP : va_P g.1 cl (CW g ad rg hd (nF od) (nF tx) (nI td) sm pa pr fl op du qa ab ac qb be bc wd ++ ((oa, aJ g 1 ou) :: (MW g ma cd rg hd (nF oo) (nF kp) (nI td) (nF tx) ct fd os oq vs sk ++ []))) H) (hD : va_D (gA g) (CW g ad rg hd (nF od) (nF tx) (nI td) sm pa pr fl op du qa ab ac qb be bc wd ++ ((oa, aJ g 1 ou) :: (MW g ma cd rg hd (nF oo) (nF kp) (nI td) (nF tx) ct fd os oq vs sk ++ [])))) (hS : va_S (gA g) s.heap H locs) (hl : lv_has ls 7 [(4, .int (nI i)), (0, .ref b), (1, .ref (ad 0)), (2, .ref (ma 0)), (3, .ref oa)]) {cells slots : Nat} (hc1 : cells + 1 ≤ room_1.cells) (hs1 : slots + 6 ≤ room_1.slots) {Q : State → Prop}
    (kk : ∀ (H : Heap) (locs : List Loc) (ls : Array Slot), LST g ad ma oa H → va_S (gA g) s.heap H locs → lv_has ls 7 [(4, .int (nI i)), (0, .ref b), (1, .ref (ad 0)), (2, .ref (ma 0)), (3, .ref oa)] → W p l e room_1 s m #[Value.ref b] below meth c H locs (cells + 1) (slots + 6) Q (F0 m 1402 ls [])) : W p l e room_1 s m #[Value.ref b] below meth c H locs cells slots Q (F0 m 672 ls []) := by
  have hcA : cells ≤ room_1.cells := Nat.le_of_succ_le hc1
  have hsA : slots ≤ room_1.slots := Nat.le_trans (Nat.le_add_right _ _) hs1
  by_cases q1 : inR x1 8
  · obtain ⟨k1, g1, rfl⟩ := q1
    refine lv_aload_n hx hb d_LW_law_672 rfl (lv_at hl 2 rfl) ?_
    refine lv_aload_n hx hb d_LW_law_673 rfl (lv_at hl 1 rfl) ?_
    refine lv_iload hx hb d_LW_law_674 (lv_at hl 0 rfl) ?_
    refine lv_iconst (v := nI 1) hx hb d_LW_law_676 (by decide) ?_
    refine rn_add hx hb d_LW_law_677 ?_
    refine rl_s hx hb hX hbl hbA hS (by omega) (by omega) hx1 d_LW_law_678 ?_
    refine lv_aload_n hx hb d_LW_law_679 rfl (lv_at hl 4 rfl) ?_
    refine pc_T (As := [.ref (ad 0), .int (nI k1), .ref oa]) (rest := []) hx hb (hml.trans hl.1.symm) hown ht F hP hD hS (c_LW_read l g ad oa rg hd (nF od) sm pa pr fl op du qa ab ac qb be bc wd ou (MW g ma cd rg hd (nF oo) (nF kp) (nI td) (nF tx) ct fd os oq vs sk ++ []) tx td k1 (by first | omega | exact q1 | exact q2 | exact q2.1 | exact q2.2 | exact q2.2.1 | exact q2.2.2 | exact I9.1.1 | exact I9.2.2.2.2 | exact I9.oo.1 | exact I9.oo | exact I9.2.2.2.1 | exact I9.2.2.1 | exact I9.2.2.2.2 _ (by omega) | exact (I9.2.2.2.2 _ (by omega)).resolve_right q2) (by first | omega | exact q1 | exact q2 | exact q2.1 | exact q2.2 | exact q2.2.1 | exact q2.2.2 | exact I9.1.1 | exact I9.2.2.2.2 | exact I9.oo.1 | exact I9.oo | exact I9.2.2.2.1 | exact I9.2.2.1 | exact I9.2.2.2.2 _ (by omega) | exact (I9.2.2.2.2 _ (by omega)).resolve_right q2) (by first | omega | exact q1 | exact q2 | exact q2.1 | exact q2.2 | exact q2.2.1 | exact q2.2.2 | exact I9.1.1 | exact I9.2.2.2.2 | exact I9.oo.1 | exact I9.oo | exact I9.2.2.2.1 | exact I9.2.2.1 | exact I9.2.2.2.2 _ (by omega) | exact (I9.2.2.2.2 _ (by omega)).resolve_right q2) (by first | omega | exact q1 | exact q2 | exact q2.1 | exact q2.2 | exact q2.2.1 | exact q2.2.2 | exact I9.1.1 | exact I9.2.2.2.2 | exact I9.oo.1 | exact I9.oo | exact I9.2.2.2.1 | exact I9.2.2.1 | exact I9.2.2.2.2 _ (by omega) | exact (I9.2.2.2.2 _ (by omega)).resolve_right q2)) v_LW_read tw_305 ⟨rfl, rfl⟩ ⟨by decide, by decide⟩ rfl rfl (Nat.le_of_ble_eq_true rfl) ⟨hcA, hsA⟩ d_LW_law_680 (fun r9 u9 H locs hq hP hD hS => ?_)
    subst hq
    have hP : va_P g.1 cl (CW g ad (if (rdG rg hd tx td 0 (bfF (sm, pa, pr, fl, 0, 1))).1 < 0 then vp_updL rg k1 (meF (rdG rg hd tx td 0 (bfF (sm, pa, pr, fl, 0, 1))).2) else rg) (if (rdG rg hd tx td 0 (bfF (sm, pa, pr, fl, 0, 1))).1 < 0 then upd hd k1 (nI 1) else hd) (nF od) (nF tx) (nI 0) (((rdG rg hd tx td 0 (bfF (sm, pa, pr, fl, 0, 1))).2).1) (((rdG rg hd tx td 0 (bfF (sm, pa, pr, fl, 0, 1))).2).2.1) (((rdG rg hd tx td 0 (bfF (sm, pa, pr, fl, 0, 1))).2).2.2.1) (((rdG rg hd tx td 0 (bfF (sm, pa, pr, fl, 0, 1))).2).2.2.2.1) (nI (((rdG rg hd tx td 0 (bfF (sm, pa, pr, fl, 0, 1))).2).2.2.2.2.1)) (nI (((rdG rg hd tx td 0 (bfF (sm, pa, pr, fl, 0, 1))).2).2.2.2.2.2)) qa ab ac qb be bc wd ++ ((oa, aJ g 1 (vp_updL ou 0 (((rdG rg hd tx td 0 (bfF (sm, pa, pr, fl, 0, 1))).1).toInt64))) :: (MW g ma cd rg hd (nF oo) (nF kp) (nI td) (nF tx) ct fd os oq vs sk ++ []))) H := hP
    have hD : va_D (gA g) (CW g ad (if (rdG rg hd tx td 0 (bfF (sm, pa, pr, fl, 0, 1))).1 < 0 then vp_updL rg k1 (meF (rdG rg hd tx td 0 (bfF (sm, pa, pr, fl, 0, 1))).2) else rg) (if (rdG rg hd tx td 0 (bfF (sm, pa, pr, fl, 0, 1))).1 < 0 then upd hd k1 (nI 1) else hd) (nF od) (nF tx) (nI 0) (((rdG rg hd tx td 0 (bfF (sm, pa, pr, fl, 0, 1))).2).1) (((rdG rg hd tx td 0 (bfF (sm, pa, pr, fl, 0, 1))).2).2.1) (((rdG rg hd tx td 0 (bfF (sm, pa, pr, fl, 0, 1))).2).2.2.1) (((rdG rg hd tx td 0 (bfF (sm, pa, pr, fl, 0, 1))).2).2.2.2.1) (nI (((rdG rg hd tx td 0 (bfF (sm, pa, pr, fl, 0, 1))).2).2.2.2.2.1)) (nI (((rdG rg hd tx td 0 (bfF (sm, pa, pr, fl, 0, 1))).2).2.2.2.2.2)) qa ab ac qb be bc wd ++ ((oa, aJ g 1 (vp_updL ou 0 (((rdG rg hd tx td 0 (bfF (sm, pa, pr, fl, 0, 1))).1).toInt64))) :: (MW g ma cd rg hd (nF oo) (nF kp) (nI td) (nF tx) ct fd os oq vs sk ++ []))) := hD
    refine lv_istore (lv' := [(5, .int (nI 0)), (4, .int (nI i)), (0, .ref b), (1, .ref (ad 0)), (2, .ref (ma 0)), (3, .ref oa)]) hx hb d_LW_law_683 hl (by decide) rfl (fun ls hl => ?_)
    refine lv_aload_n hx hb d_LW_law_685 rfl (lv_at hl 4 rfl) ?_
    refine lv_aload_n hx hb d_LW_law_686 rfl (lv_at hl 2 rfl) ?_
    refine lv_iload hx hb d_LW_law_687 (lv_at hl 1 rfl) ?_
    refine lv_iconst (v := nI 1) hx hb d_LW_law_689 (by decide) ?_
    refine rn_add hx hb d_LW_law_690 ?_
    refine rl_s hx hb hX hbl hbA hS (by omega) (by omega) hx1 d_LW_law_691 ?_
    have hP : va_P g.1 cl (MW g ma cd rg hd (nF oo) (nF kp) (nI td) (nF tx) ct fd os oq vs sk ++ ((oa, aJ g 1 (vp_updL ou 0 (((rdG rg hd tx td 0 (bfF (sm, pa, pr, fl, 0, 1))).1).toInt64))) :: (CW g ad (if (rdG rg hd tx td 0 (bfF (sm, pa, pr, fl, 0, 1))).1 < 0 then vp_updL rg k1 (meF (rdG rg hd tx td 0 (bfF (sm, pa, pr, fl, 0, 1))).2) else rg) (if (rdG rg hd tx td 0 (bfF (sm, pa, pr, fl, 0, 1))).1 < 0 then upd hd k1 (nI 1) else hd) (nF od) (nF tx) (nI 0) (((rdG rg hd tx td 0 (bfF (sm, pa, pr, fl, 0, 1))).2).1) (((rdG rg hd tx td 0 (bfF (sm, pa, pr, fl, 0, 1))).2).2.1) (((rdG rg hd tx td 0 (bfF (sm, pa, pr, fl, 0, 1))).2).2.2.1) (((rdG rg hd tx td 0 (bfF (sm, pa, pr, fl, 0, 1))).2).2.2.2.1) (nI (((rdG rg hd tx td 0 (bfF (sm, pa, pr, fl, 0, 1))).2).2.2.2.2.1)) (nI (((rdG rg hd tx td 0 (bfF (sm, pa, pr, fl, 0, 1))).2).2.2.2.2.2)) qa ab ac qb be bc wd ++ []))) H := wp_perm (pm_ab _ _ _) hP
    have hD : va_D (gA g) (MW g ma cd rg hd (nF oo) (nF kp) (nI td) (nF tx) ct fd os oq vs sk ++ ((oa, aJ g 1 (vp_updL ou 0 (((rdG rg hd tx td 0 (bfF (sm, pa, pr, fl, 0, 1))).1).toInt64))) :: (CW g ad (if (rdG rg hd tx td 0 (bfF (sm, pa, pr, fl, 0, 1))).1 < 0 then vp_updL rg k1 (meF (rdG rg hd tx td 0 (bfF (sm, pa, pr, fl, 0, 1))).2) else rg) (if (rdG rg hd tx td 0 (bfF (sm, pa, pr, fl, 0, 1))).1 < 0 then upd hd k1 (nI 1) else hd) (nF od) (nF tx) (nI 0) (((rdG rg hd tx td 0 (bfF (sm, pa, pr, fl, 0, 1))).2).1) (((rdG rg hd tx td 0 (bfF (sm, pa, pr, fl, 0, 1))).2).2.1) (((rdG rg hd tx td 0 (bfF (sm, pa, pr, fl, 0, 1))).2).2.2.1) (((rdG rg hd tx td 0 (bfF (sm, pa, pr, fl, 0, 1))).2).2.2.2.1) (nI (((rdG rg hd tx td 0 (bfF (sm, pa, pr, fl, 0, 1))).2).2.2.2.2.1)) (nI (((rdG rg hd tx td 0 (bfF (sm, pa, pr, fl, 0, 1))).2).2.2.2.2.2)) qa ab ac qb be bc wd ++ []))) := wd_perm (pm_ab _ _ _) hD
    refine pc_Vi (q0 := 0) (As := [.int (nI k1)]) (rest := []) hx hb (hml.trans hl.1.symm) hown ht F hP hD hS (c_MD_read l g ma cd rg hd (nF oo) (nF kp) ct fd os oq vs sk ((oa, aJ g 1 (vp_updL ou 0 (((rdG rg hd tx td 0 (bfF (sm, pa, pr, fl, 0, 1))).1).toInt64))) :: (CW g ad (if (rdG rg hd tx td 0 (bfF (sm, pa, pr, fl, 0, 1))).1 < 0 then vp_updL rg k1 (meF (rdG rg hd tx td 0 (bfF (sm, pa, pr, fl, 0, 1))).2) else rg) (if (rdG rg hd tx td 0 (bfF (sm, pa, pr, fl, 0, 1))).1 < 0 then upd hd k1 (nI 1) else hd) (nF od) (nF tx) (nI 0) (((rdG rg hd tx td 0 (bfF (sm, pa, pr, fl, 0, 1))).2).1) (((rdG rg hd tx td 0 (bfF (sm, pa, pr, fl, 0, 1))).2).2.1) (((rdG rg hd tx td 0 (bfF (sm, pa, pr, fl, 0, 1))).2).2.2.1) (((rdG rg hd tx td 0 (bfF (sm, pa, pr, fl, 0, 1))).2).2.2.2.1) (nI (((rdG rg hd tx td 0 (bfF (sm, pa, pr, fl, 0, 1))).2).2.2.2.2.1)) (nI (((rdG rg hd tx td 0 (bfF (sm, pa, pr, fl, 0, 1))).2).2.2.2.2.2)) qa ab ac qb be bc wd ++ [])) tx td k1 sm pa pr fl (by first | omega | exact q1 | exact q2 | exact q2.1 | exact q2.2 | exact q2.2.1 | exact q2.2.2 | exact I9.1.1 | exact I9.2.2.2.2 | exact I9.oo.1 | exact I9.oo | exact I9.2.2.2.1 | exact I9.2.2.1 | exact I9.2.2.2.2 _ (by omega) | exact (I9.2.2.2.2 _ (by omega)).resolve_right q2) (by first | omega | exact q1 | exact q2 | exact q2.1 | exact q2.2 | exact q2.2.1 | exact q2.2.2 | exact I9.1.1 | exact I9.2.2.2.2 | exact I9.oo.1 | exact I9.oo | exact I9.2.2.2.1 | exact I9.2.2.1 | exact I9.2.2.2.2 _ (by omega) | exact (I9.2.2.2.2 _ (by omega)).resolve_right q2) (by first | omega | exact q1 | exact q2 | exact q2.1 | exact q2.2 | exact q2.2.1 | exact q2.2.2 | exact I9.1.1 | exact I9.2.2.2.2 | exact I9.oo.1 | exact I9.oo | exact I9.2.2.2.1 | exact I9.2.2.1 | exact I9.2.2.2.2 _ (by omega) | exact (I9.2.2.2.2 _ (by omega)).resolve_right q2)) v_MD_read tw_566 ⟨rfl, rfl⟩ ⟨by decide, by decide⟩ rfl rfl rfl rfl (Nat.le_of_ble_eq_true rfl) ⟨hcA, hsA⟩ d_LW_law_692 (fun r9 u9 H locs hq hP hD hS => ?_)
    obtain ⟨os692, oq692, vs692, sk692⟩ := u9
    subst hq
    have hP : va_P g.1 cl (MW g ma (nI 0) (if (rdG rg hd tx td 0 (bfF (sm, pa, pr, fl, 0, 1))).1 < 0 then vp_updL rg k1 (meF (rdG rg hd tx td 0 (bfF (sm, pa, pr, fl, 0, 1))).2) else rg) (if (rdG rg hd tx td 0 (bfF (sm, pa, pr, fl, 0, 1))).1 < 0 then upd hd k1 (nI 1) else hd) (nF oo) (nF kp) (nI 0) (nF tx) ct fd os692 oq692 vs692 sk692 ++ ((oa, aJ g 1 (vp_updL ou 0 (((rdG rg hd tx td 0 (bfF (sm, pa, pr, fl, 0, 1))).1).toInt64))) :: (CW g ad (if (rdG rg hd tx td 0 (bfF (sm, pa, pr, fl, 0, 1))).1 < 0 then vp_updL rg k1 (meF (rdG rg hd tx td 0 (bfF (sm, pa, pr, fl, 0, 1))).2) else rg) (if (rdG rg hd tx td 0 (bfF (sm, pa, pr, fl, 0, 1))).1 < 0 then upd hd k1 (nI 1) else hd) (nF od) (nF tx) (nI 0) (((rdG rg hd tx td 0 (bfF (sm, pa, pr, fl, 0, 1))).2).1) (((rdG rg hd tx td 0 (bfF (sm, pa, pr, fl, 0, 1))).2).2.1) (((rdG rg hd tx td 0 (bfF (sm, pa, pr, fl, 0, 1))).2).2.2.1) (((rdG rg hd tx td 0 (bfF (sm, pa, pr, fl, 0, 1))).2).2.2.2.1) (nI (((rdG rg hd tx td 0 (bfF (sm, pa, pr, fl, 0, 1))).2).2.2.2.2.1)) (nI (((rdG rg hd tx td 0 (bfF (sm, pa, pr, fl, 0, 1))).2).2.2.2.2.2)) qa ab ac qb be bc wd ++ []))) H := hP
    have hD : va_D (gA g) (MW g ma (nI 0) (if (rdG rg hd tx td 0 (bfF (sm, pa, pr, fl, 0, 1))).1 < 0 then vp_updL rg k1 (meF (rdG rg hd tx td 0 (bfF (sm, pa, pr, fl, 0, 1))).2) else rg) (if (rdG rg hd tx td 0 (bfF (sm, pa, pr, fl, 0, 1))).1 < 0 then upd hd k1 (nI 1) else hd) (nF oo) (nF kp) (nI 0) (nF tx) ct fd os692 oq692 vs692 sk692 ++ ((oa, aJ g 1 (vp_updL ou 0 (((rdG rg hd tx td 0 (bfF (sm, pa, pr, fl, 0, 1))).1).toInt64))) :: (CW g ad (if (rdG rg hd tx td 0 (bfF (sm, pa, pr, fl, 0, 1))).1 < 0 then vp_updL rg k1 (meF (rdG rg hd tx td 0 (bfF (sm, pa, pr, fl, 0, 1))).2) else rg) (if (rdG rg hd tx td 0 (bfF (sm, pa, pr, fl, 0, 1))).1 < 0 then upd hd k1 (nI 1) else hd) (nF od) (nF tx) (nI 0) (((rdG rg hd tx td 0 (bfF (sm, pa, pr, fl, 0, 1))).2).1) (((rdG rg hd tx td 0 (bfF (sm, pa, pr, fl, 0, 1))).2).2.1) (((rdG rg hd tx td 0 (bfF (sm, pa, pr, fl, 0, 1))).2).2.2.1) (((rdG rg hd tx td 0 (bfF (sm, pa, pr, fl, 0, 1))).2).2.2.2.1) (nI (((rdG rg hd tx td 0 (bfF (sm, pa, pr, fl, 0, 1))).2).2.2.2.2.1)) (nI (((rdG rg hd tx td 0 (bfF (sm, pa, pr, fl, 0, 1))).2).2.2.2.2.2)) qa ab ac qb be bc wd ++ []))) := hD
    refine lv_istore (lv' := [(6, .int ((rdG rg hd tx td 0 (bfF (sm, pa, pr, fl, 0, 1))).1)), (5, .int (nI 0)), (4, .int (nI i)), (0, .ref b), (1, .ref (ad 0)), (2, .ref (ma 0)), (3, .ref oa)]) hx hb d_LW_law_695 hl (by decide) rfl (fun ls hl => ?_)
    refine lv_aload_n hx hb d_LW_law_697 rfl (lv_at hl 5 rfl) ?_
    refine pc_Vi (q0 := 0) (As := []) (rest := []) hx hb (hml.trans hl.1.symm) hown ht F hP hD hS (c_MD_thrown l g ma (nI 0) (if (rdG rg hd tx td 0 (bfF (sm, pa, pr, fl, 0, 1))).1 < 0 then vp_updL rg k1 (meF (rdG rg hd tx td 0 (bfF (sm, pa, pr, fl, 0, 1))).2) else rg) (if (rdG rg hd tx td 0 (bfF (sm, pa, pr, fl, 0, 1))).1 < 0 then upd hd k1 (nI 1) else hd) (nF oo) (nF kp) (nI 0) (nF tx) ct fd os692 oq692 vs692 sk692 ((oa, aJ g 1 (vp_updL ou 0 (((rdG rg hd tx td 0 (bfF (sm, pa, pr, fl, 0, 1))).1).toInt64))) :: (CW g ad (if (rdG rg hd tx td 0 (bfF (sm, pa, pr, fl, 0, 1))).1 < 0 then vp_updL rg k1 (meF (rdG rg hd tx td 0 (bfF (sm, pa, pr, fl, 0, 1))).2) else rg) (if (rdG rg hd tx td 0 (bfF (sm, pa, pr, fl, 0, 1))).1 < 0 then upd hd k1 (nI 1) else hd) (nF od) (nF tx) (nI 0) (((rdG rg hd tx td 0 (bfF (sm, pa, pr, fl, 0, 1))).2).1) (((rdG rg hd tx td 0 (bfF (sm, pa, pr, fl, 0, 1))).2).2.1) (((rdG rg hd tx td 0 (bfF (sm, pa, pr, fl, 0, 1))).2).2.2.1) (((rdG rg hd tx td 0 (bfF (sm, pa, pr, fl, 0, 1))).2).2.2.2.1) (nI (((rdG rg hd tx td 0 (bfF (sm, pa, pr, fl, 0, 1))).2).2.2.2.2.1)) (nI (((rdG rg hd tx td 0 (bfF (sm, pa, pr, fl, 0, 1))).2).2.2.2.2.2)) qa ab ac qb be bc wd ++ []))) v_MD_thrown tw_510 ⟨rfl, rfl⟩ ⟨by decide, by decide⟩ rfl rfl rfl rfl (Nat.le_of_ble_eq_true rfl) ⟨hcA, hsA⟩ d_LW_law_698 (fun r9 u9 H locs hq hP hD hS => ?_)
    subst hq
    refine lv_iload hx hb d_LW_law_701 (lv_at hl 1 rfl) ?_
    refine rc_eq (tgt := 708) hx hb (by omega) (by omega) d_LW_law_703 (by decide) (fun c703 => ?_) (fun c703 => ?_)
    · refine lv_iload hx hb d_LW_law_708 (lv_at hl 1 rfl) ?_
      refine rz_ne (tgt := 725) hx hb (by omega) d_LW_law_710 (by decide) (fun c710 => ?_) (fun c710 => ?_)
      · exact (by omega : False).elim
      · refine lv_aload_n hx hb d_LW_law_713 rfl (lv_at hl 6 rfl) ?_
        refine lv_iconst (v := nI 0) hx hb d_LW_law_714 (by decide) ?_
        refine ra_J hx hb F hP 9 rfl (by omega) (by decide) d_LW_law_715 ?_
        refine lv_iload hx hb d_LW_law_716 (lv_at hl 0 rfl) ?_
        refine lv_i2l hx hb d_LW_law_718 rfl ?_
        refine W.lcmp hx hb d_LW_law_719 ?_
        refine lv_if_eq (tgt := 725) hx hb d_LW_law_720 (by decide) (fun c720 => ?_) (fun c720 => ?_)
        · refine lv_goto (tgt := 1402) hx hb d_LW_law_725 (by decide) ?_
          have hP : va_P g.1 cl (CW g ad (if (rdG rg hd tx td 0 (bfF (sm, pa, pr, fl, 0, 1))).1 < 0 then vp_updL rg k1 (meF (rdG rg hd tx td 0 (bfF (sm, pa, pr, fl, 0, 1))).2) else rg) (if (rdG rg hd tx td 0 (bfF (sm, pa, pr, fl, 0, 1))).1 < 0 then upd hd k1 (nI 1) else hd) (nF od) (nF tx) (nI 0) (((rdG rg hd tx td 0 (bfF (sm, pa, pr, fl, 0, 1))).2).1) (((rdG rg hd tx td 0 (bfF (sm, pa, pr, fl, 0, 1))).2).2.1) (((rdG rg hd tx td 0 (bfF (sm, pa, pr, fl, 0, 1))).2).2.2.1) (((rdG rg hd tx td 0 (bfF (sm, pa, pr, fl, 0, 1))).2).2.2.2.1) (nI (((rdG rg hd tx td 0 (bfF (sm, pa, pr, fl, 0, 1))).2).2.2.2.2.1)) (nI (((rdG rg hd tx td 0 (bfF (sm, pa, pr, fl, 0, 1))).2).2.2.2.2.2)) qa ab ac qb be bc wd ++ ((oa, aJ g 1 (vp_updL ou 0 (((rdG rg hd tx td 0 (bfF (sm, pa, pr, fl, 0, 1))).1).toInt64))) :: (MW g ma (nI 0) (if (rdG rg hd tx td 0 (bfF (sm, pa, pr, fl, 0, 1))).1 < 0 then vp_updL rg k1 (meF (rdG rg hd tx td 0 (bfF (sm, pa, pr, fl, 0, 1))).2) else rg) (if (rdG rg hd tx td 0 (bfF (sm, pa, pr, fl, 0, 1))).1 < 0 then upd hd k1 (nI 1) else hd) (nF oo) (nF kp) (nI 0) (nF tx) ct fd os692 oq692 vs692 sk692 ++ []))) H := wp_perm (pm_ab _ _ _) hP
          have hD : va_D (gA g) (CW g ad (if (rdG rg hd tx td 0 (bfF (sm, pa, pr, fl, 0, 1))).1 < 0 then vp_updL rg k1 (meF (rdG rg hd tx td 0 (bfF (sm, pa, pr, fl, 0, 1))).2) else rg) (if (rdG rg hd tx td 0 (bfF (sm, pa, pr, fl, 0, 1))).1 < 0 then upd hd k1 (nI 1) else hd) (nF od) (nF tx) (nI 0) (((rdG rg hd tx td 0 (bfF (sm, pa, pr, fl, 0, 1))).2).1) (((rdG rg hd tx td 0 (bfF (sm, pa, pr, fl, 0, 1))).2).2.1) (((rdG rg hd tx td 0 (bfF (sm, pa, pr, fl, 0, 1))).2).2.2.1) (((rdG rg hd tx td 0 (bfF (sm, pa, pr, fl, 0, 1))).2).2.2.2.1) (nI (((rdG rg hd tx td 0 (bfF (sm, pa, pr, fl, 0, 1))).2).2.2.2.2.1)) (nI (((rdG rg hd tx td 0 (bfF (sm, pa, pr, fl, 0, 1))).2).2.2.2.2.2)) qa ab ac qb be bc wd ++ ((oa, aJ g 1 (vp_updL ou 0 (((rdG rg hd tx td 0 (bfF (sm, pa, pr, fl, 0, 1))).1).toInt64))) :: (MW g ma (nI 0) (if (rdG rg hd tx td 0 (bfF (sm, pa, pr, fl, 0, 1))).1 < 0 then vp_updL rg k1 (meF (rdG rg hd tx td 0 (bfF (sm, pa, pr, fl, 0, 1))).2) else rg) (if (rdG rg hd tx td 0 (bfF (sm, pa, pr, fl, 0, 1))).1 < 0 then upd hd k1 (nI 1) else hd) (nF oo) (nF kp) (nI 0) (nF tx) ct fd os692 oq692 vs692 sk692 ++ []))) := wd_perm (pm_ab _ _ _) hD
          refine W.widen (k := cells + 1) (n := slots + 6) (by omega) (by omega) ?_
          exact kk H locs ls ⟨if (rdG rg hd tx td 0 (bfF (sm, pa, pr, fl, 0, 1))).1 < 0 then vp_updL rg k1 (meF (rdG rg hd tx td 0 (bfF (sm, pa, pr, fl, 0, 1))).2) else rg, if (rdG rg hd tx td 0 (bfF (sm, pa, pr, fl, 0, 1))).1 < 0 then upd hd k1 (nI 1) else hd, od, tx, 0, ((rdG rg hd tx td 0 (bfF (sm, pa, pr, fl, 0, 1))).2).1, ((rdG rg hd tx td 0 (bfF (sm, pa, pr, fl, 0, 1))).2).2.1, ((rdG rg hd tx td 0 (bfF (sm, pa, pr, fl, 0, 1))).2).2.2.1, ((rdG rg hd tx td 0 (bfF (sm, pa, pr, fl, 0, 1))).2).2.2.2.1, nI (((rdG rg hd tx td 0 (bfF (sm, pa, pr, fl, 0, 1))).2).2.2.2.2.1), nI (((rdG rg hd tx td 0 (bfF (sm, pa, pr, fl, 0, 1))).2).2.2.2.2.2), qa, ab, ac, qb, be, bc, wd, vp_updL ou 0 (((rdG rg hd tx td 0 (bfF (sm, pa, pr, fl, 0, 1))).1).toInt64), nI 0, oo, kp, ct, fd, os692, oq692, vs692, sk692, (I9.red _ _), hP, hD⟩ hS (lv_sub hl [2, 3, 4, 5, 6] rfl)
        · exact absurd ((lg_cmp_eq _ _).mpr (uL_s _ _ _)) c720
    · exact (by omega : False).elim
  · refine lv_aload_n hx hb d_LW_law_672 rfl (lv_at hl 2 rfl) ?_
    refine lv_aload_n hx hb d_LW_law_673 rfl (lv_at hl 1 rfl) ?_
    refine lv_iload hx hb d_LW_law_674 (lv_at hl 0 rfl) ?_
    refine lv_iconst (v := nI 1) hx hb d_LW_law_676 (by decide) ?_
    refine rn_add hx hb d_LW_law_677 ?_
    refine rl_s hx hb hX hbl hbA hS (by omega) (by omega) hx1 d_LW_law_678 ?_
    refine lv_aload_n hx hb d_LW_law_679 rfl (lv_at hl 4 rfl) ?_
    refine pc_T (As := [.ref (ad 0), .int x1, .ref oa]) (rest := []) hx hb (hml.trans hl.1.symm) hown ht F hP hD hS (c1_LW_read l hl0 g ad oa rg hd (nF od) (nF tx) (nI td) sm pa pr fl op du qa ab ac qb be bc wd ou (MW g ma cd rg hd (nF oo) (nF kp) (nI td) (nF tx) ct fd os oq vs sk ++ []) x1 (by first | omega | exact q1 | exact q2 | exact q2.1 | exact q2.2 | exact q2.2.1 | exact q2.2.2 | exact I9.1.1 | exact I9.2.2.2.2 | exact I9.oo.1 | exact I9.oo | exact I9.2.2.2.1 | exact I9.2.2.1 | exact I9.2.2.2.2 _ (by omega) | exact (I9.2.2.2.2 _ (by omega)).resolve_right q2)) v_LW_read tw_305 ⟨rfl, rfl⟩ ⟨by decide, by decide⟩ rfl rfl (Nat.le_of_ble_eq_true rfl) ⟨hc1, hs1⟩ d_LW_law_680 (fun r9 u9 H locs hq hP hD hS => ?_)
    subst hq
    refine lv_istore (lv' := [(5, .int (nI 1)), (4, .int (nI i)), (0, .ref b), (1, .ref (ad 0)), (2, .ref (ma 0)), (3, .ref oa)]) hx hb d_LW_law_683 hl (by decide) rfl (fun ls hl => ?_)
    refine lv_aload_n hx hb d_LW_law_685 rfl (lv_at hl 4 rfl) ?_
    refine lv_aload_n hx hb d_LW_law_686 rfl (lv_at hl 2 rfl) ?_
    refine lv_iload hx hb d_LW_law_687 (lv_at hl 1 rfl) ?_
    refine lv_iconst (v := nI 1) hx hb d_LW_law_689 (by decide) ?_
    refine rn_add hx hb d_LW_law_690 ?_
    refine rl_s hx hb hX hbl hbA hS (by omega) (by omega) hx1 d_LW_law_691 ?_
    have hP : va_P g.1 cl (MW g ma cd rg hd (nF oo) (nF kp) (nI td) (nF tx) ct fd os oq vs sk ++ ((oa, aJ g 1 ou) :: (CW g ad rg hd (nF od) (nF tx) (nI td) sm pa pr fl op du qa ab ac qb be bc wd ++ []))) H := wp_perm (pm_ab _ _ _) hP
    have hD : va_D (gA g) (MW g ma cd rg hd (nF oo) (nF kp) (nI td) (nF tx) ct fd os oq vs sk ++ ((oa, aJ g 1 ou) :: (CW g ad rg hd (nF od) (nF tx) (nI td) sm pa pr fl op du qa ab ac qb be bc wd ++ []))) := wd_perm (pm_ab _ _ _) hD
    refine pc_Vi (q0 := 0) (As := [.int x1]) (rest := []) hx hb (hml.trans hl.1.symm) hown ht F hP hD hS (c1_MD_read l g ma cd rg hd (nF oo) (nF kp) (nI td) (nF tx) ct fd os oq vs sk ((oa, aJ g 1 ou) :: (CW g ad rg hd (nF od) (nF tx) (nI td) sm pa pr fl op du qa ab ac qb be bc wd ++ [])) x1 (by first | omega | exact q1 | exact q2 | exact q2.1 | exact q2.2 | exact q2.2.1 | exact q2.2.2 | exact I9.1.1 | exact I9.2.2.2.2 | exact I9.oo.1 | exact I9.oo | exact I9.2.2.2.1 | exact I9.2.2.1 | exact I9.2.2.2.2 _ (by omega) | exact (I9.2.2.2.2 _ (by omega)).resolve_right q2)) v_MD_read tw_566 ⟨rfl, rfl⟩ ⟨by decide, by decide⟩ rfl rfl rfl rfl (Nat.le_of_ble_eq_true rfl) ⟨hc1, hs1⟩ d_LW_law_692 (fun r9 u9 H locs hq hP hD hS => ?_)
    subst hq
    have hP : va_P g.1 cl (MW g ma (nI 1) rg hd (nF oo) (nF kp) (nI td) (nF tx) ct fd os oq vs sk ++ ((oa, aJ g 1 ou) :: (CW g ad rg hd (nF od) (nF tx) (nI td) sm pa pr fl op du qa ab ac qb be bc wd ++ []))) H := hP
    have hD : va_D (gA g) (MW g ma (nI 1) rg hd (nF oo) (nF kp) (nI td) (nF tx) ct fd os oq vs sk ++ ((oa, aJ g 1 ou) :: (CW g ad rg hd (nF od) (nF tx) (nI td) sm pa pr fl op du qa ab ac qb be bc wd ++ []))) := hD
    refine lv_istore (lv' := [(6, .int (nI 0)), (5, .int (nI 1)), (4, .int (nI i)), (0, .ref b), (1, .ref (ad 0)), (2, .ref (ma 0)), (3, .ref oa)]) hx hb d_LW_law_695 hl (by decide) rfl (fun ls hl => ?_)
    refine lv_aload_n hx hb d_LW_law_697 rfl (lv_at hl 5 rfl) ?_
    refine pc_Vi (q0 := 0) (As := []) (rest := []) hx hb (hml.trans hl.1.symm) hown ht F hP hD hS (c_MD_thrown l g ma (nI 1) rg hd (nF oo) (nF kp) (nI td) (nF tx) ct fd os oq vs sk ((oa, aJ g 1 ou) :: (CW g ad rg hd (nF od) (nF tx) (nI td) sm pa pr fl op du qa ab ac qb be bc wd ++ []))) v_MD_thrown tw_510 ⟨rfl, rfl⟩ ⟨by decide, by decide⟩ rfl rfl rfl rfl (Nat.le_of_ble_eq_true rfl) ⟨hc1, hs1⟩ d_LW_law_698 (fun r9 u9 H locs hq hP hD hS => ?_)
    subst hq
    refine lv_iload hx hb d_LW_law_701 (lv_at hl 1 rfl) ?_
    refine rc_eq (tgt := 708) hx hb (by omega) (by omega) d_LW_law_703 (by decide) (fun c703 => ?_) (fun c703 => ?_)
    · refine lv_iload hx hb d_LW_law_708 (lv_at hl 1 rfl) ?_
      refine rz_ne (tgt := 725) hx hb (by omega) d_LW_law_710 (by decide) (fun c710 => ?_) (fun c710 => ?_)
      · refine lv_goto (tgt := 1402) hx hb d_LW_law_725 (by decide) ?_
        have hP : va_P g.1 cl (CW g ad rg hd (nF od) (nF tx) (nI td) sm pa pr fl op du qa ab ac qb be bc wd ++ ((oa, aJ g 1 ou) :: (MW g ma (nI 1) rg hd (nF oo) (nF kp) (nI td) (nF tx) ct fd os oq vs sk ++ []))) H := wp_perm (pm_ab _ _ _) hP
        have hD : va_D (gA g) (CW g ad rg hd (nF od) (nF tx) (nI td) sm pa pr fl op du qa ab ac qb be bc wd ++ ((oa, aJ g 1 ou) :: (MW g ma (nI 1) rg hd (nF oo) (nF kp) (nI td) (nF tx) ct fd os oq vs sk ++ []))) := wd_perm (pm_ab _ _ _) hD
        refine W.widen (k := cells + 1) (n := slots + 6) (by omega) (by omega) ?_
        exact kk H locs ls ⟨rg, hd, od, tx, td, sm, pa, pr, fl, op, du, qa, ab, ac, qb, be, bc, wd, ou, nI 1, oo, kp, ct, fd, os, oq, vs, sk, I9, hP, hD⟩ hS (lv_sub hl [2, 3, 4, 5, 6] rfl)
      · exact (by omega : False).elim
    · exact (by omega : False).elim
set_option maxRecDepth 100000 in
set_option maxHeartbeats 4000000 in
theorem st_release {p : Program} {l : Launch} {e : Env} {s : State} {m : MethodId} {below : List Frame} {meth : Method} {c : Code} (hl0 : l.stackTraces = false) {g : Gx} {ad ma : Nat → Nat} {oa b L i : Nat} {xs : Nat → Int32} {x1 x2 x3 x4 : Int32} (hx : p.tables.exec = Jvm.exec) (hb : c.code = b_LW_law) (hml : c.maxLocals = 7) (hown : s.vm.findClass "SiftedGraphsLaw" = some m.cls) (ht : ∀ w ∈ TW, w.before #[Value.ref b] s = true) (F : Fx g s) (hX : va_X b L xs s s.heap) (hbl : b < s.heap.size) (hbA : ¬ gA g b) (hL : L ≤ 2560) (hi : i + 4 < L) (hx1 : xs (i + 1) = x1) (hx2 : xs (i + 2) = x2) (hx3 : xs (i + 3) = x3) (hx4 : xs (i + 4) = x4) {rg : Nat → Int64} {hd : Nat → Int32} {od : Nat → Nat} {tx : Nat → Nat} {td : Nat} {sm : Nat → Int64} {pa : Nat → Int64} {pr : Nat → Int64} {fl : Nat → Int64} {op : Int32} {du : Int32} {qa : Nat} {ab : Nat → Int64} {ac : Int32} {qb : Nat} {be : Nat → Int64} {bc : Int32} {wd : Nat → Int32} {ou : Nat → Int64} {cd : Int32} {oo : Nat → Nat} {kp : Nat → Nat} {ct : Int32} {fd : Nat → Int64} {os : Int32} {oq : Nat → Int32} {vs : Int32} {sk : Nat → Int64} (I9 : INV od oo tx hd td) {H : Heap} {locs : List Loc} {ls : Array Slot} (hP : va_P g.1 cl (CW g ad rg hd (nF od) (nF tx) (nI td) sm pa pr fl op du qa ab ac qb be bc wd ++ ((oa, aJ g 1 ou) :: (MW g ma cd rg hd (nF oo) (nF kp) (nI td) (nF tx) ct fd os oq vs sk ++ []))) H) (hD : va_D (gA g) (CW g ad rg hd (nF od) (nF tx) (nI td) sm pa pr fl op du qa ab ac qb be bc wd ++ ((oa, aJ g 1 ou) :: (MW g ma cd rg hd (nF oo) (nF kp) (nI td) (nF tx) ct fd os oq vs sk ++ [])))) (hS : va_S (gA g) s.heap H locs) (hl : lv_has ls 7 [(4, .int (nI i)), (0, .ref b), (1, .ref (ad 0)), (2, .ref (ma 0)), (3, .ref oa)]) {cells slots : Nat} (hc1 : cells + 1 ≤ room_1.cells) (hs1 : slots + 6 ≤ room_1.slots) {Q : State → Prop}
    (kk : ∀ (H : Heap) (locs : List Loc) (ls : Array Slot), LST g ad ma oa H → va_S (gA g) s.heap H locs → lv_has ls 7 [(4, .int (nI i)), (0, .ref b), (1, .ref (ad 0)), (2, .ref (ma 0)), (3, .ref oa)] → W p l e room_1 s m #[Value.ref b] below meth c H locs (cells + 1) (slots + 6) Q (F0 m 1402 ls [])) : W p l e room_1 s m #[Value.ref b] below meth c H locs cells slots Q (F0 m 728 ls []) := by
  have hcA : cells ≤ room_1.cells := Nat.le_of_succ_le hc1
  have hsA : slots ≤ room_1.slots := Nat.le_trans (Nat.le_add_right _ _) hs1
  by_cases q1 : inR x1 8
  · obtain ⟨k1, g1, rfl⟩ := q1
    refine lv_aload_n hx hb d_LW_law_728 rfl (lv_at hl 2 rfl) ?_
    refine lv_aload_n hx hb d_LW_law_729 rfl (lv_at hl 1 rfl) ?_
    refine lv_iload hx hb d_LW_law_730 (lv_at hl 0 rfl) ?_
    refine lv_iconst (v := nI 1) hx hb d_LW_law_732 (by decide) ?_
    refine rn_add hx hb d_LW_law_733 ?_
    refine rl_s hx hb hX hbl hbA hS (by omega) (by omega) hx1 d_LW_law_734 ?_
    refine lv_aload_n hx hb d_LW_law_735 rfl (lv_at hl 4 rfl) ?_
    refine pc_T (As := [.ref (ad 0), .int (nI k1), .ref oa]) (rest := []) hx hb (hml.trans hl.1.symm) hown ht F hP hD hS (c_LW_release l g ad oa rg hd (nF od) (nF tx) (nI td) sm pa pr fl op du qa ab ac qb be bc wd ou (MW g ma cd rg hd (nF oo) (nF kp) (nI td) (nF tx) ct fd os oq vs sk ++ []) k1 (by first | omega | exact q1 | exact q2 | exact q2.1 | exact q2.2 | exact q2.2.1 | exact q2.2.2 | exact I9.1.1 | exact I9.2.2.2.2 | exact I9.oo.1 | exact I9.oo | exact I9.2.2.2.1 | exact I9.2.2.1 | exact I9.2.2.2.2 _ (by omega) | exact (I9.2.2.2.2 _ (by omega)).resolve_right q2) (by first | omega | exact q1 | exact q2 | exact q2.1 | exact q2.2 | exact q2.2.1 | exact q2.2.2 | exact I9.1.1 | exact I9.2.2.2.2 | exact I9.oo.1 | exact I9.oo | exact I9.2.2.2.1 | exact I9.2.2.1 | exact I9.2.2.2.2 _ (by omega) | exact (I9.2.2.2.2 _ (by omega)).resolve_right q2)) v_LW_release tw_353 ⟨rfl, rfl⟩ ⟨by decide, by decide⟩ rfl rfl (Nat.le_of_ble_eq_true rfl) ⟨hcA, hsA⟩ d_LW_law_736 (fun r9 u9 H locs hq hP hD hS => ?_)
    subst hq
    have hP : va_P g.1 cl (CW g ad rg (upd hd k1 (nI 0)) (nF od) (nF tx) (nI td) sm pa pr fl op du qa ab ac qb be bc wd ++ ((oa, aJ g 1 (vp_updL ou 0 (if (hd k1) = 0 then 0 else 1))) :: (MW g ma cd rg hd (nF oo) (nF kp) (nI td) (nF tx) ct fd os oq vs sk ++ []))) H := hP
    have hD : va_D (gA g) (CW g ad rg (upd hd k1 (nI 0)) (nF od) (nF tx) (nI td) sm pa pr fl op du qa ab ac qb be bc wd ++ ((oa, aJ g 1 (vp_updL ou 0 (if (hd k1) = 0 then 0 else 1))) :: (MW g ma cd rg hd (nF oo) (nF kp) (nI td) (nF tx) ct fd os oq vs sk ++ []))) := hD
    refine lv_istore (lv' := [(5, .int (nI 0)), (4, .int (nI i)), (0, .ref b), (1, .ref (ad 0)), (2, .ref (ma 0)), (3, .ref oa)]) hx hb d_LW_law_739 hl (by decide) rfl (fun ls hl => ?_)
    refine lv_aload_n hx hb d_LW_law_741 rfl (lv_at hl 4 rfl) ?_
    refine lv_aload_n hx hb d_LW_law_742 rfl (lv_at hl 2 rfl) ?_
    refine lv_iload hx hb d_LW_law_743 (lv_at hl 1 rfl) ?_
    refine lv_iconst (v := nI 1) hx hb d_LW_law_745 (by decide) ?_
    refine rn_add hx hb d_LW_law_746 ?_
    refine rl_s hx hb hX hbl hbA hS (by omega) (by omega) hx1 d_LW_law_747 ?_
    have hP : va_P g.1 cl (MW g ma cd rg hd (nF oo) (nF kp) (nI td) (nF tx) ct fd os oq vs sk ++ ((oa, aJ g 1 (vp_updL ou 0 (if (hd k1) = 0 then 0 else 1))) :: (CW g ad rg (upd hd k1 (nI 0)) (nF od) (nF tx) (nI td) sm pa pr fl op du qa ab ac qb be bc wd ++ []))) H := wp_perm (pm_ab _ _ _) hP
    have hD : va_D (gA g) (MW g ma cd rg hd (nF oo) (nF kp) (nI td) (nF tx) ct fd os oq vs sk ++ ((oa, aJ g 1 (vp_updL ou 0 (if (hd k1) = 0 then 0 else 1))) :: (CW g ad rg (upd hd k1 (nI 0)) (nF od) (nF tx) (nI td) sm pa pr fl op du qa ab ac qb be bc wd ++ []))) := wd_perm (pm_ab _ _ _) hD
    refine pc_Vi (q0 := 0) (As := [.int (nI k1)]) (rest := []) hx hb (hml.trans hl.1.symm) hown ht F hP hD hS (c_MD_release l g ma cd rg hd (nF oo) (nF kp) (nI td) (nF tx) ct fd os oq vs sk ((oa, aJ g 1 (vp_updL ou 0 (if (hd k1) = 0 then 0 else 1))) :: (CW g ad rg (upd hd k1 (nI 0)) (nF od) (nF tx) (nI td) sm pa pr fl op du qa ab ac qb be bc wd ++ [])) k1 (by first | omega | exact q1 | exact q2 | exact q2.1 | exact q2.2 | exact q2.2.1 | exact q2.2.2 | exact I9.1.1 | exact I9.2.2.2.2 | exact I9.oo.1 | exact I9.oo | exact I9.2.2.2.1 | exact I9.2.2.1 | exact I9.2.2.2.2 _ (by omega) | exact (I9.2.2.2.2 _ (by omega)).resolve_right q2) (by first | omega | exact q1 | exact q2 | exact q2.1 | exact q2.2 | exact q2.2.1 | exact q2.2.2 | exact I9.1.1 | exact I9.2.2.2.2 | exact I9.oo.1 | exact I9.oo | exact I9.2.2.2.1 | exact I9.2.2.1 | exact I9.2.2.2.2 _ (by omega) | exact (I9.2.2.2.2 _ (by omega)).resolve_right q2)) v_MD_release tw_558 ⟨rfl, rfl⟩ ⟨by decide, by decide⟩ rfl rfl rfl rfl (Nat.le_of_ble_eq_true rfl) ⟨hcA, hsA⟩ d_LW_law_748 (fun r9 u9 H locs hq hP hD hS => ?_)
    subst hq
    have hP : va_P g.1 cl (MW g ma (nI 0) rg (upd hd k1 (nI 0)) (nF oo) (nF kp) (nI td) (nF tx) ct fd os oq vs sk ++ ((oa, aJ g 1 (vp_updL ou 0 (if (hd k1) = 0 then 0 else 1))) :: (CW g ad rg (upd hd k1 (nI 0)) (nF od) (nF tx) (nI td) sm pa pr fl op du qa ab ac qb be bc wd ++ []))) H := hP
    have hD : va_D (gA g) (MW g ma (nI 0) rg (upd hd k1 (nI 0)) (nF oo) (nF kp) (nI td) (nF tx) ct fd os oq vs sk ++ ((oa, aJ g 1 (vp_updL ou 0 (if (hd k1) = 0 then 0 else 1))) :: (CW g ad rg (upd hd k1 (nI 0)) (nF od) (nF tx) (nI td) sm pa pr fl op du qa ab ac qb be bc wd ++ []))) := hD
    refine lv_istore (lv' := [(6, .int (hd k1)), (5, .int (nI 0)), (4, .int (nI i)), (0, .ref b), (1, .ref (ad 0)), (2, .ref (ma 0)), (3, .ref oa)]) hx hb d_LW_law_751 hl (by decide) rfl (fun ls hl => ?_)
    refine lv_aload_n hx hb d_LW_law_753 rfl (lv_at hl 5 rfl) ?_
    refine pc_Vi (q0 := 0) (As := []) (rest := []) hx hb (hml.trans hl.1.symm) hown ht F hP hD hS (c_MD_thrown l g ma (nI 0) rg (upd hd k1 (nI 0)) (nF oo) (nF kp) (nI td) (nF tx) ct fd os oq vs sk ((oa, aJ g 1 (vp_updL ou 0 (if (hd k1) = 0 then 0 else 1))) :: (CW g ad rg (upd hd k1 (nI 0)) (nF od) (nF tx) (nI td) sm pa pr fl op du qa ab ac qb be bc wd ++ []))) v_MD_thrown tw_510 ⟨rfl, rfl⟩ ⟨by decide, by decide⟩ rfl rfl rfl rfl (Nat.le_of_ble_eq_true rfl) ⟨hcA, hsA⟩ d_LW_law_754 (fun r9 u9 H locs hq hP hD hS => ?_)
    subst hq
    refine lv_iload hx hb d_LW_law_757 (lv_at hl 1 rfl) ?_
    refine rc_eq (tgt := 764) hx hb (by omega) (by omega) d_LW_law_759 (by decide) (fun c759 => ?_) (fun c759 => ?_)
    · refine lv_iload hx hb d_LW_law_764 (lv_at hl 1 rfl) ?_
      refine rz_ne (tgt := 788) hx hb (by omega) d_LW_law_766 (by decide) (fun c766 => ?_) (fun c766 => ?_)
      · exact (by omega : False).elim
      · refine lv_aload_n hx hb d_LW_law_769 rfl (lv_at hl 6 rfl) ?_
        refine lv_iconst (v := nI 0) hx hb d_LW_law_770 (by decide) ?_
        refine ra_J hx hb F hP 9 rfl (by omega) (by decide) d_LW_law_771 ?_
        refine lv_iload hx hb d_LW_law_772 (lv_at hl 0 rfl) ?_
        refine lv_if_eq (tgt := 781) hx hb d_LW_law_774 (by decide) (fun c774 => ?_) (fun c774 => ?_)
        · refine lv_lconst (v := 0) hx hb d_LW_law_781 (by decide) ?_
          refine W.lcmp hx hb d_LW_law_782 ?_
          refine lv_if_eq (tgt := 788) hx hb d_LW_law_783 (by decide) (fun c783 => ?_) (fun c783 => ?_)
          · refine lv_goto (tgt := 1402) hx hb d_LW_law_788 (by decide) ?_
            have hP : va_P g.1 cl (CW g ad rg (upd hd k1 (nI 0)) (nF od) (nF tx) (nI td) sm pa pr fl op du qa ab ac qb be bc wd ++ ((oa, aJ g 1 (vp_updL ou 0 (if (hd k1) = 0 then 0 else 1))) :: (MW g ma (nI 0) rg (upd hd k1 (nI 0)) (nF oo) (nF kp) (nI td) (nF tx) ct fd os oq vs sk ++ []))) H := wp_perm (pm_ab _ _ _) hP
            have hD : va_D (gA g) (CW g ad rg (upd hd k1 (nI 0)) (nF od) (nF tx) (nI td) sm pa pr fl op du qa ab ac qb be bc wd ++ ((oa, aJ g 1 (vp_updL ou 0 (if (hd k1) = 0 then 0 else 1))) :: (MW g ma (nI 0) rg (upd hd k1 (nI 0)) (nF oo) (nF kp) (nI td) (nF tx) ct fd os oq vs sk ++ []))) := wd_perm (pm_ab _ _ _) hD
            refine W.widen (k := cells + 1) (n := slots + 6) (by omega) (by omega) ?_
            exact kk H locs ls ⟨rg, upd hd k1 (nI 0), od, tx, td, sm, pa, pr, fl, op, du, qa, ab, ac, qb, be, bc, wd, vp_updL ou 0 (if (hd k1) = 0 then 0 else 1), nI 0, oo, kp, ct, fd, os, oq, vs, sk, (I9.clr _), hP, hD⟩ hS (lv_sub hl [2, 3, 4, 5, 6] rfl)
          · exact absurd ((lg_cmp_eq _ _).mpr ((uL_s _ _ _).trans (if_pos c774))) c783
        · refine lv_lconst (v := 1) hx hb d_LW_law_777 (by decide) ?_
          refine lv_goto (tgt := 782) hx hb d_LW_law_778 (by decide) ?_
          refine W.lcmp hx hb d_LW_law_782 ?_
          refine lv_if_eq (tgt := 788) hx hb d_LW_law_783 (by decide) (fun c783 => ?_) (fun c783 => ?_)
          · refine lv_goto (tgt := 1402) hx hb d_LW_law_788 (by decide) ?_
            have hP : va_P g.1 cl (CW g ad rg (upd hd k1 (nI 0)) (nF od) (nF tx) (nI td) sm pa pr fl op du qa ab ac qb be bc wd ++ ((oa, aJ g 1 (vp_updL ou 0 (if (hd k1) = 0 then 0 else 1))) :: (MW g ma (nI 0) rg (upd hd k1 (nI 0)) (nF oo) (nF kp) (nI td) (nF tx) ct fd os oq vs sk ++ []))) H := wp_perm (pm_ab _ _ _) hP
            have hD : va_D (gA g) (CW g ad rg (upd hd k1 (nI 0)) (nF od) (nF tx) (nI td) sm pa pr fl op du qa ab ac qb be bc wd ++ ((oa, aJ g 1 (vp_updL ou 0 (if (hd k1) = 0 then 0 else 1))) :: (MW g ma (nI 0) rg (upd hd k1 (nI 0)) (nF oo) (nF kp) (nI td) (nF tx) ct fd os oq vs sk ++ []))) := wd_perm (pm_ab _ _ _) hD
            refine W.widen (k := cells + 1) (n := slots + 6) (by omega) (by omega) ?_
            exact kk H locs ls ⟨rg, upd hd k1 (nI 0), od, tx, td, sm, pa, pr, fl, op, du, qa, ab, ac, qb, be, bc, wd, vp_updL ou 0 (if (hd k1) = 0 then 0 else 1), nI 0, oo, kp, ct, fd, os, oq, vs, sk, (I9.clr _), hP, hD⟩ hS (lv_sub hl [2, 3, 4, 5, 6] rfl)
          · exact absurd ((lg_cmp_eq _ _).mpr ((uL_s _ _ _).trans (if_neg c774))) c783
    · exact (by omega : False).elim
  · refine lv_aload_n hx hb d_LW_law_728 rfl (lv_at hl 2 rfl) ?_
    refine lv_aload_n hx hb d_LW_law_729 rfl (lv_at hl 1 rfl) ?_
    refine lv_iload hx hb d_LW_law_730 (lv_at hl 0 rfl) ?_
    refine lv_iconst (v := nI 1) hx hb d_LW_law_732 (by decide) ?_
    refine rn_add hx hb d_LW_law_733 ?_
    refine rl_s hx hb hX hbl hbA hS (by omega) (by omega) hx1 d_LW_law_734 ?_
    refine lv_aload_n hx hb d_LW_law_735 rfl (lv_at hl 4 rfl) ?_
    refine pc_T (As := [.ref (ad 0), .int x1, .ref oa]) (rest := []) hx hb (hml.trans hl.1.symm) hown ht F hP hD hS (c1_LW_release l hl0 g ad oa rg hd (nF od) (nF tx) (nI td) sm pa pr fl op du qa ab ac qb be bc wd ou (MW g ma cd rg hd (nF oo) (nF kp) (nI td) (nF tx) ct fd os oq vs sk ++ []) x1 (by first | omega | exact q1 | exact q2 | exact q2.1 | exact q2.2 | exact q2.2.1 | exact q2.2.2 | exact I9.1.1 | exact I9.2.2.2.2 | exact I9.oo.1 | exact I9.oo | exact I9.2.2.2.1 | exact I9.2.2.1 | exact I9.2.2.2.2 _ (by omega) | exact (I9.2.2.2.2 _ (by omega)).resolve_right q2)) v_LW_release tw_353 ⟨rfl, rfl⟩ ⟨by decide, by decide⟩ rfl rfl (Nat.le_of_ble_eq_true rfl) ⟨hc1, hs1⟩ d_LW_law_736 (fun r9 u9 H locs hq hP hD hS => ?_)
    subst hq
    refine lv_istore (lv' := [(5, .int (nI 1)), (4, .int (nI i)), (0, .ref b), (1, .ref (ad 0)), (2, .ref (ma 0)), (3, .ref oa)]) hx hb d_LW_law_739 hl (by decide) rfl (fun ls hl => ?_)
    refine lv_aload_n hx hb d_LW_law_741 rfl (lv_at hl 4 rfl) ?_
    refine lv_aload_n hx hb d_LW_law_742 rfl (lv_at hl 2 rfl) ?_
    refine lv_iload hx hb d_LW_law_743 (lv_at hl 1 rfl) ?_
    refine lv_iconst (v := nI 1) hx hb d_LW_law_745 (by decide) ?_
    refine rn_add hx hb d_LW_law_746 ?_
    refine rl_s hx hb hX hbl hbA hS (by omega) (by omega) hx1 d_LW_law_747 ?_
    have hP : va_P g.1 cl (MW g ma cd rg hd (nF oo) (nF kp) (nI td) (nF tx) ct fd os oq vs sk ++ ((oa, aJ g 1 ou) :: (CW g ad rg hd (nF od) (nF tx) (nI td) sm pa pr fl op du qa ab ac qb be bc wd ++ []))) H := wp_perm (pm_ab _ _ _) hP
    have hD : va_D (gA g) (MW g ma cd rg hd (nF oo) (nF kp) (nI td) (nF tx) ct fd os oq vs sk ++ ((oa, aJ g 1 ou) :: (CW g ad rg hd (nF od) (nF tx) (nI td) sm pa pr fl op du qa ab ac qb be bc wd ++ []))) := wd_perm (pm_ab _ _ _) hD
    refine pc_Vi (q0 := 0) (As := [.int x1]) (rest := []) hx hb (hml.trans hl.1.symm) hown ht F hP hD hS (c1_MD_release l g ma cd rg hd (nF oo) (nF kp) (nI td) (nF tx) ct fd os oq vs sk ((oa, aJ g 1 ou) :: (CW g ad rg hd (nF od) (nF tx) (nI td) sm pa pr fl op du qa ab ac qb be bc wd ++ [])) x1 (by first | omega | exact q1 | exact q2 | exact q2.1 | exact q2.2 | exact q2.2.1 | exact q2.2.2 | exact I9.1.1 | exact I9.2.2.2.2 | exact I9.oo.1 | exact I9.oo | exact I9.2.2.2.1 | exact I9.2.2.1 | exact I9.2.2.2.2 _ (by omega) | exact (I9.2.2.2.2 _ (by omega)).resolve_right q2)) v_MD_release tw_558 ⟨rfl, rfl⟩ ⟨by decide, by decide⟩ rfl rfl rfl rfl (Nat.le_of_ble_eq_true rfl) ⟨hc1, hs1⟩ d_LW_law_748 (fun r9 u9 H locs hq hP hD hS => ?_)
    subst hq
    have hP : va_P g.1 cl (MW g ma (nI 1) rg hd (nF oo) (nF kp) (nI td) (nF tx) ct fd os oq vs sk ++ ((oa, aJ g 1 ou) :: (CW g ad rg hd (nF od) (nF tx) (nI td) sm pa pr fl op du qa ab ac qb be bc wd ++ []))) H := hP
    have hD : va_D (gA g) (MW g ma (nI 1) rg hd (nF oo) (nF kp) (nI td) (nF tx) ct fd os oq vs sk ++ ((oa, aJ g 1 ou) :: (CW g ad rg hd (nF od) (nF tx) (nI td) sm pa pr fl op du qa ab ac qb be bc wd ++ []))) := hD
    refine lv_istore (lv' := [(6, .int (nI 0)), (5, .int (nI 1)), (4, .int (nI i)), (0, .ref b), (1, .ref (ad 0)), (2, .ref (ma 0)), (3, .ref oa)]) hx hb d_LW_law_751 hl (by decide) rfl (fun ls hl => ?_)
    refine lv_aload_n hx hb d_LW_law_753 rfl (lv_at hl 5 rfl) ?_
    refine pc_Vi (q0 := 0) (As := []) (rest := []) hx hb (hml.trans hl.1.symm) hown ht F hP hD hS (c_MD_thrown l g ma (nI 1) rg hd (nF oo) (nF kp) (nI td) (nF tx) ct fd os oq vs sk ((oa, aJ g 1 ou) :: (CW g ad rg hd (nF od) (nF tx) (nI td) sm pa pr fl op du qa ab ac qb be bc wd ++ []))) v_MD_thrown tw_510 ⟨rfl, rfl⟩ ⟨by decide, by decide⟩ rfl rfl rfl rfl (Nat.le_of_ble_eq_true rfl) ⟨hc1, hs1⟩ d_LW_law_754 (fun r9 u9 H locs hq hP hD hS => ?_)
    subst hq
    refine lv_iload hx hb d_LW_law_757 (lv_at hl 1 rfl) ?_
    refine rc_eq (tgt := 764) hx hb (by omega) (by omega) d_LW_law_759 (by decide) (fun c759 => ?_) (fun c759 => ?_)
    · refine lv_iload hx hb d_LW_law_764 (lv_at hl 1 rfl) ?_
      refine rz_ne (tgt := 788) hx hb (by omega) d_LW_law_766 (by decide) (fun c766 => ?_) (fun c766 => ?_)
      · refine lv_goto (tgt := 1402) hx hb d_LW_law_788 (by decide) ?_
        have hP : va_P g.1 cl (CW g ad rg hd (nF od) (nF tx) (nI td) sm pa pr fl op du qa ab ac qb be bc wd ++ ((oa, aJ g 1 ou) :: (MW g ma (nI 1) rg hd (nF oo) (nF kp) (nI td) (nF tx) ct fd os oq vs sk ++ []))) H := wp_perm (pm_ab _ _ _) hP
        have hD : va_D (gA g) (CW g ad rg hd (nF od) (nF tx) (nI td) sm pa pr fl op du qa ab ac qb be bc wd ++ ((oa, aJ g 1 ou) :: (MW g ma (nI 1) rg hd (nF oo) (nF kp) (nI td) (nF tx) ct fd os oq vs sk ++ []))) := wd_perm (pm_ab _ _ _) hD
        refine W.widen (k := cells + 1) (n := slots + 6) (by omega) (by omega) ?_
        exact kk H locs ls ⟨rg, hd, od, tx, td, sm, pa, pr, fl, op, du, qa, ab, ac, qb, be, bc, wd, ou, nI 1, oo, kp, ct, fd, os, oq, vs, sk, I9, hP, hD⟩ hS (lv_sub hl [2, 3, 4, 5, 6] rfl)
      · exact (by omega : False).elim
    · exact (by omega : False).elim
set_option maxRecDepth 100000 in
set_option maxHeartbeats 4000000 in
theorem st_equal {p : Program} {l : Launch} {e : Env} {s : State} {m : MethodId} {below : List Frame} {meth : Method} {c : Code} (hl0 : l.stackTraces = false) {g : Gx} {ad ma : Nat → Nat} {oa b L i : Nat} {xs : Nat → Int32} {x1 x2 x3 x4 : Int32} (hx : p.tables.exec = Jvm.exec) (hb : c.code = b_LW_law) (hml : c.maxLocals = 7) (hown : s.vm.findClass "SiftedGraphsLaw" = some m.cls) (ht : ∀ w ∈ TW, w.before #[Value.ref b] s = true) (F : Fx g s) (hX : va_X b L xs s s.heap) (hbl : b < s.heap.size) (hbA : ¬ gA g b) (hL : L ≤ 2560) (hi : i + 4 < L) (hx1 : xs (i + 1) = x1) (hx2 : xs (i + 2) = x2) (hx3 : xs (i + 3) = x3) (hx4 : xs (i + 4) = x4) {rg : Nat → Int64} {hd : Nat → Int32} {od : Nat → Nat} {tx : Nat → Nat} {td : Nat} {sm : Nat → Int64} {pa : Nat → Int64} {pr : Nat → Int64} {fl : Nat → Int64} {op : Int32} {du : Int32} {qa : Nat} {ab : Nat → Int64} {ac : Int32} {qb : Nat} {be : Nat → Int64} {bc : Int32} {wd : Nat → Int32} {ou : Nat → Int64} {cd : Int32} {oo : Nat → Nat} {kp : Nat → Nat} {ct : Int32} {fd : Nat → Int64} {os : Int32} {oq : Nat → Int32} {vs : Int32} {sk : Nat → Int64} (I9 : INV od oo tx hd td) {H : Heap} {locs : List Loc} {ls : Array Slot} (hP : va_P g.1 cl (CW g ad rg hd (nF od) (nF tx) (nI td) sm pa pr fl op du qa ab ac qb be bc wd ++ ((oa, aJ g 1 ou) :: (MW g ma cd rg hd (nF oo) (nF kp) (nI td) (nF tx) ct fd os oq vs sk ++ []))) H) (hD : va_D (gA g) (CW g ad rg hd (nF od) (nF tx) (nI td) sm pa pr fl op du qa ab ac qb be bc wd ++ ((oa, aJ g 1 ou) :: (MW g ma cd rg hd (nF oo) (nF kp) (nI td) (nF tx) ct fd os oq vs sk ++ [])))) (hS : va_S (gA g) s.heap H locs) (hl : lv_has ls 7 [(4, .int (nI i)), (0, .ref b), (1, .ref (ad 0)), (2, .ref (ma 0)), (3, .ref oa)]) {cells slots : Nat} (hc1 : cells + 1 ≤ room_1.cells) (hs1 : slots + 6 ≤ room_1.slots) {Q : State → Prop}
    (kk : ∀ (H : Heap) (locs : List Loc) (ls : Array Slot), LST g ad ma oa H → va_S (gA g) s.heap H locs → lv_has ls 7 [(4, .int (nI i)), (0, .ref b), (1, .ref (ad 0)), (2, .ref (ma 0)), (3, .ref oa)] → W p l e room_1 s m #[Value.ref b] below meth c H locs (cells + 1) (slots + 6) Q (F0 m 1402 ls [])) : W p l e room_1 s m #[Value.ref b] below meth c H locs cells slots Q (F0 m 791 ls []) := by
  have hcA : cells ≤ room_1.cells := Nat.le_of_succ_le hc1
  have hsA : slots ≤ room_1.slots := Nat.le_trans (Nat.le_add_right _ _) hs1
  by_cases q1 : inR x1 8 ∧ inR x2 8
  · obtain ⟨⟨k1, g1, rfl⟩, ⟨k2, g2, rfl⟩⟩ := q1
    by_cases q2 : hd k1 = 1 ∧ hd k2 = 1
    · refine lv_aload_n hx hb d_LW_law_791 rfl (lv_at hl 2 rfl) ?_
      refine lv_aload_n hx hb d_LW_law_792 rfl (lv_at hl 1 rfl) ?_
      refine lv_iload hx hb d_LW_law_793 (lv_at hl 0 rfl) ?_
      refine lv_iconst (v := nI 1) hx hb d_LW_law_795 (by decide) ?_
      refine rn_add hx hb d_LW_law_796 ?_
      refine rl_s hx hb hX hbl hbA hS (by omega) (by omega) hx1 d_LW_law_797 ?_
      refine lv_aload_n hx hb d_LW_law_798 rfl (lv_at hl 1 rfl) ?_
      refine lv_iload hx hb d_LW_law_799 (lv_at hl 0 rfl) ?_
      refine lv_iconst (v := nI 2) hx hb d_LW_law_801 (by decide) ?_
      refine rn_add hx hb d_LW_law_802 ?_
      refine rl_s hx hb hX hbl hbA hS (by omega) (by omega) hx2 d_LW_law_803 ?_
      refine lv_aload_n hx hb d_LW_law_804 rfl (lv_at hl 4 rfl) ?_
      refine pc_T (As := [.ref (ad 0), .int (nI k1), .int (nI k2), .ref oa]) (rest := []) hx hb (hml.trans hl.1.symm) hown ht F hP hD hS (c_LW_equal l g ad oa rg hd (nF od) (nF tx) (nI td) sm pa pr fl op du qa ab ac qb be bc wd ou (MW g ma cd rg hd (nF oo) (nF kp) (nI td) (nF tx) ct fd os oq vs sk ++ []) k1 k2 (by first | omega | exact q1 | exact q2 | exact q2.1 | exact q2.2 | exact q2.2.1 | exact q2.2.2 | exact I9.1.1 | exact I9.2.2.2.2 | exact I9.oo.1 | exact I9.oo | exact I9.2.2.2.1 | exact I9.2.2.1 | exact I9.2.2.2.2 _ (by omega) | exact (I9.2.2.2.2 _ (by omega)).resolve_right q2) (by first | omega | exact q1 | exact q2 | exact q2.1 | exact q2.2 | exact q2.2.1 | exact q2.2.2 | exact I9.1.1 | exact I9.2.2.2.2 | exact I9.oo.1 | exact I9.oo | exact I9.2.2.2.1 | exact I9.2.2.1 | exact I9.2.2.2.2 _ (by omega) | exact (I9.2.2.2.2 _ (by omega)).resolve_right q2) (by first | omega | exact q1 | exact q2 | exact q2.1 | exact q2.2 | exact q2.2.1 | exact q2.2.2 | exact I9.1.1 | exact I9.2.2.2.2 | exact I9.oo.1 | exact I9.oo | exact I9.2.2.2.1 | exact I9.2.2.1 | exact I9.2.2.2.2 _ (by omega) | exact (I9.2.2.2.2 _ (by omega)).resolve_right q2) (by first | omega | exact q1 | exact q2 | exact q2.1 | exact q2.2 | exact q2.2.1 | exact q2.2.2 | exact I9.1.1 | exact I9.2.2.2.2 | exact I9.oo.1 | exact I9.oo | exact I9.2.2.2.1 | exact I9.2.2.1 | exact I9.2.2.2.2 _ (by omega) | exact (I9.2.2.2.2 _ (by omega)).resolve_right q2)) v_LW_equal tw_364 ⟨rfl, rfl⟩ ⟨by decide, by decide⟩ rfl rfl (Nat.le_of_ble_eq_true rfl) ⟨hcA, hsA⟩ d_LW_law_805 (fun r9 u9 H locs hq hP hD hS => ?_)
      subst hq
      have hP : va_P g.1 cl (CW g ad rg hd (nF od) (nF tx) (nI td) sm pa pr fl op du qa ab ac qb be bc wd ++ ((oa, aJ g 1 (vp_updL ou 0 (if (bI (rg k1 = rg k2)) = 0 then 0 else 1))) :: (MW g ma cd rg hd (nF oo) (nF kp) (nI td) (nF tx) ct fd os oq vs sk ++ []))) H := hP
      have hD : va_D (gA g) (CW g ad rg hd (nF od) (nF tx) (nI td) sm pa pr fl op du qa ab ac qb be bc wd ++ ((oa, aJ g 1 (vp_updL ou 0 (if (bI (rg k1 = rg k2)) = 0 then 0 else 1))) :: (MW g ma cd rg hd (nF oo) (nF kp) (nI td) (nF tx) ct fd os oq vs sk ++ []))) := hD
      refine lv_istore (lv' := [(5, .int (nI 0)), (4, .int (nI i)), (0, .ref b), (1, .ref (ad 0)), (2, .ref (ma 0)), (3, .ref oa)]) hx hb d_LW_law_808 hl (by decide) rfl (fun ls hl => ?_)
      refine lv_aload_n hx hb d_LW_law_810 rfl (lv_at hl 4 rfl) ?_
      refine lv_aload_n hx hb d_LW_law_811 rfl (lv_at hl 2 rfl) ?_
      refine lv_iload hx hb d_LW_law_812 (lv_at hl 1 rfl) ?_
      refine lv_iconst (v := nI 1) hx hb d_LW_law_814 (by decide) ?_
      refine rn_add hx hb d_LW_law_815 ?_
      refine rl_s hx hb hX hbl hbA hS (by omega) (by omega) hx1 d_LW_law_816 ?_
      refine lv_aload_n hx hb d_LW_law_817 rfl (lv_at hl 2 rfl) ?_
      refine lv_iload hx hb d_LW_law_818 (lv_at hl 1 rfl) ?_
      refine lv_iconst (v := nI 2) hx hb d_LW_law_820 (by decide) ?_
      refine rn_add hx hb d_LW_law_821 ?_
      refine rl_s hx hb hX hbl hbA hS (by omega) (by omega) hx2 d_LW_law_822 ?_
      have hP : va_P g.1 cl (MW g ma cd rg hd (nF oo) (nF kp) (nI td) (nF tx) ct fd os oq vs sk ++ ((oa, aJ g 1 (vp_updL ou 0 (if (bI (rg k1 = rg k2)) = 0 then 0 else 1))) :: (CW g ad rg hd (nF od) (nF tx) (nI td) sm pa pr fl op du qa ab ac qb be bc wd ++ []))) H := wp_perm (pm_ab _ _ _) hP
      have hD : va_D (gA g) (MW g ma cd rg hd (nF oo) (nF kp) (nI td) (nF tx) ct fd os oq vs sk ++ ((oa, aJ g 1 (vp_updL ou 0 (if (bI (rg k1 = rg k2)) = 0 then 0 else 1))) :: (CW g ad rg hd (nF od) (nF tx) (nI td) sm pa pr fl op du qa ab ac qb be bc wd ++ []))) := wd_perm (pm_ab _ _ _) hD
      refine pc_Vi (q0 := 0) (As := [.int (nI k1), .int (nI k2)]) (rest := []) hx hb (hml.trans hl.1.symm) hown ht F hP hD hS (c_MD_equal l g ma cd rg hd (nF oo) (nF kp) (nI td) (nF tx) ct fd os oq vs sk ((oa, aJ g 1 (vp_updL ou 0 (if (bI (rg k1 = rg k2)) = 0 then 0 else 1))) :: (CW g ad rg hd (nF od) (nF tx) (nI td) sm pa pr fl op du qa ab ac qb be bc wd ++ [])) k1 k2 (by first | omega | exact q1 | exact q2 | exact q2.1 | exact q2.2 | exact q2.2.1 | exact q2.2.2 | exact I9.1.1 | exact I9.2.2.2.2 | exact I9.oo.1 | exact I9.oo | exact I9.2.2.2.1 | exact I9.2.2.1 | exact I9.2.2.2.2 _ (by omega) | exact (I9.2.2.2.2 _ (by omega)).resolve_right q2) (by first | omega | exact q1 | exact q2 | exact q2.1 | exact q2.2 | exact q2.2.1 | exact q2.2.2 | exact I9.1.1 | exact I9.2.2.2.2 | exact I9.oo.1 | exact I9.oo | exact I9.2.2.2.1 | exact I9.2.2.1 | exact I9.2.2.2.2 _ (by omega) | exact (I9.2.2.2.2 _ (by omega)).resolve_right q2) (by first | omega | exact q1 | exact q2 | exact q2.1 | exact q2.2 | exact q2.2.1 | exact q2.2.2 | exact I9.1.1 | exact I9.2.2.2.2 | exact I9.oo.1 | exact I9.oo | exact I9.2.2.2.1 | exact I9.2.2.1 | exact I9.2.2.2.2 _ (by omega) | exact (I9.2.2.2.2 _ (by omega)).resolve_right q2) (by first | omega | exact q1 | exact q2 | exact q2.1 | exact q2.2 | exact q2.2.1 | exact q2.2.2 | exact I9.1.1 | exact I9.2.2.2.2 | exact I9.oo.1 | exact I9.oo | exact I9.2.2.2.1 | exact I9.2.2.1 | exact I9.2.2.2.2 _ (by omega) | exact (I9.2.2.2.2 _ (by omega)).resolve_right q2)) v_MD_equal tw_589 ⟨rfl, rfl⟩ ⟨by decide, by decide⟩ rfl rfl rfl rfl (Nat.le_of_ble_eq_true rfl) ⟨hcA, hsA⟩ d_LW_law_823 (fun r9 u9 H locs hq hP hD hS => ?_)
      subst hq
      have hP : va_P g.1 cl (MW g ma (nI 0) rg hd (nF oo) (nF kp) (nI td) (nF tx) ct fd os oq vs sk ++ ((oa, aJ g 1 (vp_updL ou 0 (if (bI (rg k1 = rg k2)) = 0 then 0 else 1))) :: (CW g ad rg hd (nF od) (nF tx) (nI td) sm pa pr fl op du qa ab ac qb be bc wd ++ []))) H := hP
      have hD : va_D (gA g) (MW g ma (nI 0) rg hd (nF oo) (nF kp) (nI td) (nF tx) ct fd os oq vs sk ++ ((oa, aJ g 1 (vp_updL ou 0 (if (bI (rg k1 = rg k2)) = 0 then 0 else 1))) :: (CW g ad rg hd (nF od) (nF tx) (nI td) sm pa pr fl op du qa ab ac qb be bc wd ++ []))) := hD
      refine lv_istore (lv' := [(6, .int (bI (rg k1 = rg k2))), (5, .int (nI 0)), (4, .int (nI i)), (0, .ref b), (1, .ref (ad 0)), (2, .ref (ma 0)), (3, .ref oa)]) hx hb d_LW_law_826 hl (by decide) rfl (fun ls hl => ?_)
      refine lv_aload_n hx hb d_LW_law_828 rfl (lv_at hl 5 rfl) ?_
      refine pc_Vi (q0 := 0) (As := []) (rest := []) hx hb (hml.trans hl.1.symm) hown ht F hP hD hS (c_MD_thrown l g ma (nI 0) rg hd (nF oo) (nF kp) (nI td) (nF tx) ct fd os oq vs sk ((oa, aJ g 1 (vp_updL ou 0 (if (bI (rg k1 = rg k2)) = 0 then 0 else 1))) :: (CW g ad rg hd (nF od) (nF tx) (nI td) sm pa pr fl op du qa ab ac qb be bc wd ++ []))) v_MD_thrown tw_510 ⟨rfl, rfl⟩ ⟨by decide, by decide⟩ rfl rfl rfl rfl (Nat.le_of_ble_eq_true rfl) ⟨hcA, hsA⟩ d_LW_law_829 (fun r9 u9 H locs hq hP hD hS => ?_)
      subst hq
      refine lv_iload hx hb d_LW_law_832 (lv_at hl 1 rfl) ?_
      refine rc_eq (tgt := 839) hx hb (by omega) (by omega) d_LW_law_834 (by decide) (fun c834 => ?_) (fun c834 => ?_)
      · refine lv_iload hx hb d_LW_law_839 (lv_at hl 1 rfl) ?_
        refine rz_ne (tgt := 863) hx hb (by omega) d_LW_law_841 (by decide) (fun c841 => ?_) (fun c841 => ?_)
        · exact (by omega : False).elim
        · refine lv_aload_n hx hb d_LW_law_844 rfl (lv_at hl 6 rfl) ?_
          refine lv_iconst (v := nI 0) hx hb d_LW_law_845 (by decide) ?_
          refine ra_J hx hb F hP 9 rfl (by omega) (by decide) d_LW_law_846 ?_
          refine lv_iload hx hb d_LW_law_847 (lv_at hl 0 rfl) ?_
          refine lv_if_eq (tgt := 856) hx hb d_LW_law_849 (by decide) (fun c849 => ?_) (fun c849 => ?_)
          · refine lv_lconst (v := 0) hx hb d_LW_law_856 (by decide) ?_
            refine W.lcmp hx hb d_LW_law_857 ?_
            refine lv_if_eq (tgt := 863) hx hb d_LW_law_858 (by decide) (fun c858 => ?_) (fun c858 => ?_)
            · refine lv_goto (tgt := 1402) hx hb d_LW_law_863 (by decide) ?_
              have hP : va_P g.1 cl (CW g ad rg hd (nF od) (nF tx) (nI td) sm pa pr fl op du qa ab ac qb be bc wd ++ ((oa, aJ g 1 (vp_updL ou 0 (if (bI (rg k1 = rg k2)) = 0 then 0 else 1))) :: (MW g ma (nI 0) rg hd (nF oo) (nF kp) (nI td) (nF tx) ct fd os oq vs sk ++ []))) H := wp_perm (pm_ab _ _ _) hP
              have hD : va_D (gA g) (CW g ad rg hd (nF od) (nF tx) (nI td) sm pa pr fl op du qa ab ac qb be bc wd ++ ((oa, aJ g 1 (vp_updL ou 0 (if (bI (rg k1 = rg k2)) = 0 then 0 else 1))) :: (MW g ma (nI 0) rg hd (nF oo) (nF kp) (nI td) (nF tx) ct fd os oq vs sk ++ []))) := wd_perm (pm_ab _ _ _) hD
              refine W.widen (k := cells + 1) (n := slots + 6) (by omega) (by omega) ?_
              exact kk H locs ls ⟨rg, hd, od, tx, td, sm, pa, pr, fl, op, du, qa, ab, ac, qb, be, bc, wd, vp_updL ou 0 (if (bI (rg k1 = rg k2)) = 0 then 0 else 1), nI 0, oo, kp, ct, fd, os, oq, vs, sk, I9, hP, hD⟩ hS (lv_sub hl [2, 3, 4, 5, 6] rfl)
            · exact absurd ((lg_cmp_eq _ _).mpr ((uL_s _ _ _).trans (if_pos c849))) c858
          · refine lv_lconst (v := 1) hx hb d_LW_law_852 (by decide) ?_
            refine lv_goto (tgt := 857) hx hb d_LW_law_853 (by decide) ?_
            refine W.lcmp hx hb d_LW_law_857 ?_
            refine lv_if_eq (tgt := 863) hx hb d_LW_law_858 (by decide) (fun c858 => ?_) (fun c858 => ?_)
            · refine lv_goto (tgt := 1402) hx hb d_LW_law_863 (by decide) ?_
              have hP : va_P g.1 cl (CW g ad rg hd (nF od) (nF tx) (nI td) sm pa pr fl op du qa ab ac qb be bc wd ++ ((oa, aJ g 1 (vp_updL ou 0 (if (bI (rg k1 = rg k2)) = 0 then 0 else 1))) :: (MW g ma (nI 0) rg hd (nF oo) (nF kp) (nI td) (nF tx) ct fd os oq vs sk ++ []))) H := wp_perm (pm_ab _ _ _) hP
              have hD : va_D (gA g) (CW g ad rg hd (nF od) (nF tx) (nI td) sm pa pr fl op du qa ab ac qb be bc wd ++ ((oa, aJ g 1 (vp_updL ou 0 (if (bI (rg k1 = rg k2)) = 0 then 0 else 1))) :: (MW g ma (nI 0) rg hd (nF oo) (nF kp) (nI td) (nF tx) ct fd os oq vs sk ++ []))) := wd_perm (pm_ab _ _ _) hD
              refine W.widen (k := cells + 1) (n := slots + 6) (by omega) (by omega) ?_
              exact kk H locs ls ⟨rg, hd, od, tx, td, sm, pa, pr, fl, op, du, qa, ab, ac, qb, be, bc, wd, vp_updL ou 0 (if (bI (rg k1 = rg k2)) = 0 then 0 else 1), nI 0, oo, kp, ct, fd, os, oq, vs, sk, I9, hP, hD⟩ hS (lv_sub hl [2, 3, 4, 5, 6] rfl)
            · exact absurd ((lg_cmp_eq _ _).mpr ((uL_s _ _ _).trans (if_neg c849))) c858
      · exact (by omega : False).elim
    · refine lv_aload_n hx hb d_LW_law_791 rfl (lv_at hl 2 rfl) ?_
      refine lv_aload_n hx hb d_LW_law_792 rfl (lv_at hl 1 rfl) ?_
      refine lv_iload hx hb d_LW_law_793 (lv_at hl 0 rfl) ?_
      refine lv_iconst (v := nI 1) hx hb d_LW_law_795 (by decide) ?_
      refine rn_add hx hb d_LW_law_796 ?_
      refine rl_s hx hb hX hbl hbA hS (by omega) (by omega) hx1 d_LW_law_797 ?_
      refine lv_aload_n hx hb d_LW_law_798 rfl (lv_at hl 1 rfl) ?_
      refine lv_iload hx hb d_LW_law_799 (lv_at hl 0 rfl) ?_
      refine lv_iconst (v := nI 2) hx hb d_LW_law_801 (by decide) ?_
      refine rn_add hx hb d_LW_law_802 ?_
      refine rl_s hx hb hX hbl hbA hS (by omega) (by omega) hx2 d_LW_law_803 ?_
      refine lv_aload_n hx hb d_LW_law_804 rfl (lv_at hl 4 rfl) ?_
      refine pc_T (As := [.ref (ad 0), .int (nI k1), .int (nI k2), .ref oa]) (rest := []) hx hb (hml.trans hl.1.symm) hown ht F hP hD hS (c2_LW_equal l hl0 g ad oa rg hd (nF od) (nF tx) (nI td) sm pa pr fl op du qa ab ac qb be bc wd ou (MW g ma cd rg hd (nF oo) (nF kp) (nI td) (nF tx) ct fd os oq vs sk ++ []) k1 k2 (by first | omega | exact q1 | exact q2 | exact q2.1 | exact q2.2 | exact q2.2.1 | exact q2.2.2 | exact I9.1.1 | exact I9.2.2.2.2 | exact I9.oo.1 | exact I9.oo | exact I9.2.2.2.1 | exact I9.2.2.1 | exact I9.2.2.2.2 _ (by omega) | exact (I9.2.2.2.2 _ (by omega)).resolve_right q2) (by first | omega | exact q1 | exact q2 | exact q2.1 | exact q2.2 | exact q2.2.1 | exact q2.2.2 | exact I9.1.1 | exact I9.2.2.2.2 | exact I9.oo.1 | exact I9.oo | exact I9.2.2.2.1 | exact I9.2.2.1 | exact I9.2.2.2.2 _ (by omega) | exact (I9.2.2.2.2 _ (by omega)).resolve_right q2) (by first | omega | exact q1 | exact q2 | exact q2.1 | exact q2.2 | exact q2.2.1 | exact q2.2.2 | exact I9.1.1 | exact I9.2.2.2.2 | exact I9.oo.1 | exact I9.oo | exact I9.2.2.2.1 | exact I9.2.2.1 | exact I9.2.2.2.2 _ (by omega) | exact (I9.2.2.2.2 _ (by omega)).resolve_right q2) (by first | omega | exact q1 | exact q2 | exact q2.1 | exact q2.2 | exact q2.2.1 | exact q2.2.2 | exact I9.1.1 | exact I9.2.2.2.2 | exact I9.oo.1 | exact I9.oo | exact I9.2.2.2.1 | exact I9.2.2.1 | exact I9.2.2.2.2 _ (by omega) | exact (I9.2.2.2.2 _ (by omega)).resolve_right q2)) v_LW_equal tw_364 ⟨rfl, rfl⟩ ⟨by decide, by decide⟩ rfl rfl (Nat.le_of_ble_eq_true rfl) ⟨hc1, hs1⟩ d_LW_law_805 (fun r9 u9 H locs hq hP hD hS => ?_)
      subst hq
      refine lv_istore (lv' := [(5, .int (nI 2)), (4, .int (nI i)), (0, .ref b), (1, .ref (ad 0)), (2, .ref (ma 0)), (3, .ref oa)]) hx hb d_LW_law_808 hl (by decide) rfl (fun ls hl => ?_)
      refine lv_aload_n hx hb d_LW_law_810 rfl (lv_at hl 4 rfl) ?_
      refine lv_aload_n hx hb d_LW_law_811 rfl (lv_at hl 2 rfl) ?_
      refine lv_iload hx hb d_LW_law_812 (lv_at hl 1 rfl) ?_
      refine lv_iconst (v := nI 1) hx hb d_LW_law_814 (by decide) ?_
      refine rn_add hx hb d_LW_law_815 ?_
      refine rl_s hx hb hX hbl hbA hS (by omega) (by omega) hx1 d_LW_law_816 ?_
      refine lv_aload_n hx hb d_LW_law_817 rfl (lv_at hl 2 rfl) ?_
      refine lv_iload hx hb d_LW_law_818 (lv_at hl 1 rfl) ?_
      refine lv_iconst (v := nI 2) hx hb d_LW_law_820 (by decide) ?_
      refine rn_add hx hb d_LW_law_821 ?_
      refine rl_s hx hb hX hbl hbA hS (by omega) (by omega) hx2 d_LW_law_822 ?_
      have hP : va_P g.1 cl (MW g ma cd rg hd (nF oo) (nF kp) (nI td) (nF tx) ct fd os oq vs sk ++ ((oa, aJ g 1 ou) :: (CW g ad rg hd (nF od) (nF tx) (nI td) sm pa pr fl op du qa ab ac qb be bc wd ++ []))) H := wp_perm (pm_ab _ _ _) hP
      have hD : va_D (gA g) (MW g ma cd rg hd (nF oo) (nF kp) (nI td) (nF tx) ct fd os oq vs sk ++ ((oa, aJ g 1 ou) :: (CW g ad rg hd (nF od) (nF tx) (nI td) sm pa pr fl op du qa ab ac qb be bc wd ++ []))) := wd_perm (pm_ab _ _ _) hD
      refine pc_Vi (q0 := 0) (As := [.int (nI k1), .int (nI k2)]) (rest := []) hx hb (hml.trans hl.1.symm) hown ht F hP hD hS (c2_MD_equal l g ma cd rg hd (nF oo) (nF kp) (nI td) (nF tx) ct fd os oq vs sk ((oa, aJ g 1 ou) :: (CW g ad rg hd (nF od) (nF tx) (nI td) sm pa pr fl op du qa ab ac qb be bc wd ++ [])) k1 k2 (by first | omega | exact q1 | exact q2 | exact q2.1 | exact q2.2 | exact q2.2.1 | exact q2.2.2 | exact I9.1.1 | exact I9.2.2.2.2 | exact I9.oo.1 | exact I9.oo | exact I9.2.2.2.1 | exact I9.2.2.1 | exact I9.2.2.2.2 _ (by omega) | exact (I9.2.2.2.2 _ (by omega)).resolve_right q2) (by first | omega | exact q1 | exact q2 | exact q2.1 | exact q2.2 | exact q2.2.1 | exact q2.2.2 | exact I9.1.1 | exact I9.2.2.2.2 | exact I9.oo.1 | exact I9.oo | exact I9.2.2.2.1 | exact I9.2.2.1 | exact I9.2.2.2.2 _ (by omega) | exact (I9.2.2.2.2 _ (by omega)).resolve_right q2) (by first | omega | exact q1 | exact q2 | exact q2.1 | exact q2.2 | exact q2.2.1 | exact q2.2.2 | exact I9.1.1 | exact I9.2.2.2.2 | exact I9.oo.1 | exact I9.oo | exact I9.2.2.2.1 | exact I9.2.2.1 | exact I9.2.2.2.2 _ (by omega) | exact (I9.2.2.2.2 _ (by omega)).resolve_right q2) (by first | omega | exact q1 | exact q2 | exact q2.1 | exact q2.2 | exact q2.2.1 | exact q2.2.2 | exact I9.1.1 | exact I9.2.2.2.2 | exact I9.oo.1 | exact I9.oo | exact I9.2.2.2.1 | exact I9.2.2.1 | exact I9.2.2.2.2 _ (by omega) | exact (I9.2.2.2.2 _ (by omega)).resolve_right q2)) v_MD_equal tw_589 ⟨rfl, rfl⟩ ⟨by decide, by decide⟩ rfl rfl rfl rfl (Nat.le_of_ble_eq_true rfl) ⟨hc1, hs1⟩ d_LW_law_823 (fun r9 u9 H locs hq hP hD hS => ?_)
      subst hq
      have hP : va_P g.1 cl (MW g ma (nI 2) rg hd (nF oo) (nF kp) (nI td) (nF tx) ct fd os oq vs sk ++ ((oa, aJ g 1 ou) :: (CW g ad rg hd (nF od) (nF tx) (nI td) sm pa pr fl op du qa ab ac qb be bc wd ++ []))) H := hP
      have hD : va_D (gA g) (MW g ma (nI 2) rg hd (nF oo) (nF kp) (nI td) (nF tx) ct fd os oq vs sk ++ ((oa, aJ g 1 ou) :: (CW g ad rg hd (nF od) (nF tx) (nI td) sm pa pr fl op du qa ab ac qb be bc wd ++ []))) := hD
      refine lv_istore (lv' := [(6, .int (nI 0)), (5, .int (nI 2)), (4, .int (nI i)), (0, .ref b), (1, .ref (ad 0)), (2, .ref (ma 0)), (3, .ref oa)]) hx hb d_LW_law_826 hl (by decide) rfl (fun ls hl => ?_)
      refine lv_aload_n hx hb d_LW_law_828 rfl (lv_at hl 5 rfl) ?_
      refine pc_Vi (q0 := 0) (As := []) (rest := []) hx hb (hml.trans hl.1.symm) hown ht F hP hD hS (c_MD_thrown l g ma (nI 2) rg hd (nF oo) (nF kp) (nI td) (nF tx) ct fd os oq vs sk ((oa, aJ g 1 ou) :: (CW g ad rg hd (nF od) (nF tx) (nI td) sm pa pr fl op du qa ab ac qb be bc wd ++ []))) v_MD_thrown tw_510 ⟨rfl, rfl⟩ ⟨by decide, by decide⟩ rfl rfl rfl rfl (Nat.le_of_ble_eq_true rfl) ⟨hc1, hs1⟩ d_LW_law_829 (fun r9 u9 H locs hq hP hD hS => ?_)
      subst hq
      refine lv_iload hx hb d_LW_law_832 (lv_at hl 1 rfl) ?_
      refine rc_eq (tgt := 839) hx hb (by omega) (by omega) d_LW_law_834 (by decide) (fun c834 => ?_) (fun c834 => ?_)
      · refine lv_iload hx hb d_LW_law_839 (lv_at hl 1 rfl) ?_
        refine rz_ne (tgt := 863) hx hb (by omega) d_LW_law_841 (by decide) (fun c841 => ?_) (fun c841 => ?_)
        · refine lv_goto (tgt := 1402) hx hb d_LW_law_863 (by decide) ?_
          have hP : va_P g.1 cl (CW g ad rg hd (nF od) (nF tx) (nI td) sm pa pr fl op du qa ab ac qb be bc wd ++ ((oa, aJ g 1 ou) :: (MW g ma (nI 2) rg hd (nF oo) (nF kp) (nI td) (nF tx) ct fd os oq vs sk ++ []))) H := wp_perm (pm_ab _ _ _) hP
          have hD : va_D (gA g) (CW g ad rg hd (nF od) (nF tx) (nI td) sm pa pr fl op du qa ab ac qb be bc wd ++ ((oa, aJ g 1 ou) :: (MW g ma (nI 2) rg hd (nF oo) (nF kp) (nI td) (nF tx) ct fd os oq vs sk ++ []))) := wd_perm (pm_ab _ _ _) hD
          refine W.widen (k := cells + 1) (n := slots + 6) (by omega) (by omega) ?_
          exact kk H locs ls ⟨rg, hd, od, tx, td, sm, pa, pr, fl, op, du, qa, ab, ac, qb, be, bc, wd, ou, nI 2, oo, kp, ct, fd, os, oq, vs, sk, I9, hP, hD⟩ hS (lv_sub hl [2, 3, 4, 5, 6] rfl)
        · exact (by omega : False).elim
      · exact (by omega : False).elim
  · refine lv_aload_n hx hb d_LW_law_791 rfl (lv_at hl 2 rfl) ?_
    refine lv_aload_n hx hb d_LW_law_792 rfl (lv_at hl 1 rfl) ?_
    refine lv_iload hx hb d_LW_law_793 (lv_at hl 0 rfl) ?_
    refine lv_iconst (v := nI 1) hx hb d_LW_law_795 (by decide) ?_
    refine rn_add hx hb d_LW_law_796 ?_
    refine rl_s hx hb hX hbl hbA hS (by omega) (by omega) hx1 d_LW_law_797 ?_
    refine lv_aload_n hx hb d_LW_law_798 rfl (lv_at hl 1 rfl) ?_
    refine lv_iload hx hb d_LW_law_799 (lv_at hl 0 rfl) ?_
    refine lv_iconst (v := nI 2) hx hb d_LW_law_801 (by decide) ?_
    refine rn_add hx hb d_LW_law_802 ?_
    refine rl_s hx hb hX hbl hbA hS (by omega) (by omega) hx2 d_LW_law_803 ?_
    refine lv_aload_n hx hb d_LW_law_804 rfl (lv_at hl 4 rfl) ?_
    refine pc_T (As := [.ref (ad 0), .int x1, .int x2, .ref oa]) (rest := []) hx hb (hml.trans hl.1.symm) hown ht F hP hD hS (c1_LW_equal l hl0 g ad oa rg hd (nF od) (nF tx) (nI td) sm pa pr fl op du qa ab ac qb be bc wd ou (MW g ma cd rg hd (nF oo) (nF kp) (nI td) (nF tx) ct fd os oq vs sk ++ []) x1 x2 (by first | omega | exact q1 | exact q2 | exact q2.1 | exact q2.2 | exact q2.2.1 | exact q2.2.2 | exact I9.1.1 | exact I9.2.2.2.2 | exact I9.oo.1 | exact I9.oo | exact I9.2.2.2.1 | exact I9.2.2.1 | exact I9.2.2.2.2 _ (by omega) | exact (I9.2.2.2.2 _ (by omega)).resolve_right q2)) v_LW_equal tw_364 ⟨rfl, rfl⟩ ⟨by decide, by decide⟩ rfl rfl (Nat.le_of_ble_eq_true rfl) ⟨hc1, hs1⟩ d_LW_law_805 (fun r9 u9 H locs hq hP hD hS => ?_)
    subst hq
    refine lv_istore (lv' := [(5, .int (nI 1)), (4, .int (nI i)), (0, .ref b), (1, .ref (ad 0)), (2, .ref (ma 0)), (3, .ref oa)]) hx hb d_LW_law_808 hl (by decide) rfl (fun ls hl => ?_)
    refine lv_aload_n hx hb d_LW_law_810 rfl (lv_at hl 4 rfl) ?_
    refine lv_aload_n hx hb d_LW_law_811 rfl (lv_at hl 2 rfl) ?_
    refine lv_iload hx hb d_LW_law_812 (lv_at hl 1 rfl) ?_
    refine lv_iconst (v := nI 1) hx hb d_LW_law_814 (by decide) ?_
    refine rn_add hx hb d_LW_law_815 ?_
    refine rl_s hx hb hX hbl hbA hS (by omega) (by omega) hx1 d_LW_law_816 ?_
    refine lv_aload_n hx hb d_LW_law_817 rfl (lv_at hl 2 rfl) ?_
    refine lv_iload hx hb d_LW_law_818 (lv_at hl 1 rfl) ?_
    refine lv_iconst (v := nI 2) hx hb d_LW_law_820 (by decide) ?_
    refine rn_add hx hb d_LW_law_821 ?_
    refine rl_s hx hb hX hbl hbA hS (by omega) (by omega) hx2 d_LW_law_822 ?_
    have hP : va_P g.1 cl (MW g ma cd rg hd (nF oo) (nF kp) (nI td) (nF tx) ct fd os oq vs sk ++ ((oa, aJ g 1 ou) :: (CW g ad rg hd (nF od) (nF tx) (nI td) sm pa pr fl op du qa ab ac qb be bc wd ++ []))) H := wp_perm (pm_ab _ _ _) hP
    have hD : va_D (gA g) (MW g ma cd rg hd (nF oo) (nF kp) (nI td) (nF tx) ct fd os oq vs sk ++ ((oa, aJ g 1 ou) :: (CW g ad rg hd (nF od) (nF tx) (nI td) sm pa pr fl op du qa ab ac qb be bc wd ++ []))) := wd_perm (pm_ab _ _ _) hD
    refine pc_Vi (q0 := 0) (As := [.int x1, .int x2]) (rest := []) hx hb (hml.trans hl.1.symm) hown ht F hP hD hS (c1_MD_equal l g ma cd rg hd (nF oo) (nF kp) (nI td) (nF tx) ct fd os oq vs sk ((oa, aJ g 1 ou) :: (CW g ad rg hd (nF od) (nF tx) (nI td) sm pa pr fl op du qa ab ac qb be bc wd ++ [])) x1 x2 (by first | omega | exact q1 | exact q2 | exact q2.1 | exact q2.2 | exact q2.2.1 | exact q2.2.2 | exact I9.1.1 | exact I9.2.2.2.2 | exact I9.oo.1 | exact I9.oo | exact I9.2.2.2.1 | exact I9.2.2.1 | exact I9.2.2.2.2 _ (by omega) | exact (I9.2.2.2.2 _ (by omega)).resolve_right q2)) v_MD_equal tw_589 ⟨rfl, rfl⟩ ⟨by decide, by decide⟩ rfl rfl rfl rfl (Nat.le_of_ble_eq_true rfl) ⟨hc1, hs1⟩ d_LW_law_823 (fun r9 u9 H locs hq hP hD hS => ?_)
    subst hq
    have hP : va_P g.1 cl (MW g ma (nI 1) rg hd (nF oo) (nF kp) (nI td) (nF tx) ct fd os oq vs sk ++ ((oa, aJ g 1 ou) :: (CW g ad rg hd (nF od) (nF tx) (nI td) sm pa pr fl op du qa ab ac qb be bc wd ++ []))) H := hP
    have hD : va_D (gA g) (MW g ma (nI 1) rg hd (nF oo) (nF kp) (nI td) (nF tx) ct fd os oq vs sk ++ ((oa, aJ g 1 ou) :: (CW g ad rg hd (nF od) (nF tx) (nI td) sm pa pr fl op du qa ab ac qb be bc wd ++ []))) := hD
    refine lv_istore (lv' := [(6, .int (nI 0)), (5, .int (nI 1)), (4, .int (nI i)), (0, .ref b), (1, .ref (ad 0)), (2, .ref (ma 0)), (3, .ref oa)]) hx hb d_LW_law_826 hl (by decide) rfl (fun ls hl => ?_)
    refine lv_aload_n hx hb d_LW_law_828 rfl (lv_at hl 5 rfl) ?_
    refine pc_Vi (q0 := 0) (As := []) (rest := []) hx hb (hml.trans hl.1.symm) hown ht F hP hD hS (c_MD_thrown l g ma (nI 1) rg hd (nF oo) (nF kp) (nI td) (nF tx) ct fd os oq vs sk ((oa, aJ g 1 ou) :: (CW g ad rg hd (nF od) (nF tx) (nI td) sm pa pr fl op du qa ab ac qb be bc wd ++ []))) v_MD_thrown tw_510 ⟨rfl, rfl⟩ ⟨by decide, by decide⟩ rfl rfl rfl rfl (Nat.le_of_ble_eq_true rfl) ⟨hc1, hs1⟩ d_LW_law_829 (fun r9 u9 H locs hq hP hD hS => ?_)
    subst hq
    refine lv_iload hx hb d_LW_law_832 (lv_at hl 1 rfl) ?_
    refine rc_eq (tgt := 839) hx hb (by omega) (by omega) d_LW_law_834 (by decide) (fun c834 => ?_) (fun c834 => ?_)
    · refine lv_iload hx hb d_LW_law_839 (lv_at hl 1 rfl) ?_
      refine rz_ne (tgt := 863) hx hb (by omega) d_LW_law_841 (by decide) (fun c841 => ?_) (fun c841 => ?_)
      · refine lv_goto (tgt := 1402) hx hb d_LW_law_863 (by decide) ?_
        have hP : va_P g.1 cl (CW g ad rg hd (nF od) (nF tx) (nI td) sm pa pr fl op du qa ab ac qb be bc wd ++ ((oa, aJ g 1 ou) :: (MW g ma (nI 1) rg hd (nF oo) (nF kp) (nI td) (nF tx) ct fd os oq vs sk ++ []))) H := wp_perm (pm_ab _ _ _) hP
        have hD : va_D (gA g) (CW g ad rg hd (nF od) (nF tx) (nI td) sm pa pr fl op du qa ab ac qb be bc wd ++ ((oa, aJ g 1 ou) :: (MW g ma (nI 1) rg hd (nF oo) (nF kp) (nI td) (nF tx) ct fd os oq vs sk ++ []))) := wd_perm (pm_ab _ _ _) hD
        refine W.widen (k := cells + 1) (n := slots + 6) (by omega) (by omega) ?_
        exact kk H locs ls ⟨rg, hd, od, tx, td, sm, pa, pr, fl, op, du, qa, ab, ac, qb, be, bc, wd, ou, nI 1, oo, kp, ct, fd, os, oq, vs, sk, I9, hP, hD⟩ hS (lv_sub hl [2, 3, 4, 5, 6] rfl)
      · exact (by omega : False).elim
    · exact (by omega : False).elim
set_option maxRecDepth 100000 in
set_option maxHeartbeats 4000000 in
theorem st_value {p : Program} {l : Launch} {e : Env} {s : State} {m : MethodId} {below : List Frame} {meth : Method} {c : Code} (hl0 : l.stackTraces = false) {g : Gx} {ad ma : Nat → Nat} {oa b L i : Nat} {xs : Nat → Int32} {x1 x2 x3 x4 : Int32} (hx : p.tables.exec = Jvm.exec) (hb : c.code = b_LW_law) (hml : c.maxLocals = 7) (hown : s.vm.findClass "SiftedGraphsLaw" = some m.cls) (ht : ∀ w ∈ TW, w.before #[Value.ref b] s = true) (F : Fx g s) (hX : va_X b L xs s s.heap) (hbl : b < s.heap.size) (hbA : ¬ gA g b) (hL : L ≤ 2560) (hi : i + 4 < L) (hx1 : xs (i + 1) = x1) (hx2 : xs (i + 2) = x2) (hx3 : xs (i + 3) = x3) (hx4 : xs (i + 4) = x4) {rg : Nat → Int64} {hd : Nat → Int32} {od : Nat → Nat} {tx : Nat → Nat} {td : Nat} {sm : Nat → Int64} {pa : Nat → Int64} {pr : Nat → Int64} {fl : Nat → Int64} {op : Int32} {du : Int32} {qa : Nat} {ab : Nat → Int64} {ac : Int32} {qb : Nat} {be : Nat → Int64} {bc : Int32} {wd : Nat → Int32} {ou : Nat → Int64} {cd : Int32} {oo : Nat → Nat} {kp : Nat → Nat} {ct : Int32} {fd : Nat → Int64} {os : Int32} {oq : Nat → Int32} {vs : Int32} {sk : Nat → Int64} (I9 : INV od oo tx hd td) {H : Heap} {locs : List Loc} {ls : Array Slot} (hP : va_P g.1 cl (CW g ad rg hd (nF od) (nF tx) (nI td) sm pa pr fl op du qa ab ac qb be bc wd ++ ((oa, aJ g 1 ou) :: (MW g ma cd rg hd (nF oo) (nF kp) (nI td) (nF tx) ct fd os oq vs sk ++ []))) H) (hD : va_D (gA g) (CW g ad rg hd (nF od) (nF tx) (nI td) sm pa pr fl op du qa ab ac qb be bc wd ++ ((oa, aJ g 1 ou) :: (MW g ma cd rg hd (nF oo) (nF kp) (nI td) (nF tx) ct fd os oq vs sk ++ [])))) (hS : va_S (gA g) s.heap H locs) (hl : lv_has ls 7 [(4, .int (nI i)), (0, .ref b), (1, .ref (ad 0)), (2, .ref (ma 0)), (3, .ref oa)]) {cells slots : Nat} (hc1 : cells + 1 ≤ room_1.cells) (hs1 : slots + 6 ≤ room_1.slots) {Q : State → Prop}
    (kk : ∀ (H : Heap) (locs : List Loc) (ls : Array Slot), LST g ad ma oa H → va_S (gA g) s.heap H locs → lv_has ls 7 [(4, .int (nI i)), (0, .ref b), (1, .ref (ad 0)), (2, .ref (ma 0)), (3, .ref oa)] → W p l e room_1 s m #[Value.ref b] below meth c H locs (cells + 1) (slots + 6) Q (F0 m 1402 ls [])) : W p l e room_1 s m #[Value.ref b] below meth c H locs cells slots Q (F0 m 866 ls []) := by
  have hcA : cells ≤ room_1.cells := Nat.le_of_succ_le hc1
  have hsA : slots ≤ room_1.slots := Nat.le_trans (Nat.le_add_right _ _) hs1
  by_cases q1 : inR x1 8 ∧ inR x2 64
  · obtain ⟨⟨k1, g1, rfl⟩, ⟨k2, g2, rfl⟩⟩ := q1
    by_cases q2 : hd k1 = 1
    · refine lv_aload_n hx hb d_LW_law_866 rfl (lv_at hl 2 rfl) ?_
      refine lv_aload_n hx hb d_LW_law_867 rfl (lv_at hl 1 rfl) ?_
      refine lv_iload hx hb d_LW_law_868 (lv_at hl 0 rfl) ?_
      refine lv_iconst (v := nI 1) hx hb d_LW_law_870 (by decide) ?_
      refine rn_add hx hb d_LW_law_871 ?_
      refine rl_s hx hb hX hbl hbA hS (by omega) (by omega) hx1 d_LW_law_872 ?_
      refine lv_aload_n hx hb d_LW_law_873 rfl (lv_at hl 1 rfl) ?_
      refine lv_iload hx hb d_LW_law_874 (lv_at hl 0 rfl) ?_
      refine lv_iconst (v := nI 2) hx hb d_LW_law_876 (by decide) ?_
      refine rn_add hx hb d_LW_law_877 ?_
      refine rl_s hx hb hX hbl hbA hS (by omega) (by omega) hx2 d_LW_law_878 ?_
      refine lv_aload_n hx hb d_LW_law_879 rfl (lv_at hl 4 rfl) ?_
      refine pc_T (As := [.ref (ad 0), .int (nI k1), .int (nI k2), .ref oa]) (rest := []) hx hb (hml.trans hl.1.symm) hown ht F hP hD hS (c_LW_value l g ad oa rg hd (nF od) (nF tx) (nI td) sm pa pr fl op du qa ab ac qb be bc wd ou (MW g ma cd rg hd (nF oo) (nF kp) (nI td) (nF tx) ct fd os oq vs sk ++ []) k1 k2 (by first | omega | exact q1 | exact q2 | exact q2.1 | exact q2.2 | exact q2.2.1 | exact q2.2.2 | exact I9.1.1 | exact I9.2.2.2.2 | exact I9.oo.1 | exact I9.oo | exact I9.2.2.2.1 | exact I9.2.2.1 | exact I9.2.2.2.2 _ (by omega) | exact (I9.2.2.2.2 _ (by omega)).resolve_right q2) (by first | omega | exact q1 | exact q2 | exact q2.1 | exact q2.2 | exact q2.2.1 | exact q2.2.2 | exact I9.1.1 | exact I9.2.2.2.2 | exact I9.oo.1 | exact I9.oo | exact I9.2.2.2.1 | exact I9.2.2.1 | exact I9.2.2.2.2 _ (by omega) | exact (I9.2.2.2.2 _ (by omega)).resolve_right q2) (by first | omega | exact q1 | exact q2 | exact q2.1 | exact q2.2 | exact q2.2.1 | exact q2.2.2 | exact I9.1.1 | exact I9.2.2.2.2 | exact I9.oo.1 | exact I9.oo | exact I9.2.2.2.1 | exact I9.2.2.1 | exact I9.2.2.2.2 _ (by omega) | exact (I9.2.2.2.2 _ (by omega)).resolve_right q2)) v_LW_value tw_371 ⟨rfl, rfl⟩ ⟨by decide, by decide⟩ rfl rfl (Nat.le_of_ble_eq_true rfl) ⟨hcA, hsA⟩ d_LW_law_880 (fun r9 u9 H locs hq hP hD hS => ?_)
      subst hq
      have hP : va_P g.1 cl (CW g ad rg hd (nF od) (nF tx) (nI td) sm pa pr fl op du qa ab ac qb be bc wd ++ ((oa, aJ g 1 (vp_updL ou 0 (if (bI (bt (rg k1) k2 = true)) = 0 then 0 else 1))) :: (MW g ma cd rg hd (nF oo) (nF kp) (nI td) (nF tx) ct fd os oq vs sk ++ []))) H := hP
      have hD : va_D (gA g) (CW g ad rg hd (nF od) (nF tx) (nI td) sm pa pr fl op du qa ab ac qb be bc wd ++ ((oa, aJ g 1 (vp_updL ou 0 (if (bI (bt (rg k1) k2 = true)) = 0 then 0 else 1))) :: (MW g ma cd rg hd (nF oo) (nF kp) (nI td) (nF tx) ct fd os oq vs sk ++ []))) := hD
      refine lv_istore (lv' := [(5, .int (nI 0)), (4, .int (nI i)), (0, .ref b), (1, .ref (ad 0)), (2, .ref (ma 0)), (3, .ref oa)]) hx hb d_LW_law_883 hl (by decide) rfl (fun ls hl => ?_)
      refine lv_aload_n hx hb d_LW_law_885 rfl (lv_at hl 4 rfl) ?_
      refine lv_aload_n hx hb d_LW_law_886 rfl (lv_at hl 2 rfl) ?_
      refine lv_iload hx hb d_LW_law_887 (lv_at hl 1 rfl) ?_
      refine lv_iconst (v := nI 1) hx hb d_LW_law_889 (by decide) ?_
      refine rn_add hx hb d_LW_law_890 ?_
      refine rl_s hx hb hX hbl hbA hS (by omega) (by omega) hx1 d_LW_law_891 ?_
      refine lv_aload_n hx hb d_LW_law_892 rfl (lv_at hl 2 rfl) ?_
      refine lv_iload hx hb d_LW_law_893 (lv_at hl 1 rfl) ?_
      refine lv_iconst (v := nI 2) hx hb d_LW_law_895 (by decide) ?_
      refine rn_add hx hb d_LW_law_896 ?_
      refine rl_s hx hb hX hbl hbA hS (by omega) (by omega) hx2 d_LW_law_897 ?_
      have hP : va_P g.1 cl (MW g ma cd rg hd (nF oo) (nF kp) (nI td) (nF tx) ct fd os oq vs sk ++ ((oa, aJ g 1 (vp_updL ou 0 (if (bI (bt (rg k1) k2 = true)) = 0 then 0 else 1))) :: (CW g ad rg hd (nF od) (nF tx) (nI td) sm pa pr fl op du qa ab ac qb be bc wd ++ []))) H := wp_perm (pm_ab _ _ _) hP
      have hD : va_D (gA g) (MW g ma cd rg hd (nF oo) (nF kp) (nI td) (nF tx) ct fd os oq vs sk ++ ((oa, aJ g 1 (vp_updL ou 0 (if (bI (bt (rg k1) k2 = true)) = 0 then 0 else 1))) :: (CW g ad rg hd (nF od) (nF tx) (nI td) sm pa pr fl op du qa ab ac qb be bc wd ++ []))) := wd_perm (pm_ab _ _ _) hD
      refine pc_Vi (q0 := 0) (As := [.int (nI k1), .int (nI k2)]) (rest := []) hx hb (hml.trans hl.1.symm) hown ht F hP hD hS (c_MD_value l g ma cd rg hd (nF oo) (nF kp) (nI td) (nF tx) ct fd os oq vs sk ((oa, aJ g 1 (vp_updL ou 0 (if (bI (bt (rg k1) k2 = true)) = 0 then 0 else 1))) :: (CW g ad rg hd (nF od) (nF tx) (nI td) sm pa pr fl op du qa ab ac qb be bc wd ++ [])) k1 k2 (by first | omega | exact q1 | exact q2 | exact q2.1 | exact q2.2 | exact q2.2.1 | exact q2.2.2 | exact I9.1.1 | exact I9.2.2.2.2 | exact I9.oo.1 | exact I9.oo | exact I9.2.2.2.1 | exact I9.2.2.1 | exact I9.2.2.2.2 _ (by omega) | exact (I9.2.2.2.2 _ (by omega)).resolve_right q2) (by first | omega | exact q1 | exact q2 | exact q2.1 | exact q2.2 | exact q2.2.1 | exact q2.2.2 | exact I9.1.1 | exact I9.2.2.2.2 | exact I9.oo.1 | exact I9.oo | exact I9.2.2.2.1 | exact I9.2.2.1 | exact I9.2.2.2.2 _ (by omega) | exact (I9.2.2.2.2 _ (by omega)).resolve_right q2) (by first | omega | exact q1 | exact q2 | exact q2.1 | exact q2.2 | exact q2.2.1 | exact q2.2.2 | exact I9.1.1 | exact I9.2.2.2.2 | exact I9.oo.1 | exact I9.oo | exact I9.2.2.2.1 | exact I9.2.2.1 | exact I9.2.2.2.2 _ (by omega) | exact (I9.2.2.2.2 _ (by omega)).resolve_right q2)) v_MD_value tw_593 ⟨rfl, rfl⟩ ⟨by decide, by decide⟩ rfl rfl rfl rfl (Nat.le_of_ble_eq_true rfl) ⟨hcA, hsA⟩ d_LW_law_898 (fun r9 u9 H locs hq hP hD hS => ?_)
      subst hq
      have hP : va_P g.1 cl (MW g ma (nI 0) rg hd (nF oo) (nF kp) (nI td) (nF tx) ct fd os oq vs sk ++ ((oa, aJ g 1 (vp_updL ou 0 (if (bI (bt (rg k1) k2 = true)) = 0 then 0 else 1))) :: (CW g ad rg hd (nF od) (nF tx) (nI td) sm pa pr fl op du qa ab ac qb be bc wd ++ []))) H := hP
      have hD : va_D (gA g) (MW g ma (nI 0) rg hd (nF oo) (nF kp) (nI td) (nF tx) ct fd os oq vs sk ++ ((oa, aJ g 1 (vp_updL ou 0 (if (bI (bt (rg k1) k2 = true)) = 0 then 0 else 1))) :: (CW g ad rg hd (nF od) (nF tx) (nI td) sm pa pr fl op du qa ab ac qb be bc wd ++ []))) := hD
      refine lv_istore (lv' := [(6, .int (bI (bt (rg k1) k2 = true))), (5, .int (nI 0)), (4, .int (nI i)), (0, .ref b), (1, .ref (ad 0)), (2, .ref (ma 0)), (3, .ref oa)]) hx hb d_LW_law_901 hl (by decide) rfl (fun ls hl => ?_)
      refine lv_aload_n hx hb d_LW_law_903 rfl (lv_at hl 5 rfl) ?_
      refine pc_Vi (q0 := 0) (As := []) (rest := []) hx hb (hml.trans hl.1.symm) hown ht F hP hD hS (c_MD_thrown l g ma (nI 0) rg hd (nF oo) (nF kp) (nI td) (nF tx) ct fd os oq vs sk ((oa, aJ g 1 (vp_updL ou 0 (if (bI (bt (rg k1) k2 = true)) = 0 then 0 else 1))) :: (CW g ad rg hd (nF od) (nF tx) (nI td) sm pa pr fl op du qa ab ac qb be bc wd ++ []))) v_MD_thrown tw_510 ⟨rfl, rfl⟩ ⟨by decide, by decide⟩ rfl rfl rfl rfl (Nat.le_of_ble_eq_true rfl) ⟨hcA, hsA⟩ d_LW_law_904 (fun r9 u9 H locs hq hP hD hS => ?_)
      subst hq
      refine lv_iload hx hb d_LW_law_907 (lv_at hl 1 rfl) ?_
      refine rc_eq (tgt := 914) hx hb (by omega) (by omega) d_LW_law_909 (by decide) (fun c909 => ?_) (fun c909 => ?_)
      · refine lv_iload hx hb d_LW_law_914 (lv_at hl 1 rfl) ?_
        refine rz_ne (tgt := 938) hx hb (by omega) d_LW_law_916 (by decide) (fun c916 => ?_) (fun c916 => ?_)
        · exact (by omega : False).elim
        · refine lv_aload_n hx hb d_LW_law_919 rfl (lv_at hl 6 rfl) ?_
          refine lv_iconst (v := nI 0) hx hb d_LW_law_920 (by decide) ?_
          refine ra_J hx hb F hP 9 rfl (by omega) (by decide) d_LW_law_921 ?_
          refine lv_iload hx hb d_LW_law_922 (lv_at hl 0 rfl) ?_
          refine lv_if_eq (tgt := 931) hx hb d_LW_law_924 (by decide) (fun c924 => ?_) (fun c924 => ?_)
          · refine lv_lconst (v := 0) hx hb d_LW_law_931 (by decide) ?_
            refine W.lcmp hx hb d_LW_law_932 ?_
            refine lv_if_eq (tgt := 938) hx hb d_LW_law_933 (by decide) (fun c933 => ?_) (fun c933 => ?_)
            · refine lv_goto (tgt := 1402) hx hb d_LW_law_938 (by decide) ?_
              have hP : va_P g.1 cl (CW g ad rg hd (nF od) (nF tx) (nI td) sm pa pr fl op du qa ab ac qb be bc wd ++ ((oa, aJ g 1 (vp_updL ou 0 (if (bI (bt (rg k1) k2 = true)) = 0 then 0 else 1))) :: (MW g ma (nI 0) rg hd (nF oo) (nF kp) (nI td) (nF tx) ct fd os oq vs sk ++ []))) H := wp_perm (pm_ab _ _ _) hP
              have hD : va_D (gA g) (CW g ad rg hd (nF od) (nF tx) (nI td) sm pa pr fl op du qa ab ac qb be bc wd ++ ((oa, aJ g 1 (vp_updL ou 0 (if (bI (bt (rg k1) k2 = true)) = 0 then 0 else 1))) :: (MW g ma (nI 0) rg hd (nF oo) (nF kp) (nI td) (nF tx) ct fd os oq vs sk ++ []))) := wd_perm (pm_ab _ _ _) hD
              refine W.widen (k := cells + 1) (n := slots + 6) (by omega) (by omega) ?_
              exact kk H locs ls ⟨rg, hd, od, tx, td, sm, pa, pr, fl, op, du, qa, ab, ac, qb, be, bc, wd, vp_updL ou 0 (if (bI (bt (rg k1) k2 = true)) = 0 then 0 else 1), nI 0, oo, kp, ct, fd, os, oq, vs, sk, I9, hP, hD⟩ hS (lv_sub hl [2, 3, 4, 5, 6] rfl)
            · exact absurd ((lg_cmp_eq _ _).mpr ((uL_s _ _ _).trans (if_pos c924))) c933
          · refine lv_lconst (v := 1) hx hb d_LW_law_927 (by decide) ?_
            refine lv_goto (tgt := 932) hx hb d_LW_law_928 (by decide) ?_
            refine W.lcmp hx hb d_LW_law_932 ?_
            refine lv_if_eq (tgt := 938) hx hb d_LW_law_933 (by decide) (fun c933 => ?_) (fun c933 => ?_)
            · refine lv_goto (tgt := 1402) hx hb d_LW_law_938 (by decide) ?_
              have hP : va_P g.1 cl (CW g ad rg hd (nF od) (nF tx) (nI td) sm pa pr fl op du qa ab ac qb be bc wd ++ ((oa, aJ g 1 (vp_updL ou 0 (if (bI (bt (rg k1) k2 = true)) = 0 then 0 else 1))) :: (MW g ma (nI 0) rg hd (nF oo) (nF kp) (nI td) (nF tx) ct fd os oq vs sk ++ []))) H := wp_perm (pm_ab _ _ _) hP
              have hD : va_D (gA g) (CW g ad rg hd (nF od) (nF tx) (nI td) sm pa pr fl op du qa ab ac qb be bc wd ++ ((oa, aJ g 1 (vp_updL ou 0 (if (bI (bt (rg k1) k2 = true)) = 0 then 0 else 1))) :: (MW g ma (nI 0) rg hd (nF oo) (nF kp) (nI td) (nF tx) ct fd os oq vs sk ++ []))) := wd_perm (pm_ab _ _ _) hD
              refine W.widen (k := cells + 1) (n := slots + 6) (by omega) (by omega) ?_
              exact kk H locs ls ⟨rg, hd, od, tx, td, sm, pa, pr, fl, op, du, qa, ab, ac, qb, be, bc, wd, vp_updL ou 0 (if (bI (bt (rg k1) k2 = true)) = 0 then 0 else 1), nI 0, oo, kp, ct, fd, os, oq, vs, sk, I9, hP, hD⟩ hS (lv_sub hl [2, 3, 4, 5, 6] rfl)
            · exact absurd ((lg_cmp_eq _ _).mpr ((uL_s _ _ _).trans (if_neg c924))) c933
      · exact (by omega : False).elim
    · refine lv_aload_n hx hb d_LW_law_866 rfl (lv_at hl 2 rfl) ?_
      refine lv_aload_n hx hb d_LW_law_867 rfl (lv_at hl 1 rfl) ?_
      refine lv_iload hx hb d_LW_law_868 (lv_at hl 0 rfl) ?_
      refine lv_iconst (v := nI 1) hx hb d_LW_law_870 (by decide) ?_
      refine rn_add hx hb d_LW_law_871 ?_
      refine rl_s hx hb hX hbl hbA hS (by omega) (by omega) hx1 d_LW_law_872 ?_
      refine lv_aload_n hx hb d_LW_law_873 rfl (lv_at hl 1 rfl) ?_
      refine lv_iload hx hb d_LW_law_874 (lv_at hl 0 rfl) ?_
      refine lv_iconst (v := nI 2) hx hb d_LW_law_876 (by decide) ?_
      refine rn_add hx hb d_LW_law_877 ?_
      refine rl_s hx hb hX hbl hbA hS (by omega) (by omega) hx2 d_LW_law_878 ?_
      refine lv_aload_n hx hb d_LW_law_879 rfl (lv_at hl 4 rfl) ?_
      refine pc_T (As := [.ref (ad 0), .int (nI k1), .int (nI k2), .ref oa]) (rest := []) hx hb (hml.trans hl.1.symm) hown ht F hP hD hS (c2_LW_value l hl0 g ad oa rg hd (nF od) (nF tx) (nI td) sm pa pr fl op du qa ab ac qb be bc wd ou (MW g ma cd rg hd (nF oo) (nF kp) (nI td) (nF tx) ct fd os oq vs sk ++ []) k1 k2 (by first | omega | exact q1 | exact q2 | exact q2.1 | exact q2.2 | exact q2.2.1 | exact q2.2.2 | exact I9.1.1 | exact I9.2.2.2.2 | exact I9.oo.1 | exact I9.oo | exact I9.2.2.2.1 | exact I9.2.2.1 | exact I9.2.2.2.2 _ (by omega) | exact (I9.2.2.2.2 _ (by omega)).resolve_right q2) (by first | omega | exact q1 | exact q2 | exact q2.1 | exact q2.2 | exact q2.2.1 | exact q2.2.2 | exact I9.1.1 | exact I9.2.2.2.2 | exact I9.oo.1 | exact I9.oo | exact I9.2.2.2.1 | exact I9.2.2.1 | exact I9.2.2.2.2 _ (by omega) | exact (I9.2.2.2.2 _ (by omega)).resolve_right q2) (by first | omega | exact q1 | exact q2 | exact q2.1 | exact q2.2 | exact q2.2.1 | exact q2.2.2 | exact I9.1.1 | exact I9.2.2.2.2 | exact I9.oo.1 | exact I9.oo | exact I9.2.2.2.1 | exact I9.2.2.1 | exact I9.2.2.2.2 _ (by omega) | exact (I9.2.2.2.2 _ (by omega)).resolve_right q2) (by first | omega | exact q1 | exact q2 | exact q2.1 | exact q2.2 | exact q2.2.1 | exact q2.2.2 | exact I9.1.1 | exact I9.2.2.2.2 | exact I9.oo.1 | exact I9.oo | exact I9.2.2.2.1 | exact I9.2.2.1 | exact I9.2.2.2.2 _ (by omega) | exact (I9.2.2.2.2 _ (by omega)).resolve_right q2)) v_LW_value tw_371 ⟨rfl, rfl⟩ ⟨by decide, by decide⟩ rfl rfl (Nat.le_of_ble_eq_true rfl) ⟨hc1, hs1⟩ d_LW_law_880 (fun r9 u9 H locs hq hP hD hS => ?_)
      subst hq
      refine lv_istore (lv' := [(5, .int (nI 2)), (4, .int (nI i)), (0, .ref b), (1, .ref (ad 0)), (2, .ref (ma 0)), (3, .ref oa)]) hx hb d_LW_law_883 hl (by decide) rfl (fun ls hl => ?_)
      refine lv_aload_n hx hb d_LW_law_885 rfl (lv_at hl 4 rfl) ?_
      refine lv_aload_n hx hb d_LW_law_886 rfl (lv_at hl 2 rfl) ?_
      refine lv_iload hx hb d_LW_law_887 (lv_at hl 1 rfl) ?_
      refine lv_iconst (v := nI 1) hx hb d_LW_law_889 (by decide) ?_
      refine rn_add hx hb d_LW_law_890 ?_
      refine rl_s hx hb hX hbl hbA hS (by omega) (by omega) hx1 d_LW_law_891 ?_
      refine lv_aload_n hx hb d_LW_law_892 rfl (lv_at hl 2 rfl) ?_
      refine lv_iload hx hb d_LW_law_893 (lv_at hl 1 rfl) ?_
      refine lv_iconst (v := nI 2) hx hb d_LW_law_895 (by decide) ?_
      refine rn_add hx hb d_LW_law_896 ?_
      refine rl_s hx hb hX hbl hbA hS (by omega) (by omega) hx2 d_LW_law_897 ?_
      have hP : va_P g.1 cl (MW g ma cd rg hd (nF oo) (nF kp) (nI td) (nF tx) ct fd os oq vs sk ++ ((oa, aJ g 1 ou) :: (CW g ad rg hd (nF od) (nF tx) (nI td) sm pa pr fl op du qa ab ac qb be bc wd ++ []))) H := wp_perm (pm_ab _ _ _) hP
      have hD : va_D (gA g) (MW g ma cd rg hd (nF oo) (nF kp) (nI td) (nF tx) ct fd os oq vs sk ++ ((oa, aJ g 1 ou) :: (CW g ad rg hd (nF od) (nF tx) (nI td) sm pa pr fl op du qa ab ac qb be bc wd ++ []))) := wd_perm (pm_ab _ _ _) hD
      refine pc_Vi (q0 := 0) (As := [.int (nI k1), .int (nI k2)]) (rest := []) hx hb (hml.trans hl.1.symm) hown ht F hP hD hS (c2_MD_value l g ma cd rg hd (nF oo) (nF kp) (nI td) (nF tx) ct fd os oq vs sk ((oa, aJ g 1 ou) :: (CW g ad rg hd (nF od) (nF tx) (nI td) sm pa pr fl op du qa ab ac qb be bc wd ++ [])) k1 k2 (by first | omega | exact q1 | exact q2 | exact q2.1 | exact q2.2 | exact q2.2.1 | exact q2.2.2 | exact I9.1.1 | exact I9.2.2.2.2 | exact I9.oo.1 | exact I9.oo | exact I9.2.2.2.1 | exact I9.2.2.1 | exact I9.2.2.2.2 _ (by omega) | exact (I9.2.2.2.2 _ (by omega)).resolve_right q2) (by first | omega | exact q1 | exact q2 | exact q2.1 | exact q2.2 | exact q2.2.1 | exact q2.2.2 | exact I9.1.1 | exact I9.2.2.2.2 | exact I9.oo.1 | exact I9.oo | exact I9.2.2.2.1 | exact I9.2.2.1 | exact I9.2.2.2.2 _ (by omega) | exact (I9.2.2.2.2 _ (by omega)).resolve_right q2) (by first | omega | exact q1 | exact q2 | exact q2.1 | exact q2.2 | exact q2.2.1 | exact q2.2.2 | exact I9.1.1 | exact I9.2.2.2.2 | exact I9.oo.1 | exact I9.oo | exact I9.2.2.2.1 | exact I9.2.2.1 | exact I9.2.2.2.2 _ (by omega) | exact (I9.2.2.2.2 _ (by omega)).resolve_right q2) (by first | omega | exact q1 | exact q2 | exact q2.1 | exact q2.2 | exact q2.2.1 | exact q2.2.2 | exact I9.1.1 | exact I9.2.2.2.2 | exact I9.oo.1 | exact I9.oo | exact I9.2.2.2.1 | exact I9.2.2.1 | exact I9.2.2.2.2 _ (by omega) | exact (I9.2.2.2.2 _ (by omega)).resolve_right q2)) v_MD_value tw_593 ⟨rfl, rfl⟩ ⟨by decide, by decide⟩ rfl rfl rfl rfl (Nat.le_of_ble_eq_true rfl) ⟨hc1, hs1⟩ d_LW_law_898 (fun r9 u9 H locs hq hP hD hS => ?_)
      subst hq
      have hP : va_P g.1 cl (MW g ma (nI 2) rg hd (nF oo) (nF kp) (nI td) (nF tx) ct fd os oq vs sk ++ ((oa, aJ g 1 ou) :: (CW g ad rg hd (nF od) (nF tx) (nI td) sm pa pr fl op du qa ab ac qb be bc wd ++ []))) H := hP
      have hD : va_D (gA g) (MW g ma (nI 2) rg hd (nF oo) (nF kp) (nI td) (nF tx) ct fd os oq vs sk ++ ((oa, aJ g 1 ou) :: (CW g ad rg hd (nF od) (nF tx) (nI td) sm pa pr fl op du qa ab ac qb be bc wd ++ []))) := hD
      refine lv_istore (lv' := [(6, .int (nI 0)), (5, .int (nI 2)), (4, .int (nI i)), (0, .ref b), (1, .ref (ad 0)), (2, .ref (ma 0)), (3, .ref oa)]) hx hb d_LW_law_901 hl (by decide) rfl (fun ls hl => ?_)
      refine lv_aload_n hx hb d_LW_law_903 rfl (lv_at hl 5 rfl) ?_
      refine pc_Vi (q0 := 0) (As := []) (rest := []) hx hb (hml.trans hl.1.symm) hown ht F hP hD hS (c_MD_thrown l g ma (nI 2) rg hd (nF oo) (nF kp) (nI td) (nF tx) ct fd os oq vs sk ((oa, aJ g 1 ou) :: (CW g ad rg hd (nF od) (nF tx) (nI td) sm pa pr fl op du qa ab ac qb be bc wd ++ []))) v_MD_thrown tw_510 ⟨rfl, rfl⟩ ⟨by decide, by decide⟩ rfl rfl rfl rfl (Nat.le_of_ble_eq_true rfl) ⟨hc1, hs1⟩ d_LW_law_904 (fun r9 u9 H locs hq hP hD hS => ?_)
      subst hq
      refine lv_iload hx hb d_LW_law_907 (lv_at hl 1 rfl) ?_
      refine rc_eq (tgt := 914) hx hb (by omega) (by omega) d_LW_law_909 (by decide) (fun c909 => ?_) (fun c909 => ?_)
      · refine lv_iload hx hb d_LW_law_914 (lv_at hl 1 rfl) ?_
        refine rz_ne (tgt := 938) hx hb (by omega) d_LW_law_916 (by decide) (fun c916 => ?_) (fun c916 => ?_)
        · refine lv_goto (tgt := 1402) hx hb d_LW_law_938 (by decide) ?_
          have hP : va_P g.1 cl (CW g ad rg hd (nF od) (nF tx) (nI td) sm pa pr fl op du qa ab ac qb be bc wd ++ ((oa, aJ g 1 ou) :: (MW g ma (nI 2) rg hd (nF oo) (nF kp) (nI td) (nF tx) ct fd os oq vs sk ++ []))) H := wp_perm (pm_ab _ _ _) hP
          have hD : va_D (gA g) (CW g ad rg hd (nF od) (nF tx) (nI td) sm pa pr fl op du qa ab ac qb be bc wd ++ ((oa, aJ g 1 ou) :: (MW g ma (nI 2) rg hd (nF oo) (nF kp) (nI td) (nF tx) ct fd os oq vs sk ++ []))) := wd_perm (pm_ab _ _ _) hD
          refine W.widen (k := cells + 1) (n := slots + 6) (by omega) (by omega) ?_
          exact kk H locs ls ⟨rg, hd, od, tx, td, sm, pa, pr, fl, op, du, qa, ab, ac, qb, be, bc, wd, ou, nI 2, oo, kp, ct, fd, os, oq, vs, sk, I9, hP, hD⟩ hS (lv_sub hl [2, 3, 4, 5, 6] rfl)
        · exact (by omega : False).elim
      · exact (by omega : False).elim
  · refine lv_aload_n hx hb d_LW_law_866 rfl (lv_at hl 2 rfl) ?_
    refine lv_aload_n hx hb d_LW_law_867 rfl (lv_at hl 1 rfl) ?_
    refine lv_iload hx hb d_LW_law_868 (lv_at hl 0 rfl) ?_
    refine lv_iconst (v := nI 1) hx hb d_LW_law_870 (by decide) ?_
    refine rn_add hx hb d_LW_law_871 ?_
    refine rl_s hx hb hX hbl hbA hS (by omega) (by omega) hx1 d_LW_law_872 ?_
    refine lv_aload_n hx hb d_LW_law_873 rfl (lv_at hl 1 rfl) ?_
    refine lv_iload hx hb d_LW_law_874 (lv_at hl 0 rfl) ?_
    refine lv_iconst (v := nI 2) hx hb d_LW_law_876 (by decide) ?_
    refine rn_add hx hb d_LW_law_877 ?_
    refine rl_s hx hb hX hbl hbA hS (by omega) (by omega) hx2 d_LW_law_878 ?_
    refine lv_aload_n hx hb d_LW_law_879 rfl (lv_at hl 4 rfl) ?_
    refine pc_T (As := [.ref (ad 0), .int x1, .int x2, .ref oa]) (rest := []) hx hb (hml.trans hl.1.symm) hown ht F hP hD hS (c1_LW_value l hl0 g ad oa rg hd (nF od) (nF tx) (nI td) sm pa pr fl op du qa ab ac qb be bc wd ou (MW g ma cd rg hd (nF oo) (nF kp) (nI td) (nF tx) ct fd os oq vs sk ++ []) x1 x2 (by first | omega | exact q1 | exact q2 | exact q2.1 | exact q2.2 | exact q2.2.1 | exact q2.2.2 | exact I9.1.1 | exact I9.2.2.2.2 | exact I9.oo.1 | exact I9.oo | exact I9.2.2.2.1 | exact I9.2.2.1 | exact I9.2.2.2.2 _ (by omega) | exact (I9.2.2.2.2 _ (by omega)).resolve_right q2)) v_LW_value tw_371 ⟨rfl, rfl⟩ ⟨by decide, by decide⟩ rfl rfl (Nat.le_of_ble_eq_true rfl) ⟨hc1, hs1⟩ d_LW_law_880 (fun r9 u9 H locs hq hP hD hS => ?_)
    subst hq
    refine lv_istore (lv' := [(5, .int (nI 1)), (4, .int (nI i)), (0, .ref b), (1, .ref (ad 0)), (2, .ref (ma 0)), (3, .ref oa)]) hx hb d_LW_law_883 hl (by decide) rfl (fun ls hl => ?_)
    refine lv_aload_n hx hb d_LW_law_885 rfl (lv_at hl 4 rfl) ?_
    refine lv_aload_n hx hb d_LW_law_886 rfl (lv_at hl 2 rfl) ?_
    refine lv_iload hx hb d_LW_law_887 (lv_at hl 1 rfl) ?_
    refine lv_iconst (v := nI 1) hx hb d_LW_law_889 (by decide) ?_
    refine rn_add hx hb d_LW_law_890 ?_
    refine rl_s hx hb hX hbl hbA hS (by omega) (by omega) hx1 d_LW_law_891 ?_
    refine lv_aload_n hx hb d_LW_law_892 rfl (lv_at hl 2 rfl) ?_
    refine lv_iload hx hb d_LW_law_893 (lv_at hl 1 rfl) ?_
    refine lv_iconst (v := nI 2) hx hb d_LW_law_895 (by decide) ?_
    refine rn_add hx hb d_LW_law_896 ?_
    refine rl_s hx hb hX hbl hbA hS (by omega) (by omega) hx2 d_LW_law_897 ?_
    have hP : va_P g.1 cl (MW g ma cd rg hd (nF oo) (nF kp) (nI td) (nF tx) ct fd os oq vs sk ++ ((oa, aJ g 1 ou) :: (CW g ad rg hd (nF od) (nF tx) (nI td) sm pa pr fl op du qa ab ac qb be bc wd ++ []))) H := wp_perm (pm_ab _ _ _) hP
    have hD : va_D (gA g) (MW g ma cd rg hd (nF oo) (nF kp) (nI td) (nF tx) ct fd os oq vs sk ++ ((oa, aJ g 1 ou) :: (CW g ad rg hd (nF od) (nF tx) (nI td) sm pa pr fl op du qa ab ac qb be bc wd ++ []))) := wd_perm (pm_ab _ _ _) hD
    refine pc_Vi (q0 := 0) (As := [.int x1, .int x2]) (rest := []) hx hb (hml.trans hl.1.symm) hown ht F hP hD hS (c1_MD_value l g ma cd rg hd (nF oo) (nF kp) (nI td) (nF tx) ct fd os oq vs sk ((oa, aJ g 1 ou) :: (CW g ad rg hd (nF od) (nF tx) (nI td) sm pa pr fl op du qa ab ac qb be bc wd ++ [])) x1 x2 (by first | omega | exact q1 | exact q2 | exact q2.1 | exact q2.2 | exact q2.2.1 | exact q2.2.2 | exact I9.1.1 | exact I9.2.2.2.2 | exact I9.oo.1 | exact I9.oo | exact I9.2.2.2.1 | exact I9.2.2.1 | exact I9.2.2.2.2 _ (by omega) | exact (I9.2.2.2.2 _ (by omega)).resolve_right q2)) v_MD_value tw_593 ⟨rfl, rfl⟩ ⟨by decide, by decide⟩ rfl rfl rfl rfl (Nat.le_of_ble_eq_true rfl) ⟨hc1, hs1⟩ d_LW_law_898 (fun r9 u9 H locs hq hP hD hS => ?_)
    subst hq
    have hP : va_P g.1 cl (MW g ma (nI 1) rg hd (nF oo) (nF kp) (nI td) (nF tx) ct fd os oq vs sk ++ ((oa, aJ g 1 ou) :: (CW g ad rg hd (nF od) (nF tx) (nI td) sm pa pr fl op du qa ab ac qb be bc wd ++ []))) H := hP
    have hD : va_D (gA g) (MW g ma (nI 1) rg hd (nF oo) (nF kp) (nI td) (nF tx) ct fd os oq vs sk ++ ((oa, aJ g 1 ou) :: (CW g ad rg hd (nF od) (nF tx) (nI td) sm pa pr fl op du qa ab ac qb be bc wd ++ []))) := hD
    refine lv_istore (lv' := [(6, .int (nI 0)), (5, .int (nI 1)), (4, .int (nI i)), (0, .ref b), (1, .ref (ad 0)), (2, .ref (ma 0)), (3, .ref oa)]) hx hb d_LW_law_901 hl (by decide) rfl (fun ls hl => ?_)
    refine lv_aload_n hx hb d_LW_law_903 rfl (lv_at hl 5 rfl) ?_
    refine pc_Vi (q0 := 0) (As := []) (rest := []) hx hb (hml.trans hl.1.symm) hown ht F hP hD hS (c_MD_thrown l g ma (nI 1) rg hd (nF oo) (nF kp) (nI td) (nF tx) ct fd os oq vs sk ((oa, aJ g 1 ou) :: (CW g ad rg hd (nF od) (nF tx) (nI td) sm pa pr fl op du qa ab ac qb be bc wd ++ []))) v_MD_thrown tw_510 ⟨rfl, rfl⟩ ⟨by decide, by decide⟩ rfl rfl rfl rfl (Nat.le_of_ble_eq_true rfl) ⟨hc1, hs1⟩ d_LW_law_904 (fun r9 u9 H locs hq hP hD hS => ?_)
    subst hq
    refine lv_iload hx hb d_LW_law_907 (lv_at hl 1 rfl) ?_
    refine rc_eq (tgt := 914) hx hb (by omega) (by omega) d_LW_law_909 (by decide) (fun c909 => ?_) (fun c909 => ?_)
    · refine lv_iload hx hb d_LW_law_914 (lv_at hl 1 rfl) ?_
      refine rz_ne (tgt := 938) hx hb (by omega) d_LW_law_916 (by decide) (fun c916 => ?_) (fun c916 => ?_)
      · refine lv_goto (tgt := 1402) hx hb d_LW_law_938 (by decide) ?_
        have hP : va_P g.1 cl (CW g ad rg hd (nF od) (nF tx) (nI td) sm pa pr fl op du qa ab ac qb be bc wd ++ ((oa, aJ g 1 ou) :: (MW g ma (nI 1) rg hd (nF oo) (nF kp) (nI td) (nF tx) ct fd os oq vs sk ++ []))) H := wp_perm (pm_ab _ _ _) hP
        have hD : va_D (gA g) (CW g ad rg hd (nF od) (nF tx) (nI td) sm pa pr fl op du qa ab ac qb be bc wd ++ ((oa, aJ g 1 ou) :: (MW g ma (nI 1) rg hd (nF oo) (nF kp) (nI td) (nF tx) ct fd os oq vs sk ++ []))) := wd_perm (pm_ab _ _ _) hD
        refine W.widen (k := cells + 1) (n := slots + 6) (by omega) (by omega) ?_
        exact kk H locs ls ⟨rg, hd, od, tx, td, sm, pa, pr, fl, op, du, qa, ab, ac, qb, be, bc, wd, ou, nI 1, oo, kp, ct, fd, os, oq, vs, sk, I9, hP, hD⟩ hS (lv_sub hl [2, 3, 4, 5, 6] rfl)
      · exact (by omega : False).elim
    · exact (by omega : False).elim
set_option maxRecDepth 100000 in
set_option maxHeartbeats 4000000 in
theorem st_count {p : Program} {l : Launch} {e : Env} {s : State} {m : MethodId} {below : List Frame} {meth : Method} {c : Code} (hl0 : l.stackTraces = false) {g : Gx} {ad ma : Nat → Nat} {oa b L i : Nat} {xs : Nat → Int32} {x1 x2 x3 x4 : Int32} (hx : p.tables.exec = Jvm.exec) (hb : c.code = b_LW_law) (hml : c.maxLocals = 7) (hown : s.vm.findClass "SiftedGraphsLaw" = some m.cls) (ht : ∀ w ∈ TW, w.before #[Value.ref b] s = true) (F : Fx g s) (hX : va_X b L xs s s.heap) (hbl : b < s.heap.size) (hbA : ¬ gA g b) (hL : L ≤ 2560) (hi : i + 4 < L) (hx1 : xs (i + 1) = x1) (hx2 : xs (i + 2) = x2) (hx3 : xs (i + 3) = x3) (hx4 : xs (i + 4) = x4) {rg : Nat → Int64} {hd : Nat → Int32} {od : Nat → Nat} {tx : Nat → Nat} {td : Nat} {sm : Nat → Int64} {pa : Nat → Int64} {pr : Nat → Int64} {fl : Nat → Int64} {op : Int32} {du : Int32} {qa : Nat} {ab : Nat → Int64} {ac : Int32} {qb : Nat} {be : Nat → Int64} {bc : Int32} {wd : Nat → Int32} {ou : Nat → Int64} {cd : Int32} {oo : Nat → Nat} {kp : Nat → Nat} {ct : Int32} {fd : Nat → Int64} {os : Int32} {oq : Nat → Int32} {vs : Int32} {sk : Nat → Int64} (I9 : INV od oo tx hd td) {H : Heap} {locs : List Loc} {ls : Array Slot} (hP : va_P g.1 cl (CW g ad rg hd (nF od) (nF tx) (nI td) sm pa pr fl op du qa ab ac qb be bc wd ++ ((oa, aJ g 1 ou) :: (MW g ma cd rg hd (nF oo) (nF kp) (nI td) (nF tx) ct fd os oq vs sk ++ []))) H) (hD : va_D (gA g) (CW g ad rg hd (nF od) (nF tx) (nI td) sm pa pr fl op du qa ab ac qb be bc wd ++ ((oa, aJ g 1 ou) :: (MW g ma cd rg hd (nF oo) (nF kp) (nI td) (nF tx) ct fd os oq vs sk ++ [])))) (hS : va_S (gA g) s.heap H locs) (hl : lv_has ls 7 [(4, .int (nI i)), (0, .ref b), (1, .ref (ad 0)), (2, .ref (ma 0)), (3, .ref oa)]) {cells slots : Nat} (hc1 : cells + 1 ≤ room_1.cells) (hs1 : slots + 6 ≤ room_1.slots) {Q : State → Prop}
    (kk : ∀ (H : Heap) (locs : List Loc) (ls : Array Slot), LST g ad ma oa H → va_S (gA g) s.heap H locs → lv_has ls 7 [(4, .int (nI i)), (0, .ref b), (1, .ref (ad 0)), (2, .ref (ma 0)), (3, .ref oa)] → W p l e room_1 s m #[Value.ref b] below meth c H locs (cells + 1) (slots + 6) Q (F0 m 1402 ls [])) : W p l e room_1 s m #[Value.ref b] below meth c H locs cells slots Q (F0 m 941 ls []) := by
  have hcA : cells ≤ room_1.cells := Nat.le_of_succ_le hc1
  have hsA : slots ≤ room_1.slots := Nat.le_trans (Nat.le_add_right _ _) hs1
  by_cases q1 : inR x1 8
  · obtain ⟨k1, g1, rfl⟩ := q1
    by_cases q2 : hd k1 = 1
    · refine lv_aload_n hx hb d_LW_law_941 rfl (lv_at hl 2 rfl) ?_
      refine lv_aload_n hx hb d_LW_law_942 rfl (lv_at hl 1 rfl) ?_
      refine lv_iload hx hb d_LW_law_943 (lv_at hl 0 rfl) ?_
      refine lv_iconst (v := nI 1) hx hb d_LW_law_945 (by decide) ?_
      refine rn_add hx hb d_LW_law_946 ?_
      refine rl_s hx hb hX hbl hbA hS (by omega) (by omega) hx1 d_LW_law_947 ?_
      refine lv_aload_n hx hb d_LW_law_948 rfl (lv_at hl 4 rfl) ?_
      refine pc_T (As := [.ref (ad 0), .int (nI k1), .ref oa]) (rest := []) hx hb (hml.trans hl.1.symm) hown ht F hP hD hS (c_LW_count l g ad oa rg hd (nF od) (nF tx) (nI td) sm pa pr fl op du qa ab ac qb be bc wd ou (MW g ma cd rg hd (nF oo) (nF kp) (nI td) (nF tx) ct fd os oq vs sk ++ []) k1 (by first | omega | exact q1 | exact q2 | exact q2.1 | exact q2.2 | exact q2.2.1 | exact q2.2.2 | exact I9.1.1 | exact I9.2.2.2.2 | exact I9.oo.1 | exact I9.oo | exact I9.2.2.2.1 | exact I9.2.2.1 | exact I9.2.2.2.2 _ (by omega) | exact (I9.2.2.2.2 _ (by omega)).resolve_right q2) (by first | omega | exact q1 | exact q2 | exact q2.1 | exact q2.2 | exact q2.2.1 | exact q2.2.2 | exact I9.1.1 | exact I9.2.2.2.2 | exact I9.oo.1 | exact I9.oo | exact I9.2.2.2.1 | exact I9.2.2.1 | exact I9.2.2.2.2 _ (by omega) | exact (I9.2.2.2.2 _ (by omega)).resolve_right q2)) v_LW_count tw_381 ⟨rfl, rfl⟩ ⟨by decide, by decide⟩ rfl rfl (Nat.le_of_ble_eq_true rfl) ⟨hcA, hsA⟩ d_LW_law_949 (fun r9 u9 H locs hq hP hD hS => ?_)
      subst hq
      have hP : va_P g.1 cl (CW g ad rg hd (nF od) (nF tx) (nI td) sm pa pr fl op du qa ab ac qb be bc wd ++ ((oa, aJ g 1 (vp_updL ou 0 ((BC (rg k1)).toInt64))) :: (MW g ma cd rg hd (nF oo) (nF kp) (nI td) (nF tx) ct fd os oq vs sk ++ []))) H := hP
      have hD : va_D (gA g) (CW g ad rg hd (nF od) (nF tx) (nI td) sm pa pr fl op du qa ab ac qb be bc wd ++ ((oa, aJ g 1 (vp_updL ou 0 ((BC (rg k1)).toInt64))) :: (MW g ma cd rg hd (nF oo) (nF kp) (nI td) (nF tx) ct fd os oq vs sk ++ []))) := hD
      refine lv_istore (lv' := [(5, .int (nI 0)), (4, .int (nI i)), (0, .ref b), (1, .ref (ad 0)), (2, .ref (ma 0)), (3, .ref oa)]) hx hb d_LW_law_952 hl (by decide) rfl (fun ls hl => ?_)
      refine lv_aload_n hx hb d_LW_law_954 rfl (lv_at hl 4 rfl) ?_
      refine lv_aload_n hx hb d_LW_law_955 rfl (lv_at hl 2 rfl) ?_
      refine lv_iload hx hb d_LW_law_956 (lv_at hl 1 rfl) ?_
      refine lv_iconst (v := nI 1) hx hb d_LW_law_958 (by decide) ?_
      refine rn_add hx hb d_LW_law_959 ?_
      refine rl_s hx hb hX hbl hbA hS (by omega) (by omega) hx1 d_LW_law_960 ?_
      have hP : va_P g.1 cl (MW g ma cd rg hd (nF oo) (nF kp) (nI td) (nF tx) ct fd os oq vs sk ++ ((oa, aJ g 1 (vp_updL ou 0 ((BC (rg k1)).toInt64))) :: (CW g ad rg hd (nF od) (nF tx) (nI td) sm pa pr fl op du qa ab ac qb be bc wd ++ []))) H := wp_perm (pm_ab _ _ _) hP
      have hD : va_D (gA g) (MW g ma cd rg hd (nF oo) (nF kp) (nI td) (nF tx) ct fd os oq vs sk ++ ((oa, aJ g 1 (vp_updL ou 0 ((BC (rg k1)).toInt64))) :: (CW g ad rg hd (nF od) (nF tx) (nI td) sm pa pr fl op du qa ab ac qb be bc wd ++ []))) := wd_perm (pm_ab _ _ _) hD
      refine pc_Vi (q0 := 0) (As := [.int (nI k1)]) (rest := []) hx hb (hml.trans hl.1.symm) hown ht F hP hD hS (c_MD_count l g ma cd rg hd (nF oo) (nF kp) (nI td) (nF tx) ct fd os oq vs sk ((oa, aJ g 1 (vp_updL ou 0 ((BC (rg k1)).toInt64))) :: (CW g ad rg hd (nF od) (nF tx) (nI td) sm pa pr fl op du qa ab ac qb be bc wd ++ [])) k1 (by first | omega | exact q1 | exact q2 | exact q2.1 | exact q2.2 | exact q2.2.1 | exact q2.2.2 | exact I9.1.1 | exact I9.2.2.2.2 | exact I9.oo.1 | exact I9.oo | exact I9.2.2.2.1 | exact I9.2.2.1 | exact I9.2.2.2.2 _ (by omega) | exact (I9.2.2.2.2 _ (by omega)).resolve_right q2) (by first | omega | exact q1 | exact q2 | exact q2.1 | exact q2.2 | exact q2.2.1 | exact q2.2.2 | exact I9.1.1 | exact I9.2.2.2.2 | exact I9.oo.1 | exact I9.oo | exact I9.2.2.2.1 | exact I9.2.2.1 | exact I9.2.2.2.2 _ (by omega) | exact (I9.2.2.2.2 _ (by omega)).resolve_right q2)) v_MD_count tw_597 ⟨rfl, rfl⟩ ⟨by decide, by decide⟩ rfl rfl rfl rfl (Nat.le_of_ble_eq_true rfl) ⟨hcA, hsA⟩ d_LW_law_961 (fun r9 u9 H locs hq hP hD hS => ?_)
      subst hq
      have hP : va_P g.1 cl (MW g ma (nI 0) rg hd (nF oo) (nF kp) (nI td) (nF tx) ct fd os oq vs sk ++ ((oa, aJ g 1 (vp_updL ou 0 ((BC (rg k1)).toInt64))) :: (CW g ad rg hd (nF od) (nF tx) (nI td) sm pa pr fl op du qa ab ac qb be bc wd ++ []))) H := hP
      have hD : va_D (gA g) (MW g ma (nI 0) rg hd (nF oo) (nF kp) (nI td) (nF tx) ct fd os oq vs sk ++ ((oa, aJ g 1 (vp_updL ou 0 ((BC (rg k1)).toInt64))) :: (CW g ad rg hd (nF od) (nF tx) (nI td) sm pa pr fl op du qa ab ac qb be bc wd ++ []))) := hD
      refine lv_istore (lv' := [(6, .int (nI (cnB (rg k1) 64))), (5, .int (nI 0)), (4, .int (nI i)), (0, .ref b), (1, .ref (ad 0)), (2, .ref (ma 0)), (3, .ref oa)]) hx hb d_LW_law_964 hl (by decide) rfl (fun ls hl => ?_)
      refine lv_aload_n hx hb d_LW_law_966 rfl (lv_at hl 5 rfl) ?_
      refine pc_Vi (q0 := 0) (As := []) (rest := []) hx hb (hml.trans hl.1.symm) hown ht F hP hD hS (c_MD_thrown l g ma (nI 0) rg hd (nF oo) (nF kp) (nI td) (nF tx) ct fd os oq vs sk ((oa, aJ g 1 (vp_updL ou 0 ((BC (rg k1)).toInt64))) :: (CW g ad rg hd (nF od) (nF tx) (nI td) sm pa pr fl op du qa ab ac qb be bc wd ++ []))) v_MD_thrown tw_510 ⟨rfl, rfl⟩ ⟨by decide, by decide⟩ rfl rfl rfl rfl (Nat.le_of_ble_eq_true rfl) ⟨hcA, hsA⟩ d_LW_law_967 (fun r9 u9 H locs hq hP hD hS => ?_)
      subst hq
      refine lv_iload hx hb d_LW_law_970 (lv_at hl 1 rfl) ?_
      refine rc_eq (tgt := 977) hx hb (by omega) (by omega) d_LW_law_972 (by decide) (fun c972 => ?_) (fun c972 => ?_)
      · refine lv_iload hx hb d_LW_law_977 (lv_at hl 1 rfl) ?_
        refine rz_ne (tgt := 994) hx hb (by omega) d_LW_law_979 (by decide) (fun c979 => ?_) (fun c979 => ?_)
        · exact (by omega : False).elim
        · refine lv_aload_n hx hb d_LW_law_982 rfl (lv_at hl 6 rfl) ?_
          refine lv_iconst (v := nI 0) hx hb d_LW_law_983 (by decide) ?_
          refine ra_J hx hb F hP 9 rfl (by omega) (by decide) d_LW_law_984 ?_
          refine lv_iload hx hb d_LW_law_985 (lv_at hl 0 rfl) ?_
          refine lv_i2l hx hb d_LW_law_987 rfl ?_
          refine W.lcmp hx hb d_LW_law_988 ?_
          refine lv_if_eq (tgt := 994) hx hb d_LW_law_989 (by decide) (fun c989 => ?_) (fun c989 => ?_)
          · refine lv_goto (tgt := 1402) hx hb d_LW_law_994 (by decide) ?_
            have hP : va_P g.1 cl (CW g ad rg hd (nF od) (nF tx) (nI td) sm pa pr fl op du qa ab ac qb be bc wd ++ ((oa, aJ g 1 (vp_updL ou 0 ((BC (rg k1)).toInt64))) :: (MW g ma (nI 0) rg hd (nF oo) (nF kp) (nI td) (nF tx) ct fd os oq vs sk ++ []))) H := wp_perm (pm_ab _ _ _) hP
            have hD : va_D (gA g) (CW g ad rg hd (nF od) (nF tx) (nI td) sm pa pr fl op du qa ab ac qb be bc wd ++ ((oa, aJ g 1 (vp_updL ou 0 ((BC (rg k1)).toInt64))) :: (MW g ma (nI 0) rg hd (nF oo) (nF kp) (nI td) (nF tx) ct fd os oq vs sk ++ []))) := wd_perm (pm_ab _ _ _) hD
            refine W.widen (k := cells + 1) (n := slots + 6) (by omega) (by omega) ?_
            exact kk H locs ls ⟨rg, hd, od, tx, td, sm, pa, pr, fl, op, du, qa, ab, ac, qb, be, bc, wd, vp_updL ou 0 ((BC (rg k1)).toInt64), nI 0, oo, kp, ct, fd, os, oq, vs, sk, I9, hP, hD⟩ hS (lv_sub hl [2, 3, 4, 5, 6] rfl)
          · exact absurd ((lg_cmp_eq _ _).mpr ((uL_s _ _ _).trans (by rw [BC_eq]))) c989
      · exact (by omega : False).elim
    · refine lv_aload_n hx hb d_LW_law_941 rfl (lv_at hl 2 rfl) ?_
      refine lv_aload_n hx hb d_LW_law_942 rfl (lv_at hl 1 rfl) ?_
      refine lv_iload hx hb d_LW_law_943 (lv_at hl 0 rfl) ?_
      refine lv_iconst (v := nI 1) hx hb d_LW_law_945 (by decide) ?_
      refine rn_add hx hb d_LW_law_946 ?_
      refine rl_s hx hb hX hbl hbA hS (by omega) (by omega) hx1 d_LW_law_947 ?_
      refine lv_aload_n hx hb d_LW_law_948 rfl (lv_at hl 4 rfl) ?_
      refine pc_T (As := [.ref (ad 0), .int (nI k1), .ref oa]) (rest := []) hx hb (hml.trans hl.1.symm) hown ht F hP hD hS (c2_LW_count l hl0 g ad oa rg hd (nF od) (nF tx) (nI td) sm pa pr fl op du qa ab ac qb be bc wd ou (MW g ma cd rg hd (nF oo) (nF kp) (nI td) (nF tx) ct fd os oq vs sk ++ []) k1 (by first | omega | exact q1 | exact q2 | exact q2.1 | exact q2.2 | exact q2.2.1 | exact q2.2.2 | exact I9.1.1 | exact I9.2.2.2.2 | exact I9.oo.1 | exact I9.oo | exact I9.2.2.2.1 | exact I9.2.2.1 | exact I9.2.2.2.2 _ (by omega) | exact (I9.2.2.2.2 _ (by omega)).resolve_right q2) (by first | omega | exact q1 | exact q2 | exact q2.1 | exact q2.2 | exact q2.2.1 | exact q2.2.2 | exact I9.1.1 | exact I9.2.2.2.2 | exact I9.oo.1 | exact I9.oo | exact I9.2.2.2.1 | exact I9.2.2.1 | exact I9.2.2.2.2 _ (by omega) | exact (I9.2.2.2.2 _ (by omega)).resolve_right q2) (by first | omega | exact q1 | exact q2 | exact q2.1 | exact q2.2 | exact q2.2.1 | exact q2.2.2 | exact I9.1.1 | exact I9.2.2.2.2 | exact I9.oo.1 | exact I9.oo | exact I9.2.2.2.1 | exact I9.2.2.1 | exact I9.2.2.2.2 _ (by omega) | exact (I9.2.2.2.2 _ (by omega)).resolve_right q2)) v_LW_count tw_381 ⟨rfl, rfl⟩ ⟨by decide, by decide⟩ rfl rfl (Nat.le_of_ble_eq_true rfl) ⟨hc1, hs1⟩ d_LW_law_949 (fun r9 u9 H locs hq hP hD hS => ?_)
      subst hq
      refine lv_istore (lv' := [(5, .int (nI 2)), (4, .int (nI i)), (0, .ref b), (1, .ref (ad 0)), (2, .ref (ma 0)), (3, .ref oa)]) hx hb d_LW_law_952 hl (by decide) rfl (fun ls hl => ?_)
      refine lv_aload_n hx hb d_LW_law_954 rfl (lv_at hl 4 rfl) ?_
      refine lv_aload_n hx hb d_LW_law_955 rfl (lv_at hl 2 rfl) ?_
      refine lv_iload hx hb d_LW_law_956 (lv_at hl 1 rfl) ?_
      refine lv_iconst (v := nI 1) hx hb d_LW_law_958 (by decide) ?_
      refine rn_add hx hb d_LW_law_959 ?_
      refine rl_s hx hb hX hbl hbA hS (by omega) (by omega) hx1 d_LW_law_960 ?_
      have hP : va_P g.1 cl (MW g ma cd rg hd (nF oo) (nF kp) (nI td) (nF tx) ct fd os oq vs sk ++ ((oa, aJ g 1 ou) :: (CW g ad rg hd (nF od) (nF tx) (nI td) sm pa pr fl op du qa ab ac qb be bc wd ++ []))) H := wp_perm (pm_ab _ _ _) hP
      have hD : va_D (gA g) (MW g ma cd rg hd (nF oo) (nF kp) (nI td) (nF tx) ct fd os oq vs sk ++ ((oa, aJ g 1 ou) :: (CW g ad rg hd (nF od) (nF tx) (nI td) sm pa pr fl op du qa ab ac qb be bc wd ++ []))) := wd_perm (pm_ab _ _ _) hD
      refine pc_Vi (q0 := 0) (As := [.int (nI k1)]) (rest := []) hx hb (hml.trans hl.1.symm) hown ht F hP hD hS (c2_MD_count l g ma cd rg hd (nF oo) (nF kp) (nI td) (nF tx) ct fd os oq vs sk ((oa, aJ g 1 ou) :: (CW g ad rg hd (nF od) (nF tx) (nI td) sm pa pr fl op du qa ab ac qb be bc wd ++ [])) k1 (by first | omega | exact q1 | exact q2 | exact q2.1 | exact q2.2 | exact q2.2.1 | exact q2.2.2 | exact I9.1.1 | exact I9.2.2.2.2 | exact I9.oo.1 | exact I9.oo | exact I9.2.2.2.1 | exact I9.2.2.1 | exact I9.2.2.2.2 _ (by omega) | exact (I9.2.2.2.2 _ (by omega)).resolve_right q2) (by first | omega | exact q1 | exact q2 | exact q2.1 | exact q2.2 | exact q2.2.1 | exact q2.2.2 | exact I9.1.1 | exact I9.2.2.2.2 | exact I9.oo.1 | exact I9.oo | exact I9.2.2.2.1 | exact I9.2.2.1 | exact I9.2.2.2.2 _ (by omega) | exact (I9.2.2.2.2 _ (by omega)).resolve_right q2)) v_MD_count tw_597 ⟨rfl, rfl⟩ ⟨by decide, by decide⟩ rfl rfl rfl rfl (Nat.le_of_ble_eq_true rfl) ⟨hc1, hs1⟩ d_LW_law_961 (fun r9 u9 H locs hq hP hD hS => ?_)
      subst hq
      have hP : va_P g.1 cl (MW g ma (nI 2) rg hd (nF oo) (nF kp) (nI td) (nF tx) ct fd os oq vs sk ++ ((oa, aJ g 1 ou) :: (CW g ad rg hd (nF od) (nF tx) (nI td) sm pa pr fl op du qa ab ac qb be bc wd ++ []))) H := hP
      have hD : va_D (gA g) (MW g ma (nI 2) rg hd (nF oo) (nF kp) (nI td) (nF tx) ct fd os oq vs sk ++ ((oa, aJ g 1 ou) :: (CW g ad rg hd (nF od) (nF tx) (nI td) sm pa pr fl op du qa ab ac qb be bc wd ++ []))) := hD
      refine lv_istore (lv' := [(6, .int (nI 0)), (5, .int (nI 2)), (4, .int (nI i)), (0, .ref b), (1, .ref (ad 0)), (2, .ref (ma 0)), (3, .ref oa)]) hx hb d_LW_law_964 hl (by decide) rfl (fun ls hl => ?_)
      refine lv_aload_n hx hb d_LW_law_966 rfl (lv_at hl 5 rfl) ?_
      refine pc_Vi (q0 := 0) (As := []) (rest := []) hx hb (hml.trans hl.1.symm) hown ht F hP hD hS (c_MD_thrown l g ma (nI 2) rg hd (nF oo) (nF kp) (nI td) (nF tx) ct fd os oq vs sk ((oa, aJ g 1 ou) :: (CW g ad rg hd (nF od) (nF tx) (nI td) sm pa pr fl op du qa ab ac qb be bc wd ++ []))) v_MD_thrown tw_510 ⟨rfl, rfl⟩ ⟨by decide, by decide⟩ rfl rfl rfl rfl (Nat.le_of_ble_eq_true rfl) ⟨hc1, hs1⟩ d_LW_law_967 (fun r9 u9 H locs hq hP hD hS => ?_)
      subst hq
      refine lv_iload hx hb d_LW_law_970 (lv_at hl 1 rfl) ?_
      refine rc_eq (tgt := 977) hx hb (by omega) (by omega) d_LW_law_972 (by decide) (fun c972 => ?_) (fun c972 => ?_)
      · refine lv_iload hx hb d_LW_law_977 (lv_at hl 1 rfl) ?_
        refine rz_ne (tgt := 994) hx hb (by omega) d_LW_law_979 (by decide) (fun c979 => ?_) (fun c979 => ?_)
        · refine lv_goto (tgt := 1402) hx hb d_LW_law_994 (by decide) ?_
          have hP : va_P g.1 cl (CW g ad rg hd (nF od) (nF tx) (nI td) sm pa pr fl op du qa ab ac qb be bc wd ++ ((oa, aJ g 1 ou) :: (MW g ma (nI 2) rg hd (nF oo) (nF kp) (nI td) (nF tx) ct fd os oq vs sk ++ []))) H := wp_perm (pm_ab _ _ _) hP
          have hD : va_D (gA g) (CW g ad rg hd (nF od) (nF tx) (nI td) sm pa pr fl op du qa ab ac qb be bc wd ++ ((oa, aJ g 1 ou) :: (MW g ma (nI 2) rg hd (nF oo) (nF kp) (nI td) (nF tx) ct fd os oq vs sk ++ []))) := wd_perm (pm_ab _ _ _) hD
          refine W.widen (k := cells + 1) (n := slots + 6) (by omega) (by omega) ?_
          exact kk H locs ls ⟨rg, hd, od, tx, td, sm, pa, pr, fl, op, du, qa, ab, ac, qb, be, bc, wd, ou, nI 2, oo, kp, ct, fd, os, oq, vs, sk, I9, hP, hD⟩ hS (lv_sub hl [2, 3, 4, 5, 6] rfl)
        · exact (by omega : False).elim
      · exact (by omega : False).elim
  · refine lv_aload_n hx hb d_LW_law_941 rfl (lv_at hl 2 rfl) ?_
    refine lv_aload_n hx hb d_LW_law_942 rfl (lv_at hl 1 rfl) ?_
    refine lv_iload hx hb d_LW_law_943 (lv_at hl 0 rfl) ?_
    refine lv_iconst (v := nI 1) hx hb d_LW_law_945 (by decide) ?_
    refine rn_add hx hb d_LW_law_946 ?_
    refine rl_s hx hb hX hbl hbA hS (by omega) (by omega) hx1 d_LW_law_947 ?_
    refine lv_aload_n hx hb d_LW_law_948 rfl (lv_at hl 4 rfl) ?_
    refine pc_T (As := [.ref (ad 0), .int x1, .ref oa]) (rest := []) hx hb (hml.trans hl.1.symm) hown ht F hP hD hS (c1_LW_count l hl0 g ad oa rg hd (nF od) (nF tx) (nI td) sm pa pr fl op du qa ab ac qb be bc wd ou (MW g ma cd rg hd (nF oo) (nF kp) (nI td) (nF tx) ct fd os oq vs sk ++ []) x1 (by first | omega | exact q1 | exact q2 | exact q2.1 | exact q2.2 | exact q2.2.1 | exact q2.2.2 | exact I9.1.1 | exact I9.2.2.2.2 | exact I9.oo.1 | exact I9.oo | exact I9.2.2.2.1 | exact I9.2.2.1 | exact I9.2.2.2.2 _ (by omega) | exact (I9.2.2.2.2 _ (by omega)).resolve_right q2)) v_LW_count tw_381 ⟨rfl, rfl⟩ ⟨by decide, by decide⟩ rfl rfl (Nat.le_of_ble_eq_true rfl) ⟨hc1, hs1⟩ d_LW_law_949 (fun r9 u9 H locs hq hP hD hS => ?_)
    subst hq
    refine lv_istore (lv' := [(5, .int (nI 1)), (4, .int (nI i)), (0, .ref b), (1, .ref (ad 0)), (2, .ref (ma 0)), (3, .ref oa)]) hx hb d_LW_law_952 hl (by decide) rfl (fun ls hl => ?_)
    refine lv_aload_n hx hb d_LW_law_954 rfl (lv_at hl 4 rfl) ?_
    refine lv_aload_n hx hb d_LW_law_955 rfl (lv_at hl 2 rfl) ?_
    refine lv_iload hx hb d_LW_law_956 (lv_at hl 1 rfl) ?_
    refine lv_iconst (v := nI 1) hx hb d_LW_law_958 (by decide) ?_
    refine rn_add hx hb d_LW_law_959 ?_
    refine rl_s hx hb hX hbl hbA hS (by omega) (by omega) hx1 d_LW_law_960 ?_
    have hP : va_P g.1 cl (MW g ma cd rg hd (nF oo) (nF kp) (nI td) (nF tx) ct fd os oq vs sk ++ ((oa, aJ g 1 ou) :: (CW g ad rg hd (nF od) (nF tx) (nI td) sm pa pr fl op du qa ab ac qb be bc wd ++ []))) H := wp_perm (pm_ab _ _ _) hP
    have hD : va_D (gA g) (MW g ma cd rg hd (nF oo) (nF kp) (nI td) (nF tx) ct fd os oq vs sk ++ ((oa, aJ g 1 ou) :: (CW g ad rg hd (nF od) (nF tx) (nI td) sm pa pr fl op du qa ab ac qb be bc wd ++ []))) := wd_perm (pm_ab _ _ _) hD
    refine pc_Vi (q0 := 0) (As := [.int x1]) (rest := []) hx hb (hml.trans hl.1.symm) hown ht F hP hD hS (c1_MD_count l g ma cd rg hd (nF oo) (nF kp) (nI td) (nF tx) ct fd os oq vs sk ((oa, aJ g 1 ou) :: (CW g ad rg hd (nF od) (nF tx) (nI td) sm pa pr fl op du qa ab ac qb be bc wd ++ [])) x1 (by first | omega | exact q1 | exact q2 | exact q2.1 | exact q2.2 | exact q2.2.1 | exact q2.2.2 | exact I9.1.1 | exact I9.2.2.2.2 | exact I9.oo.1 | exact I9.oo | exact I9.2.2.2.1 | exact I9.2.2.1 | exact I9.2.2.2.2 _ (by omega) | exact (I9.2.2.2.2 _ (by omega)).resolve_right q2)) v_MD_count tw_597 ⟨rfl, rfl⟩ ⟨by decide, by decide⟩ rfl rfl rfl rfl (Nat.le_of_ble_eq_true rfl) ⟨hc1, hs1⟩ d_LW_law_961 (fun r9 u9 H locs hq hP hD hS => ?_)
    subst hq
    have hP : va_P g.1 cl (MW g ma (nI 1) rg hd (nF oo) (nF kp) (nI td) (nF tx) ct fd os oq vs sk ++ ((oa, aJ g 1 ou) :: (CW g ad rg hd (nF od) (nF tx) (nI td) sm pa pr fl op du qa ab ac qb be bc wd ++ []))) H := hP
    have hD : va_D (gA g) (MW g ma (nI 1) rg hd (nF oo) (nF kp) (nI td) (nF tx) ct fd os oq vs sk ++ ((oa, aJ g 1 ou) :: (CW g ad rg hd (nF od) (nF tx) (nI td) sm pa pr fl op du qa ab ac qb be bc wd ++ []))) := hD
    refine lv_istore (lv' := [(6, .int (nI 0)), (5, .int (nI 1)), (4, .int (nI i)), (0, .ref b), (1, .ref (ad 0)), (2, .ref (ma 0)), (3, .ref oa)]) hx hb d_LW_law_964 hl (by decide) rfl (fun ls hl => ?_)
    refine lv_aload_n hx hb d_LW_law_966 rfl (lv_at hl 5 rfl) ?_
    refine pc_Vi (q0 := 0) (As := []) (rest := []) hx hb (hml.trans hl.1.symm) hown ht F hP hD hS (c_MD_thrown l g ma (nI 1) rg hd (nF oo) (nF kp) (nI td) (nF tx) ct fd os oq vs sk ((oa, aJ g 1 ou) :: (CW g ad rg hd (nF od) (nF tx) (nI td) sm pa pr fl op du qa ab ac qb be bc wd ++ []))) v_MD_thrown tw_510 ⟨rfl, rfl⟩ ⟨by decide, by decide⟩ rfl rfl rfl rfl (Nat.le_of_ble_eq_true rfl) ⟨hc1, hs1⟩ d_LW_law_967 (fun r9 u9 H locs hq hP hD hS => ?_)
    subst hq
    refine lv_iload hx hb d_LW_law_970 (lv_at hl 1 rfl) ?_
    refine rc_eq (tgt := 977) hx hb (by omega) (by omega) d_LW_law_972 (by decide) (fun c972 => ?_) (fun c972 => ?_)
    · refine lv_iload hx hb d_LW_law_977 (lv_at hl 1 rfl) ?_
      refine rz_ne (tgt := 994) hx hb (by omega) d_LW_law_979 (by decide) (fun c979 => ?_) (fun c979 => ?_)
      · refine lv_goto (tgt := 1402) hx hb d_LW_law_994 (by decide) ?_
        have hP : va_P g.1 cl (CW g ad rg hd (nF od) (nF tx) (nI td) sm pa pr fl op du qa ab ac qb be bc wd ++ ((oa, aJ g 1 ou) :: (MW g ma (nI 1) rg hd (nF oo) (nF kp) (nI td) (nF tx) ct fd os oq vs sk ++ []))) H := wp_perm (pm_ab _ _ _) hP
        have hD : va_D (gA g) (CW g ad rg hd (nF od) (nF tx) (nI td) sm pa pr fl op du qa ab ac qb be bc wd ++ ((oa, aJ g 1 ou) :: (MW g ma (nI 1) rg hd (nF oo) (nF kp) (nI td) (nF tx) ct fd os oq vs sk ++ []))) := wd_perm (pm_ab _ _ _) hD
        refine W.widen (k := cells + 1) (n := slots + 6) (by omega) (by omega) ?_
        exact kk H locs ls ⟨rg, hd, od, tx, td, sm, pa, pr, fl, op, du, qa, ab, ac, qb, be, bc, wd, ou, nI 1, oo, kp, ct, fd, os, oq, vs, sk, I9, hP, hD⟩ hS (lv_sub hl [2, 3, 4, 5, 6] rfl)
      · exact (by omega : False).elim
    · exact (by omega : False).elim
set_option maxRecDepth 100000 in
set_option maxHeartbeats 4000000 in
theorem st_least {p : Program} {l : Launch} {e : Env} {s : State} {m : MethodId} {below : List Frame} {meth : Method} {c : Code} (hl0 : l.stackTraces = false) {g : Gx} {ad ma : Nat → Nat} {oa b L i : Nat} {xs : Nat → Int32} {x1 x2 x3 x4 : Int32} (hx : p.tables.exec = Jvm.exec) (hb : c.code = b_LW_law) (hml : c.maxLocals = 7) (hown : s.vm.findClass "SiftedGraphsLaw" = some m.cls) (ht : ∀ w ∈ TW, w.before #[Value.ref b] s = true) (F : Fx g s) (hX : va_X b L xs s s.heap) (hbl : b < s.heap.size) (hbA : ¬ gA g b) (hL : L ≤ 2560) (hi : i + 4 < L) (hx1 : xs (i + 1) = x1) (hx2 : xs (i + 2) = x2) (hx3 : xs (i + 3) = x3) (hx4 : xs (i + 4) = x4) {rg : Nat → Int64} {hd : Nat → Int32} {od : Nat → Nat} {tx : Nat → Nat} {td : Nat} {sm : Nat → Int64} {pa : Nat → Int64} {pr : Nat → Int64} {fl : Nat → Int64} {op : Int32} {du : Int32} {qa : Nat} {ab : Nat → Int64} {ac : Int32} {qb : Nat} {be : Nat → Int64} {bc : Int32} {wd : Nat → Int32} {ou : Nat → Int64} {cd : Int32} {oo : Nat → Nat} {kp : Nat → Nat} {ct : Int32} {fd : Nat → Int64} {os : Int32} {oq : Nat → Int32} {vs : Int32} {sk : Nat → Int64} (I9 : INV od oo tx hd td) {H : Heap} {locs : List Loc} {ls : Array Slot} (hP : va_P g.1 cl (CW g ad rg hd (nF od) (nF tx) (nI td) sm pa pr fl op du qa ab ac qb be bc wd ++ ((oa, aJ g 1 ou) :: (MW g ma cd rg hd (nF oo) (nF kp) (nI td) (nF tx) ct fd os oq vs sk ++ []))) H) (hD : va_D (gA g) (CW g ad rg hd (nF od) (nF tx) (nI td) sm pa pr fl op du qa ab ac qb be bc wd ++ ((oa, aJ g 1 ou) :: (MW g ma cd rg hd (nF oo) (nF kp) (nI td) (nF tx) ct fd os oq vs sk ++ [])))) (hS : va_S (gA g) s.heap H locs) (hl : lv_has ls 7 [(4, .int (nI i)), (0, .ref b), (1, .ref (ad 0)), (2, .ref (ma 0)), (3, .ref oa)]) {cells slots : Nat} (hc1 : cells + 1 ≤ room_1.cells) (hs1 : slots + 6 ≤ room_1.slots) {Q : State → Prop}
    (kk : ∀ (H : Heap) (locs : List Loc) (ls : Array Slot), LST g ad ma oa H → va_S (gA g) s.heap H locs → lv_has ls 7 [(4, .int (nI i)), (0, .ref b), (1, .ref (ad 0)), (2, .ref (ma 0)), (3, .ref oa)] → W p l e room_1 s m #[Value.ref b] below meth c H locs (cells + 1) (slots + 6) Q (F0 m 1402 ls [])) : W p l e room_1 s m #[Value.ref b] below meth c H locs cells slots Q (F0 m 997 ls []) := by
  have hcA : cells ≤ room_1.cells := Nat.le_of_succ_le hc1
  have hsA : slots ≤ room_1.slots := Nat.le_trans (Nat.le_add_right _ _) hs1
  by_cases q1 : inR x1 8
  · obtain ⟨k1, g1, rfl⟩ := q1
    by_cases q2 : hd k1 = 1
    · refine lv_aload_n hx hb d_LW_law_997 rfl (lv_at hl 2 rfl) ?_
      refine lv_aload_n hx hb d_LW_law_998 rfl (lv_at hl 1 rfl) ?_
      refine lv_iload hx hb d_LW_law_999 (lv_at hl 0 rfl) ?_
      refine lv_iconst (v := nI 1) hx hb d_LW_law_1001 (by decide) ?_
      refine rn_add hx hb d_LW_law_1002 ?_
      refine rl_s hx hb hX hbl hbA hS (by omega) (by omega) hx1 d_LW_law_1003 ?_
      refine lv_aload_n hx hb d_LW_law_1004 rfl (lv_at hl 4 rfl) ?_
      refine pc_T (As := [.ref (ad 0), .int (nI k1), .ref oa]) (rest := []) hx hb (hml.trans hl.1.symm) hown ht F hP hD hS (c_LW_least l g ad oa rg hd (nF od) (nF tx) (nI td) sm pa pr fl op du qa ab ac qb be bc wd ou (MW g ma cd rg hd (nF oo) (nF kp) (nI td) (nF tx) ct fd os oq vs sk ++ []) k1 (by first | omega | exact q1 | exact q2 | exact q2.1 | exact q2.2 | exact q2.2.1 | exact q2.2.2 | exact I9.1.1 | exact I9.2.2.2.2 | exact I9.oo.1 | exact I9.oo | exact I9.2.2.2.1 | exact I9.2.2.1 | exact I9.2.2.2.2 _ (by omega) | exact (I9.2.2.2.2 _ (by omega)).resolve_right q2) (by first | omega | exact q1 | exact q2 | exact q2.1 | exact q2.2 | exact q2.2.1 | exact q2.2.2 | exact I9.1.1 | exact I9.2.2.2.2 | exact I9.oo.1 | exact I9.oo | exact I9.2.2.2.1 | exact I9.2.2.1 | exact I9.2.2.2.2 _ (by omega) | exact (I9.2.2.2.2 _ (by omega)).resolve_right q2)) v_LW_least tw_394 ⟨rfl, rfl⟩ ⟨by decide, by decide⟩ rfl rfl (Nat.le_of_ble_eq_true rfl) ⟨hcA, hsA⟩ d_LW_law_1005 (fun r9 u9 H locs hq hP hD hS => ?_)
      subst hq
      have hP : va_P g.1 cl (CW g ad rg hd (nF od) (nF tx) (nI td) sm pa pr fl op du qa ab ac qb be bc wd ++ ((oa, aJ g 1 (vp_updL ou 0 ((lsF (rg k1) 0 64).toInt64))) :: (MW g ma cd rg hd (nF oo) (nF kp) (nI td) (nF tx) ct fd os oq vs sk ++ []))) H := hP
      have hD : va_D (gA g) (CW g ad rg hd (nF od) (nF tx) (nI td) sm pa pr fl op du qa ab ac qb be bc wd ++ ((oa, aJ g 1 (vp_updL ou 0 ((lsF (rg k1) 0 64).toInt64))) :: (MW g ma cd rg hd (nF oo) (nF kp) (nI td) (nF tx) ct fd os oq vs sk ++ []))) := hD
      refine lv_istore (lv' := [(5, .int (nI 0)), (4, .int (nI i)), (0, .ref b), (1, .ref (ad 0)), (2, .ref (ma 0)), (3, .ref oa)]) hx hb d_LW_law_1008 hl (by decide) rfl (fun ls hl => ?_)
      refine lv_aload_n hx hb d_LW_law_1010 rfl (lv_at hl 4 rfl) ?_
      refine lv_aload_n hx hb d_LW_law_1011 rfl (lv_at hl 2 rfl) ?_
      refine lv_iload hx hb d_LW_law_1012 (lv_at hl 1 rfl) ?_
      refine lv_iconst (v := nI 1) hx hb d_LW_law_1014 (by decide) ?_
      refine rn_add hx hb d_LW_law_1015 ?_
      refine rl_s hx hb hX hbl hbA hS (by omega) (by omega) hx1 d_LW_law_1016 ?_
      have hP : va_P g.1 cl (MW g ma cd rg hd (nF oo) (nF kp) (nI td) (nF tx) ct fd os oq vs sk ++ ((oa, aJ g 1 (vp_updL ou 0 ((lsF (rg k1) 0 64).toInt64))) :: (CW g ad rg hd (nF od) (nF tx) (nI td) sm pa pr fl op du qa ab ac qb be bc wd ++ []))) H := wp_perm (pm_ab _ _ _) hP
      have hD : va_D (gA g) (MW g ma cd rg hd (nF oo) (nF kp) (nI td) (nF tx) ct fd os oq vs sk ++ ((oa, aJ g 1 (vp_updL ou 0 ((lsF (rg k1) 0 64).toInt64))) :: (CW g ad rg hd (nF od) (nF tx) (nI td) sm pa pr fl op du qa ab ac qb be bc wd ++ []))) := wd_perm (pm_ab _ _ _) hD
      refine pc_Vi (q0 := 0) (As := [.int (nI k1)]) (rest := []) hx hb (hml.trans hl.1.symm) hown ht F hP hD hS (c_MD_least l g ma cd rg hd (nF oo) (nF kp) (nI td) (nF tx) ct fd os oq vs sk ((oa, aJ g 1 (vp_updL ou 0 ((lsF (rg k1) 0 64).toInt64))) :: (CW g ad rg hd (nF od) (nF tx) (nI td) sm pa pr fl op du qa ab ac qb be bc wd ++ [])) k1 (by first | omega | exact q1 | exact q2 | exact q2.1 | exact q2.2 | exact q2.2.1 | exact q2.2.2 | exact I9.1.1 | exact I9.2.2.2.2 | exact I9.oo.1 | exact I9.oo | exact I9.2.2.2.1 | exact I9.2.2.1 | exact I9.2.2.2.2 _ (by omega) | exact (I9.2.2.2.2 _ (by omega)).resolve_right q2) (by first | omega | exact q1 | exact q2 | exact q2.1 | exact q2.2 | exact q2.2.1 | exact q2.2.2 | exact I9.1.1 | exact I9.2.2.2.2 | exact I9.oo.1 | exact I9.oo | exact I9.2.2.2.1 | exact I9.2.2.1 | exact I9.2.2.2.2 _ (by omega) | exact (I9.2.2.2.2 _ (by omega)).resolve_right q2)) v_MD_least tw_605 ⟨rfl, rfl⟩ ⟨by decide, by decide⟩ rfl rfl rfl rfl (Nat.le_of_ble_eq_true rfl) ⟨hcA, hsA⟩ d_LW_law_1017 (fun r9 u9 H locs hq hP hD hS => ?_)
      subst hq
      have hP : va_P g.1 cl (MW g ma (nI 0) rg hd (nF oo) (nF kp) (nI td) (nF tx) ct fd os oq vs sk ++ ((oa, aJ g 1 (vp_updL ou 0 ((lsF (rg k1) 0 64).toInt64))) :: (CW g ad rg hd (nF od) (nF tx) (nI td) sm pa pr fl op du qa ab ac qb be bc wd ++ []))) H := hP
      have hD : va_D (gA g) (MW g ma (nI 0) rg hd (nF oo) (nF kp) (nI td) (nF tx) ct fd os oq vs sk ++ ((oa, aJ g 1 (vp_updL ou 0 ((lsF (rg k1) 0 64).toInt64))) :: (CW g ad rg hd (nF od) (nF tx) (nI td) sm pa pr fl op du qa ab ac qb be bc wd ++ []))) := hD
      refine lv_istore (lv' := [(6, .int (lsF (rg k1) 0 64)), (5, .int (nI 0)), (4, .int (nI i)), (0, .ref b), (1, .ref (ad 0)), (2, .ref (ma 0)), (3, .ref oa)]) hx hb d_LW_law_1020 hl (by decide) rfl (fun ls hl => ?_)
      refine lv_aload_n hx hb d_LW_law_1022 rfl (lv_at hl 5 rfl) ?_
      refine pc_Vi (q0 := 0) (As := []) (rest := []) hx hb (hml.trans hl.1.symm) hown ht F hP hD hS (c_MD_thrown l g ma (nI 0) rg hd (nF oo) (nF kp) (nI td) (nF tx) ct fd os oq vs sk ((oa, aJ g 1 (vp_updL ou 0 ((lsF (rg k1) 0 64).toInt64))) :: (CW g ad rg hd (nF od) (nF tx) (nI td) sm pa pr fl op du qa ab ac qb be bc wd ++ []))) v_MD_thrown tw_510 ⟨rfl, rfl⟩ ⟨by decide, by decide⟩ rfl rfl rfl rfl (Nat.le_of_ble_eq_true rfl) ⟨hcA, hsA⟩ d_LW_law_1023 (fun r9 u9 H locs hq hP hD hS => ?_)
      subst hq
      refine lv_iload hx hb d_LW_law_1026 (lv_at hl 1 rfl) ?_
      refine rc_eq (tgt := 1033) hx hb (by omega) (by omega) d_LW_law_1028 (by decide) (fun c1028 => ?_) (fun c1028 => ?_)
      · refine lv_iload hx hb d_LW_law_1033 (lv_at hl 1 rfl) ?_
        refine rz_ne (tgt := 1050) hx hb (by omega) d_LW_law_1035 (by decide) (fun c1035 => ?_) (fun c1035 => ?_)
        · exact (by omega : False).elim
        · refine lv_aload_n hx hb d_LW_law_1038 rfl (lv_at hl 6 rfl) ?_
          refine lv_iconst (v := nI 0) hx hb d_LW_law_1039 (by decide) ?_
          refine ra_J hx hb F hP 9 rfl (by omega) (by decide) d_LW_law_1040 ?_
          refine lv_iload hx hb d_LW_law_1041 (lv_at hl 0 rfl) ?_
          refine lv_i2l hx hb d_LW_law_1043 rfl ?_
          refine W.lcmp hx hb d_LW_law_1044 ?_
          refine lv_if_eq (tgt := 1050) hx hb d_LW_law_1045 (by decide) (fun c1045 => ?_) (fun c1045 => ?_)
          · refine lv_goto (tgt := 1402) hx hb d_LW_law_1050 (by decide) ?_
            have hP : va_P g.1 cl (CW g ad rg hd (nF od) (nF tx) (nI td) sm pa pr fl op du qa ab ac qb be bc wd ++ ((oa, aJ g 1 (vp_updL ou 0 ((lsF (rg k1) 0 64).toInt64))) :: (MW g ma (nI 0) rg hd (nF oo) (nF kp) (nI td) (nF tx) ct fd os oq vs sk ++ []))) H := wp_perm (pm_ab _ _ _) hP
            have hD : va_D (gA g) (CW g ad rg hd (nF od) (nF tx) (nI td) sm pa pr fl op du qa ab ac qb be bc wd ++ ((oa, aJ g 1 (vp_updL ou 0 ((lsF (rg k1) 0 64).toInt64))) :: (MW g ma (nI 0) rg hd (nF oo) (nF kp) (nI td) (nF tx) ct fd os oq vs sk ++ []))) := wd_perm (pm_ab _ _ _) hD
            refine W.widen (k := cells + 1) (n := slots + 6) (by omega) (by omega) ?_
            exact kk H locs ls ⟨rg, hd, od, tx, td, sm, pa, pr, fl, op, du, qa, ab, ac, qb, be, bc, wd, vp_updL ou 0 ((lsF (rg k1) 0 64).toInt64), nI 0, oo, kp, ct, fd, os, oq, vs, sk, I9, hP, hD⟩ hS (lv_sub hl [2, 3, 4, 5, 6] rfl)
          · exact absurd ((lg_cmp_eq _ _).mpr (uL_s _ _ _)) c1045
      · exact (by omega : False).elim
    · refine lv_aload_n hx hb d_LW_law_997 rfl (lv_at hl 2 rfl) ?_
      refine lv_aload_n hx hb d_LW_law_998 rfl (lv_at hl 1 rfl) ?_
      refine lv_iload hx hb d_LW_law_999 (lv_at hl 0 rfl) ?_
      refine lv_iconst (v := nI 1) hx hb d_LW_law_1001 (by decide) ?_
      refine rn_add hx hb d_LW_law_1002 ?_
      refine rl_s hx hb hX hbl hbA hS (by omega) (by omega) hx1 d_LW_law_1003 ?_
      refine lv_aload_n hx hb d_LW_law_1004 rfl (lv_at hl 4 rfl) ?_
      refine pc_T (As := [.ref (ad 0), .int (nI k1), .ref oa]) (rest := []) hx hb (hml.trans hl.1.symm) hown ht F hP hD hS (c2_LW_least l hl0 g ad oa rg hd (nF od) (nF tx) (nI td) sm pa pr fl op du qa ab ac qb be bc wd ou (MW g ma cd rg hd (nF oo) (nF kp) (nI td) (nF tx) ct fd os oq vs sk ++ []) k1 (by first | omega | exact q1 | exact q2 | exact q2.1 | exact q2.2 | exact q2.2.1 | exact q2.2.2 | exact I9.1.1 | exact I9.2.2.2.2 | exact I9.oo.1 | exact I9.oo | exact I9.2.2.2.1 | exact I9.2.2.1 | exact I9.2.2.2.2 _ (by omega) | exact (I9.2.2.2.2 _ (by omega)).resolve_right q2) (by first | omega | exact q1 | exact q2 | exact q2.1 | exact q2.2 | exact q2.2.1 | exact q2.2.2 | exact I9.1.1 | exact I9.2.2.2.2 | exact I9.oo.1 | exact I9.oo | exact I9.2.2.2.1 | exact I9.2.2.1 | exact I9.2.2.2.2 _ (by omega) | exact (I9.2.2.2.2 _ (by omega)).resolve_right q2) (by first | omega | exact q1 | exact q2 | exact q2.1 | exact q2.2 | exact q2.2.1 | exact q2.2.2 | exact I9.1.1 | exact I9.2.2.2.2 | exact I9.oo.1 | exact I9.oo | exact I9.2.2.2.1 | exact I9.2.2.1 | exact I9.2.2.2.2 _ (by omega) | exact (I9.2.2.2.2 _ (by omega)).resolve_right q2)) v_LW_least tw_394 ⟨rfl, rfl⟩ ⟨by decide, by decide⟩ rfl rfl (Nat.le_of_ble_eq_true rfl) ⟨hc1, hs1⟩ d_LW_law_1005 (fun r9 u9 H locs hq hP hD hS => ?_)
      subst hq
      refine lv_istore (lv' := [(5, .int (nI 2)), (4, .int (nI i)), (0, .ref b), (1, .ref (ad 0)), (2, .ref (ma 0)), (3, .ref oa)]) hx hb d_LW_law_1008 hl (by decide) rfl (fun ls hl => ?_)
      refine lv_aload_n hx hb d_LW_law_1010 rfl (lv_at hl 4 rfl) ?_
      refine lv_aload_n hx hb d_LW_law_1011 rfl (lv_at hl 2 rfl) ?_
      refine lv_iload hx hb d_LW_law_1012 (lv_at hl 1 rfl) ?_
      refine lv_iconst (v := nI 1) hx hb d_LW_law_1014 (by decide) ?_
      refine rn_add hx hb d_LW_law_1015 ?_
      refine rl_s hx hb hX hbl hbA hS (by omega) (by omega) hx1 d_LW_law_1016 ?_
      have hP : va_P g.1 cl (MW g ma cd rg hd (nF oo) (nF kp) (nI td) (nF tx) ct fd os oq vs sk ++ ((oa, aJ g 1 ou) :: (CW g ad rg hd (nF od) (nF tx) (nI td) sm pa pr fl op du qa ab ac qb be bc wd ++ []))) H := wp_perm (pm_ab _ _ _) hP
      have hD : va_D (gA g) (MW g ma cd rg hd (nF oo) (nF kp) (nI td) (nF tx) ct fd os oq vs sk ++ ((oa, aJ g 1 ou) :: (CW g ad rg hd (nF od) (nF tx) (nI td) sm pa pr fl op du qa ab ac qb be bc wd ++ []))) := wd_perm (pm_ab _ _ _) hD
      refine pc_Vi (q0 := 0) (As := [.int (nI k1)]) (rest := []) hx hb (hml.trans hl.1.symm) hown ht F hP hD hS (c2_MD_least l g ma cd rg hd (nF oo) (nF kp) (nI td) (nF tx) ct fd os oq vs sk ((oa, aJ g 1 ou) :: (CW g ad rg hd (nF od) (nF tx) (nI td) sm pa pr fl op du qa ab ac qb be bc wd ++ [])) k1 (by first | omega | exact q1 | exact q2 | exact q2.1 | exact q2.2 | exact q2.2.1 | exact q2.2.2 | exact I9.1.1 | exact I9.2.2.2.2 | exact I9.oo.1 | exact I9.oo | exact I9.2.2.2.1 | exact I9.2.2.1 | exact I9.2.2.2.2 _ (by omega) | exact (I9.2.2.2.2 _ (by omega)).resolve_right q2) (by first | omega | exact q1 | exact q2 | exact q2.1 | exact q2.2 | exact q2.2.1 | exact q2.2.2 | exact I9.1.1 | exact I9.2.2.2.2 | exact I9.oo.1 | exact I9.oo | exact I9.2.2.2.1 | exact I9.2.2.1 | exact I9.2.2.2.2 _ (by omega) | exact (I9.2.2.2.2 _ (by omega)).resolve_right q2)) v_MD_least tw_605 ⟨rfl, rfl⟩ ⟨by decide, by decide⟩ rfl rfl rfl rfl (Nat.le_of_ble_eq_true rfl) ⟨hc1, hs1⟩ d_LW_law_1017 (fun r9 u9 H locs hq hP hD hS => ?_)
      subst hq
      have hP : va_P g.1 cl (MW g ma (nI 2) rg hd (nF oo) (nF kp) (nI td) (nF tx) ct fd os oq vs sk ++ ((oa, aJ g 1 ou) :: (CW g ad rg hd (nF od) (nF tx) (nI td) sm pa pr fl op du qa ab ac qb be bc wd ++ []))) H := hP
      have hD : va_D (gA g) (MW g ma (nI 2) rg hd (nF oo) (nF kp) (nI td) (nF tx) ct fd os oq vs sk ++ ((oa, aJ g 1 ou) :: (CW g ad rg hd (nF od) (nF tx) (nI td) sm pa pr fl op du qa ab ac qb be bc wd ++ []))) := hD
      refine lv_istore (lv' := [(6, .int (nI 0)), (5, .int (nI 2)), (4, .int (nI i)), (0, .ref b), (1, .ref (ad 0)), (2, .ref (ma 0)), (3, .ref oa)]) hx hb d_LW_law_1020 hl (by decide) rfl (fun ls hl => ?_)
      refine lv_aload_n hx hb d_LW_law_1022 rfl (lv_at hl 5 rfl) ?_
      refine pc_Vi (q0 := 0) (As := []) (rest := []) hx hb (hml.trans hl.1.symm) hown ht F hP hD hS (c_MD_thrown l g ma (nI 2) rg hd (nF oo) (nF kp) (nI td) (nF tx) ct fd os oq vs sk ((oa, aJ g 1 ou) :: (CW g ad rg hd (nF od) (nF tx) (nI td) sm pa pr fl op du qa ab ac qb be bc wd ++ []))) v_MD_thrown tw_510 ⟨rfl, rfl⟩ ⟨by decide, by decide⟩ rfl rfl rfl rfl (Nat.le_of_ble_eq_true rfl) ⟨hc1, hs1⟩ d_LW_law_1023 (fun r9 u9 H locs hq hP hD hS => ?_)
      subst hq
      refine lv_iload hx hb d_LW_law_1026 (lv_at hl 1 rfl) ?_
      refine rc_eq (tgt := 1033) hx hb (by omega) (by omega) d_LW_law_1028 (by decide) (fun c1028 => ?_) (fun c1028 => ?_)
      · refine lv_iload hx hb d_LW_law_1033 (lv_at hl 1 rfl) ?_
        refine rz_ne (tgt := 1050) hx hb (by omega) d_LW_law_1035 (by decide) (fun c1035 => ?_) (fun c1035 => ?_)
        · refine lv_goto (tgt := 1402) hx hb d_LW_law_1050 (by decide) ?_
          have hP : va_P g.1 cl (CW g ad rg hd (nF od) (nF tx) (nI td) sm pa pr fl op du qa ab ac qb be bc wd ++ ((oa, aJ g 1 ou) :: (MW g ma (nI 2) rg hd (nF oo) (nF kp) (nI td) (nF tx) ct fd os oq vs sk ++ []))) H := wp_perm (pm_ab _ _ _) hP
          have hD : va_D (gA g) (CW g ad rg hd (nF od) (nF tx) (nI td) sm pa pr fl op du qa ab ac qb be bc wd ++ ((oa, aJ g 1 ou) :: (MW g ma (nI 2) rg hd (nF oo) (nF kp) (nI td) (nF tx) ct fd os oq vs sk ++ []))) := wd_perm (pm_ab _ _ _) hD
          refine W.widen (k := cells + 1) (n := slots + 6) (by omega) (by omega) ?_
          exact kk H locs ls ⟨rg, hd, od, tx, td, sm, pa, pr, fl, op, du, qa, ab, ac, qb, be, bc, wd, ou, nI 2, oo, kp, ct, fd, os, oq, vs, sk, I9, hP, hD⟩ hS (lv_sub hl [2, 3, 4, 5, 6] rfl)
        · exact (by omega : False).elim
      · exact (by omega : False).elim
  · refine lv_aload_n hx hb d_LW_law_997 rfl (lv_at hl 2 rfl) ?_
    refine lv_aload_n hx hb d_LW_law_998 rfl (lv_at hl 1 rfl) ?_
    refine lv_iload hx hb d_LW_law_999 (lv_at hl 0 rfl) ?_
    refine lv_iconst (v := nI 1) hx hb d_LW_law_1001 (by decide) ?_
    refine rn_add hx hb d_LW_law_1002 ?_
    refine rl_s hx hb hX hbl hbA hS (by omega) (by omega) hx1 d_LW_law_1003 ?_
    refine lv_aload_n hx hb d_LW_law_1004 rfl (lv_at hl 4 rfl) ?_
    refine pc_T (As := [.ref (ad 0), .int x1, .ref oa]) (rest := []) hx hb (hml.trans hl.1.symm) hown ht F hP hD hS (c1_LW_least l hl0 g ad oa rg hd (nF od) (nF tx) (nI td) sm pa pr fl op du qa ab ac qb be bc wd ou (MW g ma cd rg hd (nF oo) (nF kp) (nI td) (nF tx) ct fd os oq vs sk ++ []) x1 (by first | omega | exact q1 | exact q2 | exact q2.1 | exact q2.2 | exact q2.2.1 | exact q2.2.2 | exact I9.1.1 | exact I9.2.2.2.2 | exact I9.oo.1 | exact I9.oo | exact I9.2.2.2.1 | exact I9.2.2.1 | exact I9.2.2.2.2 _ (by omega) | exact (I9.2.2.2.2 _ (by omega)).resolve_right q2)) v_LW_least tw_394 ⟨rfl, rfl⟩ ⟨by decide, by decide⟩ rfl rfl (Nat.le_of_ble_eq_true rfl) ⟨hc1, hs1⟩ d_LW_law_1005 (fun r9 u9 H locs hq hP hD hS => ?_)
    subst hq
    refine lv_istore (lv' := [(5, .int (nI 1)), (4, .int (nI i)), (0, .ref b), (1, .ref (ad 0)), (2, .ref (ma 0)), (3, .ref oa)]) hx hb d_LW_law_1008 hl (by decide) rfl (fun ls hl => ?_)
    refine lv_aload_n hx hb d_LW_law_1010 rfl (lv_at hl 4 rfl) ?_
    refine lv_aload_n hx hb d_LW_law_1011 rfl (lv_at hl 2 rfl) ?_
    refine lv_iload hx hb d_LW_law_1012 (lv_at hl 1 rfl) ?_
    refine lv_iconst (v := nI 1) hx hb d_LW_law_1014 (by decide) ?_
    refine rn_add hx hb d_LW_law_1015 ?_
    refine rl_s hx hb hX hbl hbA hS (by omega) (by omega) hx1 d_LW_law_1016 ?_
    have hP : va_P g.1 cl (MW g ma cd rg hd (nF oo) (nF kp) (nI td) (nF tx) ct fd os oq vs sk ++ ((oa, aJ g 1 ou) :: (CW g ad rg hd (nF od) (nF tx) (nI td) sm pa pr fl op du qa ab ac qb be bc wd ++ []))) H := wp_perm (pm_ab _ _ _) hP
    have hD : va_D (gA g) (MW g ma cd rg hd (nF oo) (nF kp) (nI td) (nF tx) ct fd os oq vs sk ++ ((oa, aJ g 1 ou) :: (CW g ad rg hd (nF od) (nF tx) (nI td) sm pa pr fl op du qa ab ac qb be bc wd ++ []))) := wd_perm (pm_ab _ _ _) hD
    refine pc_Vi (q0 := 0) (As := [.int x1]) (rest := []) hx hb (hml.trans hl.1.symm) hown ht F hP hD hS (c1_MD_least l g ma cd rg hd (nF oo) (nF kp) (nI td) (nF tx) ct fd os oq vs sk ((oa, aJ g 1 ou) :: (CW g ad rg hd (nF od) (nF tx) (nI td) sm pa pr fl op du qa ab ac qb be bc wd ++ [])) x1 (by first | omega | exact q1 | exact q2 | exact q2.1 | exact q2.2 | exact q2.2.1 | exact q2.2.2 | exact I9.1.1 | exact I9.2.2.2.2 | exact I9.oo.1 | exact I9.oo | exact I9.2.2.2.1 | exact I9.2.2.1 | exact I9.2.2.2.2 _ (by omega) | exact (I9.2.2.2.2 _ (by omega)).resolve_right q2)) v_MD_least tw_605 ⟨rfl, rfl⟩ ⟨by decide, by decide⟩ rfl rfl rfl rfl (Nat.le_of_ble_eq_true rfl) ⟨hc1, hs1⟩ d_LW_law_1017 (fun r9 u9 H locs hq hP hD hS => ?_)
    subst hq
    have hP : va_P g.1 cl (MW g ma (nI 1) rg hd (nF oo) (nF kp) (nI td) (nF tx) ct fd os oq vs sk ++ ((oa, aJ g 1 ou) :: (CW g ad rg hd (nF od) (nF tx) (nI td) sm pa pr fl op du qa ab ac qb be bc wd ++ []))) H := hP
    have hD : va_D (gA g) (MW g ma (nI 1) rg hd (nF oo) (nF kp) (nI td) (nF tx) ct fd os oq vs sk ++ ((oa, aJ g 1 ou) :: (CW g ad rg hd (nF od) (nF tx) (nI td) sm pa pr fl op du qa ab ac qb be bc wd ++ []))) := hD
    refine lv_istore (lv' := [(6, .int (nI 0)), (5, .int (nI 1)), (4, .int (nI i)), (0, .ref b), (1, .ref (ad 0)), (2, .ref (ma 0)), (3, .ref oa)]) hx hb d_LW_law_1020 hl (by decide) rfl (fun ls hl => ?_)
    refine lv_aload_n hx hb d_LW_law_1022 rfl (lv_at hl 5 rfl) ?_
    refine pc_Vi (q0 := 0) (As := []) (rest := []) hx hb (hml.trans hl.1.symm) hown ht F hP hD hS (c_MD_thrown l g ma (nI 1) rg hd (nF oo) (nF kp) (nI td) (nF tx) ct fd os oq vs sk ((oa, aJ g 1 ou) :: (CW g ad rg hd (nF od) (nF tx) (nI td) sm pa pr fl op du qa ab ac qb be bc wd ++ []))) v_MD_thrown tw_510 ⟨rfl, rfl⟩ ⟨by decide, by decide⟩ rfl rfl rfl rfl (Nat.le_of_ble_eq_true rfl) ⟨hc1, hs1⟩ d_LW_law_1023 (fun r9 u9 H locs hq hP hD hS => ?_)
    subst hq
    refine lv_iload hx hb d_LW_law_1026 (lv_at hl 1 rfl) ?_
    refine rc_eq (tgt := 1033) hx hb (by omega) (by omega) d_LW_law_1028 (by decide) (fun c1028 => ?_) (fun c1028 => ?_)
    · refine lv_iload hx hb d_LW_law_1033 (lv_at hl 1 rfl) ?_
      refine rz_ne (tgt := 1050) hx hb (by omega) d_LW_law_1035 (by decide) (fun c1035 => ?_) (fun c1035 => ?_)
      · refine lv_goto (tgt := 1402) hx hb d_LW_law_1050 (by decide) ?_
        have hP : va_P g.1 cl (CW g ad rg hd (nF od) (nF tx) (nI td) sm pa pr fl op du qa ab ac qb be bc wd ++ ((oa, aJ g 1 ou) :: (MW g ma (nI 1) rg hd (nF oo) (nF kp) (nI td) (nF tx) ct fd os oq vs sk ++ []))) H := wp_perm (pm_ab _ _ _) hP
        have hD : va_D (gA g) (CW g ad rg hd (nF od) (nF tx) (nI td) sm pa pr fl op du qa ab ac qb be bc wd ++ ((oa, aJ g 1 ou) :: (MW g ma (nI 1) rg hd (nF oo) (nF kp) (nI td) (nF tx) ct fd os oq vs sk ++ []))) := wd_perm (pm_ab _ _ _) hD
        refine W.widen (k := cells + 1) (n := slots + 6) (by omega) (by omega) ?_
        exact kk H locs ls ⟨rg, hd, od, tx, td, sm, pa, pr, fl, op, du, qa, ab, ac, qb, be, bc, wd, ou, nI 1, oo, kp, ct, fd, os, oq, vs, sk, I9, hP, hD⟩ hS (lv_sub hl [2, 3, 4, 5, 6] rfl)
      · exact (by omega : False).elim
    · exact (by omega : False).elim
set_option maxRecDepth 100000 in
set_option maxHeartbeats 4000000 in
theorem st_support {p : Program} {l : Launch} {e : Env} {s : State} {m : MethodId} {below : List Frame} {meth : Method} {c : Code} (hl0 : l.stackTraces = false) {g : Gx} {ad ma : Nat → Nat} {oa b L i : Nat} {xs : Nat → Int32} {x1 x2 x3 x4 : Int32} (hx : p.tables.exec = Jvm.exec) (hb : c.code = b_LW_law) (hml : c.maxLocals = 7) (hown : s.vm.findClass "SiftedGraphsLaw" = some m.cls) (ht : ∀ w ∈ TW, w.before #[Value.ref b] s = true) (F : Fx g s) (hX : va_X b L xs s s.heap) (hbl : b < s.heap.size) (hbA : ¬ gA g b) (hL : L ≤ 2560) (hi : i + 4 < L) (hx1 : xs (i + 1) = x1) (hx2 : xs (i + 2) = x2) (hx3 : xs (i + 3) = x3) (hx4 : xs (i + 4) = x4) {rg : Nat → Int64} {hd : Nat → Int32} {od : Nat → Nat} {tx : Nat → Nat} {td : Nat} {sm : Nat → Int64} {pa : Nat → Int64} {pr : Nat → Int64} {fl : Nat → Int64} {op : Int32} {du : Int32} {qa : Nat} {ab : Nat → Int64} {ac : Int32} {qb : Nat} {be : Nat → Int64} {bc : Int32} {wd : Nat → Int32} {ou : Nat → Int64} {cd : Int32} {oo : Nat → Nat} {kp : Nat → Nat} {ct : Int32} {fd : Nat → Int64} {os : Int32} {oq : Nat → Int32} {vs : Int32} {sk : Nat → Int64} (I9 : INV od oo tx hd td) {H : Heap} {locs : List Loc} {ls : Array Slot} (hP : va_P g.1 cl (CW g ad rg hd (nF od) (nF tx) (nI td) sm pa pr fl op du qa ab ac qb be bc wd ++ ((oa, aJ g 1 ou) :: (MW g ma cd rg hd (nF oo) (nF kp) (nI td) (nF tx) ct fd os oq vs sk ++ []))) H) (hD : va_D (gA g) (CW g ad rg hd (nF od) (nF tx) (nI td) sm pa pr fl op du qa ab ac qb be bc wd ++ ((oa, aJ g 1 ou) :: (MW g ma cd rg hd (nF oo) (nF kp) (nI td) (nF tx) ct fd os oq vs sk ++ [])))) (hS : va_S (gA g) s.heap H locs) (hl : lv_has ls 7 [(4, .int (nI i)), (0, .ref b), (1, .ref (ad 0)), (2, .ref (ma 0)), (3, .ref oa)]) {cells slots : Nat} (hc1 : cells + 1 ≤ room_1.cells) (hs1 : slots + 6 ≤ room_1.slots) {Q : State → Prop}
    (kk : ∀ (H : Heap) (locs : List Loc) (ls : Array Slot), LST g ad ma oa H → va_S (gA g) s.heap H locs → lv_has ls 7 [(4, .int (nI i)), (0, .ref b), (1, .ref (ad 0)), (2, .ref (ma 0)), (3, .ref oa)] → W p l e room_1 s m #[Value.ref b] below meth c H locs (cells + 1) (slots + 6) Q (F0 m 1402 ls [])) : W p l e room_1 s m #[Value.ref b] below meth c H locs cells slots Q (F0 m 1053 ls []) := by
  have hcA : cells ≤ room_1.cells := Nat.le_of_succ_le hc1
  have hsA : slots ≤ room_1.slots := Nat.le_trans (Nat.le_add_right _ _) hs1
  by_cases q1 : inR x1 8
  · obtain ⟨k1, g1, rfl⟩ := q1
    by_cases q2 : hd k1 = 1
    · refine lv_aload_n hx hb d_LW_law_1053 rfl (lv_at hl 2 rfl) ?_
      refine lv_aload_n hx hb d_LW_law_1054 rfl (lv_at hl 1 rfl) ?_
      refine lv_iload hx hb d_LW_law_1055 (lv_at hl 0 rfl) ?_
      refine lv_iconst (v := nI 1) hx hb d_LW_law_1057 (by decide) ?_
      refine rn_add hx hb d_LW_law_1058 ?_
      refine rl_s hx hb hX hbl hbA hS (by omega) (by omega) hx1 d_LW_law_1059 ?_
      refine lv_aload_n hx hb d_LW_law_1060 rfl (lv_at hl 4 rfl) ?_
      refine pc_T (As := [.ref (ad 0), .int (nI k1), .ref oa]) (rest := []) hx hb (hml.trans hl.1.symm) hown ht F hP hD hS (c_LW_support l g ad oa rg hd (nF od) (nF tx) (nI td) sm pa pr fl op du qa ab ac qb be bc wd ou (MW g ma cd rg hd (nF oo) (nF kp) (nI td) (nF tx) ct fd os oq vs sk ++ []) k1 (by first | omega | exact q1 | exact q2 | exact q2.1 | exact q2.2 | exact q2.2.1 | exact q2.2.2 | exact I9.1.1 | exact I9.2.2.2.2 | exact I9.oo.1 | exact I9.oo | exact I9.2.2.2.1 | exact I9.2.2.1 | exact I9.2.2.2.2 _ (by omega) | exact (I9.2.2.2.2 _ (by omega)).resolve_right q2) (by first | omega | exact q1 | exact q2 | exact q2.1 | exact q2.2 | exact q2.2.1 | exact q2.2.2 | exact I9.1.1 | exact I9.2.2.2.2 | exact I9.oo.1 | exact I9.oo | exact I9.2.2.2.1 | exact I9.2.2.1 | exact I9.2.2.2.2 _ (by omega) | exact (I9.2.2.2.2 _ (by omega)).resolve_right q2)) v_LW_support tw_401 ⟨rfl, rfl⟩ ⟨by decide, by decide⟩ rfl rfl (Nat.le_of_ble_eq_true rfl) ⟨hcA, hsA⟩ d_LW_law_1061 (fun r9 u9 H locs hq hP hD hS => ?_)
      subst hq
      have hP : va_P g.1 cl (CW g ad rg hd (nF od) (nF tx) (nI td) sm pa pr fl op du qa ab ac qb be bc wd ++ ((oa, aJ g 1 (vp_updL ou 0 ((spF (rg k1) 6).toInt64))) :: (MW g ma cd rg hd (nF oo) (nF kp) (nI td) (nF tx) ct fd os oq vs sk ++ []))) H := hP
      have hD : va_D (gA g) (CW g ad rg hd (nF od) (nF tx) (nI td) sm pa pr fl op du qa ab ac qb be bc wd ++ ((oa, aJ g 1 (vp_updL ou 0 ((spF (rg k1) 6).toInt64))) :: (MW g ma cd rg hd (nF oo) (nF kp) (nI td) (nF tx) ct fd os oq vs sk ++ []))) := hD
      refine lv_istore (lv' := [(5, .int (nI 0)), (4, .int (nI i)), (0, .ref b), (1, .ref (ad 0)), (2, .ref (ma 0)), (3, .ref oa)]) hx hb d_LW_law_1064 hl (by decide) rfl (fun ls hl => ?_)
      refine lv_aload_n hx hb d_LW_law_1066 rfl (lv_at hl 4 rfl) ?_
      refine lv_aload_n hx hb d_LW_law_1067 rfl (lv_at hl 2 rfl) ?_
      refine lv_iload hx hb d_LW_law_1068 (lv_at hl 1 rfl) ?_
      refine lv_iconst (v := nI 1) hx hb d_LW_law_1070 (by decide) ?_
      refine rn_add hx hb d_LW_law_1071 ?_
      refine rl_s hx hb hX hbl hbA hS (by omega) (by omega) hx1 d_LW_law_1072 ?_
      have hP : va_P g.1 cl (MW g ma cd rg hd (nF oo) (nF kp) (nI td) (nF tx) ct fd os oq vs sk ++ ((oa, aJ g 1 (vp_updL ou 0 ((spF (rg k1) 6).toInt64))) :: (CW g ad rg hd (nF od) (nF tx) (nI td) sm pa pr fl op du qa ab ac qb be bc wd ++ []))) H := wp_perm (pm_ab _ _ _) hP
      have hD : va_D (gA g) (MW g ma cd rg hd (nF oo) (nF kp) (nI td) (nF tx) ct fd os oq vs sk ++ ((oa, aJ g 1 (vp_updL ou 0 ((spF (rg k1) 6).toInt64))) :: (CW g ad rg hd (nF od) (nF tx) (nI td) sm pa pr fl op du qa ab ac qb be bc wd ++ []))) := wd_perm (pm_ab _ _ _) hD
      refine pc_Vi (q0 := 0) (As := [.int (nI k1)]) (rest := []) hx hb (hml.trans hl.1.symm) hown ht F hP hD hS (c_MD_support l g ma cd rg hd (nF oo) (nF kp) (nI td) (nF tx) ct fd os oq vs sk ((oa, aJ g 1 (vp_updL ou 0 ((spF (rg k1) 6).toInt64))) :: (CW g ad rg hd (nF od) (nF tx) (nI td) sm pa pr fl op du qa ab ac qb be bc wd ++ [])) k1 (by first | omega | exact q1 | exact q2 | exact q2.1 | exact q2.2 | exact q2.2.1 | exact q2.2.2 | exact I9.1.1 | exact I9.2.2.2.2 | exact I9.oo.1 | exact I9.oo | exact I9.2.2.2.1 | exact I9.2.2.1 | exact I9.2.2.2.2 _ (by omega) | exact (I9.2.2.2.2 _ (by omega)).resolve_right q2) (by first | omega | exact q1 | exact q2 | exact q2.1 | exact q2.2 | exact q2.2.1 | exact q2.2.2 | exact I9.1.1 | exact I9.2.2.2.2 | exact I9.oo.1 | exact I9.oo | exact I9.2.2.2.1 | exact I9.2.2.1 | exact I9.2.2.2.2 _ (by omega) | exact (I9.2.2.2.2 _ (by omega)).resolve_right q2)) v_MD_support tw_609 ⟨rfl, rfl⟩ ⟨by decide, by decide⟩ rfl rfl rfl rfl (Nat.le_of_ble_eq_true rfl) ⟨hcA, hsA⟩ d_LW_law_1073 (fun r9 u9 H locs hq hP hD hS => ?_)
      subst hq
      have hP : va_P g.1 cl (MW g ma (nI 0) rg hd (nF oo) (nF kp) (nI td) (nF tx) ct fd os oq vs sk ++ ((oa, aJ g 1 (vp_updL ou 0 ((spF (rg k1) 6).toInt64))) :: (CW g ad rg hd (nF od) (nF tx) (nI td) sm pa pr fl op du qa ab ac qb be bc wd ++ []))) H := hP
      have hD : va_D (gA g) (MW g ma (nI 0) rg hd (nF oo) (nF kp) (nI td) (nF tx) ct fd os oq vs sk ++ ((oa, aJ g 1 (vp_updL ou 0 ((spF (rg k1) 6).toInt64))) :: (CW g ad rg hd (nF od) (nF tx) (nI td) sm pa pr fl op du qa ab ac qb be bc wd ++ []))) := hD
      refine lv_istore (lv' := [(6, .int (spF (rg k1) 6)), (5, .int (nI 0)), (4, .int (nI i)), (0, .ref b), (1, .ref (ad 0)), (2, .ref (ma 0)), (3, .ref oa)]) hx hb d_LW_law_1076 hl (by decide) rfl (fun ls hl => ?_)
      refine lv_aload_n hx hb d_LW_law_1078 rfl (lv_at hl 5 rfl) ?_
      refine pc_Vi (q0 := 0) (As := []) (rest := []) hx hb (hml.trans hl.1.symm) hown ht F hP hD hS (c_MD_thrown l g ma (nI 0) rg hd (nF oo) (nF kp) (nI td) (nF tx) ct fd os oq vs sk ((oa, aJ g 1 (vp_updL ou 0 ((spF (rg k1) 6).toInt64))) :: (CW g ad rg hd (nF od) (nF tx) (nI td) sm pa pr fl op du qa ab ac qb be bc wd ++ []))) v_MD_thrown tw_510 ⟨rfl, rfl⟩ ⟨by decide, by decide⟩ rfl rfl rfl rfl (Nat.le_of_ble_eq_true rfl) ⟨hcA, hsA⟩ d_LW_law_1079 (fun r9 u9 H locs hq hP hD hS => ?_)
      subst hq
      refine lv_iload hx hb d_LW_law_1082 (lv_at hl 1 rfl) ?_
      refine rc_eq (tgt := 1089) hx hb (by omega) (by omega) d_LW_law_1084 (by decide) (fun c1084 => ?_) (fun c1084 => ?_)
      · refine lv_iload hx hb d_LW_law_1089 (lv_at hl 1 rfl) ?_
        refine rz_ne (tgt := 1106) hx hb (by omega) d_LW_law_1091 (by decide) (fun c1091 => ?_) (fun c1091 => ?_)
        · exact (by omega : False).elim
        · refine lv_aload_n hx hb d_LW_law_1094 rfl (lv_at hl 6 rfl) ?_
          refine lv_iconst (v := nI 0) hx hb d_LW_law_1095 (by decide) ?_
          refine ra_J hx hb F hP 9 rfl (by omega) (by decide) d_LW_law_1096 ?_
          refine lv_iload hx hb d_LW_law_1097 (lv_at hl 0 rfl) ?_
          refine lv_i2l hx hb d_LW_law_1099 rfl ?_
          refine W.lcmp hx hb d_LW_law_1100 ?_
          refine lv_if_eq (tgt := 1106) hx hb d_LW_law_1101 (by decide) (fun c1101 => ?_) (fun c1101 => ?_)
          · refine lv_goto (tgt := 1402) hx hb d_LW_law_1106 (by decide) ?_
            have hP : va_P g.1 cl (CW g ad rg hd (nF od) (nF tx) (nI td) sm pa pr fl op du qa ab ac qb be bc wd ++ ((oa, aJ g 1 (vp_updL ou 0 ((spF (rg k1) 6).toInt64))) :: (MW g ma (nI 0) rg hd (nF oo) (nF kp) (nI td) (nF tx) ct fd os oq vs sk ++ []))) H := wp_perm (pm_ab _ _ _) hP
            have hD : va_D (gA g) (CW g ad rg hd (nF od) (nF tx) (nI td) sm pa pr fl op du qa ab ac qb be bc wd ++ ((oa, aJ g 1 (vp_updL ou 0 ((spF (rg k1) 6).toInt64))) :: (MW g ma (nI 0) rg hd (nF oo) (nF kp) (nI td) (nF tx) ct fd os oq vs sk ++ []))) := wd_perm (pm_ab _ _ _) hD
            refine W.widen (k := cells + 1) (n := slots + 6) (by omega) (by omega) ?_
            exact kk H locs ls ⟨rg, hd, od, tx, td, sm, pa, pr, fl, op, du, qa, ab, ac, qb, be, bc, wd, vp_updL ou 0 ((spF (rg k1) 6).toInt64), nI 0, oo, kp, ct, fd, os, oq, vs, sk, I9, hP, hD⟩ hS (lv_sub hl [2, 3, 4, 5, 6] rfl)
          · exact absurd ((lg_cmp_eq _ _).mpr (uL_s _ _ _)) c1101
      · exact (by omega : False).elim
    · refine lv_aload_n hx hb d_LW_law_1053 rfl (lv_at hl 2 rfl) ?_
      refine lv_aload_n hx hb d_LW_law_1054 rfl (lv_at hl 1 rfl) ?_
      refine lv_iload hx hb d_LW_law_1055 (lv_at hl 0 rfl) ?_
      refine lv_iconst (v := nI 1) hx hb d_LW_law_1057 (by decide) ?_
      refine rn_add hx hb d_LW_law_1058 ?_
      refine rl_s hx hb hX hbl hbA hS (by omega) (by omega) hx1 d_LW_law_1059 ?_
      refine lv_aload_n hx hb d_LW_law_1060 rfl (lv_at hl 4 rfl) ?_
      refine pc_T (As := [.ref (ad 0), .int (nI k1), .ref oa]) (rest := []) hx hb (hml.trans hl.1.symm) hown ht F hP hD hS (c2_LW_support l hl0 g ad oa rg hd (nF od) (nF tx) (nI td) sm pa pr fl op du qa ab ac qb be bc wd ou (MW g ma cd rg hd (nF oo) (nF kp) (nI td) (nF tx) ct fd os oq vs sk ++ []) k1 (by first | omega | exact q1 | exact q2 | exact q2.1 | exact q2.2 | exact q2.2.1 | exact q2.2.2 | exact I9.1.1 | exact I9.2.2.2.2 | exact I9.oo.1 | exact I9.oo | exact I9.2.2.2.1 | exact I9.2.2.1 | exact I9.2.2.2.2 _ (by omega) | exact (I9.2.2.2.2 _ (by omega)).resolve_right q2) (by first | omega | exact q1 | exact q2 | exact q2.1 | exact q2.2 | exact q2.2.1 | exact q2.2.2 | exact I9.1.1 | exact I9.2.2.2.2 | exact I9.oo.1 | exact I9.oo | exact I9.2.2.2.1 | exact I9.2.2.1 | exact I9.2.2.2.2 _ (by omega) | exact (I9.2.2.2.2 _ (by omega)).resolve_right q2) (by first | omega | exact q1 | exact q2 | exact q2.1 | exact q2.2 | exact q2.2.1 | exact q2.2.2 | exact I9.1.1 | exact I9.2.2.2.2 | exact I9.oo.1 | exact I9.oo | exact I9.2.2.2.1 | exact I9.2.2.1 | exact I9.2.2.2.2 _ (by omega) | exact (I9.2.2.2.2 _ (by omega)).resolve_right q2)) v_LW_support tw_401 ⟨rfl, rfl⟩ ⟨by decide, by decide⟩ rfl rfl (Nat.le_of_ble_eq_true rfl) ⟨hc1, hs1⟩ d_LW_law_1061 (fun r9 u9 H locs hq hP hD hS => ?_)
      subst hq
      refine lv_istore (lv' := [(5, .int (nI 2)), (4, .int (nI i)), (0, .ref b), (1, .ref (ad 0)), (2, .ref (ma 0)), (3, .ref oa)]) hx hb d_LW_law_1064 hl (by decide) rfl (fun ls hl => ?_)
      refine lv_aload_n hx hb d_LW_law_1066 rfl (lv_at hl 4 rfl) ?_
      refine lv_aload_n hx hb d_LW_law_1067 rfl (lv_at hl 2 rfl) ?_
      refine lv_iload hx hb d_LW_law_1068 (lv_at hl 1 rfl) ?_
      refine lv_iconst (v := nI 1) hx hb d_LW_law_1070 (by decide) ?_
      refine rn_add hx hb d_LW_law_1071 ?_
      refine rl_s hx hb hX hbl hbA hS (by omega) (by omega) hx1 d_LW_law_1072 ?_
      have hP : va_P g.1 cl (MW g ma cd rg hd (nF oo) (nF kp) (nI td) (nF tx) ct fd os oq vs sk ++ ((oa, aJ g 1 ou) :: (CW g ad rg hd (nF od) (nF tx) (nI td) sm pa pr fl op du qa ab ac qb be bc wd ++ []))) H := wp_perm (pm_ab _ _ _) hP
      have hD : va_D (gA g) (MW g ma cd rg hd (nF oo) (nF kp) (nI td) (nF tx) ct fd os oq vs sk ++ ((oa, aJ g 1 ou) :: (CW g ad rg hd (nF od) (nF tx) (nI td) sm pa pr fl op du qa ab ac qb be bc wd ++ []))) := wd_perm (pm_ab _ _ _) hD
      refine pc_Vi (q0 := 0) (As := [.int (nI k1)]) (rest := []) hx hb (hml.trans hl.1.symm) hown ht F hP hD hS (c2_MD_support l g ma cd rg hd (nF oo) (nF kp) (nI td) (nF tx) ct fd os oq vs sk ((oa, aJ g 1 ou) :: (CW g ad rg hd (nF od) (nF tx) (nI td) sm pa pr fl op du qa ab ac qb be bc wd ++ [])) k1 (by first | omega | exact q1 | exact q2 | exact q2.1 | exact q2.2 | exact q2.2.1 | exact q2.2.2 | exact I9.1.1 | exact I9.2.2.2.2 | exact I9.oo.1 | exact I9.oo | exact I9.2.2.2.1 | exact I9.2.2.1 | exact I9.2.2.2.2 _ (by omega) | exact (I9.2.2.2.2 _ (by omega)).resolve_right q2) (by first | omega | exact q1 | exact q2 | exact q2.1 | exact q2.2 | exact q2.2.1 | exact q2.2.2 | exact I9.1.1 | exact I9.2.2.2.2 | exact I9.oo.1 | exact I9.oo | exact I9.2.2.2.1 | exact I9.2.2.1 | exact I9.2.2.2.2 _ (by omega) | exact (I9.2.2.2.2 _ (by omega)).resolve_right q2)) v_MD_support tw_609 ⟨rfl, rfl⟩ ⟨by decide, by decide⟩ rfl rfl rfl rfl (Nat.le_of_ble_eq_true rfl) ⟨hc1, hs1⟩ d_LW_law_1073 (fun r9 u9 H locs hq hP hD hS => ?_)
      subst hq
      have hP : va_P g.1 cl (MW g ma (nI 2) rg hd (nF oo) (nF kp) (nI td) (nF tx) ct fd os oq vs sk ++ ((oa, aJ g 1 ou) :: (CW g ad rg hd (nF od) (nF tx) (nI td) sm pa pr fl op du qa ab ac qb be bc wd ++ []))) H := hP
      have hD : va_D (gA g) (MW g ma (nI 2) rg hd (nF oo) (nF kp) (nI td) (nF tx) ct fd os oq vs sk ++ ((oa, aJ g 1 ou) :: (CW g ad rg hd (nF od) (nF tx) (nI td) sm pa pr fl op du qa ab ac qb be bc wd ++ []))) := hD
      refine lv_istore (lv' := [(6, .int (nI 0)), (5, .int (nI 2)), (4, .int (nI i)), (0, .ref b), (1, .ref (ad 0)), (2, .ref (ma 0)), (3, .ref oa)]) hx hb d_LW_law_1076 hl (by decide) rfl (fun ls hl => ?_)
      refine lv_aload_n hx hb d_LW_law_1078 rfl (lv_at hl 5 rfl) ?_
      refine pc_Vi (q0 := 0) (As := []) (rest := []) hx hb (hml.trans hl.1.symm) hown ht F hP hD hS (c_MD_thrown l g ma (nI 2) rg hd (nF oo) (nF kp) (nI td) (nF tx) ct fd os oq vs sk ((oa, aJ g 1 ou) :: (CW g ad rg hd (nF od) (nF tx) (nI td) sm pa pr fl op du qa ab ac qb be bc wd ++ []))) v_MD_thrown tw_510 ⟨rfl, rfl⟩ ⟨by decide, by decide⟩ rfl rfl rfl rfl (Nat.le_of_ble_eq_true rfl) ⟨hc1, hs1⟩ d_LW_law_1079 (fun r9 u9 H locs hq hP hD hS => ?_)
      subst hq
      refine lv_iload hx hb d_LW_law_1082 (lv_at hl 1 rfl) ?_
      refine rc_eq (tgt := 1089) hx hb (by omega) (by omega) d_LW_law_1084 (by decide) (fun c1084 => ?_) (fun c1084 => ?_)
      · refine lv_iload hx hb d_LW_law_1089 (lv_at hl 1 rfl) ?_
        refine rz_ne (tgt := 1106) hx hb (by omega) d_LW_law_1091 (by decide) (fun c1091 => ?_) (fun c1091 => ?_)
        · refine lv_goto (tgt := 1402) hx hb d_LW_law_1106 (by decide) ?_
          have hP : va_P g.1 cl (CW g ad rg hd (nF od) (nF tx) (nI td) sm pa pr fl op du qa ab ac qb be bc wd ++ ((oa, aJ g 1 ou) :: (MW g ma (nI 2) rg hd (nF oo) (nF kp) (nI td) (nF tx) ct fd os oq vs sk ++ []))) H := wp_perm (pm_ab _ _ _) hP
          have hD : va_D (gA g) (CW g ad rg hd (nF od) (nF tx) (nI td) sm pa pr fl op du qa ab ac qb be bc wd ++ ((oa, aJ g 1 ou) :: (MW g ma (nI 2) rg hd (nF oo) (nF kp) (nI td) (nF tx) ct fd os oq vs sk ++ []))) := wd_perm (pm_ab _ _ _) hD
          refine W.widen (k := cells + 1) (n := slots + 6) (by omega) (by omega) ?_
          exact kk H locs ls ⟨rg, hd, od, tx, td, sm, pa, pr, fl, op, du, qa, ab, ac, qb, be, bc, wd, ou, nI 2, oo, kp, ct, fd, os, oq, vs, sk, I9, hP, hD⟩ hS (lv_sub hl [2, 3, 4, 5, 6] rfl)
        · exact (by omega : False).elim
      · exact (by omega : False).elim
  · refine lv_aload_n hx hb d_LW_law_1053 rfl (lv_at hl 2 rfl) ?_
    refine lv_aload_n hx hb d_LW_law_1054 rfl (lv_at hl 1 rfl) ?_
    refine lv_iload hx hb d_LW_law_1055 (lv_at hl 0 rfl) ?_
    refine lv_iconst (v := nI 1) hx hb d_LW_law_1057 (by decide) ?_
    refine rn_add hx hb d_LW_law_1058 ?_
    refine rl_s hx hb hX hbl hbA hS (by omega) (by omega) hx1 d_LW_law_1059 ?_
    refine lv_aload_n hx hb d_LW_law_1060 rfl (lv_at hl 4 rfl) ?_
    refine pc_T (As := [.ref (ad 0), .int x1, .ref oa]) (rest := []) hx hb (hml.trans hl.1.symm) hown ht F hP hD hS (c1_LW_support l hl0 g ad oa rg hd (nF od) (nF tx) (nI td) sm pa pr fl op du qa ab ac qb be bc wd ou (MW g ma cd rg hd (nF oo) (nF kp) (nI td) (nF tx) ct fd os oq vs sk ++ []) x1 (by first | omega | exact q1 | exact q2 | exact q2.1 | exact q2.2 | exact q2.2.1 | exact q2.2.2 | exact I9.1.1 | exact I9.2.2.2.2 | exact I9.oo.1 | exact I9.oo | exact I9.2.2.2.1 | exact I9.2.2.1 | exact I9.2.2.2.2 _ (by omega) | exact (I9.2.2.2.2 _ (by omega)).resolve_right q2)) v_LW_support tw_401 ⟨rfl, rfl⟩ ⟨by decide, by decide⟩ rfl rfl (Nat.le_of_ble_eq_true rfl) ⟨hc1, hs1⟩ d_LW_law_1061 (fun r9 u9 H locs hq hP hD hS => ?_)
    subst hq
    refine lv_istore (lv' := [(5, .int (nI 1)), (4, .int (nI i)), (0, .ref b), (1, .ref (ad 0)), (2, .ref (ma 0)), (3, .ref oa)]) hx hb d_LW_law_1064 hl (by decide) rfl (fun ls hl => ?_)
    refine lv_aload_n hx hb d_LW_law_1066 rfl (lv_at hl 4 rfl) ?_
    refine lv_aload_n hx hb d_LW_law_1067 rfl (lv_at hl 2 rfl) ?_
    refine lv_iload hx hb d_LW_law_1068 (lv_at hl 1 rfl) ?_
    refine lv_iconst (v := nI 1) hx hb d_LW_law_1070 (by decide) ?_
    refine rn_add hx hb d_LW_law_1071 ?_
    refine rl_s hx hb hX hbl hbA hS (by omega) (by omega) hx1 d_LW_law_1072 ?_
    have hP : va_P g.1 cl (MW g ma cd rg hd (nF oo) (nF kp) (nI td) (nF tx) ct fd os oq vs sk ++ ((oa, aJ g 1 ou) :: (CW g ad rg hd (nF od) (nF tx) (nI td) sm pa pr fl op du qa ab ac qb be bc wd ++ []))) H := wp_perm (pm_ab _ _ _) hP
    have hD : va_D (gA g) (MW g ma cd rg hd (nF oo) (nF kp) (nI td) (nF tx) ct fd os oq vs sk ++ ((oa, aJ g 1 ou) :: (CW g ad rg hd (nF od) (nF tx) (nI td) sm pa pr fl op du qa ab ac qb be bc wd ++ []))) := wd_perm (pm_ab _ _ _) hD
    refine pc_Vi (q0 := 0) (As := [.int x1]) (rest := []) hx hb (hml.trans hl.1.symm) hown ht F hP hD hS (c1_MD_support l g ma cd rg hd (nF oo) (nF kp) (nI td) (nF tx) ct fd os oq vs sk ((oa, aJ g 1 ou) :: (CW g ad rg hd (nF od) (nF tx) (nI td) sm pa pr fl op du qa ab ac qb be bc wd ++ [])) x1 (by first | omega | exact q1 | exact q2 | exact q2.1 | exact q2.2 | exact q2.2.1 | exact q2.2.2 | exact I9.1.1 | exact I9.2.2.2.2 | exact I9.oo.1 | exact I9.oo | exact I9.2.2.2.1 | exact I9.2.2.1 | exact I9.2.2.2.2 _ (by omega) | exact (I9.2.2.2.2 _ (by omega)).resolve_right q2)) v_MD_support tw_609 ⟨rfl, rfl⟩ ⟨by decide, by decide⟩ rfl rfl rfl rfl (Nat.le_of_ble_eq_true rfl) ⟨hc1, hs1⟩ d_LW_law_1073 (fun r9 u9 H locs hq hP hD hS => ?_)
    subst hq
    have hP : va_P g.1 cl (MW g ma (nI 1) rg hd (nF oo) (nF kp) (nI td) (nF tx) ct fd os oq vs sk ++ ((oa, aJ g 1 ou) :: (CW g ad rg hd (nF od) (nF tx) (nI td) sm pa pr fl op du qa ab ac qb be bc wd ++ []))) H := hP
    have hD : va_D (gA g) (MW g ma (nI 1) rg hd (nF oo) (nF kp) (nI td) (nF tx) ct fd os oq vs sk ++ ((oa, aJ g 1 ou) :: (CW g ad rg hd (nF od) (nF tx) (nI td) sm pa pr fl op du qa ab ac qb be bc wd ++ []))) := hD
    refine lv_istore (lv' := [(6, .int (nI 0)), (5, .int (nI 1)), (4, .int (nI i)), (0, .ref b), (1, .ref (ad 0)), (2, .ref (ma 0)), (3, .ref oa)]) hx hb d_LW_law_1076 hl (by decide) rfl (fun ls hl => ?_)
    refine lv_aload_n hx hb d_LW_law_1078 rfl (lv_at hl 5 rfl) ?_
    refine pc_Vi (q0 := 0) (As := []) (rest := []) hx hb (hml.trans hl.1.symm) hown ht F hP hD hS (c_MD_thrown l g ma (nI 1) rg hd (nF oo) (nF kp) (nI td) (nF tx) ct fd os oq vs sk ((oa, aJ g 1 ou) :: (CW g ad rg hd (nF od) (nF tx) (nI td) sm pa pr fl op du qa ab ac qb be bc wd ++ []))) v_MD_thrown tw_510 ⟨rfl, rfl⟩ ⟨by decide, by decide⟩ rfl rfl rfl rfl (Nat.le_of_ble_eq_true rfl) ⟨hc1, hs1⟩ d_LW_law_1079 (fun r9 u9 H locs hq hP hD hS => ?_)
    subst hq
    refine lv_iload hx hb d_LW_law_1082 (lv_at hl 1 rfl) ?_
    refine rc_eq (tgt := 1089) hx hb (by omega) (by omega) d_LW_law_1084 (by decide) (fun c1084 => ?_) (fun c1084 => ?_)
    · refine lv_iload hx hb d_LW_law_1089 (lv_at hl 1 rfl) ?_
      refine rz_ne (tgt := 1106) hx hb (by omega) d_LW_law_1091 (by decide) (fun c1091 => ?_) (fun c1091 => ?_)
      · refine lv_goto (tgt := 1402) hx hb d_LW_law_1106 (by decide) ?_
        have hP : va_P g.1 cl (CW g ad rg hd (nF od) (nF tx) (nI td) sm pa pr fl op du qa ab ac qb be bc wd ++ ((oa, aJ g 1 ou) :: (MW g ma (nI 1) rg hd (nF oo) (nF kp) (nI td) (nF tx) ct fd os oq vs sk ++ []))) H := wp_perm (pm_ab _ _ _) hP
        have hD : va_D (gA g) (CW g ad rg hd (nF od) (nF tx) (nI td) sm pa pr fl op du qa ab ac qb be bc wd ++ ((oa, aJ g 1 ou) :: (MW g ma (nI 1) rg hd (nF oo) (nF kp) (nI td) (nF tx) ct fd os oq vs sk ++ []))) := wd_perm (pm_ab _ _ _) hD
        refine W.widen (k := cells + 1) (n := slots + 6) (by omega) (by omega) ?_
        exact kk H locs ls ⟨rg, hd, od, tx, td, sm, pa, pr, fl, op, du, qa, ab, ac, qb, be, bc, wd, ou, nI 1, oo, kp, ct, fd, os, oq, vs, sk, I9, hP, hD⟩ hS (lv_sub hl [2, 3, 4, 5, 6] rfl)
      · exact (by omega : False).elim
    · exact (by omega : False).elim
