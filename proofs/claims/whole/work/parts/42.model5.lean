theorem bm_5 {kp : Nat → Nat} {p : Nat} {oo : Nat → Nat} {rg : Nat → Int64} {hd : Nat → Int32} : (bmF kp p oo rg hd 6).1 < 6 := by
  have h := (bm_le (kp := kp) (p := p) (oo := oo) (rg := rg) (hd := hd) 5).1
  show (if alL (soF kp p oo 6) rg hd 6 < (bmF kp p oo rg hd 5).2 then (5, alL (soF kp p oo 6) rg hd 6) else bmF kp p oo rg hd 5).1 < 6
  split
  · show 5 < 6; decide
  · omega
set_option maxRecDepth 100000 in
set_option maxHeartbeats 4000000 in
theorem c_MD_arrange (l : Launch) (g : Gx) (ma : Nat → Nat) (cd : Int32) (tb : Nat → Int64) (hm : Nat → Int32) (td : Int32) (tt : Nat → Int32) (ct : Int32) (fd : Nat → Int64) (os : Int32) (oq : Nat → Int32) (vs : Int32) (sk : Nat → Int64) (X : va_W) (kp oo : Nat → Nat) (pq v lev : Nat) (hO : isO kp) (h2 : pq < 6) (h3 : lev < 6) (h4 : kp pq = v) (h6 : v < 6) : Met l y_MD_arrange (w_MD_arrange :: TW) rm_MD_arrange (va_Pc [.ref (ma 0), .int (nI v), .int (nI lev)] (PR g (MW g ma cd tb hm (nF oo) (nF kp) td tt ct fd os oq vs sk ++ X))) (va_Qv (fun (u9 : Unit) => True) (fun u9 t9 => PR g (MW g ma cd tb hm (nF (arF kp pq lev oo 6)) (nF kp) td tt ct fd os oq vs sk ++ X) t9) (gA g)) 0 0 (gA g) := by
  refine mt_of (by decide) (Nat.le_of_ble_eq_true rfl) ?_
  intro p e s m below meth c ls hx hb hr hml hlk hown ht hnm F hP hD hl
  have hl : lv_has ls 5 [(0, .ref (ma 0)), (1, .int (nI v)), (2, .int (nI lev))] := hl
  have hS : va_S (gA g) s.heap s.heap [] := va_S.rf
  refine lv_iconst (v := nI 0) hx hb d_MD_arrange_0 (by decide) ?_
  refine lv_istore_n (lv' := [(3, .int (nI 0)), (0, .ref (ma 0)), (1, .int (nI v)), (2, .int (nI lev))]) hx hb d_MD_arrange_1 rfl hl (by decide) rfl (fun ls hl => ?_)
  refine lv_iconst (v := nI 0) hx hb d_MD_arrange_2 (by decide) ?_
  refine lv_istore (lv' := [(4, .int (nI 0)), (3, .int (nI 0)), (0, .ref (ma 0)), (1, .int (nI v)), (2, .int (nI lev))]) hx hb d_MD_arrange_3 hl (by decide) rfl (fun ls hl => ?_)
  have lp5 : ∀ (j5 : Nat) (i : Nat) (H : Heap) (locs : List Loc) (ls : Array Slot), i + j5 = 6 → va_P g.1 cl (MW g ma cd tb hm (nF (arF kp pq lev oo i)) (nF kp) td tt ct fd os oq vs sk ++ X) H → va_D (gA g) (MW g ma cd tb hm (nF (arF kp pq lev oo i)) (nF kp) td tt ct fd os oq vs sk ++ X) → va_S (gA g) s.heap H locs → lv_has ls 5 [(4, .int (nI i)), (3, .int (nI (arN pq lev i))), (0, .ref (ma 0)), (1, .int (nI v)), (2, .int (nI lev))] → W p l e rm_MD_arrange s m [.ref (ma 0), .int (nI v), .int (nI lev)].toArray below meth c H locs 0 0 (MQ below (va_Qv (fun (u9 : Unit) => True) (fun u9 t9 => PR g (MW g ma cd tb hm (nF (arF kp pq lev oo 6)) (nF kp) td tt ct fd os oq vs sk ++ X) t9) (gA g)) [.ref (ma 0), .int (nI v), .int (nI lev)].toArray s 0 0 (gA g)) (F0 m 5 ls []) := by
    intro j5
    induction j5 with
    | zero =>
      intro i H locs ls hj5 hP hD hS hl
      refine lv_iload hx hb d_MD_arrange_5 (lv_at hl 0 rfl) ?_
      refine lv_bipush (v := nI 6) hx hb d_MD_arrange_7 (by decide) ?_
      refine rc_ge (tgt := 69) hx hb (by omega) (by omega) d_MD_arrange_9 (by decide) (fun c9 => ?_) (fun c9 => ?_)
      · have hP : va_P g.1 cl (MW g ma cd tb hm (nF (arF kp pq lev oo 6)) (nF kp) td tt ct fd os oq vs sk ++ X) H := by obtain rfl : i = 6 := (by omega); exact hP
        have hD : va_D (gA g) (MW g ma cd tb hm (nF (arF kp pq lev oo 6)) (nF kp) td tt ct fd os oq vs sk ++ X) := by obtain rfl : i = 6 := (by omega); exact hD
        exact W.vret hx hb hr (fun t9 e1 hW => ⟨⟨(), rfl, trivial, PR.at F hP hD hS e1 hW.alike⟩, hS.F e1⟩) hS.2.2 d_MD_arrange_69
      · exact (by omega : False).elim
    | succ j5 ih5 =>
      intro i H locs ls hj5 hP hD hS hl
      refine lv_iload hx hb d_MD_arrange_5 (lv_at hl 0 rfl) ?_
      refine lv_bipush (v := nI 6) hx hb d_MD_arrange_7 (by decide) ?_
      refine rc_ge (tgt := 69) hx hb (by omega) (by omega) d_MD_arrange_9 (by decide) (fun c9 => ?_) (fun c9 => ?_)
      · exact (by omega : False).elim
      · refine lv_iload hx hb d_MD_arrange_12 (lv_at hl 0 rfl) ?_
        refine lv_iload_n hx hb d_MD_arrange_14 rfl (lv_at hl 4 rfl) ?_
        refine rc_ne (tgt := 29) hx hb (by omega) (by omega) d_MD_arrange_15 (by decide) (fun c15 => ?_) (fun c15 => ?_)
        · refine lv_aload_n hx hb d_MD_arrange_29 rfl (lv_at hl 2 rfl) ?_
          refine va_get (ci := 4) (v := .ref (ma 4)) (C := R_MD) (T := T_MD) (N := 13) hx hb ht i_MD hown F.2.1 hP 0 rfl rfl 4 (by decide) (ht _ tw_474) (fun _ h9 => h9) rfl d_MD_arrange_30 ?_
          refine lv_iload_n hx hb d_MD_arrange_33 rfl (lv_at hl 1 rfl) ?_
          refine ra_I hx hb F hP 4 rfl ((ar_eq pq h2 lev h3 i (by omega)).resolve_left c15).1 (by decide) d_MD_arrange_34 ?_
          refine W.eq (g2 := F0 m 35 ls [.int (nI (kp (arN pq lev i)))]) rfl ?_
          refine lv_iload_n hx hb d_MD_arrange_35 rfl (lv_at hl 3 rfl) ?_
          refine rc_ne (tgt := 45) hx hb (Nat.lt_trans (hO.1 _ ((ar_eq pq h2 lev h3 i (by omega)).resolve_left c15).1) (by decide)) (by omega) d_MD_arrange_36 (by decide) (fun c36 => ?_) (fun c36 => ?_)
          · have n36 : ¬ arN pq lev i = pq := fun z => c36 (by rw [z]; exact h4)
            have x36 := ((ar_eq pq h2 lev h3 i (by omega)).resolve_left c15).2
            rw [if_neg n36] at x36
            refine lv_iload_n hx hb d_MD_arrange_45 rfl (lv_at hl 1 rfl) ?_
            refine lv_istore_n (lv' := [(3, .int (nI (arN pq lev i))), (4, .int (nI i)), (0, .ref (ma 0)), (1, .int (nI v)), (2, .int (nI lev))]) hx hb d_MD_arrange_46 rfl hl (by decide) rfl (fun ls hl => ?_)
            refine lv_aload_n hx hb d_MD_arrange_47 rfl (lv_at hl 2 rfl) ?_
            refine va_get (ci := 4) (v := .ref (ma 3)) (C := R_MD) (T := T_MD) (N := 13) hx hb ht i_MD hown F.2.1 hP 0 rfl rfl 3 (by decide) (ht _ tw_473) (fun _ h9 => h9) rfl d_MD_arrange_48 ?_
            refine lv_iload hx hb d_MD_arrange_51 (lv_at hl 1 rfl) ?_
            refine lv_aload_n hx hb d_MD_arrange_53 rfl (lv_at hl 2 rfl) ?_
            refine va_get (ci := 4) (v := .ref (ma 4)) (C := R_MD) (T := T_MD) (N := 13) hx hb ht i_MD hown F.2.1 hP 0 rfl rfl 4 (by decide) (ht _ tw_474) (fun _ h9 => h9) rfl d_MD_arrange_54 ?_
            refine lv_iload_n hx hb d_MD_arrange_57 rfl (lv_at hl 0 rfl) ?_
            refine ra_I hx hb F hP 4 rfl ((ar_eq pq h2 lev h3 i (by omega)).resolve_left c15).1 (by decide) d_MD_arrange_58 ?_
            refine W.eq (g2 := F0 m 59 ls [.int (nI (kp (arN pq lev i))), .int (nI i), .ref (ma 3)]) rfl ?_
            refine wa_I hx hb F hP hD hS 3 rfl (by omega) (by decide) d_MD_arrange_59 (fun H locs hP hD hS => ?_)
            have hP : va_P g.1 cl (MW g ma cd tb hm (upd (nF (arF kp pq lev oo i)) i (nI (kp (arN pq lev i)))) (nF kp) td tt ct fd os oq vs sk ++ X) H := hP
            have hD : va_D (gA g) (MW g ma cd tb hm (upd (nF (arF kp pq lev oo i)) i (nI (kp (arN pq lev i)))) (nF kp) td tt ct fd os oq vs sk ++ X) := hD
            rw [nF_upd] at hP hD
            have hP : va_P g.1 cl (MW g ma cd tb hm (nF (uN (arF kp pq lev oo i) i (kp (arN pq lev i)))) (nF kp) td tt ct fd os oq vs sk ++ X) H := hP
            have hD : va_D (gA g) (MW g ma cd tb hm (nF (uN (arF kp pq lev oo i) i (kp (arN pq lev i)))) (nF kp) td tt ct fd os oq vs sk ++ X) := hD
            refine lv_iinc (lv' := [(3, .int (nI (arN pq lev i + 1))), (4, .int (nI i)), (0, .ref (ma 0)), (1, .int (nI v)), (2, .int (nI lev))]) hx hb d_MD_arrange_60 hl (k := 0) rfl (nI_1 _) (by decide) rfl (fun ls hl => ?_)
            refine lv_iinc (lv' := [(4, .int (nI (i + 1))), (3, .int (nI (arN pq lev i + 1))), (0, .ref (ma 0)), (1, .int (nI v)), (2, .int (nI lev))]) hx hb d_MD_arrange_63 hl (k := 1) rfl (nI_1 _) (by decide) rfl (fun ls hl => ?_)
            refine lv_goto (tgt := 5) hx hb d_MD_arrange_66 (by decide) ?_
            have hl := lv_sub hl [0, 1, 2, 3, 4] rfl
            have hl : lv_has ls 5 [(4, .int (nI ((i + 1)))), (3, .int (nI (arN pq lev (i + 1)))), (0, .ref (ma 0)), (1, .int (nI v)), (2, .int (nI lev))] := by rw [x36.2]; exact hl
            have hP : va_P g.1 cl (MW g ma cd tb hm (nF (arF kp pq lev oo (i + 1))) (nF kp) td tt ct fd os oq vs sk ++ X) H := by rw [show arF kp pq lev oo (i + 1) = uN (arF kp pq lev oo i) i (kp (arN pq lev i)) by show uN (arF kp pq lev oo i) i (kp (mvP pq lev i)) = _; rw [x36.1]]; exact hP
            have hD : va_D (gA g) (MW g ma cd tb hm (nF (arF kp pq lev oo (i + 1))) (nF kp) td tt ct fd os oq vs sk ++ X) := by rw [show arF kp pq lev oo (i + 1) = uN (arF kp pq lev oo i) i (kp (arN pq lev i)) by show uN (arF kp pq lev oo i) i (kp (mvP pq lev i)) = _; rw [x36.1]]; exact hD
            exact ih5 (i + 1) H locs ls (by omega)  hP hD hS hl
          · have n36 : arN pq lev i = pq := hO.2 _ ((ar_eq pq h2 lev h3 i (by omega)).resolve_left c15).1 pq h2 (c36.trans h4.symm)
            have x36 := ((ar_eq pq h2 lev h3 i (by omega)).resolve_left c15).2
            rw [if_pos n36] at x36
            refine lv_iload_n hx hb d_MD_arrange_39 rfl (lv_at hl 1 rfl) ?_
            refine lv_iconst (v := nI 1) hx hb d_MD_arrange_40 (by decide) ?_
            refine rn_add hx hb d_MD_arrange_41 ?_
            refine lv_goto (tgt := 46) hx hb d_MD_arrange_42 (by decide) ?_
            refine lv_istore_n (lv' := [(3, .int (nI ((arN pq lev i) + 1))), (4, .int (nI i)), (0, .ref (ma 0)), (1, .int (nI v)), (2, .int (nI lev))]) hx hb d_MD_arrange_46 rfl hl (by decide) rfl (fun ls hl => ?_)
            refine lv_aload_n hx hb d_MD_arrange_47 rfl (lv_at hl 2 rfl) ?_
            refine va_get (ci := 4) (v := .ref (ma 3)) (C := R_MD) (T := T_MD) (N := 13) hx hb ht i_MD hown F.2.1 hP 0 rfl rfl 3 (by decide) (ht _ tw_473) (fun _ h9 => h9) rfl d_MD_arrange_48 ?_
            refine lv_iload hx hb d_MD_arrange_51 (lv_at hl 1 rfl) ?_
            refine lv_aload_n hx hb d_MD_arrange_53 rfl (lv_at hl 2 rfl) ?_
            refine va_get (ci := 4) (v := .ref (ma 4)) (C := R_MD) (T := T_MD) (N := 13) hx hb ht i_MD hown F.2.1 hP 0 rfl rfl 4 (by decide) (ht _ tw_474) (fun _ h9 => h9) rfl d_MD_arrange_54 ?_
            refine lv_iload_n hx hb d_MD_arrange_57 rfl (lv_at hl 0 rfl) ?_
            refine ra_I hx hb F hP 4 rfl x36.1 (by decide) d_MD_arrange_58 ?_
            refine W.eq (g2 := F0 m 59 ls [.int (nI (kp ((arN pq lev i) + 1))), .int (nI i), .ref (ma 3)]) rfl ?_
            refine wa_I hx hb F hP hD hS 3 rfl (by omega) (by decide) d_MD_arrange_59 (fun H locs hP hD hS => ?_)
            have hP : va_P g.1 cl (MW g ma cd tb hm (upd (nF (arF kp pq lev oo i)) i (nI (kp ((arN pq lev i) + 1)))) (nF kp) td tt ct fd os oq vs sk ++ X) H := hP
            have hD : va_D (gA g) (MW g ma cd tb hm (upd (nF (arF kp pq lev oo i)) i (nI (kp ((arN pq lev i) + 1)))) (nF kp) td tt ct fd os oq vs sk ++ X) := hD
            rw [nF_upd] at hP hD
            have hP : va_P g.1 cl (MW g ma cd tb hm (nF (uN (arF kp pq lev oo i) i (kp ((arN pq lev i) + 1)))) (nF kp) td tt ct fd os oq vs sk ++ X) H := hP
            have hD : va_D (gA g) (MW g ma cd tb hm (nF (uN (arF kp pq lev oo i) i (kp ((arN pq lev i) + 1)))) (nF kp) td tt ct fd os oq vs sk ++ X) := hD
            refine lv_iinc (lv' := [(3, .int (nI ((arN pq lev i) + 1 + 1))), (4, .int (nI i)), (0, .ref (ma 0)), (1, .int (nI v)), (2, .int (nI lev))]) hx hb d_MD_arrange_60 hl (k := 0) rfl (nI_1 _) (by decide) rfl (fun ls hl => ?_)
            refine lv_iinc (lv' := [(4, .int (nI (i + 1))), (3, .int (nI ((arN pq lev i) + 1 + 1))), (0, .ref (ma 0)), (1, .int (nI v)), (2, .int (nI lev))]) hx hb d_MD_arrange_63 hl (k := 1) rfl (nI_1 _) (by decide) rfl (fun ls hl => ?_)
            refine lv_goto (tgt := 5) hx hb d_MD_arrange_66 (by decide) ?_
            have hl := lv_sub hl [0, 1, 2, 3, 4] rfl
            have hl : lv_has ls 5 [(4, .int (nI ((i + 1)))), (3, .int (nI (arN pq lev (i + 1)))), (0, .ref (ma 0)), (1, .int (nI v)), (2, .int (nI lev))] := by rw [x36.2.2]; exact hl
            have hP : va_P g.1 cl (MW g ma cd tb hm (nF (arF kp pq lev oo (i + 1))) (nF kp) td tt ct fd os oq vs sk ++ X) H := by rw [show arF kp pq lev oo (i + 1) = uN (arF kp pq lev oo i) i (kp (arN pq lev i + 1)) by show uN (arF kp pq lev oo i) i (kp (mvP pq lev i)) = _; rw [x36.2.1]]; exact hP
            have hD : va_D (gA g) (MW g ma cd tb hm (nF (arF kp pq lev oo (i + 1))) (nF kp) td tt ct fd os oq vs sk ++ X) := by rw [show arF kp pq lev oo (i + 1) = uN (arF kp pq lev oo i) i (kp (arN pq lev i + 1)) by show uN (arF kp pq lev oo i) i (kp (mvP pq lev i)) = _; rw [x36.2.1]]; exact hD
            exact ih5 (i + 1) H locs ls (by omega)  hP hD hS hl
        · refine lv_aload_n hx hb d_MD_arrange_18 rfl (lv_at hl 2 rfl) ?_
          refine va_get (ci := 4) (v := .ref (ma 3)) (C := R_MD) (T := T_MD) (N := 13) hx hb ht i_MD hown F.2.1 hP 0 rfl rfl 3 (by decide) (ht _ tw_473) (fun _ h9 => h9) rfl d_MD_arrange_19 ?_
          refine lv_iload hx hb d_MD_arrange_22 (lv_at hl 0 rfl) ?_
          refine lv_iload_n hx hb d_MD_arrange_24 rfl (lv_at hl 3 rfl) ?_
          refine wa_I hx hb F hP hD hS 3 rfl (by omega) (by decide) d_MD_arrange_25 (fun H locs hP hD hS => ?_)
          have hP : va_P g.1 cl (MW g ma cd tb hm (upd (nF (arF kp pq lev oo i)) i (nI v)) (nF kp) td tt ct fd os oq vs sk ++ X) H := hP
          have hD : va_D (gA g) (MW g ma cd tb hm (upd (nF (arF kp pq lev oo i)) i (nI v)) (nF kp) td tt ct fd os oq vs sk ++ X) := hD
          rw [nF_upd] at hP hD
          have hP : va_P g.1 cl (MW g ma cd tb hm (nF (uN (arF kp pq lev oo i) i v)) (nF kp) td tt ct fd os oq vs sk ++ X) H := hP
          have hD : va_D (gA g) (MW g ma cd tb hm (nF (uN (arF kp pq lev oo i) i v)) (nF kp) td tt ct fd os oq vs sk ++ X) := hD
          refine lv_goto (tgt := 63) hx hb d_MD_arrange_26 (by decide) ?_
          refine lv_iinc (lv' := [(4, .int (nI (i + 1))), (3, .int (nI (arN pq lev i))), (0, .ref (ma 0)), (1, .int (nI v)), (2, .int (nI lev))]) hx hb d_MD_arrange_63 hl (k := 0) rfl (nI_1 _) (by decide) rfl (fun ls hl => ?_)
          refine lv_goto (tgt := 5) hx hb d_MD_arrange_66 (by decide) ?_
          have hl := lv_sub hl [0, 1, 2, 3, 4] rfl
          have hl : lv_has ls 5 [(4, .int (nI ((i + 1)))), (3, .int (nI (arN pq lev (i + 1)))), (0, .ref (ma 0)), (1, .int (nI v)), (2, .int (nI lev))] := by rw [show arN pq lev (i + 1) = arN pq lev i by rw [c15]; exact (ar_lv pq h2 lev h3).1]; exact hl
          have hP : va_P g.1 cl (MW g ma cd tb hm (nF (arF kp pq lev oo (i + 1))) (nF kp) td tt ct fd os oq vs sk ++ X) H := by rw [show arF kp pq lev oo (i + 1) = uN (arF kp pq lev oo i) i (v) by show uN (arF kp pq lev oo i) i (kp (mvP pq lev i)) = _; rw [show mvP pq lev i = pq by rw [c15]; exact (ar_lv pq h2 lev h3).2, h4]]; exact hP
          have hD : va_D (gA g) (MW g ma cd tb hm (nF (arF kp pq lev oo (i + 1))) (nF kp) td tt ct fd os oq vs sk ++ X) := by rw [show arF kp pq lev oo (i + 1) = uN (arF kp pq lev oo i) i (v) by show uN (arF kp pq lev oo i) i (kp (mvP pq lev i)) = _; rw [show mvP pq lev i = pq by rw [c15]; exact (ar_lv pq h2 lev h3).2, h4]]; exact hD
          exact ih5 (i + 1) H locs ls (by omega)  hP hD hS hl
  have hl := lv_sub hl [0, 1, 2, 3, 4] rfl
  have hl : lv_has ls 5 [(4, .int (nI 0)), (3, .int (nI (arN pq lev 0))), (0, .ref (ma 0)), (1, .int (nI v)), (2, .int (nI lev))] := by rw [ar_0 pq h2 lev h3]; exact hl
  have hP : va_P g.1 cl (MW g ma cd tb hm (nF (arF kp pq lev oo 0)) (nF kp) td tt ct fd os oq vs sk ++ X) s.heap := hP
  have hD : va_D (gA g) (MW g ma cd tb hm (nF (arF kp pq lev oo 0)) (nF kp) td tt ct fd os oq vs sk ++ X) := hD
  exact lp5 (6 - 0) 0 _ _ ls (by omega)  hP hD hS hl
set_option maxRecDepth 100000 in
set_option maxHeartbeats 4000000 in
theorem c_MD_sift (l : Launch) (g : Gx) (ma : Nat → Nat) (cd : Int32) (tb : Nat → Int64) (hm : Nat → Int32) (td : Int32) (tt : Nat → Int32) (ct : Int32) (fd : Nat → Int64) (os : Int32) (oq : Nat → Int32) (vs : Int32) (sk : Nat → Int64) (X : va_W) (kp oo : Nat → Nat) (v : Nat) (hO : isO oo) (h2 : v < 6) : Met l y_MD_sift (w_MD_sift :: TW) rm_MD_sift (va_Pc [.ref (ma 0), .int (nI v)] (PR g (MW g ma cd tb hm (nF oo) (nF kp) td tt ct fd os oq vs sk ++ X))) (va_Qi (fun r9 (u9 : (Int32) × (Nat → Int64)) => r9 = nI ((bmF (cpF kp oo 6) (fdL oo v 6) oo tb hm 6).1) ∧ (True)) (fun u9 t9 => PR g (MW g ma (nI 0) tb hm (nF (arF (cpF kp oo 6) (fdL oo v 6) ((bmF (cpF kp oo 6) (fdL oo v 6) oo tb hm 6).1) (soF (cpF kp oo 6) (fdL oo v 6) oo 6) 6)) (nF (cpF kp oo 6)) td tt u9.1 u9.2 os oq vs sk ++ X) t9) (gA g)) 0 0 (gA g) := by
  refine mt_of (by decide) (Nat.le_of_ble_eq_true rfl) ?_
  intro p e s m below meth c ls hx hb hr hml hlk hown ht hnm F hP hD hl
  have hl : lv_has ls 6 [(0, .ref (ma 0)), (1, .int (nI v))] := hl
  have hS : va_S (gA g) s.heap s.heap [] := va_S.rf
  refine lv_aload_n hx hb d_MD_sift_0 rfl (lv_at hl 0 rfl) ?_
  refine lv_iload_n hx hb d_MD_sift_1 rfl (lv_at hl 1 rfl) ?_
  refine lv_iconst (v := nI 0) hx hb d_MD_sift_2 (by decide) ?_
  refine lv_iconst (v := nI 5) hx hb d_MD_sift_3 (by decide) ?_
  refine pc_Si (As := [.int (nI v), .int (nI 0), .int (nI 5)]) (rest := [.ref (ma 0)]) hx hb (hml.trans hl.1.symm) hown ht F hP hD hS (c_MD_within l g (MW g ma cd tb hm (nF oo) (nF kp) td tt ct fd os oq vs sk ++ X) v 0 5 (by omega) (by omega) (by omega)) v_MD_within tw_521 ⟨rfl, rfl⟩ ⟨by decide, by decide⟩ rfl rfl (Nat.le_of_ble_eq_true rfl) ⟨Nat.zero_le _, Nat.zero_le _⟩ d_MD_sift_4 (fun r9 u9 H locs hq hP hD hS => ?_)
  subst hq
  refine rz_eq (tgt := 14) hx hb (by omega) d_MD_sift_7 (by decide) (fun c7 => ?_) (fun c7 => ?_)
  · exact (by omega : False).elim
  · refine lv_iconst (v := nI 0) hx hb d_MD_sift_10 (by decide) ?_
    refine lv_goto (tgt := 15) hx hb d_MD_sift_11 (by decide) ?_
    refine va_put (ci := 4) (v := .int (nI 0)) (ty := .int) (C := R_MD) (T := T_MD) (N := 13) hx hb ht i_MD t_MD t_MD_ok n_MD hown F.2.1 hP hD hS 0 rfl rfl 0 (by decide) (ht _ tw_470) (fun _ h9 => h9) rfl (by decide +kernel) rfl rfl (Nat.le_of_ble_eq_true rfl) d_MD_sift_15 (fun H locs hP hD hS => ?_)
    have hP : va_P g.1 cl (MW g ma (nI 0) tb hm (nF oo) (nF kp) td tt ct fd os oq vs sk ++ X) H := hP
    have hD : va_D (gA g) (MW g ma (nI 0) tb hm (nF oo) (nF kp) td tt ct fd os oq vs sk ++ X) := hD
    refine lv_aload_n hx hb d_MD_sift_18 rfl (lv_at hl 0 rfl) ?_
    refine va_get (ci := 4) (v := .int (nI 0)) (C := R_MD) (T := T_MD) (N := 13) hx hb ht i_MD hown F.2.1 hP 0 rfl rfl 0 (by decide) (ht _ tw_470) (fun _ h9 => h9) rfl d_MD_sift_19 ?_
    refine rz_le (tgt := 27) hx hb (by omega) d_MD_sift_22 (by decide) (fun c22 => ?_) (fun c22 => ?_)
    · refine lv_iconst (v := nI 0) hx hb d_MD_sift_27 (by decide) ?_
      refine lv_istore_n (lv' := [(2, .int (nI 0)), (0, .ref (ma 0)), (1, .int (nI v))]) hx hb d_MD_sift_28 rfl hl (by decide) rfl (fun ls hl => ?_)
      have lp29 : ∀ (j29 : Nat) (i : Nat) (H : Heap) (locs : List Loc) (ls : Array Slot), i + j29 = 6 → va_P g.1 cl (MW g ma (nI 0) tb hm (nF oo) (nF (cpF kp oo i)) td tt ct fd os oq vs sk ++ X) H → va_D (gA g) (MW g ma (nI 0) tb hm (nF oo) (nF (cpF kp oo i)) td tt ct fd os oq vs sk ++ X) → va_S (gA g) s.heap H locs → lv_has ls 6 [(2, .int (nI i)), (0, .ref (ma 0)), (1, .int (nI v))] → W p l e rm_MD_sift s m [.ref (ma 0), .int (nI v)].toArray below meth c H locs 0 0 (MQ below (va_Qi (fun r9 (u9 : (Int32) × (Nat → Int64)) => r9 = nI ((bmF (cpF kp oo 6) (fdL oo v 6) oo tb hm 6).1) ∧ (True)) (fun u9 t9 => PR g (MW g ma (nI 0) tb hm (nF (arF (cpF kp oo 6) (fdL oo v 6) ((bmF (cpF kp oo 6) (fdL oo v 6) oo tb hm 6).1) (soF (cpF kp oo 6) (fdL oo v 6) oo 6) 6)) (nF (cpF kp oo 6)) td tt u9.1 u9.2 os oq vs sk ++ X) t9) (gA g)) [.ref (ma 0), .int (nI v)].toArray s 0 0 (gA g)) (F0 m 29 ls []) := by
        intro j29
        induction j29 with
        | zero =>
          intro i H locs ls hj29 hP hD hS hl
          refine lv_iload_n hx hb d_MD_sift_29 rfl (lv_at hl 0 rfl) ?_
          refine lv_bipush (v := nI 6) hx hb d_MD_sift_30 (by decide) ?_
          refine rc_ge (tgt := 53) hx hb (by omega) (by omega) d_MD_sift_32 (by decide) (fun c32 => ?_) (fun c32 => ?_)
          · obtain rfl : i = 6 := by omega
            have hpp : (fdL oo v 6) < 6 := hfd h2
            have hKO : isO (cpF kp oo 6) := isO_e hO (fun j hj => cpF_at 6 j hj)
            have hKp : (cpF kp oo 6) (fdL oo v 6) = v := by rw [cpF_at 6 _ hpp]; exact fd_at hO h2
            refine lv_iconst (v := nI 0) hx hb d_MD_sift_53 (by decide) ?_
            refine lv_istore_n (lv' := [(2, .int (nI 0)), (0, .ref (ma 0)), (1, .int (nI v))]) hx hb d_MD_sift_54 rfl hl (by decide) rfl (fun ls hl => ?_)
            refine lv_sipush (v := nI 1000) hx hb d_MD_sift_55 (by decide) ?_
            refine lv_istore_n (lv' := [(3, .int (nI 1000)), (2, .int (nI 0)), (0, .ref (ma 0)), (1, .int (nI v))]) hx hb d_MD_sift_58 rfl hl (by decide) rfl (fun ls hl => ?_)
            refine lv_iconst (v := nI 0) hx hb d_MD_sift_59 (by decide) ?_
            refine lv_istore (lv' := [(4, .int (nI 0)), (3, .int (nI 1000)), (2, .int (nI 0)), (0, .ref (ma 0)), (1, .int (nI v))]) hx hb d_MD_sift_60 hl (by decide) rfl (fun ls hl => ?_)
            have lp62 : ∀ (j62 : Nat) (k : Nat) (ct1 : Int32) (fd1 : Nat → Int64) (H : Heap) (locs : List Loc) (ls : Array Slot), k + j62 = 6 → va_P g.1 cl (MW g ma (nI 0) tb hm (nF (soF (cpF kp oo 6) (fdL oo v 6) oo k)) (nF (cpF kp oo 6)) td tt ct1 fd1 os oq vs sk ++ X) H → va_D (gA g) (MW g ma (nI 0) tb hm (nF (soF (cpF kp oo 6) (fdL oo v 6) oo k)) (nF (cpF kp oo 6)) td tt ct1 fd1 os oq vs sk ++ X) → va_S (gA g) s.heap H locs → lv_has ls 6 [(4, .int (nI k)), (3, .int (nI ((bmF (cpF kp oo 6) (fdL oo v 6) oo tb hm k).2))), (2, .int (nI ((bmF (cpF kp oo 6) (fdL oo v 6) oo tb hm k).1))), (0, .ref (ma 0)), (1, .int (nI v))] → W p l e rm_MD_sift s m [.ref (ma 0), .int (nI v)].toArray below meth c H locs 0 0 (MQ below (va_Qi (fun r9 (u9 : (Int32) × (Nat → Int64)) => r9 = nI ((bmF (cpF kp oo 6) (fdL oo v 6) oo tb hm 6).1) ∧ (True)) (fun u9 t9 => PR g (MW g ma (nI 0) tb hm (nF (arF (cpF kp oo 6) (fdL oo v 6) ((bmF (cpF kp oo 6) (fdL oo v 6) oo tb hm 6).1) (soF (cpF kp oo 6) (fdL oo v 6) oo 6) 6)) (nF (cpF kp oo 6)) td tt u9.1 u9.2 os oq vs sk ++ X) t9) (gA g)) [.ref (ma 0), .int (nI v)].toArray s 0 0 (gA g)) (F0 m 62 ls []) := by
              intro j62
              induction j62 with
              | zero =>
                intro k ct1 fd1 H locs ls hj62 hP hD hS hl
                refine lv_iload hx hb d_MD_sift_62 (lv_at hl 0 rfl) ?_
                refine lv_bipush (v := nI 6) hx hb d_MD_sift_64 (by decide) ?_
                refine rc_ge (tgt := 114) hx hb (by omega) (by omega) d_MD_sift_66 (by decide) (fun c66 => ?_) (fun c66 => ?_)
                · obtain rfl : k = 6 := by omega
                  refine lv_aload_n hx hb d_MD_sift_114 rfl (lv_at hl 3 rfl) ?_
                  refine lv_iload_n hx hb d_MD_sift_115 rfl (lv_at hl 4 rfl) ?_
                  refine lv_iload_n hx hb d_MD_sift_116 rfl (lv_at hl 2 rfl) ?_
                  refine pc_Vv (q0 := 0) (As := [.int (nI v), .int (nI ((bmF (cpF kp oo 6) (fdL oo v 6) oo tb hm 6).1))]) (rest := []) hx hb (hml.trans hl.1.symm) hown ht F hP hD hS (c_MD_arrange l g ma (nI 0) tb hm td tt ct1 fd1 os oq vs sk X (cpF kp oo 6) (soF (cpF kp oo 6) (fdL oo v 6) oo 6) (fdL oo v 6) v ((bmF (cpF kp oo 6) (fdL oo v 6) oo tb hm 6).1) hKO hpp bm_5 hKp h2) v_MD_arrange tw_656 ⟨rfl, rfl⟩ ⟨by decide, by decide⟩ rfl rfl rfl rfl (Nat.le_of_ble_eq_true rfl) ⟨Nat.zero_le _, Nat.zero_le _⟩ d_MD_sift_117 (fun u9 H locs hq hP hD hS => ?_)
                  have hP : va_P g.1 cl (MW g ma (nI 0) tb hm (nF (arF (cpF kp oo 6) (fdL oo v 6) ((bmF (cpF kp oo 6) (fdL oo v 6) oo tb hm 6).1) (soF (cpF kp oo 6) (fdL oo v 6) oo 6) 6)) (nF (cpF kp oo 6)) td tt ct1 fd1 os oq vs sk ++ X) H := hP
                  have hD : va_D (gA g) (MW g ma (nI 0) tb hm (nF (arF (cpF kp oo 6) (fdL oo v 6) ((bmF (cpF kp oo 6) (fdL oo v 6) oo tb hm 6).1) (soF (cpF kp oo 6) (fdL oo v 6) oo 6) 6)) (nF (cpF kp oo 6)) td tt ct1 fd1 os oq vs sk ++ X) := hD
                  refine lv_iload_n hx hb d_MD_sift_120 rfl (lv_at hl 2 rfl) ?_
                  exact W.iret (v := nI ((bmF (cpF kp oo 6) (fdL oo v 6) oo tb hm 6).1)) hx hb hr (fun t9 e1 hW => ⟨⟨_, (ct1, fd1), rfl, ⟨rfl, trivial⟩, PR.at F hP hD hS e1 hW.alike⟩, hS.F e1⟩) hS.2.2 d_MD_sift_121
                · exact (by omega : False).elim
              | succ j62 ih62 =>
                intro k ct1 fd1 H locs ls hj62 hP hD hS hl
                refine lv_iload hx hb d_MD_sift_62 (lv_at hl 0 rfl) ?_
                refine lv_bipush (v := nI 6) hx hb d_MD_sift_64 (by decide) ?_
                refine rc_ge (tgt := 114) hx hb (by omega) (by omega) d_MD_sift_66 (by decide) (fun c66 => ?_) (fun c66 => ?_)
                · exact (by omega : False).elim
                · refine lv_aload_n hx hb d_MD_sift_69 rfl (lv_at hl 3 rfl) ?_
                  refine lv_iload_n hx hb d_MD_sift_70 rfl (lv_at hl 4 rfl) ?_
                  refine lv_iload hx hb d_MD_sift_71 (lv_at hl 0 rfl) ?_
                  refine pc_Vv (q0 := 0) (As := [.int (nI v), .int (nI k)]) (rest := []) hx hb (hml.trans hl.1.symm) hown ht F hP hD hS (c_MD_arrange l g ma (nI 0) tb hm td tt ct1 fd1 os oq vs sk X (cpF kp oo 6) (soF (cpF kp oo 6) (fdL oo v 6) oo k) (fdL oo v 6) v k hKO hpp (by omega) hKp h2) v_MD_arrange tw_656 ⟨rfl, rfl⟩ ⟨by decide, by decide⟩ rfl rfl rfl rfl (Nat.le_of_ble_eq_true rfl) ⟨Nat.zero_le _, Nat.zero_le _⟩ d_MD_sift_73 (fun u9 H locs hq hP hD hS => ?_)
                  have hP : va_P g.1 cl (MW g ma (nI 0) tb hm (nF (arF (cpF kp oo 6) (fdL oo v 6) k (soF (cpF kp oo 6) (fdL oo v 6) oo k) 6)) (nF (cpF kp oo 6)) td tt ct1 fd1 os oq vs sk ++ X) H := hP
                  have hD : va_D (gA g) (MW g ma (nI 0) tb hm (nF (arF (cpF kp oo 6) (fdL oo v 6) k (soF (cpF kp oo 6) (fdL oo v 6) oo k) 6)) (nF (cpF kp oo 6)) td tt ct1 fd1 os oq vs sk ++ X) := hD
                  refine lv_aload_n hx hb d_MD_sift_76 rfl (lv_at hl 3 rfl) ?_
                  refine pc_Vi (q0 := 0) (As := []) (rest := []) hx hb (hml.trans hl.1.symm) hown ht F hP hD hS (c_MD_all l g ma (nI 0) tb hm (nF (cpF kp oo 6)) td tt ct1 fd1 os oq vs sk X (arF (cpF kp oo 6) (fdL oo v 6) k (soF (cpF kp oo 6) (fdL oo v 6) oo k) 6) (arF_lt hKO.1 hpp (by omega))) v_MD_all tw_632 ⟨rfl, rfl⟩ ⟨by decide, by decide⟩ rfl rfl rfl rfl (Nat.le_of_ble_eq_true rfl) ⟨Nat.zero_le _, Nat.zero_le _⟩ d_MD_sift_77 (fun r9 u9 H locs hq hP hD hS => ?_)
                  obtain ⟨ct77, fd77⟩ := u9
                  obtain ⟨hq, pq77⟩ := hq
                  have pq77 : True := pq77
                  subst hq
                  have hP : va_P g.1 cl (MW g ma (nI 0) tb hm (nF (arF (cpF kp oo 6) (fdL oo v 6) k (soF (cpF kp oo 6) (fdL oo v 6) oo k) 6)) (nF (cpF kp oo 6)) td tt ct77 fd77 os oq vs sk ++ X) H := hP
                  have hD : va_D (gA g) (MW g ma (nI 0) tb hm (nF (arF (cpF kp oo 6) (fdL oo v 6) k (soF (cpF kp oo 6) (fdL oo v 6) oo k) 6)) (nF (cpF kp oo 6)) td tt ct77 fd77 os oq vs sk ++ X) := hD
                  refine lv_istore (lv' := [(5, .int (nI (alL (arF (cpF kp oo 6) (fdL oo v 6) k (soF (cpF kp oo 6) (fdL oo v 6) oo k) 6) tb hm 6))), (4, .int (nI k)), (3, .int (nI ((bmF (cpF kp oo 6) (fdL oo v 6) oo tb hm k).2))), (2, .int (nI ((bmF (cpF kp oo 6) (fdL oo v 6) oo tb hm k).1))), (0, .ref (ma 0)), (1, .int (nI v))]) hx hb d_MD_sift_80 hl (by decide) rfl (fun ls hl => ?_)
                  refine lv_iload hx hb d_MD_sift_82 (lv_at hl 0 rfl) ?_
                  refine lv_iload_n hx hb d_MD_sift_84 rfl (lv_at hl 2 rfl) ?_
                  refine rc_ge (tgt := 93) hx hb (Nat.lt_of_le_of_lt (al_le 6 (Nat.le_refl 6)) (by decide)) (Nat.lt_of_le_of_lt (bm_le _).2 (by decide)) d_MD_sift_85 (by decide) (fun c85 => ?_) (fun c85 => ?_)
                  · refine lv_iload_n hx hb d_MD_sift_93 rfl (lv_at hl 3 rfl) ?_
                    refine lv_istore_n (lv' := [(2, .int (nI ((bmF (cpF kp oo 6) (fdL oo v 6) oo tb hm k).1))), (5, .int (nI (alL (arF (cpF kp oo 6) (fdL oo v 6) k (soF (cpF kp oo 6) (fdL oo v 6) oo k) 6) tb hm 6))), (4, .int (nI k)), (3, .int (nI ((bmF (cpF kp oo 6) (fdL oo v 6) oo tb hm k).2))), (0, .ref (ma 0)), (1, .int (nI v))]) hx hb d_MD_sift_94 rfl hl (by decide) rfl (fun ls hl => ?_)
                    refine lv_iload hx hb d_MD_sift_95 (lv_at hl 1 rfl) ?_
                    refine lv_iload_n hx hb d_MD_sift_97 rfl (lv_at hl 3 rfl) ?_
                    refine rc_ge (tgt := 106) hx hb (Nat.lt_of_le_of_lt (al_le 6 (Nat.le_refl 6)) (by decide)) (Nat.lt_of_le_of_lt (bm_le _).2 (by decide)) d_MD_sift_98 (by decide) (fun c98 => ?_) (fun c98 => ?_)
                    · refine lv_iload_n hx hb d_MD_sift_106 rfl (lv_at hl 3 rfl) ?_
                      refine lv_istore_n (lv' := [(3, .int (nI ((bmF (cpF kp oo 6) (fdL oo v 6) oo tb hm k).2))), (2, .int (nI ((bmF (cpF kp oo 6) (fdL oo v 6) oo tb hm k).1))), (5, .int (nI (alL (arF (cpF kp oo 6) (fdL oo v 6) k (soF (cpF kp oo 6) (fdL oo v 6) oo k) 6) tb hm 6))), (4, .int (nI k)), (0, .ref (ma 0)), (1, .int (nI v))]) hx hb d_MD_sift_107 rfl hl (by decide) rfl (fun ls hl => ?_)
                      refine lv_iinc (lv' := [(4, .int (nI (k + 1))), (3, .int (nI ((bmF (cpF kp oo 6) (fdL oo v 6) oo tb hm k).2))), (2, .int (nI ((bmF (cpF kp oo 6) (fdL oo v 6) oo tb hm k).1))), (5, .int (nI (alL (arF (cpF kp oo 6) (fdL oo v 6) k (soF (cpF kp oo 6) (fdL oo v 6) oo k) 6) tb hm 6))), (0, .ref (ma 0)), (1, .int (nI v))]) hx hb d_MD_sift_108 hl (k := 3) rfl (nI_1 _) (by decide) rfl (fun ls hl => ?_)
                      refine lv_goto (tgt := 62) hx hb d_MD_sift_111 (by decide) ?_
                      have hl := lv_sub hl [0, 1, 2, 4, 5] rfl
                      have hl : lv_has ls 6 [(4, .int (nI ((k + 1)))), (3, .int (nI ((bmF (cpF kp oo 6) (fdL oo v 6) oo tb hm (k + 1)).2))), (2, .int (nI ((bmF (cpF kp oo 6) (fdL oo v 6) oo tb hm (k + 1)).1))), (0, .ref (ma 0)), (1, .int (nI v))] := by rw [show bmF (cpF kp oo 6) (fdL oo v 6) oo tb hm (k + 1) = bmF (cpF kp oo 6) (fdL oo v 6) oo tb hm k from if_neg (Nat.not_lt.mpr c85)]; exact hl
                      have hP : va_P g.1 cl (MW g ma (nI 0) tb hm (nF (soF (cpF kp oo 6) (fdL oo v 6) oo (k + 1))) (nF (cpF kp oo 6)) td tt ct77 fd77 os oq vs sk ++ X) H := hP
                      have hD : va_D (gA g) (MW g ma (nI 0) tb hm (nF (soF (cpF kp oo 6) (fdL oo v 6) oo (k + 1))) (nF (cpF kp oo 6)) td tt ct77 fd77 os oq vs sk ++ X) := hD
                      exact ih62 (k + 1) ct77 fd77 H locs ls (by omega)  hP hD hS hl
                    · exact absurd c85 c98
                  · refine lv_iload hx hb d_MD_sift_88 (lv_at hl 1 rfl) ?_
                    refine lv_goto (tgt := 94) hx hb d_MD_sift_90 (by decide) ?_
                    refine lv_istore_n (lv' := [(2, .int (nI k)), (5, .int (nI (alL (arF (cpF kp oo 6) (fdL oo v 6) k (soF (cpF kp oo 6) (fdL oo v 6) oo k) 6) tb hm 6))), (4, .int (nI k)), (3, .int (nI ((bmF (cpF kp oo 6) (fdL oo v 6) oo tb hm k).2))), (0, .ref (ma 0)), (1, .int (nI v))]) hx hb d_MD_sift_94 rfl hl (by decide) rfl (fun ls hl => ?_)
                    refine lv_iload hx hb d_MD_sift_95 (lv_at hl 1 rfl) ?_
                    refine lv_iload_n hx hb d_MD_sift_97 rfl (lv_at hl 3 rfl) ?_
                    refine rc_ge (tgt := 106) hx hb (Nat.lt_of_le_of_lt (al_le 6 (Nat.le_refl 6)) (by decide)) (Nat.lt_of_le_of_lt (bm_le _).2 (by decide)) d_MD_sift_98 (by decide) (fun c98 => ?_) (fun c98 => ?_)
                    · exact absurd c98 c85
                    · refine lv_iload hx hb d_MD_sift_101 (lv_at hl 1 rfl) ?_
                      refine lv_goto (tgt := 107) hx hb d_MD_sift_103 (by decide) ?_
                      refine lv_istore_n (lv' := [(3, .int (nI (alL (arF (cpF kp oo 6) (fdL oo v 6) k (soF (cpF kp oo 6) (fdL oo v 6) oo k) 6) tb hm 6))), (2, .int (nI k)), (5, .int (nI (alL (arF (cpF kp oo 6) (fdL oo v 6) k (soF (cpF kp oo 6) (fdL oo v 6) oo k) 6) tb hm 6))), (4, .int (nI k)), (0, .ref (ma 0)), (1, .int (nI v))]) hx hb d_MD_sift_107 rfl hl (by decide) rfl (fun ls hl => ?_)
                      refine lv_iinc (lv' := [(4, .int (nI (k + 1))), (3, .int (nI (alL (arF (cpF kp oo 6) (fdL oo v 6) k (soF (cpF kp oo 6) (fdL oo v 6) oo k) 6) tb hm 6))), (2, .int (nI k)), (5, .int (nI (alL (arF (cpF kp oo 6) (fdL oo v 6) k (soF (cpF kp oo 6) (fdL oo v 6) oo k) 6) tb hm 6))), (0, .ref (ma 0)), (1, .int (nI v))]) hx hb d_MD_sift_108 hl (k := 3) rfl (nI_1 _) (by decide) rfl (fun ls hl => ?_)
                      refine lv_goto (tgt := 62) hx hb d_MD_sift_111 (by decide) ?_
                      have hl := lv_sub hl [0, 1, 2, 4, 5] rfl
                      have hl : lv_has ls 6 [(4, .int (nI ((k + 1)))), (3, .int (nI ((bmF (cpF kp oo 6) (fdL oo v 6) oo tb hm (k + 1)).2))), (2, .int (nI ((bmF (cpF kp oo 6) (fdL oo v 6) oo tb hm (k + 1)).1))), (0, .ref (ma 0)), (1, .int (nI v))] := by rw [show bmF (cpF kp oo 6) (fdL oo v 6) oo tb hm (k + 1) = (k, alL (arF (cpF kp oo 6) (fdL oo v 6) k (soF (cpF kp oo 6) (fdL oo v 6) oo k) 6) tb hm 6) from if_pos (Nat.lt_of_not_le c85)]; exact hl
                      have hP : va_P g.1 cl (MW g ma (nI 0) tb hm (nF (soF (cpF kp oo 6) (fdL oo v 6) oo (k + 1))) (nF (cpF kp oo 6)) td tt ct77 fd77 os oq vs sk ++ X) H := hP
                      have hD : va_D (gA g) (MW g ma (nI 0) tb hm (nF (soF (cpF kp oo 6) (fdL oo v 6) oo (k + 1))) (nF (cpF kp oo 6)) td tt ct77 fd77 os oq vs sk ++ X) := hD
                      exact ih62 (k + 1) ct77 fd77 H locs ls (by omega)  hP hD hS hl
            have hl := lv_sub hl [0, 1, 2, 3, 4] rfl
            have hl : lv_has ls 6 [(4, .int (nI 0)), (3, .int (nI ((bmF (cpF kp oo 6) (fdL oo v 6) oo tb hm 0).2))), (2, .int (nI ((bmF (cpF kp oo 6) (fdL oo v 6) oo tb hm 0).1))), (0, .ref (ma 0)), (1, .int (nI v))] := hl
            have hP : va_P g.1 cl (MW g ma (nI 0) tb hm (nF (soF (cpF kp oo 6) (fdL oo v 6) oo 0)) (nF (cpF kp oo 6)) td tt ct fd os oq vs sk ++ X) H := hP
            have hD : va_D (gA g) (MW g ma (nI 0) tb hm (nF (soF (cpF kp oo 6) (fdL oo v 6) oo 0)) (nF (cpF kp oo 6)) td tt ct fd os oq vs sk ++ X) := hD
            exact lp62 (6 - 0) 0 ct fd _ _ ls (by omega)  hP hD hS hl
          · exact (by omega : False).elim
        | succ j29 ih29 =>
          intro i H locs ls hj29 hP hD hS hl
          refine lv_iload_n hx hb d_MD_sift_29 rfl (lv_at hl 0 rfl) ?_
          refine lv_bipush (v := nI 6) hx hb d_MD_sift_30 (by decide) ?_
          refine rc_ge (tgt := 53) hx hb (by omega) (by omega) d_MD_sift_32 (by decide) (fun c32 => ?_) (fun c32 => ?_)
          · exact (by omega : False).elim
          · refine lv_aload_n hx hb d_MD_sift_35 rfl (lv_at hl 1 rfl) ?_
            refine va_get (ci := 4) (v := .ref (ma 4)) (C := R_MD) (T := T_MD) (N := 13) hx hb ht i_MD hown F.2.1 hP 0 rfl rfl 4 (by decide) (ht _ tw_474) (fun _ h9 => h9) rfl d_MD_sift_36 ?_
            refine lv_iload_n hx hb d_MD_sift_39 rfl (lv_at hl 0 rfl) ?_
            refine lv_aload_n hx hb d_MD_sift_40 rfl (lv_at hl 1 rfl) ?_
            refine va_get (ci := 4) (v := .ref (ma 3)) (C := R_MD) (T := T_MD) (N := 13) hx hb ht i_MD hown F.2.1 hP 0 rfl rfl 3 (by decide) (ht _ tw_473) (fun _ h9 => h9) rfl d_MD_sift_41 ?_
            refine lv_iload_n hx hb d_MD_sift_44 rfl (lv_at hl 0 rfl) ?_
            refine ra_I hx hb F hP 3 rfl (by omega) (by decide) d_MD_sift_45 ?_
            refine W.eq (g2 := F0 m 46 ls [.int (nI (oo i)), .int (nI i), .ref (ma 4)]) rfl ?_
            refine wa_I hx hb F hP hD hS 4 rfl (by omega) (by decide) d_MD_sift_46 (fun H locs hP hD hS => ?_)
            have hP : va_P g.1 cl (MW g ma (nI 0) tb hm (nF oo) (upd (nF (cpF kp oo i)) i (nI (oo i))) td tt ct fd os oq vs sk ++ X) H := hP
            have hD : va_D (gA g) (MW g ma (nI 0) tb hm (nF oo) (upd (nF (cpF kp oo i)) i (nI (oo i))) td tt ct fd os oq vs sk ++ X) := hD
            rw [nF_upd] at hP hD
            have hP : va_P g.1 cl (MW g ma (nI 0) tb hm (nF oo) (nF (uN (cpF kp oo i) i (oo i))) td tt ct fd os oq vs sk ++ X) H := hP
            have hD : va_D (gA g) (MW g ma (nI 0) tb hm (nF oo) (nF (uN (cpF kp oo i) i (oo i))) td tt ct fd os oq vs sk ++ X) := hD
            refine lv_iinc (lv' := [(2, .int (nI (i + 1))), (0, .ref (ma 0)), (1, .int (nI v))]) hx hb d_MD_sift_47 hl (k := 0) rfl (nI_1 _) (by decide) rfl (fun ls hl => ?_)
            refine lv_goto (tgt := 29) hx hb d_MD_sift_50 (by decide) ?_
            have hl := lv_sub hl [0, 1, 2] rfl
            have hl : lv_has ls 6 [(2, .int (nI ((i + 1)))), (0, .ref (ma 0)), (1, .int (nI v))] := hl
            have hP : va_P g.1 cl (MW g ma (nI 0) tb hm (nF oo) (nF (cpF kp oo (i + 1))) td tt ct fd os oq vs sk ++ X) H := hP
            have hD : va_D (gA g) (MW g ma (nI 0) tb hm (nF oo) (nF (cpF kp oo (i + 1))) td tt ct fd os oq vs sk ++ X) := hD
            exact ih29 (i + 1) H locs ls (by omega)  hP hD hS hl
      have hl := lv_sub hl [0, 1, 2] rfl
      have hl : lv_has ls 6 [(2, .int (nI 0)), (0, .ref (ma 0)), (1, .int (nI v))] := hl
      have hP : va_P g.1 cl (MW g ma (nI 0) tb hm (nF oo) (nF (cpF kp oo 0)) td tt ct fd os oq vs sk ++ X) H := hP
      have hD : va_D (gA g) (MW g ma (nI 0) tb hm (nF oo) (nF (cpF kp oo 0)) td tt ct fd os oq vs sk ++ X) := hD
      exact lp29 (6 - 0) 0 _ _ ls (by omega)  hP hD hS hl
    · exact (by omega : False).elim
set_option maxRecDepth 100000 in
set_option maxHeartbeats 4000000 in
theorem c1_MD_sift (l : Launch) (g : Gx) (ma : Nat → Nat) (cd : Int32) (tb : Nat → Int64) (hm : Nat → Int32) (oo : Nat → Int32) (kp : Nat → Int32) (td : Int32) (tt : Nat → Int32) (ct : Int32) (fd : Nat → Int64) (os : Int32) (oq : Nat → Int32) (vs : Int32) (sk : Nat → Int64) (X : va_W) (v : Int32) (hbad : ¬ (inR v 6)) : Met l y_MD_sift (w_MD_sift :: TW) rm_MD_sift (va_Pc [.ref (ma 0), .int v] (PR g (MW g ma cd tb hm oo kp td tt ct fd os oq vs sk ++ X))) (va_Qi (fun r9 (u9 : Unit) => r9 = nI 0) (fun u9 t9 => PR g (MW g ma (nI 1) tb hm oo kp td tt ct fd os oq vs sk ++ X) t9) (gA g)) 0 0 (gA g) := by
  refine mt_of (by decide) (Nat.le_of_ble_eq_true rfl) ?_
  intro p e s m below meth c ls hx hb hr hml hlk hown ht hnm F hP hD hl
  have hl : lv_has ls 6 [(0, .ref (ma 0)), (1, .int v)] := hl
  have hS : va_S (gA g) s.heap s.heap [] := va_S.rf
  refine lv_aload_n hx hb d_MD_sift_0 rfl (lv_at hl 0 rfl) ?_
  refine lv_iload_n hx hb d_MD_sift_1 rfl (lv_at hl 1 rfl) ?_
  refine lv_iconst (v := nI 0) hx hb d_MD_sift_2 (by decide) ?_
  refine lv_iconst (v := nI 5) hx hb d_MD_sift_3 (by decide) ?_
  by_cases q4 : inR v 6
  · exact (hbad q4).elim
  · refine pc_Si (As := [.int v, .int (nI 0), .int (nI 5)]) (rest := [.ref (ma 0)]) hx hb (hml.trans hl.1.symm) hown ht F hP hD hS (c_MD_within_0 l g (MW g ma cd tb hm oo kp td tt ct fd os oq vs sk ++ X) v 0 5 (fun h => q4 (inR_le h)) (by decide) (by decide)) v_MD_within tw_521 ⟨rfl, rfl⟩ ⟨by decide, by decide⟩ rfl rfl (Nat.le_of_ble_eq_true rfl) ⟨Nat.zero_le _, Nat.zero_le _⟩ d_MD_sift_4 (fun r9 u9 H locs hq hP hD hS => ?_)
    subst hq
    refine rz_eq (tgt := 14) hx hb (by omega) d_MD_sift_7 (by decide) (fun c7 => ?_) (fun c7 => ?_)
    · refine lv_iconst (v := nI 1) hx hb d_MD_sift_14 (by decide) ?_
      refine va_put (ci := 4) (v := .int (nI 1)) (ty := .int) (C := R_MD) (T := T_MD) (N := 13) hx hb ht i_MD t_MD t_MD_ok n_MD hown F.2.1 hP hD hS 0 rfl rfl 0 (by decide) (ht _ tw_470) (fun _ h9 => h9) rfl (by decide +kernel) rfl rfl (Nat.le_of_ble_eq_true rfl) d_MD_sift_15 (fun H locs hP hD hS => ?_)
      have hP : va_P g.1 cl (MW g ma (nI 1) tb hm oo kp td tt ct fd os oq vs sk ++ X) H := hP
      have hD : va_D (gA g) (MW g ma (nI 1) tb hm oo kp td tt ct fd os oq vs sk ++ X) := hD
      refine lv_aload_n hx hb d_MD_sift_18 rfl (lv_at hl 0 rfl) ?_
      refine va_get (ci := 4) (v := .int (nI 1)) (C := R_MD) (T := T_MD) (N := 13) hx hb ht i_MD hown F.2.1 hP 0 rfl rfl 0 (by decide) (ht _ tw_470) (fun _ h9 => h9) rfl d_MD_sift_19 ?_
      refine rz_le (tgt := 27) hx hb (by omega) d_MD_sift_22 (by decide) (fun c22 => ?_) (fun c22 => ?_)
      · exact (by omega : False).elim
      · refine lv_iconst (v := nI 0) hx hb d_MD_sift_25 (by decide) ?_
        exact W.iret (v := nI 0) hx hb hr (fun t9 e1 hW => ⟨⟨_, (), rfl, rfl, PR.at F hP hD hS e1 hW.alike⟩, hS.F e1⟩) hS.2.2 d_MD_sift_26
    · exact (by omega : False).elim
