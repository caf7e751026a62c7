theorem rep_fd1 {f : Nat → Int64} {n : Nat} {L : List Int64} {t : Int64} (h : rep f n L) (hb : hasB f t n = true) : (adU L t).length = n ∧ rep f (adU L t).length (adU L t) := by
  have e : adU L t = L := if_pos ((rep_mem h).mpr hb)
  rw [e, rep_len h]; exact ⟨rfl, h⟩
theorem rep_fd2 {f : Nat → Int64} {n : Nat} {L : List Int64} {t : Int64} (h : rep f n L) (hb : hasB f t n = false) : (adU L t).length = n + 1 ∧ rep (vp_updL f n t) (adU L t).length (adU L t) := by
  have e : adU L t = L ++ [t] := if_neg (fun z => by rw [(rep_mem h).mp z] at hb; cases hb)
  rw [e, List.length_append, rep_len h]
  refine ⟨rfl, ?_⟩
  show L ++ [t] = (List.range (n + 1)).map (vp_updL f n t)
  rw [List.range_succ, List.map_append, h]
  congr 1
  · apply List.map_congr_left
    intro j hj
    rw [List.mem_range] at hj
    exact (pk_uLn (by omega)).symm
  · simp [vp_updL]
theorem wt2 : ∀ l, l < 6 → nI 1 <<< (nI l &&& 31) = nI (2 ^ l) := by decide +kernel
theorem pw32 : ∀ l, l < 6 → 2 ^ l ≤ 32 := by decide +kernel
theorem tb_eq : ∀ c, c < 32 → ∀ l, l < 5 → (nI c >>> (nI l &&& 31) &&& nI 1 = nI 1 ↔ c.testBit l = true) := by decide +kernel
theorem wo_room {od : Nat → Nat} {lev i : Nat} {rg : Nat → Int64} {hd : Nat → Int32} (hl : lev < 6) (hi : i < 8) : (woL od lev rg hd i).length + 2 ^ lev ≤ 256 := by
  have h1 := woL_le (od := od) (lev := lev) (rg := rg) (hd := hd) i
  have h2 := pw32 lev hl
  have h3 : i * 2 ^ lev ≤ 7 * 2 ^ lev := Nat.mul_le_mul_right _ (by omega)
  generalize 2 ^ lev = P at *
  omega
theorem wo_lt {od : Nat → Nat} {lev : Nat} {rg : Nat → Int64} {hd : Nat → Int32} (hl : lev < 6) : (woL od lev rg hd 8).length ≤ 256 := by
  have h1 := woL_le (od := od) (lev := lev) (rg := rg) (hd := hd) 8
  have h2 := pw32 lev hl
  generalize 2 ^ lev = P at *
  omega
theorem al_le {od : Nat → Nat} {rg : Nat → Int64} {hd : Nat → Int32} : ∀ l, l ≤ 6 → alL od rg hd l ≤ 256 * l
  | 0, _ => Nat.le_refl _
  | l + 1, h => by
    have h1 := al_le (od := od) (rg := rg) (hd := hd) l (by omega)
    have h2 := wo_lt (od := od) (rg := rg) (hd := hd) (lev := l) (by omega)
    show alL od rg hd l + (woL od l rg hd 8).length ≤ 256 * (l + 1)
    omega
/-! arrange and sift, step by step -/
def arF (kp : Nat → Nat) (p lev : Nat) (oo : Nat → Nat) : Nat → (Nat → Nat)
  | 0 => oo
  | l + 1 => uN (arF kp p lev oo l) l (kp (mvP p lev l))
def cpF (kp oo : Nat → Nat) : Nat → (Nat → Nat)
  | 0 => kp
  | l + 1 => uN (cpF kp oo l) l (oo l)
def soF (kp : Nat → Nat) (p : Nat) (oo : Nat → Nat) : Nat → (Nat → Nat)
  | 0 => oo
  | l + 1 => arF kp p l (soF kp p oo l) 6
def bmF (kp : Nat → Nat) (p : Nat) (oo : Nat → Nat) (rg : Nat → Int64) (hd : Nat → Int32) : Nat → Nat × Nat
  | 0 => (0, 1000)
  | l + 1 => if alL (soF kp p oo (l + 1)) rg hd 6 < (bmF kp p oo rg hd l).2 then (l, alL (soF kp p oo (l + 1)) rg hd 6) else bmF kp p oo rg hd l
theorem arF_at {kp : Nat → Nat} {p lev : Nat} {oo : Nat → Nat} : ∀ n j, j < n → arF kp p lev oo n j = kp (mvP p lev j)
  | 0, j, h => absurd h (Nat.not_lt_zero j)
  | n + 1, j, h => by
    show uN (arF kp p lev oo n) n (kp (mvP p lev n)) j = _
    unfold uN
    by_cases e : j = n
    · subst e; rw [if_pos rfl]
    · rw [if_neg e]; exact arF_at n j (by omega)
theorem cpF_at {kp oo : Nat → Nat} : ∀ n j, j < n → cpF kp oo n j = oo j
  | 0, j, h => absurd h (Nat.not_lt_zero j)
  | n + 1, j, h => by
    show uN (cpF kp oo n) n (oo n) j = _
    unfold uN
    by_cases e : j = n
    · subst e; rw [if_pos rfl]
    · rw [if_neg e]; exact cpF_at n j (by omega)
theorem ar_lv : ∀ p, p < 6 → ∀ lev, lev < 6 → arN p lev (lev + 1) = arN p lev lev ∧ mvP p lev lev = p := by decide +kernel
theorem ar_eq : ∀ p, p < 6 → ∀ lev, lev < 6 → ∀ l, l < 6 → l = lev ∨ (arN p lev l < 6 ∧ (if arN p lev l = p then arN p lev l + 1 < 6 ∧ mvP p lev l = arN p lev l + 1 ∧ arN p lev (l + 1) = arN p lev l + 1 + 1 else mvP p lev l = arN p lev l ∧ arN p lev (l + 1) = arN p lev l + 1)) := by decide +kernel
theorem ar_0 : ∀ p, p < 6 → ∀ lev, lev < 6 → arN p lev 0 = 0 := by decide +kernel
theorem arF_lt {kp : Nat → Nat} (hk : ∀ i, i < 6 → kp i < 6) {p lev : Nat} {oo : Nat → Nat} (hp : p < 6) (hl : lev < 6) : ∀ i, i < 6 → arF kp p lev oo 6 i < 6 := fun i hi => by
  rw [arF_at 6 i hi]; exact hk _ (mvP_lt p hp lev hl i hi)
theorem bm_le {kp : Nat → Nat} {p : Nat} {oo : Nat → Nat} {rg : Nat → Int64} {hd : Nat → Int32} : ∀ l, (bmF kp p oo rg hd l).1 ≤ l ∧ (bmF kp p oo rg hd l).2 ≤ 1536
  | 0 => ⟨Nat.le_refl _, show 1000 ≤ 1536 by decide⟩
  | l + 1 => by
    have h := bm_le (kp := kp) (p := p) (oo := oo) (rg := rg) (hd := hd) l
    have h2 := al_le (od := soF kp p oo (l + 1)) (rg := rg) (hd := hd) 6 (Nat.le_refl 6)
    show (if alL (soF kp p oo (l + 1)) rg hd 6 < (bmF kp p oo rg hd l).2 then (l, alL (soF kp p oo (l + 1)) rg hd 6) else bmF kp p oo rg hd l).1 ≤ l + 1 ∧ (if alL (soF kp p oo (l + 1)) rg hd 6 < (bmF kp p oo rg hd l).2 then (l, alL (soF kp p oo (l + 1)) rg hd 6) else bmF kp p oo rg hd l).2 ≤ 1536
    split
    · exact ⟨Nat.le_succ _, h2⟩
    · exact ⟨by omega, h.2⟩
set_option maxRecDepth 100000 in
set_option maxHeartbeats 4000000 in
theorem c_MD_find (l : Launch) (g : Gx) (ma : Nat → Nat) (cd : Int32) (tb : Nat → Int64) (hm : Nat → Int32) (oo : Nat → Int32) (kp : Nat → Int32) (td : Int32) (tt : Nat → Int32) (fd : Nat → Int64) (os : Int32) (oq : Nat → Int32) (vs : Int32) (sk : Nat → Int64) (X : va_W) (n : Nat) (L : List Int64) (t : Int64) (h1 : n < 256) (h3 : rep fd n L) : Met l y_MD_find (w_MD_find :: TW) rm_MD_find (va_Pc [.ref (ma 0), .long t] (PR g (MW g ma cd tb hm oo kp td tt (nI n) fd os oq vs sk ++ X))) (va_Qv (fun (u9 : (Nat → Int64)) => rep u9 ((adU L t).length) (adU L t)) (fun u9 t9 => PR g (MW g ma cd tb hm oo kp td tt (nI ((adU L t).length)) u9 os oq vs sk ++ X) t9) (gA g)) 0 0 (gA g) := by
  refine mt_of (by decide) (Nat.le_of_ble_eq_true rfl) ?_
  intro p e s m below meth c ls hx hb hr hml hlk hown ht hnm F hP hD hl
  have hl : lv_has ls 4 [(0, .ref (ma 0)), (1, .long t)] := hl
  have hS : va_S (gA g) s.heap s.heap [] := va_S.rf
  refine lv_iconst (v := nI 0) hx hb d_MD_find_0 (by decide) ?_
  refine lv_istore_n (lv' := [(3, .int (nI 0)), (0, .ref (ma 0)), (1, .long t)]) hx hb d_MD_find_1 rfl hl (by decide) rfl (fun ls hl => ?_)
  have lp2 : ∀ (j2 : Nat) (i : Nat) (H : Heap) (locs : List Loc) (ls : Array Slot), i + j2 = n → (hasB fd t i = false) → va_P g.1 cl (MW g ma cd tb hm oo kp td tt (nI n) fd os oq vs sk ++ X) H → va_D (gA g) (MW g ma cd tb hm oo kp td tt (nI n) fd os oq vs sk ++ X) → va_S (gA g) s.heap H locs → lv_has ls 4 [(3, .int (nI i)), (0, .ref (ma 0)), (1, .long t)] → W p l e rm_MD_find s m [.ref (ma 0), .long t].toArray below meth c H locs 0 0 (MQ below (va_Qv (fun (u9 : (Nat → Int64)) => rep u9 ((adU L t).length) (adU L t)) (fun u9 t9 => PR g (MW g ma cd tb hm oo kp td tt (nI ((adU L t).length)) u9 os oq vs sk ++ X) t9) (gA g)) [.ref (ma 0), .long t].toArray s 0 0 (gA g)) (F0 m 2 ls []) := by
    intro j2
    induction j2 with
    | zero =>
      intro i H locs ls hj2 q1 hP hD hS hl
      refine lv_iload_n hx hb d_MD_find_2 rfl (lv_at hl 0 rfl) ?_
      refine lv_aload_n hx hb d_MD_find_3 rfl (lv_at hl 1 rfl) ?_
      refine va_get (ci := 4) (v := .int (nI n)) (C := R_MD) (T := T_MD) (N := 13) hx hb ht i_MD hown F.2.1 hP 0 rfl rfl 7 (by decide) (ht _ tw_477) (fun _ h9 => h9) rfl d_MD_find_4 ?_
      refine rc_ge (tgt := 28) hx hb (by omega) (by omega) d_MD_find_7 (by decide) (fun c7 => ?_) (fun c7 => ?_)
      · refine lv_aload_n hx hb d_MD_find_28 rfl (lv_at hl 1 rfl) ?_
        refine va_get (ci := 4) (v := .ref (ma 6)) (C := R_MD) (T := T_MD) (N := 13) hx hb ht i_MD hown F.2.1 hP 0 rfl rfl 8 (by decide) (ht _ tw_478) (fun _ h9 => h9) rfl d_MD_find_29 ?_
        refine lv_aload_n hx hb d_MD_find_32 rfl (lv_at hl 1 rfl) ?_
        refine va_get (ci := 4) (v := .int (nI n)) (C := R_MD) (T := T_MD) (N := 13) hx hb ht i_MD hown F.2.1 hP 0 rfl rfl 7 (by decide) (ht _ tw_477) (fun _ h9 => h9) rfl d_MD_find_33 ?_
        refine lv_lload_n hx hb d_MD_find_36 rfl (lv_at hl 2 rfl) ?_
        refine wa_J hx hb F hP hD hS 6 rfl (by omega) (by decide) d_MD_find_37 (fun H locs hP hD hS => ?_)
        have hP : va_P g.1 cl (MW g ma cd tb hm oo kp td tt (nI n) (vp_updL fd n t) os oq vs sk ++ X) H := hP
        have hD : va_D (gA g) (MW g ma cd tb hm oo kp td tt (nI n) (vp_updL fd n t) os oq vs sk ++ X) := hD
        refine lv_aload_n hx hb d_MD_find_38 rfl (lv_at hl 1 rfl) ?_
        refine lv_dup hx hb d_MD_find_39 rfl ?_
        refine va_get (ci := 4) (v := .int (nI n)) (C := R_MD) (T := T_MD) (N := 13) hx hb ht i_MD hown F.2.1 hP 0 rfl rfl 7 (by decide) (ht _ tw_477) (fun _ h9 => h9) rfl d_MD_find_40 ?_
        refine lv_iconst (v := nI 1) hx hb d_MD_find_43 (by decide) ?_
        refine rn_add hx hb d_MD_find_44 ?_
        refine va_put (ci := 4) (v := .int (nI (n + 1))) (ty := .int) (C := R_MD) (T := T_MD) (N := 13) hx hb ht i_MD t_MD t_MD_ok n_MD hown F.2.1 hP hD hS 0 rfl rfl 7 (by decide) (ht _ tw_477) (fun _ h9 => h9) rfl (by decide +kernel) rfl rfl (Nat.le_of_ble_eq_true rfl) d_MD_find_45 (fun H locs hP hD hS => ?_)
        have hP : va_P g.1 cl (MW g ma cd tb hm oo kp td tt (nI (n + 1)) (vp_updL fd n t) os oq vs sk ++ X) H := hP
        have hD : va_D (gA g) (MW g ma cd tb hm oo kp td tt (nI (n + 1)) (vp_updL fd n t) os oq vs sk ++ X) := hD
        have hP : va_P g.1 cl (MW g ma cd tb hm oo kp td tt (nI ((adU L t).length)) (vp_updL fd n t) os oq vs sk ++ X) H := by rw [(rep_fd2 h3 (show hasB fd t n = false by rw [← show i = n by omega]; exact q1)).1]; exact hP
        have hD : va_D (gA g) (MW g ma cd tb hm oo kp td tt (nI ((adU L t).length)) (vp_updL fd n t) os oq vs sk ++ X) := by rw [(rep_fd2 h3 (show hasB fd t n = false by rw [← show i = n by omega]; exact q1)).1]; exact hD
        exact W.vret hx hb hr (fun t9 e1 hW => ⟨⟨(vp_updL fd n t), rfl, (rep_fd2 h3 (show hasB fd t n = false by rw [← show i = n by omega]; exact q1)).2, PR.at F hP hD hS e1 hW.alike⟩, hS.F e1⟩) hS.2.2 d_MD_find_48
      · exact (by omega : False).elim
    | succ j2 ih2 =>
      intro i H locs ls hj2 q1 hP hD hS hl
      refine lv_iload_n hx hb d_MD_find_2 rfl (lv_at hl 0 rfl) ?_
      refine lv_aload_n hx hb d_MD_find_3 rfl (lv_at hl 1 rfl) ?_
      refine va_get (ci := 4) (v := .int (nI n)) (C := R_MD) (T := T_MD) (N := 13) hx hb ht i_MD hown F.2.1 hP 0 rfl rfl 7 (by decide) (ht _ tw_477) (fun _ h9 => h9) rfl d_MD_find_4 ?_
      refine rc_ge (tgt := 28) hx hb (by omega) (by omega) d_MD_find_7 (by decide) (fun c7 => ?_) (fun c7 => ?_)
      · exact (by omega : False).elim
      · refine lv_aload_n hx hb d_MD_find_10 rfl (lv_at hl 1 rfl) ?_
        refine va_get (ci := 4) (v := .ref (ma 6)) (C := R_MD) (T := T_MD) (N := 13) hx hb ht i_MD hown F.2.1 hP 0 rfl rfl 8 (by decide) (ht _ tw_478) (fun _ h9 => h9) rfl d_MD_find_11 ?_
        refine lv_iload_n hx hb d_MD_find_14 rfl (lv_at hl 0 rfl) ?_
        refine ra_J hx hb F hP 6 rfl (by omega) (by decide) d_MD_find_15 ?_
        refine lv_lload_n hx hb d_MD_find_16 rfl (lv_at hl 2 rfl) ?_
        refine W.lcmp hx hb d_MD_find_17 ?_
        refine lv_if_ne (tgt := 22) hx hb d_MD_find_18 (by decide) (fun c18 => ?_) (fun c18 => ?_)
        · refine lv_iinc (lv' := [(3, .int (nI (i + 1))), (0, .ref (ma 0)), (1, .long t)]) hx hb d_MD_find_22 hl (k := 0) rfl (nI_1 _) (by decide) rfl (fun ls hl => ?_)
          refine lv_goto (tgt := 2) hx hb d_MD_find_25 (by decide) ?_
          have hl := lv_sub hl [0, 1, 2] rfl
          have hl : lv_has ls 4 [(3, .int (nI ((i + 1)))), (0, .ref (ma 0)), (1, .long t)] := hl
          exact ih2 (i + 1) H locs ls (by omega) (hasB_step q1 (fun z => c18 ((lg_cmp_eq _ _).mpr z))) hP hD hS hl
        · have hP : va_P g.1 cl (MW g ma cd tb hm oo kp td tt (nI ((adU L t).length)) fd os oq vs sk ++ X) H := by rw [(rep_fd1 h3 (hasB_hit (i := i) (by omega) ((lg_cmp_eq _ _).mp c18))).1]; exact hP
          have hD : va_D (gA g) (MW g ma cd tb hm oo kp td tt (nI ((adU L t).length)) fd os oq vs sk ++ X) := by rw [(rep_fd1 h3 (hasB_hit (i := i) (by omega) ((lg_cmp_eq _ _).mp c18))).1]; exact hD
          exact W.vret hx hb hr (fun t9 e1 hW => ⟨⟨(fd), rfl, (rep_fd1 h3 (hasB_hit (i := i) (by omega) ((lg_cmp_eq _ _).mp c18))).2, PR.at F hP hD hS e1 hW.alike⟩, hS.F e1⟩) hS.2.2 d_MD_find_21
  have hl := lv_sub hl [0, 1, 2] rfl
  have hl : lv_has ls 4 [(3, .int (nI 0)), (0, .ref (ma 0)), (1, .long t)] := hl
  exact lp2 (n - 0) 0 _ _ ls (by omega) rfl hP hD hS hl
set_option maxRecDepth 100000 in
set_option maxHeartbeats 4000000 in
theorem c_MD_findAll (l : Launch) (g : Gx) (ma : Nat → Nat) (cd : Int32) (tb : Nat → Int64) (hm : Nat → Int32) (kp : Nat → Int32) (td : Int32) (tt : Nat → Int32) (fd : Nat → Int64) (os : Int32) (oq : Nat → Int32) (vs : Int32) (sk : Nat → Int64) (X : va_W) (oo : Nat → Nat) (n : Nat) (L : List Int64) (t : Int64) (lev : Nat) (h1 : ∀ i, i < 6 → oo i < 6) (h2 : lev < 6) (h3 : rep fd n L) (h4 : n + 2 ^ lev ≤ 256) : Met l y_MD_findAll (w_MD_findAll :: TW) rm_MD_findAll (va_Pc [.ref (ma 0), .long t, .int (nI lev)] (PR g (MW g ma cd tb hm (nF oo) kp td tt (nI n) fd os oq vs sk ++ X))) (va_Qv (fun (u9 : (Nat → Int64)) => rep u9 ((faL oo lev t L (2 ^ lev)).length) (faL oo lev t L (2 ^ lev))) (fun u9 t9 => PR g (MW g ma cd tb hm (nF oo) kp td tt (nI ((faL oo lev t L (2 ^ lev)).length)) u9 os oq vs sk ++ X) t9) (gA g)) 0 0 (gA g) := by
  refine mt_of (by decide) (Nat.le_of_ble_eq_true rfl) ?_
  intro p e s m below meth c ls hx hb hr hml hlk hown ht hnm F hP hD hl
  have hl : lv_has ls 8 [(0, .ref (ma 0)), (1, .long t), (3, .int (nI lev))] := hl
  have hS : va_S (gA g) s.heap s.heap [] := va_S.rf
  have hp2 := Nat.two_pow_pos lev
  have hp3 := pw32 lev h2
  refine lv_iconst (v := nI 0) hx hb d_MD_findAll_0 (by decide) ?_
  refine lv_istore (lv' := [(4, .int (nI 0)), (0, .ref (ma 0)), (1, .long t), (3, .int (nI lev))]) hx hb d_MD_findAll_1 hl (by decide) rfl (fun ls hl => ?_)
  have lp3 : ∀ (j3 : Nat) (ch : Nat) (n1 : Nat) (fd1 : Nat → Int64) (H : Heap) (locs : List Loc) (ls : Array Slot), ch + j3 = (2 ^ lev) → (n1 = (faL oo lev t L ch).length) → (rep fd1 n1 (faL oo lev t L ch)) → (n1 ≤ n + ch) → va_P g.1 cl (MW g ma cd tb hm (nF oo) kp td tt (nI n1) fd1 os oq vs sk ++ X) H → va_D (gA g) (MW g ma cd tb hm (nF oo) kp td tt (nI n1) fd1 os oq vs sk ++ X) → va_S (gA g) s.heap H locs → lv_has ls 8 [(4, .int (nI ch)), (0, .ref (ma 0)), (1, .long t), (3, .int (nI lev))] → W p l e rm_MD_findAll s m [.ref (ma 0), .long t, .int (nI lev)].toArray below meth c H locs 0 0 (MQ below (va_Qv (fun (u9 : (Nat → Int64)) => rep u9 ((faL oo lev t L (2 ^ lev)).length) (faL oo lev t L (2 ^ lev))) (fun u9 t9 => PR g (MW g ma cd tb hm (nF oo) kp td tt (nI ((faL oo lev t L (2 ^ lev)).length)) u9 os oq vs sk ++ X) t9) (gA g)) [.ref (ma 0), .long t, .int (nI lev)].toArray s 0 0 (gA g)) (F0 m 3 ls []) := by
    intro j3
    induction j3 with
    | zero =>
      intro ch n1 fd1 H locs ls hj3 k1 k2 k3 hP hD hS hl
      refine lv_iload hx hb d_MD_findAll_3 (lv_at hl 0 rfl) ?_
      refine lv_iconst (v := nI 1) hx hb d_MD_findAll_5 (by decide) ?_
      refine lv_iload_n hx hb d_MD_findAll_6 rfl (lv_at hl 3 rfl) ?_
      refine lv_ishl hx hb d_MD_findAll_7 ?_
      rw [wt2 lev h2]
      refine rc_ge (tgt := 87) hx hb (Nat.lt_of_le_of_lt (m := 2 ^ lev) (by omega) (Nat.lt_of_le_of_lt (pw32 lev h2) (by decide))) (Nat.lt_of_le_of_lt (pw32 lev h2) (by decide)) d_MD_findAll_8 (by decide) (fun c8 => ?_) (fun c8 => ?_)
      · have hP : va_P g.1 cl (MW g ma cd tb hm (nF oo) kp td tt (nI ((faL oo lev t L (2 ^ lev)).length)) fd1 os oq vs sk ++ X) H := by rw [show 2 ^ lev = ch by omega, ← k1]; exact hP
        have hD : va_D (gA g) (MW g ma cd tb hm (nF oo) kp td tt (nI ((faL oo lev t L (2 ^ lev)).length)) fd1 os oq vs sk ++ X) := by rw [show 2 ^ lev = ch by omega, ← k1]; exact hD
        exact W.vret hx hb hr (fun t9 e1 hW => ⟨⟨(fd1), rfl, (by rw [show 2 ^ lev = ch by omega, ← k1]; exact k2), PR.at F hP hD hS e1 hW.alike⟩, hS.F e1⟩) hS.2.2 d_MD_findAll_87
      · exact (by omega : False).elim
    | succ j3 ih3 =>
      intro ch n1 fd1 H locs ls hj3 k1 k2 k3 hP hD hS hl
      refine lv_iload hx hb d_MD_findAll_3 (lv_at hl 0 rfl) ?_
      refine lv_iconst (v := nI 1) hx hb d_MD_findAll_5 (by decide) ?_
      refine lv_iload_n hx hb d_MD_findAll_6 rfl (lv_at hl 3 rfl) ?_
      refine lv_ishl hx hb d_MD_findAll_7 ?_
      rw [wt2 lev h2]
      refine rc_ge (tgt := 87) hx hb (Nat.lt_of_le_of_lt (m := 2 ^ lev) (by omega) (Nat.lt_of_le_of_lt (pw32 lev h2) (by decide))) (Nat.lt_of_le_of_lt (pw32 lev h2) (by decide)) d_MD_findAll_8 (by decide) (fun c8 => ?_) (fun c8 => ?_)
      · exact (by omega : False).elim
      · refine lv_lload_n hx hb d_MD_findAll_11 rfl (lv_at hl 2 rfl) ?_
        refine lv_lstore (lv' := [(5, .long t), (4, .int (nI ch)), (0, .ref (ma 0)), (1, .long t), (3, .int (nI lev))]) hx hb d_MD_findAll_12 hl (by decide) rfl (fun ls hl => ?_)
        refine lv_iconst (v := nI 0) hx hb d_MD_findAll_14 (by decide) ?_
        refine lv_istore (lv' := [(7, .int (nI 0)), (5, .long t), (4, .int (nI ch)), (0, .ref (ma 0)), (1, .long t), (3, .int (nI lev))]) hx hb d_MD_findAll_15 hl (by decide) rfl (fun ls hl => ?_)
        have lp17 : ∀ (j17 : Nat) (lv : Nat) (H : Heap) (locs : List Loc) (ls : Array Slot), lv + j17 = lev → va_P g.1 cl (MW g ma cd tb hm (nF oo) kp td tt (nI n1) fd1 os oq vs sk ++ X) H → va_D (gA g) (MW g ma cd tb hm (nF oo) kp td tt (nI n1) fd1 os oq vs sk ++ X) → va_S (gA g) s.heap H locs → lv_has ls 8 [(7, .int (nI lv)), (5, .long (cf oo ch t lv)), (4, .int (nI ch)), (0, .ref (ma 0)), (1, .long t), (3, .int (nI lev))] → W p l e rm_MD_findAll s m [.ref (ma 0), .long t, .int (nI lev)].toArray below meth c H locs 0 0 (MQ below (va_Qv (fun (u9 : (Nat → Int64)) => rep u9 ((faL oo lev t L (2 ^ lev)).length) (faL oo lev t L (2 ^ lev))) (fun u9 t9 => PR g (MW g ma cd tb hm (nF oo) kp td tt (nI ((faL oo lev t L (2 ^ lev)).length)) u9 os oq vs sk ++ X) t9) (gA g)) [.ref (ma 0), .long t, .int (nI lev)].toArray s 0 0 (gA g)) (F0 m 17 ls []) := by
          intro j17
          induction j17 with
          | zero =>
            intro lv H locs ls hj17 hP hD hS hl
            refine lv_iload hx hb d_MD_findAll_17 (lv_at hl 0 rfl) ?_
            refine lv_iload_n hx hb d_MD_findAll_19 rfl (lv_at hl 5 rfl) ?_
            refine rc_ge (tgt := 61) hx hb (by omega) (by omega) d_MD_findAll_20 (by decide) (fun c20 => ?_) (fun c20 => ?_)
            · obtain rfl : lev = lv := by omega
              refine lv_lload hx hb d_MD_findAll_61 (lv_at hl 1 rfl) ?_
              refine lv_aload_n hx hb d_MD_findAll_63 rfl (lv_at hl 3 rfl) ?_
              refine va_get (ci := 4) (v := .ref (ma 3)) (C := R_MD) (T := T_MD) (N := 13) hx hb ht i_MD hown F.2.1 hP 0 rfl rfl 3 (by decide) (ht _ tw_473) (fun _ h9 => h9) rfl d_MD_findAll_64 ?_
              refine lv_iload_n hx hb d_MD_findAll_67 rfl (lv_at hl 5 rfl) ?_
              refine ra_I hx hb F hP 3 rfl (by omega) (by decide) d_MD_findAll_68 ?_
              refine W.eq (g2 := F0 m 69 ls [.int (nI (oo lev)), .long (cf oo ch t lev)]) rfl ?_
              refine pc_Si (As := [.long (cf oo ch t lev), .int (nI (oo lev))]) (rest := []) hx hb (hml.trans hl.1.symm) hown ht F hP hD hS (c_MD_depends l g (MW g ma cd tb hm (nF oo) kp td tt (nI n1) fd1 os oq vs sk ++ X) (cf oo ch t lev) (oo lev) (h1 lev h2)) v_MD_depends tw_613 ⟨rfl, rfl⟩ ⟨by decide, by decide⟩ rfl rfl (Nat.le_of_ble_eq_true rfl) ⟨Nat.zero_le _, Nat.zero_le _⟩ d_MD_findAll_69 (fun r9 u9 H locs hq hP hD hS => ?_)
              subst hq
              refine lv_if_eq (tgt := 81) hx hb d_MD_findAll_72 (by decide) (fun c72 => ?_) (fun c72 => ?_)
              · refine lv_iinc (lv' := [(4, .int (nI (ch + 1))), (7, .int (nI lev)), (5, .long (cf oo ch t lev)), (0, .ref (ma 0)), (1, .long t), (3, .int (nI lev))]) hx hb d_MD_findAll_81 hl (k := 2) rfl (nI_1 _) (by decide) rfl (fun ls hl => ?_)
                refine lv_goto (tgt := 3) hx hb d_MD_findAll_84 (by decide) ?_
                have hl := lv_sub hl [0, 3, 4, 5] rfl
                have hl : lv_has ls 8 [(4, .int (nI ((ch + 1)))), (0, .ref (ma 0)), (1, .long t), (3, .int (nI lev))] := hl
                have hP : va_P g.1 cl (MW g ma cd tb hm (nF oo) kp td tt (nI n1) fd1 os oq vs sk ++ X) H := hP
                have hD : va_D (gA g) (MW g ma cd tb hm (nF oo) kp td tt (nI n1) fd1 os oq vs sk ++ X) := hD
                exact ih3 (ch + 1) n1 fd1 H locs ls (by omega) (by rw [show faL oo lev t L (ch + 1) = _ from if_pos (bI_nn c72)]; exact k1) (by rw [show faL oo lev t L (ch + 1) = _ from if_pos (bI_nn c72)]; exact k2) (by omega) hP hD hS hl
              · refine lv_aload_n hx hb d_MD_findAll_75 rfl (lv_at hl 3 rfl) ?_
                refine lv_lload hx hb d_MD_findAll_76 (lv_at hl 1 rfl) ?_
                refine pc_Vv (q0 := 0) (As := [.long (cf oo ch t lev)]) (rest := []) hx hb (hml.trans hl.1.symm) hown ht F hP hD hS (c_MD_find l g ma cd tb hm (nF oo) kp td tt fd1 os oq vs sk X n1 (faL oo lev t L ch) (cf oo ch t lev) (by omega) k2) v_MD_find tw_624 ⟨rfl, rfl⟩ ⟨by decide, by decide⟩ rfl rfl rfl rfl (Nat.le_of_ble_eq_true rfl) ⟨Nat.zero_le _, Nat.zero_le _⟩ d_MD_findAll_78 (fun u9 H locs hq hP hD hS => ?_)
                obtain ⟨fd78, rfl⟩ : ∃ z9, z9 = u9 := ⟨_, rfl⟩
                have pq78 := hq
                have pq78 : rep fd78 ((adU (faL oo lev t L ch) (cf oo ch t lev)).length) (adU (faL oo lev t L ch) (cf oo ch t lev)) := pq78
                have hP : va_P g.1 cl (MW g ma cd tb hm (nF oo) kp td tt (nI ((adU (faL oo lev t L ch) (cf oo ch t lev)).length)) fd78 os oq vs sk ++ X) H := hP
                have hD : va_D (gA g) (MW g ma cd tb hm (nF oo) kp td tt (nI ((adU (faL oo lev t L ch) (cf oo ch t lev)).length)) fd78 os oq vs sk ++ X) := hD
                refine lv_iinc (lv' := [(4, .int (nI (ch + 1))), (7, .int (nI lev)), (5, .long (cf oo ch t lev)), (0, .ref (ma 0)), (1, .long t), (3, .int (nI lev))]) hx hb d_MD_findAll_81 hl (k := 2) rfl (nI_1 _) (by decide) rfl (fun ls hl => ?_)
                refine lv_goto (tgt := 3) hx hb d_MD_findAll_84 (by decide) ?_
                have hl := lv_sub hl [0, 3, 4, 5] rfl
                have hl : lv_has ls 8 [(4, .int (nI ((ch + 1)))), (0, .ref (ma 0)), (1, .long t), (3, .int (nI lev))] := hl
                have hP : va_P g.1 cl (MW g ma cd tb hm (nF oo) kp td tt (nI ((adU (faL oo lev t L ch) (cf oo ch t lev)).length)) fd78 os oq vs sk ++ X) H := hP
                have hD : va_D (gA g) (MW g ma cd tb hm (nF oo) kp td tt (nI ((adU (faL oo lev t L ch) (cf oo ch t lev)).length)) fd78 os oq vs sk ++ X) := hD
                exact ih3 (ch + 1) ((adU (faL oo lev t L ch) (cf oo ch t lev)).length) fd78 H locs ls (by omega) (by rw [show faL oo lev t L (ch + 1) = _ from if_neg (bI_n0 c72)]) (by rw [show faL oo lev t L (ch + 1) = _ from if_neg (bI_n0 c72)]; exact pq78) (Nat.le_trans (adU_le _ _) (by rw [← k1]; omega)) hP hD hS hl
            · exact (by omega : False).elim
          | succ j17 ih17 =>
            intro lv H locs ls hj17 hP hD hS hl
            refine lv_iload hx hb d_MD_findAll_17 (lv_at hl 0 rfl) ?_
            refine lv_iload_n hx hb d_MD_findAll_19 rfl (lv_at hl 5 rfl) ?_
            refine rc_ge (tgt := 61) hx hb (by omega) (by omega) d_MD_findAll_20 (by decide) (fun c20 => ?_) (fun c20 => ?_)
            · exact (by omega : False).elim
            · refine lv_lload hx hb d_MD_findAll_23 (lv_at hl 1 rfl) ?_
              refine lv_aload_n hx hb d_MD_findAll_25 rfl (lv_at hl 3 rfl) ?_
              refine va_get (ci := 4) (v := .ref (ma 3)) (C := R_MD) (T := T_MD) (N := 13) hx hb ht i_MD hown F.2.1 hP 0 rfl rfl 3 (by decide) (ht _ tw_473) (fun _ h9 => h9) rfl d_MD_findAll_26 ?_
              refine lv_iload hx hb d_MD_findAll_29 (lv_at hl 0 rfl) ?_
              refine ra_I hx hb F hP 3 rfl (by omega) (by decide) d_MD_findAll_31 ?_
              refine W.eq (g2 := F0 m 32 ls [.int (nI (oo lv)), .long (cf oo ch t lv)]) rfl ?_
              refine lv_iload hx hb d_MD_findAll_32 (lv_at hl 2 rfl) ?_
              refine lv_iload hx hb d_MD_findAll_34 (lv_at hl 0 rfl) ?_
              refine lv_ishr hx hb d_MD_findAll_36 ?_
              refine lv_iconst (v := nI 1) hx hb d_MD_findAll_37 (by decide) ?_
              refine lv_iand hx hb d_MD_findAll_38 ?_
              refine lv_iconst (v := nI 1) hx hb d_MD_findAll_39 (by decide) ?_
              refine lv_icmp_ne (tgt := 49) hx hb d_MD_findAll_40 (by decide) (fun c40 => ?_) (fun c40 => ?_)
              · refine lv_lconst (v := 0) hx hb d_MD_findAll_49 (by decide) ?_
                refine pc_Sl (As := [.long (cf oo ch t lv), .int (nI (oo lv)), .long 0]) (rest := []) hx hb (hml.trans hl.1.symm) hown ht F hP hD hS (c_MD_with l g (MW g ma cd tb hm (nF oo) kp td tt (nI n1) fd1 os oq vs sk ++ X) (cf oo ch t lv) (oo lv) 0 (h1 lv (by omega))) v_MD_with tw_547 ⟨rfl, rfl⟩ ⟨by decide, by decide⟩ rfl rfl (Nat.le_of_ble_eq_true rfl) ⟨Nat.zero_le _, Nat.zero_le _⟩ d_MD_findAll_50 (fun r9 u9 H locs hq hP hD hS => ?_)
                subst hq
                rw [CH_0]
                refine lv_lstore (lv' := [(5, .long (W0 (cf oo ch t lv) (oo lv))), (7, .int (nI lv)), (4, .int (nI ch)), (0, .ref (ma 0)), (1, .long t), (3, .int (nI lev))]) hx hb d_MD_findAll_53 hl (by decide) rfl (fun ls hl => ?_)
                refine lv_iinc (lv' := [(7, .int (nI (lv + 1))), (5, .long (W0 (cf oo ch t lv) (oo lv))), (4, .int (nI ch)), (0, .ref (ma 0)), (1, .long t), (3, .int (nI lev))]) hx hb d_MD_findAll_55 hl (k := 1) rfl (nI_1 _) (by decide) rfl (fun ls hl => ?_)
                refine lv_goto (tgt := 17) hx hb d_MD_findAll_58 (by decide) ?_
                have hl := lv_sub hl [0, 1, 2, 3, 4, 5] rfl
                have hl : lv_has ls 8 [(7, .int (nI ((lv + 1)))), (5, .long (cf oo ch t (lv + 1))), (4, .int (nI ch)), (0, .ref (ma 0)), (1, .long t), (3, .int (nI lev))] := by rw [show cf oo ch t (lv + 1) = _ from if_neg (fun z => c40 ((tb_eq ch (by omega) lv (by omega)).mpr z))]; exact hl
                exact ih17 (lv + 1) H locs ls (by omega)  hP hD hS hl
              · refine lv_ldc2 (v := (-1)) hx hb hown (ht _ tw_527) d_MD_findAll_43 ?_
                refine lv_goto (tgt := 50) hx hb d_MD_findAll_46 (by decide) ?_
                refine pc_Sl (As := [.long (cf oo ch t lv), .int (nI (oo lv)), .long (-1)]) (rest := []) hx hb (hml.trans hl.1.symm) hown ht F hP hD hS (c_MD_with l g (MW g ma cd tb hm (nF oo) kp td tt (nI n1) fd1 os oq vs sk ++ X) (cf oo ch t lv) (oo lv) (-1) (h1 lv (by omega))) v_MD_with tw_547 ⟨rfl, rfl⟩ ⟨by decide, by decide⟩ rfl rfl (Nat.le_of_ble_eq_true rfl) ⟨Nat.zero_le _, Nat.zero_le _⟩ d_MD_findAll_50 (fun r9 u9 H locs hq hP hD hS => ?_)
                subst hq
                rw [CH_m]
                refine lv_lstore (lv' := [(5, .long (W1 (cf oo ch t lv) (oo lv))), (7, .int (nI lv)), (4, .int (nI ch)), (0, .ref (ma 0)), (1, .long t), (3, .int (nI lev))]) hx hb d_MD_findAll_53 hl (by decide) rfl (fun ls hl => ?_)
                refine lv_iinc (lv' := [(7, .int (nI (lv + 1))), (5, .long (W1 (cf oo ch t lv) (oo lv))), (4, .int (nI ch)), (0, .ref (ma 0)), (1, .long t), (3, .int (nI lev))]) hx hb d_MD_findAll_55 hl (k := 1) rfl (nI_1 _) (by decide) rfl (fun ls hl => ?_)
                refine lv_goto (tgt := 17) hx hb d_MD_findAll_58 (by decide) ?_
                have hl := lv_sub hl [0, 1, 2, 3, 4, 5] rfl
                have hl : lv_has ls 8 [(7, .int (nI ((lv + 1)))), (5, .long (cf oo ch t (lv + 1))), (4, .int (nI ch)), (0, .ref (ma 0)), (1, .long t), (3, .int (nI lev))] := by rw [show cf oo ch t (lv + 1) = _ from if_pos ((tb_eq ch (by omega) lv (by omega)).mp c40)]; exact hl
                exact ih17 (lv + 1) H locs ls (by omega)  hP hD hS hl
        have hl := lv_sub hl [0, 1, 2, 3, 4, 5] rfl
        have hl : lv_has ls 8 [(7, .int (nI 0)), (5, .long (cf oo ch t 0)), (4, .int (nI ch)), (0, .ref (ma 0)), (1, .long t), (3, .int (nI lev))] := hl
        exact lp17 (lev - 0) 0 _ _ ls (by omega)  hP hD hS hl
  have hl := lv_sub hl [0, 1, 2, 3] rfl
  have hl : lv_has ls 8 [(4, .int (nI 0)), (0, .ref (ma 0)), (1, .long t), (3, .int (nI lev))] := hl
  have hP : va_P g.1 cl (MW g ma cd tb hm (nF oo) kp td tt (nI n) fd os oq vs sk ++ X) s.heap := hP
  have hD : va_D (gA g) (MW g ma cd tb hm (nF oo) kp td tt (nI n) fd os oq vs sk ++ X) := hD
  exact lp3 ((2 ^ lev) - 0) 0 n fd _ _ ls (by omega) (rep_len h3).symm h3 (by omega) hP hD hS hl
set_option maxRecDepth 100000 in
set_option maxHeartbeats 4000000 in
theorem c_MD_widthOf (l : Launch) (g : Gx) (ma : Nat → Nat) (cd : Int32) (tb : Nat → Int64) (hm : Nat → Int32) (kp : Nat → Int32) (td : Int32) (tt : Nat → Int32) (ct : Int32) (fd : Nat → Int64) (os : Int32) (oq : Nat → Int32) (vs : Int32) (sk : Nat → Int64) (X : va_W) (oo : Nat → Nat) (lev : Nat) (h1 : ∀ i, i < 6 → oo i < 6) (h2 : lev < 6) : Met l y_MD_widthOf (w_MD_widthOf :: TW) rm_MD_widthOf (va_Pc [.ref (ma 0), .int (nI lev)] (PR g (MW g ma cd tb hm (nF oo) kp td tt ct fd os oq vs sk ++ X))) (va_Qi (fun r9 (u9 : (Nat → Int64)) => r9 = nI ((woL oo lev tb hm 8).length) ∧ (True)) (fun u9 t9 => PR g (MW g ma cd tb hm (nF oo) kp td tt (nI ((woL oo lev tb hm 8).length)) u9 os oq vs sk ++ X) t9) (gA g)) 0 0 (gA g) := by
  refine mt_of (by decide) (Nat.le_of_ble_eq_true rfl) ?_
  intro p e s m below meth c ls hx hb hr hml hlk hown ht hnm F hP hD hl
  have hl : lv_has ls 3 [(0, .ref (ma 0)), (1, .int (nI lev))] := hl
  have hS : va_S (gA g) s.heap s.heap [] := va_S.rf
  refine lv_aload_n hx hb d_MD_widthOf_0 rfl (lv_at hl 0 rfl) ?_
  refine lv_iconst (v := nI 0) hx hb d_MD_widthOf_1 (by decide) ?_
  refine va_put (ci := 4) (v := .int (nI 0)) (ty := .int) (C := R_MD) (T := T_MD) (N := 13) hx hb ht i_MD t_MD t_MD_ok n_MD hown F.2.1 hP hD hS 0 rfl rfl 7 (by decide) (ht _ tw_477) (fun _ h9 => h9) rfl (by decide +kernel) rfl rfl (Nat.le_of_ble_eq_true rfl) d_MD_widthOf_2 (fun H locs hP hD hS => ?_)
  have hP : va_P g.1 cl (MW g ma cd tb hm (nF oo) kp td tt (nI 0) fd os oq vs sk ++ X) H := hP
  have hD : va_D (gA g) (MW g ma cd tb hm (nF oo) kp td tt (nI 0) fd os oq vs sk ++ X) := hD
  refine lv_iconst (v := nI 0) hx hb d_MD_widthOf_5 (by decide) ?_
  refine lv_istore_n (lv' := [(2, .int (nI 0)), (0, .ref (ma 0)), (1, .int (nI lev))]) hx hb d_MD_widthOf_6 rfl hl (by decide) rfl (fun ls hl => ?_)
  have lp7 : ∀ (j7 : Nat) (i : Nat) (n1 : Nat) (fd1 : Nat → Int64) (H : Heap) (locs : List Loc) (ls : Array Slot), i + j7 = 8 → (n1 = (woL oo lev tb hm i).length) → (rep fd1 n1 (woL oo lev tb hm i)) → va_P g.1 cl (MW g ma cd tb hm (nF oo) kp td tt (nI n1) fd1 os oq vs sk ++ X) H → va_D (gA g) (MW g ma cd tb hm (nF oo) kp td tt (nI n1) fd1 os oq vs sk ++ X) → va_S (gA g) s.heap H locs → lv_has ls 3 [(2, .int (nI i)), (0, .ref (ma 0)), (1, .int (nI lev))] → W p l e rm_MD_widthOf s m [.ref (ma 0), .int (nI lev)].toArray below meth c H locs 0 0 (MQ below (va_Qi (fun r9 (u9 : (Nat → Int64)) => r9 = nI ((woL oo lev tb hm 8).length) ∧ (True)) (fun u9 t9 => PR g (MW g ma cd tb hm (nF oo) kp td tt (nI ((woL oo lev tb hm 8).length)) u9 os oq vs sk ++ X) t9) (gA g)) [.ref (ma 0), .int (nI lev)].toArray s 0 0 (gA g)) (F0 m 7 ls []) := by
    intro j7
    induction j7 with
    | zero =>
      intro i n1 fd1 H locs ls hj7 k1 k2 hP hD hS hl
      refine lv_iload_n hx hb d_MD_widthOf_7 rfl (lv_at hl 0 rfl) ?_
      refine lv_bipush (v := nI 8) hx hb d_MD_widthOf_8 (by decide) ?_
      refine rc_ge (tgt := 39) hx hb (by omega) (by omega) d_MD_widthOf_10 (by decide) (fun c10 => ?_) (fun c10 => ?_)
      · refine lv_aload_n hx hb d_MD_widthOf_39 rfl (lv_at hl 1 rfl) ?_
        refine va_get (ci := 4) (v := .int (nI n1)) (C := R_MD) (T := T_MD) (N := 13) hx hb ht i_MD hown F.2.1 hP 0 rfl rfl 7 (by decide) (ht _ tw_477) (fun _ h9 => h9) rfl d_MD_widthOf_40 ?_
        have hP : va_P g.1 cl (MW g ma cd tb hm (nF oo) kp td tt (nI ((woL oo lev tb hm 8).length)) fd1 os oq vs sk ++ X) H := by rw [show (woL oo lev tb hm 8).length = n1 by rw [k1, show i = 8 by omega]]; exact hP
        have hD : va_D (gA g) (MW g ma cd tb hm (nF oo) kp td tt (nI ((woL oo lev tb hm 8).length)) fd1 os oq vs sk ++ X) := by rw [show (woL oo lev tb hm 8).length = n1 by rw [k1, show i = 8 by omega]]; exact hD
        exact W.iret (v := nI n1) hx hb hr (fun t9 e1 hW => ⟨⟨_, (fd1), rfl, ⟨(by rw [k1, show i = 8 by omega]), trivial⟩, PR.at F hP hD hS e1 hW.alike⟩, hS.F e1⟩) hS.2.2 d_MD_widthOf_43
      · exact (by omega : False).elim
    | succ j7 ih7 =>
      intro i n1 fd1 H locs ls hj7 k1 k2 hP hD hS hl
      refine lv_iload_n hx hb d_MD_widthOf_7 rfl (lv_at hl 0 rfl) ?_
      refine lv_bipush (v := nI 8) hx hb d_MD_widthOf_8 (by decide) ?_
      refine rc_ge (tgt := 39) hx hb (by omega) (by omega) d_MD_widthOf_10 (by decide) (fun c10 => ?_) (fun c10 => ?_)
      · exact (by omega : False).elim
      · refine lv_aload_n hx hb d_MD_widthOf_13 rfl (lv_at hl 1 rfl) ?_
        refine va_get (ci := 4) (v := .ref (ma 2)) (C := R_MD) (T := T_MD) (N := 13) hx hb ht i_MD hown F.2.1 hP 0 rfl rfl 2 (by decide) (ht _ tw_472) (fun _ h9 => h9) rfl d_MD_widthOf_14 ?_
        refine lv_iload_n hx hb d_MD_widthOf_17 rfl (lv_at hl 0 rfl) ?_
        refine ra_Z hx hb F hP 2 rfl (by omega) (by decide) d_MD_widthOf_18 ?_
        refine lv_if_eq (tgt := 33) hx hb d_MD_widthOf_19 (by decide) (fun c19 => ?_) (fun c19 => ?_)
        · refine lv_iinc (lv' := [(2, .int (nI (i + 1))), (0, .ref (ma 0)), (1, .int (nI lev))]) hx hb d_MD_widthOf_33 hl (k := 0) rfl (nI_1 _) (by decide) rfl (fun ls hl => ?_)
          refine lv_goto (tgt := 7) hx hb d_MD_widthOf_36 (by decide) ?_
          have hl := lv_sub hl [0, 1, 2] rfl
          have hl : lv_has ls 3 [(2, .int (nI ((i + 1)))), (0, .ref (ma 0)), (1, .int (nI lev))] := hl
          have hP : va_P g.1 cl (MW g ma cd tb hm (nF oo) kp td tt (nI n1) fd1 os oq vs sk ++ X) H := hP
          have hD : va_D (gA g) (MW g ma cd tb hm (nF oo) kp td tt (nI n1) fd1 os oq vs sk ++ X) := hD
          exact ih7 (i + 1) n1 fd1 H locs ls (by omega) (by rw [show woL oo lev tb hm (i + 1) = _ from if_pos c19]; exact k1) (by rw [show woL oo lev tb hm (i + 1) = _ from if_pos c19]; exact k2) hP hD hS hl
        · refine lv_aload_n hx hb d_MD_widthOf_22 rfl (lv_at hl 1 rfl) ?_
          refine lv_aload_n hx hb d_MD_widthOf_23 rfl (lv_at hl 1 rfl) ?_
          refine va_get (ci := 4) (v := .ref (ma 1)) (C := R_MD) (T := T_MD) (N := 13) hx hb ht i_MD hown F.2.1 hP 0 rfl rfl 1 (by decide) (ht _ tw_471) (fun _ h9 => h9) rfl d_MD_widthOf_24 ?_
          refine lv_iload_n hx hb d_MD_widthOf_27 rfl (lv_at hl 0 rfl) ?_
          refine ra_J hx hb F hP 1 rfl (by omega) (by decide) d_MD_widthOf_28 ?_
          refine lv_iload_n hx hb d_MD_widthOf_29 rfl (lv_at hl 2 rfl) ?_
          refine pc_Vv (q0 := 0) (As := [.long (tb i), .int (nI lev)]) (rest := []) hx hb (hml.trans hl.1.symm) hown ht F hP hD hS (c_MD_findAll l g ma cd tb hm kp td tt fd1 os oq vs sk X oo n1 (woL oo lev tb hm i) (tb i) lev h1 h2 k2 (by rw [k1]; exact wo_room h2 (by omega))) v_MD_findAll tw_620 ⟨rfl, rfl⟩ ⟨by decide, by decide⟩ rfl rfl rfl rfl (Nat.le_of_ble_eq_true rfl) ⟨Nat.zero_le _, Nat.zero_le _⟩ d_MD_widthOf_30 (fun u9 H locs hq hP hD hS => ?_)
          obtain ⟨fd30, rfl⟩ : ∃ z9, z9 = u9 := ⟨_, rfl⟩
          have pq30 := hq
          have pq30 : rep fd30 ((faL oo lev (tb i) (woL oo lev tb hm i) (2 ^ lev)).length) (faL oo lev (tb i) (woL oo lev tb hm i) (2 ^ lev)) := pq30
          have hP : va_P g.1 cl (MW g ma cd tb hm (nF oo) kp td tt (nI ((faL oo lev (tb i) (woL oo lev tb hm i) (2 ^ lev)).length)) fd30 os oq vs sk ++ X) H := hP
          have hD : va_D (gA g) (MW g ma cd tb hm (nF oo) kp td tt (nI ((faL oo lev (tb i) (woL oo lev tb hm i) (2 ^ lev)).length)) fd30 os oq vs sk ++ X) := hD
          refine lv_iinc (lv' := [(2, .int (nI (i + 1))), (0, .ref (ma 0)), (1, .int (nI lev))]) hx hb d_MD_widthOf_33 hl (k := 0) rfl (nI_1 _) (by decide) rfl (fun ls hl => ?_)
          refine lv_goto (tgt := 7) hx hb d_MD_widthOf_36 (by decide) ?_
          have hl := lv_sub hl [0, 1, 2] rfl
          have hl : lv_has ls 3 [(2, .int (nI ((i + 1)))), (0, .ref (ma 0)), (1, .int (nI lev))] := hl
          have hP : va_P g.1 cl (MW g ma cd tb hm (nF oo) kp td tt (nI ((faL oo lev (tb i) (woL oo lev tb hm i) (2 ^ lev)).length)) fd30 os oq vs sk ++ X) H := hP
          have hD : va_D (gA g) (MW g ma cd tb hm (nF oo) kp td tt (nI ((faL oo lev (tb i) (woL oo lev tb hm i) (2 ^ lev)).length)) fd30 os oq vs sk ++ X) := hD
          exact ih7 (i + 1) ((faL oo lev (tb i) (woL oo lev tb hm i) (2 ^ lev)).length) fd30 H locs ls (by omega) (by rw [show woL oo lev tb hm (i + 1) = _ from if_neg c19]) (by rw [show woL oo lev tb hm (i + 1) = _ from if_neg c19]; exact pq30) hP hD hS hl
  have hl := lv_sub hl [0, 1, 2] rfl
  have hl : lv_has ls 3 [(2, .int (nI 0)), (0, .ref (ma 0)), (1, .int (nI lev))] := hl
  have hP : va_P g.1 cl (MW g ma cd tb hm (nF oo) kp td tt (nI 0) fd os oq vs sk ++ X) H := hP
  have hD : va_D (gA g) (MW g ma cd tb hm (nF oo) kp td tt (nI 0) fd os oq vs sk ++ X) := hD
  exact lp7 (8 - 0) 0 0 fd _ _ ls (by omega) rfl rfl hP hD hS hl
set_option maxRecDepth 100000 in
set_option maxHeartbeats 4000000 in
theorem c_MD_all (l : Launch) (g : Gx) (ma : Nat → Nat) (cd : Int32) (tb : Nat → Int64) (hm : Nat → Int32) (kp : Nat → Int32) (td : Int32) (tt : Nat → Int32) (ct : Int32) (fd : Nat → Int64) (os : Int32) (oq : Nat → Int32) (vs : Int32) (sk : Nat → Int64) (X : va_W) (oo : Nat → Nat) (h1 : ∀ i, i < 6 → oo i < 6) : Met l y_MD_all (w_MD_all :: TW) rm_MD_all (va_Pc [.ref (ma 0)] (PR g (MW g ma cd tb hm (nF oo) kp td tt ct fd os oq vs sk ++ X))) (va_Qi (fun r9 (u9 : (Int32) × (Nat → Int64)) => r9 = nI (alL oo tb hm 6) ∧ (True)) (fun u9 t9 => PR g (MW g ma cd tb hm (nF oo) kp td tt u9.1 u9.2 os oq vs sk ++ X) t9) (gA g)) 0 0 (gA g) := by
  refine mt_of (by decide) (Nat.le_of_ble_eq_true rfl) ?_
  intro p e s m below meth c ls hx hb hr hml hlk hown ht hnm F hP hD hl
  have hl : lv_has ls 3 [(0, .ref (ma 0))] := hl
  have hS : va_S (gA g) s.heap s.heap [] := va_S.rf
  refine lv_iconst (v := nI 0) hx hb d_MD_all_0 (by decide) ?_
  refine lv_istore_n (lv' := [(1, .int (nI 0)), (0, .ref (ma 0))]) hx hb d_MD_all_1 rfl hl (by decide) rfl (fun ls hl => ?_)
  refine lv_iconst (v := nI 0) hx hb d_MD_all_2 (by decide) ?_
  refine lv_istore_n (lv' := [(2, .int (nI 0)), (1, .int (nI 0)), (0, .ref (ma 0))]) hx hb d_MD_all_3 rfl hl (by decide) rfl (fun ls hl => ?_)
  have lp4 : ∀ (j4 : Nat) (i : Nat) (ct1 : Int32) (fd1 : Nat → Int64) (H : Heap) (locs : List Loc) (ls : Array Slot), i + j4 = 6 → va_P g.1 cl (MW g ma cd tb hm (nF oo) kp td tt ct1 fd1 os oq vs sk ++ X) H → va_D (gA g) (MW g ma cd tb hm (nF oo) kp td tt ct1 fd1 os oq vs sk ++ X) → va_S (gA g) s.heap H locs → lv_has ls 3 [(2, .int (nI i)), (1, .int (nI (alL oo tb hm i))), (0, .ref (ma 0))] → W p l e rm_MD_all s m [.ref (ma 0)].toArray below meth c H locs 0 0 (MQ below (va_Qi (fun r9 (u9 : (Int32) × (Nat → Int64)) => r9 = nI (alL oo tb hm 6) ∧ (True)) (fun u9 t9 => PR g (MW g ma cd tb hm (nF oo) kp td tt u9.1 u9.2 os oq vs sk ++ X) t9) (gA g)) [.ref (ma 0)].toArray s 0 0 (gA g)) (F0 m 4 ls []) := by
    intro j4
    induction j4 with
    | zero =>
      intro i ct1 fd1 H locs ls hj4 hP hD hS hl
      refine lv_iload_n hx hb d_MD_all_4 rfl (lv_at hl 0 rfl) ?_
      refine lv_bipush (v := nI 6) hx hb d_MD_all_5 (by decide) ?_
      refine rc_ge (tgt := 24) hx hb (by omega) (by omega) d_MD_all_7 (by decide) (fun c7 => ?_) (fun c7 => ?_)
      · refine lv_iload_n hx hb d_MD_all_24 rfl (lv_at hl 1 rfl) ?_
        exact W.iret (v := nI (alL oo tb hm i)) hx hb hr (fun t9 e1 hW => ⟨⟨_, (ct1, fd1), rfl, ⟨(by rw [show i = 6 by omega]), trivial⟩, PR.at F hP hD hS e1 hW.alike⟩, hS.F e1⟩) hS.2.2 d_MD_all_25
      · exact (by omega : False).elim
    | succ j4 ih4 =>
      intro i ct1 fd1 H locs ls hj4 hP hD hS hl
      refine lv_iload_n hx hb d_MD_all_4 rfl (lv_at hl 0 rfl) ?_
      refine lv_bipush (v := nI 6) hx hb d_MD_all_5 (by decide) ?_
      refine rc_ge (tgt := 24) hx hb (by omega) (by omega) d_MD_all_7 (by decide) (fun c7 => ?_) (fun c7 => ?_)
      · exact (by omega : False).elim
      · refine lv_iload_n hx hb d_MD_all_10 rfl (lv_at hl 1 rfl) ?_
        refine lv_aload_n hx hb d_MD_all_11 rfl (lv_at hl 2 rfl) ?_
        refine lv_iload_n hx hb d_MD_all_12 rfl (lv_at hl 0 rfl) ?_
        refine pc_Vi (q0 := 0) (As := [.int (nI i)]) (rest := [.int (nI (alL oo tb hm i))]) hx hb (hml.trans hl.1.symm) hown ht F hP hD hS (c_MD_widthOf l g ma cd tb hm kp td tt ct1 fd1 os oq vs sk X oo i h1 (by omega)) v_MD_widthOf tw_636 ⟨rfl, rfl⟩ ⟨by decide, by decide⟩ rfl rfl rfl rfl (Nat.le_of_ble_eq_true rfl) ⟨Nat.zero_le _, Nat.zero_le _⟩ d_MD_all_13 (fun r9 u9 H locs hq hP hD hS => ?_)
        obtain ⟨fd13, rfl⟩ : ∃ z9, z9 = u9 := ⟨_, rfl⟩
        obtain ⟨hq, pq13⟩ := hq
        have pq13 : True := pq13
        subst hq
        have hP : va_P g.1 cl (MW g ma cd tb hm (nF oo) kp td tt (nI ((woL oo i tb hm 8).length)) fd13 os oq vs sk ++ X) H := hP
        have hD : va_D (gA g) (MW g ma cd tb hm (nF oo) kp td tt (nI ((woL oo i tb hm 8).length)) fd13 os oq vs sk ++ X) := hD
        refine rn_add hx hb d_MD_all_16 ?_
        refine lv_istore_n (lv' := [(1, .int (nI ((alL oo tb hm i) + ((woL oo i tb hm 8).length)))), (2, .int (nI i)), (0, .ref (ma 0))]) hx hb d_MD_all_17 rfl hl (by decide) rfl (fun ls hl => ?_)
        refine lv_iinc (lv' := [(2, .int (nI (i + 1))), (1, .int (nI ((alL oo tb hm i) + ((woL oo i tb hm 8).length)))), (0, .ref (ma 0))]) hx hb d_MD_all_18 hl (k := 1) rfl (nI_1 _) (by decide) rfl (fun ls hl => ?_)
        refine lv_goto (tgt := 4) hx hb d_MD_all_21 (by decide) ?_
        have hl := lv_sub hl [0, 1, 2] rfl
        have hl : lv_has ls 3 [(2, .int (nI ((i + 1)))), (1, .int (nI (alL oo tb hm (i + 1)))), (0, .ref (ma 0))] := by rw [show alL oo tb hm (i + 1) = alL oo tb hm i + (woL oo i tb hm 8).length from rfl]; exact hl
        have hP : va_P g.1 cl (MW g ma cd tb hm (nF oo) kp td tt ((nI ((woL oo i tb hm 8).length))) fd13 os oq vs sk ++ X) H := hP
        have hD : va_D (gA g) (MW g ma cd tb hm (nF oo) kp td tt ((nI ((woL oo i tb hm 8).length))) fd13 os oq vs sk ++ X) := hD
        exact ih4 (i + 1) (nI ((woL oo i tb hm 8).length)) fd13 H locs ls (by omega)  hP hD hS hl
  have hl := lv_sub hl [0, 1, 2] rfl
  have hl : lv_has ls 3 [(2, .int (nI 0)), (1, .int (nI (alL oo tb hm 0))), (0, .ref (ma 0))] := hl
  have hP : va_P g.1 cl (MW g ma cd tb hm (nF oo) kp td tt ct fd os oq vs sk ++ X) s.heap := hP
  have hD : va_D (gA g) (MW g ma cd tb hm (nF oo) kp td tt ct fd os oq vs sk ++ X) := hD
  exact lp4 (6 - 0) 0 ct fd _ _ ls (by omega)  hP hD hS hl
set_option maxRecDepth 100000 in
set_option maxHeartbeats 4000000 in
theorem c_MD_size (l : Launch) (g : Gx) (ma : Nat → Nat) (cd : Int32) (tb : Nat → Int64) (hm : Nat → Int32) (kp : Nat → Int32) (td : Int32) (tt : Nat → Int32) (ct : Int32) (fd : Nat → Int64) (os : Int32) (oq : Nat → Int32) (vs : Int32) (sk : Nat → Int64) (X : va_W) (oo : Nat → Nat) (a : Nat) (g_a : a < 8) (e_a : hm a = 1) (h1 : ∀ i, i < 6 → oo i < 6) : Met l y_MD_size (w_MD_size :: TW) rm_MD_size (va_Pc [.ref (ma 0), .int (nI a)] (PR g (MW g ma cd tb hm (nF oo) kp td tt ct fd os oq vs sk ++ X))) (va_Qi (fun r9 (u9 : (Int32) × (Nat → Int64)) => r9 = nI (szL oo (tb a) 6) ∧ (True)) (fun u9 t9 => PR g (MW g ma (nI 0) tb hm (nF oo) kp td tt u9.1 u9.2 os oq vs sk ++ X) t9) (gA g)) 0 0 (gA g) := by
  refine mt_of (by decide) (Nat.le_of_ble_eq_true rfl) ?_
  intro p e s m below meth c ls hx hb hr hml hlk hown ht hnm F hP hD hl
  have hl : lv_has ls 4 [(0, .ref (ma 0)), (1, .int (nI a))] := hl
  have hS : va_S (gA g) s.heap s.heap [] := va_S.rf
  refine lv_aload_n hx hb d_MD_size_0 rfl (lv_at hl 0 rfl) ?_
  refine lv_aload_n hx hb d_MD_size_1 rfl (lv_at hl 0 rfl) ?_
  refine lv_iload_n hx hb d_MD_size_2 rfl (lv_at hl 1 rfl) ?_
  refine pc_Vi (q0 := 0) (As := [.int (nI a)]) (rest := [.ref (ma 0)]) hx hb (hml.trans hl.1.symm) hown ht F hP hD hS (c_MD_lack l g ma cd tb hm (nF oo) kp td tt ct fd os oq vs sk X a (by omega) e_a) v_MD_lack tw_601 ⟨rfl, rfl⟩ ⟨by decide, by decide⟩ rfl rfl rfl rfl (Nat.le_of_ble_eq_true rfl) ⟨Nat.zero_le _, Nat.zero_le _⟩ d_MD_size_3 (fun r9 u9 H locs hq hP hD hS => ?_)
  subst hq
  refine va_put (ci := 4) (v := .int (nI 0)) (ty := .int) (C := R_MD) (T := T_MD) (N := 13) hx hb ht i_MD t_MD t_MD_ok n_MD hown F.2.1 hP hD hS 0 rfl rfl 0 (by decide) (ht _ tw_470) (fun _ h9 => h9) rfl (by decide +kernel) rfl rfl (Nat.le_of_ble_eq_true rfl) d_MD_size_6 (fun H locs hP hD hS => ?_)
  have hP : va_P g.1 cl (MW g ma (nI 0) tb hm (nF oo) kp td tt ct fd os oq vs sk ++ X) H := hP
  have hD : va_D (gA g) (MW g ma (nI 0) tb hm (nF oo) kp td tt ct fd os oq vs sk ++ X) := hD
  refine lv_iconst (v := nI 0) hx hb d_MD_size_9 (by decide) ?_
  refine lv_istore_n (lv' := [(2, .int (nI 0)), (0, .ref (ma 0)), (1, .int (nI a))]) hx hb d_MD_size_10 rfl hl (by decide) rfl (fun ls hl => ?_)
  refine lv_iconst (v := nI 0) hx hb d_MD_size_11 (by decide) ?_
  refine lv_istore_n (lv' := [(3, .int (nI 0)), (2, .int (nI 0)), (0, .ref (ma 0)), (1, .int (nI a))]) hx hb d_MD_size_12 rfl hl (by decide) rfl (fun ls hl => ?_)
  have lp13 : ∀ (j13 : Nat) (i : Nat) (ct1 : Int32) (fd1 : Nat → Int64) (H : Heap) (locs : List Loc) (ls : Array Slot), i + j13 = 6 → va_P g.1 cl (MW g ma (nI 0) tb hm (nF oo) kp td tt ct1 fd1 os oq vs sk ++ X) H → va_D (gA g) (MW g ma (nI 0) tb hm (nF oo) kp td tt ct1 fd1 os oq vs sk ++ X) → va_S (gA g) s.heap H locs → lv_has ls 4 [(3, .int (nI i)), (2, .int (nI (szL oo (tb a) i))), (0, .ref (ma 0)), (1, .int (nI a))] → W p l e rm_MD_size s m [.ref (ma 0), .int (nI a)].toArray below meth c H locs 0 0 (MQ below (va_Qi (fun r9 (u9 : (Int32) × (Nat → Int64)) => r9 = nI (szL oo (tb a) 6) ∧ (True)) (fun u9 t9 => PR g (MW g ma (nI 0) tb hm (nF oo) kp td tt u9.1 u9.2 os oq vs sk ++ X) t9) (gA g)) [.ref (ma 0), .int (nI a)].toArray s 0 0 (gA g)) (F0 m 13 ls []) := by
    intro j13
    induction j13 with
    | zero =>
      intro i ct1 fd1 H locs ls hj13 hP hD hS hl
      refine lv_iload_n hx hb d_MD_size_13 rfl (lv_at hl 0 rfl) ?_
      refine lv_bipush (v := nI 6) hx hb d_MD_size_14 (by decide) ?_
      refine rc_ge (tgt := 55) hx hb (by omega) (by omega) d_MD_size_16 (by decide) (fun c16 => ?_) (fun c16 => ?_)
      · refine lv_iload_n hx hb d_MD_size_55 rfl (lv_at hl 1 rfl) ?_
        exact W.iret (v := nI (szL oo (tb a) i)) hx hb hr (fun t9 e1 hW => ⟨⟨_, (ct1, fd1), rfl, ⟨(by rw [show i = 6 by omega]), trivial⟩, PR.at F hP hD hS e1 hW.alike⟩, hS.F e1⟩) hS.2.2 d_MD_size_56
      · exact (by omega : False).elim
    | succ j13 ih13 =>
      intro i ct1 fd1 H locs ls hj13 hP hD hS hl
      refine lv_iload_n hx hb d_MD_size_13 rfl (lv_at hl 0 rfl) ?_
      refine lv_bipush (v := nI 6) hx hb d_MD_size_14 (by decide) ?_
      refine rc_ge (tgt := 55) hx hb (by omega) (by omega) d_MD_size_16 (by decide) (fun c16 => ?_) (fun c16 => ?_)
      · exact (by omega : False).elim
      · refine lv_aload_n hx hb d_MD_size_19 rfl (lv_at hl 2 rfl) ?_
        refine va_get (ci := 4) (v := .int (nI 0)) (C := R_MD) (T := T_MD) (N := 13) hx hb ht i_MD hown F.2.1 hP 0 rfl rfl 0 (by decide) (ht _ tw_470) (fun _ h9 => h9) rfl d_MD_size_20 ?_
        refine rz_ne (tgt := 55) hx hb (by omega) d_MD_size_23 (by decide) (fun c23 => ?_) (fun c23 => ?_)
        · exact (by omega : False).elim
        · refine lv_aload_n hx hb d_MD_size_26 rfl (lv_at hl 2 rfl) ?_
          refine lv_iconst (v := nI 0) hx hb d_MD_size_27 (by decide) ?_
          refine va_put (ci := 4) (v := .int (nI 0)) (ty := .int) (C := R_MD) (T := T_MD) (N := 13) hx hb ht i_MD t_MD t_MD_ok n_MD hown F.2.1 hP hD hS 0 rfl rfl 7 (by decide) (ht _ tw_477) (fun _ h9 => h9) rfl (by decide +kernel) rfl rfl (Nat.le_of_ble_eq_true rfl) d_MD_size_28 (fun H locs hP hD hS => ?_)
          have hP : va_P g.1 cl (MW g ma (nI 0) tb hm (nF oo) kp td tt (nI 0) fd1 os oq vs sk ++ X) H := hP
          have hD : va_D (gA g) (MW g ma (nI 0) tb hm (nF oo) kp td tt (nI 0) fd1 os oq vs sk ++ X) := hD
          refine lv_aload_n hx hb d_MD_size_31 rfl (lv_at hl 2 rfl) ?_
          refine lv_aload_n hx hb d_MD_size_32 rfl (lv_at hl 2 rfl) ?_
          refine va_get (ci := 4) (v := .ref (ma 1)) (C := R_MD) (T := T_MD) (N := 13) hx hb ht i_MD hown F.2.1 hP 0 rfl rfl 1 (by decide) (ht _ tw_471) (fun _ h9 => h9) rfl d_MD_size_33 ?_
          refine lv_iload_n hx hb d_MD_size_36 rfl (lv_at hl 3 rfl) ?_
          refine ra_J hx hb F hP 1 rfl (by omega) (by decide) d_MD_size_37 ?_
          refine lv_iload_n hx hb d_MD_size_38 rfl (lv_at hl 0 rfl) ?_
          refine pc_Vv (q0 := 0) (As := [.long (tb a), .int (nI i)]) (rest := []) hx hb (hml.trans hl.1.symm) hown ht F hP hD hS (c_MD_findAll l g ma (nI 0) tb hm kp td tt fd1 os oq vs sk X oo 0 ([]) (tb a) i h1 (by omega) rfl (Nat.le_trans (Nat.add_le_add_left (pw32 i (by omega)) 0) (by decide))) v_MD_findAll tw_620 ⟨rfl, rfl⟩ ⟨by decide, by decide⟩ rfl rfl rfl rfl (Nat.le_of_ble_eq_true rfl) ⟨Nat.zero_le _, Nat.zero_le _⟩ d_MD_size_39 (fun u9 H locs hq hP hD hS => ?_)
          obtain ⟨fd39, rfl⟩ : ∃ z9, z9 = u9 := ⟨_, rfl⟩
          have pq39 := hq
          have pq39 : rep fd39 ((faL oo i (tb a) ([]) (2 ^ i)).length) (faL oo i (tb a) ([]) (2 ^ i)) := pq39
          have hP : va_P g.1 cl (MW g ma (nI 0) tb hm (nF oo) kp td tt (nI ((faL oo i (tb a) ([]) (2 ^ i)).length)) fd39 os oq vs sk ++ X) H := hP
          have hD : va_D (gA g) (MW g ma (nI 0) tb hm (nF oo) kp td tt (nI ((faL oo i (tb a) ([]) (2 ^ i)).length)) fd39 os oq vs sk ++ X) := hD
          refine lv_iload_n hx hb d_MD_size_42 rfl (lv_at hl 1 rfl) ?_
          refine lv_aload_n hx hb d_MD_size_43 rfl (lv_at hl 2 rfl) ?_
          refine va_get (ci := 4) (v := .int (nI ((faL oo i (tb a) ([]) (2 ^ i)).length))) (C := R_MD) (T := T_MD) (N := 13) hx hb ht i_MD hown F.2.1 hP 0 rfl rfl 7 (by decide) (ht _ tw_477) (fun _ h9 => h9) rfl d_MD_size_44 ?_
          refine rn_add hx hb d_MD_size_47 ?_
          refine lv_istore_n (lv' := [(2, .int (nI ((szL oo (tb a) i) + ((faL oo i (tb a) ([]) (2 ^ i)).length)))), (3, .int (nI i)), (0, .ref (ma 0)), (1, .int (nI a))]) hx hb d_MD_size_48 rfl hl (by decide) rfl (fun ls hl => ?_)
          refine lv_iinc (lv' := [(3, .int (nI (i + 1))), (2, .int (nI ((szL oo (tb a) i) + ((faL oo i (tb a) ([]) (2 ^ i)).length)))), (0, .ref (ma 0)), (1, .int (nI a))]) hx hb d_MD_size_49 hl (k := 1) rfl (nI_1 _) (by decide) rfl (fun ls hl => ?_)
          refine lv_goto (tgt := 13) hx hb d_MD_size_52 (by decide) ?_
          have hl := lv_sub hl [0, 1, 2, 3] rfl
          have hl : lv_has ls 4 [(3, .int (nI ((i + 1)))), (2, .int (nI (szL oo (tb a) (i + 1)))), (0, .ref (ma 0)), (1, .int (nI a))] := by rw [show szL oo (tb a) (i + 1) = szL oo (tb a) i + (faL oo i (tb a) [] (2 ^ i)).length from rfl]; exact hl
          have hP : va_P g.1 cl (MW g ma (nI 0) tb hm (nF oo) kp td tt ((nI ((faL oo i (tb a) ([]) (2 ^ i)).length))) fd39 os oq vs sk ++ X) H := hP
          have hD : va_D (gA g) (MW g ma (nI 0) tb hm (nF oo) kp td tt ((nI ((faL oo i (tb a) ([]) (2 ^ i)).length))) fd39 os oq vs sk ++ X) := hD
          exact ih13 (i + 1) (nI ((faL oo i (tb a) ([]) (2 ^ i)).length)) fd39 H locs ls (by omega)  hP hD hS hl
  have hl := lv_sub hl [0, 1, 2, 3] rfl
  have hl : lv_has ls 4 [(3, .int (nI 0)), (2, .int (nI (szL oo (tb a) 0))), (0, .ref (ma 0)), (1, .int (nI a))] := hl
  have hP : va_P g.1 cl (MW g ma (nI 0) tb hm (nF oo) kp td tt ct fd os oq vs sk ++ X) H := hP
  have hD : va_D (gA g) (MW g ma (nI 0) tb hm (nF oo) kp td tt ct fd os oq vs sk ++ X) := hD
  exact lp13 (6 - 0) 0 ct fd _ _ ls (by omega)  hP hD hS hl
set_option maxRecDepth 100000 in
set_option maxHeartbeats 4000000 in
theorem c1_MD_size (l : Launch) (g : Gx) (ma : Nat → Nat) (cd : Int32) (tb : Nat → Int64) (hm : Nat → Int32) (oo : Nat → Int32) (kp : Nat → Int32) (td : Int32) (tt : Nat → Int32) (ct : Int32) (fd : Nat → Int64) (os : Int32) (oq : Nat → Int32) (vs : Int32) (sk : Nat → Int64) (X : va_W) (a : Int32) (hbad : ¬ (inR a 8)) : Met l y_MD_size (w_MD_size :: TW) rm_MD_size (va_Pc [.ref (ma 0), .int a] (PR g (MW g ma cd tb hm oo kp td tt ct fd os oq vs sk ++ X))) (va_Qi (fun r9 (u9 : Unit) => r9 = nI 0) (fun u9 t9 => PR g (MW g ma (nI 1) tb hm oo kp td tt ct fd os oq vs sk ++ X) t9) (gA g)) 0 0 (gA g) := by
  refine mt_of (by decide) (Nat.le_of_ble_eq_true rfl) ?_
  intro p e s m below meth c ls hx hb hr hml hlk hown ht hnm F hP hD hl
  have hl : lv_has ls 4 [(0, .ref (ma 0)), (1, .int a)] := hl
  have hS : va_S (gA g) s.heap s.heap [] := va_S.rf
  refine lv_aload_n hx hb d_MD_size_0 rfl (lv_at hl 0 rfl) ?_
  refine lv_aload_n hx hb d_MD_size_1 rfl (lv_at hl 0 rfl) ?_
  refine lv_iload_n hx hb d_MD_size_2 rfl (lv_at hl 1 rfl) ?_
  refine pc_Vi (q0 := 0) (As := [.int a]) (rest := [.ref (ma 0)]) hx hb (hml.trans hl.1.symm) hown ht F hP hD hS (c1_MD_lack l g ma cd tb hm oo kp td tt ct fd os oq vs sk X a hbad) v_MD_lack tw_601 ⟨rfl, rfl⟩ ⟨by decide, by decide⟩ rfl rfl rfl rfl (Nat.le_of_ble_eq_true rfl) ⟨Nat.zero_le _, Nat.zero_le _⟩ d_MD_size_3 (fun r9 u9 H locs hq hP hD hS => ?_)
  subst hq
  refine va_put (ci := 4) (v := .int (nI 1)) (ty := .int) (C := R_MD) (T := T_MD) (N := 13) hx hb ht i_MD t_MD t_MD_ok n_MD hown F.2.1 hP hD hS 0 rfl rfl 0 (by decide) (ht _ tw_470) (fun _ h9 => h9) rfl (by decide +kernel) rfl rfl (Nat.le_of_ble_eq_true rfl) d_MD_size_6 (fun H locs hP hD hS => ?_)
  have hP : va_P g.1 cl (MW g ma (nI 1) tb hm oo kp td tt ct fd os oq vs sk ++ X) H := hP
  have hD : va_D (gA g) (MW g ma (nI 1) tb hm oo kp td tt ct fd os oq vs sk ++ X) := hD
  refine lv_iconst (v := nI 0) hx hb d_MD_size_9 (by decide) ?_
  refine lv_istore_n (lv' := [(2, .int (nI 0)), (0, .ref (ma 0)), (1, .int a)]) hx hb d_MD_size_10 rfl hl (by decide) rfl (fun ls hl => ?_)
  refine lv_iconst (v := nI 0) hx hb d_MD_size_11 (by decide) ?_
  refine lv_istore_n (lv' := [(3, .int (nI 0)), (2, .int (nI 0)), (0, .ref (ma 0)), (1, .int a)]) hx hb d_MD_size_12 rfl hl (by decide) rfl (fun ls hl => ?_)
  refine lv_iload_n hx hb d_MD_size_13 rfl (lv_at hl 0 rfl) ?_
  refine lv_bipush (v := nI 6) hx hb d_MD_size_14 (by decide) ?_
  refine rc_ge (tgt := 55) hx hb (by omega) (by omega) d_MD_size_16 (by decide) (fun c16 => ?_) (fun c16 => ?_)
  · exact (by omega : False).elim
  · refine lv_aload_n hx hb d_MD_size_19 rfl (lv_at hl 2 rfl) ?_
    refine va_get (ci := 4) (v := .int (nI 1)) (C := R_MD) (T := T_MD) (N := 13) hx hb ht i_MD hown F.2.1 hP 0 rfl rfl 0 (by decide) (ht _ tw_470) (fun _ h9 => h9) rfl d_MD_size_20 ?_
    refine rz_ne (tgt := 55) hx hb (by omega) d_MD_size_23 (by decide) (fun c23 => ?_) (fun c23 => ?_)
    · refine lv_iload_n hx hb d_MD_size_55 rfl (lv_at hl 1 rfl) ?_
      exact W.iret (v := nI 0) hx hb hr (fun t9 e1 hW => ⟨⟨_, (), rfl, rfl, PR.at F hP hD hS e1 hW.alike⟩, hS.F e1⟩) hS.2.2 d_MD_size_56
    · exact (by omega : False).elim
set_option maxRecDepth 100000 in
set_option maxHeartbeats 4000000 in
theorem c2_MD_size (l : Launch) (g : Gx) (ma : Nat → Nat) (cd : Int32) (tb : Nat → Int64) (hm : Nat → Int32) (oo : Nat → Int32) (kp : Nat → Int32) (td : Int32) (tt : Nat → Int32) (ct : Int32) (fd : Nat → Int64) (os : Int32) (oq : Nat → Int32) (vs : Int32) (sk : Nat → Int64) (X : va_W) (a : Nat) (g_a : a < 8) (e_a : hm a = 0) : Met l y_MD_size (w_MD_size :: TW) rm_MD_size (va_Pc [.ref (ma 0), .int (nI a)] (PR g (MW g ma cd tb hm oo kp td tt ct fd os oq vs sk ++ X))) (va_Qi (fun r9 (u9 : Unit) => r9 = nI 0) (fun u9 t9 => PR g (MW g ma (nI 2) tb hm oo kp td tt ct fd os oq vs sk ++ X) t9) (gA g)) 0 0 (gA g) := by
  refine mt_of (by decide) (Nat.le_of_ble_eq_true rfl) ?_
  intro p e s m below meth c ls hx hb hr hml hlk hown ht hnm F hP hD hl
  have hl : lv_has ls 4 [(0, .ref (ma 0)), (1, .int (nI a))] := hl
  have hS : va_S (gA g) s.heap s.heap [] := va_S.rf
  refine lv_aload_n hx hb d_MD_size_0 rfl (lv_at hl 0 rfl) ?_
  refine lv_aload_n hx hb d_MD_size_1 rfl (lv_at hl 0 rfl) ?_
  refine lv_iload_n hx hb d_MD_size_2 rfl (lv_at hl 1 rfl) ?_
  refine pc_Vi (q0 := 0) (As := [.int (nI a)]) (rest := [.ref (ma 0)]) hx hb (hml.trans hl.1.symm) hown ht F hP hD hS (c2_MD_lack l g ma cd tb hm oo kp td tt ct fd os oq vs sk X a (by omega) e_a) v_MD_lack tw_601 ⟨rfl, rfl⟩ ⟨by decide, by decide⟩ rfl rfl rfl rfl (Nat.le_of_ble_eq_true rfl) ⟨Nat.zero_le _, Nat.zero_le _⟩ d_MD_size_3 (fun r9 u9 H locs hq hP hD hS => ?_)
  subst hq
  refine va_put (ci := 4) (v := .int (nI 2)) (ty := .int) (C := R_MD) (T := T_MD) (N := 13) hx hb ht i_MD t_MD t_MD_ok n_MD hown F.2.1 hP hD hS 0 rfl rfl 0 (by decide) (ht _ tw_470) (fun _ h9 => h9) rfl (by decide +kernel) rfl rfl (Nat.le_of_ble_eq_true rfl) d_MD_size_6 (fun H locs hP hD hS => ?_)
  have hP : va_P g.1 cl (MW g ma (nI 2) tb hm oo kp td tt ct fd os oq vs sk ++ X) H := hP
  have hD : va_D (gA g) (MW g ma (nI 2) tb hm oo kp td tt ct fd os oq vs sk ++ X) := hD
  refine lv_iconst (v := nI 0) hx hb d_MD_size_9 (by decide) ?_
  refine lv_istore_n (lv' := [(2, .int (nI 0)), (0, .ref (ma 0)), (1, .int (nI a))]) hx hb d_MD_size_10 rfl hl (by decide) rfl (fun ls hl => ?_)
  refine lv_iconst (v := nI 0) hx hb d_MD_size_11 (by decide) ?_
  refine lv_istore_n (lv' := [(3, .int (nI 0)), (2, .int (nI 0)), (0, .ref (ma 0)), (1, .int (nI a))]) hx hb d_MD_size_12 rfl hl (by decide) rfl (fun ls hl => ?_)
  refine lv_iload_n hx hb d_MD_size_13 rfl (lv_at hl 0 rfl) ?_
  refine lv_bipush (v := nI 6) hx hb d_MD_size_14 (by decide) ?_
  refine rc_ge (tgt := 55) hx hb (by omega) (by omega) d_MD_size_16 (by decide) (fun c16 => ?_) (fun c16 => ?_)
  · exact (by omega : False).elim
  · refine lv_aload_n hx hb d_MD_size_19 rfl (lv_at hl 2 rfl) ?_
    refine va_get (ci := 4) (v := .int (nI 2)) (C := R_MD) (T := T_MD) (N := 13) hx hb ht i_MD hown F.2.1 hP 0 rfl rfl 0 (by decide) (ht _ tw_470) (fun _ h9 => h9) rfl d_MD_size_20 ?_
    refine rz_ne (tgt := 55) hx hb (by omega) d_MD_size_23 (by decide) (fun c23 => ?_) (fun c23 => ?_)
    · refine lv_iload_n hx hb d_MD_size_55 rfl (lv_at hl 1 rfl) ?_
      exact W.iret (v := nI 0) hx hb hr (fun t9 e1 hW => ⟨⟨_, (), rfl, rfl, PR.at F hP hD hS e1 hW.alike⟩, hS.F e1⟩) hS.2.2 d_MD_size_56
    · exact (by omega : False).elim
set_option maxRecDepth 100000 in
set_option maxHeartbeats 4000000 in
theorem c_MD_shared (l : Launch) (g : Gx) (ma : Nat → Nat) (cd : Int32) (tb : Nat → Int64) (hm : Nat → Int32) (kp : Nat → Int32) (td : Int32) (tt : Nat → Int32) (ct : Int32) (fd : Nat → Int64) (os : Int32) (oq : Nat → Int32) (vs : Int32) (sk : Nat → Int64) (X : va_W) (oo : Nat → Nat) (h1 : ∀ i, i < 6 → oo i < 6) : Met l y_MD_shared (w_MD_shared :: TW) rm_MD_shared (va_Pc [.ref (ma 0)] (PR g (MW g ma cd tb hm (nF oo) kp td tt ct fd os oq vs sk ++ X))) (va_Qi (fun r9 (u9 : (Int32) × (Nat → Int64)) => r9 = nI (alL oo tb hm 6) ∧ (True)) (fun u9 t9 => PR g (MW g ma (nI 0) tb hm (nF oo) kp td tt u9.1 u9.2 os oq vs sk ++ X) t9) (gA g)) 0 0 (gA g) := by
  refine mt_of (by decide) (Nat.le_of_ble_eq_true rfl) ?_
  intro p e s m below meth c ls hx hb hr hml hlk hown ht hnm F hP hD hl
  have hl : lv_has ls 1 [(0, .ref (ma 0))] := hl
  have hS : va_S (gA g) s.heap s.heap [] := va_S.rf
  refine lv_aload_n hx hb d_MD_shared_0 rfl (lv_at hl 0 rfl) ?_
  refine lv_iconst (v := nI 0) hx hb d_MD_shared_1 (by decide) ?_
  refine va_put (ci := 4) (v := .int (nI 0)) (ty := .int) (C := R_MD) (T := T_MD) (N := 13) hx hb ht i_MD t_MD t_MD_ok n_MD hown F.2.1 hP hD hS 0 rfl rfl 0 (by decide) (ht _ tw_470) (fun _ h9 => h9) rfl (by decide +kernel) rfl rfl (Nat.le_of_ble_eq_true rfl) d_MD_shared_2 (fun H locs hP hD hS => ?_)
  have hP : va_P g.1 cl (MW g ma (nI 0) tb hm (nF oo) kp td tt ct fd os oq vs sk ++ X) H := hP
  have hD : va_D (gA g) (MW g ma (nI 0) tb hm (nF oo) kp td tt ct fd os oq vs sk ++ X) := hD
  refine lv_aload_n hx hb d_MD_shared_5 rfl (lv_at hl 0 rfl) ?_
  refine pc_Vi (q0 := 0) (As := []) (rest := []) hx hb (hml.trans hl.1.symm) hown ht F hP hD hS (c_MD_all l g ma (nI 0) tb hm kp td tt ct fd os oq vs sk X oo h1) v_MD_all tw_632 ⟨rfl, rfl⟩ ⟨by decide, by decide⟩ rfl rfl rfl rfl (Nat.le_of_ble_eq_true rfl) ⟨Nat.zero_le _, Nat.zero_le _⟩ d_MD_shared_6 (fun r9 u9 H locs hq hP hD hS => ?_)
  obtain ⟨ct6, fd6⟩ := u9
  obtain ⟨hq, pq6⟩ := hq
  have pq6 : True := pq6
  subst hq
  have hP : va_P g.1 cl (MW g ma (nI 0) tb hm (nF oo) kp td tt ct6 fd6 os oq vs sk ++ X) H := hP
  have hD : va_D (gA g) (MW g ma (nI 0) tb hm (nF oo) kp td tt ct6 fd6 os oq vs sk ++ X) := hD
  exact W.iret (v := nI (alL oo tb hm 6)) hx hb hr (fun t9 e1 hW => ⟨⟨_, (ct6, fd6), rfl, ⟨rfl, trivial⟩, PR.at F hP hD hS e1 hW.alike⟩, hS.F e1⟩) hS.2.2 d_MD_shared_9
set_option maxRecDepth 100000 in
set_option maxHeartbeats 4000000 in
theorem c_MD_width (l : Launch) (g : Gx) (ma : Nat → Nat) (cd : Int32) (tb : Nat → Int64) (hm : Nat → Int32) (kp : Nat → Int32) (td : Int32) (tt : Nat → Int32) (ct : Int32) (fd : Nat → Int64) (os : Int32) (oq : Nat → Int32) (vs : Int32) (sk : Nat → Int64) (X : va_W) (oo : Nat → Nat) (k : Nat) (h1 : ∀ i, i < 6 → oo i < 6) (h2 : k < 6) : Met l y_MD_width (w_MD_width :: TW) rm_MD_width (va_Pc [.ref (ma 0), .int (nI k)] (PR g (MW g ma cd tb hm (nF oo) kp td tt ct fd os oq vs sk ++ X))) (va_Qi (fun r9 (u9 : (Int32) × (Nat → Int64)) => r9 = nI ((woL oo k tb hm 8).length) ∧ (True)) (fun u9 t9 => PR g (MW g ma (nI 0) tb hm (nF oo) kp td tt u9.1 u9.2 os oq vs sk ++ X) t9) (gA g)) 0 0 (gA g) := by
  refine mt_of (by decide) (Nat.le_of_ble_eq_true rfl) ?_
  intro p e s m below meth c ls hx hb hr hml hlk hown ht hnm F hP hD hl
  have hl : lv_has ls 2 [(0, .ref (ma 0)), (1, .int (nI k))] := hl
  have hS : va_S (gA g) s.heap s.heap [] := va_S.rf
  refine lv_aload_n hx hb d_MD_width_0 rfl (lv_at hl 0 rfl) ?_
  refine lv_iload_n hx hb d_MD_width_1 rfl (lv_at hl 1 rfl) ?_
  refine lv_iconst (v := nI 0) hx hb d_MD_width_2 (by decide) ?_
  refine lv_iconst (v := nI 5) hx hb d_MD_width_3 (by decide) ?_
  refine pc_Si (As := [.int (nI k), .int (nI 0), .int (nI 5)]) (rest := [.ref (ma 0)]) hx hb (hml.trans hl.1.symm) hown ht F hP hD hS (c_MD_within l g (MW g ma cd tb hm (nF oo) kp td tt ct fd os oq vs sk ++ X) k 0 5 (by omega) (by omega) (by omega)) v_MD_within tw_521 ⟨rfl, rfl⟩ ⟨by decide, by decide⟩ rfl rfl (Nat.le_of_ble_eq_true rfl) ⟨Nat.zero_le _, Nat.zero_le _⟩ d_MD_width_4 (fun r9 u9 H locs hq hP hD hS => ?_)
  subst hq
  refine rz_eq (tgt := 14) hx hb (by omega) d_MD_width_7 (by decide) (fun c7 => ?_) (fun c7 => ?_)
  · exact (by omega : False).elim
  · refine lv_iconst (v := nI 0) hx hb d_MD_width_10 (by decide) ?_
    refine lv_goto (tgt := 15) hx hb d_MD_width_11 (by decide) ?_
    refine va_put (ci := 4) (v := .int (nI 0)) (ty := .int) (C := R_MD) (T := T_MD) (N := 13) hx hb ht i_MD t_MD t_MD_ok n_MD hown F.2.1 hP hD hS 0 rfl rfl 0 (by decide) (ht _ tw_470) (fun _ h9 => h9) rfl (by decide +kernel) rfl rfl (Nat.le_of_ble_eq_true rfl) d_MD_width_15 (fun H locs hP hD hS => ?_)
    have hP : va_P g.1 cl (MW g ma (nI 0) tb hm (nF oo) kp td tt ct fd os oq vs sk ++ X) H := hP
    have hD : va_D (gA g) (MW g ma (nI 0) tb hm (nF oo) kp td tt ct fd os oq vs sk ++ X) := hD
    refine lv_aload_n hx hb d_MD_width_18 rfl (lv_at hl 0 rfl) ?_
    refine va_get (ci := 4) (v := .int (nI 0)) (C := R_MD) (T := T_MD) (N := 13) hx hb ht i_MD hown F.2.1 hP 0 rfl rfl 0 (by decide) (ht _ tw_470) (fun _ h9 => h9) rfl d_MD_width_19 ?_
    refine rz_le (tgt := 29) hx hb (by omega) d_MD_width_22 (by decide) (fun c22 => ?_) (fun c22 => ?_)
    · refine lv_aload_n hx hb d_MD_width_29 rfl (lv_at hl 0 rfl) ?_
      refine lv_iload_n hx hb d_MD_width_30 rfl (lv_at hl 1 rfl) ?_
      refine pc_Vi (q0 := 0) (As := [.int (nI k)]) (rest := []) hx hb (hml.trans hl.1.symm) hown ht F hP hD hS (c_MD_widthOf l g ma (nI 0) tb hm kp td tt ct fd os oq vs sk X oo k h1 h2) v_MD_widthOf tw_636 ⟨rfl, rfl⟩ ⟨by decide, by decide⟩ rfl rfl rfl rfl (Nat.le_of_ble_eq_true rfl) ⟨Nat.zero_le _, Nat.zero_le _⟩ d_MD_width_31 (fun r9 u9 H locs hq hP hD hS => ?_)
      obtain ⟨fd31, rfl⟩ : ∃ z9, z9 = u9 := ⟨_, rfl⟩
      obtain ⟨hq, pq31⟩ := hq
      have pq31 : True := pq31
      subst hq
      have hP : va_P g.1 cl (MW g ma (nI 0) tb hm (nF oo) kp td tt (nI ((woL oo k tb hm 8).length)) fd31 os oq vs sk ++ X) H := hP
      have hD : va_D (gA g) (MW g ma (nI 0) tb hm (nF oo) kp td tt (nI ((woL oo k tb hm 8).length)) fd31 os oq vs sk ++ X) := hD
      exact W.iret (v := nI ((woL oo k tb hm 8).length)) hx hb hr (fun t9 e1 hW => ⟨⟨_, (nI ((woL oo k tb hm 8).length), fd31), rfl, ⟨rfl, trivial⟩, PR.at F hP hD hS e1 hW.alike⟩, hS.F e1⟩) hS.2.2 d_MD_width_34
    · exact (by omega : False).elim
set_option maxRecDepth 100000 in
set_option maxHeartbeats 4000000 in
theorem c1_MD_width (l : Launch) (g : Gx) (ma : Nat → Nat) (cd : Int32) (tb : Nat → Int64) (hm : Nat → Int32) (oo : Nat → Int32) (kp : Nat → Int32) (td : Int32) (tt : Nat → Int32) (ct : Int32) (fd : Nat → Int64) (os : Int32) (oq : Nat → Int32) (vs : Int32) (sk : Nat → Int64) (X : va_W) (k : Int32) (hbad : ¬ (inR k 6)) : Met l y_MD_width (w_MD_width :: TW) rm_MD_width (va_Pc [.ref (ma 0), .int k] (PR g (MW g ma cd tb hm oo kp td tt ct fd os oq vs sk ++ X))) (va_Qi (fun r9 (u9 : Unit) => r9 = nI 0) (fun u9 t9 => PR g (MW g ma (nI 1) tb hm oo kp td tt ct fd os oq vs sk ++ X) t9) (gA g)) 0 0 (gA g) := by
  refine mt_of (by decide) (Nat.le_of_ble_eq_true rfl) ?_
  intro p e s m below meth c ls hx hb hr hml hlk hown ht hnm F hP hD hl
  have hl : lv_has ls 2 [(0, .ref (ma 0)), (1, .int k)] := hl
  have hS : va_S (gA g) s.heap s.heap [] := va_S.rf
  refine lv_aload_n hx hb d_MD_width_0 rfl (lv_at hl 0 rfl) ?_
  refine lv_iload_n hx hb d_MD_width_1 rfl (lv_at hl 1 rfl) ?_
  refine lv_iconst (v := nI 0) hx hb d_MD_width_2 (by decide) ?_
  refine lv_iconst (v := nI 5) hx hb d_MD_width_3 (by decide) ?_
  by_cases q4 : inR k 6
  · exact (hbad q4).elim
  · refine pc_Si (As := [.int k, .int (nI 0), .int (nI 5)]) (rest := [.ref (ma 0)]) hx hb (hml.trans hl.1.symm) hown ht F hP hD hS (c_MD_within_0 l g (MW g ma cd tb hm oo kp td tt ct fd os oq vs sk ++ X) k 0 5 (fun h => q4 (inR_le h)) (by decide) (by decide)) v_MD_within tw_521 ⟨rfl, rfl⟩ ⟨by decide, by decide⟩ rfl rfl (Nat.le_of_ble_eq_true rfl) ⟨Nat.zero_le _, Nat.zero_le _⟩ d_MD_width_4 (fun r9 u9 H locs hq hP hD hS => ?_)
    subst hq
    refine rz_eq (tgt := 14) hx hb (by omega) d_MD_width_7 (by decide) (fun c7 => ?_) (fun c7 => ?_)
    · refine lv_iconst (v := nI 1) hx hb d_MD_width_14 (by decide) ?_
      refine va_put (ci := 4) (v := .int (nI 1)) (ty := .int) (C := R_MD) (T := T_MD) (N := 13) hx hb ht i_MD t_MD t_MD_ok n_MD hown F.2.1 hP hD hS 0 rfl rfl 0 (by decide) (ht _ tw_470) (fun _ h9 => h9) rfl (by decide +kernel) rfl rfl (Nat.le_of_ble_eq_true rfl) d_MD_width_15 (fun H locs hP hD hS => ?_)
      have hP : va_P g.1 cl (MW g ma (nI 1) tb hm oo kp td tt ct fd os oq vs sk ++ X) H := hP
      have hD : va_D (gA g) (MW g ma (nI 1) tb hm oo kp td tt ct fd os oq vs sk ++ X) := hD
      refine lv_aload_n hx hb d_MD_width_18 rfl (lv_at hl 0 rfl) ?_
      refine va_get (ci := 4) (v := .int (nI 1)) (C := R_MD) (T := T_MD) (N := 13) hx hb ht i_MD hown F.2.1 hP 0 rfl rfl 0 (by decide) (ht _ tw_470) (fun _ h9 => h9) rfl d_MD_width_19 ?_
      refine rz_le (tgt := 29) hx hb (by omega) d_MD_width_22 (by decide) (fun c22 => ?_) (fun c22 => ?_)
      · exact (by omega : False).elim
      · refine lv_iconst (v := nI 0) hx hb d_MD_width_25 (by decide) ?_
        refine lv_goto (tgt := 34) hx hb d_MD_width_26 (by decide) ?_
        exact W.iret (v := nI 0) hx hb hr (fun t9 e1 hW => ⟨⟨_, (), rfl, rfl, PR.at F hP hD hS e1 hW.alike⟩, hS.F e1⟩) hS.2.2 d_MD_width_34
    · exact (by omega : False).elim
set_option maxRecDepth 100000 in
set_option maxHeartbeats 4000000 in
theorem c_MD_variable (l : Launch) (g : Gx) (ma : Nat → Nat) (cd : Int32) (tb : Nat → Int64) (hm : Nat → Int32) (kp : Nat → Int32) (td : Int32) (tt : Nat → Int32) (ct : Int32) (fd : Nat → Int64) (os : Int32) (oq : Nat → Int32) (vs : Int32) (sk : Nat → Int64) (X : va_W) (oo : Nat → Nat) (k : Nat) (h2 : k < 6) : Met l y_MD_variable (w_MD_variable :: TW) rm_MD_variable (va_Pc [.ref (ma 0), .int (nI k)] (PR g (MW g ma cd tb hm (nF oo) kp td tt ct fd os oq vs sk ++ X))) (va_Qi (fun r9 (u9 : Unit) => r9 = nI (oo k)) (fun u9 t9 => PR g (MW g ma (nI 0) tb hm (nF oo) kp td tt ct fd os oq vs sk ++ X) t9) (gA g)) 0 0 (gA g) := by
  refine mt_of (by decide) (Nat.le_of_ble_eq_true rfl) ?_
  intro p e s m below meth c ls hx hb hr hml hlk hown ht hnm F hP hD hl
  have hl : lv_has ls 2 [(0, .ref (ma 0)), (1, .int (nI k))] := hl
  have hS : va_S (gA g) s.heap s.heap [] := va_S.rf
  refine lv_aload_n hx hb d_MD_variable_0 rfl (lv_at hl 0 rfl) ?_
  refine lv_iload_n hx hb d_MD_variable_1 rfl (lv_at hl 1 rfl) ?_
  refine lv_iconst (v := nI 0) hx hb d_MD_variable_2 (by decide) ?_
  refine lv_iconst (v := nI 5) hx hb d_MD_variable_3 (by decide) ?_
  refine pc_Si (As := [.int (nI k), .int (nI 0), .int (nI 5)]) (rest := [.ref (ma 0)]) hx hb (hml.trans hl.1.symm) hown ht F hP hD hS (c_MD_within l g (MW g ma cd tb hm (nF oo) kp td tt ct fd os oq vs sk ++ X) k 0 5 (by omega) (by omega) (by omega)) v_MD_within tw_521 ⟨rfl, rfl⟩ ⟨by decide, by decide⟩ rfl rfl (Nat.le_of_ble_eq_true rfl) ⟨Nat.zero_le _, Nat.zero_le _⟩ d_MD_variable_4 (fun r9 u9 H locs hq hP hD hS => ?_)
  subst hq
  refine rz_eq (tgt := 14) hx hb (by omega) d_MD_variable_7 (by decide) (fun c7 => ?_) (fun c7 => ?_)
  · exact (by omega : False).elim
  · refine lv_iconst (v := nI 0) hx hb d_MD_variable_10 (by decide) ?_
    refine lv_goto (tgt := 15) hx hb d_MD_variable_11 (by decide) ?_
    refine va_put (ci := 4) (v := .int (nI 0)) (ty := .int) (C := R_MD) (T := T_MD) (N := 13) hx hb ht i_MD t_MD t_MD_ok n_MD hown F.2.1 hP hD hS 0 rfl rfl 0 (by decide) (ht _ tw_470) (fun _ h9 => h9) rfl (by decide +kernel) rfl rfl (Nat.le_of_ble_eq_true rfl) d_MD_variable_15 (fun H locs hP hD hS => ?_)
    have hP : va_P g.1 cl (MW g ma (nI 0) tb hm (nF oo) kp td tt ct fd os oq vs sk ++ X) H := hP
    have hD : va_D (gA g) (MW g ma (nI 0) tb hm (nF oo) kp td tt ct fd os oq vs sk ++ X) := hD
    refine lv_aload_n hx hb d_MD_variable_18 rfl (lv_at hl 0 rfl) ?_
    refine va_get (ci := 4) (v := .int (nI 0)) (C := R_MD) (T := T_MD) (N := 13) hx hb ht i_MD hown F.2.1 hP 0 rfl rfl 0 (by decide) (ht _ tw_470) (fun _ h9 => h9) rfl d_MD_variable_19 ?_
    refine rz_le (tgt := 29) hx hb (by omega) d_MD_variable_22 (by decide) (fun c22 => ?_) (fun c22 => ?_)
    · refine lv_aload_n hx hb d_MD_variable_29 rfl (lv_at hl 0 rfl) ?_
      refine va_get (ci := 4) (v := .ref (ma 3)) (C := R_MD) (T := T_MD) (N := 13) hx hb ht i_MD hown F.2.1 hP 0 rfl rfl 3 (by decide) (ht _ tw_473) (fun _ h9 => h9) rfl d_MD_variable_30 ?_
      refine lv_iload_n hx hb d_MD_variable_33 rfl (lv_at hl 1 rfl) ?_
      refine ra_I hx hb F hP 3 rfl (by omega) (by decide) d_MD_variable_34 ?_
      refine W.eq (g2 := F0 m 35 ls [.int (nI (oo k))]) rfl ?_
      exact W.iret (v := nI (oo k)) hx hb hr (fun t9 e1 hW => ⟨⟨_, (), rfl, rfl, PR.at F hP hD hS e1 hW.alike⟩, hS.F e1⟩) hS.2.2 d_MD_variable_35
    · exact (by omega : False).elim
set_option maxRecDepth 100000 in
set_option maxHeartbeats 4000000 in
theorem c1_MD_variable (l : Launch) (g : Gx) (ma : Nat → Nat) (cd : Int32) (tb : Nat → Int64) (hm : Nat → Int32) (oo : Nat → Int32) (kp : Nat → Int32) (td : Int32) (tt : Nat → Int32) (ct : Int32) (fd : Nat → Int64) (os : Int32) (oq : Nat → Int32) (vs : Int32) (sk : Nat → Int64) (X : va_W) (k : Int32) (hbad : ¬ (inR k 6)) : Met l y_MD_variable (w_MD_variable :: TW) rm_MD_variable (va_Pc [.ref (ma 0), .int k] (PR g (MW g ma cd tb hm oo kp td tt ct fd os oq vs sk ++ X))) (va_Qi (fun r9 (u9 : Unit) => r9 = nI 0) (fun u9 t9 => PR g (MW g ma (nI 1) tb hm oo kp td tt ct fd os oq vs sk ++ X) t9) (gA g)) 0 0 (gA g) := by
  refine mt_of (by decide) (Nat.le_of_ble_eq_true rfl) ?_
  intro p e s m below meth c ls hx hb hr hml hlk hown ht hnm F hP hD hl
  have hl : lv_has ls 2 [(0, .ref (ma 0)), (1, .int k)] := hl
  have hS : va_S (gA g) s.heap s.heap [] := va_S.rf
  refine lv_aload_n hx hb d_MD_variable_0 rfl (lv_at hl 0 rfl) ?_
  refine lv_iload_n hx hb d_MD_variable_1 rfl (lv_at hl 1 rfl) ?_
  refine lv_iconst (v := nI 0) hx hb d_MD_variable_2 (by decide) ?_
  refine lv_iconst (v := nI 5) hx hb d_MD_variable_3 (by decide) ?_
  by_cases q4 : inR k 6
  · exact (hbad q4).elim
  · refine pc_Si (As := [.int k, .int (nI 0), .int (nI 5)]) (rest := [.ref (ma 0)]) hx hb (hml.trans hl.1.symm) hown ht F hP hD hS (c_MD_within_0 l g (MW g ma cd tb hm oo kp td tt ct fd os oq vs sk ++ X) k 0 5 (fun h => q4 (inR_le h)) (by decide) (by decide)) v_MD_within tw_521 ⟨rfl, rfl⟩ ⟨by decide, by decide⟩ rfl rfl (Nat.le_of_ble_eq_true rfl) ⟨Nat.zero_le _, Nat.zero_le _⟩ d_MD_variable_4 (fun r9 u9 H locs hq hP hD hS => ?_)
    subst hq
    refine rz_eq (tgt := 14) hx hb (by omega) d_MD_variable_7 (by decide) (fun c7 => ?_) (fun c7 => ?_)
    · refine lv_iconst (v := nI 1) hx hb d_MD_variable_14 (by decide) ?_
      refine va_put (ci := 4) (v := .int (nI 1)) (ty := .int) (C := R_MD) (T := T_MD) (N := 13) hx hb ht i_MD t_MD t_MD_ok n_MD hown F.2.1 hP hD hS 0 rfl rfl 0 (by decide) (ht _ tw_470) (fun _ h9 => h9) rfl (by decide +kernel) rfl rfl (Nat.le_of_ble_eq_true rfl) d_MD_variable_15 (fun H locs hP hD hS => ?_)
      have hP : va_P g.1 cl (MW g ma (nI 1) tb hm oo kp td tt ct fd os oq vs sk ++ X) H := hP
      have hD : va_D (gA g) (MW g ma (nI 1) tb hm oo kp td tt ct fd os oq vs sk ++ X) := hD
      refine lv_aload_n hx hb d_MD_variable_18 rfl (lv_at hl 0 rfl) ?_
      refine va_get (ci := 4) (v := .int (nI 1)) (C := R_MD) (T := T_MD) (N := 13) hx hb ht i_MD hown F.2.1 hP 0 rfl rfl 0 (by decide) (ht _ tw_470) (fun _ h9 => h9) rfl d_MD_variable_19 ?_
      refine rz_le (tgt := 29) hx hb (by omega) d_MD_variable_22 (by decide) (fun c22 => ?_) (fun c22 => ?_)
      · exact (by omega : False).elim
      · refine lv_iconst (v := nI 0) hx hb d_MD_variable_25 (by decide) ?_
        refine lv_goto (tgt := 35) hx hb d_MD_variable_26 (by decide) ?_
        exact W.iret (v := nI 0) hx hb hr (fun t9 e1 hW => ⟨⟨_, (), rfl, rfl, PR.at F hP hD hS e1 hW.alike⟩, hS.F e1⟩) hS.2.2 d_MD_variable_35
    · exact (by omega : False).elim
set_option maxRecDepth 100000 in
set_option maxHeartbeats 4000000 in
theorem c_MD_swap (l : Launch) (g : Gx) (ma : Nat → Nat) (cd : Int32) (tb : Nat → Int64) (hm : Nat → Int32) (kp : Nat → Int32) (td : Int32) (tt : Nat → Int32) (ct : Int32) (fd : Nat → Int64) (os : Int32) (oq : Nat → Int32) (vs : Int32) (sk : Nat → Int64) (X : va_W) (oo : Nat → Nat) (k : Nat) (h1 : ∀ i, i < 6 → oo i < 6) (h2 : k < 5) : Met l y_MD_swap (w_MD_swap :: TW) rm_MD_swap (va_Pc [.ref (ma 0), .int (nI k)] (PR g (MW g ma cd tb hm (nF oo) kp td tt ct fd os oq vs sk ++ X))) (va_Qi (fun r9 (u9 : (Int32) × (Nat → Int64)) => r9 = nI (alL (xch oo k) tb hm 6) ∧ (True)) (fun u9 t9 => PR g (MW g ma (nI 0) tb hm (nF (xch oo k)) kp td tt u9.1 u9.2 os oq vs sk ++ X) t9) (gA g)) 0 0 (gA g) := by
  refine mt_of (by decide) (Nat.le_of_ble_eq_true rfl) ?_
  intro p e s m below meth c ls hx hb hr hml hlk hown ht hnm F hP hD hl
  have hl : lv_has ls 3 [(0, .ref (ma 0)), (1, .int (nI k))] := hl
  have hS : va_S (gA g) s.heap s.heap [] := va_S.rf
  refine lv_aload_n hx hb d_MD_swap_0 rfl (lv_at hl 0 rfl) ?_
  refine lv_iload_n hx hb d_MD_swap_1 rfl (lv_at hl 1 rfl) ?_
  refine lv_iconst (v := nI 0) hx hb d_MD_swap_2 (by decide) ?_
  refine lv_iconst (v := nI 4) hx hb d_MD_swap_3 (by decide) ?_
  refine pc_Si (As := [.int (nI k), .int (nI 0), .int (nI 4)]) (rest := [.ref (ma 0)]) hx hb (hml.trans hl.1.symm) hown ht F hP hD hS (c_MD_within l g (MW g ma cd tb hm (nF oo) kp td tt ct fd os oq vs sk ++ X) k 0 4 (by omega) (by omega) (by omega)) v_MD_within tw_521 ⟨rfl, rfl⟩ ⟨by decide, by decide⟩ rfl rfl (Nat.le_of_ble_eq_true rfl) ⟨Nat.zero_le _, Nat.zero_le _⟩ d_MD_swap_4 (fun r9 u9 H locs hq hP hD hS => ?_)
  subst hq
  refine rz_eq (tgt := 14) hx hb (by omega) d_MD_swap_7 (by decide) (fun c7 => ?_) (fun c7 => ?_)
  · exact (by omega : False).elim
  · refine lv_iconst (v := nI 0) hx hb d_MD_swap_10 (by decide) ?_
    refine lv_goto (tgt := 15) hx hb d_MD_swap_11 (by decide) ?_
    refine va_put (ci := 4) (v := .int (nI 0)) (ty := .int) (C := R_MD) (T := T_MD) (N := 13) hx hb ht i_MD t_MD t_MD_ok n_MD hown F.2.1 hP hD hS 0 rfl rfl 0 (by decide) (ht _ tw_470) (fun _ h9 => h9) rfl (by decide +kernel) rfl rfl (Nat.le_of_ble_eq_true rfl) d_MD_swap_15 (fun H locs hP hD hS => ?_)
    have hP : va_P g.1 cl (MW g ma (nI 0) tb hm (nF oo) kp td tt ct fd os oq vs sk ++ X) H := hP
    have hD : va_D (gA g) (MW g ma (nI 0) tb hm (nF oo) kp td tt ct fd os oq vs sk ++ X) := hD
    refine lv_aload_n hx hb d_MD_swap_18 rfl (lv_at hl 0 rfl) ?_
    refine va_get (ci := 4) (v := .int (nI 0)) (C := R_MD) (T := T_MD) (N := 13) hx hb ht i_MD hown F.2.1 hP 0 rfl rfl 0 (by decide) (ht _ tw_470) (fun _ h9 => h9) rfl d_MD_swap_19 ?_
    refine rz_le (tgt := 27) hx hb (by omega) d_MD_swap_22 (by decide) (fun c22 => ?_) (fun c22 => ?_)
    · refine lv_aload_n hx hb d_MD_swap_27 rfl (lv_at hl 0 rfl) ?_
      refine va_get (ci := 4) (v := .ref (ma 3)) (C := R_MD) (T := T_MD) (N := 13) hx hb ht i_MD hown F.2.1 hP 0 rfl rfl 3 (by decide) (ht _ tw_473) (fun _ h9 => h9) rfl d_MD_swap_28 ?_
      refine lv_iload_n hx hb d_MD_swap_31 rfl (lv_at hl 1 rfl) ?_
      refine ra_I hx hb F hP 3 rfl (by omega) (by decide) d_MD_swap_32 ?_
      refine W.eq (g2 := F0 m 33 ls [.int (nI (oo k))]) rfl ?_
      refine lv_istore_n (lv' := [(2, .int (nI (oo k))), (0, .ref (ma 0)), (1, .int (nI k))]) hx hb d_MD_swap_33 rfl hl (by decide) rfl (fun ls hl => ?_)
      refine lv_aload_n hx hb d_MD_swap_34 rfl (lv_at hl 1 rfl) ?_
      refine va_get (ci := 4) (v := .ref (ma 3)) (C := R_MD) (T := T_MD) (N := 13) hx hb ht i_MD hown F.2.1 hP 0 rfl rfl 3 (by decide) (ht _ tw_473) (fun _ h9 => h9) rfl d_MD_swap_35 ?_
      refine lv_iload_n hx hb d_MD_swap_38 rfl (lv_at hl 2 rfl) ?_
      refine lv_aload_n hx hb d_MD_swap_39 rfl (lv_at hl 1 rfl) ?_
      refine va_get (ci := 4) (v := .ref (ma 3)) (C := R_MD) (T := T_MD) (N := 13) hx hb ht i_MD hown F.2.1 hP 0 rfl rfl 3 (by decide) (ht _ tw_473) (fun _ h9 => h9) rfl d_MD_swap_40 ?_
      refine lv_iload_n hx hb d_MD_swap_43 rfl (lv_at hl 2 rfl) ?_
      refine lv_iconst (v := nI 1) hx hb d_MD_swap_44 (by decide) ?_
      refine rn_add hx hb d_MD_swap_45 ?_
      refine ra_I hx hb F hP 3 rfl (by omega) (by decide) d_MD_swap_46 ?_
      refine W.eq (g2 := F0 m 47 ls [.int (nI (oo (k + 1))), .int (nI k), .ref (ma 3)]) rfl ?_
      refine wa_I hx hb F hP hD hS 3 rfl (by omega) (by decide) d_MD_swap_47 (fun H locs hP hD hS => ?_)
      have hP : va_P g.1 cl (MW g ma (nI 0) tb hm (upd (nF oo) k (nI (oo (k + 1)))) kp td tt ct fd os oq vs sk ++ X) H := hP
      have hD : va_D (gA g) (MW g ma (nI 0) tb hm (upd (nF oo) k (nI (oo (k + 1)))) kp td tt ct fd os oq vs sk ++ X) := hD
      rw [nF_upd] at hP hD
      have hP : va_P g.1 cl (MW g ma (nI 0) tb hm (nF (uN oo k (oo (k + 1)))) kp td tt ct fd os oq vs sk ++ X) H := hP
      have hD : va_D (gA g) (MW g ma (nI 0) tb hm (nF (uN oo k (oo (k + 1)))) kp td tt ct fd os oq vs sk ++ X) := hD
      refine lv_aload_n hx hb d_MD_swap_48 rfl (lv_at hl 1 rfl) ?_
      refine va_get (ci := 4) (v := .ref (ma 3)) (C := R_MD) (T := T_MD) (N := 13) hx hb ht i_MD hown F.2.1 hP 0 rfl rfl 3 (by decide) (ht _ tw_473) (fun _ h9 => h9) rfl d_MD_swap_49 ?_
      refine lv_iload_n hx hb d_MD_swap_52 rfl (lv_at hl 2 rfl) ?_
      refine lv_iconst (v := nI 1) hx hb d_MD_swap_53 (by decide) ?_
      refine rn_add hx hb d_MD_swap_54 ?_
      refine lv_iload_n hx hb d_MD_swap_55 rfl (lv_at hl 0 rfl) ?_
      refine wa_I hx hb F hP hD hS 3 rfl (by omega) (by decide) d_MD_swap_56 (fun H locs hP hD hS => ?_)
      have hP : va_P g.1 cl (MW g ma (nI 0) tb hm (upd (nF (uN oo k (oo (k + 1)))) (k + 1) (nI (oo k))) kp td tt ct fd os oq vs sk ++ X) H := hP
      have hD : va_D (gA g) (MW g ma (nI 0) tb hm (upd (nF (uN oo k (oo (k + 1)))) (k + 1) (nI (oo k))) kp td tt ct fd os oq vs sk ++ X) := hD
      rw [nF_upd] at hP hD
      have hP : va_P g.1 cl (MW g ma (nI 0) tb hm (nF (uN (uN oo k (oo (k + 1))) (k + 1) (oo k))) kp td tt ct fd os oq vs sk ++ X) H := hP
      have hD : va_D (gA g) (MW g ma (nI 0) tb hm (nF (uN (uN oo k (oo (k + 1))) (k + 1) (oo k))) kp td tt ct fd os oq vs sk ++ X) := hD
      refine lv_aload_n hx hb d_MD_swap_57 rfl (lv_at hl 1 rfl) ?_
      refine pc_Vi (q0 := 0) (As := []) (rest := []) hx hb (hml.trans hl.1.symm) hown ht F hP hD hS (c_MD_all l g ma (nI 0) tb hm kp td tt ct fd os oq vs sk X (uN (uN oo k (oo (k + 1))) (k + 1) (oo k)) (xch_lt h1 (by omega))) v_MD_all tw_632 ⟨rfl, rfl⟩ ⟨by decide, by decide⟩ rfl rfl rfl rfl (Nat.le_of_ble_eq_true rfl) ⟨Nat.zero_le _, Nat.zero_le _⟩ d_MD_swap_58 (fun r9 u9 H locs hq hP hD hS => ?_)
      obtain ⟨ct58, fd58⟩ := u9
      obtain ⟨hq, pq58⟩ := hq
      have pq58 : True := pq58
      subst hq
      have hP : va_P g.1 cl (MW g ma (nI 0) tb hm (nF (uN (uN oo k (oo (k + 1))) (k + 1) (oo k))) kp td tt ct58 fd58 os oq vs sk ++ X) H := hP
      have hD : va_D (gA g) (MW g ma (nI 0) tb hm (nF (uN (uN oo k (oo (k + 1))) (k + 1) (oo k))) kp td tt ct58 fd58 os oq vs sk ++ X) := hD
      exact W.iret (v := nI (alL (uN (uN oo k (oo (k + 1))) (k + 1) (oo k)) tb hm 6)) hx hb hr (fun t9 e1 hW => ⟨⟨_, (ct58, fd58), rfl, ⟨rfl, trivial⟩, PR.at F hP hD hS e1 hW.alike⟩, hS.F e1⟩) hS.2.2 d_MD_swap_61
    · exact (by omega : False).elim
set_option maxRecDepth 100000 in
set_option maxHeartbeats 4000000 in
theorem c1_MD_swap (l : Launch) (g : Gx) (ma : Nat → Nat) (cd : Int32) (tb : Nat → Int64) (hm : Nat → Int32) (oo : Nat → Int32) (kp : Nat → Int32) (td : Int32) (tt : Nat → Int32) (ct : Int32) (fd : Nat → Int64) (os : Int32) (oq : Nat → Int32) (vs : Int32) (sk : Nat → Int64) (X : va_W) (k : Int32) (hbad : ¬ (inR k 5)) : Met l y_MD_swap (w_MD_swap :: TW) rm_MD_swap (va_Pc [.ref (ma 0), .int k] (PR g (MW g ma cd tb hm oo kp td tt ct fd os oq vs sk ++ X))) (va_Qi (fun r9 (u9 : Unit) => r9 = nI 0) (fun u9 t9 => PR g (MW g ma (nI 1) tb hm oo kp td tt ct fd os oq vs sk ++ X) t9) (gA g)) 0 0 (gA g) := by
  refine mt_of (by decide) (Nat.le_of_ble_eq_true rfl) ?_
  intro p e s m below meth c ls hx hb hr hml hlk hown ht hnm F hP hD hl
  have hl : lv_has ls 3 [(0, .ref (ma 0)), (1, .int k)] := hl
  have hS : va_S (gA g) s.heap s.heap [] := va_S.rf
  refine lv_aload_n hx hb d_MD_swap_0 rfl (lv_at hl 0 rfl) ?_
  refine lv_iload_n hx hb d_MD_swap_1 rfl (lv_at hl 1 rfl) ?_
  refine lv_iconst (v := nI 0) hx hb d_MD_swap_2 (by decide) ?_
  refine lv_iconst (v := nI 4) hx hb d_MD_swap_3 (by decide) ?_
  by_cases q4 : inR k 5
  · exact (hbad q4).elim
  · refine pc_Si (As := [.int k, .int (nI 0), .int (nI 4)]) (rest := [.ref (ma 0)]) hx hb (hml.trans hl.1.symm) hown ht F hP hD hS (c_MD_within_0 l g (MW g ma cd tb hm oo kp td tt ct fd os oq vs sk ++ X) k 0 4 (fun h => q4 (inR_le h)) (by decide) (by decide)) v_MD_within tw_521 ⟨rfl, rfl⟩ ⟨by decide, by decide⟩ rfl rfl (Nat.le_of_ble_eq_true rfl) ⟨Nat.zero_le _, Nat.zero_le _⟩ d_MD_swap_4 (fun r9 u9 H locs hq hP hD hS => ?_)
    subst hq
    refine rz_eq (tgt := 14) hx hb (by omega) d_MD_swap_7 (by decide) (fun c7 => ?_) (fun c7 => ?_)
    · refine lv_iconst (v := nI 1) hx hb d_MD_swap_14 (by decide) ?_
      refine va_put (ci := 4) (v := .int (nI 1)) (ty := .int) (C := R_MD) (T := T_MD) (N := 13) hx hb ht i_MD t_MD t_MD_ok n_MD hown F.2.1 hP hD hS 0 rfl rfl 0 (by decide) (ht _ tw_470) (fun _ h9 => h9) rfl (by decide +kernel) rfl rfl (Nat.le_of_ble_eq_true rfl) d_MD_swap_15 (fun H locs hP hD hS => ?_)
      have hP : va_P g.1 cl (MW g ma (nI 1) tb hm oo kp td tt ct fd os oq vs sk ++ X) H := hP
      have hD : va_D (gA g) (MW g ma (nI 1) tb hm oo kp td tt ct fd os oq vs sk ++ X) := hD
      refine lv_aload_n hx hb d_MD_swap_18 rfl (lv_at hl 0 rfl) ?_
      refine va_get (ci := 4) (v := .int (nI 1)) (C := R_MD) (T := T_MD) (N := 13) hx hb ht i_MD hown F.2.1 hP 0 rfl rfl 0 (by decide) (ht _ tw_470) (fun _ h9 => h9) rfl d_MD_swap_19 ?_
      refine rz_le (tgt := 27) hx hb (by omega) d_MD_swap_22 (by decide) (fun c22 => ?_) (fun c22 => ?_)
      · exact (by omega : False).elim
      · refine lv_iconst (v := nI 0) hx hb d_MD_swap_25 (by decide) ?_
        exact W.iret (v := nI 0) hx hb hr (fun t9 e1 hW => ⟨⟨_, (), rfl, rfl, PR.at F hP hD hS e1 hW.alike⟩, hS.F e1⟩) hS.2.2 d_MD_swap_26
    · exact (by omega : False).elim
