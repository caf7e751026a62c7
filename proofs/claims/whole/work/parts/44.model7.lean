theorem sim_zk {q : RS} {w : MS} (h : SIM q w) : ((w.2.2.2 = 0 ∧ q.2.2.2.2.2 = 1) ∨ (w.2.2.2 = 1 ∧ q.2.2.2.2.2 = 0)) ∧ q.2.2.2.2.1 = w.2.2.1 ∧ w.2.2.1 ≤ 5 := by
  obtain ⟨f, r, hk, ho, h5, hT, h1, h2, h3, hO, hc⟩ := h
  refine ⟨?_, by rw [hk, ho], by rw [ho]; exact h5⟩
  rcases hc with ⟨a, b, _⟩ | ⟨a, b, _⟩
  · exact Or.inl ⟨b, a⟩
  · exact Or.inr ⟨b, a⟩
theorem simI3 {rg : Nat → Int64} {hd : Nat → Int32} {q : RS} {O : List Nat} {V : List Int64} {o k : Nat} (hs : SIM q (O, V, o, 0)) (hz : q.2.2.2.2.2 = 1) :
    (tkI rg hd q k = none ∧ ((k = 40 ∧ o = 5) ∨ (¬ k = 33 ∧ ¬ k = 40 ∧ ¬ k = 48 ∧ ¬ k = 49 ∧ ¬ (97 ≤ k ∧ k ≤ 102))) ∧ (¬ (65 ≤ k ∧ k ≤ 72) ∨ hd (k - 65) = 0)) ∨
    (∃ q2, tkI rg hd q k = some q2 ∧ (k = 33 ∨ (k = 40 ∧ ¬ o = 5)) ∧ SIM q2 (k :: O, V, if k = 40 then o + 1 else o, 0)) ∨
    (∃ q2, tkI rg hd q k = some q2 ∧ (k = 48 ∨ k = 49 ∨ (97 ≤ k ∧ k ≤ 102) ∨ (65 ≤ k ∧ k ≤ 72)) ∧ ((65 ≤ k ∧ k ≤ 72) → ¬ hd (k - 65) = 0) ∧ SIM q2 (O, vlT rg k :: V, o, 1)) := by
  have e : mdS rg hd (O, V, o, 0) k = (if k = 33 then some (33 :: O, V, o, 0)
    else if k = 40 then (if o = 5 then none else some (40 :: O, V, o + 1, 0))
    else if k = 48 then some (O, 0 :: V, o, 1)
    else if k = 49 then some (O, (-1) :: V, o, 1)
    else if 97 ≤ k ∧ k ≤ 102 then some (O, mk6 (k - 97) :: V, o, 1)
    else if 65 ≤ k ∧ k ≤ 72 ∧ ¬ hd (k - 65) = 0 then some (O, rg (k - 65) :: V, o, 1)
    else none) := if_pos rfl
  have key := simI (rg := rg) (hd := hd) (ch := k) hs hz
  rw [e] at key
  clear e
  by_cases c1 : k = 33
  · rw [if_pos c1] at key
    rcases key with ⟨_, h⟩ | ⟨q2, w2, h1, h2, h3⟩
    · cases h
    · cases h2
      refine Or.inr (Or.inl ⟨q2, h1, Or.inl c1, ?_⟩)
      rw [if_neg (by omega), c1]; exact h3
  rw [if_neg c1] at key
  by_cases c2 : k = 40
  · rw [if_pos c2] at key
    by_cases c3 : o = 5
    · rw [if_pos c3] at key
      rcases key with ⟨h1, _⟩ | ⟨q2, w2, h1, h2, h3⟩
      · exact Or.inl ⟨h1, Or.inl ⟨c2, c3⟩, Or.inl (by omega)⟩
      · cases h2
    · rw [if_neg c3] at key
      rcases key with ⟨_, h⟩ | ⟨q2, w2, h1, h2, h3⟩
      · cases h
      · cases h2
        refine Or.inr (Or.inl ⟨q2, h1, Or.inr ⟨c2, c3⟩, ?_⟩)
        rw [if_pos c2, c2]; exact h3
  rw [if_neg c2] at key
  by_cases c4 : k = 48
  · rw [if_pos c4] at key
    rcases key with ⟨_, h⟩ | ⟨q2, w2, h1, h2, h3⟩
    · cases h
    · cases h2
      refine Or.inr (Or.inr ⟨q2, h1, Or.inl c4, fun z => by omega, ?_⟩)
      rw [show vlT rg k = 0 from if_pos c4]; exact h3
  rw [if_neg c4] at key
  by_cases c5 : k = 49
  · rw [if_pos c5] at key
    rcases key with ⟨_, h⟩ | ⟨q2, w2, h1, h2, h3⟩
    · cases h
    · cases h2
      refine Or.inr (Or.inr ⟨q2, h1, Or.inr (Or.inl c5), fun z => by omega, ?_⟩)
      rw [show vlT rg k = -1 from (if_neg c4).trans (if_pos c5)]; exact h3
  rw [if_neg c5] at key
  by_cases c6 : 97 ≤ k ∧ k ≤ 102
  · rw [if_pos c6] at key
    rcases key with ⟨_, h⟩ | ⟨q2, w2, h1, h2, h3⟩
    · cases h
    · cases h2
      refine Or.inr (Or.inr ⟨q2, h1, Or.inr (Or.inr (Or.inl c6)), fun z => by omega, ?_⟩)
      rw [show vlT rg k = mk6 (k - 97) from (if_neg c4).trans ((if_neg c5).trans (if_pos c6.1))]; exact h3
  rw [if_neg c6] at key
  by_cases c7 : 65 ≤ k ∧ k ≤ 72 ∧ ¬ hd (k - 65) = 0
  · rw [if_pos c7] at key
    rcases key with ⟨_, h⟩ | ⟨q2, w2, h1, h2, h3⟩
    · cases h
    · cases h2
      refine Or.inr (Or.inr ⟨q2, h1, Or.inr (Or.inr (Or.inr ⟨c7.1, c7.2.1⟩)), fun _ => c7.2.2, ?_⟩)
      rw [show vlT rg k = rg (k - 65) from (if_neg c4).trans ((if_neg c5).trans (if_neg (fun z => by have := c7.2.1; omega)))]; exact h3
  · rw [if_neg c7] at key
    rcases key with ⟨h1, _⟩ | ⟨q2, w2, h1, h2, h3⟩
    · refine Or.inl ⟨h1, Or.inr ⟨c1, c2, c4, c5, c6⟩, ?_⟩
      by_cases c8 : 65 ≤ k ∧ k ≤ 72
      · exact Or.inr (Decidable.byContradiction (fun z => c7 ⟨c8.1, c8.2, z⟩))
      · exact Or.inl c8
    · cases h2
theorem tkB_no {q : RS} {k : Nat} (h : tkB q k = none) : ¬ (k = 41 ∧ 0 < q.2.2.2.2.1) ∧ ¬ (0 < stN k ∧ ¬ k = 33) := by
  unfold tkB at h
  by_cases c1 : k = 38
  · rw [if_pos c1] at h; cases h
  rw [if_neg c1] at h
  by_cases c2 : k = 41
  · rw [if_pos c2] at h
    refine ⟨fun z => ?_, fun z => ?_⟩
    · rw [if_pos z.2] at h; cases h
    · rw [c2] at z; exact absurd z.1 (by decide)
  rw [if_neg c2] at h
  by_cases c3 : k = 94
  · rw [if_pos c3] at h; cases h
  rw [if_neg c3] at h
  by_cases c4 : k = 124
  · rw [if_pos c4] at h; cases h
  refine ⟨fun z => c2 z.1, fun z => ?_⟩
  have z1 := z.1
  unfold stN at z1
  rw [if_neg z.2, if_neg c1, if_neg c3, if_neg c4] at z1
  omega
theorem simP {q : RS} {O : List Nat} {V : List Int64} {o : Nat} (hs : SIM q (O, V, o, 1)) (ho : 0 < o) : ∃ O2 V2, rdO 1 O V = some (40 :: O2, V2) := by
  obtain ⟨f, r, hk, ho', h5, hT, h1, h2, h3, hO, hc⟩ := hs
  rcases hc with ⟨_, h, _⟩ | ⟨_, _, y, h4, hV⟩
  · exact absurd (show (1 : Nat) = 0 from h) (by decide)
  · have ho' : o = r.length := ho'
    have hO : O = oF f ++ oT r := hO
    have hV : V = y :: (vF f ++ vT r) := hV
    cases r with
    | nil => rw [ho'] at ho; exact absurd ho (by decide)
    | cons f' r' =>
      rw [hO, hV, rd_1]
      exact ⟨_, _, rfl⟩
theorem simB3 {q : RS} {O : List Nat} {V : List Int64} {o k : Nat} (hs : SIM q (O, V, o, 1)) (hz : q.2.2.2.2.2 = 0) :
    (tkB q k = none ∧ ¬ (k = 41 ∧ 0 < o) ∧ ¬ (0 < stN k ∧ ¬ k = 33)) ∨
    (∃ q2 O2 V2, tkB q k = some q2 ∧ (k = 41 ∧ 0 < o) ∧ rdO 1 O V = some (40 :: O2, V2) ∧ SIM q2 (O2, V2, o - 1, 1)) ∨
    (∃ q2 Oz Vz, tkB q k = some q2 ∧ ¬ (k = 41 ∧ 0 < o) ∧ (0 < stN k ∧ ¬ k = 33) ∧ rdO (stN k) O V = some (Oz, Vz) ∧ SIM q2 (k :: Oz, Vz, o, 0)) := by
  have hk : q.2.2.2.2.1 = o := (sim_zk hs).2.1
  have e : mdS (fun _ => 0) (fun _ => 0) (O, V, o, 1) k = (if k = 41 ∧ 0 < o then (rdO 1 O V).map (fun z => (z.1.tail, z.2, o - 1, 1))
    else if 0 < stN k ∧ ¬ k = 33 then (rdO (stN k) O V).map (fun z => (k :: z.1, z.2, o, 0)) else none) := if_neg (show ¬ ((1 : Nat) = 0) by decide)
  rcases simB (rg := fun _ => 0) (hd := fun _ => 0) (ch := k) hs hz with ⟨h1, _⟩ | ⟨q2, w2, h1, h2, h3⟩
  · have := tkB_no h1
    rw [hk] at this
    exact Or.inl ⟨h1, this⟩
  · rw [e] at h2
    by_cases c1 : k = 41 ∧ 0 < o
    · rw [if_pos c1] at h2
      obtain ⟨O2, V2, hr⟩ := simP hs c1.2
      rw [hr] at h2
      cases h2
      exact Or.inr (Or.inl ⟨q2, O2, V2, h1, c1, hr, h3⟩)
    · rw [if_neg c1] at h2
      by_cases c2 : 0 < stN k ∧ ¬ k = 33
      · rw [if_pos c2] at h2
        cases hr : rdO (stN k) O V with
        | none => rw [hr] at h2; cases h2
        | some z =>
          rw [hr] at h2
          cases h2
          exact Or.inr (Or.inr ⟨q2, z.1, z.2, h1, c1, c2, rfl, h3⟩)
      · rw [if_neg c2] at h2; cases h2
theorem rdO_rO {oq : Nat → Int32} {m : Nat} : ∀ (O : List Nat) (V : List Int64) {Oz : List Nat} {Vz : List Int64}, rdO m O V = some (Oz, Vz) → rO oq O → rO oq Oz
  | [], V, Oz, Vz, h, hr => by cases h; exact hr
  | a :: O, V, Oz, Vz, h, hr => by
    by_cases hm : m ≤ stN a
    · obtain ⟨V2, h1, h2⟩ := rdO_step hm h
      exact rdO_rO O V2 h2 hr.2
    · obtain ⟨e1, e2⟩ := rdO_stop (by omega) h
      subst e1; exact hr
theorem sim_wh {q : RS} {O : List Nat} {V : List Int64} {o wh : Nat} (h : SIM q (O, V, o, wh)) : wh ≤ 1 ∧ o ≤ 5 := by
  refine ⟨?_, (sim_zk h).2.2⟩
  rcases (sim_zk h).1 with ⟨a, _⟩ | ⟨a, _⟩
  · rw [show wh = 0 from a]; decide
  · rw [show wh = 1 from a]; decide
theorem nn0 {i : Nat} (h : i < 2 ^ 31) : ¬ nI i < 0 := by rw [← nI_0, nI_ltI h (by decide)]; omega
set_option maxRecDepth 100000 in
set_option maxHeartbeats 4000000 in
theorem c_MD_read (l : Launch) (g : Gx) (ma : Nat → Nat) (cd : Int32) (tb : Nat → Int64) (hm : Nat → Int32) (oo : Nat → Int32) (kp : Nat → Int32) (ct : Int32) (fd : Nat → Int64) (os : Int32) (oq : Nat → Int32) (vs : Int32) (sk : Nat → Int64) (X : va_W) (tx : Nat → Nat) (n r : Nat) (sm pa pr fl : Nat → Int64) (h1 : r < 8) (h2 : n ≤ 40) (h3 : ∀ i, i < 40 → tx i < 65536) : Met l y_MD_read (w_MD_read :: TW) rm_MD_read (va_Pc [.ref (ma 0), .int (nI r)] (PR g (MW g ma cd tb hm oo kp (nI n) (nF tx) ct fd os oq vs sk ++ X))) (va_Qi (fun r9 (u9 : (Int32) × (Nat → Int32) × (Int32) × (Nat → Int64)) => r9 = (rdG tb hm tx n 0 (bfF (sm, pa, pr, fl, 0, 1))).1) (fun u9 t9 => PR g (MW g ma (nI 0) (if (rdG tb hm tx n 0 (bfF (sm, pa, pr, fl, 0, 1))).1 < 0 then vp_updL tb r (meF (rdG tb hm tx n 0 (bfF (sm, pa, pr, fl, 0, 1))).2) else tb) (if (rdG tb hm tx n 0 (bfF (sm, pa, pr, fl, 0, 1))).1 < 0 then upd hm r (nI 1) else hm) oo kp (nI 0) (nF tx) ct fd u9.1 u9.2.1 u9.2.2.1 u9.2.2.2 ++ X) t9) (gA g)) 0 0 (gA g) := by
  refine mt_of (by decide) (Nat.le_of_ble_eq_true rfl) ?_
  intro p e s m below meth c ls hx hb hr hml hlk hown ht hnm F hP hD hl
  have hl : lv_has ls 8 [(0, .ref (ma 0)), (1, .int (nI r))] := hl
  have hS : va_S (gA g) s.heap s.heap [] := va_S.rf
  refine lv_aload_n hx hb d_MD_read_0 rfl (lv_at hl 0 rfl) ?_
  refine lv_iload_n hx hb d_MD_read_1 rfl (lv_at hl 1 rfl) ?_
  refine pc_Si (As := [.int (nI r)]) (rest := [.ref (ma 0)]) hx hb (hml.trans hl.1.symm) hown ht F hP hD hS (c_MD_isRegister l g (MW g ma cd tb hm oo kp (nI n) (nF tx) ct fd os oq vs sk ++ X) r (by omega)) v_MD_isRegister tw_518 ⟨rfl, rfl⟩ ⟨by decide, by decide⟩ rfl rfl (Nat.le_of_ble_eq_true rfl) ⟨Nat.zero_le _, Nat.zero_le _⟩ d_MD_read_2 (fun r9 u9 H locs hq hP hD hS => ?_)
  subst hq
  refine rz_eq (tgt := 12) hx hb (by omega) d_MD_read_5 (by decide) (fun c5 => ?_) (fun c5 => ?_)
  · exact (by omega : False).elim
  · refine lv_iconst (v := nI 0) hx hb d_MD_read_8 (by decide) ?_
    refine lv_goto (tgt := 13) hx hb d_MD_read_9 (by decide) ?_
    refine va_put (ci := 4) (v := .int (nI 0)) (ty := .int) (C := R_MD) (T := T_MD) (N := 13) hx hb ht i_MD t_MD t_MD_ok n_MD hown F.2.1 hP hD hS 0 rfl rfl 0 (by decide) (ht _ tw_470) (fun _ h9 => h9) rfl (by decide +kernel) rfl rfl (Nat.le_of_ble_eq_true rfl) d_MD_read_13 (fun H locs hP hD hS => ?_)
    have hP : va_P g.1 cl (MW g ma (nI 0) tb hm oo kp (nI n) (nF tx) ct fd os oq vs sk ++ X) H := hP
    have hD : va_D (gA g) (MW g ma (nI 0) tb hm oo kp (nI n) (nF tx) ct fd os oq vs sk ++ X) := hD
    refine lv_aload_n hx hb d_MD_read_16 rfl (lv_at hl 0 rfl) ?_
    refine va_get (ci := 4) (v := .int (nI 0)) (C := R_MD) (T := T_MD) (N := 13) hx hb ht i_MD hown F.2.1 hP 0 rfl rfl 0 (by decide) (ht _ tw_470) (fun _ h9 => h9) rfl d_MD_read_17 ?_
    refine rz_le (tgt := 25) hx hb (by omega) d_MD_read_20 (by decide) (fun c20 => ?_) (fun c20 => ?_)
    · refine lv_aload_n hx hb d_MD_read_25 rfl (lv_at hl 0 rfl) ?_
      refine va_get (ci := 4) (v := .int (nI n)) (C := R_MD) (T := T_MD) (N := 13) hx hb ht i_MD hown F.2.1 hP 0 rfl rfl 5 (by decide) (ht _ tw_475) (fun _ h9 => h9) rfl d_MD_read_26 ?_
      refine lv_istore_n (lv' := [(2, .int (nI n)), (0, .ref (ma 0)), (1, .int (nI r))]) hx hb d_MD_read_29 rfl hl (by decide) rfl (fun ls hl => ?_)
      refine lv_aload_n hx hb d_MD_read_30 rfl (lv_at hl 1 rfl) ?_
      refine lv_iconst (v := nI 0) hx hb d_MD_read_31 (by decide) ?_
      refine va_put (ci := 4) (v := .int (nI 0)) (ty := .int) (C := R_MD) (T := T_MD) (N := 13) hx hb ht i_MD t_MD t_MD_ok n_MD hown F.2.1 hP hD hS 0 rfl rfl 5 (by decide) (ht _ tw_475) (fun _ h9 => h9) rfl (by decide +kernel) rfl rfl (Nat.le_of_ble_eq_true rfl) d_MD_read_32 (fun H locs hP hD hS => ?_)
      have hP : va_P g.1 cl (MW g ma (nI 0) tb hm oo kp (nI 0) (nF tx) ct fd os oq vs sk ++ X) H := hP
      have hD : va_D (gA g) (MW g ma (nI 0) tb hm oo kp (nI 0) (nF tx) ct fd os oq vs sk ++ X) := hD
      refine lv_aload_n hx hb d_MD_read_35 rfl (lv_at hl 1 rfl) ?_
      refine lv_iconst (v := nI 0) hx hb d_MD_read_36 (by decide) ?_
      refine va_put (ci := 4) (v := .int (nI 0)) (ty := .int) (C := R_MD) (T := T_MD) (N := 13) hx hb ht i_MD t_MD t_MD_ok n_MD hown F.2.1 hP hD hS 0 rfl rfl 9 (by decide) (ht _ tw_479) (fun _ h9 => h9) rfl (by decide +kernel) rfl rfl (Nat.le_of_ble_eq_true rfl) d_MD_read_37 (fun H locs hP hD hS => ?_)
      have hP : va_P g.1 cl (MW g ma (nI 0) tb hm oo kp (nI 0) (nF tx) ct fd (nI 0) oq vs sk ++ X) H := hP
      have hD : va_D (gA g) (MW g ma (nI 0) tb hm oo kp (nI 0) (nF tx) ct fd (nI 0) oq vs sk ++ X) := hD
      refine lv_aload_n hx hb d_MD_read_40 rfl (lv_at hl 1 rfl) ?_
      refine lv_iconst (v := nI 0) hx hb d_MD_read_41 (by decide) ?_
      refine va_put (ci := 4) (v := .int (nI 0)) (ty := .int) (C := R_MD) (T := T_MD) (N := 13) hx hb ht i_MD t_MD t_MD_ok n_MD hown F.2.1 hP hD hS 0 rfl rfl 11 (by decide) (ht _ tw_481) (fun _ h9 => h9) rfl (by decide +kernel) rfl rfl (Nat.le_of_ble_eq_true rfl) d_MD_read_42 (fun H locs hP hD hS => ?_)
      have hP : va_P g.1 cl (MW g ma (nI 0) tb hm oo kp (nI 0) (nF tx) ct fd (nI 0) oq (nI 0) sk ++ X) H := hP
      have hD : va_D (gA g) (MW g ma (nI 0) tb hm oo kp (nI 0) (nF tx) ct fd (nI 0) oq (nI 0) sk ++ X) := hD
      refine lv_iconst (v := nI 0) hx hb d_MD_read_45 (by decide) ?_
      refine lv_istore_n (lv' := [(3, .int (nI 0)), (2, .int (nI n)), (0, .ref (ma 0)), (1, .int (nI r))]) hx hb d_MD_read_46 rfl hl (by decide) rfl (fun ls hl => ?_)
      refine lv_iconst (v := nI 0) hx hb d_MD_read_47 (by decide) ?_
      refine lv_istore (lv' := [(4, .int (nI 0)), (3, .int (nI 0)), (2, .int (nI n)), (0, .ref (ma 0)), (1, .int (nI r))]) hx hb d_MD_read_48 hl (by decide) rfl (fun ls hl => ?_)
      refine lv_iconst (v := nI 0) hx hb d_MD_read_50 (by decide) ?_
      refine lv_istore (lv' := [(5, .int (nI 0)), (4, .int (nI 0)), (3, .int (nI 0)), (2, .int (nI n)), (0, .ref (ma 0)), (1, .int (nI r))]) hx hb d_MD_read_51 hl (by decide) rfl (fun ls hl => ?_)
      have lp53 : ∀ (j53 : Nat) (i : Nat) (o : Nat) (wh : Nat) (oq1 : Nat → Int32) (sk1 : Nat → Int64) (q : RS) (O : List Nat) (V : List Int64) (H : Heap) (locs : List Loc) (ls : Array Slot), i + j53 = n → (SIM q (O, V, o, wh)) → ((rdG tb hm tx n 0 (bfF (sm, pa, pr, fl, 0, 1))) = rdG tb hm tx j53 i q) → (rO oq1 O) → (rV sk1 V) → (O.length ≤ i) → (V.length ≤ i) → (∀ a, a ∈ O → a < 2 ^ 31) → va_P g.1 cl (MW g ma (nI 0) tb hm oo kp (nI 0) (nF tx) ct fd (nI (O.length)) oq1 (nI (V.length)) sk1 ++ X) H → va_D (gA g) (MW g ma (nI 0) tb hm oo kp (nI 0) (nF tx) ct fd (nI (O.length)) oq1 (nI (V.length)) sk1 ++ X) → va_S (gA g) s.heap H locs → lv_has ls 8 [(5, .int (nI i)), (4, .int (nI wh)), (3, .int (nI o)), (0, .ref (ma 0)), (1, .int (nI r)), (2, .int (nI n))] → W p l e rm_MD_read s m [.ref (ma 0), .int (nI r)].toArray below meth c H locs 0 0 (MQ below (va_Qi (fun r9 (u9 : (Int32) × (Nat → Int32) × (Int32) × (Nat → Int64)) => r9 = (rdG tb hm tx n 0 (bfF (sm, pa, pr, fl, 0, 1))).1) (fun u9 t9 => PR g (MW g ma (nI 0) (if (rdG tb hm tx n 0 (bfF (sm, pa, pr, fl, 0, 1))).1 < 0 then vp_updL tb r (meF (rdG tb hm tx n 0 (bfF (sm, pa, pr, fl, 0, 1))).2) else tb) (if (rdG tb hm tx n 0 (bfF (sm, pa, pr, fl, 0, 1))).1 < 0 then upd hm r (nI 1) else hm) oo kp (nI 0) (nF tx) ct fd u9.1 u9.2.1 u9.2.2.1 u9.2.2.2 ++ X) t9) (gA g)) [.ref (ma 0), .int (nI r)].toArray s 0 0 (gA g)) (F0 m 53 ls []) := by
        intro j53
        induction j53 with
        | zero =>
          intro i o wh oq1 sk1 q O V H locs ls hj53 g1 g2 g5 g6 g7 g8 g9 hP hD hS hl
          have ho := sim_wh g1
          refine lv_iload hx hb d_MD_read_53 (lv_at hl 0 rfl) ?_
          refine lv_iload_n hx hb d_MD_read_55 rfl (lv_at hl 5 rfl) ?_
          refine rc_ge (tgt := 198) hx hb (by omega) (by omega) d_MD_read_56 (by decide) (fun c56 => ?_) (fun c56 => ?_)
          · refine lv_iload hx hb d_MD_read_198 (lv_at hl 1 rfl) ?_
            refine rz_eq (tgt := 207) hx hb (by omega) d_MD_read_200 (by decide) (fun c200 => ?_) (fun c200 => ?_)
            · have eG : (rdG tb hm tx n 0 (bfF (sm, pa, pr, fl, 0, 1))) = (nI i, q) := g2.trans (Prod.ext (if_pos (Or.inl (by rw [(sim_zk g1).1.elim (fun h => h.2) (fun h => absurd (c200.symm.trans h.1) (by decide))]; decide))) rfl)
              have hg : ¬ (rdG tb hm tx n 0 (bfF (sm, pa, pr, fl, 0, 1))).1 < 0 := by rw [eG]; exact nn0 (by omega)
              refine lv_iload_n hx hb d_MD_read_207 rfl (lv_at hl 5 rfl) ?_
              have hP : va_P g.1 cl (MW g ma (nI 0) (if (rdG tb hm tx n 0 (bfF (sm, pa, pr, fl, 0, 1))).1 < 0 then vp_updL tb r (meF (rdG tb hm tx n 0 (bfF (sm, pa, pr, fl, 0, 1))).2) else tb) (if (rdG tb hm tx n 0 (bfF (sm, pa, pr, fl, 0, 1))).1 < 0 then upd hm r (nI 1) else hm) oo kp (nI 0) (nF tx) ct fd (nI (O.length)) oq1 (nI (V.length)) sk1 ++ X) H := by rw [if_neg hg, if_neg hg]; exact hP
              have hD : va_D (gA g) (MW g ma (nI 0) (if (rdG tb hm tx n 0 (bfF (sm, pa, pr, fl, 0, 1))).1 < 0 then vp_updL tb r (meF (rdG tb hm tx n 0 (bfF (sm, pa, pr, fl, 0, 1))).2) else tb) (if (rdG tb hm tx n 0 (bfF (sm, pa, pr, fl, 0, 1))).1 < 0 then upd hm r (nI 1) else hm) oo kp (nI 0) (nF tx) ct fd (nI (O.length)) oq1 (nI (V.length)) sk1 ++ X) := by rw [if_neg hg, if_neg hg]; exact hD
              exact W.iret (v := nI n) hx hb hr (fun t9 e1 hW => ⟨⟨_, (nI (O.length), oq1, nI (V.length), sk1), rfl, (by rw [eG, show n = i by omega]), PR.at F hP hD hS e1 hW.alike⟩, hS.F e1⟩) hS.2.2 d_MD_read_208
            · refine lv_iload_n hx hb d_MD_read_203 rfl (lv_at hl 2 rfl) ?_
              refine rz_le (tgt := 209) hx hb (by omega) d_MD_read_204 (by decide) (fun c204 => ?_) (fun c204 => ?_)
              · have hz : q.2.2.2.2.2 = 0 := (sim_zk g1).1.elim (fun h => absurd h.1 c200) (fun h => h.2)
                have hk : q.2.2.2.2.1 = 0 := by rw [(sim_zk g1).2.1]; exact Nat.le_zero.mp c204
                have eG : (rdG tb hm tx n 0 (bfF (sm, pa, pr, fl, 0, 1))) = (-1, q) := g2.trans (Prod.ext (if_neg (fun h => h.elim (fun h => h hz) (fun h => by rw [hk] at h; exact absurd h (by decide)))) rfl)
                have hg : (rdG tb hm tx n 0 (bfF (sm, pa, pr, fl, 0, 1))).1 < 0 := by rw [eG]; show (-1 : Int32) < 0; decide
                refine lv_aload_n hx hb d_MD_read_209 rfl (lv_at hl 3 rfl) ?_
                refine lv_iconst (v := nI 1) hx hb d_MD_read_210 (by decide) ?_
                refine pc_Vv (q0 := 0) (As := [.int (nI 1)]) (rest := []) hx hb (hml.trans hl.1.symm) hown ht F hP hD hS (c_MD_reduce l g ma (nI 0) tb hm oo kp (nI 0) (nF tx) ct fd oq1 sk1 X 1 O (([] : List Nat)) V ([meF q]) (sim_end g1 hz hk) g5 g6 (by omega) (by omega) (by decide) g9) v_MD_reduce tw_582 ⟨rfl, rfl⟩ ⟨by decide, by decide⟩ rfl rfl rfl rfl (Nat.le_of_ble_eq_true rfl) ⟨Nat.zero_le _, Nat.zero_le _⟩ d_MD_read_211 (fun u9 H locs hq hP hD hS => ?_)
                obtain ⟨sk211, rfl⟩ : ∃ z9, z9 = u9 := ⟨_, rfl⟩
                have pq211 := hq
                have pq211 : rV sk211 ([meF q]) := pq211
                have hP : va_P g.1 cl (MW g ma (nI 0) tb hm oo kp (nI 0) (nF tx) ct fd (nI ((([] : List Nat)).length)) oq1 (nI (([meF q]).length)) sk211 ++ X) H := hP
                have hD : va_D (gA g) (MW g ma (nI 0) tb hm oo kp (nI 0) (nF tx) ct fd (nI ((([] : List Nat)).length)) oq1 (nI (([meF q]).length)) sk211 ++ X) := hD
                refine lv_aload_n hx hb d_MD_read_214 rfl (lv_at hl 3 rfl) ?_
                refine lv_iload_n hx hb d_MD_read_215 rfl (lv_at hl 4 rfl) ?_
                refine lv_aload_n hx hb d_MD_read_216 rfl (lv_at hl 3 rfl) ?_
                refine va_get (ci := 4) (v := .ref (ma 8)) (C := R_MD) (T := T_MD) (N := 13) hx hb ht i_MD hown F.2.1 hP 0 rfl rfl 12 (by decide) (ht _ tw_482) (fun _ h9 => h9) rfl d_MD_read_217 ?_
                refine lv_iconst (v := nI 0) hx hb d_MD_read_220 (by decide) ?_
                refine ra_J hx hb F hP 8 rfl (by omega) (by decide) d_MD_read_221 ?_
                refine pc_Vv (q0 := 0) (As := [.int (nI r), .long (sk211 0)]) (rest := []) hx hb (hml.trans hl.1.symm) hown ht F hP hD hS (c_MD_put l g ma (nI 0) tb hm oo kp (nI 0) (nF tx) ct fd (nI ((([] : List Nat)).length)) oq1 (nI (([meF q]).length)) sk211 X r (sk211 0) (by omega)) v_MD_put tw_528 ⟨rfl, rfl⟩ ⟨by decide, by decide⟩ rfl rfl rfl rfl (Nat.le_of_ble_eq_true rfl) ⟨Nat.zero_le _, Nat.zero_le _⟩ d_MD_read_222 (fun u9 H locs hq hP hD hS => ?_)
                have hP : va_P g.1 cl (MW g ma (nI 0) (vp_updL tb r (sk211 0)) (upd hm r (nI 1)) oo kp (nI 0) (nF tx) ct fd (nI ((([] : List Nat)).length)) oq1 (nI (([meF q]).length)) sk211 ++ X) H := hP
                have hD : va_D (gA g) (MW g ma (nI 0) (vp_updL tb r (sk211 0)) (upd hm r (nI 1)) oo kp (nI 0) (nF tx) ct fd (nI ((([] : List Nat)).length)) oq1 (nI (([meF q]).length)) sk211 ++ X) := hD
                refine lv_iconst (v := -1) hx hb d_MD_read_225 (by decide) ?_
                have hP : va_P g.1 cl (MW g ma (nI 0) (if (rdG tb hm tx n 0 (bfF (sm, pa, pr, fl, 0, 1))).1 < 0 then vp_updL tb r (meF (rdG tb hm tx n 0 (bfF (sm, pa, pr, fl, 0, 1))).2) else tb) (if (rdG tb hm tx n 0 (bfF (sm, pa, pr, fl, 0, 1))).1 < 0 then upd hm r (nI 1) else hm) oo kp (nI 0) (nF tx) ct fd (nI ((([] : List Nat)).length)) oq1 (nI (([meF q]).length)) sk211 ++ X) H := by rw [if_pos hg, if_pos hg, show meF (rdG tb hm tx n 0 (bfF (sm, pa, pr, fl, 0, 1))).2 = sk211 0 by rw [eG]; exact pq211.1.symm]; exact hP
                have hD : va_D (gA g) (MW g ma (nI 0) (if (rdG tb hm tx n 0 (bfF (sm, pa, pr, fl, 0, 1))).1 < 0 then vp_updL tb r (meF (rdG tb hm tx n 0 (bfF (sm, pa, pr, fl, 0, 1))).2) else tb) (if (rdG tb hm tx n 0 (bfF (sm, pa, pr, fl, 0, 1))).1 < 0 then upd hm r (nI 1) else hm) oo kp (nI 0) (nF tx) ct fd (nI ((([] : List Nat)).length)) oq1 (nI (([meF q]).length)) sk211 ++ X) := by rw [if_pos hg, if_pos hg, show meF (rdG tb hm tx n 0 (bfF (sm, pa, pr, fl, 0, 1))).2 = sk211 0 by rw [eG]; exact pq211.1.symm]; exact hD
                exact W.iret (v := -1) hx hb hr (fun t9 e1 hW => ⟨⟨_, (nI ((([] : List Nat)).length), oq1, nI (([meF q]).length), sk211), rfl, (by rw [eG]), PR.at F hP hD hS e1 hW.alike⟩, hS.F e1⟩) hS.2.2 d_MD_read_226
              · have eG : (rdG tb hm tx n 0 (bfF (sm, pa, pr, fl, 0, 1))) = (nI i, q) := g2.trans (Prod.ext (if_pos (Or.inr (by rw [(sim_zk g1).2.1]; exact Nat.lt_of_not_le c204))) rfl)
                have hg : ¬ (rdG tb hm tx n 0 (bfF (sm, pa, pr, fl, 0, 1))).1 < 0 := by rw [eG]; exact nn0 (by omega)
                refine lv_iload_n hx hb d_MD_read_207 rfl (lv_at hl 5 rfl) ?_
                have hP : va_P g.1 cl (MW g ma (nI 0) (if (rdG tb hm tx n 0 (bfF (sm, pa, pr, fl, 0, 1))).1 < 0 then vp_updL tb r (meF (rdG tb hm tx n 0 (bfF (sm, pa, pr, fl, 0, 1))).2) else tb) (if (rdG tb hm tx n 0 (bfF (sm, pa, pr, fl, 0, 1))).1 < 0 then upd hm r (nI 1) else hm) oo kp (nI 0) (nF tx) ct fd (nI (O.length)) oq1 (nI (V.length)) sk1 ++ X) H := by rw [if_neg hg, if_neg hg]; exact hP
                have hD : va_D (gA g) (MW g ma (nI 0) (if (rdG tb hm tx n 0 (bfF (sm, pa, pr, fl, 0, 1))).1 < 0 then vp_updL tb r (meF (rdG tb hm tx n 0 (bfF (sm, pa, pr, fl, 0, 1))).2) else tb) (if (rdG tb hm tx n 0 (bfF (sm, pa, pr, fl, 0, 1))).1 < 0 then upd hm r (nI 1) else hm) oo kp (nI 0) (nF tx) ct fd (nI (O.length)) oq1 (nI (V.length)) sk1 ++ X) := by rw [if_neg hg, if_neg hg]; exact hD
                exact W.iret (v := nI n) hx hb hr (fun t9 e1 hW => ⟨⟨_, (nI (O.length), oq1, nI (V.length), sk1), rfl, (by rw [eG, show n = i by omega]), PR.at F hP hD hS e1 hW.alike⟩, hS.F e1⟩) hS.2.2 d_MD_read_208
          · exact (by omega : False).elim
        | succ j53 ih53 =>
          intro i o wh oq1 sk1 q O V H locs ls hj53 g1 g2 g5 g6 g7 g8 g9 hP hD hS hl
          have ho := sim_wh g1
          refine lv_iload hx hb d_MD_read_53 (lv_at hl 0 rfl) ?_
          refine lv_iload_n hx hb d_MD_read_55 rfl (lv_at hl 5 rfl) ?_
          refine rc_ge (tgt := 198) hx hb (by omega) (by omega) d_MD_read_56 (by decide) (fun c56 => ?_) (fun c56 => ?_)
          · exact (by omega : False).elim
          · refine lv_aload_n hx hb d_MD_read_59 rfl (lv_at hl 3 rfl) ?_
            refine va_get (ci := 4) (v := .ref (ma 5)) (C := R_MD) (T := T_MD) (N := 13) hx hb ht i_MD hown F.2.1 hP 0 rfl rfl 6 (by decide) (ht _ tw_476) (fun _ h9 => h9) rfl d_MD_read_60 ?_
            refine lv_iload hx hb d_MD_read_63 (lv_at hl 0 rfl) ?_
            refine ra_I hx hb F hP 5 rfl (by omega) (by decide) d_MD_read_65 ?_
            refine W.eq (g2 := F0 m 66 ls [.int (nI (tx i))]) rfl ?_
            have hc := h3 i (by omega)
            have hs4 := stN_le (tx i)
            refine lv_istore (lv' := [(6, .int (nI (tx i))), (5, .int (nI i)), (4, .int (nI wh)), (3, .int (nI o)), (0, .ref (ma 0)), (1, .int (nI r)), (2, .int (nI n))]) hx hb d_MD_read_66 hl (by decide) rfl (fun ls hl => ?_)
            refine lv_iload hx hb d_MD_read_68 (lv_at hl 2 rfl) ?_
            refine rz_ne (tgt := 121) hx hb (by omega) d_MD_read_70 (by decide) (fun c70 => ?_) (fun c70 => ?_)
            · obtain ⟨rfl, hz⟩ : wh = 1 ∧ q.2.2.2.2.2 = 0 := (sim_zk g1).1.elim (fun h => absurd h.1 c70) (fun h => h)
              refine lv_iload hx hb d_MD_read_121 (lv_at hl 0 rfl) ?_
              refine lv_bipush (v := nI 41) hx hb d_MD_read_123 (by decide) ?_
              rcases simB3 (k := tx i) g1 hz with ⟨e1, hA, hB⟩ | ⟨q2, O2, V2, e1, hA, hr, s2⟩ | ⟨q2, Oz, Vz, e1, hA, hB, hr, s2⟩
              · refine rc_ne (tgt := 153) hx hb (by omega) (by omega) d_MD_read_125 (by decide) (fun c125 => ?_) (fun c125 => ?_)
                · refine lv_iload hx hb d_MD_read_153 (lv_at hl 0 rfl) ?_
                  refine pc_Si (As := [.int (nI (tx i))]) (rest := []) hx hb (hml.trans hl.1.symm) hown ht F hP hD hS (c_MD_strength l g (MW g ma (nI 0) tb hm oo kp (nI 0) (nF tx) ct fd (nI (O.length)) oq1 (nI (V.length)) sk1 ++ X) (tx i) (by omega)) v_MD_strength tw_586 ⟨rfl, rfl⟩ ⟨by decide, by decide⟩ rfl rfl (Nat.le_of_ble_eq_true rfl) ⟨Nat.zero_le _, Nat.zero_le _⟩ d_MD_read_155 (fun r9 u9 H locs hq hP hD hS => ?_)
                  subst hq
                  refine rz_le (tgt := 189) hx hb (by omega) d_MD_read_158 (by decide) (fun c158 => ?_) (fun c158 => ?_)
                  · have eG : (rdG tb hm tx n 0 (bfF (sm, pa, pr, fl, 0, 1))) = (nI i, q) := g2.trans (rd_none ((if_pos hz).trans e1))
                    have hg : ¬ (rdG tb hm tx n 0 (bfF (sm, pa, pr, fl, 0, 1))).1 < 0 := by rw [eG]; exact nn0 (by omega)
                    refine lv_iload hx hb d_MD_read_189 (lv_at hl 1 rfl) ?_
                    have hP : va_P g.1 cl (MW g ma (nI 0) (if (rdG tb hm tx n 0 (bfF (sm, pa, pr, fl, 0, 1))).1 < 0 then vp_updL tb r (meF (rdG tb hm tx n 0 (bfF (sm, pa, pr, fl, 0, 1))).2) else tb) (if (rdG tb hm tx n 0 (bfF (sm, pa, pr, fl, 0, 1))).1 < 0 then upd hm r (nI 1) else hm) oo kp (nI 0) (nF tx) ct fd (nI (O.length)) oq1 (nI (V.length)) sk1 ++ X) H := by rw [if_neg hg, if_neg hg]; exact hP
                    have hD : va_D (gA g) (MW g ma (nI 0) (if (rdG tb hm tx n 0 (bfF (sm, pa, pr, fl, 0, 1))).1 < 0 then vp_updL tb r (meF (rdG tb hm tx n 0 (bfF (sm, pa, pr, fl, 0, 1))).2) else tb) (if (rdG tb hm tx n 0 (bfF (sm, pa, pr, fl, 0, 1))).1 < 0 then upd hm r (nI 1) else hm) oo kp (nI 0) (nF tx) ct fd (nI (O.length)) oq1 (nI (V.length)) sk1 ++ X) := by rw [if_neg hg, if_neg hg]; exact hD
                    exact W.iret (v := nI i) hx hb hr (fun t9 e1 hW => ⟨⟨_, (nI (O.length), oq1, nI (V.length), sk1), rfl, (by rw [eG]), PR.at F hP hD hS e1 hW.alike⟩, hS.F e1⟩) hS.2.2 d_MD_read_191
                  · refine lv_iload hx hb d_MD_read_161 (lv_at hl 0 rfl) ?_
                    refine lv_bipush (v := nI 33) hx hb d_MD_read_163 (by decide) ?_
                    refine rc_eq (tgt := 189) hx hb (by omega) (by omega) d_MD_read_165 (by decide) (fun c165 => ?_) (fun c165 => ?_)
                    · have eG : (rdG tb hm tx n 0 (bfF (sm, pa, pr, fl, 0, 1))) = (nI i, q) := g2.trans (rd_none ((if_pos hz).trans e1))
                      have hg : ¬ (rdG tb hm tx n 0 (bfF (sm, pa, pr, fl, 0, 1))).1 < 0 := by rw [eG]; exact nn0 (by omega)
                      refine lv_iload hx hb d_MD_read_189 (lv_at hl 1 rfl) ?_
                      have hP : va_P g.1 cl (MW g ma (nI 0) (if (rdG tb hm tx n 0 (bfF (sm, pa, pr, fl, 0, 1))).1 < 0 then vp_updL tb r (meF (rdG tb hm tx n 0 (bfF (sm, pa, pr, fl, 0, 1))).2) else tb) (if (rdG tb hm tx n 0 (bfF (sm, pa, pr, fl, 0, 1))).1 < 0 then upd hm r (nI 1) else hm) oo kp (nI 0) (nF tx) ct fd (nI (O.length)) oq1 (nI (V.length)) sk1 ++ X) H := by rw [if_neg hg, if_neg hg]; exact hP
                      have hD : va_D (gA g) (MW g ma (nI 0) (if (rdG tb hm tx n 0 (bfF (sm, pa, pr, fl, 0, 1))).1 < 0 then vp_updL tb r (meF (rdG tb hm tx n 0 (bfF (sm, pa, pr, fl, 0, 1))).2) else tb) (if (rdG tb hm tx n 0 (bfF (sm, pa, pr, fl, 0, 1))).1 < 0 then upd hm r (nI 1) else hm) oo kp (nI 0) (nF tx) ct fd (nI (O.length)) oq1 (nI (V.length)) sk1 ++ X) := by rw [if_neg hg, if_neg hg]; exact hD
                      exact W.iret (v := nI i) hx hb hr (fun t9 e1 hW => ⟨⟨_, (nI (O.length), oq1, nI (V.length), sk1), rfl, (by rw [eG]), PR.at F hP hD hS e1 hW.alike⟩, hS.F e1⟩) hS.2.2 d_MD_read_191
                    · exact (by omega : False).elim
                · refine lv_iload_n hx hb d_MD_read_128 rfl (lv_at hl 3 rfl) ?_
                  refine rz_le (tgt := 153) hx hb (by omega) d_MD_read_129 (by decide) (fun c129 => ?_) (fun c129 => ?_)
                  · refine lv_iload hx hb d_MD_read_153 (lv_at hl 0 rfl) ?_
                    refine pc_Si (As := [.int (nI (tx i))]) (rest := []) hx hb (hml.trans hl.1.symm) hown ht F hP hD hS (c_MD_strength l g (MW g ma (nI 0) tb hm oo kp (nI 0) (nF tx) ct fd (nI (O.length)) oq1 (nI (V.length)) sk1 ++ X) (tx i) (by omega)) v_MD_strength tw_586 ⟨rfl, rfl⟩ ⟨by decide, by decide⟩ rfl rfl (Nat.le_of_ble_eq_true rfl) ⟨Nat.zero_le _, Nat.zero_le _⟩ d_MD_read_155 (fun r9 u9 H locs hq hP hD hS => ?_)
                    subst hq
                    refine rz_le (tgt := 189) hx hb (by omega) d_MD_read_158 (by decide) (fun c158 => ?_) (fun c158 => ?_)
                    · have eG : (rdG tb hm tx n 0 (bfF (sm, pa, pr, fl, 0, 1))) = (nI i, q) := g2.trans (rd_none ((if_pos hz).trans e1))
                      have hg : ¬ (rdG tb hm tx n 0 (bfF (sm, pa, pr, fl, 0, 1))).1 < 0 := by rw [eG]; exact nn0 (by omega)
                      refine lv_iload hx hb d_MD_read_189 (lv_at hl 1 rfl) ?_
                      have hP : va_P g.1 cl (MW g ma (nI 0) (if (rdG tb hm tx n 0 (bfF (sm, pa, pr, fl, 0, 1))).1 < 0 then vp_updL tb r (meF (rdG tb hm tx n 0 (bfF (sm, pa, pr, fl, 0, 1))).2) else tb) (if (rdG tb hm tx n 0 (bfF (sm, pa, pr, fl, 0, 1))).1 < 0 then upd hm r (nI 1) else hm) oo kp (nI 0) (nF tx) ct fd (nI (O.length)) oq1 (nI (V.length)) sk1 ++ X) H := by rw [if_neg hg, if_neg hg]; exact hP
                      have hD : va_D (gA g) (MW g ma (nI 0) (if (rdG tb hm tx n 0 (bfF (sm, pa, pr, fl, 0, 1))).1 < 0 then vp_updL tb r (meF (rdG tb hm tx n 0 (bfF (sm, pa, pr, fl, 0, 1))).2) else tb) (if (rdG tb hm tx n 0 (bfF (sm, pa, pr, fl, 0, 1))).1 < 0 then upd hm r (nI 1) else hm) oo kp (nI 0) (nF tx) ct fd (nI (O.length)) oq1 (nI (V.length)) sk1 ++ X) := by rw [if_neg hg, if_neg hg]; exact hD
                      exact W.iret (v := nI i) hx hb hr (fun t9 e1 hW => ⟨⟨_, (nI (O.length), oq1, nI (V.length), sk1), rfl, (by rw [eG]), PR.at F hP hD hS e1 hW.alike⟩, hS.F e1⟩) hS.2.2 d_MD_read_191
                    · refine lv_iload hx hb d_MD_read_161 (lv_at hl 0 rfl) ?_
                      refine lv_bipush (v := nI 33) hx hb d_MD_read_163 (by decide) ?_
                      refine rc_eq (tgt := 189) hx hb (by omega) (by omega) d_MD_read_165 (by decide) (fun c165 => ?_) (fun c165 => ?_)
                      · have eG : (rdG tb hm tx n 0 (bfF (sm, pa, pr, fl, 0, 1))) = (nI i, q) := g2.trans (rd_none ((if_pos hz).trans e1))
                        have hg : ¬ (rdG tb hm tx n 0 (bfF (sm, pa, pr, fl, 0, 1))).1 < 0 := by rw [eG]; exact nn0 (by omega)
                        refine lv_iload hx hb d_MD_read_189 (lv_at hl 1 rfl) ?_
                        have hP : va_P g.1 cl (MW g ma (nI 0) (if (rdG tb hm tx n 0 (bfF (sm, pa, pr, fl, 0, 1))).1 < 0 then vp_updL tb r (meF (rdG tb hm tx n 0 (bfF (sm, pa, pr, fl, 0, 1))).2) else tb) (if (rdG tb hm tx n 0 (bfF (sm, pa, pr, fl, 0, 1))).1 < 0 then upd hm r (nI 1) else hm) oo kp (nI 0) (nF tx) ct fd (nI (O.length)) oq1 (nI (V.length)) sk1 ++ X) H := by rw [if_neg hg, if_neg hg]; exact hP
                        have hD : va_D (gA g) (MW g ma (nI 0) (if (rdG tb hm tx n 0 (bfF (sm, pa, pr, fl, 0, 1))).1 < 0 then vp_updL tb r (meF (rdG tb hm tx n 0 (bfF (sm, pa, pr, fl, 0, 1))).2) else tb) (if (rdG tb hm tx n 0 (bfF (sm, pa, pr, fl, 0, 1))).1 < 0 then upd hm r (nI 1) else hm) oo kp (nI 0) (nF tx) ct fd (nI (O.length)) oq1 (nI (V.length)) sk1 ++ X) := by rw [if_neg hg, if_neg hg]; exact hD
                        exact W.iret (v := nI i) hx hb hr (fun t9 e1 hW => ⟨⟨_, (nI (O.length), oq1, nI (V.length), sk1), rfl, (by rw [eG]), PR.at F hP hD hS e1 hW.alike⟩, hS.F e1⟩) hS.2.2 d_MD_read_191
                      · exact (by omega : False).elim
                  · exact (by omega : False).elim
              · refine rc_ne (tgt := 153) hx hb (by omega) (by omega) d_MD_read_125 (by decide) (fun c125 => ?_) (fun c125 => ?_)
                · exact (by omega : False).elim
                · refine lv_iload_n hx hb d_MD_read_128 rfl (lv_at hl 3 rfl) ?_
                  refine rz_le (tgt := 153) hx hb (by omega) d_MD_read_129 (by decide) (fun c129 => ?_) (fun c129 => ?_)
                  · exact (by omega : False).elim
                  · refine lv_aload_n hx hb d_MD_read_132 rfl (lv_at hl 4 rfl) ?_
                    refine lv_iconst (v := nI 1) hx hb d_MD_read_133 (by decide) ?_
                    refine pc_Vv (q0 := 0) (As := [.int (nI 1)]) (rest := []) hx hb (hml.trans hl.1.symm) hown ht F hP hD hS (c_MD_reduce l g ma (nI 0) tb hm oo kp (nI 0) (nF tx) ct fd oq1 sk1 X 1 O (40 :: O2) V V2 hr g5 g6 (by omega) (by omega) (by decide) g9) v_MD_reduce tw_582 ⟨rfl, rfl⟩ ⟨by decide, by decide⟩ rfl rfl rfl rfl (Nat.le_of_ble_eq_true rfl) ⟨Nat.zero_le _, Nat.zero_le _⟩ d_MD_read_134 (fun u9 H locs hq hP hD hS => ?_)
                    obtain ⟨sk134, rfl⟩ : ∃ z9, z9 = u9 := ⟨_, rfl⟩
                    have pq134 := hq
                    have pq134 : rV sk134 V2 := pq134
                    have hP : va_P g.1 cl (MW g ma (nI 0) tb hm oo kp (nI 0) (nF tx) ct fd (nI ((40 :: O2).length)) oq1 (nI (V2.length)) sk134 ++ X) H := hP
                    have hD : va_D (gA g) (MW g ma (nI 0) tb hm oo kp (nI 0) (nF tx) ct fd (nI ((40 :: O2).length)) oq1 (nI (V2.length)) sk134 ++ X) := hD
                    refine lv_aload_n hx hb d_MD_read_137 rfl (lv_at hl 4 rfl) ?_
                    refine lv_dup hx hb d_MD_read_138 rfl ?_
                    refine va_get (ci := 4) (v := .int (nI ((40 :: O2).length))) (C := R_MD) (T := T_MD) (N := 13) hx hb ht i_MD hown F.2.1 hP 0 rfl rfl 9 (by decide) (ht _ tw_479) (fun _ h9 => h9) rfl d_MD_read_139 ?_
                    refine lv_iconst (v := nI 1) hx hb d_MD_read_142 (by decide) ?_
                    refine rn_sub hx hb (Nat.succ_le_succ (Nat.zero_le _)) d_MD_read_143 ?_
                    refine va_put (ci := 4) (v := .int (nI (((40 :: O2).length) - 1))) (ty := .int) (C := R_MD) (T := T_MD) (N := 13) hx hb ht i_MD t_MD t_MD_ok n_MD hown F.2.1 hP hD hS 0 rfl rfl 9 (by decide) (ht _ tw_479) (fun _ h9 => h9) rfl (by decide +kernel) rfl rfl (Nat.le_of_ble_eq_true rfl) d_MD_read_144 (fun H locs hP hD hS => ?_)
                    have hP : va_P g.1 cl (MW g ma (nI 0) tb hm oo kp (nI 0) (nF tx) ct fd (nI (((40 :: O2).length) - 1)) oq1 (nI (V2.length)) sk134 ++ X) H := hP
                    have hD : va_D (gA g) (MW g ma (nI 0) tb hm oo kp (nI 0) (nF tx) ct fd (nI (((40 :: O2).length) - 1)) oq1 (nI (V2.length)) sk134 ++ X) := hD
                    refine lv_iinc (lv' := [(3, .int (nI (o - 1))), (6, .int (nI (tx i))), (5, .int (nI i)), (4, .int (nI 1)), (0, .ref (ma 0)), (1, .int (nI r)), (2, .int (nI n))]) hx hb d_MD_read_147 hl (k := 3) rfl (sb_m1 (by omega)) (by decide) rfl (fun ls hl => ?_)
                    refine lv_goto (tgt := 192) hx hb d_MD_read_150 (by decide) ?_
                    refine lv_iinc (lv' := [(5, .int (nI (i + 1))), (3, .int (nI (o - 1))), (6, .int (nI (tx i))), (4, .int (nI 1)), (0, .ref (ma 0)), (1, .int (nI r)), (2, .int (nI n))]) hx hb d_MD_read_192 hl (k := 2) rfl (nI_1 _) (by decide) rfl (fun ls hl => ?_)
                    refine lv_goto (tgt := 53) hx hb d_MD_read_195 (by decide) ?_
                    have hl := lv_sub hl [0, 3, 1, 4, 5, 6] rfl
                    have hl : lv_has ls 8 [(5, .int (nI ((i + 1)))), (4, .int (nI 1)), (3, .int (nI ((o - 1)))), (0, .ref (ma 0)), (1, .int (nI r)), (2, .int (nI n))] := hl
                    have hP : va_P g.1 cl (MW g ma (nI 0) tb hm oo kp (nI 0) (nF tx) ct fd (nI (O2.length)) oq1 (nI (V2.length)) sk134 ++ X) H := hP
                    have hD : va_D (gA g) (MW g ma (nI 0) tb hm oo kp (nI 0) (nF tx) ct fd (nI (O2.length)) oq1 (nI (V2.length)) sk134 ++ X) := hD
                    exact ih53 (i + 1) (o - 1) 1 oq1 sk134 q2 O2 V2 H locs ls (by omega) s2 (g2.trans (rd_some ((if_pos hz).trans e1))) (rdO_rO _ _ hr g5).2 pq134 (Nat.le_trans (Nat.le_of_succ_le (rdO_len _ _ hr).1) (Nat.le_succ_of_le g7)) (Nat.le_succ_of_le (Nat.le_trans (rdO_len _ _ hr).2.1 g8)) (fun a ha => g9 a ((rdO_len _ _ hr).2.2 a (List.mem_cons_of_mem _ ha))) hP hD hS hl
              · refine rc_ne (tgt := 153) hx hb (by omega) (by omega) d_MD_read_125 (by decide) (fun c125 => ?_) (fun c125 => ?_)
                · refine lv_iload hx hb d_MD_read_153 (lv_at hl 0 rfl) ?_
                  refine pc_Si (As := [.int (nI (tx i))]) (rest := []) hx hb (hml.trans hl.1.symm) hown ht F hP hD hS (c_MD_strength l g (MW g ma (nI 0) tb hm oo kp (nI 0) (nF tx) ct fd (nI (O.length)) oq1 (nI (V.length)) sk1 ++ X) (tx i) (by omega)) v_MD_strength tw_586 ⟨rfl, rfl⟩ ⟨by decide, by decide⟩ rfl rfl (Nat.le_of_ble_eq_true rfl) ⟨Nat.zero_le _, Nat.zero_le _⟩ d_MD_read_155 (fun r9 u9 H locs hq hP hD hS => ?_)
                  subst hq
                  refine rz_le (tgt := 189) hx hb (by omega) d_MD_read_158 (by decide) (fun c158 => ?_) (fun c158 => ?_)
                  · exact (by omega : False).elim
                  · refine lv_iload hx hb d_MD_read_161 (lv_at hl 0 rfl) ?_
                    refine lv_bipush (v := nI 33) hx hb d_MD_read_163 (by decide) ?_
                    refine rc_eq (tgt := 189) hx hb (by omega) (by omega) d_MD_read_165 (by decide) (fun c165 => ?_) (fun c165 => ?_)
                    · exact (by omega : False).elim
                    · refine lv_aload_n hx hb d_MD_read_168 rfl (lv_at hl 4 rfl) ?_
                      refine lv_iload hx hb d_MD_read_169 (lv_at hl 0 rfl) ?_
                      refine pc_Si (As := [.int (nI (tx i))]) (rest := [.ref (ma 0)]) hx hb (hml.trans hl.1.symm) hown ht F hP hD hS (c_MD_strength l g (MW g ma (nI 0) tb hm oo kp (nI 0) (nF tx) ct fd (nI (O.length)) oq1 (nI (V.length)) sk1 ++ X) (tx i) (by omega)) v_MD_strength tw_586 ⟨rfl, rfl⟩ ⟨by decide, by decide⟩ rfl rfl (Nat.le_of_ble_eq_true rfl) ⟨Nat.zero_le _, Nat.zero_le _⟩ d_MD_read_171 (fun r9 u9 H locs hq hP hD hS => ?_)
                      subst hq
                      refine pc_Vv (q0 := 0) (As := [.int (nI (stN (tx i)))]) (rest := []) hx hb (hml.trans hl.1.symm) hown ht F hP hD hS (c_MD_reduce l g ma (nI 0) tb hm oo kp (nI 0) (nF tx) ct fd oq1 sk1 X (stN (tx i)) O Oz V Vz hr g5 g6 (by omega) (by omega) (Nat.lt_of_le_of_lt (stN_le _) (by decide)) g9) v_MD_reduce tw_582 ⟨rfl, rfl⟩ ⟨by decide, by decide⟩ rfl rfl rfl rfl (Nat.le_of_ble_eq_true rfl) ⟨Nat.zero_le _, Nat.zero_le _⟩ d_MD_read_174 (fun u9 H locs hq hP hD hS => ?_)
                      obtain ⟨sk174, rfl⟩ : ∃ z9, z9 = u9 := ⟨_, rfl⟩
                      have pq174 := hq
                      have pq174 : rV sk174 Vz := pq174
                      have hP : va_P g.1 cl (MW g ma (nI 0) tb hm oo kp (nI 0) (nF tx) ct fd (nI (Oz.length)) oq1 (nI (Vz.length)) sk174 ++ X) H := hP
                      have hD : va_D (gA g) (MW g ma (nI 0) tb hm oo kp (nI 0) (nF tx) ct fd (nI (Oz.length)) oq1 (nI (Vz.length)) sk174 ++ X) := hD
                      refine lv_aload_n hx hb d_MD_read_177 rfl (lv_at hl 4 rfl) ?_
                      refine lv_iload hx hb d_MD_read_178 (lv_at hl 0 rfl) ?_
                      refine pc_Vv (q0 := 0) (As := [.int (nI (tx i))]) (rest := []) hx hb (hml.trans hl.1.symm) hown ht F hP hD hS (c_MD_later l g ma (nI 0) tb hm oo kp (nI 0) (nF tx) ct fd oq1 (nI (Vz.length)) sk174 X Oz.length (tx i) (by have := (rdO_len _ _ hr).1; omega)) v_MD_later tw_574 ⟨rfl, rfl⟩ ⟨by decide, by decide⟩ rfl rfl rfl rfl (Nat.le_of_ble_eq_true rfl) ⟨Nat.zero_le _, Nat.zero_le _⟩ d_MD_read_180 (fun u9 H locs hq hP hD hS => ?_)
                      have hP : va_P g.1 cl (MW g ma (nI 0) tb hm oo kp (nI 0) (nF tx) ct fd (nI (Oz.length + 1)) (upd oq1 Oz.length (nI (tx i))) (nI (Vz.length)) sk174 ++ X) H := hP
                      have hD : va_D (gA g) (MW g ma (nI 0) tb hm oo kp (nI 0) (nF tx) ct fd (nI (Oz.length + 1)) (upd oq1 Oz.length (nI (tx i))) (nI (Vz.length)) sk174 ++ X) := hD
                      refine lv_iconst (v := nI 0) hx hb d_MD_read_183 (by decide) ?_
                      refine lv_istore (lv' := [(4, .int (nI 0)), (6, .int (nI (tx i))), (5, .int (nI i)), (3, .int (nI o)), (0, .ref (ma 0)), (1, .int (nI r)), (2, .int (nI n))]) hx hb d_MD_read_184 hl (by decide) rfl (fun ls hl => ?_)
                      refine lv_goto (tgt := 192) hx hb d_MD_read_186 (by decide) ?_
                      refine lv_iinc (lv' := [(5, .int (nI (i + 1))), (4, .int (nI 0)), (6, .int (nI (tx i))), (3, .int (nI o)), (0, .ref (ma 0)), (1, .int (nI r)), (2, .int (nI n))]) hx hb d_MD_read_192 hl (k := 2) rfl (nI_1 _) (by decide) rfl (fun ls hl => ?_)
                      refine lv_goto (tgt := 53) hx hb d_MD_read_195 (by decide) ?_
                      have hl := lv_sub hl [0, 1, 3, 4, 5, 6] rfl
                      have hl : lv_has ls 8 [(5, .int (nI ((i + 1)))), (4, .int (nI 0)), (3, .int (nI o)), (0, .ref (ma 0)), (1, .int (nI r)), (2, .int (nI n))] := hl
                      have hP : va_P g.1 cl (MW g ma (nI 0) tb hm oo kp (nI 0) (nF tx) ct fd (nI (((tx i :: Oz)).length)) ((upd oq1 Oz.length (nI (tx i)))) (nI (Vz.length)) sk174 ++ X) H := hP
                      have hD : va_D (gA g) (MW g ma (nI 0) tb hm oo kp (nI 0) (nF tx) ct fd (nI (((tx i :: Oz)).length)) ((upd oq1 Oz.length (nI (tx i)))) (nI (Vz.length)) sk174 ++ X) := hD
                      exact ih53 (i + 1) o 0 (upd oq1 Oz.length (nI (tx i))) sk174 q2 ((tx i :: Oz)) Vz H locs ls (by omega) s2 (g2.trans (rd_some ((if_pos hz).trans e1))) (rO_push _ (rdO_rO _ _ hr g5)) pq174 (Nat.succ_le_succ (Nat.le_trans (rdO_len _ _ hr).1 g7)) (Nat.le_succ_of_le (Nat.le_trans (rdO_len _ _ hr).2.1 g8)) (fun a ha => (List.mem_cons.mp ha).elim (fun e => by rw [e]; omega) (fun h => g9 a ((rdO_len _ _ hr).2.2 a h))) hP hD hS hl
                · refine lv_iload_n hx hb d_MD_read_128 rfl (lv_at hl 3 rfl) ?_
                  refine rz_le (tgt := 153) hx hb (by omega) d_MD_read_129 (by decide) (fun c129 => ?_) (fun c129 => ?_)
                  · refine lv_iload hx hb d_MD_read_153 (lv_at hl 0 rfl) ?_
                    refine pc_Si (As := [.int (nI (tx i))]) (rest := []) hx hb (hml.trans hl.1.symm) hown ht F hP hD hS (c_MD_strength l g (MW g ma (nI 0) tb hm oo kp (nI 0) (nF tx) ct fd (nI (O.length)) oq1 (nI (V.length)) sk1 ++ X) (tx i) (by omega)) v_MD_strength tw_586 ⟨rfl, rfl⟩ ⟨by decide, by decide⟩ rfl rfl (Nat.le_of_ble_eq_true rfl) ⟨Nat.zero_le _, Nat.zero_le _⟩ d_MD_read_155 (fun r9 u9 H locs hq hP hD hS => ?_)
                    subst hq
                    refine rz_le (tgt := 189) hx hb (by omega) d_MD_read_158 (by decide) (fun c158 => ?_) (fun c158 => ?_)
                    · exact (by omega : False).elim
                    · refine lv_iload hx hb d_MD_read_161 (lv_at hl 0 rfl) ?_
                      refine lv_bipush (v := nI 33) hx hb d_MD_read_163 (by decide) ?_
                      refine rc_eq (tgt := 189) hx hb (by omega) (by omega) d_MD_read_165 (by decide) (fun c165 => ?_) (fun c165 => ?_)
                      · exact (by omega : False).elim
                      · refine lv_aload_n hx hb d_MD_read_168 rfl (lv_at hl 4 rfl) ?_
                        refine lv_iload hx hb d_MD_read_169 (lv_at hl 0 rfl) ?_
                        refine pc_Si (As := [.int (nI (tx i))]) (rest := [.ref (ma 0)]) hx hb (hml.trans hl.1.symm) hown ht F hP hD hS (c_MD_strength l g (MW g ma (nI 0) tb hm oo kp (nI 0) (nF tx) ct fd (nI (O.length)) oq1 (nI (V.length)) sk1 ++ X) (tx i) (by omega)) v_MD_strength tw_586 ⟨rfl, rfl⟩ ⟨by decide, by decide⟩ rfl rfl (Nat.le_of_ble_eq_true rfl) ⟨Nat.zero_le _, Nat.zero_le _⟩ d_MD_read_171 (fun r9 u9 H locs hq hP hD hS => ?_)
                        subst hq
                        refine pc_Vv (q0 := 0) (As := [.int (nI (stN (tx i)))]) (rest := []) hx hb (hml.trans hl.1.symm) hown ht F hP hD hS (c_MD_reduce l g ma (nI 0) tb hm oo kp (nI 0) (nF tx) ct fd oq1 sk1 X (stN (tx i)) O Oz V Vz hr g5 g6 (by omega) (by omega) (Nat.lt_of_le_of_lt (stN_le _) (by decide)) g9) v_MD_reduce tw_582 ⟨rfl, rfl⟩ ⟨by decide, by decide⟩ rfl rfl rfl rfl (Nat.le_of_ble_eq_true rfl) ⟨Nat.zero_le _, Nat.zero_le _⟩ d_MD_read_174 (fun u9 H locs hq hP hD hS => ?_)
                        obtain ⟨sk174, rfl⟩ : ∃ z9, z9 = u9 := ⟨_, rfl⟩
                        have pq174 := hq
                        have pq174 : rV sk174 Vz := pq174
                        have hP : va_P g.1 cl (MW g ma (nI 0) tb hm oo kp (nI 0) (nF tx) ct fd (nI (Oz.length)) oq1 (nI (Vz.length)) sk174 ++ X) H := hP
                        have hD : va_D (gA g) (MW g ma (nI 0) tb hm oo kp (nI 0) (nF tx) ct fd (nI (Oz.length)) oq1 (nI (Vz.length)) sk174 ++ X) := hD
                        refine lv_aload_n hx hb d_MD_read_177 rfl (lv_at hl 4 rfl) ?_
                        refine lv_iload hx hb d_MD_read_178 (lv_at hl 0 rfl) ?_
                        refine pc_Vv (q0 := 0) (As := [.int (nI (tx i))]) (rest := []) hx hb (hml.trans hl.1.symm) hown ht F hP hD hS (c_MD_later l g ma (nI 0) tb hm oo kp (nI 0) (nF tx) ct fd oq1 (nI (Vz.length)) sk174 X Oz.length (tx i) (by have := (rdO_len _ _ hr).1; omega)) v_MD_later tw_574 ⟨rfl, rfl⟩ ⟨by decide, by decide⟩ rfl rfl rfl rfl (Nat.le_of_ble_eq_true rfl) ⟨Nat.zero_le _, Nat.zero_le _⟩ d_MD_read_180 (fun u9 H locs hq hP hD hS => ?_)
                        have hP : va_P g.1 cl (MW g ma (nI 0) tb hm oo kp (nI 0) (nF tx) ct fd (nI (Oz.length + 1)) (upd oq1 Oz.length (nI (tx i))) (nI (Vz.length)) sk174 ++ X) H := hP
                        have hD : va_D (gA g) (MW g ma (nI 0) tb hm oo kp (nI 0) (nF tx) ct fd (nI (Oz.length + 1)) (upd oq1 Oz.length (nI (tx i))) (nI (Vz.length)) sk174 ++ X) := hD
                        refine lv_iconst (v := nI 0) hx hb d_MD_read_183 (by decide) ?_
                        refine lv_istore (lv' := [(4, .int (nI 0)), (6, .int (nI (tx i))), (5, .int (nI i)), (3, .int (nI o)), (0, .ref (ma 0)), (1, .int (nI r)), (2, .int (nI n))]) hx hb d_MD_read_184 hl (by decide) rfl (fun ls hl => ?_)
                        refine lv_goto (tgt := 192) hx hb d_MD_read_186 (by decide) ?_
                        refine lv_iinc (lv' := [(5, .int (nI (i + 1))), (4, .int (nI 0)), (6, .int (nI (tx i))), (3, .int (nI o)), (0, .ref (ma 0)), (1, .int (nI r)), (2, .int (nI n))]) hx hb d_MD_read_192 hl (k := 2) rfl (nI_1 _) (by decide) rfl (fun ls hl => ?_)
                        refine lv_goto (tgt := 53) hx hb d_MD_read_195 (by decide) ?_
                        have hl := lv_sub hl [0, 1, 3, 4, 5, 6] rfl
                        have hl : lv_has ls 8 [(5, .int (nI ((i + 1)))), (4, .int (nI 0)), (3, .int (nI o)), (0, .ref (ma 0)), (1, .int (nI r)), (2, .int (nI n))] := hl
                        have hP : va_P g.1 cl (MW g ma (nI 0) tb hm oo kp (nI 0) (nF tx) ct fd (nI (((tx i :: Oz)).length)) ((upd oq1 Oz.length (nI (tx i)))) (nI (Vz.length)) sk174 ++ X) H := hP
                        have hD : va_D (gA g) (MW g ma (nI 0) tb hm oo kp (nI 0) (nF tx) ct fd (nI (((tx i :: Oz)).length)) ((upd oq1 Oz.length (nI (tx i)))) (nI (Vz.length)) sk174 ++ X) := hD
                        exact ih53 (i + 1) o 0 (upd oq1 Oz.length (nI (tx i))) sk174 q2 ((tx i :: Oz)) Vz H locs ls (by omega) s2 (g2.trans (rd_some ((if_pos hz).trans e1))) (rO_push _ (rdO_rO _ _ hr g5)) pq174 (Nat.succ_le_succ (Nat.le_trans (rdO_len _ _ hr).1 g7)) (Nat.le_succ_of_le (Nat.le_trans (rdO_len _ _ hr).2.1 g8)) (fun a ha => (List.mem_cons.mp ha).elim (fun e => by rw [e]; omega) (fun h => g9 a ((rdO_len _ _ hr).2.2 a h))) hP hD hS hl
                  · exact (by omega : False).elim
            · obtain rfl : wh = 0 := c70
              have hz : q.2.2.2.2.2 = 1 := (sim_zk g1).1.elim (fun h => h.2) (fun h => absurd (show (0 : Nat) = 1 from h.1) (by decide))
              refine lv_aload_n hx hb d_MD_read_73 rfl (lv_at hl 4 rfl) ?_
              refine lv_iload hx hb d_MD_read_74 (lv_at hl 0 rfl) ?_
              refine lv_iload_n hx hb d_MD_read_76 rfl (lv_at hl 3 rfl) ?_
              rcases simI3 (rg := tb) (hd := hm) (k := tx i) g1 hz with ⟨e1, hA, hB⟩ | ⟨q2, e1, hA, s2⟩ | ⟨q2, e1, hA, hB, s2⟩
              · refine pc_Vi (q0 := 0) (As := [.int (nI (tx i)), .int (nI o)]) (rest := []) hx hb (hml.trans hl.1.symm) hown ht F hP hD hS (c_MD_begin_n l g ma (nI 0) tb hm oo kp (nI 0) (nF tx) ct fd (nI (O.length)) oq1 (nI (V.length)) sk1 X (tx i) o (by omega) (by omega) hA hB) v_MD_begin tw_570 ⟨rfl, rfl⟩ ⟨by decide, by decide⟩ rfl rfl rfl rfl (Nat.le_of_ble_eq_true rfl) ⟨Nat.zero_le _, Nat.zero_le _⟩ d_MD_read_77 (fun r9 u9 H locs hq hP hD hS => ?_)
                subst hq
                refine lv_istore (lv' := [(7, .int (nI 0)), (6, .int (nI (tx i))), (5, .int (nI i)), (4, .int (nI 0)), (3, .int (nI o)), (0, .ref (ma 0)), (1, .int (nI r)), (2, .int (nI n))]) hx hb d_MD_read_80 hl (by decide) rfl (fun ls hl => ?_)
                refine lv_iload hx hb d_MD_read_82 (lv_at hl 0 rfl) ?_
                refine rz_ne (tgt := 90) hx hb (by omega) d_MD_read_84 (by decide) (fun c84 => ?_) (fun c84 => ?_)
                · exact (by omega : False).elim
                · have eG : (rdG tb hm tx n 0 (bfF (sm, pa, pr, fl, 0, 1))) = (nI i, q) := g2.trans (rd_none ((if_neg (by rw [hz]; decide)).trans e1))
                  have hg : ¬ (rdG tb hm tx n 0 (bfF (sm, pa, pr, fl, 0, 1))).1 < 0 := by rw [eG]; exact nn0 (by omega)
                  refine lv_iload hx hb d_MD_read_87 (lv_at hl 2 rfl) ?_
                  have hP : va_P g.1 cl (MW g ma (nI 0) (if (rdG tb hm tx n 0 (bfF (sm, pa, pr, fl, 0, 1))).1 < 0 then vp_updL tb r (meF (rdG tb hm tx n 0 (bfF (sm, pa, pr, fl, 0, 1))).2) else tb) (if (rdG tb hm tx n 0 (bfF (sm, pa, pr, fl, 0, 1))).1 < 0 then upd hm r (nI 1) else hm) oo kp (nI 0) (nF tx) ct fd (nI (O.length)) oq1 (nI (V.length)) sk1 ++ X) H := by rw [if_neg hg, if_neg hg]; exact hP
                  have hD : va_D (gA g) (MW g ma (nI 0) (if (rdG tb hm tx n 0 (bfF (sm, pa, pr, fl, 0, 1))).1 < 0 then vp_updL tb r (meF (rdG tb hm tx n 0 (bfF (sm, pa, pr, fl, 0, 1))).2) else tb) (if (rdG tb hm tx n 0 (bfF (sm, pa, pr, fl, 0, 1))).1 < 0 then upd hm r (nI 1) else hm) oo kp (nI 0) (nF tx) ct fd (nI (O.length)) oq1 (nI (V.length)) sk1 ++ X) := by rw [if_neg hg, if_neg hg]; exact hD
                  exact W.iret (v := nI i) hx hb hr (fun t9 e1 hW => ⟨⟨_, (nI (O.length), oq1, nI (V.length), sk1), rfl, (by rw [eG]), PR.at F hP hD hS e1 hW.alike⟩, hS.F e1⟩) hS.2.2 d_MD_read_89
              · refine pc_Vi (q0 := 0) (As := [.int (nI (tx i)), .int (nI o)]) (rest := []) hx hb (hml.trans hl.1.symm) hown ht F hP hD hS (c_MD_begin_p l g ma (nI 0) tb hm oo kp (nI 0) (nF tx) ct fd oq1 (nI (V.length)) sk1 X O.length (tx i) o (by omega) (by omega) (by omega) hA) v_MD_begin tw_570 ⟨rfl, rfl⟩ ⟨by decide, by decide⟩ rfl rfl rfl rfl (Nat.le_of_ble_eq_true rfl) ⟨Nat.zero_le _, Nat.zero_le _⟩ d_MD_read_77 (fun r9 u9 H locs hq hP hD hS => ?_)
                subst hq
                have hP : va_P g.1 cl (MW g ma (nI 0) tb hm oo kp (nI 0) (nF tx) ct fd (nI (O.length + 1)) (upd oq1 O.length (nI (tx i))) (nI (V.length)) sk1 ++ X) H := hP
                have hD : va_D (gA g) (MW g ma (nI 0) tb hm oo kp (nI 0) (nF tx) ct fd (nI (O.length + 1)) (upd oq1 O.length (nI (tx i))) (nI (V.length)) sk1 ++ X) := hD
                refine lv_istore (lv' := [(7, .int (nI 1)), (6, .int (nI (tx i))), (5, .int (nI i)), (4, .int (nI 0)), (3, .int (nI o)), (0, .ref (ma 0)), (1, .int (nI r)), (2, .int (nI n))]) hx hb d_MD_read_80 hl (by decide) rfl (fun ls hl => ?_)
                refine lv_iload hx hb d_MD_read_82 (lv_at hl 0 rfl) ?_
                refine rz_ne (tgt := 90) hx hb (by omega) d_MD_read_84 (by decide) (fun c84 => ?_) (fun c84 => ?_)
                · refine lv_iload hx hb d_MD_read_90 (lv_at hl 1 rfl) ?_
                  refine lv_bipush (v := nI 40) hx hb d_MD_read_92 (by decide) ?_
                  refine rc_ne (tgt := 103) hx hb (by omega) (by omega) d_MD_read_94 (by decide) (fun c94 => ?_) (fun c94 => ?_)
                  · refine lv_iload_n hx hb d_MD_read_103 rfl (lv_at hl 4 rfl) ?_
                    refine lv_istore_n (lv' := [(3, .int (nI o)), (7, .int (nI 1)), (6, .int (nI (tx i))), (5, .int (nI i)), (4, .int (nI 0)), (0, .ref (ma 0)), (1, .int (nI r)), (2, .int (nI n))]) hx hb d_MD_read_104 rfl hl (by decide) rfl (fun ls hl => ?_)
                    refine lv_iload hx hb d_MD_read_105 (lv_at hl 1 rfl) ?_
                    refine lv_iconst (v := nI 2) hx hb d_MD_read_107 (by decide) ?_
                    refine rc_ne (tgt := 115) hx hb (by omega) (by omega) d_MD_read_108 (by decide) (fun c108 => ?_) (fun c108 => ?_)
                    · refine lv_iconst (v := nI 0) hx hb d_MD_read_115 (by decide) ?_
                      refine lv_istore (lv' := [(4, .int (nI 0)), (3, .int (nI o)), (7, .int (nI 1)), (6, .int (nI (tx i))), (5, .int (nI i)), (0, .ref (ma 0)), (1, .int (nI r)), (2, .int (nI n))]) hx hb d_MD_read_116 hl (by decide) rfl (fun ls hl => ?_)
                      refine lv_goto (tgt := 192) hx hb d_MD_read_118 (by decide) ?_
                      refine lv_iinc (lv' := [(5, .int (nI (i + 1))), (4, .int (nI 0)), (3, .int (nI o)), (7, .int (nI 1)), (6, .int (nI (tx i))), (0, .ref (ma 0)), (1, .int (nI r)), (2, .int (nI n))]) hx hb d_MD_read_192 hl (k := 4) rfl (nI_1 _) (by decide) rfl (fun ls hl => ?_)
                      refine lv_goto (tgt := 53) hx hb d_MD_read_195 (by decide) ?_
                      have hl := lv_sub hl [0, 1, 2, 5, 6, 7] rfl
                      have hl : lv_has ls 8 [(5, .int (nI ((i + 1)))), (4, .int (nI 0)), (3, .int (nI o)), (0, .ref (ma 0)), (1, .int (nI r)), (2, .int (nI n))] := hl
                      have hP : va_P g.1 cl (MW g ma (nI 0) tb hm oo kp (nI 0) (nF tx) ct fd (nI (((tx i :: O)).length)) ((upd oq1 O.length (nI (tx i)))) (nI (V.length)) sk1 ++ X) H := hP
                      have hD : va_D (gA g) (MW g ma (nI 0) tb hm oo kp (nI 0) (nF tx) ct fd (nI (((tx i :: O)).length)) ((upd oq1 O.length (nI (tx i)))) (nI (V.length)) sk1 ++ X) := hD
                      exact ih53 (i + 1) o 0 (upd oq1 O.length (nI (tx i))) sk1 q2 ((tx i :: O)) V H locs ls (by omega) (by rw [if_neg c94] at s2; exact s2) (g2.trans (rd_some ((if_neg (by rw [hz]; decide)).trans e1))) (rO_push _ g5) g6 (Nat.succ_le_succ g7) (Nat.le_succ_of_le g8) (fun a ha => (List.mem_cons.mp ha).elim (fun e => by rw [e]; omega) (g9 a)) hP hD hS hl
                    · exact (by omega : False).elim
                  · refine lv_iload_n hx hb d_MD_read_97 rfl (lv_at hl 4 rfl) ?_
                    refine lv_iconst (v := nI 1) hx hb d_MD_read_98 (by decide) ?_
                    refine rn_add hx hb d_MD_read_99 ?_
                    refine lv_goto (tgt := 104) hx hb d_MD_read_100 (by decide) ?_
                    refine lv_istore_n (lv' := [(3, .int (nI (o + 1))), (7, .int (nI 1)), (6, .int (nI (tx i))), (5, .int (nI i)), (4, .int (nI 0)), (0, .ref (ma 0)), (1, .int (nI r)), (2, .int (nI n))]) hx hb d_MD_read_104 rfl hl (by decide) rfl (fun ls hl => ?_)
                    refine lv_iload hx hb d_MD_read_105 (lv_at hl 1 rfl) ?_
                    refine lv_iconst (v := nI 2) hx hb d_MD_read_107 (by decide) ?_
                    refine rc_ne (tgt := 115) hx hb (by omega) (by omega) d_MD_read_108 (by decide) (fun c108 => ?_) (fun c108 => ?_)
                    · refine lv_iconst (v := nI 0) hx hb d_MD_read_115 (by decide) ?_
                      refine lv_istore (lv' := [(4, .int (nI 0)), (3, .int (nI (o + 1))), (7, .int (nI 1)), (6, .int (nI (tx i))), (5, .int (nI i)), (0, .ref (ma 0)), (1, .int (nI r)), (2, .int (nI n))]) hx hb d_MD_read_116 hl (by decide) rfl (fun ls hl => ?_)
                      refine lv_goto (tgt := 192) hx hb d_MD_read_118 (by decide) ?_
                      refine lv_iinc (lv' := [(5, .int (nI (i + 1))), (4, .int (nI 0)), (3, .int (nI (o + 1))), (7, .int (nI 1)), (6, .int (nI (tx i))), (0, .ref (ma 0)), (1, .int (nI r)), (2, .int (nI n))]) hx hb d_MD_read_192 hl (k := 4) rfl (nI_1 _) (by decide) rfl (fun ls hl => ?_)
                      refine lv_goto (tgt := 53) hx hb d_MD_read_195 (by decide) ?_
                      have hl := lv_sub hl [0, 1, 2, 5, 6, 7] rfl
                      have hl : lv_has ls 8 [(5, .int (nI ((i + 1)))), (4, .int (nI 0)), (3, .int (nI ((o + 1)))), (0, .ref (ma 0)), (1, .int (nI r)), (2, .int (nI n))] := hl
                      have hP : va_P g.1 cl (MW g ma (nI 0) tb hm oo kp (nI 0) (nF tx) ct fd (nI (((tx i :: O)).length)) ((upd oq1 O.length (nI (tx i)))) (nI (V.length)) sk1 ++ X) H := hP
                      have hD : va_D (gA g) (MW g ma (nI 0) tb hm oo kp (nI 0) (nF tx) ct fd (nI (((tx i :: O)).length)) ((upd oq1 O.length (nI (tx i)))) (nI (V.length)) sk1 ++ X) := hD
                      exact ih53 (i + 1) (o + 1) 0 (upd oq1 O.length (nI (tx i))) sk1 q2 ((tx i :: O)) V H locs ls (by omega) (by rw [if_pos c94] at s2; exact s2) (g2.trans (rd_some ((if_neg (by rw [hz]; decide)).trans e1))) (rO_push _ g5) g6 (Nat.succ_le_succ g7) (Nat.le_succ_of_le g8) (fun a ha => (List.mem_cons.mp ha).elim (fun e => by rw [e]; omega) (g9 a)) hP hD hS hl
                    · exact (by omega : False).elim
                · exact (by omega : False).elim
              · refine pc_Vi (q0 := 0) (As := [.int (nI (tx i)), .int (nI o)]) (rest := []) hx hb (hml.trans hl.1.symm) hown ht F hP hD hS (c_MD_begin_v l g ma (nI 0) tb hm oo kp (nI 0) (nF tx) ct fd (nI (O.length)) oq1 sk1 X V.length (tx i) o (by omega) (by omega) (by omega) hA hB) v_MD_begin tw_570 ⟨rfl, rfl⟩ ⟨by decide, by decide⟩ rfl rfl rfl rfl (Nat.le_of_ble_eq_true rfl) ⟨Nat.zero_le _, Nat.zero_le _⟩ d_MD_read_77 (fun r9 u9 H locs hq hP hD hS => ?_)
                subst hq
                have hP : va_P g.1 cl (MW g ma (nI 0) tb hm oo kp (nI 0) (nF tx) ct fd (nI (O.length)) oq1 (nI (V.length + 1)) (vp_updL sk1 V.length (vlT tb (tx i))) ++ X) H := hP
                have hD : va_D (gA g) (MW g ma (nI 0) tb hm oo kp (nI 0) (nF tx) ct fd (nI (O.length)) oq1 (nI (V.length + 1)) (vp_updL sk1 V.length (vlT tb (tx i))) ++ X) := hD
                refine lv_istore (lv' := [(7, .int (nI 2)), (6, .int (nI (tx i))), (5, .int (nI i)), (4, .int (nI 0)), (3, .int (nI o)), (0, .ref (ma 0)), (1, .int (nI r)), (2, .int (nI n))]) hx hb d_MD_read_80 hl (by decide) rfl (fun ls hl => ?_)
                refine lv_iload hx hb d_MD_read_82 (lv_at hl 0 rfl) ?_
                refine rz_ne (tgt := 90) hx hb (by omega) d_MD_read_84 (by decide) (fun c84 => ?_) (fun c84 => ?_)
                · refine lv_iload hx hb d_MD_read_90 (lv_at hl 1 rfl) ?_
                  refine lv_bipush (v := nI 40) hx hb d_MD_read_92 (by decide) ?_
                  refine rc_ne (tgt := 103) hx hb (by omega) (by omega) d_MD_read_94 (by decide) (fun c94 => ?_) (fun c94 => ?_)
                  · refine lv_iload_n hx hb d_MD_read_103 rfl (lv_at hl 4 rfl) ?_
                    refine lv_istore_n (lv' := [(3, .int (nI o)), (7, .int (nI 2)), (6, .int (nI (tx i))), (5, .int (nI i)), (4, .int (nI 0)), (0, .ref (ma 0)), (1, .int (nI r)), (2, .int (nI n))]) hx hb d_MD_read_104 rfl hl (by decide) rfl (fun ls hl => ?_)
                    refine lv_iload hx hb d_MD_read_105 (lv_at hl 1 rfl) ?_
                    refine lv_iconst (v := nI 2) hx hb d_MD_read_107 (by decide) ?_
                    refine rc_ne (tgt := 115) hx hb (by omega) (by omega) d_MD_read_108 (by decide) (fun c108 => ?_) (fun c108 => ?_)
                    · exact (by omega : False).elim
                    · refine lv_iconst (v := nI 1) hx hb d_MD_read_111 (by decide) ?_
                      refine lv_goto (tgt := 116) hx hb d_MD_read_112 (by decide) ?_
                      refine lv_istore (lv' := [(4, .int (nI 1)), (3, .int (nI o)), (7, .int (nI 2)), (6, .int (nI (tx i))), (5, .int (nI i)), (0, .ref (ma 0)), (1, .int (nI r)), (2, .int (nI n))]) hx hb d_MD_read_116 hl (by decide) rfl (fun ls hl => ?_)
                      refine lv_goto (tgt := 192) hx hb d_MD_read_118 (by decide) ?_
                      refine lv_iinc (lv' := [(5, .int (nI (i + 1))), (4, .int (nI 1)), (3, .int (nI o)), (7, .int (nI 2)), (6, .int (nI (tx i))), (0, .ref (ma 0)), (1, .int (nI r)), (2, .int (nI n))]) hx hb d_MD_read_192 hl (k := 4) rfl (nI_1 _) (by decide) rfl (fun ls hl => ?_)
                      refine lv_goto (tgt := 53) hx hb d_MD_read_195 (by decide) ?_
                      have hl := lv_sub hl [0, 1, 2, 5, 6, 7] rfl
                      have hl : lv_has ls 8 [(5, .int (nI ((i + 1)))), (4, .int (nI 1)), (3, .int (nI o)), (0, .ref (ma 0)), (1, .int (nI r)), (2, .int (nI n))] := hl
                      have hP : va_P g.1 cl (MW g ma (nI 0) tb hm oo kp (nI 0) (nF tx) ct fd (nI (O.length)) oq1 (nI (((vlT tb (tx i) :: V)).length)) ((vp_updL sk1 V.length (vlT tb (tx i)))) ++ X) H := hP
                      have hD : va_D (gA g) (MW g ma (nI 0) tb hm oo kp (nI 0) (nF tx) ct fd (nI (O.length)) oq1 (nI (((vlT tb (tx i) :: V)).length)) ((vp_updL sk1 V.length (vlT tb (tx i)))) ++ X) := hD
                      exact ih53 (i + 1) o 1 oq1 (vp_updL sk1 V.length (vlT tb (tx i))) q2 O ((vlT tb (tx i) :: V)) H locs ls (by omega) s2 (g2.trans (rd_some ((if_neg (by rw [hz]; decide)).trans e1))) g5 (rV_push _ g6) (Nat.le_succ_of_le g7) (Nat.succ_le_succ g8) g9 hP hD hS hl
                  · exact (by omega : False).elim
                · exact (by omega : False).elim
      have hl := lv_sub hl [0, 1, 2, 4, 5, 3] rfl
      have hl : lv_has ls 8 [(5, .int (nI 0)), (4, .int (nI 0)), (3, .int (nI 0)), (0, .ref (ma 0)), (1, .int (nI r)), (2, .int (nI n))] := hl
      have hP : va_P g.1 cl (MW g ma (nI 0) tb hm oo kp (nI 0) (nF tx) ct fd (nI ((([] : List Nat)).length)) oq (nI ((([] : List Int64)).length)) sk ++ X) H := hP
      have hD : va_D (gA g) (MW g ma (nI 0) tb hm oo kp (nI 0) (nF tx) ct fd (nI ((([] : List Nat)).length)) oq (nI ((([] : List Int64)).length)) sk ++ X) := hD
      exact lp53 (n - 0) 0 0 0 oq sk ((bfF (sm, pa, pr, fl, 0, 1))) (([] : List Nat)) (([] : List Int64)) _ _ ls (by omega) (sim_0 sm pa pr fl) rfl trivial trivial (Nat.zero_le _) (Nat.zero_le _) (fun _ h => absurd h List.not_mem_nil) hP hD hS hl
    · exact (by omega : False).elim
set_option maxRecDepth 100000 in
set_option maxHeartbeats 4000000 in
theorem c1_MD_read (l : Launch) (g : Gx) (ma : Nat → Nat) (cd : Int32) (tb : Nat → Int64) (hm : Nat → Int32) (oo : Nat → Int32) (kp : Nat → Int32) (td : Int32) (tt : Nat → Int32) (ct : Int32) (fd : Nat → Int64) (os : Int32) (oq : Nat → Int32) (vs : Int32) (sk : Nat → Int64) (X : va_W) (r : Int32) (hbad : ¬ (inR r 8)) : Met l y_MD_read (w_MD_read :: TW) rm_MD_read (va_Pc [.ref (ma 0), .int r] (PR g (MW g ma cd tb hm oo kp td tt ct fd os oq vs sk ++ X))) (va_Qi (fun r9 (u9 : Unit) => r9 = nI 0) (fun u9 t9 => PR g (MW g ma (nI 1) tb hm oo kp td tt ct fd os oq vs sk ++ X) t9) (gA g)) 0 0 (gA g) := by
  refine mt_of (by decide) (Nat.le_of_ble_eq_true rfl) ?_
  intro p e s m below meth c ls hx hb hr hml hlk hown ht hnm F hP hD hl
  have hl : lv_has ls 8 [(0, .ref (ma 0)), (1, .int r)] := hl
  have hS : va_S (gA g) s.heap s.heap [] := va_S.rf
  refine lv_aload_n hx hb d_MD_read_0 rfl (lv_at hl 0 rfl) ?_
  refine lv_iload_n hx hb d_MD_read_1 rfl (lv_at hl 1 rfl) ?_
  by_cases q2 : inR r 8
  · exact (hbad q2).elim
  · refine pc_Si (As := [.int r]) (rest := [.ref (ma 0)]) hx hb (hml.trans hl.1.symm) hown ht F hP hD hS (c_MD_isRegister_0 l g (MW g ma cd tb hm oo kp td tt ct fd os oq vs sk ++ X) r q2) v_MD_isRegister tw_518 ⟨rfl, rfl⟩ ⟨by decide, by decide⟩ rfl rfl (Nat.le_of_ble_eq_true rfl) ⟨Nat.zero_le _, Nat.zero_le _⟩ d_MD_read_2 (fun r9 u9 H locs hq hP hD hS => ?_)
    subst hq
    refine rz_eq (tgt := 12) hx hb (by omega) d_MD_read_5 (by decide) (fun c5 => ?_) (fun c5 => ?_)
    · refine lv_iconst (v := nI 1) hx hb d_MD_read_12 (by decide) ?_
      refine va_put (ci := 4) (v := .int (nI 1)) (ty := .int) (C := R_MD) (T := T_MD) (N := 13) hx hb ht i_MD t_MD t_MD_ok n_MD hown F.2.1 hP hD hS 0 rfl rfl 0 (by decide) (ht _ tw_470) (fun _ h9 => h9) rfl (by decide +kernel) rfl rfl (Nat.le_of_ble_eq_true rfl) d_MD_read_13 (fun H locs hP hD hS => ?_)
      have hP : va_P g.1 cl (MW g ma (nI 1) tb hm oo kp td tt ct fd os oq vs sk ++ X) H := hP
      have hD : va_D (gA g) (MW g ma (nI 1) tb hm oo kp td tt ct fd os oq vs sk ++ X) := hD
      refine lv_aload_n hx hb d_MD_read_16 rfl (lv_at hl 0 rfl) ?_
      refine va_get (ci := 4) (v := .int (nI 1)) (C := R_MD) (T := T_MD) (N := 13) hx hb ht i_MD hown F.2.1 hP 0 rfl rfl 0 (by decide) (ht _ tw_470) (fun _ h9 => h9) rfl d_MD_read_17 ?_
      refine rz_le (tgt := 25) hx hb (by omega) d_MD_read_20 (by decide) (fun c20 => ?_) (fun c20 => ?_)
      · exact (by omega : False).elim
      · refine lv_iconst (v := nI 0) hx hb d_MD_read_23 (by decide) ?_
        exact W.iret (v := nI 0) hx hb hr (fun t9 e1 hW => ⟨⟨_, (), rfl, rfl, PR.at F hP hD hS e1 hW.alike⟩, hS.F e1⟩) hS.2.2 d_MD_read_24
    · exact (by omega : False).elim
