/-- the first places of a row hold a list, its top last -/
def rO (oq : Nat → Int32) : List Nat → Prop
  | [] => True
  | a :: r => oq r.length = nI a ∧ rO oq r
def rV (sk : Nat → Int64) : List Int64 → Prop
  | [] => True
  | y :: r => sk r.length = y ∧ rV sk r
theorem rO_up {oq : Nat → Int32} {k : Nat} {x : Int32} : ∀ (r : List Nat), r.length ≤ k → rO oq r → rO (upd oq k x) r
  | [], _, _ => trivial
  | a :: r, h, hr => ⟨(pk_un (Nat.ne_of_lt h)).trans hr.1, rO_up r (Nat.le_of_lt h) hr.2⟩
theorem rO_push {oq : Nat → Int32} {r : List Nat} (a : Nat) (hr : rO oq r) : rO (upd oq r.length (nI a)) (a :: r) := ⟨pk_us, rO_up r (Nat.le_refl _) hr⟩
theorem rV_up {sk : Nat → Int64} {k : Nat} {x : Int64} : ∀ (r : List Int64), r.length ≤ k → rV sk r → rV (vp_updL sk k x) r
  | [], _, _ => trivial
  | a :: r, h, hr => ⟨(uL_n sk x (Nat.ne_of_lt h)).trans hr.1, rV_up r (Nat.le_of_lt h) hr.2⟩
theorem rV_push {sk : Nat → Int64} {r : List Int64} (a : Int64) (hr : rV sk r) : rV (vp_updL sk r.length a) (a :: r) := ⟨uL_s sk _ a, rV_up r (Nat.le_refl _) hr⟩
theorem rV_set {sk : Nat → Int64} {r : List Int64} {y : Int64} (hr : rV sk (y :: r)) (z : Int64) : rV (vp_updL sk r.length z) (z :: r) := rV_push z hr.2
theorem stN_le (a : Nat) : stN a ≤ 4 := by unfold stN; repeat' split
                                           all_goals omega
theorem rdO_step {m a : Nat} {O : List Nat} {V : List Int64} {R : List Nat × List Int64} (h : m ≤ stN a) (hr : rdO m (a :: O) V = some R) : ∃ V2, apO a V = some V2 ∧ rdO m O V2 = some R := by
  have h2 : (if m ≤ stN a then (match apO a V with | none => none | some vs' => rdO m O vs') else some (a :: O, V)) = some R := hr
  rw [if_pos h] at h2
  cases e : apO a V with
  | none => rw [e] at h2; cases h2
  | some V2 => rw [e] at h2; exact ⟨V2, rfl, h2⟩
theorem rdO_stop {m a : Nat} {O : List Nat} {V : List Int64} {Oz : List Nat} {Vz : List Int64} (h : stN a < m) (hr : rdO m (a :: O) V = some (Oz, Vz)) : a :: O = Oz ∧ V = Vz := by
  have h2 : (if m ≤ stN a then (match apO a V with | none => none | some vs' => rdO m O vs') else some (a :: O, V)) = some (Oz, Vz) := hr
  rw [if_neg (by omega)] at h2
  cases h2; exact ⟨rfl, rfl⟩
theorem apO_1 {a : Nat} {V V2 : List Int64} (h : apO a V = some V2) : 1 ≤ V.length := by
  cases V with
  | nil => cases h
  | cons y r => show 1 ≤ r.length + 1; omega
theorem apO_33 {V V2 : List Int64} (h : apO 33 V = some V2) : ∃ y r, V = y :: r ∧ V2 = (y ^^^ -1) :: r := by
  cases V with
  | nil => cases h
  | cons y r => exact ⟨y, r, rfl, (Option.some.inj h).symm⟩
theorem apO_n {a : Nat} {V V2 : List Int64} (hn : ¬ a = 33) (h : apO a V = some V2) : ∃ y x r, V = y :: x :: r ∧ V2 = (if a = 38 then x &&& y else if a = 94 then x ^^^ y else x ||| y) :: r := by
  cases V with
  | nil => cases h
  | cons y r =>
    cases r with
    | nil =>
      have h2 : (if a = 33 then some [y ^^^ -1] else none) = some V2 := h
      rw [if_neg hn] at h2
      cases h2
    | cons x r =>
      have h2 : (if a = 33 then some ((y ^^^ -1) :: x :: r) else some ((if a = 38 then x &&& y else if a = 94 then x ^^^ y else x ||| y) :: r)) = some V2 := h
      rw [if_neg hn] at h2
      exact ⟨y, x, r, rfl, (Option.some.inj h2).symm⟩
theorem apO_le {a : Nat} {V V2 : List Int64} (h : apO a V = some V2) : V2.length ≤ V.length := by
  by_cases e : a = 33
  · subst e
    obtain ⟨y, r, rfl, rfl⟩ := apO_33 h
    exact Nat.le_refl _
  · obtain ⟨y, x, r, rfl, rfl⟩ := apO_n e h
    show r.length + 1 ≤ r.length + 1 + 1; omega
theorem rdO_len {m : Nat} : ∀ (O : List Nat) (V : List Int64) {Oz : List Nat} {Vz : List Int64}, rdO m O V = some (Oz, Vz) → Oz.length ≤ O.length ∧ Vz.length ≤ V.length ∧ ∀ a, a ∈ Oz → a ∈ O
  | [], V, Oz, Vz, h => by
    cases h; exact ⟨Nat.le_refl _, Nat.le_refl _, fun _ z => z⟩
  | a :: O, V, Oz, Vz, h => by
    by_cases hm : m ≤ stN a
    · obtain ⟨V2, h1, h2⟩ := rdO_step hm h
      obtain ⟨a1, a2, a3⟩ := rdO_len O V2 h2
      have := apO_le h1
      exact ⟨Nat.le_trans a1 (Nat.le_succ _), by omega, fun x hx => List.mem_cons_of_mem _ (a3 x hx)⟩
    · obtain ⟨e1, e2⟩ := rdO_stop (by omega) h
      subst e1 e2
      exact ⟨Nat.le_refl _, Nat.le_refl _, fun _ z => z⟩
theorem ex_cons {O : List Nat} {n : Nat} (h : n + 1 = O.length) : ∃ a r, O = a :: r := by
  cases O with
  | nil => cases h
  | cons a r => exact ⟨a, r, rfl⟩
theorem nwi {k a b : Nat} (hk : k < 2 ^ 31) (hb : b < 2 ^ 31) (h : ¬ (a ≤ k ∧ k ≤ b)) : ¬ ∃ j, a ≤ j ∧ j ≤ b ∧ nI k = nI j := by
  rintro ⟨j, h1, h2, e⟩
  rw [nI_eq hk (by omega)] at e
  omega
/-- the operand that a character stands for -/
def vlT (rg : Nat → Int64) (k : Nat) : Int64 := if k = 48 then 0 else if k = 49 then -1 else if 97 ≤ k then mk6 (k - 97) else rg (k - 65)
set_option maxRecDepth 100000 in
set_option maxHeartbeats 4000000 in
theorem c_MD_push (l : Launch) (g : Gx) (ma : Nat → Nat) (cd : Int32) (tb : Nat → Int64) (hm : Nat → Int32) (oo : Nat → Int32) (kp : Nat → Int32) (td : Int32) (tt : Nat → Int32) (ct : Int32) (fd : Nat → Int64) (os : Int32) (oq : Nat → Int32) (sk : Nat → Int64) (X : va_W) (n : Nat) (t : Int64) (h1 : n < 48) : Met l y_MD_push (w_MD_push :: TW) rm_MD_push (va_Pc [.ref (ma 0), .long t] (PR g (MW g ma cd tb hm oo kp td tt ct fd os oq (nI n) sk ++ X))) (va_Qv (fun (u9 : Unit) => True) (fun u9 t9 => PR g (MW g ma cd tb hm oo kp td tt ct fd os oq (nI (n + 1)) (vp_updL sk n t) ++ X) t9) (gA g)) 0 0 (gA g) := by
  refine mt_of (by decide) (Nat.le_of_ble_eq_true rfl) ?_
  intro p e s m below meth c ls hx hb hr hml hlk hown ht hnm F hP hD hl
  have hl : lv_has ls 3 [(0, .ref (ma 0)), (1, .long t)] := hl
  have hS : va_S (gA g) s.heap s.heap [] := va_S.rf
  refine lv_aload_n hx hb d_MD_push_0 rfl (lv_at hl 0 rfl) ?_
  refine va_get (ci := 4) (v := .ref (ma 8)) (C := R_MD) (T := T_MD) (N := 13) hx hb ht i_MD hown F.2.1 hP 0 rfl rfl 12 (by decide) (ht _ tw_482) (fun _ h9 => h9) rfl d_MD_push_1 ?_
  refine lv_aload_n hx hb d_MD_push_4 rfl (lv_at hl 0 rfl) ?_
  refine va_get (ci := 4) (v := .int (nI n)) (C := R_MD) (T := T_MD) (N := 13) hx hb ht i_MD hown F.2.1 hP 0 rfl rfl 11 (by decide) (ht _ tw_481) (fun _ h9 => h9) rfl d_MD_push_5 ?_
  refine lv_lload_n hx hb d_MD_push_8 rfl (lv_at hl 1 rfl) ?_
  refine wa_J hx hb F hP hD hS 8 rfl (by omega) (by decide) d_MD_push_9 (fun H locs hP hD hS => ?_)
  have hP : va_P g.1 cl (MW g ma cd tb hm oo kp td tt ct fd os oq (nI n) (vp_updL sk n t) ++ X) H := hP
  have hD : va_D (gA g) (MW g ma cd tb hm oo kp td tt ct fd os oq (nI n) (vp_updL sk n t) ++ X) := hD
  refine lv_aload_n hx hb d_MD_push_10 rfl (lv_at hl 0 rfl) ?_
  refine lv_dup hx hb d_MD_push_11 rfl ?_
  refine va_get (ci := 4) (v := .int (nI n)) (C := R_MD) (T := T_MD) (N := 13) hx hb ht i_MD hown F.2.1 hP 0 rfl rfl 11 (by decide) (ht _ tw_481) (fun _ h9 => h9) rfl d_MD_push_12 ?_
  refine lv_iconst (v := nI 1) hx hb d_MD_push_15 (by decide) ?_
  refine rn_add hx hb d_MD_push_16 ?_
  refine va_put (ci := 4) (v := .int (nI (n + 1))) (ty := .int) (C := R_MD) (T := T_MD) (N := 13) hx hb ht i_MD t_MD t_MD_ok n_MD hown F.2.1 hP hD hS 0 rfl rfl 11 (by decide) (ht _ tw_481) (fun _ h9 => h9) rfl (by decide +kernel) rfl rfl (Nat.le_of_ble_eq_true rfl) d_MD_push_17 (fun H locs hP hD hS => ?_)
  have hP : va_P g.1 cl (MW g ma cd tb hm oo kp td tt ct fd os oq (nI (n + 1)) (vp_updL sk n t) ++ X) H := hP
  have hD : va_D (gA g) (MW g ma cd tb hm oo kp td tt ct fd os oq (nI (n + 1)) (vp_updL sk n t) ++ X) := hD
  exact W.vret hx hb hr (fun t9 e1 hW => ⟨⟨(), rfl, trivial, PR.at F hP hD hS e1 hW.alike⟩, hS.F e1⟩) hS.2.2 d_MD_push_20
set_option maxRecDepth 100000 in
set_option maxHeartbeats 4000000 in
theorem c_MD_later (l : Launch) (g : Gx) (ma : Nat → Nat) (cd : Int32) (tb : Nat → Int64) (hm : Nat → Int32) (oo : Nat → Int32) (kp : Nat → Int32) (td : Int32) (tt : Nat → Int32) (ct : Int32) (fd : Nat → Int64) (oq : Nat → Int32) (vs : Int32) (sk : Nat → Int64) (X : va_W) (n k : Nat) (h1 : n < 48) : Met l y_MD_later (w_MD_later :: TW) rm_MD_later (va_Pc [.ref (ma 0), .int (nI k)] (PR g (MW g ma cd tb hm oo kp td tt ct fd (nI n) oq vs sk ++ X))) (va_Qv (fun (u9 : Unit) => True) (fun u9 t9 => PR g (MW g ma cd tb hm oo kp td tt ct fd (nI (n + 1)) (upd oq n (nI k)) vs sk ++ X) t9) (gA g)) 0 0 (gA g) := by
  refine mt_of (by decide) (Nat.le_of_ble_eq_true rfl) ?_
  intro p e s m below meth c ls hx hb hr hml hlk hown ht hnm F hP hD hl
  have hl : lv_has ls 2 [(0, .ref (ma 0)), (1, .int (nI k))] := hl
  have hS : va_S (gA g) s.heap s.heap [] := va_S.rf
  refine lv_aload_n hx hb d_MD_later_0 rfl (lv_at hl 0 rfl) ?_
  refine va_get (ci := 4) (v := .ref (ma 7)) (C := R_MD) (T := T_MD) (N := 13) hx hb ht i_MD hown F.2.1 hP 0 rfl rfl 10 (by decide) (ht _ tw_480) (fun _ h9 => h9) rfl d_MD_later_1 ?_
  refine lv_aload_n hx hb d_MD_later_4 rfl (lv_at hl 0 rfl) ?_
  refine va_get (ci := 4) (v := .int (nI n)) (C := R_MD) (T := T_MD) (N := 13) hx hb ht i_MD hown F.2.1 hP 0 rfl rfl 9 (by decide) (ht _ tw_479) (fun _ h9 => h9) rfl d_MD_later_5 ?_
  refine lv_iload_n hx hb d_MD_later_8 rfl (lv_at hl 1 rfl) ?_
  refine wa_I hx hb F hP hD hS 7 rfl (by omega) (by decide) d_MD_later_9 (fun H locs hP hD hS => ?_)
  have hP : va_P g.1 cl (MW g ma cd tb hm oo kp td tt ct fd (nI n) (upd oq n (nI k)) vs sk ++ X) H := hP
  have hD : va_D (gA g) (MW g ma cd tb hm oo kp td tt ct fd (nI n) (upd oq n (nI k)) vs sk ++ X) := hD
  refine lv_aload_n hx hb d_MD_later_10 rfl (lv_at hl 0 rfl) ?_
  refine lv_dup hx hb d_MD_later_11 rfl ?_
  refine va_get (ci := 4) (v := .int (nI n)) (C := R_MD) (T := T_MD) (N := 13) hx hb ht i_MD hown F.2.1 hP 0 rfl rfl 9 (by decide) (ht _ tw_479) (fun _ h9 => h9) rfl d_MD_later_12 ?_
  refine lv_iconst (v := nI 1) hx hb d_MD_later_15 (by decide) ?_
  refine rn_add hx hb d_MD_later_16 ?_
  refine va_put (ci := 4) (v := .int (nI (n + 1))) (ty := .int) (C := R_MD) (T := T_MD) (N := 13) hx hb ht i_MD t_MD t_MD_ok n_MD hown F.2.1 hP hD hS 0 rfl rfl 9 (by decide) (ht _ tw_479) (fun _ h9 => h9) rfl (by decide +kernel) rfl rfl (Nat.le_of_ble_eq_true rfl) d_MD_later_17 (fun H locs hP hD hS => ?_)
  have hP : va_P g.1 cl (MW g ma cd tb hm oo kp td tt ct fd (nI (n + 1)) (upd oq n (nI k)) vs sk ++ X) H := hP
  have hD : va_D (gA g) (MW g ma cd tb hm oo kp td tt ct fd (nI (n + 1)) (upd oq n (nI k)) vs sk ++ X) := hD
  exact W.vret hx hb hr (fun t9 e1 hW => ⟨⟨(), rfl, trivial, PR.at F hP hD hS e1 hW.alike⟩, hS.F e1⟩) hS.2.2 d_MD_later_20
set_option maxRecDepth 100000 in
set_option maxHeartbeats 4000000 in
theorem c_MD_strength (l : Launch) (g : Gx) (X : va_W) (k : Nat) (h1 : k < 2 ^ 31) : Met l y_MD_strength (w_MD_strength :: TW) rm_MD_strength (va_Pc [.int (nI k)] (PR g (X))) (va_Qi (fun r9 (u9 : Unit) => r9 = nI (stN k)) (fun u9 t9 => PR g (X) t9) (gA g)) 0 0 (gA g) := by
  refine mt_of (by decide) (Nat.le_of_ble_eq_true rfl) ?_
  intro p e s m below meth c ls hx hb hr hml hlk hown ht hnm F hP hD hl
  have hl : lv_has ls 1 [(0, .int (nI k))] := hl
  have hS : va_S (gA g) s.heap s.heap [] := va_S.rf
  refine lv_iload_n hx hb d_MD_strength_0 rfl (lv_at hl 0 rfl) ?_
  refine lv_bipush (v := nI 33) hx hb d_MD_strength_1 (by decide) ?_
  refine rc_ne (tgt := 10) hx hb (by omega) (by omega) d_MD_strength_3 (by decide) (fun c3 => ?_) (fun c3 => ?_)
  · refine lv_iload_n hx hb d_MD_strength_10 rfl (lv_at hl 0 rfl) ?_
    refine lv_bipush (v := nI 38) hx hb d_MD_strength_11 (by decide) ?_
    refine rc_ne (tgt := 20) hx hb (by omega) (by omega) d_MD_strength_13 (by decide) (fun c13 => ?_) (fun c13 => ?_)
    · refine lv_iload_n hx hb d_MD_strength_20 rfl (lv_at hl 0 rfl) ?_
      refine lv_bipush (v := nI 94) hx hb d_MD_strength_21 (by decide) ?_
      refine rc_ne (tgt := 30) hx hb (by omega) (by omega) d_MD_strength_23 (by decide) (fun c23 => ?_) (fun c23 => ?_)
      · refine lv_iload_n hx hb d_MD_strength_30 rfl (lv_at hl 0 rfl) ?_
        refine lv_bipush (v := nI 124) hx hb d_MD_strength_31 (by decide) ?_
        refine rc_ne (tgt := 40) hx hb (by omega) (by omega) d_MD_strength_33 (by decide) (fun c33 => ?_) (fun c33 => ?_)
        · refine lv_iconst (v := nI 0) hx hb d_MD_strength_40 (by decide) ?_
          exact W.iret (v := nI 0) hx hb hr (fun t9 e1 hW => ⟨⟨_, (), rfl, (by unfold stN; rw [if_neg c3, if_neg c13, if_neg c23, if_neg c33]), PR.at F hP hD hS e1 hW.alike⟩, hS.F e1⟩) hS.2.2 d_MD_strength_41
        · refine lv_iconst (v := nI 1) hx hb d_MD_strength_36 (by decide) ?_
          refine lv_goto (tgt := 41) hx hb d_MD_strength_37 (by decide) ?_
          exact W.iret (v := nI 1) hx hb hr (fun t9 e1 hW => ⟨⟨_, (), rfl, (by unfold stN; rw [if_neg c3, if_neg c13, if_neg c23, if_pos c33]), PR.at F hP hD hS e1 hW.alike⟩, hS.F e1⟩) hS.2.2 d_MD_strength_41
      · refine lv_iconst (v := nI 2) hx hb d_MD_strength_26 (by decide) ?_
        refine lv_goto (tgt := 41) hx hb d_MD_strength_27 (by decide) ?_
        exact W.iret (v := nI 2) hx hb hr (fun t9 e1 hW => ⟨⟨_, (), rfl, (by unfold stN; rw [if_neg c3, if_neg c13, if_pos c23]), PR.at F hP hD hS e1 hW.alike⟩, hS.F e1⟩) hS.2.2 d_MD_strength_41
    · refine lv_iconst (v := nI 3) hx hb d_MD_strength_16 (by decide) ?_
      refine lv_goto (tgt := 41) hx hb d_MD_strength_17 (by decide) ?_
      exact W.iret (v := nI 3) hx hb hr (fun t9 e1 hW => ⟨⟨_, (), rfl, (by unfold stN; rw [if_neg c3, if_pos c13]), PR.at F hP hD hS e1 hW.alike⟩, hS.F e1⟩) hS.2.2 d_MD_strength_41
  · refine lv_iconst (v := nI 4) hx hb d_MD_strength_6 (by decide) ?_
    refine lv_goto (tgt := 41) hx hb d_MD_strength_7 (by decide) ?_
    exact W.iret (v := nI 4) hx hb hr (fun t9 e1 hW => ⟨⟨_, (), rfl, (by unfold stN; rw [if_pos c3]), PR.at F hP hD hS e1 hW.alike⟩, hS.F e1⟩) hS.2.2 d_MD_strength_41
set_option maxRecDepth 100000 in
set_option maxHeartbeats 4000000 in
theorem c_MD_reduce (l : Launch) (g : Gx) (ma : Nat → Nat) (cd : Int32) (tb : Nat → Int64) (hm : Nat → Int32) (oo : Nat → Int32) (kp : Nat → Int32) (td : Int32) (tt : Nat → Int32) (ct : Int32) (fd : Nat → Int64) (oq : Nat → Int32) (sk : Nat → Int64) (X : va_W) (mm : Nat) (O Oz : List Nat) (V Vz : List Int64) (h1 : rdO mm O V = some (Oz, Vz)) (h2 : rO oq O) (h3 : rV sk V) (h4 : O.length ≤ 48) (h5 : V.length ≤ 48) (h6 : mm < 2 ^ 31) (h8 : ∀ a, a ∈ O → a < 2 ^ 31) : Met l y_MD_reduce (w_MD_reduce :: TW) rm_MD_reduce (va_Pc [.ref (ma 0), .int (nI mm)] (PR g (MW g ma cd tb hm oo kp td tt ct fd (nI (O.length)) oq (nI (V.length)) sk ++ X))) (va_Qv (fun (u9 : (Nat → Int64)) => rV u9 Vz) (fun u9 t9 => PR g (MW g ma cd tb hm oo kp td tt ct fd (nI (Oz.length)) oq (nI (Vz.length)) u9 ++ X) t9) (gA g)) 0 0 (gA g) := by
  refine mt_of (by decide) (Nat.le_of_ble_eq_true rfl) ?_
  intro p e s m below meth c ls hx hb hr hml hlk hown ht hnm F hP hD hl
  have hl : lv_has ls 7 [(0, .ref (ma 0)), (1, .int (nI mm))] := hl
  have hS : va_S (gA g) s.heap s.heap [] := va_S.rf
  have lp0 : ∀ (j0 : Nat) (n1 : Nat) (nv1 : Nat) (sk1 : Nat → Int64) (O1 : List Nat) (V1 : List Int64) (H : Heap) (locs : List Loc) (ls : Array Slot), 0 + j0 = n1 → (n1 = O1.length) → (nv1 = V1.length) → (rdO mm O1 V1 = some (Oz, Vz)) → (rO oq O1) → (rV sk1 V1) → (n1 ≤ 48 ∧ nv1 ≤ 48) → (∀ a, a ∈ O1 → a < 2 ^ 31) → va_P g.1 cl (MW g ma cd tb hm oo kp td tt ct fd (nI n1) oq (nI nv1) sk1 ++ X) H → va_D (gA g) (MW g ma cd tb hm oo kp td tt ct fd (nI n1) oq (nI nv1) sk1 ++ X) → va_S (gA g) s.heap H locs → lv_has ls 7 [(0, .ref (ma 0)), (1, .int (nI mm))] → W p l e rm_MD_reduce s m [.ref (ma 0), .int (nI mm)].toArray below meth c H locs 0 0 (MQ below (va_Qv (fun (u9 : (Nat → Int64)) => rV u9 Vz) (fun u9 t9 => PR g (MW g ma cd tb hm oo kp td tt ct fd (nI (Oz.length)) oq (nI (Vz.length)) u9 ++ X) t9) (gA g)) [.ref (ma 0), .int (nI mm)].toArray s 0 0 (gA g)) (F0 m 0 ls []) := by
    intro j0
    induction j0 with
    | zero =>
      intro n1 nv1 sk1 O1 V1 H locs ls hj0 k0 kv k1 k2 k3 k4 k5 hP hD hS hl
      obtain rfl : O1 = [] := List.eq_nil_of_length_eq_zero (by omega)
      refine lv_aload_n hx hb d_MD_reduce_0 rfl (lv_at hl 0 rfl) ?_
      refine va_get (ci := 4) (v := .int (nI n1)) (C := R_MD) (T := T_MD) (N := 13) hx hb ht i_MD hown F.2.1 hP 0 rfl rfl 9 (by decide) (ht _ tw_479) (fun _ h9 => h9) rfl d_MD_reduce_1 ?_
      refine rz_le (tgt := 149) hx hb (by omega) d_MD_reduce_4 (by decide) (fun c4 => ?_) (fun c4 => ?_)
      · have e9 : [] = Oz ∧ V1 = Vz := by cases k1; exact ⟨rfl, rfl⟩
        have hP : va_P g.1 cl (MW g ma cd tb hm oo kp td tt ct fd (nI (Oz.length)) oq (nI (Vz.length)) sk1 ++ X) H := by rw [← e9.1, ← e9.2, ← k0, ← kv]; exact hP
        have hD : va_D (gA g) (MW g ma cd tb hm oo kp td tt ct fd (nI (Oz.length)) oq (nI (Vz.length)) sk1 ++ X) := by rw [← e9.1, ← e9.2, ← k0, ← kv]; exact hD
        exact W.vret hx hb hr (fun t9 e1 hW => ⟨⟨(sk1), rfl, (by rw [← e9.2]; exact k3), PR.at F hP hD hS e1 hW.alike⟩, hS.F e1⟩) hS.2.2 d_MD_reduce_149
      · exact (by omega : False).elim
    | succ j0 ih0 =>
      intro n1 nv1 sk1 O1 V1 H locs ls hj0 k0 kv k1 k2 k3 k4 k5 hP hD hS hl
      obtain ⟨aO, O2, rfl⟩ := ex_cons (show j0 + 1 = O1.length by omega)
      have l1 : n1 - 1 = O2.length := by have : n1 = O2.length + 1 := k0; omega
      have e2 : oq (n1 - 1) = nI aO := by rw [l1]; exact k2.1
      have b2 : aO < 2 ^ 31 := k5 aO List.mem_cons_self
      refine lv_aload_n hx hb d_MD_reduce_0 rfl (lv_at hl 0 rfl) ?_
      refine va_get (ci := 4) (v := .int (nI n1)) (C := R_MD) (T := T_MD) (N := 13) hx hb ht i_MD hown F.2.1 hP 0 rfl rfl 9 (by decide) (ht _ tw_479) (fun _ h9 => h9) rfl d_MD_reduce_1 ?_
      refine rz_le (tgt := 149) hx hb (by omega) d_MD_reduce_4 (by decide) (fun c4 => ?_) (fun c4 => ?_)
      · exact (by omega : False).elim
      · refine lv_aload_n hx hb d_MD_reduce_7 rfl (lv_at hl 0 rfl) ?_
        refine va_get (ci := 4) (v := .ref (ma 7)) (C := R_MD) (T := T_MD) (N := 13) hx hb ht i_MD hown F.2.1 hP 0 rfl rfl 10 (by decide) (ht _ tw_480) (fun _ h9 => h9) rfl d_MD_reduce_8 ?_
        refine lv_aload_n hx hb d_MD_reduce_11 rfl (lv_at hl 0 rfl) ?_
        refine va_get (ci := 4) (v := .int (nI n1)) (C := R_MD) (T := T_MD) (N := 13) hx hb ht i_MD hown F.2.1 hP 0 rfl rfl 9 (by decide) (ht _ tw_479) (fun _ h9 => h9) rfl d_MD_reduce_12 ?_
        refine lv_iconst (v := nI 1) hx hb d_MD_reduce_15 (by decide) ?_
        refine rn_sub hx hb (by omega) d_MD_reduce_16 ?_
        refine ra_I hx hb F hP 7 rfl (by omega) (by decide) d_MD_reduce_17 ?_
        rw [e2]
        refine pc_Si (As := [.int (nI aO)]) (rest := []) hx hb (hml.trans hl.1.symm) hown ht F hP hD hS (c_MD_strength l g (MW g ma cd tb hm oo kp td tt ct fd (nI n1) oq (nI nv1) sk1 ++ X) aO b2) v_MD_strength tw_586 ⟨rfl, rfl⟩ ⟨by decide, by decide⟩ rfl rfl (Nat.le_of_ble_eq_true rfl) ⟨Nat.zero_le _, Nat.zero_le _⟩ d_MD_reduce_18 (fun r9 u9 H locs hq hP hD hS => ?_)
        subst hq
        refine lv_iload_n hx hb d_MD_reduce_21 rfl (lv_at hl 1 rfl) ?_
        refine rc_lt (tgt := 149) hx hb (Nat.lt_of_le_of_lt (stN_le _) (by decide)) (by omega) d_MD_reduce_22 (by decide) (fun c22 => ?_) (fun c22 => ?_)
        · have e9 := rdO_stop c22 k1
          have hP : va_P g.1 cl (MW g ma cd tb hm oo kp td tt ct fd (nI (Oz.length)) oq (nI (Vz.length)) sk1 ++ X) H := by rw [← e9.1, ← e9.2, ← k0, ← kv]; exact hP
          have hD : va_D (gA g) (MW g ma cd tb hm oo kp td tt ct fd (nI (Oz.length)) oq (nI (Vz.length)) sk1 ++ X) := by rw [← e9.1, ← e9.2, ← k0, ← kv]; exact hD
          exact W.vret hx hb hr (fun t9 e1 hW => ⟨⟨(sk1), rfl, (by rw [← e9.2]; exact k3), PR.at F hP hD hS e1 hW.alike⟩, hS.F e1⟩) hS.2.2 d_MD_reduce_149
        · obtain ⟨V2, a1, a2⟩ := rdO_step (Nat.le_of_not_lt c22) k1
          have b1 : 1 ≤ nv1 := by rw [kv]; exact apO_1 a1
          refine lv_aload_n hx hb d_MD_reduce_25 rfl (lv_at hl 0 rfl) ?_
          refine lv_dup hx hb d_MD_reduce_26 rfl ?_
          refine va_get (ci := 4) (v := .int (nI n1)) (C := R_MD) (T := T_MD) (N := 13) hx hb ht i_MD hown F.2.1 hP 0 rfl rfl 9 (by decide) (ht _ tw_479) (fun _ h9 => h9) rfl d_MD_reduce_27 ?_
          refine lv_iconst (v := nI 1) hx hb d_MD_reduce_30 (by decide) ?_
          refine rn_sub hx hb (by omega) d_MD_reduce_31 ?_
          refine va_put (ci := 4) (v := .int (nI (n1 - 1))) (ty := .int) (C := R_MD) (T := T_MD) (N := 13) hx hb ht i_MD t_MD t_MD_ok n_MD hown F.2.1 hP hD hS 0 rfl rfl 9 (by decide) (ht _ tw_479) (fun _ h9 => h9) rfl (by decide +kernel) rfl rfl (Nat.le_of_ble_eq_true rfl) d_MD_reduce_32 (fun H locs hP hD hS => ?_)
          have hP : va_P g.1 cl (MW g ma cd tb hm oo kp td tt ct fd (nI (n1 - 1)) oq (nI nv1) sk1 ++ X) H := hP
          have hD : va_D (gA g) (MW g ma cd tb hm oo kp td tt ct fd (nI (n1 - 1)) oq (nI nv1) sk1 ++ X) := hD
          refine lv_aload_n hx hb d_MD_reduce_35 rfl (lv_at hl 0 rfl) ?_
          refine va_get (ci := 4) (v := .ref (ma 7)) (C := R_MD) (T := T_MD) (N := 13) hx hb ht i_MD hown F.2.1 hP 0 rfl rfl 10 (by decide) (ht _ tw_480) (fun _ h9 => h9) rfl d_MD_reduce_36 ?_
          refine lv_aload_n hx hb d_MD_reduce_39 rfl (lv_at hl 0 rfl) ?_
          refine va_get (ci := 4) (v := .int (nI (n1 - 1))) (C := R_MD) (T := T_MD) (N := 13) hx hb ht i_MD hown F.2.1 hP 0 rfl rfl 9 (by decide) (ht _ tw_479) (fun _ h9 => h9) rfl d_MD_reduce_40 ?_
          refine ra_I hx hb F hP 7 rfl (by omega) (by decide) d_MD_reduce_43 ?_
          rw [e2]
          refine lv_istore_n (lv' := [(2, .int (nI aO)), (0, .ref (ma 0)), (1, .int (nI mm))]) hx hb d_MD_reduce_44 rfl hl (by decide) rfl (fun ls hl => ?_)
          refine lv_aload_n hx hb d_MD_reduce_45 rfl (lv_at hl 1 rfl) ?_
          refine va_get (ci := 4) (v := .ref (ma 8)) (C := R_MD) (T := T_MD) (N := 13) hx hb ht i_MD hown F.2.1 hP 0 rfl rfl 12 (by decide) (ht _ tw_482) (fun _ h9 => h9) rfl d_MD_reduce_46 ?_
          refine lv_aload_n hx hb d_MD_reduce_49 rfl (lv_at hl 1 rfl) ?_
          refine va_get (ci := 4) (v := .int (nI nv1)) (C := R_MD) (T := T_MD) (N := 13) hx hb ht i_MD hown F.2.1 hP 0 rfl rfl 11 (by decide) (ht _ tw_481) (fun _ h9 => h9) rfl d_MD_reduce_50 ?_
          refine lv_iconst (v := nI 1) hx hb d_MD_reduce_53 (by decide) ?_
          refine rn_sub hx hb (by omega) d_MD_reduce_54 ?_
          refine ra_J hx hb F hP 8 rfl (by omega) (by decide) d_MD_reduce_55 ?_
          refine lv_lstore_n (lv' := [(3, .long (sk1 (nv1 - 1))), (2, .int (nI aO)), (0, .ref (ma 0)), (1, .int (nI mm))]) hx hb d_MD_reduce_56 rfl hl (by decide) rfl (fun ls hl => ?_)
          refine lv_iload_n hx hb d_MD_reduce_57 rfl (lv_at hl 1 rfl) ?_
          refine lv_bipush (v := nI 33) hx hb d_MD_reduce_58 (by decide) ?_
          refine rc_ne (tgt := 82) hx hb (by omega) (by omega) d_MD_reduce_60 (by decide) (fun c60 => ?_) (fun c60 => ?_)
          · obtain ⟨y1, x1, r1, hV, hV2⟩ := apO_n c60 a1
            have hh : rV sk1 (y1 :: x1 :: r1) := by rw [← hV]; exact k3
            have i0 : nv1 = r1.length + 1 + 1 := by rw [kv, hV]; rfl
            have i1 : nv1 - 1 - 1 = r1.length := by omega
            have i2 : nv1 - 1 = r1.length + 1 := by omega
            have y2 : sk1 (nv1 - 1) = y1 := by rw [i2]; exact hh.1
            have x2 : sk1 (nv1 - 1 - 1) = x1 := by rw [i1]; exact hh.2.1
            refine lv_aload_n hx hb d_MD_reduce_82 rfl (lv_at hl 2 rfl) ?_
            refine lv_dup hx hb d_MD_reduce_83 rfl ?_
            refine va_get (ci := 4) (v := .int (nI nv1)) (C := R_MD) (T := T_MD) (N := 13) hx hb ht i_MD hown F.2.1 hP 0 rfl rfl 11 (by decide) (ht _ tw_481) (fun _ h9 => h9) rfl d_MD_reduce_84 ?_
            refine lv_iconst (v := nI 1) hx hb d_MD_reduce_87 (by decide) ?_
            refine rn_sub hx hb (by omega) d_MD_reduce_88 ?_
            refine va_put (ci := 4) (v := .int (nI (nv1 - 1))) (ty := .int) (C := R_MD) (T := T_MD) (N := 13) hx hb ht i_MD t_MD t_MD_ok n_MD hown F.2.1 hP hD hS 0 rfl rfl 11 (by decide) (ht _ tw_481) (fun _ h9 => h9) rfl (by decide +kernel) rfl rfl (Nat.le_of_ble_eq_true rfl) d_MD_reduce_89 (fun H locs hP hD hS => ?_)
            have hP : va_P g.1 cl (MW g ma cd tb hm oo kp td tt ct fd (nI (n1 - 1)) oq (nI (nv1 - 1)) sk1 ++ X) H := hP
            have hD : va_D (gA g) (MW g ma cd tb hm oo kp td tt ct fd (nI (n1 - 1)) oq (nI (nv1 - 1)) sk1 ++ X) := hD
            refine lv_aload_n hx hb d_MD_reduce_92 rfl (lv_at hl 2 rfl) ?_
            refine va_get (ci := 4) (v := .ref (ma 8)) (C := R_MD) (T := T_MD) (N := 13) hx hb ht i_MD hown F.2.1 hP 0 rfl rfl 12 (by decide) (ht _ tw_482) (fun _ h9 => h9) rfl d_MD_reduce_93 ?_
            refine lv_aload_n hx hb d_MD_reduce_96 rfl (lv_at hl 2 rfl) ?_
            refine va_get (ci := 4) (v := .int (nI (nv1 - 1))) (C := R_MD) (T := T_MD) (N := 13) hx hb ht i_MD hown F.2.1 hP 0 rfl rfl 11 (by decide) (ht _ tw_481) (fun _ h9 => h9) rfl d_MD_reduce_97 ?_
            refine lv_iconst (v := nI 1) hx hb d_MD_reduce_100 (by decide) ?_
            refine rn_sub hx hb (by omega) d_MD_reduce_101 ?_
            refine ra_J hx hb F hP 8 rfl (by omega) (by decide) d_MD_reduce_102 ?_
            refine lv_lstore (lv' := [(5, .long (sk1 ((nv1 - 1) - 1))), (3, .long (sk1 (nv1 - 1))), (2, .int (nI aO)), (0, .ref (ma 0)), (1, .int (nI mm))]) hx hb d_MD_reduce_103 hl (by decide) rfl (fun ls hl => ?_)
            refine lv_aload_n hx hb d_MD_reduce_105 rfl (lv_at hl 3 rfl) ?_
            refine va_get (ci := 4) (v := .ref (ma 8)) (C := R_MD) (T := T_MD) (N := 13) hx hb ht i_MD hown F.2.1 hP 0 rfl rfl 12 (by decide) (ht _ tw_482) (fun _ h9 => h9) rfl d_MD_reduce_106 ?_
            refine lv_aload_n hx hb d_MD_reduce_109 rfl (lv_at hl 3 rfl) ?_
            refine va_get (ci := 4) (v := .int (nI (nv1 - 1))) (C := R_MD) (T := T_MD) (N := 13) hx hb ht i_MD hown F.2.1 hP 0 rfl rfl 11 (by decide) (ht _ tw_481) (fun _ h9 => h9) rfl d_MD_reduce_110 ?_
            refine lv_iconst (v := nI 1) hx hb d_MD_reduce_113 (by decide) ?_
            refine rn_sub hx hb (by omega) d_MD_reduce_114 ?_
            refine lv_iload_n hx hb d_MD_reduce_115 rfl (lv_at hl 2 rfl) ?_
            refine lv_bipush (v := nI 38) hx hb d_MD_reduce_116 (by decide) ?_
            refine rc_ne (tgt := 128) hx hb (by omega) (by omega) d_MD_reduce_118 (by decide) (fun c118 => ?_) (fun c118 => ?_)
            · refine lv_iload_n hx hb d_MD_reduce_128 rfl (lv_at hl 2 rfl) ?_
              refine lv_bipush (v := nI 94) hx hb d_MD_reduce_129 (by decide) ?_
              refine rc_ne (tgt := 141) hx hb (by omega) (by omega) d_MD_reduce_131 (by decide) (fun c131 => ?_) (fun c131 => ?_)
              · refine lv_lload hx hb d_MD_reduce_141 (lv_at hl 0 rfl) ?_
                refine lv_lload_n hx hb d_MD_reduce_143 rfl (lv_at hl 1 rfl) ?_
                refine lv_lor hx hb d_MD_reduce_144 ?_
                refine wa_J hx hb F hP hD hS 8 rfl (by omega) (by decide) d_MD_reduce_145 (fun H locs hP hD hS => ?_)
                have hP : va_P g.1 cl (MW g ma cd tb hm oo kp td tt ct fd (nI (n1 - 1)) oq (nI (nv1 - 1)) (vp_updL sk1 ((nv1 - 1) - 1) ((sk1 ((nv1 - 1) - 1)) ||| (sk1 (nv1 - 1)))) ++ X) H := hP
                have hD : va_D (gA g) (MW g ma cd tb hm oo kp td tt ct fd (nI (n1 - 1)) oq (nI (nv1 - 1)) (vp_updL sk1 ((nv1 - 1) - 1) ((sk1 ((nv1 - 1) - 1)) ||| (sk1 (nv1 - 1)))) ++ X) := hD
                refine lv_goto (tgt := 0) hx hb d_MD_reduce_146 (by decide) ?_
                have hl := lv_sub hl [3, 4] rfl
                have hl : lv_has ls 7 [(0, .ref (ma 0)), (1, .int (nI mm))] := hl
                have hP : va_P g.1 cl (MW g ma cd tb hm oo kp td tt ct fd (nI (n1 - 1)) oq (nI (nv1 - 1)) ((vp_updL sk1 ((nv1 - 1) - 1) ((sk1 ((nv1 - 1) - 1)) ||| (sk1 (nv1 - 1))))) ++ X) H := hP
                have hD : va_D (gA g) (MW g ma cd tb hm oo kp td tt ct fd (nI (n1 - 1)) oq (nI (nv1 - 1)) ((vp_updL sk1 ((nv1 - 1) - 1) ((sk1 ((nv1 - 1) - 1)) ||| (sk1 (nv1 - 1))))) ++ X) := hD
                exact ih0 (n1 - 1) (nv1 - 1) (vp_updL sk1 ((nv1 - 1) - 1) ((sk1 ((nv1 - 1) - 1)) ||| (sk1 (nv1 - 1)))) O2 V2 H locs ls (by omega) l1 (by rw [hV2, i2]; rfl) a2 k2.2 (by rw [hV2, if_neg c118, if_neg c131, y2, x2, i1]; exact rV_set hh.2 _) (by omega) (fun a ha => k5 a (List.mem_cons_of_mem _ ha)) hP hD hS hl
              · refine lv_lload hx hb d_MD_reduce_134 (lv_at hl 0 rfl) ?_
                refine lv_lload_n hx hb d_MD_reduce_136 rfl (lv_at hl 1 rfl) ?_
                refine lv_lxor hx hb d_MD_reduce_137 ?_
                refine lv_goto (tgt := 145) hx hb d_MD_reduce_138 (by decide) ?_
                refine wa_J hx hb F hP hD hS 8 rfl (by omega) (by decide) d_MD_reduce_145 (fun H locs hP hD hS => ?_)
                have hP : va_P g.1 cl (MW g ma cd tb hm oo kp td tt ct fd (nI (n1 - 1)) oq (nI (nv1 - 1)) (vp_updL sk1 ((nv1 - 1) - 1) ((sk1 ((nv1 - 1) - 1)) ^^^ (sk1 (nv1 - 1)))) ++ X) H := hP
                have hD : va_D (gA g) (MW g ma cd tb hm oo kp td tt ct fd (nI (n1 - 1)) oq (nI (nv1 - 1)) (vp_updL sk1 ((nv1 - 1) - 1) ((sk1 ((nv1 - 1) - 1)) ^^^ (sk1 (nv1 - 1)))) ++ X) := hD
                refine lv_goto (tgt := 0) hx hb d_MD_reduce_146 (by decide) ?_
                have hl := lv_sub hl [3, 4] rfl
                have hl : lv_has ls 7 [(0, .ref (ma 0)), (1, .int (nI mm))] := hl
                have hP : va_P g.1 cl (MW g ma cd tb hm oo kp td tt ct fd (nI (n1 - 1)) oq (nI (nv1 - 1)) ((vp_updL sk1 ((nv1 - 1) - 1) ((sk1 ((nv1 - 1) - 1)) ^^^ (sk1 (nv1 - 1))))) ++ X) H := hP
                have hD : va_D (gA g) (MW g ma cd tb hm oo kp td tt ct fd (nI (n1 - 1)) oq (nI (nv1 - 1)) ((vp_updL sk1 ((nv1 - 1) - 1) ((sk1 ((nv1 - 1) - 1)) ^^^ (sk1 (nv1 - 1))))) ++ X) := hD
                exact ih0 (n1 - 1) (nv1 - 1) (vp_updL sk1 ((nv1 - 1) - 1) ((sk1 ((nv1 - 1) - 1)) ^^^ (sk1 (nv1 - 1)))) O2 V2 H locs ls (by omega) l1 (by rw [hV2, i2]; rfl) a2 k2.2 (by rw [hV2, if_neg c118, if_pos c131, y2, x2, i1]; exact rV_set hh.2 _) (by omega) (fun a ha => k5 a (List.mem_cons_of_mem _ ha)) hP hD hS hl
            · refine lv_lload hx hb d_MD_reduce_121 (lv_at hl 0 rfl) ?_
              refine lv_lload_n hx hb d_MD_reduce_123 rfl (lv_at hl 1 rfl) ?_
              refine lv_land hx hb d_MD_reduce_124 ?_
              refine lv_goto (tgt := 145) hx hb d_MD_reduce_125 (by decide) ?_
              refine wa_J hx hb F hP hD hS 8 rfl (by omega) (by decide) d_MD_reduce_145 (fun H locs hP hD hS => ?_)
              have hP : va_P g.1 cl (MW g ma cd tb hm oo kp td tt ct fd (nI (n1 - 1)) oq (nI (nv1 - 1)) (vp_updL sk1 ((nv1 - 1) - 1) ((sk1 ((nv1 - 1) - 1)) &&& (sk1 (nv1 - 1)))) ++ X) H := hP
              have hD : va_D (gA g) (MW g ma cd tb hm oo kp td tt ct fd (nI (n1 - 1)) oq (nI (nv1 - 1)) (vp_updL sk1 ((nv1 - 1) - 1) ((sk1 ((nv1 - 1) - 1)) &&& (sk1 (nv1 - 1)))) ++ X) := hD
              refine lv_goto (tgt := 0) hx hb d_MD_reduce_146 (by decide) ?_
              have hl := lv_sub hl [3, 4] rfl
              have hl : lv_has ls 7 [(0, .ref (ma 0)), (1, .int (nI mm))] := hl
              have hP : va_P g.1 cl (MW g ma cd tb hm oo kp td tt ct fd (nI (n1 - 1)) oq (nI (nv1 - 1)) ((vp_updL sk1 ((nv1 - 1) - 1) ((sk1 ((nv1 - 1) - 1)) &&& (sk1 (nv1 - 1))))) ++ X) H := hP
              have hD : va_D (gA g) (MW g ma cd tb hm oo kp td tt ct fd (nI (n1 - 1)) oq (nI (nv1 - 1)) ((vp_updL sk1 ((nv1 - 1) - 1) ((sk1 ((nv1 - 1) - 1)) &&& (sk1 (nv1 - 1))))) ++ X) := hD
              exact ih0 (n1 - 1) (nv1 - 1) (vp_updL sk1 ((nv1 - 1) - 1) ((sk1 ((nv1 - 1) - 1)) &&& (sk1 (nv1 - 1)))) O2 V2 H locs ls (by omega) l1 (by rw [hV2, i2]; rfl) a2 k2.2 (by rw [hV2, if_pos c118, y2, x2, i1]; exact rV_set hh.2 _) (by omega) (fun a ha => k5 a (List.mem_cons_of_mem _ ha)) hP hD hS hl
          · have a3 := a1
            rw [c60] at a3
            obtain ⟨y1, r1, hV, hV2⟩ := apO_33 a3
            have hh : rV sk1 (y1 :: r1) := by rw [← hV]; exact k3
            have i1 : nv1 - 1 = r1.length := by rw [kv, hV]; rfl
            have y2 : sk1 (nv1 - 1) = y1 := by rw [i1]; exact hh.1
            refine lv_aload_n hx hb d_MD_reduce_63 rfl (lv_at hl 2 rfl) ?_
            refine va_get (ci := 4) (v := .ref (ma 8)) (C := R_MD) (T := T_MD) (N := 13) hx hb ht i_MD hown F.2.1 hP 0 rfl rfl 12 (by decide) (ht _ tw_482) (fun _ h9 => h9) rfl d_MD_reduce_64 ?_
            refine lv_aload_n hx hb d_MD_reduce_67 rfl (lv_at hl 2 rfl) ?_
            refine va_get (ci := 4) (v := .int (nI nv1)) (C := R_MD) (T := T_MD) (N := 13) hx hb ht i_MD hown F.2.1 hP 0 rfl rfl 11 (by decide) (ht _ tw_481) (fun _ h9 => h9) rfl d_MD_reduce_68 ?_
            refine lv_iconst (v := nI 1) hx hb d_MD_reduce_71 (by decide) ?_
            refine rn_sub hx hb (by omega) d_MD_reduce_72 ?_
            refine lv_lload_n hx hb d_MD_reduce_73 rfl (lv_at hl 0 rfl) ?_
            refine lv_ldc2 (v := (-1)) hx hb hown (ht _ tw_527) d_MD_reduce_74 ?_
            refine lv_lxor hx hb d_MD_reduce_77 ?_
            refine wa_J hx hb F hP hD hS 8 rfl (by omega) (by decide) d_MD_reduce_78 (fun H locs hP hD hS => ?_)
            have hP : va_P g.1 cl (MW g ma cd tb hm oo kp td tt ct fd (nI (n1 - 1)) oq (nI nv1) (vp_updL sk1 (nv1 - 1) ((sk1 (nv1 - 1)) ^^^ (-1))) ++ X) H := hP
            have hD : va_D (gA g) (MW g ma cd tb hm oo kp td tt ct fd (nI (n1 - 1)) oq (nI nv1) (vp_updL sk1 (nv1 - 1) ((sk1 (nv1 - 1)) ^^^ (-1))) ++ X) := hD
            refine lv_goto (tgt := 146) hx hb d_MD_reduce_79 (by decide) ?_
            refine lv_goto (tgt := 0) hx hb d_MD_reduce_146 (by decide) ?_
            have hl := lv_sub hl [2, 3] rfl
            have hl : lv_has ls 7 [(0, .ref (ma 0)), (1, .int (nI mm))] := hl
            have hP : va_P g.1 cl (MW g ma cd tb hm oo kp td tt ct fd (nI (n1 - 1)) oq (nI nv1) ((vp_updL sk1 (nv1 - 1) ((sk1 (nv1 - 1)) ^^^ (-1)))) ++ X) H := hP
            have hD : va_D (gA g) (MW g ma cd tb hm oo kp td tt ct fd (nI (n1 - 1)) oq (nI nv1) ((vp_updL sk1 (nv1 - 1) ((sk1 (nv1 - 1)) ^^^ (-1)))) ++ X) := hD
            exact ih0 (n1 - 1) nv1 (vp_updL sk1 (nv1 - 1) ((sk1 (nv1 - 1)) ^^^ (-1))) O2 V2 H locs ls (by omega) l1 (by rw [hV2, kv, hV]; rfl) a2 k2.2 (by rw [hV2, y2, i1]; exact rV_set hh _) (by omega) (fun a ha => k5 a (List.mem_cons_of_mem _ ha)) hP hD hS hl
  have hl := lv_sub hl [0, 1] rfl
  have hl : lv_has ls 7 [(0, .ref (ma 0)), (1, .int (nI mm))] := hl
  have hP : va_P g.1 cl (MW g ma cd tb hm oo kp td tt ct fd (nI O.length) oq (nI V.length) sk ++ X) s.heap := hP
  have hD : va_D (gA g) (MW g ma cd tb hm oo kp td tt ct fd (nI O.length) oq (nI V.length) sk ++ X) := hD
  exact lp0 (O.length - 0) O.length V.length sk O V _ _ ls (by omega) rfl rfl h1 h2 h3 ⟨h4, h5⟩ h8 hP hD hS hl
set_option maxRecDepth 100000 in
set_option maxHeartbeats 4000000 in
theorem c_MD_begin_p (l : Launch) (g : Gx) (ma : Nat → Nat) (cd : Int32) (tb : Nat → Int64) (hm : Nat → Int32) (oo : Nat → Int32) (kp : Nat → Int32) (td : Int32) (tt : Nat → Int32) (ct : Int32) (fd : Nat → Int64) (oq : Nat → Int32) (vs : Int32) (sk : Nat → Int64) (X : va_W) (n k o : Nat) (h1 : k < 65536) (h2 : o < 6) (h3 : n < 48) (h4 : k = 33 ∨ (k = 40 ∧ ¬ o = 5)) : Met l y_MD_begin (w_MD_begin :: TW) rm_MD_begin (va_Pc [.ref (ma 0), .int (nI k), .int (nI o)] (PR g (MW g ma cd tb hm oo kp td tt ct fd (nI n) oq vs sk ++ X))) (va_Qi (fun r9 (u9 : Unit) => r9 = nI 1) (fun u9 t9 => PR g (MW g ma cd tb hm oo kp td tt ct fd (nI (n + 1)) (upd oq n (nI k)) vs sk ++ X) t9) (gA g)) 0 0 (gA g) := by
  refine mt_of (by decide) (Nat.le_of_ble_eq_true rfl) ?_
  intro p e s m below meth c ls hx hb hr hml hlk hown ht hnm F hP hD hl
  have hl : lv_has ls 3 [(0, .ref (ma 0)), (1, .int (nI k)), (2, .int (nI o))] := hl
  have hS : va_S (gA g) s.heap s.heap [] := va_S.rf
  refine lv_iload_n hx hb d_MD_begin_0 rfl (lv_at hl 1 rfl) ?_
  refine lv_bipush (v := nI 40) hx hb d_MD_begin_1 (by decide) ?_
  refine rc_eq (tgt := 12) hx hb (by omega) (by omega) d_MD_begin_3 (by decide) (fun c3 => ?_) (fun c3 => ?_)
  · refine lv_iload_n hx hb d_MD_begin_12 rfl (lv_at hl 1 rfl) ?_
    refine lv_bipush (v := nI 40) hx hb d_MD_begin_13 (by decide) ?_
    refine rc_ne (tgt := 25) hx hb (by omega) (by omega) d_MD_begin_15 (by decide) (fun c15 => ?_) (fun c15 => ?_)
    · refine lv_aload_n hx hb d_MD_begin_25 rfl (lv_at hl 0 rfl) ?_
      refine lv_iload_n hx hb d_MD_begin_26 rfl (lv_at hl 1 rfl) ?_
      refine pc_Vv (q0 := 0) (As := [.int (nI k)]) (rest := []) hx hb (hml.trans hl.1.symm) hown ht F hP hD hS (c_MD_later l g ma cd tb hm oo kp td tt ct fd oq vs sk X n k (by omega)) v_MD_later tw_574 ⟨rfl, rfl⟩ ⟨by decide, by decide⟩ rfl rfl rfl rfl (Nat.le_of_ble_eq_true rfl) ⟨Nat.zero_le _, Nat.zero_le _⟩ d_MD_begin_27 (fun u9 H locs hq hP hD hS => ?_)
      have hP : va_P g.1 cl (MW g ma cd tb hm oo kp td tt ct fd (nI (n + 1)) (upd oq n (nI k)) vs sk ++ X) H := hP
      have hD : va_D (gA g) (MW g ma cd tb hm oo kp td tt ct fd (nI (n + 1)) (upd oq n (nI k)) vs sk ++ X) := hD
      refine lv_iconst (v := nI 1) hx hb d_MD_begin_30 (by decide) ?_
      exact W.iret (v := nI 1) hx hb hr (fun t9 e1 hW => ⟨⟨_, (), rfl, rfl, PR.at F hP hD hS e1 hW.alike⟩, hS.F e1⟩) hS.2.2 d_MD_begin_31
    · refine lv_iload_n hx hb d_MD_begin_18 rfl (lv_at hl 2 rfl) ?_
      refine lv_iconst (v := nI 5) hx hb d_MD_begin_19 (by decide) ?_
      refine rc_ne (tgt := 25) hx hb (by omega) (by omega) d_MD_begin_20 (by decide) (fun c20 => ?_) (fun c20 => ?_)
      · refine lv_aload_n hx hb d_MD_begin_25 rfl (lv_at hl 0 rfl) ?_
        refine lv_iload_n hx hb d_MD_begin_26 rfl (lv_at hl 1 rfl) ?_
        refine pc_Vv (q0 := 0) (As := [.int (nI k)]) (rest := []) hx hb (hml.trans hl.1.symm) hown ht F hP hD hS (c_MD_later l g ma cd tb hm oo kp td tt ct fd oq vs sk X n k (by omega)) v_MD_later tw_574 ⟨rfl, rfl⟩ ⟨by decide, by decide⟩ rfl rfl rfl rfl (Nat.le_of_ble_eq_true rfl) ⟨Nat.zero_le _, Nat.zero_le _⟩ d_MD_begin_27 (fun u9 H locs hq hP hD hS => ?_)
        have hP : va_P g.1 cl (MW g ma cd tb hm oo kp td tt ct fd (nI (n + 1)) (upd oq n (nI k)) vs sk ++ X) H := hP
        have hD : va_D (gA g) (MW g ma cd tb hm oo kp td tt ct fd (nI (n + 1)) (upd oq n (nI k)) vs sk ++ X) := hD
        refine lv_iconst (v := nI 1) hx hb d_MD_begin_30 (by decide) ?_
        exact W.iret (v := nI 1) hx hb hr (fun t9 e1 hW => ⟨⟨_, (), rfl, rfl, PR.at F hP hD hS e1 hW.alike⟩, hS.F e1⟩) hS.2.2 d_MD_begin_31
      · exact (by omega : False).elim
  · refine lv_iload_n hx hb d_MD_begin_6 rfl (lv_at hl 1 rfl) ?_
    refine lv_bipush (v := nI 33) hx hb d_MD_begin_7 (by decide) ?_
    refine rc_ne (tgt := 32) hx hb (by omega) (by omega) d_MD_begin_9 (by decide) (fun c9 => ?_) (fun c9 => ?_)
    · exact (by omega : False).elim
    · refine lv_iload_n hx hb d_MD_begin_12 rfl (lv_at hl 1 rfl) ?_
      refine lv_bipush (v := nI 40) hx hb d_MD_begin_13 (by decide) ?_
      refine rc_ne (tgt := 25) hx hb (by omega) (by omega) d_MD_begin_15 (by decide) (fun c15 => ?_) (fun c15 => ?_)
      · refine lv_aload_n hx hb d_MD_begin_25 rfl (lv_at hl 0 rfl) ?_
        refine lv_iload_n hx hb d_MD_begin_26 rfl (lv_at hl 1 rfl) ?_
        refine pc_Vv (q0 := 0) (As := [.int (nI k)]) (rest := []) hx hb (hml.trans hl.1.symm) hown ht F hP hD hS (c_MD_later l g ma cd tb hm oo kp td tt ct fd oq vs sk X n k (by omega)) v_MD_later tw_574 ⟨rfl, rfl⟩ ⟨by decide, by decide⟩ rfl rfl rfl rfl (Nat.le_of_ble_eq_true rfl) ⟨Nat.zero_le _, Nat.zero_le _⟩ d_MD_begin_27 (fun u9 H locs hq hP hD hS => ?_)
        have hP : va_P g.1 cl (MW g ma cd tb hm oo kp td tt ct fd (nI (n + 1)) (upd oq n (nI k)) vs sk ++ X) H := hP
        have hD : va_D (gA g) (MW g ma cd tb hm oo kp td tt ct fd (nI (n + 1)) (upd oq n (nI k)) vs sk ++ X) := hD
        refine lv_iconst (v := nI 1) hx hb d_MD_begin_30 (by decide) ?_
        exact W.iret (v := nI 1) hx hb hr (fun t9 e1 hW => ⟨⟨_, (), rfl, rfl, PR.at F hP hD hS e1 hW.alike⟩, hS.F e1⟩) hS.2.2 d_MD_begin_31
      · refine lv_iload_n hx hb d_MD_begin_18 rfl (lv_at hl 2 rfl) ?_
        refine lv_iconst (v := nI 5) hx hb d_MD_begin_19 (by decide) ?_
        refine rc_ne (tgt := 25) hx hb (by omega) (by omega) d_MD_begin_20 (by decide) (fun c20 => ?_) (fun c20 => ?_)
        · refine lv_aload_n hx hb d_MD_begin_25 rfl (lv_at hl 0 rfl) ?_
          refine lv_iload_n hx hb d_MD_begin_26 rfl (lv_at hl 1 rfl) ?_
          refine pc_Vv (q0 := 0) (As := [.int (nI k)]) (rest := []) hx hb (hml.trans hl.1.symm) hown ht F hP hD hS (c_MD_later l g ma cd tb hm oo kp td tt ct fd oq vs sk X n k (by omega)) v_MD_later tw_574 ⟨rfl, rfl⟩ ⟨by decide, by decide⟩ rfl rfl rfl rfl (Nat.le_of_ble_eq_true rfl) ⟨Nat.zero_le _, Nat.zero_le _⟩ d_MD_begin_27 (fun u9 H locs hq hP hD hS => ?_)
          have hP : va_P g.1 cl (MW g ma cd tb hm oo kp td tt ct fd (nI (n + 1)) (upd oq n (nI k)) vs sk ++ X) H := hP
          have hD : va_D (gA g) (MW g ma cd tb hm oo kp td tt ct fd (nI (n + 1)) (upd oq n (nI k)) vs sk ++ X) := hD
          refine lv_iconst (v := nI 1) hx hb d_MD_begin_30 (by decide) ?_
          exact W.iret (v := nI 1) hx hb hr (fun t9 e1 hW => ⟨⟨_, (), rfl, rfl, PR.at F hP hD hS e1 hW.alike⟩, hS.F e1⟩) hS.2.2 d_MD_begin_31
        · exact (by omega : False).elim
set_option maxRecDepth 100000 in
set_option maxHeartbeats 4000000 in
theorem c_MD_begin_n (l : Launch) (g : Gx) (ma : Nat → Nat) (cd : Int32) (tb : Nat → Int64) (hm : Nat → Int32) (oo : Nat → Int32) (kp : Nat → Int32) (td : Int32) (tt : Nat → Int32) (ct : Int32) (fd : Nat → Int64) (os : Int32) (oq : Nat → Int32) (vs : Int32) (sk : Nat → Int64) (X : va_W) (k o : Nat) (h1 : k < 65536) (h2 : o < 6) (hA : (k = 40 ∧ o = 5) ∨ (¬ k = 33 ∧ ¬ k = 40 ∧ ¬ k = 48 ∧ ¬ k = 49 ∧ ¬ (97 ≤ k ∧ k ≤ 102))) (hB : ¬ (65 ≤ k ∧ k ≤ 72) ∨ hm (k - 65) = 0) : Met l y_MD_begin (w_MD_begin :: TW) rm_MD_begin (va_Pc [.ref (ma 0), .int (nI k), .int (nI o)] (PR g (MW g ma cd tb hm oo kp td tt ct fd os oq vs sk ++ X))) (va_Qi (fun r9 (u9 : Unit) => r9 = nI 0) (fun u9 t9 => PR g (MW g ma cd tb hm oo kp td tt ct fd os oq vs sk ++ X) t9) (gA g)) 0 0 (gA g) := by
  refine mt_of (by decide) (Nat.le_of_ble_eq_true rfl) ?_
  intro p e s m below meth c ls hx hb hr hml hlk hown ht hnm F hP hD hl
  have hl : lv_has ls 3 [(0, .ref (ma 0)), (1, .int (nI k)), (2, .int (nI o))] := hl
  have hS : va_S (gA g) s.heap s.heap [] := va_S.rf
  refine lv_iload_n hx hb d_MD_begin_0 rfl (lv_at hl 1 rfl) ?_
  refine lv_bipush (v := nI 40) hx hb d_MD_begin_1 (by decide) ?_
  refine rc_eq (tgt := 12) hx hb (by omega) (by omega) d_MD_begin_3 (by decide) (fun c3 => ?_) (fun c3 => ?_)
  · refine lv_iload_n hx hb d_MD_begin_12 rfl (lv_at hl 1 rfl) ?_
    refine lv_bipush (v := nI 40) hx hb d_MD_begin_13 (by decide) ?_
    refine rc_ne (tgt := 25) hx hb (by omega) (by omega) d_MD_begin_15 (by decide) (fun c15 => ?_) (fun c15 => ?_)
    · exact (by omega : False).elim
    · refine lv_iload_n hx hb d_MD_begin_18 rfl (lv_at hl 2 rfl) ?_
      refine lv_iconst (v := nI 5) hx hb d_MD_begin_19 (by decide) ?_
      refine rc_ne (tgt := 25) hx hb (by omega) (by omega) d_MD_begin_20 (by decide) (fun c20 => ?_) (fun c20 => ?_)
      · exact (by omega : False).elim
      · refine lv_iconst (v := nI 0) hx hb d_MD_begin_23 (by decide) ?_
        exact W.iret (v := nI 0) hx hb hr (fun t9 e1 hW => ⟨⟨_, (), rfl, rfl, PR.at F hP hD hS e1 hW.alike⟩, hS.F e1⟩) hS.2.2 d_MD_begin_24
  · refine lv_iload_n hx hb d_MD_begin_6 rfl (lv_at hl 1 rfl) ?_
    refine lv_bipush (v := nI 33) hx hb d_MD_begin_7 (by decide) ?_
    refine rc_ne (tgt := 32) hx hb (by omega) (by omega) d_MD_begin_9 (by decide) (fun c9 => ?_) (fun c9 => ?_)
    · refine lv_iload_n hx hb d_MD_begin_32 rfl (lv_at hl 1 rfl) ?_
      refine lv_bipush (v := nI 48) hx hb d_MD_begin_33 (by decide) ?_
      refine rc_eq (tgt := 44) hx hb (by omega) (by omega) d_MD_begin_35 (by decide) (fun c35 => ?_) (fun c35 => ?_)
      · exact (by omega : False).elim
      · refine lv_iload_n hx hb d_MD_begin_38 rfl (lv_at hl 1 rfl) ?_
        refine lv_bipush (v := nI 49) hx hb d_MD_begin_39 (by decide) ?_
        refine rc_ne (tgt := 64) hx hb (by omega) (by omega) d_MD_begin_41 (by decide) (fun c41 => ?_) (fun c41 => ?_)
        · refine lv_iload_n hx hb d_MD_begin_64 rfl (lv_at hl 1 rfl) ?_
          refine lv_bipush (v := nI 97) hx hb d_MD_begin_65 (by decide) ?_
          refine lv_bipush (v := nI 102) hx hb d_MD_begin_67 (by decide) ?_
          refine pc_Si (As := [.int (nI k), .int (nI 97), .int (nI 102)]) (rest := []) hx hb (hml.trans hl.1.symm) hown ht F hP hD hS (c_MD_within_0 l g (MW g ma cd tb hm oo kp td tt ct fd os oq vs sk ++ X) (nI k) 97 102 (nwi (by omega) (by decide) (by omega)) (by decide) (by decide)) v_MD_within tw_521 ⟨rfl, rfl⟩ ⟨by decide, by decide⟩ rfl rfl (Nat.le_of_ble_eq_true rfl) ⟨Nat.zero_le _, Nat.zero_le _⟩ d_MD_begin_69 (fun r9 u9 H locs hq hP hD hS => ?_)
          subst hq
          refine rz_eq (tgt := 89) hx hb (by omega) d_MD_begin_72 (by decide) (fun c72 => ?_) (fun c72 => ?_)
          · refine lv_iload_n hx hb d_MD_begin_89 rfl (lv_at hl 1 rfl) ?_
            refine lv_bipush (v := nI 65) hx hb d_MD_begin_90 (by decide) ?_
            refine lv_bipush (v := nI 72) hx hb d_MD_begin_92 (by decide) ?_
            by_cases q94 : 65 ≤ k ∧ k ≤ 72
            · refine pc_Si (As := [.int (nI k), .int (nI 65), .int (nI 72)]) (rest := []) hx hb (hml.trans hl.1.symm) hown ht F hP hD hS (c_MD_within l g (MW g ma cd tb hm oo kp td tt ct fd os oq vs sk ++ X) k 65 72 (by omega) (by omega) (by omega)) v_MD_within tw_521 ⟨rfl, rfl⟩ ⟨by decide, by decide⟩ rfl rfl (Nat.le_of_ble_eq_true rfl) ⟨Nat.zero_le _, Nat.zero_le _⟩ d_MD_begin_94 (fun r9 u9 H locs hq hP hD hS => ?_)
              subst hq
              refine rz_eq (tgt := 128) hx hb (by omega) d_MD_begin_97 (by decide) (fun c97 => ?_) (fun c97 => ?_)
              · exact (by omega : False).elim
              · refine lv_aload_n hx hb d_MD_begin_100 rfl (lv_at hl 0 rfl) ?_
                refine va_get (ci := 4) (v := .ref (ma 2)) (C := R_MD) (T := T_MD) (N := 13) hx hb ht i_MD hown F.2.1 hP 0 rfl rfl 2 (by decide) (ht _ tw_472) (fun _ h9 => h9) rfl d_MD_begin_101 ?_
                refine lv_iload_n hx hb d_MD_begin_104 rfl (lv_at hl 1 rfl) ?_
                refine lv_bipush (v := nI 65) hx hb d_MD_begin_105 (by decide) ?_
                refine rn_sub hx hb (by omega) d_MD_begin_107 ?_
                refine ra_Z hx hb F hP 2 rfl (by omega) (by decide) d_MD_begin_108 ?_
                refine lv_if_eq (tgt := 128) hx hb d_MD_begin_109 (by decide) (fun c109 => ?_) (fun c109 => ?_)
                · refine lv_iconst (v := nI 0) hx hb d_MD_begin_128 (by decide) ?_
                  exact W.iret (v := nI 0) hx hb hr (fun t9 e1 hW => ⟨⟨_, (), rfl, rfl, PR.at F hP hD hS e1 hW.alike⟩, hS.F e1⟩) hS.2.2 d_MD_begin_129
                · exact absurd (hB.resolve_left (fun z => z q94)) c109
            · refine pc_Si (As := [.int (nI k), .int (nI 65), .int (nI 72)]) (rest := []) hx hb (hml.trans hl.1.symm) hown ht F hP hD hS (c_MD_within_0 l g (MW g ma cd tb hm oo kp td tt ct fd os oq vs sk ++ X) (nI k) 65 72 (nwi (by omega) (by decide) (by omega)) (by decide) (by decide)) v_MD_within tw_521 ⟨rfl, rfl⟩ ⟨by decide, by decide⟩ rfl rfl (Nat.le_of_ble_eq_true rfl) ⟨Nat.zero_le _, Nat.zero_le _⟩ d_MD_begin_94 (fun r9 u9 H locs hq hP hD hS => ?_)
              subst hq
              refine rz_eq (tgt := 128) hx hb (by omega) d_MD_begin_97 (by decide) (fun c97 => ?_) (fun c97 => ?_)
              · refine lv_iconst (v := nI 0) hx hb d_MD_begin_128 (by decide) ?_
                exact W.iret (v := nI 0) hx hb hr (fun t9 e1 hW => ⟨⟨_, (), rfl, rfl, PR.at F hP hD hS e1 hW.alike⟩, hS.F e1⟩) hS.2.2 d_MD_begin_129
              · exact (by omega : False).elim
          · exact (by omega : False).elim
        · exact (by omega : False).elim
    · exact (by omega : False).elim
set_option maxRecDepth 100000 in
set_option maxHeartbeats 4000000 in
theorem c_MD_begin_v (l : Launch) (g : Gx) (ma : Nat → Nat) (cd : Int32) (tb : Nat → Int64) (hm : Nat → Int32) (oo : Nat → Int32) (kp : Nat → Int32) (td : Int32) (tt : Nat → Int32) (ct : Int32) (fd : Nat → Int64) (os : Int32) (oq : Nat → Int32) (sk : Nat → Int64) (X : va_W) (n k o : Nat) (h1 : k < 65536) (h2 : o < 6) (h3 : n < 48) (hA : k = 48 ∨ k = 49 ∨ (97 ≤ k ∧ k ≤ 102) ∨ (65 ≤ k ∧ k ≤ 72)) (hB : (65 ≤ k ∧ k ≤ 72) → ¬ hm (k - 65) = 0) : Met l y_MD_begin (w_MD_begin :: TW) rm_MD_begin (va_Pc [.ref (ma 0), .int (nI k), .int (nI o)] (PR g (MW g ma cd tb hm oo kp td tt ct fd os oq (nI n) sk ++ X))) (va_Qi (fun r9 (u9 : Unit) => r9 = nI 2) (fun u9 t9 => PR g (MW g ma cd tb hm oo kp td tt ct fd os oq (nI (n + 1)) (vp_updL sk n (vlT tb k)) ++ X) t9) (gA g)) 0 0 (gA g) := by
  refine mt_of (by decide) (Nat.le_of_ble_eq_true rfl) ?_
  intro p e s m below meth c ls hx hb hr hml hlk hown ht hnm F hP hD hl
  have hl : lv_has ls 3 [(0, .ref (ma 0)), (1, .int (nI k)), (2, .int (nI o))] := hl
  have hS : va_S (gA g) s.heap s.heap [] := va_S.rf
  refine lv_iload_n hx hb d_MD_begin_0 rfl (lv_at hl 1 rfl) ?_
  refine lv_bipush (v := nI 40) hx hb d_MD_begin_1 (by decide) ?_
  refine rc_eq (tgt := 12) hx hb (by omega) (by omega) d_MD_begin_3 (by decide) (fun c3 => ?_) (fun c3 => ?_)
  · exact (by omega : False).elim
  · refine lv_iload_n hx hb d_MD_begin_6 rfl (lv_at hl 1 rfl) ?_
    refine lv_bipush (v := nI 33) hx hb d_MD_begin_7 (by decide) ?_
    refine rc_ne (tgt := 32) hx hb (by omega) (by omega) d_MD_begin_9 (by decide) (fun c9 => ?_) (fun c9 => ?_)
    · refine lv_iload_n hx hb d_MD_begin_32 rfl (lv_at hl 1 rfl) ?_
      refine lv_bipush (v := nI 48) hx hb d_MD_begin_33 (by decide) ?_
      refine rc_eq (tgt := 44) hx hb (by omega) (by omega) d_MD_begin_35 (by decide) (fun c35 => ?_) (fun c35 => ?_)
      · refine lv_aload_n hx hb d_MD_begin_44 rfl (lv_at hl 0 rfl) ?_
        refine lv_iload_n hx hb d_MD_begin_45 rfl (lv_at hl 1 rfl) ?_
        refine lv_bipush (v := nI 49) hx hb d_MD_begin_46 (by decide) ?_
        refine rc_ne (tgt := 57) hx hb (by omega) (by omega) d_MD_begin_48 (by decide) (fun c48 => ?_) (fun c48 => ?_)
        · refine lv_lconst (v := 0) hx hb d_MD_begin_57 (by decide) ?_
          refine pc_Vv (q0 := 0) (As := [.long 0]) (rest := []) hx hb (hml.trans hl.1.symm) hown ht F hP hD hS (c_MD_push l g ma cd tb hm oo kp td tt ct fd os oq sk X n 0 (by omega)) v_MD_push tw_578 ⟨rfl, rfl⟩ ⟨by decide, by decide⟩ rfl rfl rfl rfl (Nat.le_of_ble_eq_true rfl) ⟨Nat.zero_le _, Nat.zero_le _⟩ d_MD_begin_58 (fun u9 H locs hq hP hD hS => ?_)
          have hP : va_P g.1 cl (MW g ma cd tb hm oo kp td tt ct fd os oq (nI (n + 1)) (vp_updL sk n 0) ++ X) H := hP
          have hD : va_D (gA g) (MW g ma cd tb hm oo kp td tt ct fd os oq (nI (n + 1)) (vp_updL sk n 0) ++ X) := hD
          refine lv_goto (tgt := 130) hx hb d_MD_begin_61 (by decide) ?_
          refine lv_iconst (v := nI 2) hx hb d_MD_begin_130 (by decide) ?_
          have hP : va_P g.1 cl (MW g ma cd tb hm oo kp td tt ct fd os oq (nI (n + 1)) (vp_updL sk n (vlT tb k)) ++ X) H := by rw [show vlT tb k = 0 from if_pos c35]; exact hP
          have hD : va_D (gA g) (MW g ma cd tb hm oo kp td tt ct fd os oq (nI (n + 1)) (vp_updL sk n (vlT tb k)) ++ X) := by rw [show vlT tb k = 0 from if_pos c35]; exact hD
          exact W.iret (v := nI 2) hx hb hr (fun t9 e1 hW => ⟨⟨_, (), rfl, rfl, PR.at F hP hD hS e1 hW.alike⟩, hS.F e1⟩) hS.2.2 d_MD_begin_131
        · exact (by omega : False).elim
      · refine lv_iload_n hx hb d_MD_begin_38 rfl (lv_at hl 1 rfl) ?_
        refine lv_bipush (v := nI 49) hx hb d_MD_begin_39 (by decide) ?_
        refine rc_ne (tgt := 64) hx hb (by omega) (by omega) d_MD_begin_41 (by decide) (fun c41 => ?_) (fun c41 => ?_)
        · refine lv_iload_n hx hb d_MD_begin_64 rfl (lv_at hl 1 rfl) ?_
          refine lv_bipush (v := nI 97) hx hb d_MD_begin_65 (by decide) ?_
          refine lv_bipush (v := nI 102) hx hb d_MD_begin_67 (by decide) ?_
          by_cases q69 : 97 ≤ k ∧ k ≤ 102
          · refine pc_Si (As := [.int (nI k), .int (nI 97), .int (nI 102)]) (rest := []) hx hb (hml.trans hl.1.symm) hown ht F hP hD hS (c_MD_within l g (MW g ma cd tb hm oo kp td tt ct fd os oq (nI n) sk ++ X) k 97 102 (by omega) (by omega) (by omega)) v_MD_within tw_521 ⟨rfl, rfl⟩ ⟨by decide, by decide⟩ rfl rfl (Nat.le_of_ble_eq_true rfl) ⟨Nat.zero_le _, Nat.zero_le _⟩ d_MD_begin_69 (fun r9 u9 H locs hq hP hD hS => ?_)
            subst hq
            refine rz_eq (tgt := 89) hx hb (by omega) d_MD_begin_72 (by decide) (fun c72 => ?_) (fun c72 => ?_)
            · exact (by omega : False).elim
            · refine lv_aload_n hx hb d_MD_begin_75 rfl (lv_at hl 0 rfl) ?_
              refine lv_iload_n hx hb d_MD_begin_76 rfl (lv_at hl 1 rfl) ?_
              refine lv_bipush (v := nI 97) hx hb d_MD_begin_77 (by decide) ?_
              refine rn_sub hx hb (by omega) d_MD_begin_79 ?_
              refine pc_Sl (As := [.int (nI (k - 97))]) (rest := [.ref (ma 0)]) hx hb (hml.trans hl.1.symm) hown ht F hP hD hS (c_MD_variableTable l g (MW g ma cd tb hm oo kp td tt ct fd os oq (nI n) sk ++ X) (k - 97) (by omega)) v_MD_variableTable tw_524 ⟨rfl, rfl⟩ ⟨by decide, by decide⟩ rfl rfl (Nat.le_of_ble_eq_true rfl) ⟨Nat.zero_le _, Nat.zero_le _⟩ d_MD_begin_80 (fun r9 u9 H locs hq hP hD hS => ?_)
              subst hq
              refine pc_Vv (q0 := 0) (As := [.long (mk6 (k - 97))]) (rest := []) hx hb (hml.trans hl.1.symm) hown ht F hP hD hS (c_MD_push l g ma cd tb hm oo kp td tt ct fd os oq sk X n (mk6 (k - 97)) (by omega)) v_MD_push tw_578 ⟨rfl, rfl⟩ ⟨by decide, by decide⟩ rfl rfl rfl rfl (Nat.le_of_ble_eq_true rfl) ⟨Nat.zero_le _, Nat.zero_le _⟩ d_MD_begin_83 (fun u9 H locs hq hP hD hS => ?_)
              have hP : va_P g.1 cl (MW g ma cd tb hm oo kp td tt ct fd os oq (nI (n + 1)) (vp_updL sk n (mk6 (k - 97))) ++ X) H := hP
              have hD : va_D (gA g) (MW g ma cd tb hm oo kp td tt ct fd os oq (nI (n + 1)) (vp_updL sk n (mk6 (k - 97))) ++ X) := hD
              refine lv_goto (tgt := 130) hx hb d_MD_begin_86 (by decide) ?_
              refine lv_iconst (v := nI 2) hx hb d_MD_begin_130 (by decide) ?_
              have hP : va_P g.1 cl (MW g ma cd tb hm oo kp td tt ct fd os oq (nI (n + 1)) (vp_updL sk n (vlT tb k)) ++ X) H := by rw [show vlT tb k = _ from (if_neg c35).trans ((if_neg c41).trans (if_pos q69.1))]; exact hP
              have hD : va_D (gA g) (MW g ma cd tb hm oo kp td tt ct fd os oq (nI (n + 1)) (vp_updL sk n (vlT tb k)) ++ X) := by rw [show vlT tb k = _ from (if_neg c35).trans ((if_neg c41).trans (if_pos q69.1))]; exact hD
              exact W.iret (v := nI 2) hx hb hr (fun t9 e1 hW => ⟨⟨_, (), rfl, rfl, PR.at F hP hD hS e1 hW.alike⟩, hS.F e1⟩) hS.2.2 d_MD_begin_131
          · refine pc_Si (As := [.int (nI k), .int (nI 97), .int (nI 102)]) (rest := []) hx hb (hml.trans hl.1.symm) hown ht F hP hD hS (c_MD_within_0 l g (MW g ma cd tb hm oo kp td tt ct fd os oq (nI n) sk ++ X) (nI k) 97 102 (nwi (by omega) (by decide) (by omega)) (by decide) (by decide)) v_MD_within tw_521 ⟨rfl, rfl⟩ ⟨by decide, by decide⟩ rfl rfl (Nat.le_of_ble_eq_true rfl) ⟨Nat.zero_le _, Nat.zero_le _⟩ d_MD_begin_69 (fun r9 u9 H locs hq hP hD hS => ?_)
            subst hq
            refine rz_eq (tgt := 89) hx hb (by omega) d_MD_begin_72 (by decide) (fun c72 => ?_) (fun c72 => ?_)
            · refine lv_iload_n hx hb d_MD_begin_89 rfl (lv_at hl 1 rfl) ?_
              refine lv_bipush (v := nI 65) hx hb d_MD_begin_90 (by decide) ?_
              refine lv_bipush (v := nI 72) hx hb d_MD_begin_92 (by decide) ?_
              refine pc_Si (As := [.int (nI k), .int (nI 65), .int (nI 72)]) (rest := []) hx hb (hml.trans hl.1.symm) hown ht F hP hD hS (c_MD_within l g (MW g ma cd tb hm oo kp td tt ct fd os oq (nI n) sk ++ X) k 65 72 (by omega) (by omega) (by omega)) v_MD_within tw_521 ⟨rfl, rfl⟩ ⟨by decide, by decide⟩ rfl rfl (Nat.le_of_ble_eq_true rfl) ⟨Nat.zero_le _, Nat.zero_le _⟩ d_MD_begin_94 (fun r9 u9 H locs hq hP hD hS => ?_)
              subst hq
              refine rz_eq (tgt := 128) hx hb (by omega) d_MD_begin_97 (by decide) (fun c97 => ?_) (fun c97 => ?_)
              · exact (by omega : False).elim
              · refine lv_aload_n hx hb d_MD_begin_100 rfl (lv_at hl 0 rfl) ?_
                refine va_get (ci := 4) (v := .ref (ma 2)) (C := R_MD) (T := T_MD) (N := 13) hx hb ht i_MD hown F.2.1 hP 0 rfl rfl 2 (by decide) (ht _ tw_472) (fun _ h9 => h9) rfl d_MD_begin_101 ?_
                refine lv_iload_n hx hb d_MD_begin_104 rfl (lv_at hl 1 rfl) ?_
                refine lv_bipush (v := nI 65) hx hb d_MD_begin_105 (by decide) ?_
                refine rn_sub hx hb (by omega) d_MD_begin_107 ?_
                refine ra_Z hx hb F hP 2 rfl (by omega) (by decide) d_MD_begin_108 ?_
                refine lv_if_eq (tgt := 128) hx hb d_MD_begin_109 (by decide) (fun c109 => ?_) (fun c109 => ?_)
                · exact absurd c109 (hB (by omega))
                · refine lv_aload_n hx hb d_MD_begin_112 rfl (lv_at hl 0 rfl) ?_
                  refine lv_aload_n hx hb d_MD_begin_113 rfl (lv_at hl 0 rfl) ?_
                  refine va_get (ci := 4) (v := .ref (ma 1)) (C := R_MD) (T := T_MD) (N := 13) hx hb ht i_MD hown F.2.1 hP 0 rfl rfl 1 (by decide) (ht _ tw_471) (fun _ h9 => h9) rfl d_MD_begin_114 ?_
                  refine lv_iload_n hx hb d_MD_begin_117 rfl (lv_at hl 1 rfl) ?_
                  refine lv_bipush (v := nI 65) hx hb d_MD_begin_118 (by decide) ?_
                  refine rn_sub hx hb (by omega) d_MD_begin_120 ?_
                  refine ra_J hx hb F hP 1 rfl (by omega) (by decide) d_MD_begin_121 ?_
                  refine pc_Vv (q0 := 0) (As := [.long (tb (k - 65))]) (rest := []) hx hb (hml.trans hl.1.symm) hown ht F hP hD hS (c_MD_push l g ma cd tb hm oo kp td tt ct fd os oq sk X n (tb (k - 65)) (by omega)) v_MD_push tw_578 ⟨rfl, rfl⟩ ⟨by decide, by decide⟩ rfl rfl rfl rfl (Nat.le_of_ble_eq_true rfl) ⟨Nat.zero_le _, Nat.zero_le _⟩ d_MD_begin_122 (fun u9 H locs hq hP hD hS => ?_)
                  have hP : va_P g.1 cl (MW g ma cd tb hm oo kp td tt ct fd os oq (nI (n + 1)) (vp_updL sk n (tb (k - 65))) ++ X) H := hP
                  have hD : va_D (gA g) (MW g ma cd tb hm oo kp td tt ct fd os oq (nI (n + 1)) (vp_updL sk n (tb (k - 65))) ++ X) := hD
                  refine lv_goto (tgt := 130) hx hb d_MD_begin_125 (by decide) ?_
                  refine lv_iconst (v := nI 2) hx hb d_MD_begin_130 (by decide) ?_
                  have hP : va_P g.1 cl (MW g ma cd tb hm oo kp td tt ct fd os oq (nI (n + 1)) (vp_updL sk n (vlT tb k)) ++ X) H := by rw [show vlT tb k = _ from (if_neg c35).trans ((if_neg c41).trans (if_neg (by omega)))]; exact hP
                  have hD : va_D (gA g) (MW g ma cd tb hm oo kp td tt ct fd os oq (nI (n + 1)) (vp_updL sk n (vlT tb k)) ++ X) := by rw [show vlT tb k = _ from (if_neg c35).trans ((if_neg c41).trans (if_neg (by omega)))]; exact hD
                  exact W.iret (v := nI 2) hx hb hr (fun t9 e1 hW => ⟨⟨_, (), rfl, rfl, PR.at F hP hD hS e1 hW.alike⟩, hS.F e1⟩) hS.2.2 d_MD_begin_131
            · exact (by omega : False).elim
        · refine lv_aload_n hx hb d_MD_begin_44 rfl (lv_at hl 0 rfl) ?_
          refine lv_iload_n hx hb d_MD_begin_45 rfl (lv_at hl 1 rfl) ?_
          refine lv_bipush (v := nI 49) hx hb d_MD_begin_46 (by decide) ?_
          refine rc_ne (tgt := 57) hx hb (by omega) (by omega) d_MD_begin_48 (by decide) (fun c48 => ?_) (fun c48 => ?_)
          · exact (by omega : False).elim
          · refine lv_ldc2 (v := (-1)) hx hb hown (ht _ tw_527) d_MD_begin_51 ?_
            refine lv_goto (tgt := 58) hx hb d_MD_begin_54 (by decide) ?_
            refine pc_Vv (q0 := 0) (As := [.long (-1)]) (rest := []) hx hb (hml.trans hl.1.symm) hown ht F hP hD hS (c_MD_push l g ma cd tb hm oo kp td tt ct fd os oq sk X n (-1) (by omega)) v_MD_push tw_578 ⟨rfl, rfl⟩ ⟨by decide, by decide⟩ rfl rfl rfl rfl (Nat.le_of_ble_eq_true rfl) ⟨Nat.zero_le _, Nat.zero_le _⟩ d_MD_begin_58 (fun u9 H locs hq hP hD hS => ?_)
            have hP : va_P g.1 cl (MW g ma cd tb hm oo kp td tt ct fd os oq (nI (n + 1)) (vp_updL sk n (-1)) ++ X) H := hP
            have hD : va_D (gA g) (MW g ma cd tb hm oo kp td tt ct fd os oq (nI (n + 1)) (vp_updL sk n (-1)) ++ X) := hD
            refine lv_goto (tgt := 130) hx hb d_MD_begin_61 (by decide) ?_
            refine lv_iconst (v := nI 2) hx hb d_MD_begin_130 (by decide) ?_
            have hP : va_P g.1 cl (MW g ma cd tb hm oo kp td tt ct fd os oq (nI (n + 1)) (vp_updL sk n (vlT tb k)) ++ X) H := by rw [show vlT tb k = -1 from (if_neg c35).trans (if_pos c41)]; exact hP
            have hD : va_D (gA g) (MW g ma cd tb hm oo kp td tt ct fd os oq (nI (n + 1)) (vp_updL sk n (vlT tb k)) ++ X) := by rw [show vlT tb k = -1 from (if_neg c35).trans (if_pos c41)]; exact hD
            exact W.iret (v := nI 2) hx hb hr (fun t9 e1 hW => ⟨⟨_, (), rfl, rfl, PR.at F hP hD hS e1 hW.alike⟩, hS.F e1⟩) hS.2.2 d_MD_begin_131
    · exact (by omega : False).elim
