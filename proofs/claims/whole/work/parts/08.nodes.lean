/-- whether one of the first n places holds t; the list with t added if it isn't there -/
def hasB (f : Nat → Int64) (t : Int64) : Nat → Bool
  | 0 => false
  | n + 1 => hasB f t n || decide (f n = t)
def adF (f : Nat → Int64) (n : Nat) (t : Int64) : Nat → Int64 := if hasB f t n = true then f else if n < 64 then vp_updL f n t else f
def adN (f : Nat → Int64) (n : Nat) (t : Int64) : Nat := if hasB f t n = true then n else if n < 64 then n + 1 else n
theorem hasB_step {f : Nat → Int64} {t : Int64} {i : Nat} (h : hasB f t i = false) (hne : ¬ f i = t) : hasB f t (i + 1) = false := by
  show (hasB f t i || decide (f i = t)) = false
  rw [h, decide_eq_false hne]; rfl
theorem hasB_hit {f : Nat → Int64} {t : Int64} {i n : Nat} (hi : i < n) (he : f i = t) : hasB f t n = true := by
  induction n with
  | zero => omega
  | succ n ih =>
    show (hasB f t n || decide (f n = t)) = true
    by_cases h : i = n
    · subst h; rw [decide_eq_true he, Bool.or_true]
    · rw [ih (by omega), Bool.true_or]
theorem hasB_iff {f : Nat → Int64} {t : Int64} {n : Nat} : hasB f t n = true ↔ ∃ i, i < n ∧ f i = t := by
  constructor
  · intro h
    induction n with
    | zero => exact absurd h (by simp [hasB])
    | succ n ih =>
      have h : (hasB f t n || decide (f n = t)) = true := h
      rw [Bool.or_eq_true] at h
      rcases h with h | h
      · obtain ⟨i, hi, he⟩ := ih h; exact ⟨i, by omega, he⟩
      · exact ⟨n, by omega, of_decide_eq_true h⟩
  · rintro ⟨i, hi, he⟩; exact hasB_hit hi he
theorem adN_le {f : Nat → Int64} {n : Nat} {t : Int64} (h : n ≤ 64) : adN f n t ≤ 64 := by
  unfold adN; split
  · exact h
  · split <;> omega
/-- what 'branch' does: list, length, found -/
def brF (ab : Nat → Int64) (v : Nat) (be : Nat → Int64) (n : Nat) : Nat → (Nat → Int64) × Nat × Nat
  | 0 => (be, n, 0)
  | i + 1 =>
    if W0 (ab i) v = W1 (ab i) v then (adF (brF ab v be n i).1 (brF ab v be n i).2.1 (W0 (ab i) v), adN (brF ab v be n i).1 (brF ab v be n i).2.1 (W0 (ab i) v), (brF ab v be n i).2.2)
    else (adF (adF (brF ab v be n i).1 (brF ab v be n i).2.1 (W0 (ab i) v)) (adN (brF ab v be n i).1 (brF ab v be n i).2.1 (W0 (ab i) v)) (W1 (ab i) v), adN (adF (brF ab v be n i).1 (brF ab v be n i).2.1 (W0 (ab i) v)) (adN (brF ab v be n i).1 (brF ab v be n i).2.1 (W0 (ab i) v)) (W1 (ab i) v), (brF ab v be n i).2.2 + 1)
theorem brF_eq {ab : Nat → Int64} {v : Nat} {be : Nat → Int64} {n i : Nat} (h : W0 (ab i) v = W1 (ab i) v) : brF ab v be n (i + 1) = (adF (brF ab v be n i).1 (brF ab v be n i).2.1 (W0 (ab i) v), adN (brF ab v be n i).1 (brF ab v be n i).2.1 (W0 (ab i) v), (brF ab v be n i).2.2) := if_pos h
theorem brF_ne {ab : Nat → Int64} {v : Nat} {be : Nat → Int64} {n i : Nat} (h : ¬ W0 (ab i) v = W1 (ab i) v) : brF ab v be n (i + 1) = (adF (adF (brF ab v be n i).1 (brF ab v be n i).2.1 (W0 (ab i) v)) (adN (brF ab v be n i).1 (brF ab v be n i).2.1 (W0 (ab i) v)) (W1 (ab i) v), adN (adF (brF ab v be n i).1 (brF ab v be n i).2.1 (W0 (ab i) v)) (adN (brF ab v be n i).1 (brF ab v be n i).2.1 (W0 (ab i) v)) (W1 (ab i) v), (brF ab v be n i).2.2 + 1) := if_neg h
theorem brF_le {ab : Nat → Int64} {v : Nat} {be : Nat → Int64} {n : Nat} (h : n ≤ 64) : ∀ i, (brF ab v be n i).2.1 ≤ 64
  | 0 => h
  | i + 1 => by
    by_cases hz : W0 (ab i) v = W1 (ab i) v
    · rw [brF_eq hz]; exact adN_le (brF_le h i)
    · rw [brF_ne hz]; exact adN_le (adN_le (brF_le h i))
theorem brF_fd {ab : Nat → Int64} {v : Nat} {be : Nat → Int64} {n : Nat} : ∀ i, (brF ab v be n i).2.2 ≤ i
  | 0 => Nat.le_refl _
  | i + 1 => by
    have := brF_fd (ab := ab) (v := v) (be := be) (n := n) i
    by_cases hz : W0 (ab i) v = W1 (ab i) v
    · rw [brF_eq hz]; show (brF ab v be n i).2.2 ≤ i + 1; omega
    · rw [brF_ne hz]; show (brF ab v be n i).2.2 + 1 ≤ i + 1; omega
/-! the same with lists -/
def adL (L : List Int64) (t : Int64) : List Int64 := if t ∈ L then L else if L.length < 64 then L ++ [t] else L
def rep (f : Nat → Int64) (n : Nat) (L : List Int64) : Prop := L = (List.range n).map f
theorem rep_len {f : Nat → Int64} {n : Nat} {L : List Int64} (h : rep f n L) : L.length = n := by rw [h]; simp
theorem rep_mem {f : Nat → Int64} {n : Nat} {L : List Int64} (h : rep f n L) {t : Int64} : t ∈ L ↔ hasB f t n = true := by
  rw [hasB_iff, h]; simp
theorem rep_add {f : Nat → Int64} {n : Nat} {L : List Int64} (h : rep f n L) (t : Int64) : rep (adF f n t) (adN f n t) (adL L t) := by
  unfold adF adN adL
  by_cases hm : hasB f t n = true
  · rw [if_pos hm, if_pos hm, if_pos ((rep_mem h).mpr hm)]; exact h
  · rw [if_neg hm, if_neg hm, if_neg (fun z => hm ((rep_mem h).mp z)), rep_len h]
    by_cases hn : n < 64
    · rw [if_pos hn, if_pos hn, if_pos hn]
      show L ++ [t] = (List.range (n + 1)).map (vp_updL f n t)
      rw [List.range_succ, List.map_append, h]
      congr 1
      · apply List.map_congr_left
        intro j hj
        rw [List.mem_range] at hj
        exact (pk_uLn (by omega)).symm
      · simp [vp_updL]
    · rw [if_neg hn, if_neg hn, if_neg hn]; exact h
def brL (v : Nat) : List Int64 → List Int64 → List Int64
  | A, [] => A
  | A, t :: r => brL v (if W0 t v = W1 t v then adL A (W0 t v) else adL (adL A (W0 t v)) (W1 t v)) r
def brC (v : Nat) : List Int64 → Nat
  | [] => 0
  | t :: r => (if W0 t v = W1 t v then 0 else 1) + brC v r
theorem brL_app (v : Nat) (A L : List Int64) (t : Int64) : brL v A (L ++ [t]) = (if W0 t v = W1 t v then adL (brL v A L) (W0 t v) else adL (adL (brL v A L) (W0 t v)) (W1 t v)) := by
  induction L generalizing A with
  | nil => rfl
  | cons x r ih => exact ih _
theorem brC_app (v : Nat) (L : List Int64) (t : Int64) : brC v (L ++ [t]) = brC v L + (if W0 t v = W1 t v then 0 else 1) := by
  induction L with
  | nil => show (if W0 t v = W1 t v then 0 else 1) + 0 = 0 + _; omega
  | cons x r ih => show _ + brC v (r ++ [t]) = (_ + brC v r) + _; rw [ih]; omega
theorem rep_br {ab be : Nat → Int64} {v n : Nat} {A : List Int64} (hA : rep be n A) : ∀ (i : Nat), rep (brF ab v be n i).1 (brF ab v be n i).2.1 (brL v A ((List.range i).map ab)) ∧ (brF ab v be n i).2.2 = brC v ((List.range i).map ab)
  | 0 => ⟨hA, rfl⟩
  | i + 1 => by
    obtain ⟨h1, h2⟩ := rep_br (ab := ab) (v := v) hA i
    rw [List.range_succ, List.map_append, List.map_singleton, brL_app, brC_app]
    by_cases hz : W0 (ab i) v = W1 (ab i) v
    · rw [brF_eq hz, if_pos hz, if_pos hz]; exact ⟨rep_add h1 _, h2⟩
    · rw [brF_ne hz, if_neg hz, if_neg hz]; exact ⟨rep_add (rep_add h1 _) _, by show _ + 1 = _; rw [h2]⟩
/-- the list of a level, its width, the sum of the widths above -/
def lvL (od : Nat → Nat) (L : List Int64) : Nat → List Int64
  | 0 => L
  | i + 1 => brL (od i) [] (lvL od L i)
def wdL (od : Nat → Nat) (L : List Int64) (i : Nat) : Nat := brC (od i) (lvL od L i)
def toL (od : Nat → Nat) (L : List Int64) : Nat → Nat
  | 0 => 0
  | i + 1 => toL od L i + wdL od L i
theorem lv_rep {od : Nat → Nat} {L : List Int64} {i n1 : Nat} {be1 ab1 : Nat → Int64} (h : rep be1 n1 (lvL od L i)) : rep (brF be1 (od i) ab1 0 n1).1 (brF be1 (od i) ab1 0 n1).2.1 (lvL od L (i + 1)) ∧ (brF be1 (od i) ab1 0 n1).2.2 = wdL od L i := by
  have hr := rep_br (ab := be1) (be := ab1) (v := od i) (n := 0) (A := []) rfl n1
  rw [show (List.range n1).map be1 = lvL od L i from h.symm] at hr
  exact hr
theorem tot_step {od : Nat → Nat} {L : List Int64} {i n1 : Nat} {be1 ab1 : Nat → Int64} {wd1 : Nat → Int32} (h : rep be1 n1 (lvL od L i)) : nI (toL od L (i + 1)) = nI (toL od L i) + upd wd1 i (nI (brF be1 (od i) ab1 0 n1).2.2) i := by
  rw [pk_us, nI_add, (lv_rep (ab1 := ab1) h).2]; rfl
theorem wd_step {od : Nat → Nat} {L : List Int64} {i n1 : Nat} {be1 ab1 : Nat → Int64} {wd1 : Nat → Int32} (h : rep be1 n1 (lvL od L i)) (hw : ∀ j, j < i → wd1 j = nI (wdL od L j)) : ∀ j, j < i + 1 → upd wd1 i (nI (brF be1 (od i) ab1 0 n1).2.2) j = nI (wdL od L j) := by
  intro j hj
  by_cases he : j = i
  · subst he; rw [pk_us, (lv_rep (ab1 := ab1) h).2]
  · rw [pk_un he]; exact hw j (by omega)
/-- the list of the registers' tables, as 'nodesOfAll' lays it -/
def rgL (rg : Nat → Int64) (hd : Nat → Int32) : Nat → List Int64
  | 0 => []
  | i + 1 => if hd i = 0 then rgL rg hd i else adL (rgL rg hd i) (rg i)
set_option maxRecDepth 100000 in
set_option maxHeartbeats 4000000 in
theorem c_NC_add (l : Launch) (g : Gx) (ad : Nat → Nat) (rg : Nat → Int64) (hd : Nat → Int32) (od : Nat → Int32) (tx : Nat → Int32) (ty : Int32) (sm : Nat → Int64) (pa : Nat → Int64) (pr : Nat → Int64) (fl : Nat → Int64) (op : Int32) (du : Int32) (qa : Nat) (ab : Nat → Int64) (ac : Int32) (qb : Nat) (be : Nat → Int64) (wd : Nat → Int32) (X : va_W) (n : Nat) (t : Int64) (h1 : n ≤ 64) : Met l y_NC_add (w_NC_add :: TW) rm_NC_add (va_Pc [.ref (ad 11), .long t] (PR g (CW g ad rg hd od tx ty sm pa pr fl op du qa ab ac qb be (nI n) wd ++ X))) (va_Qv (fun (u9 : Unit) => True) (fun u9 t9 => PR g (CW g ad rg hd od tx ty sm pa pr fl op du qa ab ac qb (adF be n t) (nI (adN be n t)) wd ++ X) t9) (gA g)) 0 0 (gA g) := by
  refine mt_of (by decide) (Nat.le_of_ble_eq_true rfl) ?_
  intro p e s m below meth c ls hx hb hr hml hlk hown ht hnm F hP hD hl
  have hl : lv_has ls 4 [(0, .ref (ad 11)), (1, .long t)] := hl
  have hS : va_S (gA g) s.heap s.heap [] := va_S.rf
  refine lv_iconst (v := nI 0) hx hb d_NC_add_0 (by decide) ?_
  refine lv_istore_n (lv' := [(3, .int (nI 0)), (0, .ref (ad 11)), (1, .long t)]) hx hb d_NC_add_1 rfl hl (by decide) rfl (fun ls hl => ?_)
  have lp2 : ∀ (j2 : Nat) (i : Nat) (H : Heap) (locs : List Loc) (ls : Array Slot), i + j2 = n → (hasB be t i = false) → va_P g.1 cl (CW g ad rg hd od tx ty sm pa pr fl op du qa ab ac qb be (nI n) wd ++ X) H → va_D (gA g) (CW g ad rg hd od tx ty sm pa pr fl op du qa ab ac qb be (nI n) wd ++ X) → va_S (gA g) s.heap H locs → lv_has ls 4 [(3, .int (nI i)), (0, .ref (ad 11)), (1, .long t)] → W p l e rm_NC_add s m [.ref (ad 11), .long t].toArray below meth c H locs 0 0 (MQ below (va_Qv (fun (u9 : Unit) => True) (fun u9 t9 => PR g (CW g ad rg hd od tx ty sm pa pr fl op du qa ab ac qb (adF be n t) (nI (adN be n t)) wd ++ X) t9) (gA g)) [.ref (ad 11), .long t].toArray s 0 0 (gA g)) (F0 m 2 ls []) := by
    intro j2
    induction j2 with
    | zero =>
      intro i H locs ls hj2 q1 hP hD hS hl
      refine lv_iload_n hx hb d_NC_add_2 rfl (lv_at hl 0 rfl) ?_
      refine lv_aload_n hx hb d_NC_add_3 rfl (lv_at hl 1 rfl) ?_
      refine va_get (ci := 1) (v := .int (nI n)) (C := R_NC) (T := T_NC) (N := 5) hx hb ht i_NC hown F.2.1 hP 11 rfl rfl 3 (by decide) (ht _ tw_72) (fun _ h9 => h9) rfl d_NC_add_4 ?_
      refine rc_ge (tgt := 28) hx hb (by omega) (by omega) d_NC_add_7 (by decide) (fun c7 => ?_) (fun c7 => ?_)
      · refine lv_aload_n hx hb d_NC_add_28 rfl (lv_at hl 1 rfl) ?_
        refine va_get (ci := 1) (v := .int (nI n)) (C := R_NC) (T := T_NC) (N := 5) hx hb ht i_NC hown F.2.1 hP 11 rfl rfl 3 (by decide) (ht _ tw_72) (fun _ h9 => h9) rfl d_NC_add_29 ?_
        refine lv_bipush (v := nI 64) hx hb d_NC_add_32 (by decide) ?_
        refine rc_ge (tgt := 57) hx hb (by omega) (by omega) d_NC_add_34 (by decide) (fun c34 => ?_) (fun c34 => ?_)
        · have hP : va_P g.1 cl (CW g ad rg hd od tx ty sm pa pr fl op du qa ab ac qb (adF be n t) (nI (adN be n t)) wd ++ X) H := by rw [show i = n by omega] at q1; rw [show adF be n t = be by unfold adF; rw [if_neg (by rw [q1]; decide), if_neg (by omega)], show adN be n t = n by unfold adN; rw [if_neg (by rw [q1]; decide), if_neg (by omega)]]; exact hP
          have hD : va_D (gA g) (CW g ad rg hd od tx ty sm pa pr fl op du qa ab ac qb (adF be n t) (nI (adN be n t)) wd ++ X) := by rw [show i = n by omega] at q1; rw [show adF be n t = be by unfold adF; rw [if_neg (by rw [q1]; decide), if_neg (by omega)], show adN be n t = n by unfold adN; rw [if_neg (by rw [q1]; decide), if_neg (by omega)]]; exact hD
          exact W.vret hx hb hr (fun t9 e1 hW => ⟨⟨(), rfl, trivial, PR.at F hP hD hS e1 hW.alike⟩, hS.F e1⟩) hS.2.2 d_NC_add_57
        · refine lv_aload_n hx hb d_NC_add_37 rfl (lv_at hl 1 rfl) ?_
          refine va_get (ci := 1) (v := .ref qb) (C := R_NC) (T := T_NC) (N := 5) hx hb ht i_NC hown F.2.1 hP 11 rfl rfl 2 (by decide) (ht _ tw_71) (fun _ h9 => h9) rfl d_NC_add_38 ?_
          refine lv_aload_n hx hb d_NC_add_41 rfl (lv_at hl 1 rfl) ?_
          refine va_get (ci := 1) (v := .int (nI n)) (C := R_NC) (T := T_NC) (N := 5) hx hb ht i_NC hown F.2.1 hP 11 rfl rfl 3 (by decide) (ht _ tw_72) (fun _ h9 => h9) rfl d_NC_add_42 ?_
          refine lv_lload_n hx hb d_NC_add_45 rfl (lv_at hl 2 rfl) ?_
          refine wa_J hx hb F hP hD hS 14 rfl (by omega) (by decide) d_NC_add_46 (fun H locs hP hD hS => ?_)
          have hP : va_P g.1 cl (CW g ad rg hd od tx ty sm pa pr fl op du qa ab ac qb (vp_updL be n t) (nI n) wd ++ X) H := hP
          have hD : va_D (gA g) (CW g ad rg hd od tx ty sm pa pr fl op du qa ab ac qb (vp_updL be n t) (nI n) wd ++ X) := hD
          refine lv_aload_n hx hb d_NC_add_47 rfl (lv_at hl 1 rfl) ?_
          refine lv_dup hx hb d_NC_add_48 rfl ?_
          refine va_get (ci := 1) (v := .int (nI n)) (C := R_NC) (T := T_NC) (N := 5) hx hb ht i_NC hown F.2.1 hP 11 rfl rfl 3 (by decide) (ht _ tw_72) (fun _ h9 => h9) rfl d_NC_add_49 ?_
          refine lv_iconst (v := nI 1) hx hb d_NC_add_52 (by decide) ?_
          refine rn_add hx hb d_NC_add_53 ?_
          refine va_put (ci := 1) (v := .int (nI (n + 1))) (ty := .int) (C := R_NC) (T := T_NC) (N := 5) hx hb ht i_NC t_NC t_NC_ok n_NC hown F.2.1 hP hD hS 11 rfl rfl 3 (by decide) (ht _ tw_72) (fun _ h9 => h9) rfl (by decide +kernel) rfl rfl (Nat.le_of_ble_eq_true rfl) d_NC_add_54 (fun H locs hP hD hS => ?_)
          have hP : va_P g.1 cl (CW g ad rg hd od tx ty sm pa pr fl op du qa ab ac qb (vp_updL be n t) (nI (n + 1)) wd ++ X) H := hP
          have hD : va_D (gA g) (CW g ad rg hd od tx ty sm pa pr fl op du qa ab ac qb (vp_updL be n t) (nI (n + 1)) wd ++ X) := hD
          have hP : va_P g.1 cl (CW g ad rg hd od tx ty sm pa pr fl op du qa ab ac qb (adF be n t) (nI (adN be n t)) wd ++ X) H := by rw [show i = n by omega] at q1; rw [show adF be n t = vp_updL be n t by unfold adF; rw [if_neg (by rw [q1]; decide), if_pos (by omega)], show adN be n t = n + 1 by unfold adN; rw [if_neg (by rw [q1]; decide), if_pos (by omega)]]; exact hP
          have hD : va_D (gA g) (CW g ad rg hd od tx ty sm pa pr fl op du qa ab ac qb (adF be n t) (nI (adN be n t)) wd ++ X) := by rw [show i = n by omega] at q1; rw [show adF be n t = vp_updL be n t by unfold adF; rw [if_neg (by rw [q1]; decide), if_pos (by omega)], show adN be n t = n + 1 by unfold adN; rw [if_neg (by rw [q1]; decide), if_pos (by omega)]]; exact hD
          exact W.vret hx hb hr (fun t9 e1 hW => ⟨⟨(), rfl, trivial, PR.at F hP hD hS e1 hW.alike⟩, hS.F e1⟩) hS.2.2 d_NC_add_57
      · exact (by omega : False).elim
    | succ j2 ih2 =>
      intro i H locs ls hj2 q1 hP hD hS hl
      refine lv_iload_n hx hb d_NC_add_2 rfl (lv_at hl 0 rfl) ?_
      refine lv_aload_n hx hb d_NC_add_3 rfl (lv_at hl 1 rfl) ?_
      refine va_get (ci := 1) (v := .int (nI n)) (C := R_NC) (T := T_NC) (N := 5) hx hb ht i_NC hown F.2.1 hP 11 rfl rfl 3 (by decide) (ht _ tw_72) (fun _ h9 => h9) rfl d_NC_add_4 ?_
      refine rc_ge (tgt := 28) hx hb (by omega) (by omega) d_NC_add_7 (by decide) (fun c7 => ?_) (fun c7 => ?_)
      · exact (by omega : False).elim
      · refine lv_aload_n hx hb d_NC_add_10 rfl (lv_at hl 1 rfl) ?_
        refine va_get (ci := 1) (v := .ref qb) (C := R_NC) (T := T_NC) (N := 5) hx hb ht i_NC hown F.2.1 hP 11 rfl rfl 2 (by decide) (ht _ tw_71) (fun _ h9 => h9) rfl d_NC_add_11 ?_
        refine lv_iload_n hx hb d_NC_add_14 rfl (lv_at hl 0 rfl) ?_
        refine ra_J hx hb F hP 14 rfl (by omega) (by decide) d_NC_add_15 ?_
        refine lv_lload_n hx hb d_NC_add_16 rfl (lv_at hl 2 rfl) ?_
        refine W.lcmp hx hb d_NC_add_17 ?_
        refine lv_if_ne (tgt := 22) hx hb d_NC_add_18 (by decide) (fun c18 => ?_) (fun c18 => ?_)
        · refine lv_iinc (lv' := [(3, .int (nI (i + 1))), (0, .ref (ad 11)), (1, .long t)]) hx hb d_NC_add_22 hl (k := 0) rfl (nI_1 _) (by decide) rfl (fun ls hl => ?_)
          refine lv_goto (tgt := 2) hx hb d_NC_add_25 (by decide) ?_
          have hl := lv_sub hl [0, 1, 2] rfl
          have hl : lv_has ls 4 [(3, .int (nI ((i + 1)))), (0, .ref (ad 11)), (1, .long t)] := hl
          exact ih2 (i + 1) H locs ls (by omega) (hasB_step q1 (fun z => c18 ((lg_cmp_eq _ _).mpr z))) hP hD hS hl
        · have hP : va_P g.1 cl (CW g ad rg hd od tx ty sm pa pr fl op du qa ab ac qb (adF be n t) (nI (adN be n t)) wd ++ X) H := by rw [show adF be n t = be from if_pos (hasB_hit (i := i) (by omega) ((lg_cmp_eq _ _).mp c18)), show adN be n t = n from if_pos (hasB_hit (i := i) (by omega) ((lg_cmp_eq _ _).mp c18))]; exact hP
          have hD : va_D (gA g) (CW g ad rg hd od tx ty sm pa pr fl op du qa ab ac qb (adF be n t) (nI (adN be n t)) wd ++ X) := by rw [show adF be n t = be from if_pos (hasB_hit (i := i) (by omega) ((lg_cmp_eq _ _).mp c18)), show adN be n t = n from if_pos (hasB_hit (i := i) (by omega) ((lg_cmp_eq _ _).mp c18))]; exact hD
          exact W.vret hx hb hr (fun t9 e1 hW => ⟨⟨(), rfl, trivial, PR.at F hP hD hS e1 hW.alike⟩, hS.F e1⟩) hS.2.2 d_NC_add_21
  have hl := lv_sub hl [0, 1, 2] rfl
  have hl : lv_has ls 4 [(3, .int (nI 0)), (0, .ref (ad 11)), (1, .long t)] := hl
  exact lp2 (n - 0) 0 _ _ ls (by omega) rfl hP hD hS hl
set_option maxRecDepth 100000 in
set_option maxHeartbeats 4000000 in
theorem c_NC_goDown (l : Launch) (g : Gx) (ad : Nat → Nat) (rg : Nat → Int64) (hd : Nat → Int32) (od : Nat → Int32) (tx : Nat → Int32) (ty : Int32) (sm : Nat → Int64) (pa : Nat → Int64) (pr : Nat → Int64) (fl : Nat → Int64) (op : Int32) (du : Int32) (qa : Nat) (ab : Nat → Int64) (ac : Int32) (qb : Nat) (be : Nat → Int64) (bc : Int32) (wd : Nat → Int32) (X : va_W) : Met l y_NC_goDown (w_NC_goDown :: TW) rm_NC_goDown (va_Pc [.ref (ad 11)] (PR g (CW g ad rg hd od tx ty sm pa pr fl op du qa ab ac qb be bc wd ++ X))) (va_Qv (fun (u9 : Unit) => True) (fun u9 t9 => PR g (CW g ad rg hd od tx ty sm pa pr fl op du qb be bc qa ab (nI 0) wd ++ X) t9) (gA g)) 0 0 (gA g) := by
  refine mt_of (by decide) (Nat.le_of_ble_eq_true rfl) ?_
  intro p e s m below meth c ls hx hb hr hml hlk hown ht hnm F hP hD hl
  have hl : lv_has ls 2 [(0, .ref (ad 11))] := hl
  have hS : va_S (gA g) s.heap s.heap [] := va_S.rf
  refine lv_aload_n hx hb d_NC_goDown_0 rfl (lv_at hl 0 rfl) ?_
  refine va_get (ci := 1) (v := .ref qa) (C := R_NC) (T := T_NC) (N := 5) hx hb ht i_NC hown F.2.1 hP 11 rfl rfl 0 (by decide) (ht _ tw_69) (fun _ h9 => h9) rfl d_NC_goDown_1 ?_
  refine lv_astore_n (lv' := [(1, .ref qa), (0, .ref (ad 11))]) hx hb d_NC_goDown_4 rfl hl (by decide) rfl (fun ls hl => ?_)
  refine lv_aload_n hx hb d_NC_goDown_5 rfl (lv_at hl 1 rfl) ?_
  refine lv_aload_n hx hb d_NC_goDown_6 rfl (lv_at hl 1 rfl) ?_
  refine va_get (ci := 1) (v := .ref qb) (C := R_NC) (T := T_NC) (N := 5) hx hb ht i_NC hown F.2.1 hP 11 rfl rfl 2 (by decide) (ht _ tw_71) (fun _ h9 => h9) rfl d_NC_goDown_7 ?_
  refine va_put (ci := 1) (v := .ref qb) (ty := .array .long) (C := R_NC) (T := T_NC) (N := 5) hx hb ht i_NC t_NC t_NC_ok n_NC hown F.2.1 hP hD hS 11 rfl rfl 0 (by decide) (ht _ tw_69) (fun _ h9 => h9) rfl (by decide +kernel) rfl rfl (Nat.le_of_ble_eq_true rfl) d_NC_goDown_10 (fun H locs hP hD hS => ?_)
  have hP : va_P g.1 cl (CWG g ad rg hd od tx ty sm pa pr fl op du qa ab ac qb be bc wd qb qb ++ X) H := hP
  have hD : va_D (gA g) (CWG g ad rg hd od tx ty sm pa pr fl op du qa ab ac qb be bc wd qb qb ++ X) := hD
  refine lv_aload_n hx hb d_NC_goDown_13 rfl (lv_at hl 1 rfl) ?_
  refine lv_aload_n hx hb d_NC_goDown_14 rfl (lv_at hl 1 rfl) ?_
  refine va_get (ci := 1) (v := .int bc) (C := R_NC) (T := T_NC) (N := 5) hx hb ht i_NC hown F.2.1 hP 11 rfl rfl 3 (by decide) (ht _ tw_72) (fun _ h9 => h9) rfl d_NC_goDown_15 ?_
  refine va_put (ci := 1) (v := .int bc) (ty := .int) (C := R_NC) (T := T_NC) (N := 5) hx hb ht i_NC t_NC t_NC_ok n_NC hown F.2.1 hP hD hS 11 rfl rfl 1 (by decide) (ht _ tw_70) (fun _ h9 => h9) rfl (by decide +kernel) rfl rfl (Nat.le_of_ble_eq_true rfl) d_NC_goDown_18 (fun H locs hP hD hS => ?_)
  have hP : va_P g.1 cl (CWG g ad rg hd od tx ty sm pa pr fl op du qa ab bc qb be bc wd qb qb ++ X) H := hP
  have hD : va_D (gA g) (CWG g ad rg hd od tx ty sm pa pr fl op du qa ab bc qb be bc wd qb qb ++ X) := hD
  refine lv_aload_n hx hb d_NC_goDown_21 rfl (lv_at hl 1 rfl) ?_
  refine lv_aload_n hx hb d_NC_goDown_22 rfl (lv_at hl 0 rfl) ?_
  refine va_put (ci := 1) (v := .ref qa) (ty := .array .long) (C := R_NC) (T := T_NC) (N := 5) hx hb ht i_NC t_NC t_NC_ok n_NC hown F.2.1 hP hD hS 11 rfl rfl 2 (by decide) (ht _ tw_71) (fun _ h9 => h9) rfl (by decide +kernel) rfl rfl (Nat.le_of_ble_eq_true rfl) d_NC_goDown_23 (fun H locs hP hD hS => ?_)
  have hP : va_P g.1 cl (CWG g ad rg hd od tx ty sm pa pr fl op du qa ab bc qb be bc wd qb qa ++ X) H := hP
  have hD : va_D (gA g) (CWG g ad rg hd od tx ty sm pa pr fl op du qa ab bc qb be bc wd qb qa ++ X) := hD
  refine lv_aload_n hx hb d_NC_goDown_26 rfl (lv_at hl 1 rfl) ?_
  refine lv_iconst (v := nI 0) hx hb d_NC_goDown_27 (by decide) ?_
  refine va_put (ci := 1) (v := .int (nI 0)) (ty := .int) (C := R_NC) (T := T_NC) (N := 5) hx hb ht i_NC t_NC t_NC_ok n_NC hown F.2.1 hP hD hS 11 rfl rfl 3 (by decide) (ht _ tw_72) (fun _ h9 => h9) rfl (by decide +kernel) rfl rfl (Nat.le_of_ble_eq_true rfl) d_NC_goDown_28 (fun H locs hP hD hS => ?_)
  have hP : va_P g.1 cl (CWG g ad rg hd od tx ty sm pa pr fl op du qa ab bc qb be (nI 0) wd qb qa ++ X) H := hP
  have hD : va_D (gA g) (CWG g ad rg hd od tx ty sm pa pr fl op du qa ab bc qb be (nI 0) wd qb qa ++ X) := hD
  have hP : va_P g.1 cl (CW g ad rg hd od tx ty sm pa pr fl op du qb be bc qa ab (nI 0) wd ++ X) _ := wp_perm (.cons _ (.cons _ (.cons _ (.cons _ (.cons _ (.cons _ (.cons _ (.cons _ (.cons _ (.cons _ (.cons _ (.cons _ (.cons _ (.swap _ _ _)))))))))))))) hP
  have hD : va_D (gA g) (CW g ad rg hd od tx ty sm pa pr fl op du qb be bc qa ab (nI 0) wd ++ X) := wd_perm (.cons _ (.cons _ (.cons _ (.cons _ (.cons _ (.cons _ (.cons _ (.cons _ (.cons _ (.cons _ (.cons _ (.cons _ (.cons _ (.swap _ _ _)))))))))))))) hD
  exact W.vret hx hb hr (fun t9 e1 hW => ⟨⟨(), rfl, trivial, PR.at F hP hD hS e1 hW.alike⟩, hS.F e1⟩) hS.2.2 d_NC_goDown_31
set_option maxRecDepth 100000 in
set_option maxHeartbeats 4000000 in
theorem c_NC_branch (l : Launch) (g : Gx) (ad : Nat → Nat) (rg : Nat → Int64) (hd : Nat → Int32) (od : Nat → Int32) (tx : Nat → Int32) (ty : Int32) (sm : Nat → Int64) (pa : Nat → Int64) (pr : Nat → Int64) (fl : Nat → Int64) (op : Int32) (du : Int32) (qa : Nat) (ab : Nat → Int64) (qb : Nat) (be : Nat → Int64) (wd : Nat → Int32) (X : va_W) (na n v : Nat) (h1 : v < 6) (h2 : na ≤ 64) (h3 : n ≤ 64) : Met l y_NC_branch (w_NC_branch :: TW) rm_NC_branch (va_Pc [.ref (ad 11), .int (nI v)] (PR g (CW g ad rg hd od tx ty sm pa pr fl op du qa ab (nI na) qb be (nI n) wd ++ X))) (va_Qi (fun r9 (u9 : Unit) => r9 = nI ((brF ab v be n na).2.2)) (fun u9 t9 => PR g (CW g ad rg hd od tx ty sm pa pr fl op du qa ab (nI na) qb ((brF ab v be n na).1) (nI ((brF ab v be n na).2.1)) wd ++ X) t9) (gA g)) 0 0 (gA g) := by
  refine mt_of (by decide) (Nat.le_of_ble_eq_true rfl) ?_
  intro p e s m below meth c ls hx hb hr hml hlk hown ht hnm F hP hD hl
  have hl : lv_has ls 8 [(0, .ref (ad 11)), (1, .int (nI v))] := hl
  have hS : va_S (gA g) s.heap s.heap [] := va_S.rf
  refine lv_iconst (v := nI 0) hx hb d_NC_branch_0 (by decide) ?_
  refine lv_istore_n (lv' := [(2, .int (nI 0)), (0, .ref (ad 11)), (1, .int (nI v))]) hx hb d_NC_branch_1 rfl hl (by decide) rfl (fun ls hl => ?_)
  refine lv_iconst (v := nI 0) hx hb d_NC_branch_2 (by decide) ?_
  refine lv_istore_n (lv' := [(3, .int (nI 0)), (2, .int (nI 0)), (0, .ref (ad 11)), (1, .int (nI v))]) hx hb d_NC_branch_3 rfl hl (by decide) rfl (fun ls hl => ?_)
  have lp4 : ∀ (j4 : Nat) (i : Nat) (H : Heap) (locs : List Loc) (ls : Array Slot), i + j4 = na → va_P g.1 cl (CW g ad rg hd od tx ty sm pa pr fl op du qa ab (nI na) qb ((brF ab v be n i).1) (nI ((brF ab v be n i).2.1)) wd ++ X) H → va_D (gA g) (CW g ad rg hd od tx ty sm pa pr fl op du qa ab (nI na) qb ((brF ab v be n i).1) (nI ((brF ab v be n i).2.1)) wd ++ X) → va_S (gA g) s.heap H locs → lv_has ls 8 [(3, .int (nI i)), (2, .int (nI ((brF ab v be n i).2.2))), (0, .ref (ad 11)), (1, .int (nI v))] → W p l e rm_NC_branch s m [.ref (ad 11), .int (nI v)].toArray below meth c H locs 0 0 (MQ below (va_Qi (fun r9 (u9 : Unit) => r9 = nI ((brF ab v be n na).2.2)) (fun u9 t9 => PR g (CW g ad rg hd od tx ty sm pa pr fl op du qa ab (nI na) qb ((brF ab v be n na).1) (nI ((brF ab v be n na).2.1)) wd ++ X) t9) (gA g)) [.ref (ad 11), .int (nI v)].toArray s 0 0 (gA g)) (F0 m 4 ls []) := by
    intro j4
    induction j4 with
    | zero =>
      intro i H locs ls hj4 hP hD hS hl
      refine lv_iload_n hx hb d_NC_branch_4 rfl (lv_at hl 0 rfl) ?_
      refine lv_aload_n hx hb d_NC_branch_5 rfl (lv_at hl 2 rfl) ?_
      refine va_get (ci := 1) (v := .int (nI na)) (C := R_NC) (T := T_NC) (N := 5) hx hb ht i_NC hown F.2.1 hP 11 rfl rfl 1 (by decide) (ht _ tw_70) (fun _ h9 => h9) rfl d_NC_branch_6 ?_
      refine rc_ge (tgt := 65) hx hb (by omega) (by omega) d_NC_branch_9 (by decide) (fun c9 => ?_) (fun c9 => ?_)
      · refine lv_iload_n hx hb d_NC_branch_65 rfl (lv_at hl 1 rfl) ?_
        have hP : va_P g.1 cl (CW g ad rg hd od tx ty sm pa pr fl op du qa ab (nI na) qb ((brF ab v be n na).1) (nI ((brF ab v be n na).2.1)) wd ++ X) H := by obtain rfl : i = na := (by omega); exact hP
        have hD : va_D (gA g) (CW g ad rg hd od tx ty sm pa pr fl op du qa ab (nI na) qb ((brF ab v be n na).1) (nI ((brF ab v be n na).2.1)) wd ++ X) := by obtain rfl : i = na := (by omega); exact hD
        exact W.iret (v := nI ((brF ab v be n i).2.2)) hx hb hr (fun t9 e1 hW => ⟨⟨_, (), rfl, (by rw [show na = i by omega]), PR.at F hP hD hS e1 hW.alike⟩, hS.F e1⟩) hS.2.2 d_NC_branch_66
      · exact (by omega : False).elim
    | succ j4 ih4 =>
      intro i H locs ls hj4 hP hD hS hl
      refine lv_iload_n hx hb d_NC_branch_4 rfl (lv_at hl 0 rfl) ?_
      refine lv_aload_n hx hb d_NC_branch_5 rfl (lv_at hl 2 rfl) ?_
      refine va_get (ci := 1) (v := .int (nI na)) (C := R_NC) (T := T_NC) (N := 5) hx hb ht i_NC hown F.2.1 hP 11 rfl rfl 1 (by decide) (ht _ tw_70) (fun _ h9 => h9) rfl d_NC_branch_6 ?_
      refine rc_ge (tgt := 65) hx hb (by omega) (by omega) d_NC_branch_9 (by decide) (fun c9 => ?_) (fun c9 => ?_)
      · exact (by omega : False).elim
      · refine lv_aload_n hx hb d_NC_branch_12 rfl (lv_at hl 2 rfl) ?_
        refine va_get (ci := 1) (v := .ref qa) (C := R_NC) (T := T_NC) (N := 5) hx hb ht i_NC hown F.2.1 hP 11 rfl rfl 0 (by decide) (ht _ tw_69) (fun _ h9 => h9) rfl d_NC_branch_13 ?_
        refine lv_iload_n hx hb d_NC_branch_16 rfl (lv_at hl 0 rfl) ?_
        refine ra_J hx hb F hP 13 rfl (by omega) (by decide) d_NC_branch_17 ?_
        refine lv_iload_n hx hb d_NC_branch_18 rfl (lv_at hl 3 rfl) ?_
        refine pc_Sl (As := [.long (ab i), .int (nI v)]) (rest := []) hx hb (hml.trans hl.1.symm) hown ht F hP hD hS (c_TB_withZero l g (CW g ad rg hd od tx ty sm pa pr fl op du qa ab (nI na) qb ((brF ab v be n i).1) (nI ((brF ab v be n i).2.1)) wd ++ X) (ab i) v (by omega)) v_TB_withZero tw_140 ⟨rfl, rfl⟩ ⟨by decide, by decide⟩ rfl rfl (Nat.le_of_ble_eq_true rfl) ⟨Nat.zero_le _, Nat.zero_le _⟩ d_NC_branch_19 (fun r9 u9 H locs hq hP hD hS => ?_)
        subst hq
        refine lv_lstore (lv' := [(4, .long (W0 (ab i) v)), (3, .int (nI i)), (2, .int (nI ((brF ab v be n i).2.2))), (0, .ref (ad 11)), (1, .int (nI v))]) hx hb d_NC_branch_22 hl (by decide) rfl (fun ls hl => ?_)
        refine lv_aload_n hx hb d_NC_branch_24 rfl (lv_at hl 3 rfl) ?_
        refine va_get (ci := 1) (v := .ref qa) (C := R_NC) (T := T_NC) (N := 5) hx hb ht i_NC hown F.2.1 hP 11 rfl rfl 0 (by decide) (ht _ tw_69) (fun _ h9 => h9) rfl d_NC_branch_25 ?_
        refine lv_iload_n hx hb d_NC_branch_28 rfl (lv_at hl 1 rfl) ?_
        refine ra_J hx hb F hP 13 rfl (by omega) (by decide) d_NC_branch_29 ?_
        refine lv_iload_n hx hb d_NC_branch_30 rfl (lv_at hl 4 rfl) ?_
        refine pc_Sl (As := [.long (ab i), .int (nI v)]) (rest := []) hx hb (hml.trans hl.1.symm) hown ht F hP hD hS (c_TB_withOne l g (CW g ad rg hd od tx ty sm pa pr fl op du qa ab (nI na) qb ((brF ab v be n i).1) (nI ((brF ab v be n i).2.1)) wd ++ X) (ab i) v (by omega)) v_TB_withOne tw_149 ⟨rfl, rfl⟩ ⟨by decide, by decide⟩ rfl rfl (Nat.le_of_ble_eq_true rfl) ⟨Nat.zero_le _, Nat.zero_le _⟩ d_NC_branch_31 (fun r9 u9 H locs hq hP hD hS => ?_)
        subst hq
        refine lv_lstore (lv' := [(6, .long (W1 (ab i) v)), (4, .long (W0 (ab i) v)), (3, .int (nI i)), (2, .int (nI ((brF ab v be n i).2.2))), (0, .ref (ad 11)), (1, .int (nI v))]) hx hb d_NC_branch_34 hl (by decide) rfl (fun ls hl => ?_)
        refine lv_aload_n hx hb d_NC_branch_36 rfl (lv_at hl 4 rfl) ?_
        refine lv_lload hx hb d_NC_branch_37 (lv_at hl 1 rfl) ?_
        refine pc_Vv (q0 := 11) (As := [.long (W0 (ab i) v)]) (rest := []) hx hb (hml.trans hl.1.symm) hown ht F hP hD hS (c_NC_add l g ad rg hd od tx ty sm pa pr fl op du qa ab (nI na) qb ((brF ab v be n i).1) wd X ((brF ab v be n i).2.1) (W0 (ab i) v) (brF_le h3 i)) v_NC_add tw_152 ⟨rfl, rfl⟩ ⟨by decide, by decide⟩ rfl rfl rfl rfl (Nat.le_of_ble_eq_true rfl) ⟨Nat.zero_le _, Nat.zero_le _⟩ d_NC_branch_39 (fun u9 H locs hq hP hD hS => ?_)
        have hP : va_P g.1 cl (CW g ad rg hd od tx ty sm pa pr fl op du qa ab (nI na) qb (adF ((brF ab v be n i).1) ((brF ab v be n i).2.1) (W0 (ab i) v)) (nI (adN ((brF ab v be n i).1) ((brF ab v be n i).2.1) (W0 (ab i) v))) wd ++ X) H := hP
        have hD : va_D (gA g) (CW g ad rg hd od tx ty sm pa pr fl op du qa ab (nI na) qb (adF ((brF ab v be n i).1) ((brF ab v be n i).2.1) (W0 (ab i) v)) (nI (adN ((brF ab v be n i).1) ((brF ab v be n i).2.1) (W0 (ab i) v))) wd ++ X) := hD
        refine lv_lload hx hb d_NC_branch_42 (lv_at hl 1 rfl) ?_
        refine lv_lload hx hb d_NC_branch_44 (lv_at hl 0 rfl) ?_
        refine W.lcmp hx hb d_NC_branch_46 ?_
        refine lv_if_eq (tgt := 59) hx hb d_NC_branch_47 (by decide) (fun c47 => ?_) (fun c47 => ?_)
        · refine lv_iinc (lv' := [(3, .int (nI (i + 1))), (6, .long (W1 (ab i) v)), (4, .long (W0 (ab i) v)), (2, .int (nI ((brF ab v be n i).2.2))), (0, .ref (ad 11)), (1, .int (nI v))]) hx hb d_NC_branch_59 hl (k := 2) rfl (nI_1 _) (by decide) rfl (fun ls hl => ?_)
          refine lv_goto (tgt := 4) hx hb d_NC_branch_62 (by decide) ?_
          have hl := lv_sub hl [0, 3, 4, 5] rfl
          have hl : lv_has ls 8 [(3, .int (nI ((i + 1)))), (2, .int (nI ((brF ab v be n (i + 1)).2.2))), (0, .ref (ad 11)), (1, .int (nI v))] := by rw [brF_eq ((lg_cmp_eq _ _).mp c47)]; exact hl
          have hP : va_P g.1 cl (CW g ad rg hd od tx ty sm pa pr fl op du qa ab (nI na) qb ((brF ab v be n (i + 1)).1) (nI ((brF ab v be n (i + 1)).2.1)) wd ++ X) H := by rw [brF_eq ((lg_cmp_eq _ _).mp c47)]; exact hP
          have hD : va_D (gA g) (CW g ad rg hd od tx ty sm pa pr fl op du qa ab (nI na) qb ((brF ab v be n (i + 1)).1) (nI ((brF ab v be n (i + 1)).2.1)) wd ++ X) := by rw [brF_eq ((lg_cmp_eq _ _).mp c47)]; exact hD
          exact ih4 (i + 1) H locs ls (by omega)  hP hD hS hl
        · refine lv_iinc (lv' := [(2, .int (nI ((brF ab v be n i).2.2 + 1))), (6, .long (W1 (ab i) v)), (4, .long (W0 (ab i) v)), (3, .int (nI i)), (0, .ref (ad 11)), (1, .int (nI v))]) hx hb d_NC_branch_50 hl (k := 3) rfl (nI_1 _) (by decide) rfl (fun ls hl => ?_)
          refine lv_aload_n hx hb d_NC_branch_53 rfl (lv_at hl 4 rfl) ?_
          refine lv_lload hx hb d_NC_branch_54 (lv_at hl 1 rfl) ?_
          refine pc_Vv (q0 := 11) (As := [.long (W1 (ab i) v)]) (rest := []) hx hb (hml.trans hl.1.symm) hown ht F hP hD hS (c_NC_add l g ad rg hd od tx ty sm pa pr fl op du qa ab (nI na) qb (adF ((brF ab v be n i).1) ((brF ab v be n i).2.1) (W0 (ab i) v)) wd X (adN ((brF ab v be n i).1) ((brF ab v be n i).2.1) (W0 (ab i) v)) (W1 (ab i) v) (adN_le (brF_le h3 i))) v_NC_add tw_152 ⟨rfl, rfl⟩ ⟨by decide, by decide⟩ rfl rfl rfl rfl (Nat.le_of_ble_eq_true rfl) ⟨Nat.zero_le _, Nat.zero_le _⟩ d_NC_branch_56 (fun u9 H locs hq hP hD hS => ?_)
          have hP : va_P g.1 cl (CW g ad rg hd od tx ty sm pa pr fl op du qa ab (nI na) qb (adF (adF ((brF ab v be n i).1) ((brF ab v be n i).2.1) (W0 (ab i) v)) (adN ((brF ab v be n i).1) ((brF ab v be n i).2.1) (W0 (ab i) v)) (W1 (ab i) v)) (nI (adN (adF ((brF ab v be n i).1) ((brF ab v be n i).2.1) (W0 (ab i) v)) (adN ((brF ab v be n i).1) ((brF ab v be n i).2.1) (W0 (ab i) v)) (W1 (ab i) v))) wd ++ X) H := hP
          have hD : va_D (gA g) (CW g ad rg hd od tx ty sm pa pr fl op du qa ab (nI na) qb (adF (adF ((brF ab v be n i).1) ((brF ab v be n i).2.1) (W0 (ab i) v)) (adN ((brF ab v be n i).1) ((brF ab v be n i).2.1) (W0 (ab i) v)) (W1 (ab i) v)) (nI (adN (adF ((brF ab v be n i).1) ((brF ab v be n i).2.1) (W0 (ab i) v)) (adN ((brF ab v be n i).1) ((brF ab v be n i).2.1) (W0 (ab i) v)) (W1 (ab i) v))) wd ++ X) := hD
          refine lv_iinc (lv' := [(3, .int (nI (i + 1))), (2, .int (nI ((brF ab v be n i).2.2 + 1))), (6, .long (W1 (ab i) v)), (4, .long (W0 (ab i) v)), (0, .ref (ad 11)), (1, .int (nI v))]) hx hb d_NC_branch_59 hl (k := 3) rfl (nI_1 _) (by decide) rfl (fun ls hl => ?_)
          refine lv_goto (tgt := 4) hx hb d_NC_branch_62 (by decide) ?_
          have hl := lv_sub hl [0, 1, 4, 5] rfl
          have hl : lv_has ls 8 [(3, .int (nI ((i + 1)))), (2, .int (nI ((brF ab v be n (i + 1)).2.2))), (0, .ref (ad 11)), (1, .int (nI v))] := by rw [brF_ne (fun z => c47 ((lg_cmp_eq _ _).mpr z))]; exact hl
          have hP : va_P g.1 cl (CW g ad rg hd od tx ty sm pa pr fl op du qa ab (nI na) qb ((brF ab v be n (i + 1)).1) (nI ((brF ab v be n (i + 1)).2.1)) wd ++ X) H := by rw [brF_ne (fun z => c47 ((lg_cmp_eq _ _).mpr z))]; exact hP
          have hD : va_D (gA g) (CW g ad rg hd od tx ty sm pa pr fl op du qa ab (nI na) qb ((brF ab v be n (i + 1)).1) (nI ((brF ab v be n (i + 1)).2.1)) wd ++ X) := by rw [brF_ne (fun z => c47 ((lg_cmp_eq _ _).mpr z))]; exact hD
          exact ih4 (i + 1) H locs ls (by omega)  hP hD hS hl
  have hl := lv_sub hl [0, 1, 2, 3] rfl
  have hl : lv_has ls 8 [(3, .int (nI 0)), (2, .int (nI ((brF ab v be n 0).2.2))), (0, .ref (ad 11)), (1, .int (nI v))] := hl
  have hP : va_P g.1 cl (CW g ad rg hd od tx ty sm pa pr fl op du qa ab (nI na) qb ((brF ab v be n 0).1) (nI ((brF ab v be n 0).2.1)) wd ++ X) s.heap := hP
  have hD : va_D (gA g) (CW g ad rg hd od tx ty sm pa pr fl op du qa ab (nI na) qb ((brF ab v be n 0).1) (nI ((brF ab v be n 0).2.1)) wd ++ X) := hD
  exact lp4 (na - 0) 0 _ _ ls (by omega)  hP hD hS hl
set_option maxRecDepth 100000 in
set_option maxHeartbeats 4000000 in
theorem c_NC_total (l : Launch) (g : Gx) (ad : Nat → Nat) (rg : Nat → Int64) (hd : Nat → Int32) (tx : Nat → Int32) (ty : Int32) (sm : Nat → Int64) (pa : Nat → Int64) (pr : Nat → Int64) (fl : Nat → Int64) (op : Int32) (du : Int32) (qa : Nat) (ab : Nat → Int64) (ac : Int32) (qb : Nat) (be : Nat → Int64) (wd : Nat → Int32) (X : va_W) (od : Nat → Nat) (n : Nat) (L : List Int64) (h1 : ∀ i, i < 6 → od i < 6) (h2 : n ≤ 64) (h3 : rep be n L) : Met l y_NC_total (w_NC_total :: TW) rm_NC_total (va_Pc [.ref (ad 11), .ref (ad 4)] (PR g (CW g ad rg hd (nF od) tx ty sm pa pr fl op du qa ab ac qb be (nI n) wd ++ X))) (va_Qi (fun r9 (u9 : (Nat) × (Nat → Int64) × (Int32) × (Nat) × (Nat → Int64) × (Int32) × (Nat → Int32)) => r9 = nI (toL od L 6) ∧ (∀ j, j < 6 → u9.2.2.2.2.2.2 j = nI (wdL od L j))) (fun u9 t9 => PR g (CW g ad rg hd (nF od) tx ty sm pa pr fl op du u9.1 u9.2.1 u9.2.2.1 u9.2.2.2.1 u9.2.2.2.2.1 u9.2.2.2.2.2.1 u9.2.2.2.2.2.2 ++ X) t9) (gA g)) 0 0 (gA g) := by
  refine mt_of (by decide) (Nat.le_of_ble_eq_true rfl) ?_
  intro p e s m below meth c ls hx hb hr hml hlk hown ht hnm F hP hD hl
  have hl : lv_has ls 4 [(0, .ref (ad 11)), (1, .ref (ad 4))] := hl
  have hS : va_S (gA g) s.heap s.heap [] := va_S.rf
  refine lv_iconst (v := nI 0) hx hb d_NC_total_0 (by decide) ?_
  refine lv_istore_n (lv' := [(2, .int (nI 0)), (0, .ref (ad 11)), (1, .ref (ad 4))]) hx hb d_NC_total_1 rfl hl (by decide) rfl (fun ls hl => ?_)
  refine lv_iconst (v := nI 0) hx hb d_NC_total_2 (by decide) ?_
  refine lv_istore_n (lv' := [(3, .int (nI 0)), (2, .int (nI 0)), (0, .ref (ad 11)), (1, .ref (ad 4))]) hx hb d_NC_total_3 rfl hl (by decide) rfl (fun ls hl => ?_)
  have lp4 : ∀ (j4 : Nat) (i : Nat) (qa1 : Nat) (ab1 : Nat → Int64) (ac1 : Int32) (qb1 : Nat) (be1 : Nat → Int64) (n1 : Nat) (wd1 : Nat → Int32) (H : Heap) (locs : List Loc) (ls : Array Slot), i + j4 = 6 → (i ≤ 6) → (n1 ≤ 64) → (rep be1 n1 (lvL od L i)) → (∀ j, j < i → wd1 j = nI (wdL od L j)) → va_P g.1 cl (CW g ad rg hd (nF od) tx ty sm pa pr fl op du qa1 ab1 ac1 qb1 be1 (nI n1) wd1 ++ X) H → va_D (gA g) (CW g ad rg hd (nF od) tx ty sm pa pr fl op du qa1 ab1 ac1 qb1 be1 (nI n1) wd1 ++ X) → va_S (gA g) s.heap H locs → lv_has ls 4 [(3, .int (nI i)), (2, .int (nI (toL od L i))), (0, .ref (ad 11)), (1, .ref (ad 4))] → W p l e rm_NC_total s m [.ref (ad 11), .ref (ad 4)].toArray below meth c H locs 0 0 (MQ below (va_Qi (fun r9 (u9 : (Nat) × (Nat → Int64) × (Int32) × (Nat) × (Nat → Int64) × (Int32) × (Nat → Int32)) => r9 = nI (toL od L 6) ∧ (∀ j, j < 6 → u9.2.2.2.2.2.2 j = nI (wdL od L j))) (fun u9 t9 => PR g (CW g ad rg hd (nF od) tx ty sm pa pr fl op du u9.1 u9.2.1 u9.2.2.1 u9.2.2.2.1 u9.2.2.2.2.1 u9.2.2.2.2.2.1 u9.2.2.2.2.2.2 ++ X) t9) (gA g)) [.ref (ad 11), .ref (ad 4)].toArray s 0 0 (gA g)) (F0 m 4 ls []) := by
    intro j4
    induction j4 with
    | zero =>
      intro i qa1 ab1 ac1 qb1 be1 n1 wd1 H locs ls hj4 k0 k1 k2 k3 hP hD hS hl
      refine lv_iload_n hx hb d_NC_total_4 rfl (lv_at hl 0 rfl) ?_
      refine lv_bipush (v := nI 6) hx hb d_NC_total_5 (by decide) ?_
      refine rc_ge (tgt := 42) hx hb (by omega) (by omega) d_NC_total_7 (by decide) (fun c7 => ?_) (fun c7 => ?_)
      · refine lv_iload_n hx hb d_NC_total_42 rfl (lv_at hl 1 rfl) ?_
        exact W.iret (v := nI (toL od L i)) hx hb hr (fun t9 e1 hW => ⟨⟨_, (qa1, ab1, ac1, qb1, be1, nI n1, wd1), rfl, ⟨(by rw [show i = 6 by omega]), (fun j hj => k3 j (by omega))⟩, PR.at F hP hD hS e1 hW.alike⟩, hS.F e1⟩) hS.2.2 d_NC_total_43
      · exact (by omega : False).elim
    | succ j4 ih4 =>
      intro i qa1 ab1 ac1 qb1 be1 n1 wd1 H locs ls hj4 k0 k1 k2 k3 hP hD hS hl
      refine lv_iload_n hx hb d_NC_total_4 rfl (lv_at hl 0 rfl) ?_
      refine lv_bipush (v := nI 6) hx hb d_NC_total_5 (by decide) ?_
      refine rc_ge (tgt := 42) hx hb (by omega) (by omega) d_NC_total_7 (by decide) (fun c7 => ?_) (fun c7 => ?_)
      · exact (by omega : False).elim
      · refine lv_aload_n hx hb d_NC_total_10 rfl (lv_at hl 2 rfl) ?_
        refine pc_Vv (q0 := 11) (As := []) (rest := []) hx hb (hml.trans hl.1.symm) hown ht F hP hD hS (c_NC_goDown l g ad rg hd (nF od) tx ty sm pa pr fl op du qa1 ab1 ac1 qb1 be1 (nI n1) wd1 X) v_NC_goDown tw_132 ⟨rfl, rfl⟩ ⟨by decide, by decide⟩ rfl rfl rfl rfl (Nat.le_of_ble_eq_true rfl) ⟨Nat.zero_le _, Nat.zero_le _⟩ d_NC_total_11 (fun u9 H locs hq hP hD hS => ?_)
        have hP : va_P g.1 cl (CW g ad rg hd (nF od) tx ty sm pa pr fl op du qb1 be1 (nI n1) qa1 ab1 (nI 0) wd1 ++ X) H := hP
        have hD : va_D (gA g) (CW g ad rg hd (nF od) tx ty sm pa pr fl op du qb1 be1 (nI n1) qa1 ab1 (nI 0) wd1 ++ X) := hD
        refine lv_aload_n hx hb d_NC_total_14 rfl (lv_at hl 2 rfl) ?_
        refine va_get (ci := 1) (v := .ref (ad 12)) (C := R_NC) (T := T_NC) (N := 5) hx hb ht i_NC hown F.2.1 hP 11 rfl rfl 4 (by decide) (ht _ tw_73) (fun _ h9 => h9) rfl d_NC_total_15 ?_
        refine lv_iload_n hx hb d_NC_total_18 rfl (lv_at hl 0 rfl) ?_
        refine lv_aload_n hx hb d_NC_total_19 rfl (lv_at hl 2 rfl) ?_
        refine lv_aload_n hx hb d_NC_total_20 rfl (lv_at hl 3 rfl) ?_
        refine lv_iload_n hx hb d_NC_total_21 rfl (lv_at hl 0 rfl) ?_
        refine ra_I hx hb F hP 4 rfl (by omega) (by decide) d_NC_total_22 ?_
        refine W.eq (g2 := F0 m 23 ls [.int (nI (od i)), .ref (ad 11), .int (nI i), .ref (ad 12)]) rfl ?_
        refine pc_Vi (q0 := 11) (As := [.int (nI (od i))]) (rest := [.int (nI i), .ref (ad 12)]) hx hb (hml.trans hl.1.symm) hown ht F hP hD hS (c_NC_branch l g ad rg hd (nF od) tx ty sm pa pr fl op du qb1 be1 qa1 ab1 wd1 X n1 0 (od i) (h1 i (by omega)) k1 (by omega)) v_NC_branch tw_136 ⟨rfl, rfl⟩ ⟨by decide, by decide⟩ rfl rfl rfl rfl (Nat.le_of_ble_eq_true rfl) ⟨Nat.zero_le _, Nat.zero_le _⟩ d_NC_total_23 (fun r9 u9 H locs hq hP hD hS => ?_)
        subst hq
        have hP : va_P g.1 cl (CW g ad rg hd (nF od) tx ty sm pa pr fl op du qb1 be1 (nI n1) qa1 ((brF be1 (od i) ab1 0 n1).1) (nI ((brF be1 (od i) ab1 0 n1).2.1)) wd1 ++ X) H := hP
        have hD : va_D (gA g) (CW g ad rg hd (nF od) tx ty sm pa pr fl op du qb1 be1 (nI n1) qa1 ((brF be1 (od i) ab1 0 n1).1) (nI ((brF be1 (od i) ab1 0 n1).2.1)) wd1 ++ X) := hD
        refine wa_I hx hb F hP hD hS 12 rfl (by omega) (by decide) d_NC_total_26 (fun H locs hP hD hS => ?_)
        have hP : va_P g.1 cl (CW g ad rg hd (nF od) tx ty sm pa pr fl op du qb1 be1 (nI n1) qa1 ((brF be1 (od i) ab1 0 n1).1) (nI ((brF be1 (od i) ab1 0 n1).2.1)) (upd wd1 i (nI ((brF be1 (od i) ab1 0 n1).2.2))) ++ X) H := hP
        have hD : va_D (gA g) (CW g ad rg hd (nF od) tx ty sm pa pr fl op du qb1 be1 (nI n1) qa1 ((brF be1 (od i) ab1 0 n1).1) (nI ((brF be1 (od i) ab1 0 n1).2.1)) (upd wd1 i (nI ((brF be1 (od i) ab1 0 n1).2.2))) ++ X) := hD
        refine lv_iload_n hx hb d_NC_total_27 rfl (lv_at hl 1 rfl) ?_
        refine lv_aload_n hx hb d_NC_total_28 rfl (lv_at hl 2 rfl) ?_
        refine va_get (ci := 1) (v := .ref (ad 12)) (C := R_NC) (T := T_NC) (N := 5) hx hb ht i_NC hown F.2.1 hP 11 rfl rfl 4 (by decide) (ht _ tw_73) (fun _ h9 => h9) rfl d_NC_total_29 ?_
        refine lv_iload_n hx hb d_NC_total_32 rfl (lv_at hl 0 rfl) ?_
        refine ra_I hx hb F hP 12 rfl (by omega) (by decide) d_NC_total_33 ?_
        refine lv_iadd hx hb d_NC_total_34 ?_
        refine lv_istore_n (lv' := [(2, .int ((nI (toL od L i)) + ((upd wd1 i (nI ((brF be1 (od i) ab1 0 n1).2.2))) i))), (3, .int (nI i)), (0, .ref (ad 11)), (1, .ref (ad 4))]) hx hb d_NC_total_35 rfl hl (by decide) rfl (fun ls hl => ?_)
        refine lv_iinc (lv' := [(3, .int (nI (i + 1))), (2, .int ((nI (toL od L i)) + ((upd wd1 i (nI ((brF be1 (od i) ab1 0 n1).2.2))) i))), (0, .ref (ad 11)), (1, .ref (ad 4))]) hx hb d_NC_total_36 hl (k := 1) rfl (nI_1 _) (by decide) rfl (fun ls hl => ?_)
        refine lv_goto (tgt := 4) hx hb d_NC_total_39 (by decide) ?_
        have hl := lv_sub hl [0, 1, 2, 3] rfl
        have hl : lv_has ls 4 [(3, .int (nI ((i + 1)))), (2, .int (nI (toL od L (i + 1)))), (0, .ref (ad 11)), (1, .ref (ad 4))] := by rw [tot_step (ab1 := ab1) (wd1 := wd1) k2]; exact hl
        have hP : va_P g.1 cl (CW g ad rg hd (nF od) tx ty sm pa pr fl op du qb1 be1 ((nI n1)) qa1 (((brF be1 (od i) ab1 0 n1).1)) (nI ((brF be1 (od i) ab1 0 n1).2.1)) ((upd wd1 i (nI ((brF be1 (od i) ab1 0 n1).2.2)))) ++ X) H := hP
        have hD : va_D (gA g) (CW g ad rg hd (nF od) tx ty sm pa pr fl op du qb1 be1 ((nI n1)) qa1 (((brF be1 (od i) ab1 0 n1).1)) (nI ((brF be1 (od i) ab1 0 n1).2.1)) ((upd wd1 i (nI ((brF be1 (od i) ab1 0 n1).2.2)))) ++ X) := hD
        exact ih4 (i + 1) qb1 be1 (nI n1) qa1 ((brF be1 (od i) ab1 0 n1).1) ((brF be1 (od i) ab1 0 n1).2.1) (upd wd1 i (nI ((brF be1 (od i) ab1 0 n1).2.2))) H locs ls (by omega) (by omega) (brF_le (by omega) n1) (lv_rep (ab1 := ab1) k2).1 (wd_step (ab1 := ab1) k2 k3) hP hD hS hl
  have hl := lv_sub hl [0, 1, 2, 3] rfl
  have hl : lv_has ls 4 [(3, .int (nI 0)), (2, .int (nI (toL od L 0))), (0, .ref (ad 11)), (1, .ref (ad 4))] := hl
  have hP : va_P g.1 cl (CW g ad rg hd (nF od) tx ty sm pa pr fl op du qa ab ac qb be (nI n) wd ++ X) s.heap := hP
  have hD : va_D (gA g) (CW g ad rg hd (nF od) tx ty sm pa pr fl op du qa ab ac qb be (nI n) wd ++ X) := hD
  exact lp4 (6 - 0) 0 qa ab ac qb be n wd _ _ ls (by omega) (by omega) h2 h3 (fun j hj => absurd hj (Nat.not_lt_zero j)) hP hD hS hl
