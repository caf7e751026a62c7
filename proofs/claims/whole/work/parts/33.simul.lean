/-! The two readers: operators and values on stacks against sums, parities, products, flips. -/
def stN (c : Nat) : Nat := if c = 33 then 4 else if c = 38 then 3 else if c = 94 then 2 else if c = 124 then 1 else 0
def apO (c : Nat) : List Int64 → Option (List Int64)
  | [] => none
  | y :: r => if c = 33 then some ((y ^^^ -1) :: r) else match r with
    | [] => none
    | x :: r' => some ((if c = 38 then x &&& y else if c = 94 then x ^^^ y else x ||| y) :: r')
/-- 'reduce': operators and values, the top first -/
def rdO (m : Nat) : List Nat → List Int64 → Option (List Nat × List Int64)
  | [], vs => some ([], vs)
  | c :: os, vs => if m ≤ stN c then (match apO c vs with
    | none => none
    | some vs' => rdO m os vs') else some (c :: os, vs)
/-- the reference's state: operators, values, how many are open, whether an operand stands there -/
abbrev MS : Type := List Nat × List Int64 × Nat × Nat
def mdS (rg : Nat → Int64) (hd : Nat → Int32) (w : MS) (ch : Nat) : Option MS :=
  if w.2.2.2 = 0 then
    (if ch = 33 then some (33 :: w.1, w.2.1, w.2.2.1, 0)
    else if ch = 40 then (if w.2.2.1 = 5 then none else some (40 :: w.1, w.2.1, w.2.2.1 + 1, 0))
    else if ch = 48 then some (w.1, 0 :: w.2.1, w.2.2.1, 1)
    else if ch = 49 then some (w.1, (-1) :: w.2.1, w.2.2.1, 1)
    else if 97 ≤ ch ∧ ch ≤ 102 then some (w.1, mk6 (ch - 97) :: w.2.1, w.2.2.1, 1)
    else if 65 ≤ ch ∧ ch ≤ 72 ∧ ¬ hd (ch - 65) = 0 then some (w.1, rg (ch - 65) :: w.2.1, w.2.2.1, 1)
    else none)
  else if ch = 41 ∧ 0 < w.2.2.1 then (rdO 1 w.1 w.2.1).map (fun z => (z.1.tail, z.2, w.2.2.1 - 1, 1))
  else if 0 < stN ch ∧ ¬ ch = 33 then (rdO (stN ch) w.1 w.2.1).map (fun z => (ch :: z.1, z.2, w.2.2.1, 0))
  else none
/-- what is pending on one level: before |, before ^, before &, how many ! -/
abbrev Fr : Type := Option Int64 × Option Int64 × Option Int64 × Nat
def flN (n : Nat) : Int64 := if n % 2 = 1 then -1 else 0
def oS (s : Option Int64) : List Nat := match s with | none => [] | some _ => [124]
def oP (s : Option Int64) : List Nat := match s with | none => [] | some _ => [94]
def oC (s : Option Int64) : List Nat := match s with | none => [] | some _ => [38]
def vO (s : Option Int64) : List Int64 := match s with | none => [] | some x => [x]
def oF (f : Fr) : List Nat := List.replicate f.2.2.2 33 ++ (oC f.2.2.1 ++ (oP f.2.1 ++ oS f.1))
def vF (f : Fr) : List Int64 := vO f.2.2.1 ++ (vO f.2.1 ++ vO f.1)
def oT : List Fr → List Nat
  | [] => []
  | f :: r => 40 :: (oF f ++ oT r)
def vT : List Fr → List Int64
  | [] => []
  | f :: r => vF f ++ vT r
theorem xr_0 (y : Int64) : y ^^^ 0 = y := bt_ext (fun i hi => by rw [bt_xor, bt_zero]; cases bt y i <;> rfl)
theorem xr_m (y : Int64) : y ^^^ -1 ^^^ -1 = y := bt_ext (fun i hi => by rw [bt_xor, bt_xor, bt_m1 hi]; cases bt y i <;> rfl)
theorem zx_r (y : Int64) : 0 ^^^ y = y := bt_ext (fun i hi => by rw [bt_xor, bt_zero]; cases bt y i <;> rfl)
theorem zo_r (y : Int64) : 0 ||| y = y := bt_ext (fun i hi => by rw [bt_or, bt_zero]; cases bt y i <;> rfl)
theorem ma_r (y : Int64) : -1 &&& y = y := bt_ext (fun i hi => by rw [bt_and, bt_m1 hi]; cases bt y i <;> rfl)
theorem fl_s (n : Nat) (y : Int64) : y ^^^ -1 ^^^ flN n = y ^^^ flN (n + 1) := by
  unfold flN
  rcases Nat.mod_two_eq_zero_or_one n with h | h
  · rw [if_neg (by omega), if_pos (by omega), xr_0]
  · rw [if_pos h, if_neg (by omega), xr_0, xr_m]
theorem fl_n (n : Nat) : flN n ^^^ -1 = flN (n + 1) := by
  have h := fl_s n 0
  rw [zx_r, zx_r] at h
  rw [← h]
  exact bt_ext (fun i hi => by rw [bt_xor, bt_xor]; cases bt (flN n) i <;> cases bt (-1) i <;> rfl)
theorem rd_not {m : Nat} (hm : m ≤ 4) (O : List Nat) (V : List Int64) : ∀ (n : Nat) (y : Int64), rdO m (List.replicate n 33 ++ O) (y :: V) = rdO m O ((y ^^^ flN n) :: V)
  | 0, y => by rw [show flN 0 = 0 from rfl, xr_0]; rfl
  | n + 1, y => by
    rw [← fl_s, ← rd_not hm O V n (y ^^^ -1)]
    show (if m ≤ 4 then rdO m (List.replicate n 33 ++ O) ((y ^^^ -1) :: V) else _) = _
    rw [if_pos hm]
theorem rd_c {m : Nat} (hm : m ≤ 3) (O : List Nat) (V : List Int64) (s : Option Int64) (y : Int64) : rdO m (oC s ++ O) (y :: (vO s ++ V)) = rdO m O ((s.getD (-1) &&& y) :: V) := by
  cases s with
  | none => show rdO m O (y :: V) = rdO m O ((-1 &&& y) :: V); rw [ma_r]
  | some x =>
    show (if m ≤ 3 then rdO m O ((x &&& y) :: V) else _) = _
    rw [if_pos hm]; rfl
theorem rd_p {m : Nat} (hm : m ≤ 2) (O : List Nat) (V : List Int64) (s : Option Int64) (y : Int64) : rdO m (oP s ++ O) (y :: (vO s ++ V)) = rdO m O ((s.getD 0 ^^^ y) :: V) := by
  cases s with
  | none => show rdO m O (y :: V) = rdO m O ((0 ^^^ y) :: V); rw [zx_r]
  | some x =>
    show (if m ≤ 2 then rdO m O ((x ^^^ y) :: V) else _) = _
    rw [if_pos hm]; rfl
theorem rd_s {m : Nat} (hm : m ≤ 1) (O : List Nat) (V : List Int64) (s : Option Int64) (y : Int64) : rdO m (oS s ++ O) (y :: (vO s ++ V)) = rdO m O ((s.getD 0 ||| y) :: V) := by
  cases s with
  | none => show rdO m O (y :: V) = rdO m O ((0 ||| y) :: V); rw [zo_r]
  | some x =>
    show (if m ≤ 1 then rdO m O ((x ||| y) :: V) else _) = _
    rw [if_pos hm]; rfl
theorem rd_t {m : Nat} (hm : 1 ≤ m) (r : List Fr) (V : List Int64) : rdO m (oT r) V = some (oT r, V) := by
  cases r with
  | nil => rfl
  | cons f r =>
    show (if m ≤ 0 then _ else some (40 :: (oF f ++ oT r), V)) = _
    rw [if_neg (by omega)]; rfl
theorem rd_ns {m : Nat} (hm : 2 ≤ m) (s : Option Int64) (r : List Fr) (V : List Int64) : rdO m (oS s ++ oT r) V = some (oS s ++ oT r, V) := by
  cases s with
  | none => exact rd_t (by omega) r V
  | some x =>
    show (if m ≤ 1 then _ else some (124 :: oT r, V)) = _
    rw [if_neg (by omega)]; rfl
theorem rd_np {m : Nat} (hm : 3 ≤ m) (p s : Option Int64) (r : List Fr) (V : List Int64) : rdO m (oP p ++ (oS s ++ oT r)) V = some (oP p ++ (oS s ++ oT r), V) := by
  cases p with
  | none => exact rd_ns (by omega) s r V
  | some x =>
    show (if m ≤ 2 then _ else some (94 :: (oS s ++ oT r), V)) = _
    rw [if_neg (by omega)]; rfl
theorem oF_a (f : Fr) (O : List Nat) : oF f ++ O = List.replicate f.2.2.2 33 ++ (oC f.2.2.1 ++ (oP f.2.1 ++ (oS f.1 ++ O))) := by unfold oF; simp only [List.append_assoc]
theorem vF_a (f : Fr) (V : List Int64) : vF f ++ V = vO f.2.2.1 ++ (vO f.2.1 ++ (vO f.1 ++ V)) := by unfold vF; simp only [List.append_assoc]
theorem rd_3 (f : Fr) (r : List Fr) (V : List Int64) (y : Int64) : rdO 3 (oF f ++ oT r) (y :: (vF f ++ V)) = some (oP f.2.1 ++ (oS f.1 ++ oT r), (f.2.2.1.getD (-1) &&& (y ^^^ flN f.2.2.2)) :: (vO f.2.1 ++ (vO f.1 ++ V))) := by
  rw [oF_a, vF_a, rd_not (by decide), rd_c (by decide), rd_np (by decide)]
theorem rd_2 (f : Fr) (r : List Fr) (V : List Int64) (y : Int64) : rdO 2 (oF f ++ oT r) (y :: (vF f ++ V)) = some (oS f.1 ++ oT r, (f.2.1.getD 0 ^^^ (f.2.2.1.getD (-1) &&& (y ^^^ flN f.2.2.2))) :: (vO f.1 ++ V)) := by
  rw [oF_a, vF_a, rd_not (by decide), rd_c (by decide), rd_p (by decide), rd_ns (by decide)]
theorem rd_1 (f : Fr) (r : List Fr) (V : List Int64) (y : Int64) : rdO 1 (oF f ++ oT r) (y :: (vF f ++ V)) = some (oT r, (f.1.getD 0 ||| (f.2.1.getD 0 ^^^ (f.2.2.1.getD (-1) &&& (y ^^^ flN f.2.2.2)))) :: V) := by
  rw [oF_a, vF_a, rd_not (by decide), rd_c (by decide), rd_p (by decide), rd_s (by decide), rd_t (by decide)]
/-- the class's rows hold what is pending below -/
def relF (a b c d : Nat → Int64) (j : Nat) (f : Fr) : Prop := a j = f.1.getD 0 ∧ b j = f.2.1.getD 0 ∧ c j = f.2.2.1.getD (-1) ∧ d j = flN f.2.2.2
def relT (a b c d : Nat → Int64) : List Fr → Prop
  | [] => True
  | f :: r => relF a b c d r.length f ∧ relT a b c d r
theorem relT_up {a b c d a' b' c' d' : Nat → Int64} : ∀ (r : List Fr) (n : Nat), r.length ≤ n → (∀ j, j < n → a' j = a j ∧ b' j = b j ∧ c' j = c j ∧ d' j = d j) → relT a b c d r → relT a' b' c' d' r
  | [], _, _, _, _ => trivial
  | f :: r, n, hn, h, ht => by
    have hr : r.length < n := hn
    obtain ⟨h1, h2, h3, h4⟩ := h r.length hr
    exact ⟨⟨h1.trans ht.1.1, h2.trans ht.1.2.1, h3.trans ht.1.2.2.1, h4.trans ht.1.2.2.2⟩, relT_up r n (by omega) h ht.2⟩
/-- both readers stand at the same place -/
def SIM (q : RS) (w : MS) : Prop := ∃ (f : Fr) (r : List Fr), q.2.2.2.2.1 = r.length ∧ w.2.2.1 = r.length ∧ r.length ≤ 5 ∧ relT q.1 q.2.1 q.2.2.1 q.2.2.2.1 r ∧ q.1 r.length = f.1.getD 0 ∧ q.2.1 r.length = f.2.1.getD 0 ∧ q.2.2.2.1 r.length = flN f.2.2.2 ∧ w.1 = oF f ++ oT r ∧
  ((q.2.2.2.2.2 = 1 ∧ w.2.2.2 = 0 ∧ q.2.2.1 r.length = f.2.2.1.getD (-1) ∧ w.2.1 = vF f ++ vT r) ∨ (q.2.2.2.2.2 = 0 ∧ w.2.2.2 = 1 ∧ ∃ y, q.2.2.1 r.length = f.2.2.1.getD (-1) &&& (y ^^^ flN f.2.2.2) ∧ w.2.1 = y :: (vF f ++ vT r)))
theorem uL_s (f : Nat → Int64) (k : Nat) (x : Int64) : vp_updL f k x k = x := by simp [vp_updL]
theorem uL_n (f : Nat → Int64) {k j : Nat} (x : Int64) (h : ¬ j = k) : vp_updL f k x j = f j := by simp [vp_updL, h]
/-- an operand comes -/
theorem sim_op {a b c d : Nat → Int64} {k : Nat} {f : Fr} {r : List Fr} {O : List Nat} (t : Int64) (hk : k = r.length) (h5 : r.length ≤ 5) (hT : relT a b c d r) (h1 : a r.length = f.1.getD 0) (h2 : b r.length = f.2.1.getD 0) (h3 : d r.length = flN f.2.2.2) (h4 : c r.length = f.2.2.1.getD (-1)) (hO : O = oF f ++ oT r) (z : Nat) :
    SIM (enF (a, b, c, d, k, z) t) (O, t :: (vF f ++ vT r), r.length, 1) := by
  subst hk
  refine ⟨f, r, rfl, rfl, h5, relT_up r r.length (Nat.le_refl _) (fun j hj => ⟨rfl, rfl, uL_n _ _ (Nat.ne_of_lt hj), rfl⟩) hT, h1, h2, h3, hO, Or.inr ⟨rfl, rfl, t, ?_, rfl⟩⟩
  show vp_updL c r.length (c r.length &&& (t ^^^ d r.length)) r.length = _
  rw [uL_s, h4, h3]
theorem simI {rg : Nat → Int64} {hd : Nat → Int32} {q : RS} {w : MS} {ch : Nat} (hs : SIM q w) (hz : q.2.2.2.2.2 = 1) :
    (tkI rg hd q ch = none ∧ mdS rg hd w ch = none) ∨ ∃ q' w', tkI rg hd q ch = some q' ∧ mdS rg hd w ch = some w' ∧ SIM q' w' := by
  obtain ⟨a, b, c, d, k, z⟩ := q
  obtain ⟨O, V, o, wh⟩ := w
  obtain ⟨f, r, hk, ho, h5, hT, h1, h2, h3, hO, hc⟩ := hs
  rcases hc with ⟨_, hw, h4, hV⟩ | ⟨hz0, _⟩
  · simp only at hk ho hT h1 h2 h3 h4 hO hV hw hz
    subst hk ho hw hz hV
    by_cases c1 : ch = 33
    · subst c1
      refine Or.inr ⟨_, _, rfl, rfl, (f.1, f.2.1, f.2.2.1, f.2.2.2 + 1), r, rfl, rfl, h5, relT_up r r.length (Nat.le_refl _) (fun j hj => ⟨rfl, rfl, rfl, uL_n _ _ (Nat.ne_of_lt hj)⟩) hT, h1, h2, ?_, ?_, Or.inl ⟨rfl, rfl, h4, rfl⟩⟩
      · show vp_updL d r.length (d r.length ^^^ -1) r.length = _
        rw [uL_s, h3, fl_n]
      · show 33 :: O = _
        rw [hO]; rfl
    by_cases c2 : ch = 40
    · subst c2
      by_cases h6 : r.length < 5
      · refine Or.inr ⟨bfF (a, b, c, d, r.length + 1, 1), (40 :: O, vF f ++ vT r, r.length + 1, 0), ?_, ?_, (none, none, none, 0), f :: r, rfl, rfl, h6, ?_, uL_s _ _ _, uL_s _ _ _, uL_s _ _ _, ?_, Or.inl ⟨rfl, rfl, uL_s _ _ _, rfl⟩⟩
        · show (if r.length < 5 then some _ else none) = _
          rw [if_pos h6]
        · show (if r.length = 5 then none else some _) = _
          rw [if_neg (by omega)]
        · refine relT_up (a := a) (b := b) (c := c) (d := d) (f :: r) (r.length + 1) (Nat.le_refl _) (fun j hj => ⟨uL_n _ _ (Nat.ne_of_lt hj), uL_n _ _ (Nat.ne_of_lt hj), uL_n _ _ (Nat.ne_of_lt hj), uL_n _ _ (Nat.ne_of_lt hj)⟩) ⟨⟨h1, h2, h4, h3⟩, hT⟩
        · show 40 :: O = oF (none, none, none, 0) ++ (40 :: (oF f ++ oT r))
          rw [hO]; rfl
      · refine Or.inl ⟨?_, ?_⟩
        · show (if r.length < 5 then some _ else none) = none
          rw [if_neg h6]
        · show (if r.length = 5 then none else some _) = none
          rw [if_pos (by omega)]
    by_cases c3 : ch = 48
    · subst c3; exact Or.inr ⟨_, _, rfl, rfl, sim_op 0 rfl h5 hT h1 h2 h3 h4 hO 1⟩
    by_cases c4 : ch = 49
    · subst c4; exact Or.inr ⟨_, _, rfl, rfl, sim_op (-1) rfl h5 hT h1 h2 h3 h4 hO 1⟩
    by_cases c5 : 97 ≤ ch ∧ ch ≤ 102
    · refine Or.inr ⟨_, _, ?_, ?_, sim_op (mk6 (ch - 97)) rfl h5 hT h1 h2 h3 h4 hO 1⟩
      · unfold tkI; rw [if_neg c1, if_neg c2, if_neg c3, if_neg c4, if_neg (by omega), if_neg (by omega)]
      · unfold mdS; rw [if_pos rfl, if_neg c1, if_neg c2, if_neg c3, if_neg c4, if_pos c5]
    have eI : tkI rg hd (a, b, c, d, r.length, 1) ch = (if ch < 65 then none else if 73 ≤ ch then none else if hd (ch - 65) = 0 then none else some (enF (a, b, c, d, r.length, 1) (rg (ch - 65)))) := by
      unfold tkI
      rw [if_neg c1, if_neg c2, if_neg c3, if_neg c4]
      by_cases c6 : ch < 97
      · rw [if_pos c6]
      · rw [if_neg c6, if_pos (by omega)]
    have eM : mdS rg hd (O, vF f ++ vT r, r.length, 0) ch = (if 65 ≤ ch ∧ ch ≤ 72 ∧ ¬ hd (ch - 65) = 0 then some (O, rg (ch - 65) :: (vF f ++ vT r), r.length, 1) else none) := by
      unfold mdS; rw [if_pos rfl, if_neg c1, if_neg c2, if_neg c3, if_neg c4, if_neg c5]
    rw [eI, eM]
    by_cases c7 : 65 ≤ ch ∧ ch ≤ 72 ∧ ¬ hd (ch - 65) = 0
    · rw [if_pos c7, if_neg (by omega), if_neg (by omega), if_neg c7.2.2]
      exact Or.inr ⟨_, _, rfl, rfl, sim_op (rg (ch - 65)) rfl h5 hT h1 h2 h3 h4 hO 1⟩
    · rw [if_neg c7]
      refine Or.inl ⟨?_, rfl⟩
      by_cases c8 : ch < 65
      · rw [if_pos c8]
      · rw [if_neg c8]
        by_cases c9 : 73 ≤ ch
        · rw [if_pos c9]
        · rw [if_neg c9, if_pos (Decidable.byContradiction (fun hh => c7 ⟨by omega, by omega, hh⟩))]
  · simp only at hz0 hz; omega
theorem simB {rg : Nat → Int64} {hd : Nat → Int32} {q : RS} {w : MS} {ch : Nat} (hs : SIM q w) (hz : q.2.2.2.2.2 = 0) :
    (tkB q ch = none ∧ mdS rg hd w ch = none) ∨ ∃ q' w', tkB q ch = some q' ∧ mdS rg hd w ch = some w' ∧ SIM q' w' := by
  obtain ⟨a, b, c, d, k, z⟩ := q
  obtain ⟨O, V, o, wh⟩ := w
  obtain ⟨f, r, hk, ho, h5, hT, h1, h2, h3, hO, hc⟩ := hs
  rcases hc with ⟨hz0, _⟩ | ⟨_, hw, y, h4, hV⟩
  · simp only at hz0 hz; omega
  · simp only at hk ho hT h1 h2 h3 h4 hO hV hw hz
    subst hk ho hw hz hV hO
    by_cases c1 : ch = 38
    · subst c1
      refine Or.inr ⟨_, (38 :: (oP f.2.1 ++ (oS f.1 ++ oT r)), (f.2.2.1.getD (-1) &&& (y ^^^ flN f.2.2.2)) :: (vO f.2.1 ++ (vO f.1 ++ vT r)), r.length, 0), rfl, ?_, (f.1, f.2.1, some (f.2.2.1.getD (-1) &&& (y ^^^ flN f.2.2.2)), 0), r, rfl, rfl, h5, relT_up r r.length (Nat.le_refl _) (fun j hj => ⟨rfl, rfl, rfl, uL_n _ _ (Nat.ne_of_lt hj)⟩) hT, h1, h2, uL_s _ _ _, ?_, Or.inl ⟨rfl, rfl, h4, ?_⟩⟩
      · show (rdO 3 (oF f ++ oT r) (y :: (vF f ++ vT r))).map (fun z => (38 :: z.1, z.2, r.length, 0)) = _
        rw [rd_3]; rfl
      · show 38 :: (oP f.2.1 ++ (oS f.1 ++ oT r)) = oF (f.1, f.2.1, some (f.2.2.1.getD (-1) &&& (y ^^^ flN f.2.2.2)), 0) ++ oT r
        rw [oF_a]; rfl
      · show _ = vF (f.1, f.2.1, some (f.2.2.1.getD (-1) &&& (y ^^^ flN f.2.2.2)), 0) ++ vT r
        rw [vF_a]; rfl
    by_cases c2 : ch = 41
    · subst c2
      cases r with
      | nil =>
        refine Or.inl ⟨rfl, ?_⟩
        unfold mdS
        rw [if_neg (show ¬ ((1 : Nat) = 0) by decide), if_neg (fun h => absurd (show (0 : Nat) < 0 from h.2) (by decide)), if_neg (by decide)]
      | cons f' r' =>
        obtain ⟨⟨g1, g2, g4, g3⟩, hT'⟩ := hT
        have hme : meF (a, b, c, d, (f' :: r').length, 0) = f.1.getD 0 ||| (f.2.1.getD 0 ^^^ (f.2.2.1.getD (-1) &&& (y ^^^ flN f.2.2.2))) := by
          show a (f' :: r').length ||| (b (f' :: r').length ^^^ c (f' :: r').length) = _
          rw [h1, h2, h4]
        refine Or.inr ⟨enF (a, b, c, d, r'.length, 0) (meF (a, b, c, d, (f' :: r').length, 0)), (oF f' ++ oT r', (f.1.getD 0 ||| (f.2.1.getD 0 ^^^ (f.2.2.1.getD (-1) &&& (y ^^^ flN f.2.2.2)))) :: (vF f' ++ vT r'), r'.length, 1), ?_, ?_, ?_⟩
        · show (if 0 < r'.length + 1 then some _ else none) = _
          rw [if_pos (by omega)]; rfl
        · unfold mdS
          rw [if_neg (show ¬ ((1 : Nat) = 0) by decide)]
          refine (if_pos (show 41 = 41 ∧ 0 < r'.length + 1 from ⟨rfl, by omega⟩)).trans ?_
          show (rdO 1 (oF f ++ oT (f' :: r')) (y :: (vF f ++ vT (f' :: r')))).map (fun z => (z.1.tail, z.2, r'.length + 1 - 1, 1)) = _
          rw [rd_1]; rfl
        · rw [hme]
          exact sim_op _ rfl (by simp only [List.length_cons] at h5; omega) hT' g1 g2 g3 g4 rfl 0
    by_cases c3 : ch = 94
    · subst c3
      refine Or.inr ⟨_, (94 :: (oS f.1 ++ oT r), (f.2.1.getD 0 ^^^ (f.2.2.1.getD (-1) &&& (y ^^^ flN f.2.2.2))) :: (vO f.1 ++ vT r), r.length, 0), rfl, ?_, (f.1, some (f.2.1.getD 0 ^^^ (f.2.2.1.getD (-1) &&& (y ^^^ flN f.2.2.2))), none, 0), r, rfl, rfl, h5, relT_up r r.length (Nat.le_refl _) (fun j hj => ⟨rfl, uL_n _ _ (Nat.ne_of_lt hj), uL_n _ _ (Nat.ne_of_lt hj), uL_n _ _ (Nat.ne_of_lt hj)⟩) hT, h1, ?_, uL_s _ _ _, ?_, Or.inl ⟨rfl, rfl, uL_s _ _ _, ?_⟩⟩
      · show (rdO 2 (oF f ++ oT r) (y :: (vF f ++ vT r))).map (fun z => (94 :: z.1, z.2, r.length, 0)) = _
        rw [rd_2]; rfl
      · show vp_updL b r.length (b r.length ^^^ c r.length) r.length = _
        rw [uL_s, h2, h4]; rfl
      · show 94 :: (oS f.1 ++ oT r) = oF (f.1, some (f.2.1.getD 0 ^^^ (f.2.2.1.getD (-1) &&& (y ^^^ flN f.2.2.2))), none, 0) ++ oT r
        rw [oF_a]; rfl
      · show _ = vF (f.1, some (f.2.1.getD 0 ^^^ (f.2.2.1.getD (-1) &&& (y ^^^ flN f.2.2.2))), none, 0) ++ vT r
        rw [vF_a]; rfl
    by_cases c4 : ch = 124
    · subst c4
      refine Or.inr ⟨_, (124 :: oT r, (f.1.getD 0 ||| (f.2.1.getD 0 ^^^ (f.2.2.1.getD (-1) &&& (y ^^^ flN f.2.2.2)))) :: vT r, r.length, 0), rfl, ?_, (some (f.1.getD 0 ||| (f.2.1.getD 0 ^^^ (f.2.2.1.getD (-1) &&& (y ^^^ flN f.2.2.2)))), none, none, 0), r, rfl, rfl, h5, relT_up r r.length (Nat.le_refl _) (fun j hj => ⟨uL_n _ _ (Nat.ne_of_lt hj), uL_n _ _ (Nat.ne_of_lt hj), uL_n _ _ (Nat.ne_of_lt hj), uL_n _ _ (Nat.ne_of_lt hj)⟩) hT, ?_, uL_s _ _ _, uL_s _ _ _, ?_, Or.inl ⟨rfl, rfl, uL_s _ _ _, ?_⟩⟩
      · show (rdO 1 (oF f ++ oT r) (y :: (vF f ++ vT r))).map (fun z => (124 :: z.1, z.2, r.length, 0)) = _
        rw [rd_1]; rfl
      · show vp_updL a r.length (a r.length ||| (b r.length ^^^ c r.length)) r.length = _
        rw [uL_s, h1, h2, h4]; rfl
      · show 124 :: oT r = oF (some (f.1.getD 0 ||| (f.2.1.getD 0 ^^^ (f.2.2.1.getD (-1) &&& (y ^^^ flN f.2.2.2)))), none, none, 0) ++ oT r
        rw [oF_a]; rfl
      · show _ = vF (some (f.1.getD 0 ||| (f.2.1.getD 0 ^^^ (f.2.2.1.getD (-1) &&& (y ^^^ flN f.2.2.2)))), none, none, 0) ++ vT r
        rw [vF_a]; rfl
    refine Or.inl ⟨?_, ?_⟩
    · unfold tkB; rw [if_neg c1, if_neg c2, if_neg c3, if_neg c4]
    · unfold mdS
      rw [if_neg (show ¬ ((1 : Nat) = 0) by decide), if_neg (fun h => c2 h.1), if_neg ?_]
      intro h
      unfold stN at h
      by_cases c5 : ch = 33
      · exact h.2 c5
      · rw [if_neg c5, if_neg c1, if_neg c3, if_neg c4] at h; omega
/-- both begin alike -/
theorem sim_0 (a b c d : Nat → Int64) : SIM (bfF (a, b, c, d, 0, 1)) ([], [], 0, 0) := by
  refine ⟨(none, none, none, 0), [], rfl, rfl, by decide, trivial, ?_, ?_, ?_, rfl, Or.inl ⟨rfl, rfl, ?_, rfl⟩⟩
  · exact uL_s a 0 0
  · exact uL_s b 0 0
  · exact uL_s d 0 0
  · exact uL_s c 0 (-1)
/-- both end alike -/
theorem sim_end {q : RS} {w : MS} (hs : SIM q w) (hz : q.2.2.2.2.2 = 0) (hk : q.2.2.2.2.1 = 0) : rdO 1 w.1 w.2.1 = some ([], [meF q]) := by
  obtain ⟨a, b, c, d, k, z⟩ := q
  obtain ⟨O, V, o, wh⟩ := w
  obtain ⟨f, r, hk', ho, h5, hT, h1, h2, h3, hO, hc⟩ := hs
  rcases hc with ⟨hz0, _⟩ | ⟨_, hw, y, h4, hV⟩
  · simp only at hz0 hz; omega
  · simp only at hk' hk ho hT h1 h2 h3 h4 hO hV hw hz
    subst hk
    have hr : r = [] := List.eq_nil_of_length_eq_zero hk'.symm
    subst hr
    show rdO 1 O V = _
    rw [hO, hV, rd_1]
    show some ([], [_]) = some ([], [a 0 ||| (b 0 ^^^ c 0)])
    rw [show a 0 = f.1.getD 0 from h1, show b 0 = f.2.1.getD 0 from h2, show c 0 = _ from h4]
