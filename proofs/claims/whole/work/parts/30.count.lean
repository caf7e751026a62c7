/-! Counting nodes: what the class's lists hold, and that the limit of 64 is never met. -/
theorem nd_sub : ∀ (l1 l2 : List Int64), l1.Nodup → (∀ x, x ∈ l1 → x ∈ l2) → l1.length ≤ l2.length
  | [], _, _, _ => Nat.zero_le _
  | a :: r, l2, hn, hs => by
    have ha : a ∈ l2 := hs a List.mem_cons_self
    have hr := (List.nodup_cons.mp hn)
    have h1 := nd_sub r (l2.erase a) hr.2 (fun x hx => (List.mem_erase_of_ne (fun e => hr.1 (by rw [← e]; exact hx))).mpr (hs x (List.mem_cons_of_mem _ hx)))
    have h2 := List.length_erase_of_mem ha
    have h3 := List.length_pos_of_mem ha
    show r.length + 1 ≤ l2.length
    omega
theorem nd_subN : ∀ (l1 l2 : List Nat), l1.Nodup → (∀ x, x ∈ l1 → x ∈ l2) → l1.length ≤ l2.length
  | [], _, _, _ => Nat.zero_le _
  | a :: r, l2, hn, hs => by
    have ha : a ∈ l2 := hs a List.mem_cons_self
    have hr := (List.nodup_cons.mp hn)
    have h1 := nd_subN r (l2.erase a) hr.2 (fun x hx => (List.mem_erase_of_ne (fun e => hr.1 (by rw [← e]; exact hx))).mpr (hs x (List.mem_cons_of_mem _ hx)))
    have h2 := List.length_erase_of_mem ha
    have h3 := List.length_pos_of_mem ha
    show r.length + 1 ≤ l2.length
    omega
theorem nd_len {l1 l2 : List Int64} (h1 : l1.Nodup) (h2 : l2.Nodup) (h : ∀ x, x ∈ l1 ↔ x ∈ l2) : l1.length = l2.length :=
  Nat.le_antisymm (nd_sub l1 l2 h1 (fun x hx => (h x).mp hx)) (nd_sub l2 l1 h2 (fun x hx => (h x).mpr hx))
/-- the lists without a limit -/
def adU (L : List Int64) (t : Int64) : List Int64 := if t ∈ L then L else L ++ [t]
def brU (v : Nat) : List Int64 → List Int64 → List Int64
  | A, [] => A
  | A, t :: r => brU v (if W0 t v = W1 t v then adU A (W0 t v) else adU (adU A (W0 t v)) (W1 t v)) r
def lvU (od : Nat → Nat) (L : List Int64) : Nat → List Int64
  | 0 => L
  | i + 1 => brU (od i) [] (lvU od L i)
theorem adU_ge (L : List Int64) (t : Int64) : L.length ≤ (adU L t).length := by
  unfold adU; split
  · exact Nat.le_refl _
  · rw [List.length_append]; omega
theorem adU_le (L : List Int64) (t : Int64) : (adU L t).length ≤ L.length + 1 := by
  unfold adU; split
  · omega
  · rw [List.length_append]; simp
theorem adL_U {L : List Int64} {t : Int64} (h : (adU L t).length ≤ 64) : adL L t = adU L t := by
  unfold adU at h
  unfold adL adU
  by_cases hm : t ∈ L
  · rw [if_pos hm, if_pos hm]
  · rw [if_neg hm, List.length_append, List.length_singleton] at h
    rw [if_neg hm, if_neg hm, if_pos (by omega)]
theorem adU_mem {L : List Int64} {t x : Int64} : x ∈ adU L t ↔ x ∈ L ∨ x = t := by
  unfold adU
  by_cases hm : t ∈ L
  · rw [if_pos hm]
    constructor
    · exact Or.inl
    · intro h
      rcases h with h | h
      · exact h
      · rw [h]; exact hm
  · rw [if_neg hm, List.mem_append, List.mem_singleton]
theorem adU_nd {L : List Int64} {t : Int64} (h : L.Nodup) : (adU L t).Nodup := by
  unfold adU
  by_cases hm : t ∈ L
  · rw [if_pos hm]; exact h
  · rw [if_neg hm, List.nodup_append]
    refine ⟨h, by simp, ?_⟩
    intro a ha b hb e
    rw [List.mem_singleton] at hb
    exact hm (by rw [← hb, ← e]; exact ha)
theorem brU_ge (v : Nat) : ∀ (L A : List Int64), A.length ≤ (brU v A L).length
  | [], _ => Nat.le_refl _
  | t :: r, A => by
    refine Nat.le_trans ?_ (brU_ge v r _)
    split
    · exact adU_ge _ _
    · exact Nat.le_trans (adU_ge _ _) (adU_ge _ _)
theorem brU_le (v : Nat) : ∀ (L A : List Int64), (brU v A L).length ≤ A.length + 2 * L.length
  | [], _ => Nat.le_refl _
  | t :: r, A => by
    have h1 := brU_le v r (if W0 t v = W1 t v then adU A (W0 t v) else adU (adU A (W0 t v)) (W1 t v))
    have h2 : (if W0 t v = W1 t v then adU A (W0 t v) else adU (adU A (W0 t v)) (W1 t v)).length ≤ A.length + 2 := by
      split
      · have := adU_le A (W0 t v); omega
      · have := adU_le A (W0 t v); have := adU_le (adU A (W0 t v)) (W1 t v); omega
    show (brU v (if W0 t v = W1 t v then adU A (W0 t v) else adU (adU A (W0 t v)) (W1 t v)) r).length ≤ A.length + 2 * (r.length + 1)
    omega
theorem brL_U (v : Nat) : ∀ (L A : List Int64), (brU v A L).length ≤ 64 → brL v A L = brU v A L
  | [], _, _ => rfl
  | t :: r, A, h => by
    have h : (brU v (if W0 t v = W1 t v then adU A (W0 t v) else adU (adU A (W0 t v)) (W1 t v)) r).length ≤ 64 := h
    have h1 := Nat.le_trans (brU_ge v r _) h
    show brL v (if W0 t v = W1 t v then adL A (W0 t v) else adL (adL A (W0 t v)) (W1 t v)) r = brU v (if W0 t v = W1 t v then adU A (W0 t v) else adU (adU A (W0 t v)) (W1 t v)) r
    have e : (if W0 t v = W1 t v then adL A (W0 t v) else adL (adL A (W0 t v)) (W1 t v)) = (if W0 t v = W1 t v then adU A (W0 t v) else adU (adU A (W0 t v)) (W1 t v)) := by
      by_cases hz : W0 t v = W1 t v
      · rw [if_pos hz] at h1; rw [if_pos hz, if_pos hz, adL_U h1]
      · rw [if_neg hz] at h1; rw [if_neg hz, if_neg hz, adL_U (Nat.le_trans (adU_ge _ _) h1), adL_U h1]
    rw [e]
    exact brL_U v r _ h
theorem brU_mem (v : Nat) {x : Int64} : ∀ (L A : List Int64), x ∈ brU v A L ↔ x ∈ A ∨ ∃ t, t ∈ L ∧ (x = W0 t v ∨ x = W1 t v)
  | [], A => by
    constructor
    · exact Or.inl
    · intro h
      rcases h with h | ⟨t, ht, _⟩
      · exact h
      · exact absurd ht List.not_mem_nil
  | t :: r, A => by
    show x ∈ brU v (if W0 t v = W1 t v then adU A (W0 t v) else adU (adU A (W0 t v)) (W1 t v)) r ↔ _
    rw [brU_mem v r]
    have e : x ∈ (if W0 t v = W1 t v then adU A (W0 t v) else adU (adU A (W0 t v)) (W1 t v)) ↔ x ∈ A ∨ (x = W0 t v ∨ x = W1 t v) := by
      by_cases hz : W0 t v = W1 t v
      · rw [if_pos hz, adU_mem, ← hz, or_self]
      · rw [if_neg hz, adU_mem, adU_mem, or_assoc]
    rw [e]
    constructor
    · intro h
      rcases h with (h | h) | ⟨s, hs, h⟩
      · exact Or.inl h
      · exact Or.inr ⟨t, List.mem_cons_self, h⟩
      · exact Or.inr ⟨s, List.mem_cons_of_mem _ hs, h⟩
    · intro h
      rcases h with h | ⟨s, hs, h⟩
      · exact Or.inl (Or.inl h)
      · rcases List.mem_cons.mp hs with hs | hs
        · subst hs; exact Or.inl (Or.inr h)
        · exact Or.inr ⟨s, hs, h⟩
theorem brU_nd (v : Nat) : ∀ (L A : List Int64), A.Nodup → (brU v A L).Nodup
  | [], _, h => h
  | t :: r, A, h => by
    refine brU_nd v r _ ?_
    split
    · exact adU_nd h
    · exact adU_nd (adU_nd h)
theorem lvU_nd {od : Nat → Nat} {L : List Int64} (h : L.Nodup) : ∀ i, (lvU od L i).Nodup
  | 0 => h
  | i + 1 => brU_nd _ _ _ List.nodup_nil
/-- what s becomes when the variables of the first i levels get the bits of ch -/
def cf (od : Nat → Nat) (ch : Nat) (s : Int64) : Nat → Int64
  | 0 => s
  | i + 1 => if ch.testBit i = true then W1 (cf od ch s i) (od i) else W0 (cf od ch s i) (od i)
theorem cf_bits {od : Nat → Nat} {ch ch' : Nat} {s : Int64} : ∀ i, (∀ j, j < i → ch.testBit j = ch'.testBit j) → cf od ch s i = cf od ch' s i
  | 0, _ => rfl
  | i + 1, h => by
    show (if ch.testBit i = true then W1 (cf od ch s i) (od i) else W0 (cf od ch s i) (od i)) = (if ch'.testBit i = true then W1 (cf od ch' s i) (od i) else W0 (cf od ch' s i) (od i))
    rw [h i (by omega), cf_bits i (fun j hj => h j (by omega))]
theorem lvU_mem {od : Nat → Nat} {L : List Int64} : ∀ (i : Nat) (x : Int64), x ∈ lvU od L i ↔ ∃ s, s ∈ L ∧ ∃ ch, ch < 2 ^ i ∧ x = cf od ch s i
  | 0, x => by
    constructor
    · intro h; exact ⟨x, h, 0, by decide, rfl⟩
    · rintro ⟨s, hs, ch, _, e⟩
      have e : x = s := e
      rw [e]; exact hs
  | i + 1, x => by
    show x ∈ brU (od i) [] (lvU od L i) ↔ _
    rw [brU_mem]
    constructor
    · intro h
      rcases h with h | ⟨t, ht, h⟩
      · exact absurd h List.not_mem_nil
      · obtain ⟨s, hs, ch, hc, e⟩ := (lvU_mem i t).mp ht
        subst e
        rcases h with h | h
        · refine ⟨s, hs, ch, by rw [Nat.pow_succ]; omega, ?_⟩
          show x = if ch.testBit i = true then W1 (cf od ch s i) (od i) else W0 (cf od ch s i) (od i)
          rw [Nat.testBit_lt_two_pow hc, if_neg (by decide)]; exact h
        · refine ⟨s, hs, 2 ^ i + ch, by rw [Nat.pow_succ]; omega, ?_⟩
          show x = if (2 ^ i + ch).testBit i = true then W1 (cf od (2 ^ i + ch) s i) (od i) else W0 (cf od (2 ^ i + ch) s i) (od i)
          rw [Nat.testBit_two_pow_add_eq, Nat.testBit_lt_two_pow hc, if_pos (show (!false) = true from rfl), cf_bits (ch' := ch) i (fun j hj => Nat.testBit_two_pow_add_gt hj ch)]; exact h
    · rintro ⟨s, hs, ch, hc, e⟩
      refine Or.inr ⟨cf od ch s i, (lvU_mem i _).mpr ⟨s, hs, ch % 2 ^ i, Nat.mod_lt _ (Nat.two_pow_pos i), cf_bits i (fun j hj => by rw [Nat.testBit_mod_two_pow]; simp [hj])⟩, ?_⟩
      have e : x = if ch.testBit i = true then W1 (cf od ch s i) (od i) else W0 (cf od ch s i) (od i) := e
      by_cases hb : ch.testBit i = true
      · rw [if_pos hb] at e; exact Or.inr e
      · rw [if_neg hb] at e; exact Or.inl e
/-! functions that don't depend on a variable -/
def clr (v i : Nat) : Nat := i ^^^ (i &&& 2 ^ (5 - v))
def sup (v i : Nat) : Nat := i ||| 2 ^ (5 - v)
theorem bx_s : ∀ v, v < 6 → ∀ i, i < 64 → clr v (sup v i) = clr v (clr v i) ∧ sup v (sup v i) = sup v (clr v i) ∧ clr v i < 64 ∧ sup v i < 64 ∧ (clr v i = i ∨ sup v i = i) := by decide +kernel
theorem bx_d0 : ∀ u, u < 6 → ∀ v, v < 6 → ∀ i, i < 64 → u = v ∨ (clr v (sup u i) = sup u (clr v i) ∧ clr v (clr u i) = clr u (clr v i) ∧ sup v (sup u i) = sup u (sup v i) ∧ sup v (clr u i) = clr u (sup v i)) := by decide +kernel
theorem bx_d : ∀ u, u < 6 → ∀ v, v < 6 → ¬ u = v → ∀ i, i < 64 → clr v (sup u i) = sup u (clr v i) ∧ clr v (clr u i) = clr u (clr v i) ∧ sup v (sup u i) = sup u (sup v i) ∧ sup v (clr u i) = clr u (sup v i) := fun u hu v hv hn i hi => (bx_d0 u hu v hv i hi).resolve_left hn
theorem bw_1 {t : Int64} {v i : Nat} (hv : v < 6) (hi : i < 64) : bt (W1 t v) i = bt t (sup v i) := bt_W1 hv hi
theorem bw_0 {t : Int64} {v i : Nat} (hv : v < 6) (hi : i < 64) : bt (W0 t v) i = bt t (clr v i) := bt_W0 hv hi
theorem ind_b {t : Int64} {v : Nat} (hv : v < 6) : W0 t v = W1 t v ↔ ∀ i, i < 64 → bt t (clr v i) = bt t (sup v i) := by
  constructor
  · intro h i hi; rw [← bw_0 hv hi, ← bw_1 hv hi, h]
  · intro h; exact bt_ext (fun i hi => by rw [bw_0 hv hi, bw_1 hv hi]; exact h i hi)
theorem ind_clr {t : Int64} {v i : Nat} (hv : v < 6) (hi : i < 64) (h : W0 t v = W1 t v) : bt t i = bt t (clr v i) := by
  rcases (bx_s v hv i hi).2.2.2.2 with e | e
  · rw [e]
  · have := (ind_b hv).mp h i hi
    rw [e] at this; exact this.symm
theorem ind_s {t : Int64} {v : Nat} (hv : v < 6) : W0 (W0 t v) v = W1 (W0 t v) v ∧ W0 (W1 t v) v = W1 (W1 t v) v := by
  refine ⟨(ind_b hv).mpr (fun i hi => ?_), (ind_b hv).mpr (fun i hi => ?_)⟩
  · have hx := bx_s v hv i hi
    rw [bw_0 hv hx.2.2.1, bw_0 hv hx.2.2.2.1, hx.1]
  · have hx := bx_s v hv i hi
    rw [bw_1 hv hx.2.2.1, bw_1 hv hx.2.2.2.1, hx.2.1]
theorem ind_d {t : Int64} {u v : Nat} (hu : u < 6) (hv : v < 6) (hn : ¬ u = v) (h : W0 t u = W1 t u) : W0 (W0 t v) u = W1 (W0 t v) u ∧ W0 (W1 t v) u = W1 (W1 t v) u := by
  refine ⟨(ind_b hu).mpr (fun i hi => ?_), (ind_b hu).mpr (fun i hi => ?_)⟩
  · have hx := bx_s u hu i hi; have hd := bx_d u hu v hv hn i hi
    rw [bw_0 hv hx.2.2.1, bw_0 hv hx.2.2.2.1, hd.1, hd.2.1]
    exact (ind_b hu).mp h _ (bx_s v hv i hi).2.2.1
  · have hx := bx_s u hu i hi; have hd := bx_d u hu v hv hn i hi
    rw [bw_1 hv hx.2.2.1, bw_1 hv hx.2.2.2.1, hd.2.2.1, hd.2.2.2]
    exact (ind_b hu).mp h _ (bx_s v hv i hi).2.2.2.1
/-- an order of the six variables -/
def isO (od : Nat → Nat) : Prop := (∀ i, i < 6 → od i < 6) ∧ ∀ i, i < 6 → ∀ j, j < 6 → od i = od j → i = j
theorem cf_ind {od : Nat → Nat} (ho : isO od) {ch : Nat} {s : Int64} : ∀ i, i ≤ 6 → ∀ j, j < i → W0 (cf od ch s i) (od j) = W1 (cf od ch s i) (od j)
  | 0, _, j, hj => absurd hj (Nat.not_lt_zero j)
  | i + 1, hi, j, hj => by
    show W0 (if ch.testBit i = true then W1 (cf od ch s i) (od i) else W0 (cf od ch s i) (od i)) (od j) = W1 (if ch.testBit i = true then W1 (cf od ch s i) (od i) else W0 (cf od ch s i) (od i)) (od j)
    by_cases he : j = i
    · subst he
      have hs := ind_s (t := cf od ch s j) (ho.1 j (by omega))
      split
      · exact hs.2
      · exact hs.1
    · have hd := ind_d (t := cf od ch s i) (ho.1 j (by omega)) (ho.1 i (by omega)) (fun e => he (ho.2 j (by omega) i (by omega) e)) (cf_ind ho i (by omega) j (by omega))
      split
      · exact hd.2
      · exact hd.1
def ck6 (p : Nat → Bool) : Bool := (List.range 6).all p
theorem ck6_at {p : Nat → Bool} (h : ck6 p = true) {a : Nat} (ha : a < 6) : p a = true := List.all_eq_true.mp h a (List.mem_range.mpr ha)
theorem or_r {x y : Bool} (h : (x || y) = true) (hx : x = false) : y = true := by rw [hx] at h; exact h
theorem beq_f {a b : Nat} (h : ¬ a = b) : (a == b) = false := by simp [h]
theorem ck4 : ck6 (fun a => ck6 (fun b => (b == a) || ck6 (fun c => (c == a) || ((c == b) || ck6 (fun d => (d == a) || ((d == b) || ((d == c) || ck6 (fun e => (e == a) || ((e == b) || ((e == c) || ((e == d) || ck6 (fun f => (f == a) || ((f == b) || ((f == c) || ((f == d) || ((f == e) || (List.range 64).all (fun i => decide (clr d (clr c (clr b (clr a i))) = 0 ∨ clr d (clr c (clr b (clr a i))) = 2 ^ (5 - e) ∨ clr d (clr c (clr b (clr a i))) = 2 ^ (5 - f) ∨ clr d (clr c (clr b (clr a i))) = 2 ^ (5 - e) + 2 ^ (5 - f))))))))))))))))))) = true := by decide +kernel
theorem clr4 : ∀ a, a < 6 → ∀ b, b < 6 → ¬ b = a → ∀ c, c < 6 → ¬ c = a → ¬ c = b → ∀ d, d < 6 → ¬ d = a → ¬ d = b → ¬ d = c → ∀ e, e < 6 → ¬ e = a → ¬ e = b → ¬ e = c → ¬ e = d → ∀ f, f < 6 → ¬ f = a → ¬ f = b → ¬ f = c → ¬ f = d → ¬ f = e → ∀ i, i < 64 → clr d (clr c (clr b (clr a i))) = 0 ∨ clr d (clr c (clr b (clr a i))) = 2 ^ (5 - e) ∨ clr d (clr c (clr b (clr a i))) = 2 ^ (5 - f) ∨ clr d (clr c (clr b (clr a i))) = 2 ^ (5 - e) + 2 ^ (5 - f) := by
  intro a ha b hb ba c hc ca cb d hd da db dc e he ea eb ec ed f hf fa fb fc fd fe i hi
  have h1 := or_r (ck6_at (ck6_at ck4 ha) hb) (beq_f ba)
  have h2 := or_r (or_r (ck6_at h1 hc) (beq_f ca)) (beq_f cb)
  have h3 := or_r (or_r (or_r (ck6_at h2 hd) (beq_f da)) (beq_f db)) (beq_f dc)
  have h4 := or_r (or_r (or_r (or_r (ck6_at h3 he) (beq_f ea)) (beq_f eb)) (beq_f ec)) (beq_f ed)
  have h5 := or_r (or_r (or_r (or_r (or_r (ck6_at h4 hf) (beq_f fa)) (beq_f fb)) (beq_f fc)) (beq_f fd)) (beq_f fe)
  exact of_decide_eq_true (List.all_eq_true.mp h5 i (List.mem_range.mpr hi))
theorem clr_lt : ∀ v, v < 6 → ∀ i, i < 64 → clr v i < 64 := by decide +kernel
/-- a function of the last two variables is known by four bits -/
def key4 (p q : Nat) (t : Int64) : Nat := (if bt t 0 = true then 1 else 0) + (if bt t p = true then 2 else 0) + (if bt t q = true then 4 else 0) + (if bt t (p + q) = true then 8 else 0)
theorem key4_lt (p q : Nat) (t : Int64) : key4 p q t < 16 := by unfold key4; repeat' split
                                                                all_goals omega
theorem key4_eq {p q : Nat} {t t' : Int64} (h : key4 p q t = key4 p q t') : bt t 0 = bt t' 0 ∧ bt t p = bt t' p ∧ bt t q = bt t' q ∧ bt t (p + q) = bt t' (p + q) := by
  unfold key4 at h
  revert h
  cases bt t 0 <;> cases bt t p <;> cases bt t q <;> cases bt t (p + q) <;> cases bt t' 0 <;> cases bt t' p <;> cases bt t' q <;> cases bt t' (p + q) <;> decide
theorem key4_in {od : Nat → Nat} (ho : isO od) {t t' : Int64} (ht : ∀ j, j < 4 → W0 t (od j) = W1 t (od j)) (ht' : ∀ j, j < 4 → W0 t' (od j) = W1 t' (od j)) (h : key4 (2 ^ (5 - od 4)) (2 ^ (5 - od 5)) t = key4 (2 ^ (5 - od 4)) (2 ^ (5 - od 5)) t') : t = t' := by
  obtain ⟨k0, k1, k2, k3⟩ := key4_eq h
  have ne : ∀ i, i < 6 → ∀ j, j < 6 → ¬ i = j → ¬ od i = od j := fun i hi j hj hn e => hn (ho.2 i hi j hj e)
  have lt := ho.1
  apply bt_ext
  intro i hi
  have h1 := clr_lt (od 0) (lt 0 (by decide)) i hi
  have h2 := clr_lt (od 1) (lt 1 (by decide)) _ h1
  have h3 := clr_lt (od 2) (lt 2 (by decide)) _ h2
  rw [ind_clr (lt 0 (by decide)) hi (ht 0 (by decide)), ind_clr (lt 1 (by decide)) h1 (ht 1 (by decide)), ind_clr (lt 2 (by decide)) h2 (ht 2 (by decide)), ind_clr (lt 3 (by decide)) h3 (ht 3 (by decide))]
  rw [ind_clr (t := t') (lt 0 (by decide)) hi (ht' 0 (by decide)), ind_clr (t := t') (lt 1 (by decide)) h1 (ht' 1 (by decide)), ind_clr (t := t') (lt 2 (by decide)) h2 (ht' 2 (by decide)), ind_clr (t := t') (lt 3 (by decide)) h3 (ht' 3 (by decide))]
  have n := fun (i j : Nat) (hi : i < 6) (hj : j < 6) (hn : ¬ i = j) => ne i hi j hj hn
  rcases clr4 (od 0) (lt 0 (by decide)) (od 1) (lt 1 (by decide)) (n 1 0 (by decide) (by decide) (by decide)) (od 2) (lt 2 (by decide)) (n 2 0 (by decide) (by decide) (by decide)) (n 2 1 (by decide) (by decide) (by decide)) (od 3) (lt 3 (by decide)) (n 3 0 (by decide) (by decide) (by decide)) (n 3 1 (by decide) (by decide) (by decide)) (n 3 2 (by decide) (by decide) (by decide)) (od 4) (lt 4 (by decide)) (n 4 0 (by decide) (by decide) (by decide)) (n 4 1 (by decide) (by decide) (by decide)) (n 4 2 (by decide) (by decide) (by decide)) (n 4 3 (by decide) (by decide) (by decide)) (od 5) (lt 5 (by decide)) (n 5 0 (by decide) (by decide) (by decide)) (n 5 1 (by decide) (by decide) (by decide)) (n 5 2 (by decide) (by decide) (by decide)) (n 5 3 (by decide) (by decide) (by decide)) (n 5 4 (by decide) (by decide) (by decide)) i hi with e | e | e | e
  · rw [e]; exact k0
  · rw [e]; exact k1
  · rw [e]; exact k2
  · rw [e]; exact k3
theorem few16 {od : Nat → Nat} (ho : isO od) {M : List Int64} (hn : M.Nodup) (hM : ∀ t, t ∈ M → ∀ j, j < 4 → W0 t (od j) = W1 t (od j)) : M.length ≤ 16 := by
  have h1 : (M.map (key4 (2 ^ (5 - od 4)) (2 ^ (5 - od 5)))).Nodup := by
    unfold List.Nodup
    rw [List.pairwise_map]
    exact List.Pairwise.imp_of_mem (fun {a b} ha hb hab e => hab (key4_in ho (hM a ha) (hM b hb) e)) hn
  have h2 := nd_subN _ (List.range 16) h1 (fun x hx => by
    obtain ⟨t, _, e⟩ := List.mem_map.mp hx
    rw [← e]; exact List.mem_range.mpr (key4_lt _ _ _))
  rw [List.length_map, List.length_range] at h2
  exact h2
theorem lvU_few {od : Nat → Nat} (ho : isO od) {L : List Int64} (h8 : L.length ≤ 8) (hn : L.Nodup) : ∀ i, i ≤ 6 → (lvU od L i).length ≤ 64 := by
  intro i hi
  by_cases h3 : i ≤ 3
  · have step : ∀ j, (lvU od L j).length ≤ 8 * 2 ^ j := by
      intro j
      induction j with
      | zero => exact h8
      | succ j ih =>
        have := brU_le (od j) (lvU od L j) []
        show (brU (od j) [] (lvU od L j)).length ≤ 8 * 2 ^ (j + 1)
        rw [Nat.pow_succ]
        simp only [List.length_nil] at this
        omega
    refine Nat.le_trans (step i) ?_
    have : 2 ^ i ≤ 2 ^ 3 := Nat.pow_le_pow_right (by decide) h3
    omega
  · refine Nat.le_trans (few16 ho (lvU_nd hn i) (fun t ht j hj => ?_)) (by decide)
    obtain ⟨s, _, ch, _, e⟩ := (lvU_mem i t).mp ht
    rw [e]
    exact cf_ind ho i hi j (by omega)
theorem lvL_U {od : Nat → Nat} (ho : isO od) {L : List Int64} (h8 : L.length ≤ 8) (hn : L.Nodup) : ∀ i, i ≤ 6 → lvL od L i = lvU od L i
  | 0, _ => rfl
  | i + 1, hi => by
    show brL (od i) [] (lvL od L i) = brU (od i) [] (lvU od L i)
    rw [lvL_U ho h8 hn i (by omega)]
    exact brL_U _ _ _ (lvU_few ho h8 hn (i + 1) hi)
/-! the reference's lists -/
def dpB (v : Nat) (t : Int64) : Bool := decide (¬ W0 t v = W1 t v)
theorem brC_f (v : Nat) : ∀ L : List Int64, brC v L = (L.filter (dpB v)).length
  | [] => rfl
  | t :: r => by
    show (if W0 t v = W1 t v then 0 else 1) + brC v r = ((t :: r).filter (dpB v)).length
    rw [brC_f v r]
    by_cases h : W0 t v = W1 t v
    · rw [if_pos h, List.filter_cons_of_neg (by unfold dpB; simp [h])]; omega
    · rw [if_neg h, List.filter_cons_of_pos (by unfold dpB; simp [h]), List.length_cons]; omega
/-- what is found of one function on a level, n choices looked at -/
def faL (od : Nat → Nat) (lev : Nat) (s : Int64) (F : List Int64) : Nat → List Int64
  | 0 => F
  | c + 1 => if W0 (cf od c s lev) (od lev) = W1 (cf od c s lev) (od lev) then faL od lev s F c else adU (faL od lev s F c) (cf od c s lev)
/-- .. of the first n registers -/
def woL (od : Nat → Nat) (lev : Nat) (rg : Nat → Int64) (hd : Nat → Int32) : Nat → List Int64
  | 0 => []
  | r + 1 => if hd r = 0 then woL od lev rg hd r else faL od lev (rg r) (woL od lev rg hd r) (2 ^ lev)
def alL (od : Nat → Nat) (rg : Nat → Int64) (hd : Nat → Int32) : Nat → Nat
  | 0 => 0
  | l + 1 => alL od rg hd l + (woL od l rg hd 8).length
def szL (od : Nat → Nat) (s : Int64) : Nat → Nat
  | 0 => 0
  | l + 1 => szL od s l + (faL od l s [] (2 ^ l)).length
theorem faL_nd {od : Nat → Nat} {lev : Nat} {s : Int64} {F : List Int64} (h : F.Nodup) : ∀ n, (faL od lev s F n).Nodup
  | 0 => h
  | n + 1 => by
    show (if W0 (cf od n s lev) (od lev) = W1 (cf od n s lev) (od lev) then faL od lev s F n else adU (faL od lev s F n) (cf od n s lev)).Nodup
    split
    · exact faL_nd h n
    · exact adU_nd (faL_nd h n)
theorem faL_le {od : Nat → Nat} {lev : Nat} {s : Int64} {F : List Int64} : ∀ n, (faL od lev s F n).length ≤ F.length + n
  | 0 => Nat.le_refl _
  | n + 1 => by
    have h := faL_le (od := od) (lev := lev) (s := s) (F := F) n
    show (if W0 (cf od n s lev) (od lev) = W1 (cf od n s lev) (od lev) then faL od lev s F n else adU (faL od lev s F n) (cf od n s lev)).length ≤ F.length + (n + 1)
    split
    · omega
    · have := adU_le (faL od lev s F n) (cf od n s lev); omega
theorem faL_mem {od : Nat → Nat} {lev : Nat} {s : Int64} {F : List Int64} {x : Int64} : ∀ n, x ∈ faL od lev s F n ↔ x ∈ F ∨ ∃ c, c < n ∧ x = cf od c s lev ∧ ¬ W0 x (od lev) = W1 x (od lev)
  | 0 => by
    constructor
    · exact Or.inl
    · intro h
      rcases h with h | ⟨c, hc, _⟩
      · exact h
      · omega
  | n + 1 => by
    have ih := faL_mem (od := od) (lev := lev) (s := s) (F := F) (x := x) n
    show x ∈ (if W0 (cf od n s lev) (od lev) = W1 (cf od n s lev) (od lev) then faL od lev s F n else adU (faL od lev s F n) (cf od n s lev)) ↔ _
    by_cases hz : W0 (cf od n s lev) (od lev) = W1 (cf od n s lev) (od lev)
    · rw [if_pos hz, ih]
      constructor
      · intro h
        rcases h with h | ⟨c, hc, h⟩
        · exact Or.inl h
        · exact Or.inr ⟨c, by omega, h⟩
      · intro h
        rcases h with h | ⟨c, hc, e, h⟩
        · exact Or.inl h
        · by_cases hcn : c = n
          · subst hcn; rw [e] at h; exact absurd hz h
          · exact Or.inr ⟨c, by omega, e, h⟩
    · rw [if_neg hz, adU_mem, ih]
      constructor
      · intro h
        rcases h with (h | ⟨c, hc, h⟩) | h
        · exact Or.inl h
        · exact Or.inr ⟨c, by omega, h⟩
        · exact Or.inr ⟨n, by omega, h, by rw [h]; exact hz⟩
      · intro h
        rcases h with h | ⟨c, hc, e, h⟩
        · exact Or.inl (Or.inl h)
        · by_cases hcn : c = n
          · subst hcn; exact Or.inr e
          · exact Or.inl (Or.inr ⟨c, by omega, e, h⟩)
theorem woL_nd {od : Nat → Nat} {lev : Nat} {rg : Nat → Int64} {hd : Nat → Int32} : ∀ n, (woL od lev rg hd n).Nodup
  | 0 => List.nodup_nil
  | n + 1 => by
    show (if hd n = 0 then woL od lev rg hd n else faL od lev (rg n) (woL od lev rg hd n) (2 ^ lev)).Nodup
    split
    · exact woL_nd n
    · exact faL_nd (woL_nd n) _
theorem woL_le {od : Nat → Nat} {lev : Nat} {rg : Nat → Int64} {hd : Nat → Int32} : ∀ n, (woL od lev rg hd n).length ≤ n * 2 ^ lev
  | 0 => Nat.zero_le _
  | n + 1 => by
    have h := woL_le (od := od) (lev := lev) (rg := rg) (hd := hd) n
    show (if hd n = 0 then woL od lev rg hd n else faL od lev (rg n) (woL od lev rg hd n) (2 ^ lev)).length ≤ (n + 1) * 2 ^ lev
    rw [Nat.succ_mul]
    have h2 := faL_le (od := od) (lev := lev) (s := rg n) (F := woL od lev rg hd n) (2 ^ lev)
    generalize hP : 2 ^ lev = P at *
    split <;> omega
theorem woL_mem {od : Nat → Nat} {lev : Nat} {rg : Nat → Int64} {hd : Nat → Int32} {x : Int64} : ∀ n, x ∈ woL od lev rg hd n ↔ ∃ r, r < n ∧ ¬ hd r = 0 ∧ ∃ c, c < 2 ^ lev ∧ x = cf od c (rg r) lev ∧ ¬ W0 x (od lev) = W1 x (od lev)
  | 0 => by
    constructor
    · intro h; exact absurd h List.not_mem_nil
    · rintro ⟨r, hr, _⟩; omega
  | n + 1 => by
    have ih := woL_mem (od := od) (lev := lev) (rg := rg) (hd := hd) (x := x) n
    show x ∈ (if hd n = 0 then woL od lev rg hd n else faL od lev (rg n) (woL od lev rg hd n) (2 ^ lev)) ↔ _
    by_cases hz : hd n = 0
    · rw [if_pos hz, ih]
      constructor
      · rintro ⟨r, hr, h⟩; exact ⟨r, by omega, h⟩
      · rintro ⟨r, hr, h1, h⟩
        by_cases he : r = n
        · subst he; exact absurd hz h1
        · exact ⟨r, by omega, h1, h⟩
    · rw [if_neg hz, faL_mem, ih]
      constructor
      · intro h
        rcases h with ⟨r, hr, h⟩ | h
        · exact ⟨r, by omega, h⟩
        · exact ⟨n, by omega, hz, h⟩
      · rintro ⟨r, hr, h1, h⟩
        by_cases he : r = n
        · subst he; exact Or.inr h
        · exact Or.inl ⟨r, by omega, h1, h⟩
theorem rgL_U {rg : Nat → Int64} {hd : Nat → Int32} : ∀ n, n ≤ 64 → (rgL rg hd n).length ≤ n ∧ (rgL rg hd n).Nodup ∧ ∀ x, x ∈ rgL rg hd n ↔ ∃ r, r < n ∧ ¬ hd r = 0 ∧ x = rg r
  | 0, _ => ⟨Nat.le_refl _, List.nodup_nil, fun x => ⟨fun h => absurd h List.not_mem_nil, fun ⟨_, hr, _⟩ => absurd hr (Nat.not_lt_zero _)⟩⟩
  | n + 1, hn => by
    obtain ⟨h1, h2, h3⟩ := rgL_U (rg := rg) (hd := hd) n (by omega)
    by_cases hz : hd n = 0
    · rw [show rgL rg hd (n + 1) = rgL rg hd n from if_pos hz]
      refine ⟨by omega, h2, fun x => ?_⟩
      rw [h3 x]
      constructor
      · rintro ⟨r, hr, h⟩; exact ⟨r, by omega, h⟩
      · rintro ⟨r, hr, h4, h⟩
        by_cases he : r = n
        · subst he; exact absurd hz h4
        · exact ⟨r, by omega, h4, h⟩
    · have e : rgL rg hd (n + 1) = adU (rgL rg hd n) (rg n) := by
        rw [show rgL rg hd (n + 1) = adL (rgL rg hd n) (rg n) from if_neg hz]
        exact adL_U (Nat.le_trans (adU_le _ _) (by omega))
      rw [e]
      refine ⟨Nat.le_trans (adU_le _ _) (by omega), adU_nd h2, fun x => ?_⟩
      rw [adU_mem, h3 x]
      constructor
      · intro h
        rcases h with ⟨r, hr, h⟩ | h
        · exact ⟨r, by omega, h⟩
        · exact ⟨n, by omega, hz, h⟩
      · rintro ⟨r, hr, h4, h⟩
        by_cases he : r = n
        · subst he; exact Or.inr h
        · exact Or.inl ⟨r, by omega, h4, h⟩
theorem wdL_wo {od : Nat → Nat} (ho : isO od) {rg : Nat → Int64} {hd : Nat → Int32} {i : Nat} (hi : i < 6) : wdL od (rgL rg hd 8) i = (woL od i rg hd 8).length := by
  obtain ⟨h1, h2, h3⟩ := rgL_U (rg := rg) (hd := hd) 8 (by decide)
  unfold wdL
  rw [lvL_U ho h1 h2 i (by omega), brC_f]
  refine nd_len ((lvU_nd h2 i).filter _) (woL_nd 8) (fun x => ?_)
  rw [List.mem_filter, lvU_mem, woL_mem]
  unfold dpB
  rw [decide_eq_true_eq]
  constructor
  · rintro ⟨⟨s, hs, ch, hc, e⟩, hd'⟩
    obtain ⟨r, hr, hh, er⟩ := (h3 s).mp hs
    exact ⟨r, hr, hh, ch, hc, by rw [← er]; exact e, hd'⟩
  · rintro ⟨r, hr, hh, ch, hc, e, hd'⟩
    exact ⟨⟨rg r, (h3 _).mpr ⟨r, hr, hh, rfl⟩, ch, hc, e⟩, hd'⟩
theorem wdL_fa {od : Nat → Nat} (ho : isO od) {s : Int64} {i : Nat} (hi : i < 6) : wdL od (adL [] s) i = (faL od i s [] (2 ^ i)).length := by
  have e1 : adL [] s = [s] := rfl
  unfold wdL
  rw [e1, lvL_U ho (by simp) (by simp) i (by omega), brC_f]
  refine nd_len ((lvU_nd (by simp) i).filter _) (faL_nd List.nodup_nil _) (fun x => ?_)
  rw [List.mem_filter, lvU_mem, faL_mem]
  unfold dpB
  rw [decide_eq_true_eq]
  constructor
  · rintro ⟨⟨s', hs, ch, hc, e⟩, hd'⟩
    rw [List.mem_singleton] at hs
    subst hs
    exact Or.inr ⟨ch, hc, e, hd'⟩
  · intro h
    rcases h with h | ⟨ch, hc, e, hd'⟩
    · exact absurd h List.not_mem_nil
    · exact ⟨⟨s, List.mem_singleton.mpr rfl, ch, hc, e⟩, hd'⟩
theorem toL_al {od : Nat → Nat} (ho : isO od) {rg : Nat → Int64} {hd : Nat → Int32} : ∀ i, i ≤ 6 → toL od (rgL rg hd 8) i = alL od rg hd i
  | 0, _ => rfl
  | i + 1, hi => by
    show toL od (rgL rg hd 8) i + wdL od (rgL rg hd 8) i = alL od rg hd i + (woL od i rg hd 8).length
    rw [toL_al ho i (by omega), wdL_wo ho (by omega)]
theorem toL_sz {od : Nat → Nat} (ho : isO od) {s : Int64} : ∀ i, i ≤ 6 → toL od (adL [] s) i = szL od s i
  | 0, _ => rfl
  | i + 1, hi => by
    show toL od (adL [] s) i + wdL od (adL [] s) i = szL od s i + (faL od i s [] (2 ^ i)).length
    rw [toL_sz ho i (by omega), wdL_fa ho (by omega)]
/-- only the first six places of an order matter -/
theorem lvL_od {od od' : Nat → Nat} {L : List Int64} : ∀ i, (∀ j, j < i → od j = od' j) → lvL od L i = lvL od' L i
  | 0, _ => rfl
  | i + 1, h => by
    show brL (od i) [] (lvL od L i) = brL (od' i) [] (lvL od' L i)
    rw [h i (by omega), lvL_od i (fun j hj => h j (by omega))]
theorem wdL_od {od od' : Nat → Nat} {L : List Int64} {i : Nat} (h : ∀ j, j ≤ i → od j = od' j) : wdL od L i = wdL od' L i := by
  unfold wdL
  rw [h i (Nat.le_refl i), lvL_od i (fun j hj => h j (by omega))]
theorem toL_od {od od' : Nat → Nat} {L : List Int64} : ∀ i, (∀ j, j < i → od j = od' j) → toL od L i = toL od' L i
  | 0, _ => rfl
  | i + 1, h => by
    show toL od L i + wdL od L i = toL od' L i + wdL od' L i
    rw [toL_od i (fun j hj => h j (by omega)), wdL_od (fun j hj => h j (by omega))]
