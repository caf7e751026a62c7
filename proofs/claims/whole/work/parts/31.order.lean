/-! Orders: what exchanges do, as places. -/
theorem xch_c (od f : Nat → Nat) (u : Nat) : xch (fun j => od (f j)) u = fun j => od (xch f u j) := by
  funext j
  unfold xch uN
  split
  · rfl
  · split <;> rfl
theorem rsU_c (od : Nat → Nat) (b : Nat) : ∀ (k : Nat) (f : Nat → Nat), rsU b k (fun j => od (f j)) = fun j => od (rsU b k f j)
  | 0, _ => rfl
  | k + 1, f => by
    show rsU b k (xch (fun j => od (f j)) (b + k)) = fun j => od (rsU b k (xch f (b + k)) j)
    rw [xch_c]; exact rsU_c od b k _
theorem dnU_c (od : Nat → Nat) : ∀ (k : Nat) (f : Nat → Nat), dnU k (fun j => od (f j)) = fun j => od (dnU k f j)
  | 0, _ => rfl
  | k + 1, f => by
    show xch (dnU k (fun j => od (f j))) k = fun j => od (xch (dnU k f) k j)
    rw [dnU_c od k f, xch_c]
/-- the order in which what stood on level p stands on level l, the others' order kept: places -/
def mvP (p l j : Nat) : Nat := if j = l then p else if (if j < l then j else j - 1) < p then (if j < l then j else j - 1) else (if j < l then j else j - 1) + 1
theorem mv_dn : ∀ p, p < 6 → ∀ l, l < 6 → ∀ j, j < 6 → dnU l (rsU 0 p (fun j => j)) j = mvP p l j := by decide +kernel
theorem mv_up : ∀ p, p < 6 → ∀ l, l < 6 → ∀ j, j < 6 → rsU l (5 - l) (dnU 5 (rsU 0 p (fun j => j))) j = mvP p l j := by decide +kernel
theorem mvP_lt : ∀ p, p < 6 → ∀ l, l < 6 → ∀ j, j < 6 → mvP p l j < 6 := by decide +kernel
theorem mvP_in : ∀ p, p < 6 → ∀ l, l < 6 → ∀ j, j < 6 → ∀ k, k < 6 → mvP p l j = mvP p l k → j = k := by decide +kernel
theorem od_dn (od : Nat → Nat) {p l j : Nat} (hp : p < 6) (hl : l < 6) (hj : j < 6) : dnU l (rsU 0 p od) j = od (mvP p l j) := by
  have e : dnU l (rsU 0 p od) = fun j => od (dnU l (rsU 0 p (fun j => j)) j) := by
    rw [show rsU 0 p od = fun j => od (rsU 0 p (fun j => j) j) from rsU_c od 0 p (fun j => j)]
    exact dnU_c od l _
  rw [e]
  show od (dnU l (rsU 0 p (fun j => j)) j) = _
  rw [mv_dn p hp l hl j hj]
theorem od_up (od : Nat → Nat) {p l j : Nat} (hp : p < 6) (hl : l < 6) (hj : j < 6) : rsU l (5 - l) (dnU 5 (rsU 0 p od)) j = od (mvP p l j) := by
  have e : rsU l (5 - l) (dnU 5 (rsU 0 p od)) = fun j => od (rsU l (5 - l) (dnU 5 (rsU 0 p (fun j => j))) j) := by
    rw [show rsU 0 p od = fun j => od (rsU 0 p (fun j => j) j) from rsU_c od 0 p (fun j => j)]
    rw [dnU_c od 5 (rsU 0 p (fun j => j))]
    exact rsU_c od l (5 - l) _
  rw [e]
  show od (rsU l (5 - l) (dnU 5 (rsU 0 p (fun j => j))) j) = _
  rw [mv_up p hp l hl j hj]
theorem isO_c {od f : Nat → Nat} (h : isO od) (h1 : ∀ j, j < 6 → f j < 6) (h2 : ∀ j, j < 6 → ∀ k, k < 6 → f j = f k → j = k) : isO (fun j => od (f j)) :=
  ⟨fun i hi => h.1 _ (h1 i hi), fun i hi j hj e => h2 i hi j hj (h.2 _ (h1 i hi) _ (h1 j hj) e)⟩
theorem isO_e {od od' : Nat → Nat} (h : isO od) (e : ∀ j, j < 6 → od' j = od j) : isO od' :=
  ⟨fun i hi => by rw [e i hi]; exact h.1 i hi, fun i hi j hj z => h.2 i hi j hj (by rw [← e i hi, ← e j hj]; exact z)⟩
theorem isO_mv {od : Nat → Nat} (h : isO od) {p l : Nat} (hp : p < 6) (hl : l < 6) : isO (fun j => od (mvP p l j)) :=
  isO_c h (mvP_lt p hp l hl) (mvP_in p hp l hl)
theorem xc_lt : ∀ u, u < 5 → ∀ j, j < 6 → xch (fun j => j) u j < 6 := by decide +kernel
theorem xc_in : ∀ u, u < 5 → ∀ j, j < 6 → ∀ k, k < 6 → xch (fun j => j) u j = xch (fun j => j) u k → j = k := by decide +kernel
theorem isO_x {od : Nat → Nat} (h : isO od) {u : Nat} (hu : u < 5) : isO (xch od u) := by
  have e : xch od u = fun j => od (xch (fun j => j) u j) := xch_c od (fun j => j) u
  rw [e]
  exact isO_c h (xc_lt u hu) (xc_in u hu)
/-- where v stands -/
theorem fd_is {od : Nat → Nat} {v : Nat} (h : isO od) : ∀ p, p < 6 → od p = v → fdL od v 6 = p := by
  intro p hp e
  have key : ∀ n, n ≤ 6 → p < n → fdL od v n = p := by
    intro n
    induction n with
    | zero => intro _ h0; omega
    | succ n ih =>
      intro hn hpn
      show (if od n = v then n else fdL od v n) = p
      by_cases hz : od n = v
      · rw [if_pos hz]; exact h.2 n (by omega) p hp (by rw [hz, e])
      · rw [if_neg hz]
        refine ih (by omega) ?_
        by_cases hh : p = n
        · subst hh; exact absurd e hz
        · omega
  exact key 6 (Nat.le_refl 6) hp
/-- every variable stands somewhere -/
theorem fd_ex {od : Nat → Nat} {v : Nat} (h : isO od) (hv : v < 6) : ∃ p, p < 6 ∧ od p = v := by
  have hn : ((List.range 6).map od).Nodup := by
    unfold List.Nodup
    rw [List.pairwise_map]
    refine List.Pairwise.imp_of_mem (fun {a b} ha hb hab e => hab (h.2 a (List.mem_range.mp ha) b (List.mem_range.mp hb) e)) List.nodup_range
  refine Decidable.byContradiction (fun hc => ?_)
  have hs := nd_subN ((List.range 6).map od) ((List.range 6).erase v) hn (fun x hx => by
    obtain ⟨i, hi, e⟩ := List.mem_map.mp hx
    rw [List.mem_range] at hi
    have hx6 : x < 6 := by rw [← e]; exact h.1 i hi
    exact (List.mem_erase_of_ne (fun ev => hc ⟨i, hi, by rw [e, ev]⟩)).mpr (List.mem_range.mpr hx6))
  rw [List.length_map, List.length_range, List.length_erase_of_mem (List.mem_range.mpr hv), List.length_range] at hs
  omega
theorem fd_at {od : Nat → Nat} {v : Nat} (h : isO od) (hv : v < 6) : od (fdL od v 6) = v := by
  obtain ⟨p, hp, e⟩ := fd_ex h hv
  rw [fd_is h p hp e, e]
/-! the reference's 'arrange': how many of the kept ones are used up before level l -/
def arN (p lev l : Nat) : Nat := if (if l ≤ lev then l else l - 1) ≤ p then (if l ≤ lev then l else l - 1) else (if l ≤ lev then l else l - 1) + 1
/-- the best level and its number of nodes among the first n, as the reference looks for it -/
def bsF (L : List Int64) (od : Nat → Nat) (p : Nat) : Nat → Nat × Nat
  | 0 => (0, 1000)
  | l + 1 => if toL (fun j => od (mvP p l j)) L 6 < (bsF L od p l).2 then (l, toL (fun j => od (mvP p l j)) L 6) else bsF L od p l
theorem bs_sf {L : List Int64} {od : Nat → Nat} {p : Nat} (hp : p < 6) (hL : L.length ≤ 64) : ∀ i, i < 6 → bsF L od p (i + 1) = sfF L (rsU 0 p od) i
  | 0, _ => by
    show (if toL (fun j => od (mvP p 0 j)) L 6 < 1000 then (0, toL (fun j => od (mvP p 0 j)) L 6) else (0, 1000)) = (0, toL (rsU 0 p od) L 6)
    have e : toL (fun j => od (mvP p 0 j)) L 6 = toL (rsU 0 p od) L 6 := toL_od 6 (fun j hj => (od_dn od hp (by decide) hj).symm)
    have h := toL_le (od := rsU 0 p od) hL 6
    rw [e, if_pos (by omega)]
  | i + 1, hi => by
    have ih := bs_sf (L := L) (od := od) hp hL i (by omega)
    show (if toL (fun j => od (mvP p (i + 1) j)) L 6 < (bsF L od p (i + 1)).2 then (i + 1, toL (fun j => od (mvP p (i + 1) j)) L 6) else bsF L od p (i + 1)) = (if toL (dnU (i + 1) (rsU 0 p od)) L 6 < (sfF L (rsU 0 p od) i).2 then (i + 1, toL (dnU (i + 1) (rsU 0 p od)) L 6) else sfF L (rsU 0 p od) i)
    have e : toL (fun j => od (mvP p (i + 1) j)) L 6 = toL (dnU (i + 1) (rsU 0 p od)) L 6 := toL_od 6 (fun j hj => (od_dn od hp (by omega) hj).symm)
    rw [ih, e]
