/-! What class and reference have in common between two calls. -/
def INV (od oo tx : Nat → Nat) (hd : Nat → Int32) (td : Nat) : Prop := isO od ∧ (∀ i, i < 6 → oo i = od i) ∧ td ≤ 40 ∧ (∀ i, i < 40 → tx i < 65536) ∧ ∀ i, i < 8 → hd i = 0 ∨ hd i = 1
theorem up_01 {hd : Nat → Int32} {r : Nat} {x : Int32} (h : ∀ i, i < 8 → hd i = 0 ∨ hd i = 1) (hx : x = 0 ∨ x = 1) : ∀ i, i < 8 → upd hd r x i = 0 ∨ upd hd r x i = 1 := by
  intro i hi
  by_cases e : i = r
  · subst e; rw [pk_us]; exact hx
  · rw [pk_un e]; exact h i hi
theorem INV.put {od oo tx : Nat → Nat} {hd : Nat → Int32} {td : Nat} (h : INV od oo tx hd td) (r : Nat) : INV od oo tx (upd hd r (nI 1)) td := ⟨h.1, h.2.1, h.2.2.1, h.2.2.2.1, up_01 h.2.2.2.2 (Or.inr rfl)⟩
theorem INV.clr {od oo tx : Nat → Nat} {hd : Nat → Int32} {td : Nat} (h : INV od oo tx hd td) (r : Nat) : INV od oo tx (upd hd r (nI 0)) td := ⟨h.1, h.2.1, h.2.2.1, h.2.2.2.1, up_01 h.2.2.2.2 (Or.inl rfl)⟩
theorem tyW_lt {x : Int64} : ∀ (j : Nat) (tx : Nat → Nat) (t : Nat), (∀ i, i < 40 → tx i < 65536) → ∀ i, i < 40 → tyW tx t x j i < 65536
  | 0, _, _, h => h
  | j + 1, tx, t, h => tyW_lt j (uN tx t (chN x j)) (t + 1) (fun i hi => by
      unfold uN
      split
      · exact Nat.lt_trans (chN_lt x j) (by decide)
      · exact h i hi)
theorem INV.typ {od oo tx : Nat → Nat} {hd : Nat → Int32} {td n : Nat} (h : INV od oo tx hd td) (x : Int64) (hn : td + n ≤ 40) : INV od oo (tyW tx td x n) hd (td + n) := ⟨h.1, h.2.1, hn, tyW_lt n tx td h.2.2.2.1, h.2.2.2.2⟩
theorem INV.red {od oo tx : Nat → Nat} {hd : Nat → Int32} {td : Nat} (h : INV od oo tx hd td) (P : Prop) [Decidable P] (r : Nat) : INV od oo tx (if P then upd hd r (nI 1) else hd) 0 := by
  refine ⟨h.1, h.2.1, Nat.zero_le _, h.2.2.2.1, ?_⟩
  split
  · exact up_01 h.2.2.2.2 (Or.inr rfl)
  · exact h.2.2.2.2
theorem INV.oo {od oo tx : Nat → Nat} {hd : Nat → Int32} {td : Nat} (h : INV od oo tx hd td) : isO oo := isO_e h.1 h.2.1
theorem INV.swp {od oo tx : Nat → Nat} {hd : Nat → Int32} {td : Nat} (h : INV od oo tx hd td) {k : Nat} (hk : k < 5) : INV (xch od k) (xch oo k) tx hd td := by
  refine ⟨isO_x h.1 hk, fun i hi => ?_, h.2.2⟩
  unfold xch uN
  split
  · exact h.2.1 k (by omega)
  · split
    · exact h.2.1 (k + 1) (by omega)
    · exact h.2.1 i hi
theorem al_eq {od oo tx : Nat → Nat} {hd : Nat → Int32} {td : Nat} (h : INV od oo tx hd td) (rg : Nat → Int64) : toL od (rgL rg hd 8) 6 = alL oo rg hd 6 :=
  (toL_od 6 (fun j hj => (h.2.1 j hj).symm)).trans (toL_al h.oo 6 (Nat.le_refl 6))
theorem sz_eq {od oo tx : Nat → Nat} {hd : Nat → Int32} {td : Nat} (h : INV od oo tx hd td) (s : Int64) : toL od (adL [] s) 6 = szL oo s 6 :=
  (toL_od 6 (fun j hj => (h.2.1 j hj).symm)).trans (toL_sz h.oo 6 (Nat.le_refl 6))
theorem wo_eq {od oo tx : Nat → Nat} {hd : Nat → Int32} {td : Nat} (h : INV od oo tx hd td) (rg : Nat → Int64) {k : Nat} (hk : k < 6) : wdL od (rgL rg hd 8) k = (woL oo k rg hd 8).length :=
  (wdL_od (fun j hj => (h.2.1 j (by omega)).symm)).trans (wdL_wo h.oo hk)
theorem fd_od {od oo : Nat → Nat} {v : Nat} : ∀ n, (∀ i, i < n → oo i = od i) → fdL od v n = fdL oo v n
  | 0, _ => rfl
  | n + 1, h => by
    show (if od n = v then n else fdL od v n) = (if oo n = v then n else fdL oo v n)
    rw [h n (by omega), fd_od n (fun i hi => h i (by omega))]
theorem so_at {kp oo : Nat → Nat} {p l j : Nat} (hp : p < 6) (hl : l < 6) (hj : j < 6) : soF (cpF kp oo 6) p oo (l + 1) j = oo (mvP p l j) := by
  show arF (cpF kp oo 6) p l (soF (cpF kp oo 6) p oo l) 6 j = _
  rw [arF_at 6 j hj, cpF_at 6 _ (mvP_lt p hp l hl j hj)]
theorem bm_bs {od oo tx kp : Nat → Nat} {hd : Nat → Int32} {td p : Nat} (h : INV od oo tx hd td) (rg : Nat → Int64) (hp : p < 6) : ∀ l, l ≤ 6 → bmF (cpF kp oo 6) p oo rg hd l = bsF (rgL rg hd 8) od p l
  | 0, _ => rfl
  | l + 1, hl => by
    have ih := bm_bs (kp := kp) h rg hp l (by omega)
    have hm := isO_mv h.1 hp (show l < 6 by omega)
    have ho : isO (soF (cpF kp oo 6) p oo (l + 1)) := isO_e hm (fun j hj => by rw [so_at hp (by omega) hj]; exact h.2.1 _ (mvP_lt p hp l (by omega) j hj))
    have e : alL (soF (cpF kp oo 6) p oo (l + 1)) rg hd 6 = toL (fun j => od (mvP p l j)) (rgL rg hd 8) 6 :=
      (toL_al ho 6 (Nat.le_refl 6)).symm.trans (toL_od 6 (fun j hj => by rw [so_at hp (by omega) hj]; exact h.2.1 _ (mvP_lt p hp l (by omega) j hj)))
    show (if alL (soF (cpF kp oo 6) p oo (l + 1)) rg hd 6 < (bmF (cpF kp oo 6) p oo rg hd l).2 then (l, alL (soF (cpF kp oo 6) p oo (l + 1)) rg hd 6) else bmF (cpF kp oo 6) p oo rg hd l) = (if toL (fun j => od (mvP p l j)) (rgL rg hd 8) 6 < (bsF (rgL rg hd 8) od p l).2 then (l, toL (fun j => od (mvP p l j)) (rgL rg hd 8) 6) else bsF (rgL rg hd 8) od p l)
    rw [e, ih]
theorem sf_eq {od oo tx kp : Nat → Nat} {hd : Nat → Int32} {td v : Nat} (h : INV od oo tx hd td) (rg : Nat → Int64) (hv : v < 6) : sfF (rgL rg hd 8) (rsU 0 (fdL od v 6 - 0) od) 5 = bmF (cpF kp oo 6) (fdL oo v 6) oo rg hd 6 := by
  have e := fd_od (od := od) (oo := oo) (v := v) 6 h.2.1
  have hp : fdL oo v 6 < 6 := hfd hv
  rw [bm_bs h rg hp 6 (Nat.le_refl 6), bs_sf hp (rgL_len 8) 5 (by decide), e]
  rfl
theorem INV.sif {od oo tx kp : Nat → Nat} {hd : Nat → Int32} {td v : Nat} (h : INV od oo tx hd td) (rg : Nat → Int64) (hv : v < 6) :
    INV (rsU (sfF (rgL rg hd 8) (rsU 0 (fdL od v 6 - 0) od) 5).1 (5 - (sfF (rgL rg hd 8) (rsU 0 (fdL od v 6 - 0) od) 5).1) (dnU 5 (rsU 0 (fdL od v 6 - 0) od))) (arF (cpF kp oo 6) (fdL oo v 6) ((bmF (cpF kp oo 6) (fdL oo v 6) oo rg hd 6).1) (soF (cpF kp oo 6) (fdL oo v 6) oo 6) 6) tx hd td := by
  have e := fd_od (od := od) (oo := oo) (v := v) 6 h.2.1
  have hp : fdL oo v 6 < 6 := hfd hv
  have hb := bm_5 (kp := cpF kp oo 6) (p := fdL oo v 6) (oo := oo) (rg := rg) (hd := hd)
  rw [sf_eq (kp := kp) h rg hv]
  generalize (bmF (cpF kp oo 6) (fdL oo v 6) oo rg hd 6).1 = B at hb
  rw [e, Nat.sub_zero]
  refine ⟨isO_e (isO_mv h.1 hp hb) (fun j hj => od_up od hp hb hj), fun j hj => ?_, h.2.2⟩
  rw [od_up od hp hb hj, arF_at 6 j hj, cpF_at 6 _ (mvP_lt _ hp B hb j hj)]
  exact h.2.1 _ (mvP_lt _ hp B hb j hj)
theorem pm_ab (A B : va_W) (o : Nat × va_E) : (A ++ o :: (B ++ [])).Perm (B ++ o :: (A ++ [])) := by
  rw [List.append_nil, List.append_nil]
  refine List.perm_middle.trans ?_
  exact (List.Perm.cons o List.perm_append_comm).trans List.perm_middle.symm
