/-- the reference's own counting, bit by bit -/
def vtF (v : Nat) : Nat → Int64
  | 0 => 0
  | a + 1 => if nI a >>> (nI (5 - v) &&& 31) &&& nI 1 = nI 1 then vtF v a ||| (1 <<< ((nI a).toInt64 &&& 63)) else vtF v a
def mvB (v a : Nat) (b : Bool) : Nat := if b = true then a ||| 2 ^ (5 - v) else a ^^^ (a &&& 2 ^ (5 - v))
def wiF (t : Int64) (v : Nat) (x : Int64) : Nat → Int64
  | 0 => 0
  | a + 1 => if bt t (mvB v a (bt x a)) = true then wiF t v x a ||| (1 <<< ((nI a).toInt64 &&& 63)) else wiF t v x a
def apB (x y : Int64) (a : Nat) : Nat := (if bt x a = true then 2 else 0) + (if bt y a = true then 1 else 0)
def apF (x y : Int64) (o : Nat) : Nat → Int64
  | 0 => 0
  | a + 1 => if nI o >>> (nI (apB x y a) &&& 31) &&& nI 1 = nI 1 then apF x y o a ||| (1 <<< ((nI a).toInt64 &&& 63)) else apF x y o a
theorem vt_mk : ∀ v, v < 6 → vtF v 64 = mk6 v := by decide +kernel
theorem or_eq : ∀ v, v < 6 → ∀ a, a < 64 → nI a ||| (nI 1 <<< (nI (5 - v) &&& 31)) = nI (a ||| 2 ^ (5 - v)) := by decide +kernel
theorem an_eq : ∀ v, v < 6 → ∀ a, a < 64 → nI a &&& ((nI 1 <<< (nI (5 - v) &&& 31)) ^^^ -1) = nI (a ^^^ (a &&& 2 ^ (5 - v))) := by decide +kernel
theorem mv_lt : ∀ v, v < 6 → ∀ a, a < 64 → a ||| 2 ^ (5 - v) < 64 ∧ a ^^^ (a &&& 2 ^ (5 - v)) < 64 := by decide +kernel
/-- a bit of a sum of bits -/
theorem sh1 : ∀ a, a < 64 → ((1 : Int64) <<< ((nI a).toInt64 &&& 63)).toBitVec = BitVec.twoPow 64 a := by decide +kernel
theorem or1 {t : Int64} {a : Nat} (ha : a < 64) (i : Nat) : bt (t ||| (1 <<< ((nI a).toInt64 &&& 63))) i = (bt t i || decide (i = a)) := by
  unfold bt
  rw [Int64.toBitVec_or, sh1 a ha, BitVec.getLsbD_or, BitVec.getLsbD_twoPow]
  by_cases h : i = a
  · subst h; simp [ha]
  · simp [h, Ne.symm h]
theorem bt_ext {x y : Int64} (h : ∀ i, i < 64 → bt x i = bt y i) : x = y := by
  apply Int64.toBitVec_inj.mp
  apply BitVec.eq_of_getLsbD_eq
  intro i hi
  exact h i hi
theorem bt_zero (i : Nat) : bt 0 i = false := by unfold bt; simp
/-- what a counting loop over 64 bits gives: bit i is what the i-th question says -/
theorem lp_bits (f : Nat → Int64) (P : Nat → Bool) (h0 : f 0 = 0) (hs : ∀ a, a < 64 → f (a + 1) = if P a = true then f a ||| (1 <<< ((nI a).toInt64 &&& 63)) else f a) : ∀ i, i < 64 → bt (f 64) i = P i := by
  have key : ∀ n, n ≤ 64 → ∀ i, bt (f n) i = (decide (i < n) && P i) := by
    intro n
    induction n with
    | zero => intro _ i; rw [h0, bt_zero]; simp
    | succ n ih =>
      intro hn i
      rw [hs n (by omega)]
      by_cases hp : P n = true
      · rw [if_pos hp, or1 (by omega), ih (by omega) i]
        by_cases hi : i = n
        · subst hi; simp [hp]
        · have : decide (i < n + 1) = decide (i < n) := by rw [decide_eq_decide]; omega
          rw [this]; simp [hi]
      · rw [if_neg hp, ih (by omega) i]
        by_cases hi : i = n
        · subst hi; simp [hp]
        · have : decide (i < n + 1) = decide (i < n) := by rw [decide_eq_decide]; omega
          rw [this]
  intro i hi
  rw [key 64 (Nat.le_refl _) i]; simp [hi]
theorem bt_and (x y : Int64) (i : Nat) : bt (x &&& y) i = (bt x i && bt y i) := by unfold bt; rw [Int64.toBitVec_and, BitVec.getLsbD_and]
theorem bt_or (x y : Int64) (i : Nat) : bt (x ||| y) i = (bt x i || bt y i) := by unfold bt; rw [Int64.toBitVec_or, BitVec.getLsbD_or]
theorem bt_xor (x y : Int64) (i : Nat) : bt (x ^^^ y) i = (bt x i ^^ bt y i) := by unfold bt; rw [Int64.toBitVec_xor, BitVec.getLsbD_xor]
theorem bt_m1 {i : Nat} (hi : i < 64) : bt (-1) i = true := by
  have : ∀ i, i < 64 → bt (-1) i = true := by decide +kernel
  exact this i hi
theorem bt_not {x : Int64} {i : Nat} (hi : i < 64) : bt (x ^^^ -1) i = !bt x i := by rw [bt_xor, bt_m1 hi]; cases bt x i <;> rfl
theorem mk_bit : ∀ v, v < 6 → ∀ i, i < 64 → bt (mk6 v) i = decide (i &&& 2 ^ (5 - v) ≠ 0) := by decide +kernel
theorem mk_up : ∀ v, v < 6 → ∀ i, i < 64 → (if i &&& 2 ^ (5 - v) = 0 then i ||| 2 ^ (5 - v) = i + 2 ^ (5 - v) ∧ i + 2 ^ (5 - v) < 64 ∧ (i + 2 ^ (5 - v)) &&& 2 ^ (5 - v) ≠ 0 ∧ i ^^^ (i &&& 2 ^ (5 - v)) = i else i ||| 2 ^ (5 - v) = i ∧ 2 ^ (5 - v) ≤ i ∧ (i - 2 ^ (5 - v)) &&& 2 ^ (5 - v) = 0 ∧ i ^^^ (i &&& 2 ^ (5 - v)) = i - 2 ^ (5 - v)) := by decide +kernel
theorem up_hi : ∀ v, v < 6 → ∀ i, i < 64 → i &&& 2 ^ (5 - v) ≠ 0 → i + 2 ^ (5 - v) < 64 → (i + 2 ^ (5 - v)) &&& 2 ^ (5 - v) = 0 := by decide +kernel
theorem dn_lo : ∀ v, v < 6 → ∀ i, i < 64 → i &&& 2 ^ (5 - v) = 0 → 2 ^ (5 - v) ≤ i → (i - 2 ^ (5 - v)) &&& 2 ^ (5 - v) ≠ 0 := by decide +kernel
theorem cntv : ∀ v, v < 6 → ((nI (2 ^ (5 - v))).toInt64.toUInt64 &&& Int64.toUInt64 63).toBitVec.toNat = 2 ^ (5 - v) := by decide +kernel
theorem cntw : ∀ v, v < 6 → ((nI (2 ^ (5 - v))).toInt64 &&& 63).toBitVec.smod 64 = BitVec.ofNat 64 (2 ^ (5 - v)) := by decide +kernel
theorem pw_lt : ∀ v, v < 6 → 2 ^ (5 - v) < 64 := by decide +kernel
theorem bt_shr {t : Int64} {v : Nat} (hv : v < 6) (i : Nat) : bt (t.toUInt64 >>> ((nI (2 ^ (5 - v))).toInt64.toUInt64 &&& Int64.toUInt64 63)).toInt64 i = bt t (2 ^ (5 - v) + i) := by
  have hc := cntv v hv
  generalize ((nI (2 ^ (5 - v))).toInt64.toUInt64 &&& Int64.toUInt64 63) = k at hc
  unfold bt
  have : (t.toUInt64 >>> k).toInt64.toBitVec = t.toBitVec >>> (2 ^ (5 - v)) := by
    show (t.toUInt64 >>> k).toBitVec = _
    rw [UInt64.toBitVec_shiftRight]
    show t.toBitVec >>> (k.toBitVec % 64) = _
    rw [BitVec.ushiftRight_eq']
    congr 1
    rw [BitVec.toNat_umod, hc]
    exact Nat.mod_eq_of_lt (pw_lt v hv)
  rw [this, BitVec.getLsbD_ushiftRight]
theorem bt_shl {t : Int64} {v : Nat} (hv : v < 6) {i : Nat} (hi : i < 64) : bt (t <<< ((nI (2 ^ (5 - v))).toInt64 &&& 63)) i = (decide (2 ^ (5 - v) ≤ i) && bt t (i - 2 ^ (5 - v))) := by
  have hc := cntw v hv
  generalize ((nI (2 ^ (5 - v))).toInt64 &&& 63) = k at hc
  unfold bt
  have : (t <<< k).toBitVec = t.toBitVec <<< (2 ^ (5 - v)) := by
    show t.toBitVec <<< (k.toBitVec.smod 64) = _
    rw [hc, BitVec.shiftLeft_eq', BitVec.toNat_ofNat, Nat.mod_eq_of_lt (Nat.lt_trans (pw_lt v hv) (by decide))]
  rw [this, BitVec.getLsbD_shiftLeft]
  by_cases h : 2 ^ (5 - v) ≤ i
  · simp [h, hi, Nat.not_lt.mpr h]
  · simp [h, hi, Nat.lt_of_not_le h]
/-- W1, W0 by their bits -/
theorem bt_W1 {t : Int64} {v i : Nat} (hv : v < 6) (hi : i < 64) : bt (W1 t v) i = bt t (i ||| 2 ^ (5 - v)) := by
  unfold W1
  rw [bt_or, bt_shr hv, bt_and, bt_and, mk_bit v hv i hi]
  have hu := mk_up v hv i hi
  by_cases h : i &&& 2 ^ (5 - v) = 0
  · rw [if_pos h] at hu
    rw [hu.1, show 2 ^ (5 - v) + i = i + 2 ^ (5 - v) by omega, mk_bit v hv _ hu.2.1]
    simp [h, hu.2.2.1]
  · rw [if_neg h] at hu
    rw [hu.1]
    by_cases hb : i + 2 ^ (5 - v) < 64
    · rw [show 2 ^ (5 - v) + i = i + 2 ^ (5 - v) by omega, mk_bit v hv _ hb]
      simp [h, up_hi v hv i hi h hb]
    · have : bt (mk6 v) (2 ^ (5 - v) + i) = false := by unfold bt; exact BitVec.getLsbD_of_ge _ _ (by omega)
      rw [this]; simp [h]
theorem bt_W0 {t : Int64} {v i : Nat} (hv : v < 6) (hi : i < 64) : bt (W0 t v) i = bt t (i ^^^ (i &&& 2 ^ (5 - v))) := by
  unfold W0
  rw [bt_or, bt_shl hv hi, bt_and, bt_and, bt_not hi, mk_bit v hv i hi]
  have hu := mk_up v hv i hi
  by_cases h : i &&& 2 ^ (5 - v) = 0
  · rw [if_pos h] at hu
    rw [hu.2.2.2]
    by_cases hb : 2 ^ (5 - v) ≤ i
    · rw [bt_not (Nat.lt_of_le_of_lt (Nat.sub_le _ _) hi), mk_bit v hv _ (Nat.lt_of_le_of_lt (Nat.sub_le _ _) hi)]
      simp [h, dn_lo v hv i hi h hb]
    · simp [h, hb]
  · rw [if_neg h] at hu
    rw [hu.2.2.2, bt_not (Nat.lt_of_le_of_lt (Nat.sub_le _ _) hi), mk_bit v hv _ (Nat.lt_of_le_of_lt (Nat.sub_le _ _) hi)]
    simp [h, hu.2.1, hu.2.2.1]
theorem bt_CH {x y z : Int64} {i : Nat} (hi : i < 64) : bt (CH x y z) i = if bt x i = true then bt y i else bt z i := by
  unfold CH
  rw [bt_or, bt_and, bt_and, bt_not hi]
  cases bt x i <;> simp
theorem wi_eq {t x : Int64} {v : Nat} (hv : v < 6) : wiF t v x 64 = CH x (W1 t v) (W0 t v) := by
  apply bt_ext
  intro i hi
  rw [lp_bits (wiF t v x) (fun a => bt t (mvB v a (bt x a))) rfl (fun a _ => rfl) i hi, bt_CH hi, bt_W1 hv hi, bt_W0 hv hi]
  unfold mvB
  cases bt x i <;> rfl
theorem CH_0 (y z : Int64) : CH 0 y z = z := by apply bt_ext; intro i hi; rw [bt_CH hi, bt_zero]; rfl
theorem CH_m (y z : Int64) : CH (-1) y z = y := by apply bt_ext; intro i hi; rw [bt_CH hi, bt_m1 hi]; rfl
theorem o_bits : ∀ o, o < 16 → ∀ p q : Bool, (nI o >>> (nI ((if p = true then 2 else 0) + (if q = true then 1 else 0)) &&& 31) &&& nI 1 = nI 1 ↔ ((p = false ∧ q = false ∧ ¬ nI o &&& nI 1 = 0) ∨ (p = false ∧ q = true ∧ ¬ nI o &&& nI 2 = 0) ∨ (p = true ∧ q = false ∧ ¬ nI o &&& nI 4 = 0) ∨ (p = true ∧ q = true ∧ ¬ nI o &&& nI 8 = 0))) := by
  intro o ho p q
  revert o
  cases p <;> cases q <;> decide +kernel
theorem bt_CNN {x y : Int64} {o i : Nat} (hi : i < 64) : bt (CNN x y o) i = ((!decide (nI o &&& nI 1 = 0) && (!bt x i && !bt y i)) || (!decide (nI o &&& nI 2 = 0) && (!bt x i && bt y i)) || (!decide (nI o &&& nI 4 = 0) && (bt x i && !bt y i)) || (!decide (nI o &&& nI 8 = 0) && (bt x i && bt y i))) := by
  unfold CNN CN8 CN4 CN2 CN1
  by_cases h1 : nI o &&& nI 1 = 0 <;> by_cases h2 : nI o &&& nI 2 = 0 <;> by_cases h4 : nI o &&& nI 4 = 0 <;> by_cases h8 : nI o &&& nI 8 = 0 <;> simp only [h1, h2, h4, h8, if_true, if_false, bt_or, bt_and, bt_not hi, bt_zero] <;> cases bt x i <;> cases bt y i <;> rfl
theorem ap_eq {x y : Int64} {o : Nat} (ho : o < 16) : apF x y o 64 = CNN x y o := by
  apply bt_ext
  intro i hi
  rw [lp_bits (apF x y o) (fun a => decide (nI o >>> (nI (apB x y a) &&& 31) &&& nI 1 = nI 1)) rfl (fun a _ => by simp only [decide_eq_true_eq]; rfl) i hi, bt_CNN hi]
  have hb := o_bits o ho (bt x i) (bt y i)
  rw [show decide (nI o >>> (nI (apB x y i) &&& 31) &&& nI 1 = nI 1) = decide ((bt x i = false ∧ bt y i = false ∧ ¬ nI o &&& nI 1 = 0) ∨ (bt x i = false ∧ bt y i = true ∧ ¬ nI o &&& nI 2 = 0) ∨ (bt x i = true ∧ bt y i = false ∧ ¬ nI o &&& nI 4 = 0) ∨ (bt x i = true ∧ bt y i = true ∧ ¬ nI o &&& nI 8 = 0)) from decide_eq_decide.mpr hb]
  cases bt x i <;> cases bt y i <;> simp
theorem cnt64s : ∀ a, a < 64 → ((nI a).toInt64 &&& 63).toBitVec.smod 64 = BitVec.ofNat 64 a := by decide +kernel
theorem at_eqS {a : Nat} (ha : a < 64) (t : Int64) : lg_cmp ((t >>> ((nI a).toInt64 &&& 63)) &&& 1) 1 = 0 ↔ bt t a = true := by
  rw [lg_cmp_eq]
  have hc := cnt64s a ha
  generalize ((nI a).toInt64 &&& 63) = k at hc
  have key : ((t >>> k) &&& 1).toBitVec = (t.toBitVec.sshiftRight a) &&& 1#64 := by
    rw [Int64.toBitVec_and]
    have : (t >>> k).toBitVec = t.toBitVec.sshiftRight a := by
      show t.toBitVec.sshiftRight' (k.toBitVec.smod 64) = _
      rw [hc]
      show t.toBitVec.sshiftRight (BitVec.ofNat 64 a).toNat = _
      rw [BitVec.toNat_ofNat, Nat.mod_eq_of_lt (by omega)]
    rw [this]; rfl
  have hb : (t.toBitVec.sshiftRight a).getLsbD 0 = bt t a := by
    rw [BitVec.getLsbD_sshiftRight]; simp [bt, ha]
  constructor
  · intro h
    have h2 : ((t.toBitVec.sshiftRight a) &&& 1#64).getLsbD 0 = (1 : Int64).toBitVec.getLsbD 0 := congrArg (fun z => BitVec.getLsbD z 0) (key.symm.trans (congrArg Int64.toBitVec h))
    rw [BitVec.getLsbD_and, hb, show (1#64).getLsbD 0 = true by decide, Bool.and_true] at h2
    exact h2.trans (by decide)
  · intro h
    apply Int64.toBitVec_inj.mp
    rw [key]
    apply BitVec.eq_of_getLsbD_eq
    intro i hi
    by_cases h0 : i = 0
    · subst h0; rw [BitVec.getLsbD_and, hb, h]; rfl
    · have h9 : (1#64).getLsbD i = false := by rw [BitVec.getLsbD_one]; simp [h0]
      rw [BitVec.getLsbD_and, h9, Bool.and_false]; exact h9.symm
theorem wi_of {x : Int32} {a b : Nat} (ha : a < 2 ^ 31) (hb : b < 2 ^ 31 - 1) (h1 : ¬ x < nI a) (h2 : ¬ nI b < x) : ∃ k, a ≤ k ∧ k ≤ b ∧ x = nI k := by
  rcases pk_ix x (n := b + 1) (by omega) with h | h | ⟨j, hj, e⟩
  · exact absurd (by rw [Int32.lt_iff_toInt_lt] at h ⊢; rw [nI_toInt ha]; rw [Int32.toInt_zero] at h; omega) h1
  · exact absurd (by rw [Int32.le_iff_toInt_le, nI_toInt (by omega)] at h; rw [Int32.lt_iff_toInt_lt, nI_toInt (by omega)]; omega) h2
  · subst e
    rw [nI_ltI (by omega) ha] at h1
    exact ⟨j, by omega, by omega, rfl⟩
theorem inR_le {x : Int32} {n : Nat} (h : ∃ k, 0 ≤ k ∧ k ≤ n ∧ x = nI k) : inR x (n + 1) := by
  obtain ⟨k, _, h2, e⟩ := h
  exact ⟨k, by omega, e⟩
set_option maxRecDepth 100000 in
set_option maxHeartbeats 4000000 in
theorem c_MD_within (l : Launch) (g : Gx) (X : va_W) (k a b : Nat) (h1 : a ≤ k) (h2 : k ≤ b) (h3 : b < 2 ^ 31) : Met l y_MD_within (w_MD_within :: TW) rm_MD_within (va_Pc [.int (nI k), .int (nI a), .int (nI b)] (PR g (X))) (va_Qi (fun r9 (u9 : Unit) => r9 = nI 1) (fun u9 t9 => PR g (X) t9) (gA g)) 0 0 (gA g) := by
  refine mt_of (by decide) (Nat.le_of_ble_eq_true rfl) ?_
  intro p e s m below meth c ls hx hb hr hml hlk hown ht hnm F hP hD hl
  have hl : lv_has ls 3 [(0, .int (nI k)), (1, .int (nI a)), (2, .int (nI b))] := hl
  have hS : va_S (gA g) s.heap s.heap [] := va_S.rf
  refine lv_iload_n hx hb d_MD_within_0 rfl (lv_at hl 0 rfl) ?_
  refine lv_iload_n hx hb d_MD_within_1 rfl (lv_at hl 1 rfl) ?_
  refine rc_lt (tgt := 14) hx hb (by omega) (by omega) d_MD_within_2 (by decide) (fun c2 => ?_) (fun c2 => ?_)
  · exact (by omega : False).elim
  · refine lv_iload_n hx hb d_MD_within_5 rfl (lv_at hl 0 rfl) ?_
    refine lv_iload_n hx hb d_MD_within_6 rfl (lv_at hl 2 rfl) ?_
    refine rc_gt (tgt := 14) hx hb (by omega) (by omega) d_MD_within_7 (by decide) (fun c7 => ?_) (fun c7 => ?_)
    · exact (by omega : False).elim
    · refine lv_iconst (v := nI 1) hx hb d_MD_within_10 (by decide) ?_
      refine lv_goto (tgt := 15) hx hb d_MD_within_11 (by decide) ?_
      exact W.zret (v := nI 1) hx hb hr (by decide) (fun t9 e1 hW => ⟨⟨_, (), rfl, rfl, PR.at F hP hD hS e1 hW.alike⟩, hS.F e1⟩) hS.2.2 d_MD_within_15
set_option maxRecDepth 100000 in
set_option maxHeartbeats 4000000 in
theorem c_MD_within_0 (l : Launch) (g : Gx) (X : va_W) (x : Int32) (a b : Nat) (h1 : ¬ ∃ k, a ≤ k ∧ k ≤ b ∧ x = nI k) (h2 : a < 2 ^ 31) (h3 : b < 2 ^ 31 - 1) : Met l y_MD_within (w_MD_within :: TW) rm_MD_within (va_Pc [.int x, .int (nI a), .int (nI b)] (PR g (X))) (va_Qi (fun r9 (u9 : Unit) => r9 = nI 0) (fun u9 t9 => PR g (X) t9) (gA g)) 0 0 (gA g) := by
  refine mt_of (by decide) (Nat.le_of_ble_eq_true rfl) ?_
  intro p e s m below meth c ls hx hb hr hml hlk hown ht hnm F hP hD hl
  have hl : lv_has ls 3 [(0, .int x), (1, .int (nI a)), (2, .int (nI b))] := hl
  have hS : va_S (gA g) s.heap s.heap [] := va_S.rf
  refine lv_iload_n hx hb d_MD_within_0 rfl (lv_at hl 0 rfl) ?_
  refine lv_iload_n hx hb d_MD_within_1 rfl (lv_at hl 1 rfl) ?_
  refine lv_icmp_lt (tgt := 14) hx hb d_MD_within_2 (by decide) (fun c2 => ?_) (fun c2 => ?_)
  · refine lv_iconst (v := nI 0) hx hb d_MD_within_14 (by decide) ?_
    exact W.zret (v := nI 0) hx hb hr (by decide) (fun t9 e1 hW => ⟨⟨_, (), rfl, rfl, PR.at F hP hD hS e1 hW.alike⟩, hS.F e1⟩) hS.2.2 d_MD_within_15
  · refine lv_iload_n hx hb d_MD_within_5 rfl (lv_at hl 0 rfl) ?_
    refine lv_iload_n hx hb d_MD_within_6 rfl (lv_at hl 2 rfl) ?_
    refine lv_icmp_gt (tgt := 14) hx hb d_MD_within_7 (by decide) (fun c7 => ?_) (fun c7 => ?_)
    · refine lv_iconst (v := nI 0) hx hb d_MD_within_14 (by decide) ?_
      exact W.zret (v := nI 0) hx hb hr (by decide) (fun t9 e1 hW => ⟨⟨_, (), rfl, rfl, PR.at F hP hD hS e1 hW.alike⟩, hS.F e1⟩) hS.2.2 d_MD_within_15
    · exact (h1 (wi_of h2 h3 c2 c7)).elim
set_option maxRecDepth 100000 in
set_option maxHeartbeats 4000000 in
theorem c_MD_isRegister (l : Launch) (g : Gx) (X : va_W) (k : Nat) (h1 : k < 8) : Met l y_MD_isRegister (w_MD_isRegister :: TW) rm_MD_isRegister (va_Pc [.int (nI k)] (PR g (X))) (va_Qi (fun r9 (u9 : Unit) => r9 = nI 1) (fun u9 t9 => PR g (X) t9) (gA g)) 0 0 (gA g) := by
  refine mt_of (by decide) (Nat.le_of_ble_eq_true rfl) ?_
  intro p e s m below meth c ls hx hb hr hml hlk hown ht hnm F hP hD hl
  have hl : lv_has ls 1 [(0, .int (nI k))] := hl
  have hS : va_S (gA g) s.heap s.heap [] := va_S.rf
  refine lv_iload_n hx hb d_MD_isRegister_0 rfl (lv_at hl 0 rfl) ?_
  refine lv_iconst (v := nI 0) hx hb d_MD_isRegister_1 (by decide) ?_
  refine lv_bipush (v := nI 7) hx hb d_MD_isRegister_2 (by decide) ?_
  refine pc_Si (As := [.int (nI k), .int (nI 0), .int (nI 7)]) (rest := []) hx hb (hml.trans hl.1.symm) hown ht F hP hD hS (c_MD_within l g (X) k 0 7 (by omega) (by omega) (by omega)) v_MD_within tw_521 ⟨rfl, rfl⟩ ⟨by decide, by decide⟩ rfl rfl (Nat.le_of_ble_eq_true rfl) ⟨Nat.zero_le _, Nat.zero_le _⟩ d_MD_isRegister_4 (fun r9 u9 H locs hq hP hD hS => ?_)
  subst hq
  exact W.zret (v := nI 1) hx hb hr (by decide) (fun t9 e1 hW => ⟨⟨_, (), rfl, rfl, PR.at F hP hD hS e1 hW.alike⟩, hS.F e1⟩) hS.2.2 d_MD_isRegister_7
set_option maxRecDepth 100000 in
set_option maxHeartbeats 4000000 in
theorem c_MD_isRegister_0 (l : Launch) (g : Gx) (X : va_W) (x : Int32) (h1 : ¬ inR x 8) : Met l y_MD_isRegister (w_MD_isRegister :: TW) rm_MD_isRegister (va_Pc [.int x] (PR g (X))) (va_Qi (fun r9 (u9 : Unit) => r9 = nI 0) (fun u9 t9 => PR g (X) t9) (gA g)) 0 0 (gA g) := by
  refine mt_of (by decide) (Nat.le_of_ble_eq_true rfl) ?_
  intro p e s m below meth c ls hx hb hr hml hlk hown ht hnm F hP hD hl
  have hl : lv_has ls 1 [(0, .int x)] := hl
  have hS : va_S (gA g) s.heap s.heap [] := va_S.rf
  refine lv_iload_n hx hb d_MD_isRegister_0 rfl (lv_at hl 0 rfl) ?_
  refine lv_iconst (v := nI 0) hx hb d_MD_isRegister_1 (by decide) ?_
  refine lv_bipush (v := nI 7) hx hb d_MD_isRegister_2 (by decide) ?_
  refine pc_Si (As := [.int x, .int (nI 0), .int (nI 7)]) (rest := []) hx hb (hml.trans hl.1.symm) hown ht F hP hD hS (c_MD_within_0 l g (X) x 0 7 (fun h => h1 (inR_le h)) (by decide) (by decide)) v_MD_within tw_521 ⟨rfl, rfl⟩ ⟨by decide, by decide⟩ rfl rfl (Nat.le_of_ble_eq_true rfl) ⟨Nat.zero_le _, Nat.zero_le _⟩ d_MD_isRegister_4 (fun r9 u9 H locs hq hP hD hS => ?_)
  subst hq
  exact W.zret (v := nI 0) hx hb hr (by decide) (fun t9 e1 hW => ⟨⟨_, (), rfl, rfl, PR.at F hP hD hS e1 hW.alike⟩, hS.F e1⟩) hS.2.2 d_MD_isRegister_7
set_option maxRecDepth 100000 in
set_option maxHeartbeats 4000000 in
theorem c_MD_at (l : Launch) (g : Gx) (X : va_W) (t : Int64) (a : Nat) (h1 : a < 64) : Met l y_MD_at (w_MD_at :: TW) rm_MD_at (va_Pc [.long t, .int (nI a)] (PR g (X))) (va_Qi (fun r9 (u9 : Unit) => r9 = bI (bt t a = true)) (fun u9 t9 => PR g (X) t9) (gA g)) 0 0 (gA g) := by
  refine mt_of (by decide) (Nat.le_of_ble_eq_true rfl) ?_
  intro p e s m below meth c ls hx hb hr hml hlk hown ht hnm F hP hD hl
  have hl : lv_has ls 3 [(0, .long t), (2, .int (nI a))] := hl
  have hS : va_S (gA g) s.heap s.heap [] := va_S.rf
  refine lv_lload_n hx hb d_MD_at_0 rfl (lv_at hl 0 rfl) ?_
  refine lv_iload_n hx hb d_MD_at_1 rfl (lv_at hl 1 rfl) ?_
  refine lv_lshr hx hb d_MD_at_2 rfl ?_
  refine lv_lconst (v := 1) hx hb d_MD_at_3 (by decide) ?_
  refine lv_land hx hb d_MD_at_4 ?_
  refine lv_lconst (v := 1) hx hb d_MD_at_5 (by decide) ?_
  refine W.lcmp hx hb d_MD_at_6 ?_
  refine lv_if_ne (tgt := 14) hx hb d_MD_at_7 (by decide) (fun c7 => ?_) (fun c7 => ?_)
  · refine lv_iconst (v := nI 0) hx hb d_MD_at_14 (by decide) ?_
    exact W.zret (v := nI 0) hx hb hr (by decide) (fun t9 e1 hW => ⟨⟨_, (), rfl, (bI_f (fun h => c7 ((at_eqS h1 t).mpr h))), PR.at F hP hD hS e1 hW.alike⟩, hS.F e1⟩) hS.2.2 d_MD_at_15
  · refine lv_iconst (v := nI 1) hx hb d_MD_at_10 (by decide) ?_
    refine lv_goto (tgt := 15) hx hb d_MD_at_11 (by decide) ?_
    exact W.zret (v := nI 1) hx hb hr (by decide) (fun t9 e1 hW => ⟨⟨_, (), rfl, (bI_t ((at_eqS h1 t).mp c7)), PR.at F hP hD hS e1 hW.alike⟩, hS.F e1⟩) hS.2.2 d_MD_at_15
set_option maxRecDepth 100000 in
set_option maxHeartbeats 4000000 in
theorem c_MD_variableTable (l : Launch) (g : Gx) (X : va_W) (v : Nat) (h1 : v < 6) : Met l y_MD_variableTable (w_MD_variableTable :: TW) rm_MD_variableTable (va_Pc [.int (nI v)] (PR g (X))) (va_Ql (fun r9 (u9 : Unit) => r9 = mk6 v) (fun u9 t9 => PR g (X) t9) (gA g)) 0 0 (gA g) := by
  refine mt_of (by decide) (Nat.le_of_ble_eq_true rfl) ?_
  intro p e s m below meth c ls hx hb hr hml hlk hown ht hnm F hP hD hl
  have hl : lv_has ls 4 [(0, .int (nI v))] := hl
  have hS : va_S (gA g) s.heap s.heap [] := va_S.rf
  refine lv_lconst (v := 0) hx hb d_MD_variableTable_0 (by decide) ?_
  refine lv_lstore_n (lv' := [(1, .long 0), (0, .int (nI v))]) hx hb d_MD_variableTable_1 rfl hl (by decide) rfl (fun ls hl => ?_)
  refine lv_iconst (v := nI 0) hx hb d_MD_variableTable_2 (by decide) ?_
  refine lv_istore_n (lv' := [(3, .int (nI 0)), (1, .long 0), (0, .int (nI v))]) hx hb d_MD_variableTable_3 rfl hl (by decide) rfl (fun ls hl => ?_)
  have lp4 : ∀ (j4 : Nat) (i : Nat) (H : Heap) (locs : List Loc) (ls : Array Slot), i + j4 = 64 → va_P g.1 cl (X) H → va_D (gA g) (X) → va_S (gA g) s.heap H locs → lv_has ls 4 [(3, .int (nI i)), (1, .long (vtF v i)), (0, .int (nI v))] → W p l e rm_MD_variableTable s m [.int (nI v)].toArray below meth c H locs 0 0 (MQ below (va_Ql (fun r9 (u9 : Unit) => r9 = mk6 v) (fun u9 t9 => PR g (X) t9) (gA g)) [.int (nI v)].toArray s 0 0 (gA g)) (F0 m 4 ls []) := by
    intro j4
    induction j4 with
    | zero =>
      intro i H locs ls hj4 hP hD hS hl
      refine lv_iload_n hx hb d_MD_variableTable_4 rfl (lv_at hl 0 rfl) ?_
      refine lv_bipush (v := nI 64) hx hb d_MD_variableTable_5 (by decide) ?_
      refine rc_ge (tgt := 37) hx hb (by omega) (by omega) d_MD_variableTable_7 (by decide) (fun c7 => ?_) (fun c7 => ?_)
      · refine lv_lload_n hx hb d_MD_variableTable_37 rfl (lv_at hl 1 rfl) ?_
        exact W.lret (v := vtF v i) hx hb hr (fun t9 e1 hW => ⟨⟨_, (), rfl, (by rw [← vt_mk v h1, show i = 64 by omega]), PR.at F hP hD hS e1 hW.alike⟩, hS.F e1⟩) hS.2.2 d_MD_variableTable_38
      · exact (by omega : False).elim
    | succ j4 ih4 =>
      intro i H locs ls hj4 hP hD hS hl
      refine lv_iload_n hx hb d_MD_variableTable_4 rfl (lv_at hl 0 rfl) ?_
      refine lv_bipush (v := nI 64) hx hb d_MD_variableTable_5 (by decide) ?_
      refine rc_ge (tgt := 37) hx hb (by omega) (by omega) d_MD_variableTable_7 (by decide) (fun c7 => ?_) (fun c7 => ?_)
      · exact (by omega : False).elim
      · refine lv_iload_n hx hb d_MD_variableTable_10 rfl (lv_at hl 0 rfl) ?_
        refine lv_iconst (v := nI 5) hx hb d_MD_variableTable_11 (by decide) ?_
        refine lv_iload_n hx hb d_MD_variableTable_12 rfl (lv_at hl 2 rfl) ?_
        refine rn_sub hx hb (by omega) d_MD_variableTable_13 ?_
        refine lv_ishr hx hb d_MD_variableTable_14 ?_
        refine lv_iconst (v := nI 1) hx hb d_MD_variableTable_15 (by decide) ?_
        refine lv_iand hx hb d_MD_variableTable_16 ?_
        refine lv_iconst (v := nI 1) hx hb d_MD_variableTable_17 (by decide) ?_
        refine lv_icmp_ne (tgt := 29) hx hb d_MD_variableTable_18 (by decide) (fun c18 => ?_) (fun c18 => ?_)
        · refine lv_lload_n hx hb d_MD_variableTable_29 rfl (lv_at hl 1 rfl) ?_
          refine lv_lstore_n (lv' := [(1, .long (vtF v i)), (3, .int (nI i)), (0, .int (nI v))]) hx hb d_MD_variableTable_30 rfl hl (by decide) rfl (fun ls hl => ?_)
          refine lv_iinc (lv' := [(3, .int (nI (i + 1))), (1, .long (vtF v i)), (0, .int (nI v))]) hx hb d_MD_variableTable_31 hl (k := 1) rfl (nI_1 _) (by decide) rfl (fun ls hl => ?_)
          refine lv_goto (tgt := 4) hx hb d_MD_variableTable_34 (by decide) ?_
          have hl := lv_sub hl [0, 1, 2] rfl
          have hl : lv_has ls 4 [(3, .int (nI ((i + 1)))), (1, .long (vtF v (i + 1))), (0, .int (nI v))] := by rw [show vtF v (i + 1) = _ from if_neg c18]; exact hl
          exact ih4 (i + 1) H locs ls (by omega)  hP hD hS hl
        · refine lv_lload_n hx hb d_MD_variableTable_21 rfl (lv_at hl 1 rfl) ?_
          refine lv_lconst (v := 1) hx hb d_MD_variableTable_22 (by decide) ?_
          refine lv_iload_n hx hb d_MD_variableTable_23 rfl (lv_at hl 0 rfl) ?_
          refine lv_lshl hx hb d_MD_variableTable_24 rfl ?_
          refine lv_lor hx hb d_MD_variableTable_25 ?_
          refine lv_goto (tgt := 30) hx hb d_MD_variableTable_26 (by decide) ?_
          refine lv_lstore_n (lv' := [(1, .long ((vtF v i) ||| (1 <<< ((nI i).toInt64 &&& 63)))), (3, .int (nI i)), (0, .int (nI v))]) hx hb d_MD_variableTable_30 rfl hl (by decide) rfl (fun ls hl => ?_)
          refine lv_iinc (lv' := [(3, .int (nI (i + 1))), (1, .long ((vtF v i) ||| (1 <<< ((nI i).toInt64 &&& 63)))), (0, .int (nI v))]) hx hb d_MD_variableTable_31 hl (k := 1) rfl (nI_1 _) (by decide) rfl (fun ls hl => ?_)
          refine lv_goto (tgt := 4) hx hb d_MD_variableTable_34 (by decide) ?_
          have hl := lv_sub hl [0, 1, 2] rfl
          have hl : lv_has ls 4 [(3, .int (nI ((i + 1)))), (1, .long (vtF v (i + 1))), (0, .int (nI v))] := by rw [show vtF v (i + 1) = _ from if_pos c18]; exact hl
          exact ih4 (i + 1) H locs ls (by omega)  hP hD hS hl
  have hl := lv_sub hl [0, 1, 2] rfl
  have hl : lv_has ls 4 [(3, .int (nI 0)), (1, .long (vtF v 0)), (0, .int (nI v))] := hl
  exact lp4 (64 - 0) 0 _ _ ls (by omega)  hP hD hS hl
set_option maxRecDepth 100000 in
set_option maxHeartbeats 4000000 in
theorem c_MD_with (l : Launch) (g : Gx) (X : va_W) (t : Int64) (v : Nat) (x : Int64) (h1 : v < 6) : Met l y_MD_with (w_MD_with :: TW) rm_MD_with (va_Pc [.long t, .int (nI v), .long x] (PR g (X))) (va_Ql (fun r9 (u9 : Unit) => r9 = CH x (W1 t v) (W0 t v)) (fun u9 t9 => PR g (X) t9) (gA g)) 0 0 (gA g) := by
  refine mt_of (by decide) (Nat.le_of_ble_eq_true rfl) ?_
  intro p e s m below meth c ls hx hb hr hml hlk hown ht hnm F hP hD hl
  have hl : lv_has ls 10 [(0, .long t), (2, .int (nI v)), (3, .long x)] := hl
  have hS : va_S (gA g) s.heap s.heap [] := va_S.rf
  refine lv_lconst (v := 0) hx hb d_MD_with_0 (by decide) ?_
  refine lv_lstore (lv' := [(5, .long 0), (0, .long t), (2, .int (nI v)), (3, .long x)]) hx hb d_MD_with_1 hl (by decide) rfl (fun ls hl => ?_)
  refine lv_iconst (v := nI 1) hx hb d_MD_with_3 (by decide) ?_
  refine lv_iconst (v := nI 5) hx hb d_MD_with_4 (by decide) ?_
  refine lv_iload_n hx hb d_MD_with_5 rfl (lv_at hl 2 rfl) ?_
  refine rn_sub hx hb (by omega) d_MD_with_6 ?_
  refine lv_ishl hx hb d_MD_with_7 ?_
  refine lv_istore (lv' := [(7, .int ((nI 1) <<< (nI (5 - v) &&& 31))), (5, .long 0), (0, .long t), (2, .int (nI v)), (3, .long x)]) hx hb d_MD_with_8 hl (by decide) rfl (fun ls hl => ?_)
  refine lv_iconst (v := nI 0) hx hb d_MD_with_10 (by decide) ?_
  refine lv_istore (lv' := [(8, .int (nI 0)), (7, .int ((nI 1) <<< (nI (5 - v) &&& 31))), (5, .long 0), (0, .long t), (2, .int (nI v)), (3, .long x)]) hx hb d_MD_with_11 hl (by decide) rfl (fun ls hl => ?_)
  have lp13 : ∀ (j13 : Nat) (i : Nat) (H : Heap) (locs : List Loc) (ls : Array Slot), i + j13 = 64 → va_P g.1 cl (X) H → va_D (gA g) (X) → va_S (gA g) s.heap H locs → lv_has ls 10 [(8, .int (nI i)), (7, .int (nI 1 <<< (nI (5 - v) &&& 31))), (5, .long (wiF t v x i)), (0, .long t), (2, .int (nI v)), (3, .long x)] → W p l e rm_MD_with s m [.long t, .int (nI v), .long x].toArray below meth c H locs 0 0 (MQ below (va_Ql (fun r9 (u9 : Unit) => r9 = CH x (W1 t v) (W0 t v)) (fun u9 t9 => PR g (X) t9) (gA g)) [.long t, .int (nI v), .long x].toArray s 0 0 (gA g)) (F0 m 13 ls []) := by
    intro j13
    induction j13 with
    | zero =>
      intro i H locs ls hj13 hP hD hS hl
      refine lv_iload hx hb d_MD_with_13 (lv_at hl 0 rfl) ?_
      refine lv_bipush (v := nI 64) hx hb d_MD_with_15 (by decide) ?_
      refine rc_ge (tgt := 75) hx hb (by omega) (by omega) d_MD_with_17 (by decide) (fun c17 => ?_) (fun c17 => ?_)
      · refine lv_lload hx hb d_MD_with_75 (lv_at hl 2 rfl) ?_
        exact W.lret (v := wiF t v x i) hx hb hr (fun t9 e1 hW => ⟨⟨_, (), rfl, (by rw [← wi_eq h1, show i = 64 by omega]), PR.at F hP hD hS e1 hW.alike⟩, hS.F e1⟩) hS.2.2 d_MD_with_77
      · exact (by omega : False).elim
    | succ j13 ih13 =>
      intro i H locs ls hj13 hP hD hS hl
      refine lv_iload hx hb d_MD_with_13 (lv_at hl 0 rfl) ?_
      refine lv_bipush (v := nI 64) hx hb d_MD_with_15 (by decide) ?_
      refine rc_ge (tgt := 75) hx hb (by omega) (by omega) d_MD_with_17 (by decide) (fun c17 => ?_) (fun c17 => ?_)
      · exact (by omega : False).elim
      · refine lv_lload_n hx hb d_MD_with_20 rfl (lv_at hl 5 rfl) ?_
        refine lv_iload hx hb d_MD_with_21 (lv_at hl 0 rfl) ?_
        refine pc_Si (As := [.long x, .int (nI i)]) (rest := []) hx hb (hml.trans hl.1.symm) hown ht F hP hD hS (c_MD_at l g (X) x i (by omega)) v_MD_at tw_536 ⟨rfl, rfl⟩ ⟨by decide, by decide⟩ rfl rfl (Nat.le_of_ble_eq_true rfl) ⟨Nat.zero_le _, Nat.zero_le _⟩ d_MD_with_23 (fun r9 u9 H locs hq hP hD hS => ?_)
        subst hq
        refine lv_if_eq (tgt := 37) hx hb d_MD_with_26 (by decide) (fun c26 => ?_) (fun c26 => ?_)
        · refine lv_iload hx hb d_MD_with_37 (lv_at hl 0 rfl) ?_
          refine lv_iload hx hb d_MD_with_39 (lv_at hl 1 rfl) ?_
          refine lv_iconst (v := -1) hx hb d_MD_with_41 (by decide) ?_
          refine lv_ixor hx hb d_MD_with_42 ?_
          refine lv_iand hx hb d_MD_with_43 ?_
          rw [an_eq v h1 i (by omega)]
          refine lv_istore (lv' := [(9, .int (nI (i ^^^ (i &&& 2 ^ (5 - v))))), (8, .int (nI i)), (7, .int (nI 1 <<< (nI (5 - v) &&& 31))), (5, .long (wiF t v x i)), (0, .long t), (2, .int (nI v)), (3, .long x)]) hx hb d_MD_with_44 hl (by decide) rfl (fun ls hl => ?_)
          refine lv_lload_n hx hb d_MD_with_46 rfl (lv_at hl 4 rfl) ?_
          refine lv_iload hx hb d_MD_with_47 (lv_at hl 0 rfl) ?_
          refine pc_Si (As := [.long t, .int (nI (i ^^^ (i &&& 2 ^ (5 - v))))]) (rest := []) hx hb (hml.trans hl.1.symm) hown ht F hP hD hS (c_MD_at l g (X) t (i ^^^ (i &&& 2 ^ (5 - v))) (by have := mv_lt v h1 i (by omega); first | exact this.1 | exact this.2)) v_MD_at tw_536 ⟨rfl, rfl⟩ ⟨by decide, by decide⟩ rfl rfl (Nat.le_of_ble_eq_true rfl) ⟨Nat.zero_le _, Nat.zero_le _⟩ d_MD_with_49 (fun r9 u9 H locs hq hP hD hS => ?_)
          subst hq
          refine lv_if_eq (tgt := 65) hx hb d_MD_with_52 (by decide) (fun c52 => ?_) (fun c52 => ?_)
          · refine lv_lload hx hb d_MD_with_65 (lv_at hl 3 rfl) ?_
            refine lv_lstore (lv' := [(5, .long (wiF t v x i)), (9, .int (nI (i ^^^ (i &&& 2 ^ (5 - v))))), (8, .int (nI i)), (7, .int (nI 1 <<< (nI (5 - v) &&& 31))), (0, .long t), (2, .int (nI v)), (3, .long x)]) hx hb d_MD_with_67 hl (by decide) rfl (fun ls hl => ?_)
            refine lv_iinc (lv' := [(8, .int (nI (i + 1))), (5, .long (wiF t v x i)), (9, .int (nI (i ^^^ (i &&& 2 ^ (5 - v))))), (7, .int (nI 1 <<< (nI (5 - v) &&& 31))), (0, .long t), (2, .int (nI v)), (3, .long x)]) hx hb d_MD_with_69 hl (k := 2) rfl (nI_1 _) (by decide) rfl (fun ls hl => ?_)
            refine lv_goto (tgt := 13) hx hb d_MD_with_72 (by decide) ?_
            have hl := lv_sub hl [0, 3, 1, 4, 5, 6] rfl
            have hl : lv_has ls 10 [(8, .int (nI ((i + 1)))), (7, .int (nI 1 <<< (nI (5 - v) &&& 31))), (5, .long (wiF t v x (i + 1))), (0, .long t), (2, .int (nI v)), (3, .long x)] := by rw [show wiF t v x (i + 1) = _ from if_neg (by unfold mvB; rw [if_neg (bI_0.mp c26)]; exact bI_0.mp c52)]; exact hl
            exact ih13 (i + 1) H locs ls (by omega)  hP hD hS hl
          · refine lv_lload hx hb d_MD_with_55 (lv_at hl 3 rfl) ?_
            refine lv_lconst (v := 1) hx hb d_MD_with_57 (by decide) ?_
            refine lv_iload hx hb d_MD_with_58 (lv_at hl 1 rfl) ?_
            refine lv_lshl hx hb d_MD_with_60 rfl ?_
            refine lv_lor hx hb d_MD_with_61 ?_
            refine lv_goto (tgt := 67) hx hb d_MD_with_62 (by decide) ?_
            refine lv_lstore (lv' := [(5, .long ((wiF t v x i) ||| (1 <<< ((nI i).toInt64 &&& 63)))), (9, .int (nI (i ^^^ (i &&& 2 ^ (5 - v))))), (8, .int (nI i)), (7, .int (nI 1 <<< (nI (5 - v) &&& 31))), (0, .long t), (2, .int (nI v)), (3, .long x)]) hx hb d_MD_with_67 hl (by decide) rfl (fun ls hl => ?_)
            refine lv_iinc (lv' := [(8, .int (nI (i + 1))), (5, .long ((wiF t v x i) ||| (1 <<< ((nI i).toInt64 &&& 63)))), (9, .int (nI (i ^^^ (i &&& 2 ^ (5 - v))))), (7, .int (nI 1 <<< (nI (5 - v) &&& 31))), (0, .long t), (2, .int (nI v)), (3, .long x)]) hx hb d_MD_with_69 hl (k := 2) rfl (nI_1 _) (by decide) rfl (fun ls hl => ?_)
            refine lv_goto (tgt := 13) hx hb d_MD_with_72 (by decide) ?_
            have hl := lv_sub hl [0, 3, 1, 4, 5, 6] rfl
            have hl : lv_has ls 10 [(8, .int (nI ((i + 1)))), (7, .int (nI 1 <<< (nI (5 - v) &&& 31))), (5, .long (wiF t v x (i + 1))), (0, .long t), (2, .int (nI v)), (3, .long x)] := by rw [show wiF t v x (i + 1) = _ from if_pos (by unfold mvB; rw [if_neg (bI_0.mp c26)]; exact bI_n0 c52)]; exact hl
            exact ih13 (i + 1) H locs ls (by omega)  hP hD hS hl
        · refine lv_iload hx hb d_MD_with_29 (lv_at hl 0 rfl) ?_
          refine lv_iload hx hb d_MD_with_31 (lv_at hl 1 rfl) ?_
          refine lv_ior hx hb d_MD_with_33 ?_
          refine lv_goto (tgt := 44) hx hb d_MD_with_34 (by decide) ?_
          rw [or_eq v h1 i (by omega)]
          refine lv_istore (lv' := [(9, .int (nI (i ||| 2 ^ (5 - v)))), (8, .int (nI i)), (7, .int (nI 1 <<< (nI (5 - v) &&& 31))), (5, .long (wiF t v x i)), (0, .long t), (2, .int (nI v)), (3, .long x)]) hx hb d_MD_with_44 hl (by decide) rfl (fun ls hl => ?_)
          refine lv_lload_n hx hb d_MD_with_46 rfl (lv_at hl 4 rfl) ?_
          refine lv_iload hx hb d_MD_with_47 (lv_at hl 0 rfl) ?_
          refine pc_Si (As := [.long t, .int (nI (i ||| 2 ^ (5 - v)))]) (rest := []) hx hb (hml.trans hl.1.symm) hown ht F hP hD hS (c_MD_at l g (X) t (i ||| 2 ^ (5 - v)) (by have := mv_lt v h1 i (by omega); first | exact this.1 | exact this.2)) v_MD_at tw_536 ⟨rfl, rfl⟩ ⟨by decide, by decide⟩ rfl rfl (Nat.le_of_ble_eq_true rfl) ⟨Nat.zero_le _, Nat.zero_le _⟩ d_MD_with_49 (fun r9 u9 H locs hq hP hD hS => ?_)
          subst hq
          refine lv_if_eq (tgt := 65) hx hb d_MD_with_52 (by decide) (fun c52 => ?_) (fun c52 => ?_)
          · refine lv_lload hx hb d_MD_with_65 (lv_at hl 3 rfl) ?_
            refine lv_lstore (lv' := [(5, .long (wiF t v x i)), (9, .int (nI (i ||| 2 ^ (5 - v)))), (8, .int (nI i)), (7, .int (nI 1 <<< (nI (5 - v) &&& 31))), (0, .long t), (2, .int (nI v)), (3, .long x)]) hx hb d_MD_with_67 hl (by decide) rfl (fun ls hl => ?_)
            refine lv_iinc (lv' := [(8, .int (nI (i + 1))), (5, .long (wiF t v x i)), (9, .int (nI (i ||| 2 ^ (5 - v)))), (7, .int (nI 1 <<< (nI (5 - v) &&& 31))), (0, .long t), (2, .int (nI v)), (3, .long x)]) hx hb d_MD_with_69 hl (k := 2) rfl (nI_1 _) (by decide) rfl (fun ls hl => ?_)
            refine lv_goto (tgt := 13) hx hb d_MD_with_72 (by decide) ?_
            have hl := lv_sub hl [0, 3, 1, 4, 5, 6] rfl
            have hl : lv_has ls 10 [(8, .int (nI ((i + 1)))), (7, .int (nI 1 <<< (nI (5 - v) &&& 31))), (5, .long (wiF t v x (i + 1))), (0, .long t), (2, .int (nI v)), (3, .long x)] := by rw [show wiF t v x (i + 1) = _ from if_neg (by unfold mvB; rw [if_pos (bI_n0 c26)]; exact bI_0.mp c52)]; exact hl
            exact ih13 (i + 1) H locs ls (by omega)  hP hD hS hl
          · refine lv_lload hx hb d_MD_with_55 (lv_at hl 3 rfl) ?_
            refine lv_lconst (v := 1) hx hb d_MD_with_57 (by decide) ?_
            refine lv_iload hx hb d_MD_with_58 (lv_at hl 1 rfl) ?_
            refine lv_lshl hx hb d_MD_with_60 rfl ?_
            refine lv_lor hx hb d_MD_with_61 ?_
            refine lv_goto (tgt := 67) hx hb d_MD_with_62 (by decide) ?_
            refine lv_lstore (lv' := [(5, .long ((wiF t v x i) ||| (1 <<< ((nI i).toInt64 &&& 63)))), (9, .int (nI (i ||| 2 ^ (5 - v)))), (8, .int (nI i)), (7, .int (nI 1 <<< (nI (5 - v) &&& 31))), (0, .long t), (2, .int (nI v)), (3, .long x)]) hx hb d_MD_with_67 hl (by decide) rfl (fun ls hl => ?_)
            refine lv_iinc (lv' := [(8, .int (nI (i + 1))), (5, .long ((wiF t v x i) ||| (1 <<< ((nI i).toInt64 &&& 63)))), (9, .int (nI (i ||| 2 ^ (5 - v)))), (7, .int (nI 1 <<< (nI (5 - v) &&& 31))), (0, .long t), (2, .int (nI v)), (3, .long x)]) hx hb d_MD_with_69 hl (k := 2) rfl (nI_1 _) (by decide) rfl (fun ls hl => ?_)
            refine lv_goto (tgt := 13) hx hb d_MD_with_72 (by decide) ?_
            have hl := lv_sub hl [0, 3, 1, 4, 5, 6] rfl
            have hl : lv_has ls 10 [(8, .int (nI ((i + 1)))), (7, .int (nI 1 <<< (nI (5 - v) &&& 31))), (5, .long (wiF t v x (i + 1))), (0, .long t), (2, .int (nI v)), (3, .long x)] := by rw [show wiF t v x (i + 1) = _ from if_pos (by unfold mvB; rw [if_pos (bI_n0 c26)]; exact bI_n0 c52)]; exact hl
            exact ih13 (i + 1) H locs ls (by omega)  hP hD hS hl
  have hl := lv_sub hl [0, 1, 2, 3, 4, 5] rfl
  have hl : lv_has ls 10 [(8, .int (nI 0)), (7, .int (nI 1 <<< (nI (5 - v) &&& 31))), (5, .long (wiF t v x 0)), (0, .long t), (2, .int (nI v)), (3, .long x)] := hl
  exact lp13 (64 - 0) 0 _ _ ls (by omega)  hP hD hS hl
set_option maxRecDepth 100000 in
set_option maxHeartbeats 4000000 in
theorem c_MD_depends (l : Launch) (g : Gx) (X : va_W) (t : Int64) (v : Nat) (h1 : v < 6) : Met l y_MD_depends (w_MD_depends :: TW) rm_MD_depends (va_Pc [.long t, .int (nI v)] (PR g (X))) (va_Qi (fun r9 (u9 : Unit) => r9 = bI (¬ W0 t v = W1 t v)) (fun u9 t9 => PR g (X) t9) (gA g)) 0 0 (gA g) := by
  refine mt_of (by decide) (Nat.le_of_ble_eq_true rfl) ?_
  intro p e s m below meth c ls hx hb hr hml hlk hown ht hnm F hP hD hl
  have hl : lv_has ls 3 [(0, .long t), (2, .int (nI v))] := hl
  have hS : va_S (gA g) s.heap s.heap [] := va_S.rf
  refine lv_lload_n hx hb d_MD_depends_0 rfl (lv_at hl 0 rfl) ?_
  refine lv_iload_n hx hb d_MD_depends_1 rfl (lv_at hl 1 rfl) ?_
  refine lv_lconst (v := 0) hx hb d_MD_depends_2 (by decide) ?_
  refine pc_Sl (As := [.long t, .int (nI v), .long 0]) (rest := []) hx hb (hml.trans hl.1.symm) hown ht F hP hD hS (c_MD_with l g (X) t v 0 (by omega)) v_MD_with tw_547 ⟨rfl, rfl⟩ ⟨by decide, by decide⟩ rfl rfl (Nat.le_of_ble_eq_true rfl) ⟨Nat.zero_le _, Nat.zero_le _⟩ d_MD_depends_3 (fun r9 u9 H locs hq hP hD hS => ?_)
  subst hq
  refine lv_lload_n hx hb d_MD_depends_6 rfl (lv_at hl 0 rfl) ?_
  refine lv_iload_n hx hb d_MD_depends_7 rfl (lv_at hl 1 rfl) ?_
  refine lv_ldc2 (v := (-1)) hx hb hown (ht _ tw_527) d_MD_depends_8 ?_
  refine pc_Sl (As := [.long t, .int (nI v), .long (-1)]) (rest := [.long (CH 0 (W1 t v) (W0 t v))]) hx hb (hml.trans hl.1.symm) hown ht F hP hD hS (c_MD_with l g (X) t v (-1) (by omega)) v_MD_with tw_547 ⟨rfl, rfl⟩ ⟨by decide, by decide⟩ rfl rfl (Nat.le_of_ble_eq_true rfl) ⟨Nat.zero_le _, Nat.zero_le _⟩ d_MD_depends_11 (fun r9 u9 H locs hq hP hD hS => ?_)
  subst hq
  rw [CH_0, CH_m]
  refine W.lcmp hx hb d_MD_depends_14 ?_
  refine lv_if_eq (tgt := 22) hx hb d_MD_depends_15 (by decide) (fun c15 => ?_) (fun c15 => ?_)
  · refine lv_iconst (v := nI 0) hx hb d_MD_depends_22 (by decide) ?_
    exact W.zret (v := nI 0) hx hb hr (by decide) (fun t9 e1 hW => ⟨⟨_, (), rfl, (bI_f (fun h => h ((lg_cmp_eq _ _).mp c15))), PR.at F hP hD hS e1 hW.alike⟩, hS.F e1⟩) hS.2.2 d_MD_depends_23
  · refine lv_iconst (v := nI 1) hx hb d_MD_depends_18 (by decide) ?_
    refine lv_goto (tgt := 23) hx hb d_MD_depends_19 (by decide) ?_
    exact W.zret (v := nI 1) hx hb hr (by decide) (fun t9 e1 hW => ⟨⟨_, (), rfl, (bI_t (fun h => c15 ((lg_cmp_eq _ _).mpr h))), PR.at F hP hD hS e1 hW.alike⟩, hS.F e1⟩) hS.2.2 d_MD_depends_23
set_option maxRecDepth 100000 in
set_option maxHeartbeats 4000000 in
theorem c_MD_thrown (l : Launch) (g : Gx) (ma : Nat → Nat) (cd : Int32) (tb : Nat → Int64) (hm : Nat → Int32) (oo : Nat → Int32) (kp : Nat → Int32) (td : Int32) (tt : Nat → Int32) (ct : Int32) (fd : Nat → Int64) (os : Int32) (oq : Nat → Int32) (vs : Int32) (sk : Nat → Int64) (X : va_W) : Met l y_MD_thrown (w_MD_thrown :: TW) rm_MD_thrown (va_Pc [.ref (ma 0)] (PR g (MW g ma cd tb hm oo kp td tt ct fd os oq vs sk ++ X))) (va_Qi (fun r9 (u9 : Unit) => r9 = cd) (fun u9 t9 => PR g (MW g ma cd tb hm oo kp td tt ct fd os oq vs sk ++ X) t9) (gA g)) 0 0 (gA g) := by
  refine mt_of (by decide) (Nat.le_of_ble_eq_true rfl) ?_
  intro p e s m below meth c ls hx hb hr hml hlk hown ht hnm F hP hD hl
  have hl : lv_has ls 1 [(0, .ref (ma 0))] := hl
  have hS : va_S (gA g) s.heap s.heap [] := va_S.rf
  refine lv_aload_n hx hb d_MD_thrown_0 rfl (lv_at hl 0 rfl) ?_
  refine va_get (ci := 4) (v := .int cd) (C := R_MD) (T := T_MD) (N := 13) hx hb ht i_MD hown F.2.1 hP 0 rfl rfl 0 (by decide) (ht _ tw_470) (fun _ h9 => h9) rfl d_MD_thrown_1 ?_
  exact W.iret (v := cd) hx hb hr (fun t9 e1 hW => ⟨⟨_, (), rfl, rfl, PR.at F hP hD hS e1 hW.alike⟩, hS.F e1⟩) hS.2.2 d_MD_thrown_4
set_option maxRecDepth 100000 in
set_option maxHeartbeats 4000000 in
theorem c_MD_put (l : Launch) (g : Gx) (ma : Nat → Nat) (cd : Int32) (tb : Nat → Int64) (hm : Nat → Int32) (oo : Nat → Int32) (kp : Nat → Int32) (td : Int32) (tt : Nat → Int32) (ct : Int32) (fd : Nat → Int64) (os : Int32) (oq : Nat → Int32) (vs : Int32) (sk : Nat → Int64) (X : va_W) (k : Nat) (t : Int64) (h1 : k < 8) : Met l y_MD_put (w_MD_put :: TW) rm_MD_put (va_Pc [.ref (ma 0), .int (nI k), .long t] (PR g (MW g ma cd tb hm oo kp td tt ct fd os oq vs sk ++ X))) (va_Qv (fun (u9 : Unit) => True) (fun u9 t9 => PR g (MW g ma cd (vp_updL tb k t) (upd hm k (nI 1)) oo kp td tt ct fd os oq vs sk ++ X) t9) (gA g)) 0 0 (gA g) := by
  refine mt_of (by decide) (Nat.le_of_ble_eq_true rfl) ?_
  intro p e s m below meth c ls hx hb hr hml hlk hown ht hnm F hP hD hl
  have hl : lv_has ls 4 [(0, .ref (ma 0)), (1, .int (nI k)), (2, .long t)] := hl
  have hS : va_S (gA g) s.heap s.heap [] := va_S.rf
  refine lv_aload_n hx hb d_MD_put_0 rfl (lv_at hl 0 rfl) ?_
  refine va_get (ci := 4) (v := .ref (ma 1)) (C := R_MD) (T := T_MD) (N := 13) hx hb ht i_MD hown F.2.1 hP 0 rfl rfl 1 (by decide) (ht _ tw_471) (fun _ h9 => h9) rfl d_MD_put_1 ?_
  refine lv_iload_n hx hb d_MD_put_4 rfl (lv_at hl 1 rfl) ?_
  refine lv_lload_n hx hb d_MD_put_5 rfl (lv_at hl 2 rfl) ?_
  refine wa_J hx hb F hP hD hS 1 rfl (by omega) (by decide) d_MD_put_6 (fun H locs hP hD hS => ?_)
  have hP : va_P g.1 cl (MW g ma cd (vp_updL tb k t) hm oo kp td tt ct fd os oq vs sk ++ X) H := hP
  have hD : va_D (gA g) (MW g ma cd (vp_updL tb k t) hm oo kp td tt ct fd os oq vs sk ++ X) := hD
  refine lv_aload_n hx hb d_MD_put_7 rfl (lv_at hl 0 rfl) ?_
  refine va_get (ci := 4) (v := .ref (ma 2)) (C := R_MD) (T := T_MD) (N := 13) hx hb ht i_MD hown F.2.1 hP 0 rfl rfl 2 (by decide) (ht _ tw_472) (fun _ h9 => h9) rfl d_MD_put_8 ?_
  refine lv_iload_n hx hb d_MD_put_11 rfl (lv_at hl 1 rfl) ?_
  refine lv_iconst (v := nI 1) hx hb d_MD_put_12 (by decide) ?_
  refine wa_Z (y := nI 1) hx hb F hP hD hS 2 rfl (by decide) (by omega) (by decide) d_MD_put_13 (fun H locs hP hD hS => ?_)
  have hP : va_P g.1 cl (MW g ma cd (vp_updL tb k t) (upd hm k (nI 1)) oo kp td tt ct fd os oq vs sk ++ X) H := hP
  have hD : va_D (gA g) (MW g ma cd (vp_updL tb k t) (upd hm k (nI 1)) oo kp td tt ct fd os oq vs sk ++ X) := hD
  exact W.vret hx hb hr (fun t9 e1 hW => ⟨⟨(), rfl, trivial, PR.at F hP hD hS e1 hW.alike⟩, hS.F e1⟩) hS.2.2 d_MD_put_14
