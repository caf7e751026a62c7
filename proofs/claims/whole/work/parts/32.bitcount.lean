/-! Long.bitCount counts bits: numbers as fields of bits. -/
def fb (B : Nat) : List Nat → Nat
  | [] => 0
  | d :: r => d + B * fb B r
theorem and_fld {n x y X Y : Nat} (hx : x < 2 ^ n) (hy : y < 2 ^ n) : (x + 2 ^ n * X) &&& (y + 2 ^ n * Y) = (x &&& y) + 2 ^ n * (X &&& Y) := by
  have hp : 0 < 2 ^ n := Nat.two_pow_pos n
  have h1 : ((x + 2 ^ n * X) &&& (y + 2 ^ n * Y)) % 2 ^ n = x &&& y := by
    rw [Nat.and_mod_two_pow, Nat.add_mul_mod_self_left, Nat.add_mul_mod_self_left, Nat.mod_eq_of_lt hx, Nat.mod_eq_of_lt hy]
  have h2 : ((x + 2 ^ n * X) &&& (y + 2 ^ n * Y)) / 2 ^ n = X &&& Y := by
    rw [Nat.and_div_two_pow, Nat.add_mul_div_left _ _ hp, Nat.add_mul_div_left _ _ hp, Nat.div_eq_of_lt hx, Nat.div_eq_of_lt hy, Nat.zero_add, Nat.zero_add]
  have h3 := Nat.mod_add_div ((x + 2 ^ n * X) &&& (y + 2 ^ n * Y)) (2 ^ n)
  rw [h1, h2] at h3
  exact h3.symm
def evs : List Nat → List Nat
  | [] => []
  | [a] => [a]
  | a :: _ :: r => a :: evs r
def ods : List Nat → List Nat
  | [] => []
  | [_] => []
  | _ :: b :: r => b :: ods r
def prs : List Nat → List Nat
  | [] => []
  | [a] => [a]
  | a :: b :: r => (a + b) :: prs r
def sm (l : List Nat) : Nat := l.foldr (fun a b => a + b) 0
theorem sm_prs : ∀ l, sm (prs l) = sm l
  | [] => rfl
  | [a] => rfl
  | a :: b :: r => by
    show (a + b) + sm (prs r) = a + (b + sm r)
    rw [sm_prs r]; omega
theorem len_prs : ∀ (n : Nat) (l : List Nat), l.length = 2 * n → (prs l).length = n
  | 0, [], _ => rfl
  | n + 1, [], h => by simp at h
  | n + 1, [a], h => by simp at h; omega
  | n + 1, a :: b :: r, h => by
    show (prs r).length + 1 = n + 1
    rw [len_prs n r (by simp at h; omega)]
  | 0, a :: r, h => by simp at h
theorem prs_le {m : Nat} : ∀ (l : List Nat), (∀ d, d ∈ l → d ≤ m) → ∀ d, d ∈ prs l → d ≤ 2 * m
  | [], _, d, hd => absurd hd List.not_mem_nil
  | [a], h, d, hd => by
    have := h d hd; omega
  | a :: b :: r, h, d, hd => by
    rcases List.mem_cons.mp hd with e | hd
    · have h1 := h a List.mem_cons_self
      have h2 := h b (List.mem_cons_of_mem _ List.mem_cons_self)
      omega
    · exact prs_le r (fun x hx => h x (List.mem_cons_of_mem _ (List.mem_cons_of_mem _ hx))) d hd
theorem pr_2 : ∀ l, fb 2 l = fb 4 (evs l) + 2 * fb 4 (ods l)
  | [] => rfl
  | [a] => by show a + 2 * 0 = (a + 4 * 0) + 2 * 0; omega
  | a :: b :: r => by
    have ih := pr_2 r
    show a + 2 * (b + 2 * fb 2 r) = (a + 4 * fb 4 (evs r)) + 2 * (b + 4 * fb 4 (ods r))
    omega
theorem ps_2 : ∀ l, fb 4 (prs l) = fb 4 (evs l) + fb 4 (ods l)
  | [] => rfl
  | [a] => rfl
  | a :: b :: r => by
    have ih := ps_2 r
    show (a + b) + 4 * fb 4 (prs r) = (a + 4 * fb 4 (evs r)) + (b + 4 * fb 4 (ods r))
    omega
theorem an_2 : ∀ (n : Nat) (l : List Nat), (∀ d, d ∈ l → d < 2) → l.length = 2 * n → fb 2 l &&& fb 4 (List.replicate n (2 - 1)) = fb 4 (evs l)
  | 0, [], _, _ => rfl
  | n + 1, [], _, h => by simp at h
  | n + 1, [a], _, h => by simp at h; omega
  | 0, a :: r, _, h => by simp at h
  | n + 1, a :: b :: r, hd, h => by
    have ha := hd a List.mem_cons_self
    have hb := hd b (List.mem_cons_of_mem _ List.mem_cons_self)
    have ih := an_2 n r (fun x hx => hd x (List.mem_cons_of_mem _ (List.mem_cons_of_mem _ hx))) (by simp at h; omega)
    have e1 : fb 2 (a :: b :: r) = (a + 2 * b) + 2 ^ 2 * fb 2 r := by
      show a + 2 * (b + 2 * fb 2 r) = (a + 2 * b) + 2 ^ 2 * fb 2 r
      omega
    have e2 : fb 4 (List.replicate (n + 1) (2 - 1)) = (2 - 1) + 2 ^ 2 * fb 4 (List.replicate n (2 - 1)) := rfl
    rw [e1, e2, and_fld (by omega) (by omega), ih]
    have e3 : (a + 2 * b) &&& (2 - 1) = a := by
      rw [show (2 - 1 : Nat) = 2 ^ 1 - 1 from rfl, Nat.and_two_pow_sub_one_eq_mod]
      omega
    rw [e3]
    rfl
theorem ao_2 : ∀ (n : Nat) (l : List Nat), (∀ d, d ∈ l → d < 2) → l.length = 2 * n → fb 2 l / 2 &&& fb 4 (List.replicate n (2 - 1)) = fb 4 (ods l)
  | 0, [], _, _ => rfl
  | n + 1, [], _, h => by simp at h
  | n + 1, [a], _, h => by simp at h; omega
  | 0, a :: r, _, h => by simp at h
  | n + 1, a :: b :: r, hd, h => by
    have ha := hd a List.mem_cons_self
    have hb := hd b (List.mem_cons_of_mem _ List.mem_cons_self)
    have ih := ao_2 n r (fun x hx => hd x (List.mem_cons_of_mem _ (List.mem_cons_of_mem _ hx))) (by simp at h; omega)
    have e1 : fb 2 (a :: b :: r) / 2 = (b + 2 * (fb 2 r % 2)) + 2 ^ 2 * (fb 2 r / 2) := by
      show (a + 2 * (b + 2 * fb 2 r)) / 2 = _
      omega
    have e2 : fb 4 (List.replicate (n + 1) (2 - 1)) = (2 - 1) + 2 ^ 2 * fb 4 (List.replicate n (2 - 1)) := rfl
    rw [e1, e2, and_fld (by omega) (by omega), ih]
    have e3 : (b + 2 * (fb 2 r % 2)) &&& (2 - 1) = b := by
      rw [show (2 - 1 : Nat) = 2 ^ 1 - 1 from rfl, Nat.and_two_pow_sub_one_eq_mod]
      omega
    rw [e3]
    rfl
theorem pr_4 : ∀ l, fb 4 l = fb 16 (evs l) + 4 * fb 16 (ods l)
  | [] => rfl
  | [a] => by show a + 4 * 0 = (a + 16 * 0) + 4 * 0; omega
  | a :: b :: r => by
    have ih := pr_4 r
    show a + 4 * (b + 4 * fb 4 r) = (a + 16 * fb 16 (evs r)) + 4 * (b + 16 * fb 16 (ods r))
    omega
theorem ps_4 : ∀ l, fb 16 (prs l) = fb 16 (evs l) + fb 16 (ods l)
  | [] => rfl
  | [a] => rfl
  | a :: b :: r => by
    have ih := ps_4 r
    show (a + b) + 16 * fb 16 (prs r) = (a + 16 * fb 16 (evs r)) + (b + 16 * fb 16 (ods r))
    omega
theorem an_4 : ∀ (n : Nat) (l : List Nat), (∀ d, d ∈ l → d < 4) → l.length = 2 * n → fb 4 l &&& fb 16 (List.replicate n (4 - 1)) = fb 16 (evs l)
  | 0, [], _, _ => rfl
  | n + 1, [], _, h => by simp at h
  | n + 1, [a], _, h => by simp at h; omega
  | 0, a :: r, _, h => by simp at h
  | n + 1, a :: b :: r, hd, h => by
    have ha := hd a List.mem_cons_self
    have hb := hd b (List.mem_cons_of_mem _ List.mem_cons_self)
    have ih := an_4 n r (fun x hx => hd x (List.mem_cons_of_mem _ (List.mem_cons_of_mem _ hx))) (by simp at h; omega)
    have e1 : fb 4 (a :: b :: r) = (a + 4 * b) + 2 ^ 4 * fb 4 r := by
      show a + 4 * (b + 4 * fb 4 r) = (a + 4 * b) + 2 ^ 4 * fb 4 r
      omega
    have e2 : fb 16 (List.replicate (n + 1) (4 - 1)) = (4 - 1) + 2 ^ 4 * fb 16 (List.replicate n (4 - 1)) := rfl
    rw [e1, e2, and_fld (by omega) (by omega), ih]
    have e3 : (a + 4 * b) &&& (4 - 1) = a := by
      rw [show (4 - 1 : Nat) = 2 ^ 2 - 1 from rfl, Nat.and_two_pow_sub_one_eq_mod]
      omega
    rw [e3]
    rfl
theorem ao_4 : ∀ (n : Nat) (l : List Nat), (∀ d, d ∈ l → d < 4) → l.length = 2 * n → fb 4 l / 4 &&& fb 16 (List.replicate n (4 - 1)) = fb 16 (ods l)
  | 0, [], _, _ => rfl
  | n + 1, [], _, h => by simp at h
  | n + 1, [a], _, h => by simp at h; omega
  | 0, a :: r, _, h => by simp at h
  | n + 1, a :: b :: r, hd, h => by
    have ha := hd a List.mem_cons_self
    have hb := hd b (List.mem_cons_of_mem _ List.mem_cons_self)
    have ih := ao_4 n r (fun x hx => hd x (List.mem_cons_of_mem _ (List.mem_cons_of_mem _ hx))) (by simp at h; omega)
    have e1 : fb 4 (a :: b :: r) / 4 = (b + 4 * (fb 4 r % 4)) + 2 ^ 4 * (fb 4 r / 4) := by
      show (a + 4 * (b + 4 * fb 4 r)) / 4 = _
      omega
    have e2 : fb 16 (List.replicate (n + 1) (4 - 1)) = (4 - 1) + 2 ^ 4 * fb 16 (List.replicate n (4 - 1)) := rfl
    rw [e1, e2, and_fld (by omega) (by omega), ih]
    have e3 : (b + 4 * (fb 4 r % 4)) &&& (4 - 1) = b := by
      rw [show (4 - 1 : Nat) = 2 ^ 2 - 1 from rfl, Nat.and_two_pow_sub_one_eq_mod]
      omega
    rw [e3]
    rfl
theorem pr_16 : ∀ l, fb 16 l = fb 256 (evs l) + 16 * fb 256 (ods l)
  | [] => rfl
  | [a] => by show a + 16 * 0 = (a + 256 * 0) + 16 * 0; omega
  | a :: b :: r => by
    have ih := pr_16 r
    show a + 16 * (b + 16 * fb 16 r) = (a + 256 * fb 256 (evs r)) + 16 * (b + 256 * fb 256 (ods r))
    omega
theorem ps_16 : ∀ l, fb 256 (prs l) = fb 256 (evs l) + fb 256 (ods l)
  | [] => rfl
  | [a] => rfl
  | a :: b :: r => by
    have ih := ps_16 r
    show (a + b) + 256 * fb 256 (prs r) = (a + 256 * fb 256 (evs r)) + (b + 256 * fb 256 (ods r))
    omega
theorem an_16 : ∀ (n : Nat) (l : List Nat), (∀ d, d ∈ l → d < 16) → l.length = 2 * n → fb 16 l &&& fb 256 (List.replicate n (16 - 1)) = fb 256 (evs l)
  | 0, [], _, _ => rfl
  | n + 1, [], _, h => by simp at h
  | n + 1, [a], _, h => by simp at h; omega
  | 0, a :: r, _, h => by simp at h
  | n + 1, a :: b :: r, hd, h => by
    have ha := hd a List.mem_cons_self
    have hb := hd b (List.mem_cons_of_mem _ List.mem_cons_self)
    have ih := an_16 n r (fun x hx => hd x (List.mem_cons_of_mem _ (List.mem_cons_of_mem _ hx))) (by simp at h; omega)
    have e1 : fb 16 (a :: b :: r) = (a + 16 * b) + 2 ^ 8 * fb 16 r := by
      show a + 16 * (b + 16 * fb 16 r) = (a + 16 * b) + 2 ^ 8 * fb 16 r
      omega
    have e2 : fb 256 (List.replicate (n + 1) (16 - 1)) = (16 - 1) + 2 ^ 8 * fb 256 (List.replicate n (16 - 1)) := rfl
    rw [e1, e2, and_fld (by omega) (by omega), ih]
    have e3 : (a + 16 * b) &&& (16 - 1) = a := by
      rw [show (16 - 1 : Nat) = 2 ^ 4 - 1 from rfl, Nat.and_two_pow_sub_one_eq_mod]
      omega
    rw [e3]
    rfl
theorem ao_16 : ∀ (n : Nat) (l : List Nat), (∀ d, d ∈ l → d < 16) → l.length = 2 * n → fb 16 l / 16 &&& fb 256 (List.replicate n (16 - 1)) = fb 256 (ods l)
  | 0, [], _, _ => rfl
  | n + 1, [], _, h => by simp at h
  | n + 1, [a], _, h => by simp at h; omega
  | 0, a :: r, _, h => by simp at h
  | n + 1, a :: b :: r, hd, h => by
    have ha := hd a List.mem_cons_self
    have hb := hd b (List.mem_cons_of_mem _ List.mem_cons_self)
    have ih := ao_16 n r (fun x hx => hd x (List.mem_cons_of_mem _ (List.mem_cons_of_mem _ hx))) (by simp at h; omega)
    have e1 : fb 16 (a :: b :: r) / 16 = (b + 16 * (fb 16 r % 16)) + 2 ^ 8 * (fb 16 r / 16) := by
      show (a + 16 * (b + 16 * fb 16 r)) / 16 = _
      omega
    have e2 : fb 256 (List.replicate (n + 1) (16 - 1)) = (16 - 1) + 2 ^ 8 * fb 256 (List.replicate n (16 - 1)) := rfl
    rw [e1, e2, and_fld (by omega) (by omega), ih]
    have e3 : (b + 16 * (fb 16 r % 16)) &&& (16 - 1) = b := by
      rw [show (16 - 1 : Nat) = 2 ^ 4 - 1 from rfl, Nat.and_two_pow_sub_one_eq_mod]
      omega
    rw [e3]
    rfl
/-- a long as a number -/
def un (t : Int64) : Nat := t.toBitVec.toNat
theorem un_lt (t : Int64) : un t < 2 ^ 64 := t.toBitVec.isLt
theorem un_and (x y : Int64) : un (x &&& y) = un x &&& un y := by unfold un; rw [Int64.toBitVec_and, BitVec.toNat_and]
theorem un_add {x y : Int64} (h : un x + un y < 2 ^ 64) : un (x + y) = un x + un y := by
  unfold un at *
  rw [Int64.toBitVec_add, BitVec.toNat_add, Nat.mod_eq_of_lt h]
theorem un_sub {x y : Int64} (h : un y ≤ un x) : un (x - y) = un x - un y := by
  have h1 := un_lt x
  unfold un at *
  rw [Int64.toBitVec_sub, BitVec.toNat_sub]
  omega
theorem un_shr {a : Nat} (ha : a < 64) (t : Int64) : un (t.toUInt64 >>> ((nI a).toInt64.toUInt64 &&& Int64.toUInt64 63)).toInt64 = un t / 2 ^ a := by
  have hc := cnt64 a ha
  generalize ((nI a).toInt64.toUInt64 &&& Int64.toUInt64 63) = k at hc
  unfold un
  have : (t.toUInt64 >>> k).toInt64.toBitVec = t.toBitVec >>> a := by
    show (t.toUInt64 >>> k).toBitVec = _
    rw [UInt64.toBitVec_shiftRight]
    show t.toBitVec >>> (k.toBitVec % 64) = _
    rw [BitVec.ushiftRight_eq']
    congr 1
    rw [BitVec.toNat_umod, hc]
    exact Nat.mod_eq_of_lt ha
  rw [this, BitVec.toNat_ushiftRight, Nat.shiftRight_eq_div_pow]
/-- the bits of a number -/
def bL : Nat → Nat → List Nat
  | _, 0 => []
  | T, n + 1 => T % 2 :: bL (T / 2) n
theorem bL_fb : ∀ (n T : Nat), fb 2 (bL T n) = T % 2 ^ n
  | 0, T => by show 0 = T % 1; omega
  | n + 1, T => by
    show T % 2 + 2 * fb 2 (bL (T / 2) n) = T % 2 ^ (n + 1)
    rw [bL_fb n (T / 2), Nat.pow_succ, Nat.mul_comm (2 ^ n) 2, Nat.mod_mul]
theorem bL_len : ∀ (n T : Nat), (bL T n).length = n
  | 0, _ => rfl
  | n + 1, T => by show (bL (T / 2) n).length + 1 = n + 1; rw [bL_len n]
theorem bL_le : ∀ (n T d : Nat), d ∈ bL T n → d ≤ 1
  | 0, _, d, h => absurd h List.not_mem_nil
  | n + 1, T, d, h => by
    rcases List.mem_cons.mp h with e | h
    · omega
    · exact bL_le n _ d h
/-- how many of the first n bits are set -/
def cnB (t : Int64) : Nat → Nat
  | 0 => 0
  | k + 1 => if bt t k = true then cnB t k + 1 else cnB t k
theorem sm_bit : ∀ (n T : Nat), sm (bL T (n + 1)) = sm (bL T n) + (T.testBit n).toNat
  | 0, T => by
    show T % 2 + 0 = 0 + (T.testBit 0).toNat
    rw [Nat.testBit_zero]
    rcases Nat.mod_two_eq_zero_or_one T with h | h <;> rw [h] <;> rfl
  | n + 1, T => by
    show T % 2 + sm (bL (T / 2) (n + 1)) = (T % 2 + sm (bL (T / 2) n)) + (T.testBit (n + 1)).toNat
    rw [sm_bit n (T / 2), Nat.testBit_succ]; omega
theorem sm_cn (t : Int64) : ∀ n, sm (bL (un t) n) = cnB t n
  | 0 => rfl
  | n + 1 => by
    rw [sm_bit, sm_cn t n]
    have e : (un t).testBit n = bt t n := rfl
    rw [e]
    show _ = if bt t n = true then cnB t n + 1 else cnB t n
    cases bt t n <;> rfl
theorem list8 : ∀ l : List Nat, l.length = 8 → ∃ a b c d e f g h, l = [a, b, c, d, e, f, g, h]
  | [a, b, c, d, e, f, g, h], _ => ⟨a, b, c, d, e, f, g, h, rfl⟩
theorem list16 : ∀ l : List Nat, l.length = 16 → ∃ a b c d e f g h i j k m n o p q, l = [a, b, c, d, e, f, g, h, i, j, k, m, n, o, p, q]
  | [a, b, c, d, e, f, g, h, i, j, k, m, n, o, p, q], _ => ⟨a, b, c, d, e, f, g, h, i, j, k, m, n, o, p, q, rfl⟩
theorem mask5 : un 6148914691236517205 = fb 4 (List.replicate 32 (2 - 1)) := by decide +kernel
theorem mask3 : un 3689348814741910323 = fb 16 (List.replicate 16 (4 - 1)) := by decide +kernel
theorem maskf : un 1085102592571150095 = fb 256 (List.replicate 8 (16 - 1)) := by decide +kernel
theorem bc1_eq {t : Int64} {l : List Nat} (h : un t = fb 2 l) (hl : l.length = 64) (hd : ∀ d, d ∈ l → d ≤ 1) : un (bc1 t) = fb 4 (prs l) := by
  unfold bc1
  have h1 : un ((t.toUInt64 >>> ((nI 1).toInt64.toUInt64 &&& Int64.toUInt64 63)).toInt64 &&& 6148914691236517205) = fb 4 (ods l) := by
    rw [un_and, un_shr (by decide), mask5, h]
    exact ao_2 32 l (fun d hx => by have := hd d hx; omega) hl
  have h2 := pr_2 l
  rw [un_sub (by rw [h1, h, h2]; omega), h1, h, h2, ps_2]
  omega
theorem bc2_eq {t : Int64} {l : List Nat} (h : un t = fb 4 l) (hl : l.length = 32) (hd : ∀ d, d ∈ l → d ≤ 2) : un (bc2 t) = fb 16 (prs l) := by
  unfold bc2
  have h0 : un (t &&& 3689348814741910323) = fb 16 (evs l) := by
    rw [un_and, mask3, h]
    exact an_4 16 l (fun d hx => by have := hd d hx; omega) hl
  have h1 : un ((t.toUInt64 >>> ((nI 2).toInt64.toUInt64 &&& Int64.toUInt64 63)).toInt64 &&& 3689348814741910323) = fb 16 (ods l) := by
    rw [un_and, un_shr (by decide), mask3, h]
    exact ao_4 16 l (fun d hx => by have := hd d hx; omega) hl
  have h2 := pr_4 l
  have h3 := un_lt t
  rw [un_add (by rw [h0, h1]; omega), h0, h1, ps_4]
theorem bc3_eq {t : Int64} {l : List Nat} (h : un t = fb 16 l) (hl : l.length = 16) (hd : ∀ d, d ∈ l → d ≤ 4) : un (bc3 t) = fb 256 (prs l) := by
  unfold bc3
  obtain ⟨a, b, c, d, e, f, g, h0, i, j, k, m, n, o, p, q, rfl⟩ := list16 l hl
  simp only [List.mem_cons, List.not_mem_nil, or_false, forall_eq_or_imp, forall_eq] at hd
  simp only [fb] at h
  have hs : un ((t.toUInt64 >>> ((nI 4).toInt64.toUInt64 &&& Int64.toUInt64 63)).toInt64) = un t / 2 ^ 4 := un_shr (by decide) t
  have e1 : un t + un t / 2 ^ 4 = fb 16 [a + b, b + c, c + d, d + e, e + f, f + g, g + h0, h0 + i, i + j, j + k, k + m, m + n, n + o, o + p, p + q, q] := by
    simp only [fb]; omega
  rw [un_and, un_add (by rw [hs, e1]; simp only [fb]; omega), hs, e1, maskf]
  exact an_16 8 _ (by simp only [List.mem_cons, List.not_mem_nil, or_false, forall_eq_or_imp, forall_eq]; omega) rfl
theorem un_sum {t : Int64} {a : Nat} (ha : a < 64) (ht : un t < 2 ^ 62) : un (t + (t.toUInt64 >>> ((nI a).toInt64.toUInt64 &&& Int64.toUInt64 63)).toInt64) = un t + un t / 2 ^ a := by
  have h1 := Nat.div_le_self (un t) (2 ^ a)
  have h2 := un_shr ha t
  rw [un_add (by rw [h2]; omega), h2]
theorem dv {x Y : Nat} (h : x < 256) : (x + 256 * Y) / 256 = Y := by omega
theorem dv2 (x : Nat) : x / 2 ^ 16 = x / 256 / 256 := by rw [Nat.div_div_eq_div_mul]
theorem dv4 (x : Nat) : x / 2 ^ 32 = x / 256 / 256 / 256 / 256 := by rw [Nat.div_div_eq_div_mul, Nat.div_div_eq_div_mul, Nat.div_div_eq_div_mul]
theorem f8_4 (a b c d e f g h : Nat) (hd : a ≤ 8 ∧ b ≤ 8 ∧ c ≤ 8 ∧ d ≤ 8 ∧ e ≤ 8 ∧ f ≤ 8 ∧ g ≤ 8 ∧ h ≤ 8) : (a + 256 * (b + 256 * (c + 256 * (d + 256 * (e + 256 * (f + 256 * (g + 256 * h))))))) + (a + 256 * (b + 256 * (c + 256 * (d + 256 * (e + 256 * (f + 256 * (g + 256 * h))))))) / 2 ^ 8 = (a + b) + 256 * ((b + c) + 256 * ((c + d) + 256 * ((d + e) + 256 * ((e + f) + 256 * ((f + g) + 256 * ((g + h) + 256 * h)))))) := by
  rw [show (2 : Nat) ^ 8 = 256 from rfl, dv (by omega)]
  clear hd; omega
theorem f8_5 (a b c d e f g h : Nat) (hd : a ≤ 16 ∧ b ≤ 16 ∧ c ≤ 16 ∧ d ≤ 16 ∧ e ≤ 16 ∧ f ≤ 16 ∧ g ≤ 16 ∧ h ≤ 16) : (a + 256 * (b + 256 * (c + 256 * (d + 256 * (e + 256 * (f + 256 * (g + 256 * h))))))) + (a + 256 * (b + 256 * (c + 256 * (d + 256 * (e + 256 * (f + 256 * (g + 256 * h))))))) / 2 ^ 16 = (a + c) + 256 * ((b + d) + 256 * ((c + e) + 256 * ((d + f) + 256 * ((e + g) + 256 * ((f + h) + 256 * (g + 256 * h)))))) := by
  rw [dv2, dv (by omega), dv (by omega)]
  clear hd; omega
theorem f8_6 (a b c d e f g h : Nat) (hd : a ≤ 32 ∧ b ≤ 32 ∧ c ≤ 32 ∧ d ≤ 32 ∧ e ≤ 32 ∧ f ≤ 32 ∧ g ≤ 32 ∧ h ≤ 32) : ((a + 256 * (b + 256 * (c + 256 * (d + 256 * (e + 256 * (f + 256 * (g + 256 * h))))))) + (a + 256 * (b + 256 * (c + 256 * (d + 256 * (e + 256 * (f + 256 * (g + 256 * h))))))) / 2 ^ 32) % 128 = a + e := by
  rw [dv4, dv (by omega), dv (by omega), dv (by omega), dv (by omega)]
  generalize b + 256 * (c + 256 * (d + 256 * (e + 256 * (f + 256 * (g + 256 * h))))) = A
  generalize f + 256 * (g + 256 * h) = B
  omega
theorem f8_b (a b c d e f g h m : Nat) (hd : a ≤ m ∧ b ≤ m ∧ c ≤ m ∧ d ≤ m ∧ e ≤ m ∧ f ≤ m ∧ g ≤ m ∧ h ≤ m) (hm : m ≤ 32) : (a + 256 * (b + 256 * (c + 256 * (d + 256 * (e + 256 * (f + 256 * (g + 256 * h))))))) < 2 ^ 62 := by omega
theorem bc6_eq {t : Int64} {l : List Nat} (h : un t = fb 256 l) (hl : l.length = 8) (hd : ∀ d, d ∈ l → d ≤ 8) : un (bc6 (bc5 (bc4 t))) % 128 = sm l := by
  obtain ⟨a, b, c, d, e, f, g, h0, rfl⟩ := list8 l hl
  simp only [List.mem_cons, List.not_mem_nil, or_false, forall_eq_or_imp, forall_eq] at hd
  have h : un t = (a + 256 * (b + 256 * (c + 256 * (d + 256 * (e + 256 * (f + 256 * (g + 256 * h0))))))) := h
  have s4 : un (bc4 t) = (a + b) + 256 * ((b + c) + 256 * ((c + d) + 256 * ((d + e) + 256 * ((e + f) + 256 * ((f + g) + 256 * ((g + h0) + 256 * h0)))))) := by
    refine (un_sum (a := 8) (by decide) (by rw [h]; exact f8_b _ _ _ _ _ _ _ _ 8 hd (by decide))).trans ?_
    rw [h]; exact f8_4 _ _ _ _ _ _ _ _ hd
  clear h
  have hd4 : a + b ≤ 16 ∧ b + c ≤ 16 ∧ c + d ≤ 16 ∧ d + e ≤ 16 ∧ e + f ≤ 16 ∧ f + g ≤ 16 ∧ g + h0 ≤ 16 ∧ h0 ≤ 16 := by omega
  have s5 : un (bc5 (bc4 t)) = (a + b + (c + d)) + 256 * ((b + c + (d + e)) + 256 * ((c + d + (e + f)) + 256 * ((d + e + (f + g)) + 256 * ((e + f + (g + h0)) + 256 * ((f + g + h0) + 256 * ((g + h0) + 256 * h0)))))) := by
    refine (un_sum (a := 16) (by decide) (by rw [s4]; exact f8_b _ _ _ _ _ _ _ _ 16 hd4 (by decide))).trans ?_
    rw [s4]; exact f8_5 _ _ _ _ _ _ _ _ hd4
  clear s4
  have hd5 : a + b + (c + d) ≤ 32 ∧ b + c + (d + e) ≤ 32 ∧ c + d + (e + f) ≤ 32 ∧ d + e + (f + g) ≤ 32 ∧ e + f + (g + h0) ≤ 32 ∧ f + g + h0 ≤ 32 ∧ g + h0 ≤ 32 ∧ h0 ≤ 32 := by omega
  have s6 : un (bc6 (bc5 (bc4 t))) = un (bc5 (bc4 t)) + un (bc5 (bc4 t)) / 2 ^ 32 := un_sum (a := 32) (by decide) (by rw [s5]; exact f8_b _ _ _ _ _ _ _ _ 32 hd5 (by decide))
  rw [s6, s5, f8_6 _ _ _ _ _ _ _ _ hd5]
  show a + b + (c + d) + (e + f + (g + h0)) = a + (b + (c + (d + (e + (f + (g + (h0 + 0)))))))
  clear hd hd4 hd5 s5 s6
  omega
theorem BC_eq (t : Int64) : BC t = nI (cnB t 64) := by
  have l1 := bL_len 64 (un t)
  have e1 := bc1_eq (t := t) (l := bL (un t) 64) (by rw [bL_fb]; exact (Nat.mod_eq_of_lt (un_lt t)).symm) l1 (bL_le 64 _)
  have l2 := len_prs 32 _ l1
  have d2 := prs_le _ (bL_le 64 (un t))
  have e2 := bc2_eq e1 l2 d2
  have l3 := len_prs 16 _ l2
  have d3 := prs_le _ d2
  have e3 := bc3_eq e2 l3 d3
  have l4 := len_prs 8 _ l3
  have d4 := prs_le _ d3
  have e6 := bc6_eq e3 l4 d4
  rw [sm_prs, sm_prs, sm_prs, sm_cn] at e6
  unfold BC
  apply Int32.toBitVec_inj.mp
  apply BitVec.eq_of_toNat_eq
  rw [Int32.toBitVec_and, BitVec.toNat_and]
  have h7 : (nI 127).toBitVec.toNat = 2 ^ 7 - 1 := by decide
  have hz : ((bc6 (bc5 (bc4 (bc3 (bc2 (bc1 t)))))).toInt32).toBitVec.toNat = un (bc6 (bc5 (bc4 (bc3 (bc2 (bc1 t)))))) % 2 ^ 32 := by
    generalize bc6 (bc5 (bc4 (bc3 (bc2 (bc1 t))))) = z
    have hz : z = lN (un z) := by
      apply Int64.toBitVec_inj.mp
      apply BitVec.eq_of_toNat_eq
      show un z = (BitVec.ofNat 64 (un z)).toNat
      rw [BitVec.toNat_ofNat, Nat.mod_eq_of_lt (un_lt z)]
    rw [show z.toInt32 = nI (un z) from (congrArg Int64.toInt32 hz).trans (lN_i _)]
    show (BitVec.ofNat 32 (un z)).toNat = _
    rw [BitVec.toNat_ofNat]
  rw [h7, Nat.and_two_pow_sub_one_eq_mod, hz]
  have hb : (nI (cnB t 64)).toBitVec.toNat = cnB t 64 % 2 ^ 32 := by
    show (BitVec.ofNat 32 (cnB t 64)).toNat = _
    rw [BitVec.toNat_ofNat]
  rw [hb]
  omega
