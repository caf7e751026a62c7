/-- what stands on level 0 goes down i levels -/
def dnU : Nat → (Nat → Nat) → (Nat → Nat)
  | 0, od => od
  | i + 1, od => xch (dnU i od) i
/-- the best level among the first i + 1, and how many nodes there are then -/
def sfF (L : List Int64) (A : Nat → Nat) : Nat → Nat × Nat
  | 0 => (0, toL A L 6)
  | i + 1 => if toL (dnU (i + 1) A) L 6 < (sfF L A i).2 then (i + 1, toL (dnU (i + 1) A) L 6) else sfF L A i
theorem rsU_lt {b : Nat} : ∀ (k : Nat) (od : Nat → Nat), b + k < 6 → (∀ i, i < 6 → od i < 6) → ∀ i, i < 6 → rsU b k od i < 6
  | 0, _, _, h => h
  | k + 1, od, hk, h => rsU_lt k (xch od (b + k)) (by omega) (xch_lt h (by omega))
theorem dnU_lt : ∀ (k : Nat) (od : Nat → Nat), k < 6 → (∀ i, i < 6 → od i < 6) → ∀ i, i < 6 → dnU k od i < 6
  | 0, _, _, h => h
  | k + 1, od, hk, h => xch_lt (dnU_lt k od (by omega) h) (by omega)
theorem sfF_le (L : List Int64) (A : Nat → Nat) : ∀ i, (sfF L A i).1 ≤ i
  | 0 => Nat.le_refl _
  | i + 1 => by
    have := sfF_le L A i
    show (if toL (dnU (i + 1) A) L 6 < (sfF L A i).2 then (i + 1, toL (dnU (i + 1) A) L 6) else sfF L A i).1 ≤ i + 1
    split
    · exact Nat.le_refl _
    · omega
theorem brC_le (v : Nat) : ∀ L : List Int64, brC v L ≤ L.length
  | [] => Nat.le_refl _
  | t :: r => by
    have := brC_le v r
    show (if W0 t v = W1 t v then 0 else 1) + brC v r ≤ r.length + 1
    split <;> omega
theorem adL_len {L : List Int64} {t : Int64} (h : L.length ≤ 64) : (adL L t).length ≤ 64 := by
  unfold adL; split
  · exact h
  · split
    · rw [List.length_append]; simp; omega
    · exact h
theorem brL_len (v : Nat) : ∀ (L A : List Int64), A.length ≤ 64 → (brL v A L).length ≤ 64
  | [], _, h => h
  | t :: r, A, h => by
    refine brL_len v r _ ?_
    split
    · exact adL_len h
    · exact adL_len (adL_len h)
theorem lvL_len {od : Nat → Nat} {L : List Int64} (h : L.length ≤ 64) : ∀ i, (lvL od L i).length ≤ 64
  | 0 => h
  | i + 1 => brL_len _ _ _ (by simp)
theorem toL_le {od : Nat → Nat} {L : List Int64} (h : L.length ≤ 64) : ∀ i, toL od L i ≤ 64 * i
  | 0 => Nat.le_refl _
  | i + 1 => by
    have h1 := toL_le (od := od) h i
    have h2 := Nat.le_trans (brC_le (od i) (lvL od L i)) (lvL_len h i)
    show toL od L i + brC (od i) (lvL od L i) ≤ 64 * (i + 1)
    omega
theorem rgL_len {rg : Nat → Int64} {hd : Nat → Int32} : ∀ i, (rgL rg hd i).length ≤ 64
  | 0 => by simp [rgL]
  | i + 1 => by
    have := rgL_len (rg := rg) (hd := hd) i
    show (if hd i = 0 then rgL rg hd i else adL (rgL rg hd i) (rg i)).length ≤ 64
    split
    · exact this
    · exact adL_len this
theorem toL_lt {od : Nat → Nat} {rg : Nat → Int64} {hd : Nat → Int32} : toL od (rgL rg hd 8) 6 < 2 ^ 31 := Nat.lt_of_le_of_lt (toL_le (rgL_len 8) 6) (by decide)
theorem sfF_lt {A : Nat → Nat} {rg : Nat → Int64} {hd : Nat → Int32} : ∀ i, (sfF (rgL rg hd 8) A i).2 < 2 ^ 31
  | 0 => toL_lt
  | i + 1 => by
    show (if toL (dnU (i + 1) A) (rgL rg hd 8) 6 < (sfF (rgL rg hd 8) A i).2 then (i + 1, toL (dnU (i + 1) A) (rgL rg hd 8) 6) else sfF (rgL rg hd 8) A i).2 < 2 ^ 31
    split
    · exact toL_lt
    · exact sfF_lt i
/-- byte i of a long -/
def chN (x : Int64) (i : Nat) : Nat := (x.toBitVec >>> (8 * i)).toNat % 256
theorem chN_lt (x : Int64) (i : Nat) : chN x i < 256 := Nat.mod_lt _ (by decide)
/-- j bytes are typed from place t on -/
def tyW : (Nat → Nat) → Nat → Int64 → Nat → (Nat → Nat)
  | tx, _, _, 0 => tx
  | tx, t, x, j + 1 => tyW (uN tx t (chN x j)) (t + 1) x j
theorem nar_c {k : Nat} (h : k < 65536) : vp_nar .char (nI k) = nI k := by
  unfold vp_nar; rw [(pk_charN h).1]
theorem cnt8 : ∀ i, i < 8 → (((nI (8 * i)).toInt64.toUInt64 &&& Int64.toUInt64 63)).toBitVec.toNat = 8 * i := by decide +kernel
theorem ch_eq {i : Nat} (hi : i < 8) (x : Int64) : ((((x.toUInt64 >>> ((nI (8 * i)).toInt64.toUInt64 &&& Int64.toUInt64 63)).toInt64 &&& 255).toInt32).toUInt32 % 65536).toInt32 = nI (chN x i) := by
  have hc := cnt8 i hi
  generalize ((nI (8 * i)).toInt64.toUInt64 &&& Int64.toUInt64 63) = k at hc
  have h1 : ((x.toUInt64 >>> k).toInt64 &&& 255) = lN (chN x i) := by
    apply Int64.toBitVec_inj.mp
    rw [Int64.toBitVec_and]
    have e1 : (x.toUInt64 >>> k).toInt64.toBitVec = x.toBitVec >>> (8 * i) := by
      show (x.toUInt64 >>> k).toBitVec = _
      rw [UInt64.toBitVec_shiftRight]
      show x.toBitVec >>> (k.toBitVec % 64) = _
      rw [BitVec.ushiftRight_eq']
      congr 1
      rw [BitVec.toNat_umod, hc]
      exact Nat.mod_eq_of_lt (show 8 * i < 64 by omega)
    rw [e1]
    apply BitVec.eq_of_toNat_eq
    rw [BitVec.toNat_and]
    show (x.toBitVec >>> (8 * i)).toNat &&& 255 = (BitVec.ofNat 64 (chN x i)).toNat
    rw [BitVec.toNat_ofNat, Nat.and_two_pow_sub_one_eq_mod _ 8]
    exact (Nat.mod_eq_of_lt (Nat.lt_trans (chN_lt x i) (by decide))).symm
  rw [h1, lN_i, pk_char, pk_tn (Nat.lt_trans (chN_lt x i) (by decide)), Nat.mod_eq_of_lt (Nat.lt_trans (chN_lt x i) (by decide))]
theorem hfd {od : Nat → Nat} {v : Nat} (_h : v < 6) : fdL od v 6 < 6 := by
  show (if od 5 = v then 5 else if od 4 = v then 4 else if od 3 = v then 3 else if od 2 = v then 2 else if od 1 = v then 1 else if od 0 = v then 0 else 0) < 6
  repeat' split
  all_goals omega
set_option maxRecDepth 100000 in
set_option maxHeartbeats 4000000 in
theorem c_SG_raise (l : Launch) (g : Gx) (ad : Nat → Nat) (rg : Nat → Int64) (hd : Nat → Int32) (tx : Nat → Int32) (ty : Int32) (sm : Nat → Int64) (pa : Nat → Int64) (pr : Nat → Int64) (fl : Nat → Int64) (op : Int32) (du : Int32) (qa : Nat) (ab : Nat → Int64) (ac : Int32) (qb : Nat) (be : Nat → Int64) (bc : Int32) (wd : Nat → Int32) (X : va_W) (od : Nat → Nat) (a b : Nat) (h1 : a < 6) (h2 : b ≤ a) : Met l y_SG_raise (w_SG_raise :: TW) rm_SG_raise (va_Pc [.ref (ad 0), .int (nI a), .int (nI b)] (PR g (CW g ad rg hd (nF od) tx ty sm pa pr fl op du qa ab ac qb be bc wd ++ X))) (va_Qv (fun (u9 : Unit) => True) (fun u9 t9 => PR g (CW g ad rg hd (nF (rsU b (a - b) od)) tx ty sm pa pr fl op du qa ab ac qb be bc wd ++ X) t9) (gA g)) 0 0 (gA g) := by
  refine mt_of (by decide) (Nat.le_of_ble_eq_true rfl) ?_
  intro p e s m below meth c ls hx hb hr hml hlk hown ht hnm F hP hD hl
  have hl : lv_has ls 4 [(0, .ref (ad 0)), (1, .int (nI a)), (2, .int (nI b))] := hl
  have hS : va_S (gA g) s.heap s.heap [] := va_S.rf
  refine lv_iload_n hx hb d_SG_raise_0 rfl (lv_at hl 1 rfl) ?_
  refine lv_istore_n (lv' := [(3, .int (nI a)), (0, .ref (ad 0)), (1, .int (nI a)), (2, .int (nI b))]) hx hb d_SG_raise_1 rfl hl (by decide) rfl (fun ls hl => ?_)
  have lp2 : ∀ (j2 : Nat) (i : Nat) (od1 : Nat → Nat) (H : Heap) (locs : List Loc) (ls : Array Slot), b + j2 = i → (i < 6) → (rsU b j2 od1 = rsU b (a - b) od) → va_P g.1 cl (CW g ad rg hd (nF od1) tx ty sm pa pr fl op du qa ab ac qb be bc wd ++ X) H → va_D (gA g) (CW g ad rg hd (nF od1) tx ty sm pa pr fl op du qa ab ac qb be bc wd ++ X) → va_S (gA g) s.heap H locs → lv_has ls 4 [(3, .int (nI i)), (0, .ref (ad 0)), (1, .int (nI a)), (2, .int (nI b))] → W p l e rm_SG_raise s m [.ref (ad 0), .int (nI a), .int (nI b)].toArray below meth c H locs 0 0 (MQ below (va_Qv (fun (u9 : Unit) => True) (fun u9 t9 => PR g (CW g ad rg hd (nF (rsU b (a - b) od)) tx ty sm pa pr fl op du qa ab ac qb be bc wd ++ X) t9) (gA g)) [.ref (ad 0), .int (nI a), .int (nI b)].toArray s 0 0 (gA g)) (F0 m 2 ls []) := by
    intro j2
    induction j2 with
    | zero =>
      intro i od1 H locs ls hj2 q0 q1 hP hD hS hl
      refine lv_iload_n hx hb d_SG_raise_2 rfl (lv_at hl 0 rfl) ?_
      refine lv_iload_n hx hb d_SG_raise_3 rfl (lv_at hl 3 rfl) ?_
      refine rc_le (tgt := 20) hx hb (by omega) (by omega) d_SG_raise_4 (by decide) (fun c4 => ?_) (fun c4 => ?_)
      · have hP : va_P g.1 cl (CW g ad rg hd (nF (rsU b (a - b) od)) tx ty sm pa pr fl op du qa ab ac qb be bc wd ++ X) H := by rw [← q1]; exact hP
        have hD : va_D (gA g) (CW g ad rg hd (nF (rsU b (a - b) od)) tx ty sm pa pr fl op du qa ab ac qb be bc wd ++ X) := by rw [← q1]; exact hD
        exact W.vret hx hb hr (fun t9 e1 hW => ⟨⟨(), rfl, trivial, PR.at F hP hD hS e1 hW.alike⟩, hS.F e1⟩) hS.2.2 d_SG_raise_20
      · exact (by omega : False).elim
    | succ j2 ih2 =>
      intro i od1 H locs ls hj2 q0 q1 hP hD hS hl
      refine lv_iload_n hx hb d_SG_raise_2 rfl (lv_at hl 0 rfl) ?_
      refine lv_iload_n hx hb d_SG_raise_3 rfl (lv_at hl 3 rfl) ?_
      refine rc_le (tgt := 20) hx hb (by omega) (by omega) d_SG_raise_4 (by decide) (fun c4 => ?_) (fun c4 => ?_)
      · exact (by omega : False).elim
      · refine lv_aload_n hx hb d_SG_raise_7 rfl (lv_at hl 1 rfl) ?_
        refine lv_iload_n hx hb d_SG_raise_8 rfl (lv_at hl 0 rfl) ?_
        refine lv_iconst (v := nI 1) hx hb d_SG_raise_9 (by decide) ?_
        refine rn_sub hx hb (by omega) d_SG_raise_10 ?_
        refine pc_Vv (q0 := 0) (As := [.int (nI (i - 1))]) (rest := []) hx hb (hml.trans hl.1.symm) hown ht F hP hD hS (c_SG_exchange l g ad rg hd tx ty sm pa pr fl op du qa ab ac qb be bc wd X od1 (i - 1) (by omega)) v_SG_exchange tw_445 ⟨rfl, rfl⟩ ⟨by decide, by decide⟩ rfl rfl rfl rfl (Nat.le_of_ble_eq_true rfl) ⟨Nat.zero_le _, Nat.zero_le _⟩ d_SG_raise_11 (fun u9 H locs hq hP hD hS => ?_)
        have hP : va_P g.1 cl (CW g ad rg hd (nF (xch od1 (i - 1))) tx ty sm pa pr fl op du qa ab ac qb be bc wd ++ X) H := hP
        have hD : va_D (gA g) (CW g ad rg hd (nF (xch od1 (i - 1))) tx ty sm pa pr fl op du qa ab ac qb be bc wd ++ X) := hD
        refine lv_iinc (lv' := [(3, .int (nI (i - 1))), (0, .ref (ad 0)), (1, .int (nI a)), (2, .int (nI b))]) hx hb d_SG_raise_14 hl (k := 0) rfl (sb_m1 (by omega)) (by decide) rfl (fun ls hl => ?_)
        refine lv_goto (tgt := 2) hx hb d_SG_raise_17 (by decide) ?_
        have hl := lv_sub hl [0, 1, 2, 3] rfl
        have hl : lv_has ls 4 [(3, .int (nI ((i - 1)))), (0, .ref (ad 0)), (1, .int (nI a)), (2, .int (nI b))] := hl
        have hP : va_P g.1 cl (CW g ad rg hd (nF (xch od1 (i - 1))) tx ty sm pa pr fl op du qa ab ac qb be bc wd ++ X) H := hP
        have hD : va_D (gA g) (CW g ad rg hd (nF (xch od1 (i - 1))) tx ty sm pa pr fl op du qa ab ac qb be bc wd ++ X) := hD
        exact ih2 (i - 1) (xch od1 (i - 1)) H locs ls (by omega) (by omega) (by rw [show i - 1 = b + j2 by omega]; exact q1) hP hD hS hl
  have hl := lv_sub hl [0, 1, 2, 3] rfl
  have hl : lv_has ls 4 [(3, .int (nI a)), (0, .ref (ad 0)), (1, .int (nI a)), (2, .int (nI b))] := hl
  have hP : va_P g.1 cl (CW g ad rg hd (nF od) tx ty sm pa pr fl op du qa ab ac qb be bc wd ++ X) s.heap := hP
  have hD : va_D (gA g) (CW g ad rg hd (nF od) tx ty sm pa pr fl op du qa ab ac qb be bc wd ++ X) := hD
  exact lp2 (a - b) a od _ _ ls (by omega) h1 rfl hP hD hS hl
set_option maxRecDepth 100000 in
set_option maxHeartbeats 4000000 in
theorem c_SG_sift (l : Launch) (g : Gx) (ad : Nat → Nat) (rg : Nat → Int64) (hd : Nat → Int32) (tx : Nat → Int32) (ty : Int32) (sm : Nat → Int64) (pa : Nat → Int64) (pr : Nat → Int64) (fl : Nat → Int64) (op : Int32) (du : Int32) (qa : Nat) (ab : Nat → Int64) (ac : Int32) (qb : Nat) (be : Nat → Int64) (bc : Int32) (wd : Nat → Int32) (X : va_W) (od : Nat → Nat) (v : Nat) (h1 : v < 6) (h8 : ∀ i, i < 6 → od i < 6) (h9 : ∀ i, i < 8 → hd i = 0 ∨ hd i = 1) : Met l y_SG_sift (w_SG_sift :: TW) rm_SG_sift (va_Pc [.ref (ad 0), .int (nI v)] (PR g (CW g ad rg hd (nF od) tx ty sm pa pr fl op du qa ab ac qb be bc wd ++ X))) (va_Qi (fun r9 (u9 : (Nat) × (Nat → Int64) × (Int32) × (Nat) × (Nat → Int64) × (Int32) × (Nat → Int32)) => r9 = nI ((sfF (rgL rg hd 8) (rsU 0 (fdL od v 6 - 0) od) 5).1)) (fun u9 t9 => PR g (CW g ad rg hd (nF (rsU (sfF (rgL rg hd 8) (rsU 0 (fdL od v 6 - 0) od) 5).1 (5 - (sfF (rgL rg hd 8) (rsU 0 (fdL od v 6 - 0) od) 5).1) (dnU 5 (rsU 0 (fdL od v 6 - 0) od)))) tx ty sm pa pr fl op du u9.1 u9.2.1 u9.2.2.1 u9.2.2.2.1 u9.2.2.2.2.1 u9.2.2.2.2.2.1 u9.2.2.2.2.2.2 ++ X) t9) (gA g)) 0 0 (gA g) := by
  refine mt_of (by decide) (Nat.le_of_ble_eq_true rfl) ?_
  intro p e s m below meth c ls hx hb hr hml hlk hown ht hnm F hP hD hl
  have hl : lv_has ls 6 [(0, .ref (ad 0)), (1, .int (nI v))] := hl
  have hS : va_S (gA g) s.heap s.heap [] := va_S.rf
  refine lv_iload_n hx hb d_SG_sift_0 rfl (lv_at hl 1 rfl) ?_
  refine lv_bipush (v := nI 6) hx hb d_SG_sift_1 (by decide) ?_
  refine pc_Sv (As := [.int (nI v), .int (nI 6)]) (rest := []) hx hb (hml.trans hl.1.symm) hown ht F hP hD hS (c_SG_checkBelow l g (CW g ad rg hd (nF od) tx ty sm pa pr fl op du qa ab ac qb be bc wd ++ X) v 6 (by omega) (by omega)) v_SG_checkBelow tw_161 ⟨rfl, rfl⟩ ⟨by decide, by decide⟩ rfl rfl (Nat.le_of_ble_eq_true rfl) ⟨Nat.zero_le _, Nat.zero_le _⟩ d_SG_sift_3 (fun u9 H locs hq hP hD hS => ?_)
  refine lv_aload_n hx hb d_SG_sift_6 rfl (lv_at hl 0 rfl) ?_
  refine lv_aload_n hx hb d_SG_sift_7 rfl (lv_at hl 0 rfl) ?_
  refine lv_iload_n hx hb d_SG_sift_8 rfl (lv_at hl 1 rfl) ?_
  refine pc_Vi (q0 := 0) (As := [.int (nI v)]) (rest := [.ref (ad 0)]) hx hb (hml.trans hl.1.symm) hown ht F hP hD hS (c_SG_levelOf l g ad rg hd tx ty sm pa pr fl op du qa ab ac qb be bc wd X od v h8 (by omega)) v_SG_levelOf tw_456 ⟨rfl, rfl⟩ ⟨by decide, by decide⟩ rfl rfl rfl rfl (Nat.le_of_ble_eq_true rfl) ⟨Nat.zero_le _, Nat.zero_le _⟩ d_SG_sift_9 (fun r9 u9 H locs hq hP hD hS => ?_)
  subst hq
  refine lv_iconst (v := nI 0) hx hb d_SG_sift_12 (by decide) ?_
  refine pc_Vv (q0 := 0) (As := [.int (nI (fdL od v 6)), .int (nI 0)]) (rest := []) hx hb (hml.trans hl.1.symm) hown ht F hP hD hS (c_SG_raise l g ad rg hd tx ty sm pa pr fl op du qa ab ac qb be bc wd X od (fdL od v 6) 0 (hfd (by omega)) (Nat.zero_le _)) v_SG_raise tw_460 ⟨rfl, rfl⟩ ⟨by decide, by decide⟩ rfl rfl rfl rfl (Nat.le_of_ble_eq_true rfl) ⟨Nat.zero_le _, Nat.zero_le _⟩ d_SG_sift_13 (fun u9 H locs hq hP hD hS => ?_)
  have hP : va_P g.1 cl (CW g ad rg hd (nF (rsU 0 ((fdL od v 6) - 0) od)) tx ty sm pa pr fl op du qa ab ac qb be bc wd ++ X) H := hP
  have hD : va_D (gA g) (CW g ad rg hd (nF (rsU 0 ((fdL od v 6) - 0) od)) tx ty sm pa pr fl op du qa ab ac qb be bc wd ++ X) := hD
  have hA0 : ∀ i, i < 6 → (rsU 0 (fdL od v 6 - 0) od) i < 6 := rsU_lt _ _ (by have := hfd (od := od) (v := v) h1; omega) h8
  refine lv_iconst (v := nI 0) hx hb d_SG_sift_16 (by decide) ?_
  refine lv_istore_n (lv' := [(2, .int (nI 0)), (0, .ref (ad 0)), (1, .int (nI v))]) hx hb d_SG_sift_17 rfl hl (by decide) rfl (fun ls hl => ?_)
  refine lv_aload_n hx hb d_SG_sift_18 rfl (lv_at hl 1 rfl) ?_
  refine pc_Vi (q0 := 0) (As := []) (rest := []) hx hb (hml.trans hl.1.symm) hown ht F hP hD hS (c_SG_nodesOfAll l g ad rg hd tx ty sm pa pr fl op du qa ab ac qb be bc wd X (rsU 0 ((fdL od v 6) - 0) od) (rsU_lt _ _ (by have := hfd (od := od) (v := v) h1; omega) h8) h9) v_SG_nodesOfAll tw_108 ⟨rfl, rfl⟩ ⟨by decide, by decide⟩ rfl rfl rfl rfl (Nat.le_of_ble_eq_true rfl) ⟨Nat.zero_le _, Nat.zero_le _⟩ d_SG_sift_19 (fun r9 u9 H locs hq hP hD hS => ?_)
  obtain ⟨qa19, ab19, ac19, qb19, be19, bc19, wd19⟩ := u9
  obtain ⟨hq, pq19⟩ := hq
  have pq19 : ∀ j, j < 6 → wd19 j = nI (wdL (rsU 0 ((fdL od v 6) - 0) od) (rgL rg hd 8) j) := pq19
  subst hq
  have hP : va_P g.1 cl (CW g ad rg hd (nF (rsU 0 ((fdL od v 6) - 0) od)) tx ty sm pa pr fl op du qa19 ab19 ac19 qb19 be19 bc19 wd19 ++ X) H := hP
  have hD : va_D (gA g) (CW g ad rg hd (nF (rsU 0 ((fdL od v 6) - 0) od)) tx ty sm pa pr fl op du qa19 ab19 ac19 qb19 be19 bc19 wd19 ++ X) := hD
  refine lv_istore_n (lv' := [(3, .int (nI (toL (rsU 0 ((fdL od v 6) - 0) od) (rgL rg hd 8) 6))), (2, .int (nI 0)), (0, .ref (ad 0)), (1, .int (nI v))]) hx hb d_SG_sift_22 rfl hl (by decide) rfl (fun ls hl => ?_)
  refine lv_iconst (v := nI 1) hx hb d_SG_sift_23 (by decide) ?_
  refine lv_istore (lv' := [(4, .int (nI 1)), (3, .int (nI (toL (rsU 0 ((fdL od v 6) - 0) od) (rgL rg hd 8) 6))), (2, .int (nI 0)), (0, .ref (ad 0)), (1, .int (nI v))]) hx hb d_SG_sift_24 hl (by decide) rfl (fun ls hl => ?_)
  have lp26 : ∀ (j26 : Nat) (i : Nat) (qa1 : Nat) (ab1 : Nat → Int64) (ac1 : Int32) (qb1 : Nat) (be1 : Nat → Int64) (bc1 : Int32) (wd1 : Nat → Int32) (H : Heap) (locs : List Loc) (ls : Array Slot), i + j26 = 6 → (1 ≤ i) → va_P g.1 cl (CW g ad rg hd (nF (dnU (i - 1) (rsU 0 (fdL od v 6 - 0) od))) tx ty sm pa pr fl op du qa1 ab1 ac1 qb1 be1 bc1 wd1 ++ X) H → va_D (gA g) (CW g ad rg hd (nF (dnU (i - 1) (rsU 0 (fdL od v 6 - 0) od))) tx ty sm pa pr fl op du qa1 ab1 ac1 qb1 be1 bc1 wd1 ++ X) → va_S (gA g) s.heap H locs → lv_has ls 6 [(4, .int (nI i)), (3, .int (nI ((sfF (rgL rg hd 8) (rsU 0 (fdL od v 6 - 0) od) (i - 1)).2))), (2, .int (nI ((sfF (rgL rg hd 8) (rsU 0 (fdL od v 6 - 0) od) (i - 1)).1))), (0, .ref (ad 0)), (1, .int (nI v))] → W p l e rm_SG_sift s m [.ref (ad 0), .int (nI v)].toArray below meth c H locs 0 0 (MQ below (va_Qi (fun r9 (u9 : (Nat) × (Nat → Int64) × (Int32) × (Nat) × (Nat → Int64) × (Int32) × (Nat → Int32)) => r9 = nI ((sfF (rgL rg hd 8) (rsU 0 (fdL od v 6 - 0) od) 5).1)) (fun u9 t9 => PR g (CW g ad rg hd (nF (rsU (sfF (rgL rg hd 8) (rsU 0 (fdL od v 6 - 0) od) 5).1 (5 - (sfF (rgL rg hd 8) (rsU 0 (fdL od v 6 - 0) od) 5).1) (dnU 5 (rsU 0 (fdL od v 6 - 0) od)))) tx ty sm pa pr fl op du u9.1 u9.2.1 u9.2.2.1 u9.2.2.2.1 u9.2.2.2.2.1 u9.2.2.2.2.2.1 u9.2.2.2.2.2.2 ++ X) t9) (gA g)) [.ref (ad 0), .int (nI v)].toArray s 0 0 (gA g)) (F0 m 26 ls []) := by
    intro j26
    induction j26 with
    | zero =>
      intro i qa1 ab1 ac1 qb1 be1 bc1 wd1 H locs ls hj26 q0 hP hD hS hl
      refine lv_iload hx hb d_SG_sift_26 (lv_at hl 0 rfl) ?_
      refine lv_bipush (v := nI 6) hx hb d_SG_sift_28 (by decide) ?_
      refine rc_ge (tgt := 65) hx hb (by omega) (by omega) d_SG_sift_30 (by decide) (fun c30 => ?_) (fun c30 => ?_)
      · refine lv_aload_n hx hb d_SG_sift_65 rfl (lv_at hl 3 rfl) ?_
        refine lv_iconst (v := nI 5) hx hb d_SG_sift_66 (by decide) ?_
        refine lv_iload_n hx hb d_SG_sift_67 rfl (lv_at hl 2 rfl) ?_
        refine pc_Vv (q0 := 0) (As := [.int (nI 5), .int (nI ((sfF (rgL rg hd 8) (rsU 0 (fdL od v 6 - 0) od) (i - 1)).1))]) (rest := []) hx hb (hml.trans hl.1.symm) hown ht F hP hD hS (c_SG_raise l g ad rg hd tx ty sm pa pr fl op du qa1 ab1 ac1 qb1 be1 bc1 wd1 X (dnU (i - 1) (rsU 0 (fdL od v 6 - 0) od)) 5 ((sfF (rgL rg hd 8) (rsU 0 (fdL od v 6 - 0) od) (i - 1)).1) (by omega) (Nat.le_trans (sfF_le _ _ _) (by omega))) v_SG_raise tw_460 ⟨rfl, rfl⟩ ⟨by decide, by decide⟩ rfl rfl rfl rfl (Nat.le_of_ble_eq_true rfl) ⟨Nat.zero_le _, Nat.zero_le _⟩ d_SG_sift_68 (fun u9 H locs hq hP hD hS => ?_)
        have hP : va_P g.1 cl (CW g ad rg hd (nF (rsU ((sfF (rgL rg hd 8) (rsU 0 (fdL od v 6 - 0) od) (i - 1)).1) (5 - ((sfF (rgL rg hd 8) (rsU 0 (fdL od v 6 - 0) od) (i - 1)).1)) (dnU (i - 1) (rsU 0 (fdL od v 6 - 0) od)))) tx ty sm pa pr fl op du qa1 ab1 ac1 qb1 be1 bc1 wd1 ++ X) H := hP
        have hD : va_D (gA g) (CW g ad rg hd (nF (rsU ((sfF (rgL rg hd 8) (rsU 0 (fdL od v 6 - 0) od) (i - 1)).1) (5 - ((sfF (rgL rg hd 8) (rsU 0 (fdL od v 6 - 0) od) (i - 1)).1)) (dnU (i - 1) (rsU 0 (fdL od v 6 - 0) od)))) tx ty sm pa pr fl op du qa1 ab1 ac1 qb1 be1 bc1 wd1 ++ X) := hD
        refine lv_iload_n hx hb d_SG_sift_71 rfl (lv_at hl 2 rfl) ?_
        have hP : va_P g.1 cl (CW g ad rg hd (nF (rsU (sfF (rgL rg hd 8) (rsU 0 (fdL od v 6 - 0) od) 5).1 (5 - (sfF (rgL rg hd 8) (rsU 0 (fdL od v 6 - 0) od) 5).1) (dnU 5 (rsU 0 (fdL od v 6 - 0) od)))) tx ty sm pa pr fl op du qa1 ab1 ac1 qb1 be1 bc1 wd1 ++ X) H := by obtain rfl : i = 6 := (by omega); exact hP
        have hD : va_D (gA g) (CW g ad rg hd (nF (rsU (sfF (rgL rg hd 8) (rsU 0 (fdL od v 6 - 0) od) 5).1 (5 - (sfF (rgL rg hd 8) (rsU 0 (fdL od v 6 - 0) od) 5).1) (dnU 5 (rsU 0 (fdL od v 6 - 0) od)))) tx ty sm pa pr fl op du qa1 ab1 ac1 qb1 be1 bc1 wd1 ++ X) := by obtain rfl : i = 6 := (by omega); exact hD
        exact W.iret (v := nI ((sfF (rgL rg hd 8) (rsU 0 (fdL od v 6 - 0) od) (i - 1)).1)) hx hb hr (fun t9 e1 hW => ⟨⟨_, (qa1, ab1, ac1, qb1, be1, bc1, wd1), rfl, (by obtain rfl : i = 6 := (by omega); rfl), PR.at F hP hD hS e1 hW.alike⟩, hS.F e1⟩) hS.2.2 d_SG_sift_72
      · exact (by omega : False).elim
    | succ j26 ih26 =>
      intro i qa1 ab1 ac1 qb1 be1 bc1 wd1 H locs ls hj26 q0 hP hD hS hl
      refine lv_iload hx hb d_SG_sift_26 (lv_at hl 0 rfl) ?_
      refine lv_bipush (v := nI 6) hx hb d_SG_sift_28 (by decide) ?_
      refine rc_ge (tgt := 65) hx hb (by omega) (by omega) d_SG_sift_30 (by decide) (fun c30 => ?_) (fun c30 => ?_)
      · exact (by omega : False).elim
      · refine lv_aload_n hx hb d_SG_sift_33 rfl (lv_at hl 3 rfl) ?_
        refine lv_iload hx hb d_SG_sift_34 (lv_at hl 0 rfl) ?_
        refine lv_iconst (v := nI 1) hx hb d_SG_sift_36 (by decide) ?_
        refine rn_sub hx hb (by omega) d_SG_sift_37 ?_
        refine pc_Vv (q0 := 0) (As := [.int (nI (i - 1))]) (rest := []) hx hb (hml.trans hl.1.symm) hown ht F hP hD hS (c_SG_exchange l g ad rg hd tx ty sm pa pr fl op du qa1 ab1 ac1 qb1 be1 bc1 wd1 X (dnU (i - 1) (rsU 0 (fdL od v 6 - 0) od)) (i - 1) (by omega)) v_SG_exchange tw_445 ⟨rfl, rfl⟩ ⟨by decide, by decide⟩ rfl rfl rfl rfl (Nat.le_of_ble_eq_true rfl) ⟨Nat.zero_le _, Nat.zero_le _⟩ d_SG_sift_38 (fun u9 H locs hq hP hD hS => ?_)
        have hP : va_P g.1 cl (CW g ad rg hd (nF (xch (dnU (i - 1) (rsU 0 (fdL od v 6 - 0) od)) (i - 1))) tx ty sm pa pr fl op du qa1 ab1 ac1 qb1 be1 bc1 wd1 ++ X) H := hP
        have hD : va_D (gA g) (CW g ad rg hd (nF (xch (dnU (i - 1) (rsU 0 (fdL od v 6 - 0) od)) (i - 1))) tx ty sm pa pr fl op du qa1 ab1 ac1 qb1 be1 bc1 wd1 ++ X) := hD
        refine lv_aload_n hx hb d_SG_sift_41 rfl (lv_at hl 3 rfl) ?_
        refine pc_Vi (q0 := 0) (As := []) (rest := []) hx hb (hml.trans hl.1.symm) hown ht F hP hD hS (c_SG_nodesOfAll l g ad rg hd tx ty sm pa pr fl op du qa1 ab1 ac1 qb1 be1 bc1 wd1 X (xch (dnU (i - 1) (rsU 0 (fdL od v 6 - 0) od)) (i - 1)) (xch_lt (dnU_lt _ _ (by omega) hA0) (by omega)) h9) v_SG_nodesOfAll tw_108 ⟨rfl, rfl⟩ ⟨by decide, by decide⟩ rfl rfl rfl rfl (Nat.le_of_ble_eq_true rfl) ⟨Nat.zero_le _, Nat.zero_le _⟩ d_SG_sift_42 (fun r9 u9 H locs hq hP hD hS => ?_)
        obtain ⟨qa42, ab42, ac42, qb42, be42, bc42, wd42⟩ := u9
        obtain ⟨hq, pq42⟩ := hq
        have pq42 : ∀ j, j < 6 → wd42 j = nI (wdL (xch (dnU (i - 1) (rsU 0 (fdL od v 6 - 0) od)) (i - 1)) (rgL rg hd 8) j) := pq42
        subst hq
        have hP : va_P g.1 cl (CW g ad rg hd (nF (xch (dnU (i - 1) (rsU 0 (fdL od v 6 - 0) od)) (i - 1))) tx ty sm pa pr fl op du qa42 ab42 ac42 qb42 be42 bc42 wd42 ++ X) H := hP
        have hD : va_D (gA g) (CW g ad rg hd (nF (xch (dnU (i - 1) (rsU 0 (fdL od v 6 - 0) od)) (i - 1))) tx ty sm pa pr fl op du qa42 ab42 ac42 qb42 be42 bc42 wd42 ++ X) := hD
        refine lv_istore (lv' := [(5, .int (nI (toL (xch (dnU (i - 1) (rsU 0 (fdL od v 6 - 0) od)) (i - 1)) (rgL rg hd 8) 6))), (4, .int (nI i)), (3, .int (nI ((sfF (rgL rg hd 8) (rsU 0 (fdL od v 6 - 0) od) (i - 1)).2))), (2, .int (nI ((sfF (rgL rg hd 8) (rsU 0 (fdL od v 6 - 0) od) (i - 1)).1))), (0, .ref (ad 0)), (1, .int (nI v))]) hx hb d_SG_sift_45 hl (by decide) rfl (fun ls hl => ?_)
        refine lv_iload hx hb d_SG_sift_47 (lv_at hl 0 rfl) ?_
        refine lv_iload_n hx hb d_SG_sift_49 rfl (lv_at hl 2 rfl) ?_
        refine rc_ge (tgt := 59) hx hb toL_lt (sfF_lt _) d_SG_sift_50 (by decide) (fun c50 => ?_) (fun c50 => ?_)
        · refine lv_iinc (lv' := [(4, .int (nI (i + 1))), (5, .int (nI (toL (xch (dnU (i - 1) (rsU 0 (fdL od v 6 - 0) od)) (i - 1)) (rgL rg hd 8) 6))), (3, .int (nI ((sfF (rgL rg hd 8) (rsU 0 (fdL od v 6 - 0) od) (i - 1)).2))), (2, .int (nI ((sfF (rgL rg hd 8) (rsU 0 (fdL od v 6 - 0) od) (i - 1)).1))), (0, .ref (ad 0)), (1, .int (nI v))]) hx hb d_SG_sift_59 hl (k := 1) rfl (nI_1 _) (by decide) rfl (fun ls hl => ?_)
          refine lv_goto (tgt := 26) hx hb d_SG_sift_62 (by decide) ?_
          have hl := lv_sub hl [0, 2, 3, 4, 5] rfl
          have hl : lv_has ls 6 [(4, .int (nI ((i + 1)))), (3, .int (nI ((sfF (rgL rg hd 8) (rsU 0 (fdL od v 6 - 0) od) ((i + 1) - 1)).2))), (2, .int (nI ((sfF (rgL rg hd 8) (rsU 0 (fdL od v 6 - 0) od) ((i + 1) - 1)).1))), (0, .ref (ad 0)), (1, .int (nI v))] := by rw [show i + 1 - 1 = (i - 1) + 1 by omega, show sfF (rgL rg hd 8) (rsU 0 (fdL od v 6 - 0) od) (i - 1 + 1) = sfF (rgL rg hd 8) (rsU 0 (fdL od v 6 - 0) od) (i - 1) from if_neg (Nat.not_lt.mpr c50)]; exact hl
          have hP : va_P g.1 cl (CW g ad rg hd (nF (dnU ((i + 1) - 1) (rsU 0 (fdL od v 6 - 0) od))) tx ty sm pa pr fl op du qa42 ab42 ac42 qb42 be42 bc42 wd42 ++ X) H := by rw [show i + 1 - 1 = (i - 1) + 1 by omega]; exact hP
          have hD : va_D (gA g) (CW g ad rg hd (nF (dnU ((i + 1) - 1) (rsU 0 (fdL od v 6 - 0) od))) tx ty sm pa pr fl op du qa42 ab42 ac42 qb42 be42 bc42 wd42 ++ X) := by rw [show i + 1 - 1 = (i - 1) + 1 by omega]; exact hD
          exact ih26 (i + 1) qa42 ab42 ac42 qb42 be42 bc42 wd42 H locs ls (by omega) (by omega) hP hD hS hl
        · refine lv_iload hx hb d_SG_sift_53 (lv_at hl 1 rfl) ?_
          refine lv_istore_n (lv' := [(2, .int (nI i)), (5, .int (nI (toL (xch (dnU (i - 1) (rsU 0 (fdL od v 6 - 0) od)) (i - 1)) (rgL rg hd 8) 6))), (4, .int (nI i)), (3, .int (nI ((sfF (rgL rg hd 8) (rsU 0 (fdL od v 6 - 0) od) (i - 1)).2))), (0, .ref (ad 0)), (1, .int (nI v))]) hx hb d_SG_sift_55 rfl hl (by decide) rfl (fun ls hl => ?_)
          refine lv_iload hx hb d_SG_sift_56 (lv_at hl 1 rfl) ?_
          refine lv_istore_n (lv' := [(3, .int (nI (toL (xch (dnU (i - 1) (rsU 0 (fdL od v 6 - 0) od)) (i - 1)) (rgL rg hd 8) 6))), (2, .int (nI i)), (5, .int (nI (toL (xch (dnU (i - 1) (rsU 0 (fdL od v 6 - 0) od)) (i - 1)) (rgL rg hd 8) 6))), (4, .int (nI i)), (0, .ref (ad 0)), (1, .int (nI v))]) hx hb d_SG_sift_58 rfl hl (by decide) rfl (fun ls hl => ?_)
          refine lv_iinc (lv' := [(4, .int (nI (i + 1))), (3, .int (nI (toL (xch (dnU (i - 1) (rsU 0 (fdL od v 6 - 0) od)) (i - 1)) (rgL rg hd 8) 6))), (2, .int (nI i)), (5, .int (nI (toL (xch (dnU (i - 1) (rsU 0 (fdL od v 6 - 0) od)) (i - 1)) (rgL rg hd 8) 6))), (0, .ref (ad 0)), (1, .int (nI v))]) hx hb d_SG_sift_59 hl (k := 3) rfl (nI_1 _) (by decide) rfl (fun ls hl => ?_)
          refine lv_goto (tgt := 26) hx hb d_SG_sift_62 (by decide) ?_
          have hl := lv_sub hl [0, 1, 2, 4, 5] rfl
          have hl : lv_has ls 6 [(4, .int (nI ((i + 1)))), (3, .int (nI ((sfF (rgL rg hd 8) (rsU 0 (fdL od v 6 - 0) od) ((i + 1) - 1)).2))), (2, .int (nI ((sfF (rgL rg hd 8) (rsU 0 (fdL od v 6 - 0) od) ((i + 1) - 1)).1))), (0, .ref (ad 0)), (1, .int (nI v))] := by rw [show i + 1 - 1 = (i - 1) + 1 by omega, show sfF (rgL rg hd 8) (rsU 0 (fdL od v 6 - 0) od) (i - 1 + 1) = (i, toL (xch (dnU (i - 1) (rsU 0 (fdL od v 6 - 0) od)) (i - 1)) (rgL rg hd 8) 6) from (if_pos (Nat.lt_of_not_le c50)).trans (Prod.ext (show i - 1 + 1 = i by omega) rfl)]; exact hl
          have hP : va_P g.1 cl (CW g ad rg hd (nF (dnU ((i + 1) - 1) (rsU 0 (fdL od v 6 - 0) od))) tx ty sm pa pr fl op du qa42 ab42 ac42 qb42 be42 bc42 wd42 ++ X) H := by rw [show i + 1 - 1 = (i - 1) + 1 by omega]; exact hP
          have hD : va_D (gA g) (CW g ad rg hd (nF (dnU ((i + 1) - 1) (rsU 0 (fdL od v 6 - 0) od))) tx ty sm pa pr fl op du qa42 ab42 ac42 qb42 be42 bc42 wd42 ++ X) := by rw [show i + 1 - 1 = (i - 1) + 1 by omega]; exact hD
          exact ih26 (i + 1) qa42 ab42 ac42 qb42 be42 bc42 wd42 H locs ls (by omega) (by omega) hP hD hS hl
  have hl := lv_sub hl [0, 1, 2, 3, 4] rfl
  have hl : lv_has ls 6 [(4, .int (nI 1)), (3, .int (nI ((sfF (rgL rg hd 8) (rsU 0 (fdL od v 6 - 0) od) (1 - 1)).2))), (2, .int (nI ((sfF (rgL rg hd 8) (rsU 0 (fdL od v 6 - 0) od) (1 - 1)).1))), (0, .ref (ad 0)), (1, .int (nI v))] := hl
  have hP : va_P g.1 cl (CW g ad rg hd (nF (dnU (1 - 1) (rsU 0 (fdL od v 6 - 0) od))) tx ty sm pa pr fl op du qa19 ab19 ac19 qb19 be19 bc19 wd19 ++ X) H := hP
  have hD : va_D (gA g) (CW g ad rg hd (nF (dnU (1 - 1) (rsU 0 (fdL od v 6 - 0) od))) tx ty sm pa pr fl op du qa19 ab19 ac19 qb19 be19 bc19 wd19 ++ X) := hD
  exact lp26 (6 - 1) 1 qa19 ab19 ac19 qb19 be19 bc19 wd19 _ _ ls (by omega) (by omega) hP hD hS hl
set_option maxRecDepth 100000 in
set_option maxHeartbeats 4000000 in
theorem c_SG_type (l : Launch) (g : Gx) (ad : Nat → Nat) (rg : Nat → Int64) (hd : Nat → Int32) (od : Nat → Int32) (sm : Nat → Int64) (pa : Nat → Int64) (pr : Nat → Int64) (fl : Nat → Int64) (op : Int32) (du : Int32) (qa : Nat) (ab : Nat → Int64) (ac : Int32) (qb : Nat) (be : Nat → Int64) (bc : Int32) (wd : Nat → Int32) (X : va_W) (tx : Nat → Nat) (td : Nat) (x : Int64) (n : Nat) (h1 : 1 ≤ n) (h2 : n ≤ 8) (h3 : td + n ≤ 40) : Met l y_SG_type (w_SG_type :: TW) rm_SG_type (va_Pc [.ref (ad 0), .long x, .int (nI n)] (PR g (CW g ad rg hd od (nF tx) (nI td) sm pa pr fl op du qa ab ac qb be bc wd ++ X))) (va_Qi (fun r9 (u9 : Unit) => r9 = nI (td + n)) (fun u9 t9 => PR g (CW g ad rg hd od (nF (tyW tx td x n)) (nI (td + n)) sm pa pr fl op du qa ab ac qb be bc wd ++ X) t9) (gA g)) 0 0 (gA g) := by
  refine mt_of (by decide) (Nat.le_of_ble_eq_true rfl) ?_
  intro p e s m below meth c ls hx hb hr hml hlk hown ht hnm F hP hD hl
  have hl : lv_has ls 5 [(0, .ref (ad 0)), (1, .long x), (3, .int (nI n))] := hl
  have hS : va_S (gA g) s.heap s.heap [] := va_S.rf
  refine lv_iload_n hx hb d_SG_type_0 rfl (lv_at hl 2 rfl) ?_
  refine lv_iconst (v := nI 1) hx hb d_SG_type_1 (by decide) ?_
  refine rc_lt (tgt := 22) hx hb (by omega) (by omega) d_SG_type_2 (by decide) (fun c2 => ?_) (fun c2 => ?_)
  · exact (by omega : False).elim
  · refine lv_iload_n hx hb d_SG_type_5 rfl (lv_at hl 2 rfl) ?_
    refine lv_bipush (v := nI 8) hx hb d_SG_type_6 (by decide) ?_
    refine rc_gt (tgt := 22) hx hb (by omega) (by omega) d_SG_type_8 (by decide) (fun c8 => ?_) (fun c8 => ?_)
    · exact (by omega : False).elim
    · refine lv_aload_n hx hb d_SG_type_11 rfl (lv_at hl 0 rfl) ?_
      refine va_get (ci := 3) (v := .int (nI td)) (C := R_SG) (T := T_SG) (N := 6) hx hb ht i_SG hown F.2.1 hP 0 rfl rfl 3 (by decide) (ht _ tw_88) (fun _ h9 => h9) rfl d_SG_type_12 ?_
      refine lv_iload_n hx hb d_SG_type_15 rfl (lv_at hl 2 rfl) ?_
      refine rn_add hx hb d_SG_type_16 ?_
      refine lv_bipush (v := nI 40) hx hb d_SG_type_17 (by decide) ?_
      refine rc_le (tgt := 30) hx hb (by omega) (by omega) d_SG_type_19 (by decide) (fun c19 => ?_) (fun c19 => ?_)
      · refine lv_iload_n hx hb d_SG_type_30 rfl (lv_at hl 2 rfl) ?_
        refine lv_iconst (v := nI 1) hx hb d_SG_type_31 (by decide) ?_
        refine rn_sub hx hb (by omega) d_SG_type_32 ?_
        refine lv_istore (lv' := [(4, .int (nI (n - 1))), (0, .ref (ad 0)), (1, .long x), (3, .int (nI n))]) hx hb d_SG_type_33 hl (by decide) rfl (fun ls hl => ?_)
        have lp35 : ∀ (j35 : Nat) (tx1 : Nat → Nat) (t1 : Nat) (H : Heap) (locs : List Loc) (ls : Array Slot), t1 + j35 = (td + n) → (j35 ≤ 8) → (tyW tx1 t1 x j35 = tyW tx td x n) → va_P g.1 cl (CW g ad rg hd od (nF tx1) (nI t1) sm pa pr fl op du qa ab ac qb be bc wd ++ X) H → va_D (gA g) (CW g ad rg hd od (nF tx1) (nI t1) sm pa pr fl op du qa ab ac qb be bc wd ++ X) → va_S (gA g) s.heap H locs → lv_has ls 5 [(4, .int (nI j35 + (-1))), (0, .ref (ad 0)), (1, .long x), (3, .int (nI n))] → W p l e rm_SG_type s m [.ref (ad 0), .long x, .int (nI n)].toArray below meth c H locs 0 0 (MQ below (va_Qi (fun r9 (u9 : Unit) => r9 = nI (td + n)) (fun u9 t9 => PR g (CW g ad rg hd od (nF (tyW tx td x n)) (nI (td + n)) sm pa pr fl op du qa ab ac qb be bc wd ++ X) t9) (gA g)) [.ref (ad 0), .long x, .int (nI n)].toArray s 0 0 (gA g)) (F0 m 35 ls []) := by
          intro j35
          induction j35 with
          | zero =>
            intro tx1 t1 H locs ls hj35 q0 q1 hP hD hS hl
            refine lv_iload hx hb d_SG_type_35 (lv_at hl 0 rfl) ?_
            refine lv_if_lt (tgt := 78) hx hb d_SG_type_37 (by decide) (fun c37 => ?_) (fun c37 => ?_)
            · refine lv_aload_n hx hb d_SG_type_78 rfl (lv_at hl 1 rfl) ?_
              refine va_get (ci := 3) (v := .int (nI t1)) (C := R_SG) (T := T_SG) (N := 6) hx hb ht i_SG hown F.2.1 hP 0 rfl rfl 3 (by decide) (ht _ tw_88) (fun _ h9 => h9) rfl d_SG_type_79 ?_
              have hP : va_P g.1 cl (CW g ad rg hd od (nF (tyW tx td x n)) (nI (td + n)) sm pa pr fl op du qa ab ac qb be bc wd ++ X) H := by rw [← q1, show td + n = t1 by omega]; exact hP
              have hD : va_D (gA g) (CW g ad rg hd od (nF (tyW tx td x n)) (nI (td + n)) sm pa pr fl op du qa ab ac qb be bc wd ++ X) := by rw [← q1, show td + n = t1 by omega]; exact hD
              exact W.iret (v := nI t1) hx hb hr (fun t9 e1 hW => ⟨⟨_, (), rfl, (by rw [show td + n = t1 by omega]), PR.at F hP hD hS e1 hW.alike⟩, hS.F e1⟩) hS.2.2 d_SG_type_82
            · exact absurd (by decide) c37
          | succ j35 ih35 =>
            intro tx1 t1 H locs ls hj35 q0 q1 hP hD hS hl
            have hl : lv_has ls 5 [(4, .int (nI j35)), (0, .ref (ad 0)), (1, .long x), (3, .int (nI n))] := by rw [pk_m1] at hl; exact hl
            refine lv_iload hx hb d_SG_type_35 (lv_at hl 0 rfl) ?_
            refine rz_lt (tgt := 78) hx hb (by omega) d_SG_type_37 (by decide) (fun c37 => ?_) (fun c37 => ?_)
            · exact c37.elim
            · refine lv_aload_n hx hb d_SG_type_40 rfl (lv_at hl 1 rfl) ?_
              refine va_get (ci := 3) (v := .ref (ad 5)) (C := R_SG) (T := T_SG) (N := 6) hx hb ht i_SG hown F.2.1 hP 0 rfl rfl 2 (by decide) (ht _ tw_87) (fun _ h9 => h9) rfl d_SG_type_41 ?_
              refine lv_aload_n hx hb d_SG_type_44 rfl (lv_at hl 1 rfl) ?_
              refine va_get (ci := 3) (v := .int (nI t1)) (C := R_SG) (T := T_SG) (N := 6) hx hb ht i_SG hown F.2.1 hP 0 rfl rfl 3 (by decide) (ht _ tw_88) (fun _ h9 => h9) rfl d_SG_type_45 ?_
              refine lv_lload_n hx hb d_SG_type_48 rfl (lv_at hl 2 rfl) ?_
              refine lv_bipush (v := nI 8) hx hb d_SG_type_49 (by decide) ?_
              refine lv_iload hx hb d_SG_type_51 (lv_at hl 0 rfl) ?_
              refine lv_imul hx hb d_SG_type_53 ?_
              rw [pk_mul]
              refine lv_lushr hx hb d_SG_type_54 rfl ?_
              refine lv_ldc2 (v := 255) hx hb hown (ht _ tw_304) d_SG_type_55 ?_
              refine lv_land hx hb d_SG_type_58 ?_
              refine lv_l2i hx hb d_SG_type_59 rfl ?_
              refine lv_i2c hx hb d_SG_type_60 rfl ?_
              rw [ch_eq (by omega)]
              refine wa_C (y := nI (chN x j35)) hx hb F hP hD hS 5 rfl (nar_c (Nat.lt_trans (chN_lt _ _) (by decide))) (by omega) (by decide) d_SG_type_61 (fun H locs hP hD hS => ?_)
              have hP : va_P g.1 cl (CW g ad rg hd od (upd (nF tx1) t1 (nI (chN x j35))) (nI t1) sm pa pr fl op du qa ab ac qb be bc wd ++ X) H := hP
              have hD : va_D (gA g) (CW g ad rg hd od (upd (nF tx1) t1 (nI (chN x j35))) (nI t1) sm pa pr fl op du qa ab ac qb be bc wd ++ X) := hD
              rw [nF_upd] at hP hD
              have hP : va_P g.1 cl (CW g ad rg hd od (nF (uN tx1 t1 (chN x j35))) (nI t1) sm pa pr fl op du qa ab ac qb be bc wd ++ X) H := hP
              have hD : va_D (gA g) (CW g ad rg hd od (nF (uN tx1 t1 (chN x j35))) (nI t1) sm pa pr fl op du qa ab ac qb be bc wd ++ X) := hD
              refine lv_aload_n hx hb d_SG_type_62 rfl (lv_at hl 1 rfl) ?_
              refine lv_dup hx hb d_SG_type_63 rfl ?_
              refine va_get (ci := 3) (v := .int (nI t1)) (C := R_SG) (T := T_SG) (N := 6) hx hb ht i_SG hown F.2.1 hP 0 rfl rfl 3 (by decide) (ht _ tw_88) (fun _ h9 => h9) rfl d_SG_type_64 ?_
              refine lv_iconst (v := nI 1) hx hb d_SG_type_67 (by decide) ?_
              refine rn_add hx hb d_SG_type_68 ?_
              refine va_put (ci := 3) (v := .int (nI (t1 + 1))) (ty := .int) (C := R_SG) (T := T_SG) (N := 6) hx hb ht i_SG t_SG t_SG_ok n_SG hown F.2.1 hP hD hS 0 rfl rfl 3 (by decide) (ht _ tw_88) (fun _ h9 => h9) rfl (by decide +kernel) rfl rfl (Nat.le_of_ble_eq_true rfl) d_SG_type_69 (fun H locs hP hD hS => ?_)
              have hP : va_P g.1 cl (CW g ad rg hd od (nF (uN tx1 t1 (chN x j35))) (nI (t1 + 1)) sm pa pr fl op du qa ab ac qb be bc wd ++ X) H := hP
              have hD : va_D (gA g) (CW g ad rg hd od (nF (uN tx1 t1 (chN x j35))) (nI (t1 + 1)) sm pa pr fl op du qa ab ac qb be bc wd ++ X) := hD
              refine lv_iinc (lv' := [(4, .int ((nI j35) + (-1))), (0, .ref (ad 0)), (1, .long x), (3, .int (nI n))]) hx hb d_SG_type_72 hl (k := 0) rfl rfl (by decide) rfl (fun ls hl => ?_)
              refine lv_goto (tgt := 35) hx hb d_SG_type_75 (by decide) ?_
              have hl := lv_sub hl [0, 1, 2, 3] rfl
              have hl : lv_has ls 5 [(4, .int (nI j35 + (-1))), (0, .ref (ad 0)), (1, .long x), (3, .int (nI n))] := hl
              have hP : va_P g.1 cl (CW g ad rg hd od (nF (uN tx1 t1 (chN x j35))) (nI (t1 + 1)) sm pa pr fl op du qa ab ac qb be bc wd ++ X) H := hP
              have hD : va_D (gA g) (CW g ad rg hd od (nF (uN tx1 t1 (chN x j35))) (nI (t1 + 1)) sm pa pr fl op du qa ab ac qb be bc wd ++ X) := hD
              exact ih35 (uN tx1 t1 (chN x j35)) (t1 + 1) H locs ls (by omega) (by omega) q1 hP hD hS hl
        have hl := lv_sub hl [0, 1, 2, 3] rfl
        have hl : lv_has ls 5 [(4, .int (nI ((td + n) - td) + (-1))), (0, .ref (ad 0)), (1, .long x), (3, .int (nI n))] := by rw [show nI (td + n - td) + (-1) = nI (n - 1) by rw [show td + n - td = n by omega]; exact sb_m1 (by omega)]; exact hl
        have hP : va_P g.1 cl (CW g ad rg hd od (nF tx) (nI td) sm pa pr fl op du qa ab ac qb be bc wd ++ X) s.heap := hP
        have hD : va_D (gA g) (CW g ad rg hd od (nF tx) (nI td) sm pa pr fl op du qa ab ac qb be bc wd ++ X) := hD
        exact lp35 ((td + n) - td) tx td _ _ ls (by omega) (by omega) (by rw [show td + n - td = n by omega]) hP hD hS hl
      · exact (by omega : False).elim
set_option maxRecDepth 100000 in
set_option maxHeartbeats 4000000 in
theorem c_SG_read (l : Launch) (g : Gx) (ad : Nat → Nat) (rg : Nat → Int64) (hd : Nat → Int32) (od : Nat → Int32) (sm : Nat → Int64) (pa : Nat → Int64) (pr : Nat → Int64) (fl : Nat → Int64) (op : Int32) (du : Int32) (qa : Nat) (ab : Nat → Int64) (ac : Int32) (qb : Nat) (be : Nat → Int64) (bc : Int32) (wd : Nat → Int32) (X : va_W) (tx : Nat → Nat) (td r : Nat) (h1 : r < 8) (h2 : td ≤ 40) (h3 : ∀ i, i < 40 → tx i < 65536) (h9 : ∀ i, i < 8 → hd i = 0 ∨ hd i = 1) : Met l y_SG_read (w_SG_read :: TW) rm_SG_read (va_Pc [.ref (ad 0), .int (nI r)] (PR g (CW g ad rg hd od (nF tx) (nI td) sm pa pr fl op du qa ab ac qb be bc wd ++ X))) (va_Qi (fun r9 (u9 : Unit) => r9 = (rdG rg hd tx td 0 (bfF (sm, pa, pr, fl, 0, 1))).1) (fun u9 t9 => PR g (CW g ad (if (rdG rg hd tx td 0 (bfF (sm, pa, pr, fl, 0, 1))).1 < 0 then vp_updL rg r (meF (rdG rg hd tx td 0 (bfF (sm, pa, pr, fl, 0, 1))).2) else rg) (if (rdG rg hd tx td 0 (bfF (sm, pa, pr, fl, 0, 1))).1 < 0 then upd hd r (nI 1) else hd) od (nF tx) (nI 0) (((rdG rg hd tx td 0 (bfF (sm, pa, pr, fl, 0, 1))).2).1) (((rdG rg hd tx td 0 (bfF (sm, pa, pr, fl, 0, 1))).2).2.1) (((rdG rg hd tx td 0 (bfF (sm, pa, pr, fl, 0, 1))).2).2.2.1) (((rdG rg hd tx td 0 (bfF (sm, pa, pr, fl, 0, 1))).2).2.2.2.1) (nI (((rdG rg hd tx td 0 (bfF (sm, pa, pr, fl, 0, 1))).2).2.2.2.2.1)) (nI (((rdG rg hd tx td 0 (bfF (sm, pa, pr, fl, 0, 1))).2).2.2.2.2.2)) qa ab ac qb be bc wd ++ X) t9) (gA g)) 0 0 (gA g) := by
  refine mt_of (by decide) (Nat.le_of_ble_eq_true rfl) ?_
  intro p e s m below meth c ls hx hb hr hml hlk hown ht hnm F hP hD hl
  have hl : lv_has ls 3 [(0, .ref (ad 0)), (1, .int (nI r))] := hl
  have hS : va_S (gA g) s.heap s.heap [] := va_S.rf
  refine lv_iload_n hx hb d_SG_read_0 rfl (lv_at hl 1 rfl) ?_
  refine lv_bipush (v := nI 8) hx hb d_SG_read_1 (by decide) ?_
  refine pc_Sv (As := [.int (nI r), .int (nI 8)]) (rest := []) hx hb (hml.trans hl.1.symm) hown ht F hP hD hS (c_SG_checkBelow l g (CW g ad rg hd od (nF tx) (nI td) sm pa pr fl op du qa ab ac qb be bc wd ++ X) r 8 (by omega) (by omega)) v_SG_checkBelow tw_161 ⟨rfl, rfl⟩ ⟨by decide, by decide⟩ rfl rfl (Nat.le_of_ble_eq_true rfl) ⟨Nat.zero_le _, Nat.zero_le _⟩ d_SG_read_3 (fun u9 H locs hq hP hD hS => ?_)
  refine lv_aload_n hx hb d_SG_read_6 rfl (lv_at hl 0 rfl) ?_
  refine va_get (ci := 3) (v := .ref (ad 6)) (C := R_SG) (T := T_SG) (N := 6) hx hb ht i_SG hown F.2.1 hP 0 rfl rfl 4 (by decide) (ht _ tw_89) (fun _ h9 => h9) rfl d_SG_read_7 ?_
  refine lv_aload_n hx hb d_SG_read_10 rfl (lv_at hl 0 rfl) ?_
  refine va_get (ci := 3) (v := .ref (ad 5)) (C := R_SG) (T := T_SG) (N := 6) hx hb ht i_SG hown F.2.1 hP 0 rfl rfl 2 (by decide) (ht _ tw_87) (fun _ h9 => h9) rfl d_SG_read_11 ?_
  refine lv_aload_n hx hb d_SG_read_14 rfl (lv_at hl 0 rfl) ?_
  refine va_get (ci := 3) (v := .int (nI td)) (C := R_SG) (T := T_SG) (N := 6) hx hb ht i_SG hown F.2.1 hP 0 rfl rfl 3 (by decide) (ht _ tw_88) (fun _ h9 => h9) rfl d_SG_read_15 ?_
  refine lv_aload_n hx hb d_SG_read_18 rfl (lv_at hl 0 rfl) ?_
  refine va_get (ci := 3) (v := .ref (ad 1)) (C := R_SG) (T := T_SG) (N := 6) hx hb ht i_SG hown F.2.1 hP 0 rfl rfl 0 (by decide) (ht _ tw_85) (fun _ h9 => h9) rfl d_SG_read_19 ?_
  refine pc_Vi (q0 := 6) (As := [.ref (ad 5), .int (nI td), .ref (ad 1)]) (rest := []) hx hb (hml.trans hl.1.symm) hown ht F hP hD hS (c_FR_failurePlace l g ad rg hd od (nI td) sm pa pr fl op du qa ab ac qb be bc wd X tx td h2 h3 h9) v_FR_failurePlace tw_312 ⟨rfl, rfl⟩ ⟨by decide, by decide⟩ rfl rfl rfl rfl (Nat.le_of_ble_eq_true rfl) ⟨Nat.zero_le _, Nat.zero_le _⟩ d_SG_read_22 (fun r9 u9 H locs hq hP hD hS => ?_)
  subst hq
  have hP : va_P g.1 cl (CW g ad rg hd od (nF tx) (nI td) (((rdG rg hd tx td 0 (bfF (sm, pa, pr, fl, 0, 1))).2).1) (((rdG rg hd tx td 0 (bfF (sm, pa, pr, fl, 0, 1))).2).2.1) (((rdG rg hd tx td 0 (bfF (sm, pa, pr, fl, 0, 1))).2).2.2.1) (((rdG rg hd tx td 0 (bfF (sm, pa, pr, fl, 0, 1))).2).2.2.2.1) (nI (((rdG rg hd tx td 0 (bfF (sm, pa, pr, fl, 0, 1))).2).2.2.2.2.1)) (nI (((rdG rg hd tx td 0 (bfF (sm, pa, pr, fl, 0, 1))).2).2.2.2.2.2)) qa ab ac qb be bc wd ++ X) H := hP
  have hD : va_D (gA g) (CW g ad rg hd od (nF tx) (nI td) (((rdG rg hd tx td 0 (bfF (sm, pa, pr, fl, 0, 1))).2).1) (((rdG rg hd tx td 0 (bfF (sm, pa, pr, fl, 0, 1))).2).2.1) (((rdG rg hd tx td 0 (bfF (sm, pa, pr, fl, 0, 1))).2).2.2.1) (((rdG rg hd tx td 0 (bfF (sm, pa, pr, fl, 0, 1))).2).2.2.2.1) (nI (((rdG rg hd tx td 0 (bfF (sm, pa, pr, fl, 0, 1))).2).2.2.2.2.1)) (nI (((rdG rg hd tx td 0 (bfF (sm, pa, pr, fl, 0, 1))).2).2.2.2.2.2)) qa ab ac qb be bc wd ++ X) := hD
  refine lv_istore_n (lv' := [(2, .int ((rdG rg hd tx td 0 (bfF (sm, pa, pr, fl, 0, 1))).1)), (0, .ref (ad 0)), (1, .int (nI r))]) hx hb d_SG_read_25 rfl hl (by decide) rfl (fun ls hl => ?_)
  refine lv_aload_n hx hb d_SG_read_26 rfl (lv_at hl 1 rfl) ?_
  refine lv_iconst (v := nI 0) hx hb d_SG_read_27 (by decide) ?_
  refine va_put (ci := 3) (v := .int (nI 0)) (ty := .int) (C := R_SG) (T := T_SG) (N := 6) hx hb ht i_SG t_SG t_SG_ok n_SG hown F.2.1 hP hD hS 0 rfl rfl 3 (by decide) (ht _ tw_88) (fun _ h9 => h9) rfl (by decide +kernel) rfl rfl (Nat.le_of_ble_eq_true rfl) d_SG_read_28 (fun H locs hP hD hS => ?_)
  have hP : va_P g.1 cl (CW g ad rg hd od (nF tx) (nI 0) (((rdG rg hd tx td 0 (bfF (sm, pa, pr, fl, 0, 1))).2).1) (((rdG rg hd tx td 0 (bfF (sm, pa, pr, fl, 0, 1))).2).2.1) (((rdG rg hd tx td 0 (bfF (sm, pa, pr, fl, 0, 1))).2).2.2.1) (((rdG rg hd tx td 0 (bfF (sm, pa, pr, fl, 0, 1))).2).2.2.2.1) (nI (((rdG rg hd tx td 0 (bfF (sm, pa, pr, fl, 0, 1))).2).2.2.2.2.1)) (nI (((rdG rg hd tx td 0 (bfF (sm, pa, pr, fl, 0, 1))).2).2.2.2.2.2)) qa ab ac qb be bc wd ++ X) H := hP
  have hD : va_D (gA g) (CW g ad rg hd od (nF tx) (nI 0) (((rdG rg hd tx td 0 (bfF (sm, pa, pr, fl, 0, 1))).2).1) (((rdG rg hd tx td 0 (bfF (sm, pa, pr, fl, 0, 1))).2).2.1) (((rdG rg hd tx td 0 (bfF (sm, pa, pr, fl, 0, 1))).2).2.2.1) (((rdG rg hd tx td 0 (bfF (sm, pa, pr, fl, 0, 1))).2).2.2.2.1) (nI (((rdG rg hd tx td 0 (bfF (sm, pa, pr, fl, 0, 1))).2).2.2.2.2.1)) (nI (((rdG rg hd tx td 0 (bfF (sm, pa, pr, fl, 0, 1))).2).2.2.2.2.2)) qa ab ac qb be bc wd ++ X) := hD
  refine lv_iload_n hx hb d_SG_read_31 rfl (lv_at hl 0 rfl) ?_
  refine lv_if_ge (tgt := 50) hx hb d_SG_read_32 (by decide) (fun c32 => ?_) (fun c32 => ?_)
  · refine lv_iload_n hx hb d_SG_read_50 rfl (lv_at hl 0 rfl) ?_
    have hP : va_P g.1 cl (CW g ad (if (rdG rg hd tx td 0 (bfF (sm, pa, pr, fl, 0, 1))).1 < 0 then vp_updL rg r (meF (rdG rg hd tx td 0 (bfF (sm, pa, pr, fl, 0, 1))).2) else rg) (if (rdG rg hd tx td 0 (bfF (sm, pa, pr, fl, 0, 1))).1 < 0 then upd hd r (nI 1) else hd) od (nF tx) (nI 0) (((rdG rg hd tx td 0 (bfF (sm, pa, pr, fl, 0, 1))).2).1) (((rdG rg hd tx td 0 (bfF (sm, pa, pr, fl, 0, 1))).2).2.1) (((rdG rg hd tx td 0 (bfF (sm, pa, pr, fl, 0, 1))).2).2.2.1) (((rdG rg hd tx td 0 (bfF (sm, pa, pr, fl, 0, 1))).2).2.2.2.1) (nI (((rdG rg hd tx td 0 (bfF (sm, pa, pr, fl, 0, 1))).2).2.2.2.2.1)) (nI (((rdG rg hd tx td 0 (bfF (sm, pa, pr, fl, 0, 1))).2).2.2.2.2.2)) qa ab ac qb be bc wd ++ X) H := by rw [if_neg (fun h => by rw [Int32.lt_iff_toInt_lt] at h; rw [Int32.le_iff_toInt_le] at c32; omega), if_neg (fun h => by rw [Int32.lt_iff_toInt_lt] at h; rw [Int32.le_iff_toInt_le] at c32; omega)]; exact hP
    have hD : va_D (gA g) (CW g ad (if (rdG rg hd tx td 0 (bfF (sm, pa, pr, fl, 0, 1))).1 < 0 then vp_updL rg r (meF (rdG rg hd tx td 0 (bfF (sm, pa, pr, fl, 0, 1))).2) else rg) (if (rdG rg hd tx td 0 (bfF (sm, pa, pr, fl, 0, 1))).1 < 0 then upd hd r (nI 1) else hd) od (nF tx) (nI 0) (((rdG rg hd tx td 0 (bfF (sm, pa, pr, fl, 0, 1))).2).1) (((rdG rg hd tx td 0 (bfF (sm, pa, pr, fl, 0, 1))).2).2.1) (((rdG rg hd tx td 0 (bfF (sm, pa, pr, fl, 0, 1))).2).2.2.1) (((rdG rg hd tx td 0 (bfF (sm, pa, pr, fl, 0, 1))).2).2.2.2.1) (nI (((rdG rg hd tx td 0 (bfF (sm, pa, pr, fl, 0, 1))).2).2.2.2.2.1)) (nI (((rdG rg hd tx td 0 (bfF (sm, pa, pr, fl, 0, 1))).2).2.2.2.2.2)) qa ab ac qb be bc wd ++ X) := by rw [if_neg (fun h => by rw [Int32.lt_iff_toInt_lt] at h; rw [Int32.le_iff_toInt_le] at c32; omega), if_neg (fun h => by rw [Int32.lt_iff_toInt_lt] at h; rw [Int32.le_iff_toInt_le] at c32; omega)]; exact hD
    exact W.iret (v := (rdG rg hd tx td 0 (bfF (sm, pa, pr, fl, 0, 1))).1) hx hb hr (fun t9 e1 hW => ⟨⟨_, (), rfl, rfl, PR.at F hP hD hS e1 hW.alike⟩, hS.F e1⟩) hS.2.2 d_SG_read_51
  · refine lv_aload_n hx hb d_SG_read_35 rfl (lv_at hl 1 rfl) ?_
    refine va_get (ci := 3) (v := .ref (ad 1)) (C := R_SG) (T := T_SG) (N := 6) hx hb ht i_SG hown F.2.1 hP 0 rfl rfl 0 (by decide) (ht _ tw_85) (fun _ h9 => h9) rfl d_SG_read_36 ?_
    refine lv_iload_n hx hb d_SG_read_39 rfl (lv_at hl 2 rfl) ?_
    refine lv_aload_n hx hb d_SG_read_40 rfl (lv_at hl 1 rfl) ?_
    refine va_get (ci := 3) (v := .ref (ad 6)) (C := R_SG) (T := T_SG) (N := 6) hx hb ht i_SG hown F.2.1 hP 0 rfl rfl 4 (by decide) (ht _ tw_89) (fun _ h9 => h9) rfl d_SG_read_41 ?_
    refine pc_Vl (q0 := 6) (As := []) (rest := [.int (nI r), .ref (ad 1)]) hx hb (hml.trans hl.1.symm) hown ht F hP hD hS (c_FR_meaning l g ad rg hd od (nF tx) (nI 0) (((rdG rg hd tx td 0 (bfF (sm, pa, pr, fl, 0, 1))).2).1) (((rdG rg hd tx td 0 (bfF (sm, pa, pr, fl, 0, 1))).2).2.1) (((rdG rg hd tx td 0 (bfF (sm, pa, pr, fl, 0, 1))).2).2.2.1) (((rdG rg hd tx td 0 (bfF (sm, pa, pr, fl, 0, 1))).2).2.2.2.1) (nI (((rdG rg hd tx td 0 (bfF (sm, pa, pr, fl, 0, 1))).2).2.2.2.2.2)) qa ab ac qb be bc wd X (((rdG rg hd tx td 0 (bfF (sm, pa, pr, fl, 0, 1))).2).2.2.2.2.1) (rd_k _ _ _ (show (0 : Nat) < 6 by decide))) v_FR_meaning tw_352 ⟨rfl, rfl⟩ ⟨by decide, by decide⟩ rfl rfl rfl rfl (Nat.le_of_ble_eq_true rfl) ⟨Nat.zero_le _, Nat.zero_le _⟩ d_SG_read_44 (fun r9 u9 H locs hq hP hD hS => ?_)
    subst hq
    refine pc_Vv (q0 := 1) (As := [.int (nI r), .long ((((rdG rg hd tx td 0 (bfF (sm, pa, pr, fl, 0, 1))).2).1) (((rdG rg hd tx td 0 (bfF (sm, pa, pr, fl, 0, 1))).2).2.2.2.2.1) ||| ((((rdG rg hd tx td 0 (bfF (sm, pa, pr, fl, 0, 1))).2).2.1) (((rdG rg hd tx td 0 (bfF (sm, pa, pr, fl, 0, 1))).2).2.2.2.2.1) ^^^ (((rdG rg hd tx td 0 (bfF (sm, pa, pr, fl, 0, 1))).2).2.2.1) (((rdG rg hd tx td 0 (bfF (sm, pa, pr, fl, 0, 1))).2).2.2.2.2.1)))]) (rest := []) hx hb (hml.trans hl.1.symm) hown ht F hP hD hS (c_RG_put l g ad rg hd od (nF tx) (nI 0) (((rdG rg hd tx td 0 (bfF (sm, pa, pr, fl, 0, 1))).2).1) (((rdG rg hd tx td 0 (bfF (sm, pa, pr, fl, 0, 1))).2).2.1) (((rdG rg hd tx td 0 (bfF (sm, pa, pr, fl, 0, 1))).2).2.2.1) (((rdG rg hd tx td 0 (bfF (sm, pa, pr, fl, 0, 1))).2).2.2.2.1) (nI (((rdG rg hd tx td 0 (bfF (sm, pa, pr, fl, 0, 1))).2).2.2.2.2.1)) (nI (((rdG rg hd tx td 0 (bfF (sm, pa, pr, fl, 0, 1))).2).2.2.2.2.2)) qa ab ac qb be bc wd X r ((((rdG rg hd tx td 0 (bfF (sm, pa, pr, fl, 0, 1))).2).1) (((rdG rg hd tx td 0 (bfF (sm, pa, pr, fl, 0, 1))).2).2.2.2.2.1) ||| ((((rdG rg hd tx td 0 (bfF (sm, pa, pr, fl, 0, 1))).2).2.1) (((rdG rg hd tx td 0 (bfF (sm, pa, pr, fl, 0, 1))).2).2.2.2.2.1) ^^^ (((rdG rg hd tx td 0 (bfF (sm, pa, pr, fl, 0, 1))).2).2.2.1) (((rdG rg hd tx td 0 (bfF (sm, pa, pr, fl, 0, 1))).2).2.2.2.2.1))) (by omega)) v_RG_put tw_230 ⟨rfl, rfl⟩ ⟨by decide, by decide⟩ rfl rfl rfl rfl (Nat.le_of_ble_eq_true rfl) ⟨Nat.zero_le _, Nat.zero_le _⟩ d_SG_read_47 (fun u9 H locs hq hP hD hS => ?_)
    have hP : va_P g.1 cl (CW g ad (vp_updL rg r ((((rdG rg hd tx td 0 (bfF (sm, pa, pr, fl, 0, 1))).2).1) (((rdG rg hd tx td 0 (bfF (sm, pa, pr, fl, 0, 1))).2).2.2.2.2.1) ||| ((((rdG rg hd tx td 0 (bfF (sm, pa, pr, fl, 0, 1))).2).2.1) (((rdG rg hd tx td 0 (bfF (sm, pa, pr, fl, 0, 1))).2).2.2.2.2.1) ^^^ (((rdG rg hd tx td 0 (bfF (sm, pa, pr, fl, 0, 1))).2).2.2.1) (((rdG rg hd tx td 0 (bfF (sm, pa, pr, fl, 0, 1))).2).2.2.2.2.1)))) (upd hd r (nI 1)) od (nF tx) (nI 0) (((rdG rg hd tx td 0 (bfF (sm, pa, pr, fl, 0, 1))).2).1) (((rdG rg hd tx td 0 (bfF (sm, pa, pr, fl, 0, 1))).2).2.1) (((rdG rg hd tx td 0 (bfF (sm, pa, pr, fl, 0, 1))).2).2.2.1) (((rdG rg hd tx td 0 (bfF (sm, pa, pr, fl, 0, 1))).2).2.2.2.1) (nI (((rdG rg hd tx td 0 (bfF (sm, pa, pr, fl, 0, 1))).2).2.2.2.2.1)) (nI (((rdG rg hd tx td 0 (bfF (sm, pa, pr, fl, 0, 1))).2).2.2.2.2.2)) qa ab ac qb be bc wd ++ X) H := hP
    have hD : va_D (gA g) (CW g ad (vp_updL rg r ((((rdG rg hd tx td 0 (bfF (sm, pa, pr, fl, 0, 1))).2).1) (((rdG rg hd tx td 0 (bfF (sm, pa, pr, fl, 0, 1))).2).2.2.2.2.1) ||| ((((rdG rg hd tx td 0 (bfF (sm, pa, pr, fl, 0, 1))).2).2.1) (((rdG rg hd tx td 0 (bfF (sm, pa, pr, fl, 0, 1))).2).2.2.2.2.1) ^^^ (((rdG rg hd tx td 0 (bfF (sm, pa, pr, fl, 0, 1))).2).2.2.1) (((rdG rg hd tx td 0 (bfF (sm, pa, pr, fl, 0, 1))).2).2.2.2.2.1)))) (upd hd r (nI 1)) od (nF tx) (nI 0) (((rdG rg hd tx td 0 (bfF (sm, pa, pr, fl, 0, 1))).2).1) (((rdG rg hd tx td 0 (bfF (sm, pa, pr, fl, 0, 1))).2).2.1) (((rdG rg hd tx td 0 (bfF (sm, pa, pr, fl, 0, 1))).2).2.2.1) (((rdG rg hd tx td 0 (bfF (sm, pa, pr, fl, 0, 1))).2).2.2.2.1) (nI (((rdG rg hd tx td 0 (bfF (sm, pa, pr, fl, 0, 1))).2).2.2.2.2.1)) (nI (((rdG rg hd tx td 0 (bfF (sm, pa, pr, fl, 0, 1))).2).2.2.2.2.2)) qa ab ac qb be bc wd ++ X) := hD
    refine lv_iload_n hx hb d_SG_read_50 rfl (lv_at hl 0 rfl) ?_
    have hP : va_P g.1 cl (CW g ad (if (rdG rg hd tx td 0 (bfF (sm, pa, pr, fl, 0, 1))).1 < 0 then vp_updL rg r (meF (rdG rg hd tx td 0 (bfF (sm, pa, pr, fl, 0, 1))).2) else rg) (if (rdG rg hd tx td 0 (bfF (sm, pa, pr, fl, 0, 1))).1 < 0 then upd hd r (nI 1) else hd) od (nF tx) (nI 0) (((rdG rg hd tx td 0 (bfF (sm, pa, pr, fl, 0, 1))).2).1) (((rdG rg hd tx td 0 (bfF (sm, pa, pr, fl, 0, 1))).2).2.1) (((rdG rg hd tx td 0 (bfF (sm, pa, pr, fl, 0, 1))).2).2.2.1) (((rdG rg hd tx td 0 (bfF (sm, pa, pr, fl, 0, 1))).2).2.2.2.1) (nI (((rdG rg hd tx td 0 (bfF (sm, pa, pr, fl, 0, 1))).2).2.2.2.2.1)) (nI (((rdG rg hd tx td 0 (bfF (sm, pa, pr, fl, 0, 1))).2).2.2.2.2.2)) qa ab ac qb be bc wd ++ X) H := by rw [if_pos (by rw [Int32.lt_iff_toInt_lt]; rw [Int32.le_iff_toInt_le] at c32; omega), if_pos (by rw [Int32.lt_iff_toInt_lt]; rw [Int32.le_iff_toInt_le] at c32; omega)]; exact hP
    have hD : va_D (gA g) (CW g ad (if (rdG rg hd tx td 0 (bfF (sm, pa, pr, fl, 0, 1))).1 < 0 then vp_updL rg r (meF (rdG rg hd tx td 0 (bfF (sm, pa, pr, fl, 0, 1))).2) else rg) (if (rdG rg hd tx td 0 (bfF (sm, pa, pr, fl, 0, 1))).1 < 0 then upd hd r (nI 1) else hd) od (nF tx) (nI 0) (((rdG rg hd tx td 0 (bfF (sm, pa, pr, fl, 0, 1))).2).1) (((rdG rg hd tx td 0 (bfF (sm, pa, pr, fl, 0, 1))).2).2.1) (((rdG rg hd tx td 0 (bfF (sm, pa, pr, fl, 0, 1))).2).2.2.1) (((rdG rg hd tx td 0 (bfF (sm, pa, pr, fl, 0, 1))).2).2.2.2.1) (nI (((rdG rg hd tx td 0 (bfF (sm, pa, pr, fl, 0, 1))).2).2.2.2.2.1)) (nI (((rdG rg hd tx td 0 (bfF (sm, pa, pr, fl, 0, 1))).2).2.2.2.2.2)) qa ab ac qb be bc wd ++ X) := by rw [if_pos (by rw [Int32.lt_iff_toInt_lt]; rw [Int32.le_iff_toInt_le] at c32; omega), if_pos (by rw [Int32.lt_iff_toInt_lt]; rw [Int32.le_iff_toInt_le] at c32; omega)]; exact hD
    exact W.iret (v := (rdG rg hd tx td 0 (bfF (sm, pa, pr, fl, 0, 1))).1) hx hb hr (fun t9 e1 hW => ⟨⟨_, (), rfl, rfl, PR.at F hP hD hS e1 hW.alike⟩, hS.F e1⟩) hS.2.2 d_SG_read_51
