/-! THE CLAIM OUT OF ONE WALK OF THE LAW'S BODY. Your part is whole_start (and what it stands on); all else here is the same for every law, but numbers. -/
def R_law : String := "SiftedGraphsLaw"
def lw_P (b : Addr) (xs : List Int32) (args : Array Value) (s : State) : Prop := args = #[.ref b] ∧ s.IntsAt b xs ∧ xs.length ≤ 2560 ∧ (Jvm.Cond.and given_1 narrow_1).before args s = true
def lw_Q (_ : Array Value) (s : State) (o : Outcome) (t : State) : Prop := o = .returned (some (.int 1)) ∧ Framed s o t [] 1052 8883
def lw_Z (below : List Frame) (a : Array Value) (s : State) : State → Prop := fun t => ∃ o, t.status = .running ∧ Ended t below o ∧ lw_Q a s o t
/-- the law's own end, with 1 on the stack, nothing written that was there before, its room as the claim has it -/
theorem lw_ret {p : Program} {l : Launch} {e : Env} {s : State} {m : MethodId} {below : List Frame} {meth : Method} {c : Code} {b : Nat} (hx : p.tables.exec = Jvm.exec) (hb : c.code = code) (hr : meth.sig.returnType = ret) (hlocks : meth.locks = false) {pc : Nat} {H : Heap} {ls : Array Slot} (hdg : decode code pc = .ok (.ireturn, 1)) : W p l e room_1 s m #[Value.ref b] below meth c H [] 1052 8883 (lw_Z below #[Value.ref b] s) (F0 m pc ls [.int 1]) := by
  intro T hT X
  obtain ⟨fs, hret, hrun, hended, hW, hframe⟩ := X.leave (v := some (.int 1)) (hlocks := hlocks) (fun h => by rw [hr] at h; cases h)
  have hmeth' : T.vm.method? m = some meth := X.method'
  refine ⟨T.setFrames fs, ?_, .returned (some (.int 1)), hrun, hended, rfl, ⟨_, rfl⟩, hW, hframe⟩
  jvm_step X.here [X.here.top, hx, hb, hdg, hmeth', hr, ret, narrow_b1]
  (try refine ⟨rfl, ?_⟩); (try refine ⟨rfl, ?_⟩)
  first | (intro acts; rw [hret _ acts rfl rfl rfl]) | rw [hret _ _ rfl rfl rfl]
  exact Steps.refl _
/-- what holds at the law's entry: the machine, the code, the tables' words (any of lw_tbl by 'hts w (by decide +kernel)'), the script of L ints xs at the cell b, what the Statement gives of the start (any of its parts by flat_of_before) -/
def lw_At (p : Program) (s : State) (m : MethodId) (meth : Method) (c : Code) (b L : Nat) (xs : Nat → Int32) : Prop :=
  p.tables.exec = Jvm.exec ∧ c.code = code ∧ meth.sig.returnType = ret ∧ c.maxLocals = 7 ∧ s.vm.findClass R_law = some m.cls ∧ (∀ w ∈ lw_tbl, w.before #[Value.ref b] s = true) ∧ va_X b L xs s s.heap ∧ b < s.heap.size ∧ meth.locks = false ∧ (Jvm.Cond.and given_1 narrow_1).before #[Value.ref b] s = true
theorem and31 (x : Int32) : ∃ k, k < 32 ∧ x &&& nI 31 = nI k := by
  refine ⟨x.toBitVec.toNat % 32, Nat.mod_lt _ (by decide), ?_⟩
  apply Int32.toBitVec_inj.mp
  apply BitVec.eq_of_toNat_eq
  rw [Int32.toBitVec_and, BitVec.toNat_and]
  have h7 : (nI 31).toBitVec.toNat = 2 ^ 5 - 1 := by decide
  have hb : (nI (x.toBitVec.toNat % 32)).toBitVec.toNat = x.toBitVec.toNat % 32 % 2 ^ 32 := by
    show (BitVec.ofNat 32 (x.toBitVec.toNat % 32)).toNat = _
    rw [BitVec.toNat_ofNat]
  rw [h7, Nat.and_two_pow_sub_one_eq_mod, hb]
  omega
set_option maxRecDepth 100000 in
/-- what the start gives: the classes, the array classes, the statics, the words of the throws -/
theorem lw_fx {s : State} {b : Nat} (hts : ∀ w ∈ lw_tbl, w.before #[Value.ref b] s = true) (hgv : (Jvm.Cond.and given_1 narrow_1).before #[Value.ref b] s = true) : ∃ g : Gx, gA g = (fun q => s.heap.size ≤ q) ∧ Fx g s := by
  have ht : ∀ w ∈ TW, w.before #[Value.ref b] s = true := fun w hw => hts w (TW_l hw)
  have hs := flat_of_before _ hgv
  have hA : ∀ a : Nat, a < s.heap.size → ¬ (fun q => s.heap.size ≤ q) a := fun a ha => Nat.not_le.mpr ha
  obtain ⟨c0, i0, k0⟩ := u_known (C := R_FR) (T := T_FR) (N := 6) ht i_FR (ht _ tw_37)
  obtain ⟨c1, i1, k1⟩ := u_known (C := R_NC) (T := T_NC) (N := 5) ht i_NC (ht _ tw_64)
  obtain ⟨c2, i2, k2⟩ := u_known (C := R_RG) (T := T_RG) (N := 2) ht i_RG (ht _ tw_22)
  obtain ⟨c3, i3, k3⟩ := u_known (C := R_SG) (T := T_SG) (N := 6) ht i_SG (ht _ tw_14)
  obtain ⟨c4, i4, k4⟩ := u_known (C := R_MD) (T := T_MD) (N := 13) ht i_MD (ht _ tw_465)
  obtain ⟨aI, wI, pI, eI, fI, hI⟩ := Cond.arrayClass_spec (ht _ tw_61)
  obtain ⟨aJ, wJ, pJ, eJ, fJ, hJ⟩ := Cond.arrayClass_spec (ht _ tw_34)
  obtain ⟨aZ, wZ, pZ, eZ, fZ, hZ⟩ := Cond.arrayClass_spec (ht _ tw_35)
  obtain ⟨aC, wC, pC, eC, fC, hC⟩ := Cond.arrayClass_spec (ht _ tw_62)
  obtain ⟨t, ht1, ht2⟩ := va_Tof (args := #[Value.ref b]) (s := s) (A := fun q => s.heap.size ≤ q) (tm := .static "SiftedGraphs$Tables" "OF_VARIABLES" "[J") (ty := .long) (N := 6) (f := fun j => .long (mk6 j)) (by decide) (hs _ (by decide +kernel)) (va_eqt (z := 6) (hs _ (by decide +kernel))) (fun j hj => by
    rcases (show j = 0 ∨ j = 1 ∨ j = 2 ∨ j = 3 ∨ j = 4 ∨ j = 5 by omega) with rfl | rfl | rfl | rfl | rfl | rfl
    · exact va_eqtl (z := -4294967296) (hs _ (by decide +kernel))
    · exact va_eqtl (z := -281470681808896) (hs _ (by decide +kernel))
    · exact va_eqtl (z := -71777214294589696) (hs _ (by decide +kernel))
    · exact va_eqtl (z := -1085102592571150096) (hs _ (by decide +kernel))
    · exact va_eqtl (z := -3689348814741910324) (hs _ (by decide +kernel))
    · exact va_eqtl (z := -6148914691236517206) (hs _ (by decide +kernel))) hA
  refine ⟨((fun k => match k with | 0 => c0 | 1 => c1 | 2 => c2 | 3 => c3 | _ => c4, fun k => match k with | 0 => i0 | 1 => i1 | 2 => i2 | 3 => i3 | _ => i4), (aI, aJ, aZ, aC), t, fun q => s.heap.size ≤ q), rfl, fun q h => h, ⟨fun k q hq => ?_, fun k q hk => ?_⟩, ?_, ht2, ?_, ?_, ?_, ?_⟩
  · rcases k with _ | _ | _ | _ | _ | k
    · cases hq; exact k0
    · cases hq; exact k1
    · cases hq; exact k2
    · cases hq; exact k3
    · cases hq; exact k4
    · exact absurd hq (by simp)
  · rcases k with _ | _ | _ | _ | k
    · cases hk; exact ⟨fun n z => ⟨fun k h => (by cases h), wI, fI, pI, hI⟩, eI⟩
    · cases hk; exact ⟨fun n z => ⟨fun k h => (by cases h), wJ, fJ, pJ, hJ⟩, eJ⟩
    · cases hk; exact ⟨fun n z => ⟨fun k h => (by cases h), wZ, fZ, pZ, hZ⟩, eZ⟩
    · cases hk; exact ⟨fun n z => ⟨fun k h => (by cases h), wC, fC, pC, hC⟩, eC⟩
    · exact absurd hk (by simp)
  · exact va_Zof (args := #[Value.ref b]) (hts _ (List.mem_append_right _ (List.mem_of_getElem? (i := 144) (by decide +kernel)))) (ht _ tw_10) ht1 hA
  · exact vx_Zqof (args := #[Value.ref b]) (hts _ (List.mem_append_right _ (List.mem_of_getElem? (i := 191) (by decide +kernel)))) (ht _ tw_6) (hs _ (by decide +kernel)) hA
  · exact vx_Zqof (args := #[Value.ref b]) (hts _ (List.mem_append_right _ (List.mem_of_getElem? (i := 193) (by decide +kernel)))) (ht _ tw_6) (hs _ (by decide +kernel)) hA
  · exact List.forall_mem_cons.mpr ⟨va_any rfl (hts _ (List.mem_append_right _ (List.mem_of_getElem? (i := 166) (by decide +kernel)))), List.forall_mem_cons.mpr ⟨va_any rfl (hts _ (List.mem_append_right _ (List.mem_of_getElem? (i := 248) (by decide +kernel)))), List.forall_mem_cons.mpr ⟨va_any rfl (hts _ (List.mem_append_right _ (List.mem_of_getElem? (i := 167) (by decide +kernel)))), List.forall_mem_cons.mpr ⟨va_any rfl (hts _ (List.mem_append_right _ (List.mem_of_getElem? (i := 169) (by decide +kernel)))), List.forall_mem_cons.mpr ⟨va_any rfl (hts _ (List.mem_append_right _ (List.mem_of_getElem? (i := 171) (by decide +kernel)))), fun _ h => absurd h List.not_mem_nil⟩⟩⟩⟩⟩
  · exact va_Nc.of (args := #[Value.ref b]) (hs _ (by decide +kernel))
set_option maxRecDepth 100000 in
set_option maxHeartbeats 4000000 in
theorem lw_loop {p : Program} {l : Launch} {e : Env} {s : State} {m : MethodId} {below : List Frame} {meth : Method} {c : Code} (hl0 : l.stackTraces = false) {g : Gx} {ad ma : Nat → Nat} {oa b L : Nat} {xs : Nat → Int32} (hx : p.tables.exec = Jvm.exec) (hb : c.code = b_LW_law) (hml : c.maxLocals = 7) (hown : s.vm.findClass "SiftedGraphsLaw" = some m.cls) (ht : ∀ w ∈ TW, w.before #[Value.ref b] s = true) (F : Fx g s) (hX : va_X b L xs s s.heap) (hbl : b < s.heap.size) (hbA : ¬ gA g b) (hL : L ≤ 2560) (hgA : gA g = (fun q => s.heap.size ≤ q)) (hr : meth.sig.returnType = ret) (hlk : meth.locks = false) : ∀ (j t : Nat) (H : Heap) (locs : List Loc) (ls : Array Slot), t + j = L / 5 → LST g ad ma oa H → va_S (gA g) s.heap H locs → lv_has ls 7 [(4, .int (nI (5 * t))), (0, .ref b), (1, .ref (ad 0)), (2, .ref (ma 0)), (3, .ref oa)] → W p l e room_1 s m #[Value.ref b] below meth c H locs (25 + t) (673 + 6 * t) (lw_Z below #[Value.ref b] s) (F0 m 23 ls []) := by
  intro j
  induction j with
  | zero =>
    intro t H locs ls hj hT hS hl
    refine lv_iload hx hb d_LW_law_23 (lv_at hl 0 rfl) ?_
    refine lv_aload_n hx hb d_LW_law_25 rfl (lv_at hl 1 rfl) ?_
    refine va_slen hx hb hX hbl hbA hS d_LW_law_26 ?_
    refine lv_iconst (v := nI 5) hx hb d_LW_law_27 (by decide) ?_
    have goes : W p l e room_1 s m #[Value.ref b] below meth c H locs (25 + t) (673 + 6 * t) (lw_Z below #[Value.ref b] s) (F0 m 1408 ls []) := by
      refine va_forget (fun q hq => by have h9 := hS.2.2 q hq; rw [hgA] at h9; exact h9) ?_
      refine W.widen (k := 1052) (n := 8883) (by omega) (by omega) ?_
      refine lv_iconst (v := 1) hx hb d_LW_law_1408 (by decide) ?_
      exact lw_ret hx hb hr hlk d_LW_law_1409
    refine lv_isub hx hb d_LW_law_28 ?_
    refine lv_icmp_gt (tgt := 1408) hx hb d_LW_law_29 (by decide) (fun _ => goes) (fun c29 => ?_)
    refine absurd ?_ c29
    show nI L - nI 5 < nI (5 * t)
    by_cases h5 : 5 ≤ L
    · rw [pk_sub h5, nI_ltI (by omega) (by omega)]; omega
    · obtain rfl : t = 0 := by omega
      rcases (show L = 0 ∨ L = 1 ∨ L = 2 ∨ L = 3 ∨ L = 4 by omega) with h | h | h | h | h <;> rw [h] <;> decide
  | succ j ih =>
    intro t H locs ls hj hT hS hl
    have kk : ∀ (H : Heap) (locs : List Loc) (ls : Array Slot), LST g ad ma oa H → va_S (gA g) s.heap H locs → lv_has ls 7 [(4, .int (nI (5 * t))), (0, .ref b), (1, .ref (ad 0)), (2, .ref (ma 0)), (3, .ref oa)] → W p l e room_1 s m #[Value.ref b] below meth c H locs (25 + t + 1) (673 + 6 * t + 6) (lw_Z below #[Value.ref b] s) (F0 m 1402 ls []) := by
      intro H locs ls hT hS hl
      refine lv_iinc (lv' := [(4, .int (nI (5 * (t + 1)))), (0, .ref b), (1, .ref (ad 0)), (2, .ref (ma 0)), (3, .ref oa)]) hx hb d_LW_law_1402 hl (k := 0) rfl (show nI (5 * t) + Int32.ofInt 5 = nI (5 * (t + 1)) from nI_add (5 * t) 5) (by decide) rfl (fun ls hl => ?_)
      refine lv_goto (tgt := 23) hx hb d_LW_law_1405 (by decide) ?_
      exact ih (t + 1) H locs ls (by omega) hT hS hl
    have hi : 5 * t + 4 < L := by omega
    have hc1 : 25 + t + 1 ≤ room_1.cells := by show 25 + t + 1 ≤ 1052; omega
    have hs1 : 673 + 6 * t + 6 ≤ room_1.slots := by show 673 + 6 * t + 6 ≤ 8883; omega
    refine lv_iload hx hb d_LW_law_23 (lv_at hl 0 rfl) ?_
    refine lv_aload_n hx hb d_LW_law_25 rfl (lv_at hl 1 rfl) ?_
    refine va_slen hx hb hX hbl hbA hS d_LW_law_26 ?_
    refine lv_iconst (v := nI 5) hx hb d_LW_law_27 (by decide) ?_
    refine rn_sub (i := L) (j := 5) hx hb (by omega) d_LW_law_28 ?_
    refine rc_gt (tgt := 1408) hx hb (by omega) (by omega) d_LW_law_29 (by decide) (fun c29 => (by omega : False).elim) (fun _ => ?_)
    refine lv_aload_n hx hb d_LW_law_32 rfl (lv_at hl 1 rfl) ?_
    refine lv_iload hx hb d_LW_law_33 (lv_at hl 0 rfl) ?_
    refine rl_s hx hb hX hbl hbA hS (by omega) (by omega) rfl d_LW_law_35 ?_
    refine lv_bipush (v := nI 31) hx hb d_LW_law_36 (by decide) ?_
    refine lv_iand hx hb d_LW_law_38 ?_
    obtain ⟨k, hk, ek⟩ := and31 (xs (5 * t))
    rw [ek]
    have hT0 := hT
    obtain ⟨rg, hd, od, tx, td, sm, pa, pr, fl, op, du, qa, ab, ac, qb, be, bc, wd, ou, cd, oo, kp, ct, fd, os, oq, vs, sk, I9, hP, hD⟩ := hT
    rcases (show k = 0 ∨ k = 1 ∨ k = 2 ∨ k = 3 ∨ k = 4 ∨ k = 5 ∨ k = 6 ∨ k = 7 ∨ k = 8 ∨ k = 9 ∨ k = 10 ∨ k = 11 ∨ k = 12 ∨ k = 13 ∨ k = 14 ∨ k = 15 ∨ k = 16 ∨ k = 17 ∨ k = 18 ∨ k = 19 ∨ 20 ≤ k by omega) with rfl | rfl | rfl | rfl | rfl | rfl | rfl | rfl | rfl | rfl | rfl | rfl | rfl | rfl | rfl | rfl | rfl | rfl | rfl | rfl | h20
    · refine lv_tableIn (off := 93) (tgt := 132) hx hb d_LW_law_39 (by decide) (by decide) (by decide) (by decide) ?_
      exact st_set hl0 hx hb hml hown ht F hX hbl hbA hL hi rfl rfl rfl rfl I9 hP hD hS hl hc1 hs1 kk
    · refine lv_tableIn (off := 141) (tgt := 180) hx hb d_LW_law_39 (by decide) (by decide) (by decide) (by decide) ?_
      exact st_apply hl0 hx hb hml hown ht F hX hbl hbA hL hi rfl rfl rfl rfl I9 hP hD hS hl hc1 hs1 kk
    · refine lv_tableIn (off := 213) (tgt := 252) hx hb d_LW_law_39 (by decide) (by decide) (by decide) (by decide) ?_
      exact st_choose hl0 hx hb hml hown ht F hX hbl hbA hL hi rfl rfl rfl rfl I9 hP hD hS hl hc1 hs1 kk
    · refine lv_tableIn (off := 285) (tgt := 324) hx hb d_LW_law_39 (by decide) (by decide) (by decide) (by decide) ?_
      exact st_restrict hl0 hx hb hml hown ht F hX hbl hbA hL hi rfl rfl rfl rfl I9 hP hD hS hl hc1 hs1 kk
    · refine lv_tableIn (off := 373) (tgt := 412) hx hb d_LW_law_39 (by decide) (by decide) (by decide) (by decide) ?_
      exact st_compose hl0 hx hb hml hown ht F hX hbl hbA hL hi rfl rfl rfl rfl I9 hP hD hS hl hc1 hs1 kk
    · refine lv_tableIn (off := 445) (tgt := 484) hx hb d_LW_law_39 (by decide) (by decide) (by decide) (by decide) ?_
      exact st_quantify hl0 hx hb hml hown ht F hX hbl hbA hL hi rfl rfl rfl rfl I9 hP hD hS hl hc1 hs1 kk
    · refine lv_tableIn (off := 533) (tgt := 572) hx hb d_LW_law_39 (by decide) (by decide) (by decide) (by decide) ?_
      exact st_type hl0 hx hb hml hown ht F hX hbl hbA hL hi rfl rfl rfl rfl I9 hP hD hS hl hc1 hs1 kk
    · refine lv_tableIn (off := 633) (tgt := 672) hx hb d_LW_law_39 (by decide) (by decide) (by decide) (by decide) ?_
      exact st_read hl0 hx hb hml hown ht F hX hbl hbA hL hi rfl rfl rfl rfl I9 hP hD hS hl hc1 hs1 kk
    · refine lv_tableIn (off := 689) (tgt := 728) hx hb d_LW_law_39 (by decide) (by decide) (by decide) (by decide) ?_
      exact st_release hl0 hx hb hml hown ht F hX hbl hbA hL hi rfl rfl rfl rfl I9 hP hD hS hl hc1 hs1 kk
    · refine lv_tableIn (off := 752) (tgt := 791) hx hb d_LW_law_39 (by decide) (by decide) (by decide) (by decide) ?_
      exact st_equal hl0 hx hb hml hown ht F hX hbl hbA hL hi rfl rfl rfl rfl I9 hP hD hS hl hc1 hs1 kk
    · refine lv_tableIn (off := 827) (tgt := 866) hx hb d_LW_law_39 (by decide) (by decide) (by decide) (by decide) ?_
      exact st_value hl0 hx hb hml hown ht F hX hbl hbA hL hi rfl rfl rfl rfl I9 hP hD hS hl hc1 hs1 kk
    · refine lv_tableIn (off := 902) (tgt := 941) hx hb d_LW_law_39 (by decide) (by decide) (by decide) (by decide) ?_
      exact st_count hl0 hx hb hml hown ht F hX hbl hbA hL hi rfl rfl rfl rfl I9 hP hD hS hl hc1 hs1 kk
    · refine lv_tableIn (off := 958) (tgt := 997) hx hb d_LW_law_39 (by decide) (by decide) (by decide) (by decide) ?_
      exact st_least hl0 hx hb hml hown ht F hX hbl hbA hL hi rfl rfl rfl rfl I9 hP hD hS hl hc1 hs1 kk
    · refine lv_tableIn (off := 1014) (tgt := 1053) hx hb d_LW_law_39 (by decide) (by decide) (by decide) (by decide) ?_
      exact st_support hl0 hx hb hml hown ht F hX hbl hbA hL hi rfl rfl rfl rfl I9 hP hD hS hl hc1 hs1 kk
    · refine lv_tableIn (off := 1070) (tgt := 1109) hx hb d_LW_law_39 (by decide) (by decide) (by decide) (by decide) ?_
      exact st_size hl0 hx hb hml hown ht F hX hbl hbA hL hi rfl rfl rfl rfl I9 hP hD hS hl hc1 hs1 kk
    · refine lv_tableIn (off := 1126) (tgt := 1165) hx hb d_LW_law_39 (by decide) (by decide) (by decide) (by decide) ?_
      exact st_shared hl0 hx hb hml hown ht F hX hbl hbA hL hi rfl rfl rfl rfl I9 hP hD hS hl hc1 hs1 kk
    · refine lv_tableIn (off := 1139) (tgt := 1178) hx hb d_LW_law_39 (by decide) (by decide) (by decide) (by decide) ?_
      exact st_width hl0 hx hb hml hown ht F hX hbl hbA hL hi rfl rfl rfl rfl I9 hP hD hS hl hc1 hs1 kk
    · refine lv_tableIn (off := 1195) (tgt := 1234) hx hb d_LW_law_39 (by decide) (by decide) (by decide) (by decide) ?_
      exact st_variable hl0 hx hb hml hown ht F hX hbl hbA hL hi rfl rfl rfl rfl I9 hP hD hS hl hc1 hs1 kk
    · refine lv_tableIn (off := 1251) (tgt := 1290) hx hb d_LW_law_39 (by decide) (by decide) (by decide) (by decide) ?_
      exact st_swap hl0 hx hb hml hown ht F hX hbl hbA hL hi rfl rfl rfl rfl I9 hP hD hS hl hc1 hs1 kk
    · refine lv_tableIn (off := 1307) (tgt := 1346) hx hb d_LW_law_39 (by decide) (by decide) (by decide) (by decide) ?_
      exact st_sift hl0 hx hb hml hown ht F hX hbl hbA hL hi rfl rfl rfl rfl I9 hP hD hS hl hc1 hs1 kk
    · refine lv_tableOut (tgt := 1402) hx hb d_LW_law_39 (Or.inr (by rw [nI_toInt (by omega)]; omega)) (by decide) ?_
      refine W.widen (k := 25 + t + 1) (n := 673 + 6 * t + 6) (by omega) (by omega) ?_
      exact kk H locs ls hT0 hS hl
theorem pm_s (A B : va_W) (o : Nat × va_E) : (o :: (B ++ (A ++ []))).Perm (A ++ o :: (B ++ [])) := by
  rw [List.append_nil, List.append_nil]
  exact (List.Perm.cons o List.perm_append_comm).trans List.perm_middle.symm
theorem inv_0 : INV (idF 6) (idF 6) (fun _ => 0) (nF (fun _ => 0)) 0 := ⟨⟨by decide, by decide⟩, fun _ _ => rfl, by decide, fun _ _ => (by decide : (0 : Nat) < 65536), fun _ _ => Or.inl rfl⟩
set_option maxRecDepth 100000 in
set_option maxHeartbeats 4000000 in
theorem whole_start {p : Program} {e : Env} {s : State} {m : MethodId} {below : List Frame} {meth : Method} {c : Code} (l : Launch) (hl0 : l.stackTraces = false) {b L : Nat} {xs : Nat → Int32} (hL : L ≤ 2560) (C0 : lw_At p s m meth c b L xs) : W p l e room_1 s m #[Value.ref b] below meth c s.heap [] 0 0 (lw_Z below #[Value.ref b] s) (entryFrame m ([Value.ref b] : List Value).toArray 7) := by
  obtain ⟨hx, hb, hr, hml, hown, hts, hX, hbl, hlk, hgv⟩ := C0
  obtain ⟨g, hgA, F⟩ := lw_fx hts hgv
  have ht : ∀ w ∈ TW, w.before #[Value.ref b] s = true := fun w hw => hts w (TW_l hw)
  have hown : s.vm.findClass "SiftedGraphsLaw" = some m.cls := hown
  have hb : c.code = b_LW_law := hb
  have hbA : ¬ gA g b := by rw [hgA]; exact Nat.not_le.mpr hbl
  have hl := lv_entry ([Value.ref b]) (n := 7) (Nat.le_of_ble_eq_true rfl)
  rw [lg_entry_eq]
  generalize (lg_sl ([Value.ref b]) ++ List.replicate (7 - (lg_sl ([Value.ref b])).length) Slot.unset).toArray = ls at hl ⊢
  have hl : lv_has ls 7 [(0, .ref b)] := hl
  have hP : va_P g.1 cl [] s.heap := fun k q h => by simp at h
  have hD : va_D (gA g) [] := ⟨fun i j p q h => by simp at h, fun k q h => by simp at h⟩
  have hS : va_S (gA g) s.heap s.heap [] := va_S.rf
  refine va_new (ci := 3) (fs := [.null, .null, .null, .int 0, .null, .null]) (C := R_SG) (T := T_SG) (N := 6) hx hb ht i_SG t_SG t_SG_ok hown (ht _ tw_13) (ht _ tw_14) (ht _ tw_1) F.2.1 hP hD hS F.1 rfl (fun j hj => by rcases (show j = 0 ∨ j = 1 ∨ j = 2 ∨ j = 3 ∨ j = 4 ∨ j = 5 by omega) with rfl | rfl | rfl | rfl | rfl | rfl <;> rfl) (by decide) (by decide) d_LW_law_0 (fun q0 H hP hD hS => ?_)
  have hP : va_P g.1 cl ((q0, .inr (3, [.null, .null, .null, .int 0, .null, .null])) :: []) H := wp_perm (List.perm_append_singleton _ _) hP
  have hD : va_D (gA g) ((q0, .inr (3, [.null, .null, .null, .int 0, .null, .null])) :: []) := wd_perm (List.perm_append_singleton _ _) hD
  refine lv_dup hx hb d_LW_law_3 rfl ?_
  refine pc_I (As := []) (rest := [.ref q0]) hx hb (hml.trans hl.1.symm) hown ht F hP hD hS (c_SG_init l g q0 ([])) ⟨⟨tw_16, tw_1, tw_17⟩, rfl, by decide, by decide, by decide⟩ tw_15 ⟨rfl, rfl⟩ ⟨by decide, by decide⟩ rfl rfl (Nat.le_of_ble_eq_true rfl) ⟨by decide, by decide⟩ d_LW_law_4 (fun u9 H locs hq hP9 hD9 hS => ?_)
  obtain ⟨ad, qa, qb⟩ := u9
  have hq : ad 0 = q0 := hq
  subst hq
  have hP : va_P g.1 cl (CW g ad (fun _ => 0) (nF (fun _ => 0)) (nF (idF 6)) (nF (fun _ => 0)) 0 (fun _ => 0) (fun _ => 0) (fun _ => 0) (fun _ => 0) 0 0 qa (fun _ => 0) 0 qb (fun _ => 0) 0 (nF (fun _ => 0)) ++ []) H := hP9
  have hD : va_D (gA g) (CW g ad (fun _ => 0) (nF (fun _ => 0)) (nF (idF 6)) (nF (fun _ => 0)) 0 (fun _ => 0) (fun _ => 0) (fun _ => 0) (fun _ => 0) 0 0 qa (fun _ => 0) 0 qb (fun _ => 0) 0 (nF (fun _ => 0)) ++ []) := hD9
  refine lv_astore_n (lv' := [(1, .ref (ad 0)), (0, .ref b)]) hx hb d_LW_law_7 rfl hl (by decide) rfl (fun ls hl => ?_)
  refine va_new (ci := 4) (fs := [.int 0, .null, .null, .null, .null, .int 0, .null, .int 0, .null, .int 0, .null, .int 0, .null]) (C := R_MD) (T := T_MD) (N := 13) hx hb ht i_MD t_MD t_MD_ok hown (ht _ tw_464) (ht _ tw_465) (ht _ tw_5) F.2.1 hP hD hS F.1 rfl (fun j hj => by rcases (show j = 0 ∨ j = 1 ∨ j = 2 ∨ j = 3 ∨ j = 4 ∨ j = 5 ∨ j = 6 ∨ j = 7 ∨ j = 8 ∨ j = 9 ∨ j = 10 ∨ j = 11 ∨ j = 12 by omega) with rfl | rfl | rfl | rfl | rfl | rfl | rfl | rfl | rfl | rfl | rfl | rfl | rfl <;> rfl) (by decide) (by decide) d_LW_law_8 (fun q8 H hP hD hS => ?_)
  have hP : va_P g.1 cl ((q8, .inr (4, [.int 0, .null, .null, .null, .null, .int 0, .null, .int 0, .null, .int 0, .null, .int 0, .null])) :: (CW g ad (fun _ => 0) (nF (fun _ => 0)) (nF (idF 6)) (nF (fun _ => 0)) 0 (fun _ => 0) (fun _ => 0) (fun _ => 0) (fun _ => 0) 0 0 qa (fun _ => 0) 0 qb (fun _ => 0) 0 (nF (fun _ => 0)) ++ [])) H := wp_perm (List.perm_append_singleton _ _) hP
  have hD : va_D (gA g) ((q8, .inr (4, [.int 0, .null, .null, .null, .null, .int 0, .null, .int 0, .null, .int 0, .null, .int 0, .null])) :: (CW g ad (fun _ => 0) (nF (fun _ => 0)) (nF (idF 6)) (nF (fun _ => 0)) 0 (fun _ => 0) (fun _ => 0) (fun _ => 0) (fun _ => 0) 0 0 qa (fun _ => 0) 0 qb (fun _ => 0) 0 (nF (fun _ => 0)) ++ [])) := wd_perm (List.perm_append_singleton _ _) hD
  refine lv_dup hx hb d_LW_law_11 rfl ?_
  refine pc_I (As := []) (rest := [.ref q8]) hx hb (hml.trans hl.1.symm) hown ht F hP hD hS (c_MD_init l g q8 (CW g ad (fun _ => 0) (nF (fun _ => 0)) (nF (idF 6)) (nF (fun _ => 0)) 0 (fun _ => 0) (fun _ => 0) (fun _ => 0) (fun _ => 0) 0 0 qa (fun _ => 0) 0 qb (fun _ => 0) 0 (nF (fun _ => 0)) ++ [])) ⟨⟨tw_467, tw_5, tw_468⟩, rfl, by decide, by decide, by decide⟩ tw_466 ⟨rfl, rfl⟩ ⟨by decide, by decide⟩ rfl rfl (Nat.le_of_ble_eq_true rfl) ⟨by decide, by decide⟩ d_LW_law_12 (fun u9 H locs hq hP9 hD9 hS => ?_)
  obtain ⟨ma, rfl⟩ : ∃ z9, z9 = u9 := ⟨_, rfl⟩
  have hq : ma 0 = q8 := hq
  subst hq
  have hP : va_P g.1 cl (MW g ma 0 (fun _ => 0) (nF (fun _ => 0)) (nF (idF 6)) (nF (fun _ => 0)) 0 (nF (fun _ => 0)) 0 (fun _ => 0) 0 (nF (fun _ => 0)) 0 (fun _ => 0) ++ (CW g ad (fun _ => 0) (nF (fun _ => 0)) (nF (idF 6)) (nF (fun _ => 0)) 0 (fun _ => 0) (fun _ => 0) (fun _ => 0) (fun _ => 0) 0 0 qa (fun _ => 0) 0 qb (fun _ => 0) 0 (nF (fun _ => 0)) ++ [])) H := hP9
  have hD : va_D (gA g) (MW g ma 0 (fun _ => 0) (nF (fun _ => 0)) (nF (idF 6)) (nF (fun _ => 0)) 0 (nF (fun _ => 0)) 0 (fun _ => 0) 0 (nF (fun _ => 0)) 0 (fun _ => 0) ++ (CW g ad (fun _ => 0) (nF (fun _ => 0)) (nF (idF 6)) (nF (fun _ => 0)) 0 (fun _ => 0) (fun _ => 0) (fun _ => 0) (fun _ => 0) 0 0 qa (fun _ => 0) 0 qb (fun _ => 0) 0 (nF (fun _ => 0)) ++ [])) := hD9
  refine lv_astore_n (lv' := [(2, .ref (ma 0)), (1, .ref (ad 0)), (0, .ref b)]) hx hb d_LW_law_15 rfl hl (by decide) rfl (fun ls hl => ?_)
  refine lv_iconst (v := nI 1) hx hb d_LW_law_16 (by decide) ?_
  refine nw_J hx hb ht F hP hD hS tw_34 (by decide) (by decide) (by decide) (by decide) d_LW_law_17 (fun oa H hP hD hS => ?_)
  have hP : va_P g.1 cl (CW g ad (fun _ => 0) (nF (fun _ => 0)) (nF (idF 6)) (nF (fun _ => 0)) 0 (fun _ => 0) (fun _ => 0) (fun _ => 0) (fun _ => 0) 0 0 qa (fun _ => 0) 0 qb (fun _ => 0) 0 (nF (fun _ => 0)) ++ ((oa, aJ g 1 (fun _ => (0 : Int64))) :: (MW g ma 0 (fun _ => 0) (nF (fun _ => 0)) (nF (idF 6)) (nF (fun _ => 0)) 0 (nF (fun _ => 0)) 0 (fun _ => 0) 0 (nF (fun _ => 0)) 0 (fun _ => 0) ++ []))) H := wp_perm (pm_s _ _ _) hP
  have hD : va_D (gA g) (CW g ad (fun _ => 0) (nF (fun _ => 0)) (nF (idF 6)) (nF (fun _ => 0)) 0 (fun _ => 0) (fun _ => 0) (fun _ => 0) (fun _ => 0) 0 0 qa (fun _ => 0) 0 qb (fun _ => 0) 0 (nF (fun _ => 0)) ++ ((oa, aJ g 1 (fun _ => (0 : Int64))) :: (MW g ma 0 (fun _ => 0) (nF (fun _ => 0)) (nF (idF 6)) (nF (fun _ => 0)) 0 (nF (fun _ => 0)) 0 (fun _ => 0) 0 (nF (fun _ => 0)) 0 (fun _ => 0) ++ []))) := wd_perm (pm_s _ _ _) hD
  refine lv_astore_n (lv' := [(3, .ref oa), (2, .ref (ma 0)), (1, .ref (ad 0)), (0, .ref b)]) hx hb d_LW_law_19 rfl hl (by decide) rfl (fun ls hl => ?_)
  refine lv_iconst (v := nI 0) hx hb d_LW_law_20 (by decide) ?_
  refine lv_istore (lv' := [(4, .int (nI 0)), (3, .ref oa), (2, .ref (ma 0)), (1, .ref (ad 0)), (0, .ref b)]) hx hb d_LW_law_21 hl (by decide) rfl (fun ls hl => ?_)
  refine W.widen (k := 25 + 0) (n := 673 + 6 * 0) (by decide) (by decide) ?_
  exact lw_loop hl0 hx hb hml hown ht F hX hbl hbA hL hgA hr hlk (L / 5) 0 H _ ls (by omega) ⟨fun _ => 0, nF (fun _ => 0), idF 6, fun _ => 0, 0, fun _ => 0, fun _ => 0, fun _ => 0, fun _ => 0, 0, 0, qa, fun _ => 0, 0, qb, fun _ => 0, 0, nF (fun _ => 0), fun _ => 0, 0, idF 6, fun _ => 0, 0, fun _ => 0, 0, nF (fun _ => 0), 0, fun _ => 0, inv_0, hP, hD⟩ hS (lv_sub hl [0, 4, 3, 2, 1] rfl)
