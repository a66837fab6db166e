/-! part 62: many on both sides -/
section H62
variable {d n N T Q F N9 W Kp : Nat} {mu : aM} {ro : aR} {sg : aS} {K : Option Value → aS → Prop} {tb rb : Nat → Nat} {R P : Nat → Nat → Bool} {D : Nat} {dA dB : Nat → Nat} {S : Nat → Bool}
theorem rw_ge {w : Int32} {k : Nat} {f : Nat → Bool} (h : rwO w k f) (hk : k ≤ 31) : 0 ≤ w.toInt := by
  have h31 := h 31 (by omega)
  rw [decide_eq_false (by omega), Bool.false_and] at h31
  have hm : w.toBitVec.msb = false := by rw [BitVec.msb_eq_getLsbD_last]; exact h31
  have e : w.toInt = w.toBitVec.toInt := rfl
  rw [e, BitVec.toInt_eq_toNat_of_msb hm]
  omega
theorem pc_sm {X k : Nat} {f : Nat → Bool} (hX : X < 2 ^ 31) (h : rwO (nI X) k f) : ∀ i, i ≤ 16 → pcU X i = smB (fun j => decide (j < k) && f j) i
  | 0, _ => rfl
  | i + 1, hi => by
    rw [pcU, smB, pc_sm hX h i (by omega)]
    have b := h i (by omega)
    rw [bt_nI hX (by omega)] at b
    have l2 : X / 2 ^ i % 2 < 2 := Nat.mod_lt _ (by omega)
    rw [← b]
    by_cases q : X / 2 ^ i % 2 = 1
    · rw [decide_eq_true q, if_pos rfl, q]
    · rw [decide_eq_false q, if_neg (by decide)]
      omega
theorem sm_cut {p : Nat → Bool} {M : Nat} : ∀ m, (∀ j, M ≤ j → p j = false) → smB p (M + m) = smB p M
  | 0, _ => rfl
  | m + 1, h => by
    rw [show M + (m + 1) = M + m + 1 by omega, smB, sm_cut m h, if_neg (by rw [h (M + m) (by omega)]; decide), Nat.add_zero]
theorem sm_16 {f : Nat → Bool} : smB (fun j => decide (j < 10) && f j) 16 = smB f 10 := by
  have e : smB (fun j => decide (j < 10) && f j) 10 = smB f 10 := smB_cg 10 (fun j hj => by rw [decide_eq_true hj, Bool.true_and])
  rw [← e]
  exact sm_cut (M := 10) 6 (fun j hj => by rw [decide_eq_false (by omega), Bool.false_and])
set_option maxHeartbeats 4000000 in
set_option maxRecDepth 100000 in
theorem m_bitsR {w : Int32} {f : Nat → Bool} (h : rwO w 10 f) (hk : K (some (.int (nI (smB f 10)))) sg) : aCall d 155 [.int w] n mu ro sg K := by
  have g0 := rw_ge h (by omega)
  have g1 := i_rng w
  obtain ⟨X, hX⟩ : ∃ X : Nat, (X : Int) = w.toInt := ⟨w.toInt.toNat, by omega⟩
  have e : w = nI X := i_eq.mpr (by rw [nI_toInt (by omega)]; omega)
  subst e
  refine m_bits (by omega) ?_
  rw [pc_sm (by omega) h 16 (by omega), sm_16]
  exact hk
set_option maxHeartbeats 4000000 in
set_option maxRecDepth 100000 in
theorem b_many {x : Int32} (hS : Sh mu ro) (hd : 2 ≤ d) (hN : I_nt sg) (hT : I_tk sg T tb) (hR : I_rw sg Q rb) (hF : I_fd sg F T) (hP : I_tp sg N9) (hW : I_wk sg W) (hK : I_kp sg Kp) (hk : ∀ r, K r sg) : aCall d 150 [.ref 0, .int x] n mu ro sg (fun r1 sg1 => aCall d 250 [.ref 48, .int x] n mu ro sg1 (fun r2 sg2 => r1 = r2 ∧ K r1 sg2)) := by
  obtain ⟨R, P, D, dA, dB, S, n1, ⟨-, -, x3, -, -, c, x6, x7⟩, ⟨y1, -, y3, -, -, -⟩⟩ := hN
  have hD := n1.1
  obtain ⟨⟨t1, t2⟩, -⟩ := hT
  obtain ⟨⟨r1, r2⟩, -⟩ := hR
  obtain ⟨⟨f1, f2⟩, -⟩ := hF
  obtain ⟨⟨p1, p2⟩, -⟩ := hP
  obtain ⟨⟨w1, w2⟩, -⟩ := hW
  obtain ⟨-, ⟨k1, k2⟩, -⟩ := hK
  have sl := smR_le (R := R) 10
  have sz : (#[47, 55, 63, 68, 73, 81, 89, 97] : Array Int).size = (7 - 0 + 1 : Int).toNat := rfl
  have sz2 : (#[45, 75, 80, 85, 90, 95, 100, 105] : Array Int).size = (7 - 0 + 1 : Int).toNat := rfl
  have le : ((0 : Int) ≤ 7) = True := eq_true (by decide)
  -- the reference, by what it answers
  have ref : ∀ Z : Option Value → aS → Prop, (x.toInt < 0 ∨ 7 < x.toInt → Z (some (.int (-2))) sg) → (x.toInt = 0 → Z (some (.int (nI c))) sg) → (x.toInt = 1 → Z (some (.int (nI D))) sg) → (x.toInt = 2 → Z (some (.int (nI T))) sg) → (x.toInt = 3 → Z (some (.int (nI Q))) sg) → (x.toInt = 4 → Z (some (.int (nI F))) sg) → (x.toInt = 5 → Z (some (.int (nI N9))) sg) → (x.toInt = 6 → Z (some (.int (nI W))) sg) → (x.toInt = 7 → Z (some (.int (nI Kp))) sg) → aCall d 250 [.ref 48, .int x] n mu ro sg Z := by
    intro Z z9 z0 z1 z2 z3 z4 z5 z6 z7
    refine aCall_start (mL := 4) (cc := cX12_many) (o := 12) (ret := (some .int)) 2 (by decide) (by decide +kernel) rfl rfl rfl rfl (Nat.le_of_ble_eq_true rfl) (fun G hC hG => ?_)
    simp only [exL, List.cons_append, List.nil_append, rp_0, rp_1, rp_2, rp_3, rp_4, rp_5, rp_6, rp_7, rp_8, rp_9, rp_10, rp_11, List.append_nil]
    have lo : x.toInt = 0 → ∀ (m i : Nat), i + m = 10 → AW G 4 n 0 0 mu ro sg 50 [.ref 48, .int x, .int (nI (smR R i)), .int (nI i)] [] := by
      intro hx m
      induction m with
      | zero =>
        intro i hi
        have hc : (10 ≤ nI i) = True := eq_true (by have := nI_toInt (n := i) (by omega); ((try simp only [i_le, i_lt, i_eq, l_le, l_lt, l_eq, i_ne, l_ne, toL, l_add, l_sub1, LIT1, LIT2, Int.reduceNeg, ge_iff_le, gt_iff_lt] at *); omega))
        have : i = 10 := by omega
        subst this
        have dv : nI (smR R 10) / 2 = nI c := by
          have := pk_div (a := smR R 10) (d := 2) (by omega) (by omega) (by omega)
          rw [← x7, show 2 * c / 2 = c by omega, x7] at this
          exact this
        have z20 : ((2 : Int32) = 0) = False := eq_false (by decide)
        refine hG (fun q => q == 50) 80 _ _ _ _ (Nat.le_of_ble_eq_true rfl) ?_
        simp only [D_X12_many, ↓reduceIte, vcS, vcC, vcI, gtF, ptF, inS, inV, fv0, fv1, fv2, fv3, fw0, fw1, lg_0, lg_1, lg_2, lg_3, lg_4, lg_5, lg_6, lg_7, lg_8, lg_9, lg_10, lg_11, lg_12, lg_13, lg_14, lsq_0, lsl_0, lsq_1, lsl_1, lsq_2, lsl_2, lsq_3, lsl_3, lsq_4, lsl_4, lsq_5, lsl_5, lsq_6, lsl_6, lsq_7, lsl_7, lsq_8, lsl_8, lsq_9, lsl_9, lsq_10, lsl_10, lsq_11, lsl_11, lsq_12, lsl_12, lsq_13, lsl_13, lsq_14, lsl_14, tk_0, tk_1, tk_2, tk_3, tk_4, tk_5, tk_6, tk_7, tk_8, cs_n, cs_i, cs_l, cs_r, cs_u, nl, rt_s, rt_n, CST1, Nat.reduceAdd, Nat.reduceLeDiff, va_rf, rtOk, Bool.false_eq_true, Bool.true_eq_false, if_false, if_true, ite_true, ite_false, true_and, and_true, eq_self, ne_eq, not_false_eq_true, not_true_eq_false, false_implies, true_implies, and_self, reduceCtorEq, Nat.reduceBEq, Bool.or_false, Bool.false_or, Bool.or_true, Bool.true_or, if1_0, if1_1, if1_01, one_01, zer_01, lg_cmp_ge, lg_cmp_le, lg_cmp_gt, lg_cmp_lt, lg_cmp_eq, Classical.not_not, ↓im_T hc, ↓im_TN hc, hc, dv, z20]
        exact z0 hx
      | succ m ih =>
        intro i hi
        have hc : (10 ≤ nI i) = False := eq_false (by have := nI_toInt (n := i) (by omega); ((try simp only [i_le, i_lt, i_eq, l_le, l_lt, l_eq, i_ne, l_ne, toL, l_add, l_sub1, LIT1, LIT2, Int.reduceNeg, ge_iff_le, gt_iff_lt] at *); omega))
        have ei : (nI i).toNatClampNeg = i := nI_clamp (by omega)
        have vi : vp_in (nI i) 10 := vp_in_nI (by omega) (by decide)
        have h0 := ih (i + 1) (by omega)
        rw [smR] at h0
        refine hG (fun q => q == 50) 80 _ _ _ _ (Nat.le_of_ble_eq_true rfl) ?_
        simp only [D_X12_many, ↓reduceIte, vcS, vcC, vcI, gtF, ptF, inS, inV, fv0, fv1, fv2, fv3, fw0, fw1, lg_0, lg_1, lg_2, lg_3, lg_4, lg_5, lg_6, lg_7, lg_8, lg_9, lg_10, lg_11, lg_12, lg_13, lg_14, lsq_0, lsl_0, lsq_1, lsl_1, lsq_2, lsl_2, lsq_3, lsl_3, lsq_4, lsl_4, lsq_5, lsl_5, lsq_6, lsl_6, lsq_7, lsl_7, lsq_8, lsl_8, lsq_9, lsl_9, lsq_10, lsl_10, lsq_11, lsl_11, lsq_12, lsl_12, lsq_13, lsl_13, lsq_14, lsl_14, tk_0, tk_1, tk_2, tk_3, tk_4, tk_5, tk_6, tk_7, tk_8, cs_n, cs_i, cs_l, cs_r, cs_u, nl, rt_s, rt_n, CST1, Nat.reduceAdd, Nat.reduceLeDiff, va_rf, rtOk, Bool.false_eq_true, Bool.true_eq_false, if_false, if_true, ite_true, ite_false, true_and, and_true, eq_self, ne_eq, not_false_eq_true, not_true_eq_false, false_implies, true_implies, and_self, reduceCtorEq, Nat.reduceBEq, Bool.or_false, Bool.false_or, Bool.or_true, Bool.true_or, if1_0, if1_1, if1_01, one_01, zer_01, lg_cmp_ge, lg_cmp_le, lg_cmp_gt, lg_cmp_lt, lg_cmp_eq, Classical.not_not, ↓im_F hc, ↓im_FN hc, hc, SHm hS, SHr hS, ei, vi]
        refine ⟨by omega, m_bitsR (y1 i (by omega)) ?_⟩
        simp only [D_X12_many, ↓reduceIte, vcS, vcC, vcI, gtF, ptF, inS, inV, fv0, fv1, fv2, fv3, fw0, fw1, lg_0, lg_1, lg_2, lg_3, lg_4, lg_5, lg_6, lg_7, lg_8, lg_9, lg_10, lg_11, lg_12, lg_13, lg_14, lsq_0, lsl_0, lsq_1, lsl_1, lsq_2, lsl_2, lsq_3, lsl_3, lsq_4, lsl_4, lsq_5, lsl_5, lsq_6, lsl_6, lsq_7, lsl_7, lsq_8, lsl_8, lsq_9, lsl_9, lsq_10, lsl_10, lsq_11, lsl_11, lsq_12, lsl_12, lsq_13, lsl_13, lsq_14, lsl_14, tk_0, tk_1, tk_2, tk_3, tk_4, tk_5, tk_6, tk_7, tk_8, cs_n, cs_i, cs_l, cs_r, cs_u, nl, rt_s, rt_n, CST1, Nat.reduceAdd, Nat.reduceLeDiff, va_rf, rtOk, Bool.false_eq_true, Bool.true_eq_false, if_false, if_true, ite_true, ite_false, true_and, and_true, eq_self, ne_eq, not_false_eq_true, not_true_eq_false, false_implies, true_implies, and_self, reduceCtorEq, Nat.reduceBEq, Bool.or_false, Bool.false_or, Bool.or_true, Bool.true_or, if1_0, if1_1, if1_01, one_01, zer_01, lg_cmp_ge, lg_cmp_le, lg_cmp_gt, lg_cmp_lt, lg_cmp_eq, Classical.not_not, nI_add, nI_1]
        exact h0
    refine hG (fun q => q == 50) 60 _ _ _ _ (Nat.le_of_ble_eq_true rfl) ?_
    simp only [D_X12_many, ↓reduceIte, vcS, vcC, vcI, gtF, ptF, inS, inV, fv0, fv1, fv2, fv3, fw0, fw1, lg_0, lg_1, lg_2, lg_3, lg_4, lg_5, lg_6, lg_7, lg_8, lg_9, lg_10, lg_11, lg_12, lg_13, lg_14, lsq_0, lsl_0, lsq_1, lsl_1, lsq_2, lsl_2, lsq_3, lsl_3, lsq_4, lsl_4, lsq_5, lsl_5, lsq_6, lsl_6, lsq_7, lsl_7, lsq_8, lsl_8, lsq_9, lsl_9, lsq_10, lsl_10, lsq_11, lsl_11, lsq_12, lsl_12, lsq_13, lsl_13, lsq_14, lsl_14, tk_0, tk_1, tk_2, tk_3, tk_4, tk_5, tk_6, tk_7, tk_8, cs_n, cs_i, cs_l, cs_r, cs_u, nl, rt_s, rt_n, CST1, Nat.reduceAdd, Nat.reduceLeDiff, va_rf, rtOk, Bool.false_eq_true, Bool.true_eq_false, if_false, if_true, ite_true, ite_false, true_and, and_true, eq_self, ne_eq, not_false_eq_true, not_true_eq_false, false_implies, true_implies, and_self, reduceCtorEq, Nat.reduceBEq, Bool.or_false, Bool.false_or, Bool.or_true, Bool.true_or, if1_0, if1_1, if1_01, one_01, zer_01, lg_cmp_ge, lg_cmp_le, lg_cmp_gt, lg_cmp_lt, lg_cmp_eq, Classical.not_not, SHm hS, SHr hS, ↓sw_8, sz2, le, Int.reduceAdd, y3, t2, r2, f2, p2, w2, k2]
    exact ⟨z9, fun h => lo h 10 0 (by omega), z1, z2, z3, z4, z5, z6, z7⟩
  refine aCall_start (mL := 2) (cc := cX11_many) (o := 11) (ret := (some .int)) 0 (by decide) (by decide +kernel) rfl rfl rfl rfl (Nat.le_of_ble_eq_true rfl) (fun G hC hG => ?_)
  simp only [exL, List.cons_append, List.nil_append, rp_0, rp_1, rp_2, rp_3, rp_4, rp_5, rp_6, rp_7, rp_8, rp_9, rp_10, rp_11, List.append_nil]
  refine hG (fun _ => false) 60 _ _ _ _ (Nat.le_of_ble_eq_true rfl) ?_
  simp only [D_X11_many, ↓reduceIte, vcS, vcC, vcI, gtF, ptF, inS, inV, fv0, fv1, fv2, fv3, fw0, fw1, lg_0, lg_1, lg_2, lg_3, lg_4, lg_5, lg_6, lg_7, lg_8, lg_9, lg_10, lg_11, lg_12, lg_13, lg_14, lsq_0, lsl_0, lsq_1, lsl_1, lsq_2, lsl_2, lsq_3, lsl_3, lsq_4, lsl_4, lsq_5, lsl_5, lsq_6, lsl_6, lsq_7, lsl_7, lsq_8, lsl_8, lsq_9, lsl_9, lsq_10, lsl_10, lsq_11, lsl_11, lsq_12, lsl_12, lsq_13, lsl_13, lsq_14, lsl_14, tk_0, tk_1, tk_2, tk_3, tk_4, tk_5, tk_6, tk_7, tk_8, cs_n, cs_i, cs_l, cs_r, cs_u, nl, rt_s, rt_n, CST1, Nat.reduceAdd, Nat.reduceLeDiff, va_rf, rtOk, Bool.false_eq_true, Bool.true_eq_false, if_false, if_true, ite_true, ite_false, true_and, and_true, eq_self, ne_eq, not_false_eq_true, not_true_eq_false, false_implies, true_implies, and_self, reduceCtorEq, Nat.reduceBEq, Bool.or_false, Bool.false_or, Bool.or_true, Bool.true_or, if1_0, if1_1, if1_01, one_01, zer_01, lg_cmp_ge, lg_cmp_le, lg_cmp_gt, lg_cmp_lt, lg_cmp_eq, Classical.not_not, SHm hS, SHr hS, ↓sw_8, sz, le, Int.reduceAdd, x3, x6, t1, r1, f1, p1, w1, k1]
  refine ⟨fun h => ?_, fun h => ?_, fun h => ?_, fun h => ?_, fun h => ?_, fun h => ?_, fun h => ?_, fun h => ?_, fun h => ?_⟩
  all_goals
    refine ref _ (fun g => ?_) (fun g => ?_) (fun g => ?_) (fun g => ?_) (fun g => ?_) (fun g => ?_) (fun g => ?_) (fun g => ?_) (fun g => ?_)
    all_goals first | (exact ⟨rfl, hk _⟩) | (exfalso; omega)
end H62
