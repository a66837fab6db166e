/-! part 23: lose, sheet, set, cell on both sides -/
section H23
variable {d n N : Nat} {mu : aM} {ro : aR} {sg : aS} {K : Option Value → aS → Prop}
theorem s2_s2 {s : aS} {a k : Nat} {x y : Int32} : s2 (s2 s a k x) a k y = s2 s a k y := by
  funext b j
  by_cases hb : b = a
  · subst hb
    by_cases hj : j = k
    · subst hj; rw [s2_own, s2_own]
    · rw [s2_oth hj, s2_oth hj, s2_oth hj]
  · rw [s2_ne hb, s2_ne hb, s2_ne hb]
theorem k_of {x : Int32} (h : 0 ≤ x.toInt ∧ x.toInt ≤ 3) : ∃ k : Nat, k < 4 ∧ x = nI k := by
  obtain ⟨k, h1, h2⟩ := i_of (N := 3) h.1 h.2 (by decide)
  exact ⟨k, by omega, h2⟩
-- a sheet of a number that there is
set_option maxHeartbeats 4000000 in
set_option maxRecDepth 100000 in
theorem c_sheetN {k : Nat} (hS : Sh mu ro) (hd : 1 ≤ d) (hk4 : k < 4) (hk : K (some (.ref (40 + 2 * k))) sg) : aCall d 91 [.ref 0, .int (nI k)] n mu ro sg K := by
  have e : (nI k).toInt = k := nI_toInt (by omega)
  refine c_sheetAt hS hd ?_
  rw [if_pos (by omega), nI_clamp (by omega)]
  exact hk
set_option maxHeartbeats 4000000 in
set_option maxRecDepth 100000 in
theorem c_sheetX {x : Int32} (hS : Sh mu ro) (hd : 1 ≤ d) (hb : ¬ (0 ≤ x.toInt ∧ x.toInt ≤ 3)) (hk : K (some .null) sg) : aCall d 91 [.ref 0, .int x] n mu ro sg K := by
  refine c_sheetAt hS hd ?_
  rw [if_neg hb]
  exact hk
set_option maxHeartbeats 4000000 in
set_option maxRecDepth 100000 in
theorem m_noSheetN {k : Nat} (hd : 1 ≤ d) (hk4 : k < 4) (hk : K (some (.int 0)) sg) : aCall d 236 [.int (nI k)] n mu ro sg K := by
  have e : (nI k).toInt = k := nI_toInt (by omega)
  refine m_noSheet hd ?_
  rw [if_neg (by omega)]
  exact hk
set_option maxHeartbeats 4000000 in
set_option maxRecDepth 100000 in
theorem m_noSheetX {x : Int32} (hd : 1 ≤ d) (hb : ¬ (0 ≤ x.toInt ∧ x.toInt ≤ 3)) (hk : K (some (.int 1)) sg) : aCall d 236 [.int x] n mu ro sg K := by
  refine m_noSheet hd ?_
  rw [if_pos hb]
  exact hk
-- lose
set_option maxHeartbeats 4000000 in
set_option maxRecDepth 100000 in
theorem c_lose {k : Nat} (hS : Sh mu ro) (hd : 3 ≤ d) (hk4 : k < 4) (hk1 : sg (40 + 2 * k) 1 = 0 → K (some (.int 0)) sg) (hk2 : ¬ sg (40 + 2 * k) 1 = 0 → K (some (.int 1)) (s2 sg (40 + 2 * k) 1 0)) : aCall d 137 [.ref 0, .int (nI k)] n mu ro sg K := by
  obtain ⟨h1, h2, h3⟩ := shm hS hk4
  refine aCall_start (mL := 3) (cc := cX11_lose) (o := 11) (ret := (some .int)) 1 (by decide) (by decide +kernel) rfl rfl rfl rfl (Nat.le_of_ble_eq_true rfl) (fun G hC hG => ?_)
  simp only [exL, List.cons_append, List.nil_append, rp_0, rp_1, rp_2, rp_3, rp_4, rp_5, rp_6, rp_7, rp_8, rp_9, rp_10, rp_11, List.append_nil]
  refine hG (fun _ => false) 60 _ _ _ _ (Nat.le_of_ble_eq_true rfl) ?_
  simp only [D_X11_lose, N_X11_lose, vcS, vcC, vcI, gtF, ptF, inS, inV, fv0, fv1, fv2, fv3, fw0, fw1, lg_0, lg_1, lg_2, lg_3, lg_4, lg_5, lg_6, lg_7, lg_8, lg_9, lg_10, lg_11, lg_12, lg_13, lg_14, lsq_0, lsl_0, lsq_1, lsl_1, lsq_2, lsl_2, lsq_3, lsl_3, lsq_4, lsl_4, lsq_5, lsl_5, lsq_6, lsl_6, lsq_7, lsl_7, lsq_8, lsl_8, lsq_9, lsl_9, lsq_10, lsl_10, lsq_11, lsl_11, lsq_12, lsl_12, lsq_13, lsl_13, lsq_14, lsl_14, tk_0, tk_1, tk_2, tk_3, tk_4, tk_5, tk_6, tk_7, tk_8, cs_n, cs_i, cs_l, cs_r, cs_u, nl, rt_s, rt_n, CST1, Nat.reduceAdd, Nat.reduceLeDiff, va_rf, rtOk, Bool.false_eq_true, Bool.true_eq_false, if_false, if_true, ite_true, ite_false, true_and, and_true, eq_self, ne_eq, not_false_eq_true, not_true_eq_false, false_implies, true_implies, and_self, reduceCtorEq, Nat.reduceBEq, Bool.or_false, Bool.false_or, Bool.or_true, Bool.true_or, if1_0, if1_1, if1_01, one_01, zer_01, lg_cmp_ge, lg_cmp_le, lg_cmp_gt, lg_cmp_lt, lg_cmp_eq, Classical.not_not, SHm hS, SHr hS]
  refine ⟨by omega, c_sheetN hS (by omega) hk4 ?_⟩
  simp only [D_X11_lose, N_X11_lose, vcS, vcC, vcI, gtF, ptF, inS, inV, fv0, fv1, fv2, fv3, fw0, fw1, lg_0, lg_1, lg_2, lg_3, lg_4, lg_5, lg_6, lg_7, lg_8, lg_9, lg_10, lg_11, lg_12, lg_13, lg_14, lsq_0, lsl_0, lsq_1, lsl_1, lsq_2, lsl_2, lsq_3, lsl_3, lsq_4, lsl_4, lsq_5, lsl_5, lsq_6, lsl_6, lsq_7, lsl_7, lsq_8, lsl_8, lsq_9, lsl_9, lsq_10, lsl_10, lsq_11, lsl_11, lsq_12, lsl_12, lsq_13, lsl_13, lsq_14, lsl_14, tk_0, tk_1, tk_2, tk_3, tk_4, tk_5, tk_6, tk_7, tk_8, cs_n, cs_i, cs_l, cs_r, cs_u, nl, rt_s, rt_n, CST1, Nat.reduceAdd, Nat.reduceLeDiff, va_rf, rtOk, Bool.false_eq_true, Bool.true_eq_false, if_false, if_true, ite_true, ite_false, true_and, and_true, eq_self, ne_eq, not_false_eq_true, not_true_eq_false, false_implies, true_implies, and_self, reduceCtorEq, Nat.reduceBEq, Bool.or_false, Bool.false_or, Bool.or_true, Bool.true_or, if1_0, if1_1, if1_01, one_01, zer_01, lg_cmp_ge, lg_cmp_le, lg_cmp_gt, lg_cmp_lt, lg_cmp_eq, Classical.not_not, SHm hS, SHr hS, h1]
  exact ⟨fun q => hk2 q, fun q => hk1 q⟩
set_option maxHeartbeats 4000000 in
set_option maxRecDepth 100000 in
theorem c_loseX {x : Int32} (hS : Sh mu ro) (hd : 3 ≤ d) (hb : ¬ (0 ≤ x.toInt ∧ x.toInt ≤ 3)) (hk : K (some (.int (-1))) sg) : aCall d 137 [.ref 0, .int x] n mu ro sg K := by
  refine aCall_start (mL := 3) (cc := cX11_lose) (o := 11) (ret := (some .int)) 1 (by decide) (by decide +kernel) rfl rfl rfl rfl (Nat.le_of_ble_eq_true rfl) (fun G hC hG => ?_)
  simp only [exL, List.cons_append, List.nil_append, rp_0, rp_1, rp_2, rp_3, rp_4, rp_5, rp_6, rp_7, rp_8, rp_9, rp_10, rp_11, List.append_nil]
  refine hG (fun _ => false) 60 _ _ _ _ (Nat.le_of_ble_eq_true rfl) ?_
  simp only [D_X11_lose, N_X11_lose, vcS, vcC, vcI, gtF, ptF, inS, inV, fv0, fv1, fv2, fv3, fw0, fw1, lg_0, lg_1, lg_2, lg_3, lg_4, lg_5, lg_6, lg_7, lg_8, lg_9, lg_10, lg_11, lg_12, lg_13, lg_14, lsq_0, lsl_0, lsq_1, lsl_1, lsq_2, lsl_2, lsq_3, lsl_3, lsq_4, lsl_4, lsq_5, lsl_5, lsq_6, lsl_6, lsq_7, lsl_7, lsq_8, lsl_8, lsq_9, lsl_9, lsq_10, lsl_10, lsq_11, lsl_11, lsq_12, lsl_12, lsq_13, lsl_13, lsq_14, lsl_14, tk_0, tk_1, tk_2, tk_3, tk_4, tk_5, tk_6, tk_7, tk_8, cs_n, cs_i, cs_l, cs_r, cs_u, nl, rt_s, rt_n, CST1, Nat.reduceAdd, Nat.reduceLeDiff, va_rf, rtOk, Bool.false_eq_true, Bool.true_eq_false, if_false, if_true, ite_true, ite_false, true_and, and_true, eq_self, ne_eq, not_false_eq_true, not_true_eq_false, false_implies, true_implies, and_self, reduceCtorEq, Nat.reduceBEq, Bool.or_false, Bool.false_or, Bool.or_true, Bool.true_or, if1_0, if1_1, if1_01, one_01, zer_01, lg_cmp_ge, lg_cmp_le, lg_cmp_gt, lg_cmp_lt, lg_cmp_eq, Classical.not_not, SHm hS, SHr hS]
  refine ⟨by omega, c_sheetX hS (by omega) hb ?_⟩
  simp only [D_X11_lose, N_X11_lose, vcS, vcC, vcI, gtF, ptF, inS, inV, fv0, fv1, fv2, fv3, fw0, fw1, lg_0, lg_1, lg_2, lg_3, lg_4, lg_5, lg_6, lg_7, lg_8, lg_9, lg_10, lg_11, lg_12, lg_13, lg_14, lsq_0, lsl_0, lsq_1, lsl_1, lsq_2, lsl_2, lsq_3, lsl_3, lsq_4, lsl_4, lsq_5, lsl_5, lsq_6, lsl_6, lsq_7, lsl_7, lsq_8, lsl_8, lsq_9, lsl_9, lsq_10, lsl_10, lsq_11, lsl_11, lsq_12, lsl_12, lsq_13, lsl_13, lsq_14, lsl_14, tk_0, tk_1, tk_2, tk_3, tk_4, tk_5, tk_6, tk_7, tk_8, cs_n, cs_i, cs_l, cs_r, cs_u, nl, rt_s, rt_n, CST1, Nat.reduceAdd, Nat.reduceLeDiff, va_rf, rtOk, Bool.false_eq_true, Bool.true_eq_false, if_false, if_true, ite_true, ite_false, true_and, and_true, eq_self, ne_eq, not_false_eq_true, not_true_eq_false, false_implies, true_implies, and_self, reduceCtorEq, Nat.reduceBEq, Bool.or_false, Bool.false_or, Bool.or_true, Bool.true_or, if1_0, if1_1, if1_01, one_01, zer_01, lg_cmp_ge, lg_cmp_le, lg_cmp_gt, lg_cmp_lt, lg_cmp_eq, Classical.not_not, SHm hS, SHr hS]
  exact hk
set_option maxHeartbeats 4000000 in
set_option maxRecDepth 100000 in
theorem m_lose {k : Nat} (hS : Sh mu ro) (hd : 3 ≤ d) (hk4 : k < 4) (hk : K (some (.int (if (sg 85 k).toInt < 0 then 0 else 1))) (s2 sg 85 k (-1))) : aCall d 238 [.ref 48, .int (nI k)] n mu ro sg K := by
  have e1 : (nI k).toNatClampNeg = k := nI_clamp (by omega)
  have v1 : vp_in (nI k) 4 := vp_in_nI hk4 (by decide)
  refine aCall_start (mL := 3) (cc := cX12_lose) (o := 12) (ret := (some .int)) 1 (by decide) (by decide +kernel) rfl rfl rfl rfl (Nat.le_of_ble_eq_true rfl) (fun G hC hG => ?_)
  simp only [exL, List.cons_append, List.nil_append, rp_0, rp_1, rp_2, rp_3, rp_4, rp_5, rp_6, rp_7, rp_8, rp_9, rp_10, rp_11, List.append_nil]
  refine hG (fun _ => false) 60 _ _ _ _ (Nat.le_of_ble_eq_true rfl) ?_
  simp only [D_X12_lose, vcS, vcC, vcI, gtF, ptF, inS, inV, fv0, fv1, fv2, fv3, fw0, fw1, lg_0, lg_1, lg_2, lg_3, lg_4, lg_5, lg_6, lg_7, lg_8, lg_9, lg_10, lg_11, lg_12, lg_13, lg_14, lsq_0, lsl_0, lsq_1, lsl_1, lsq_2, lsl_2, lsq_3, lsl_3, lsq_4, lsl_4, lsq_5, lsl_5, lsq_6, lsl_6, lsq_7, lsl_7, lsq_8, lsl_8, lsq_9, lsl_9, lsq_10, lsl_10, lsq_11, lsl_11, lsq_12, lsl_12, lsq_13, lsl_13, lsq_14, lsl_14, tk_0, tk_1, tk_2, tk_3, tk_4, tk_5, tk_6, tk_7, tk_8, cs_n, cs_i, cs_l, cs_r, cs_u, nl, rt_s, rt_n, CST1, Nat.reduceAdd, Nat.reduceLeDiff, va_rf, rtOk, Bool.false_eq_true, Bool.true_eq_false, if_false, if_true, ite_true, ite_false, true_and, and_true, eq_self, ne_eq, not_false_eq_true, not_true_eq_false, false_implies, true_implies, and_self, reduceCtorEq, Nat.reduceBEq, Bool.or_false, Bool.false_or, Bool.or_true, Bool.true_or, if1_0, if1_1, if1_01, one_01, zer_01, lg_cmp_ge, lg_cmp_le, lg_cmp_gt, lg_cmp_lt, lg_cmp_eq, Classical.not_not, SHm hS, SHr hS]
  refine ⟨by omega, m_noSheetN (by omega) hk4 ?_⟩
  simp only [D_X12_lose, vcS, vcC, vcI, gtF, ptF, inS, inV, fv0, fv1, fv2, fv3, fw0, fw1, lg_0, lg_1, lg_2, lg_3, lg_4, lg_5, lg_6, lg_7, lg_8, lg_9, lg_10, lg_11, lg_12, lg_13, lg_14, lsq_0, lsl_0, lsq_1, lsl_1, lsq_2, lsl_2, lsq_3, lsl_3, lsq_4, lsl_4, lsq_5, lsl_5, lsq_6, lsl_6, lsq_7, lsl_7, lsq_8, lsl_8, lsq_9, lsl_9, lsq_10, lsl_10, lsq_11, lsl_11, lsq_12, lsl_12, lsq_13, lsl_13, lsq_14, lsl_14, tk_0, tk_1, tk_2, tk_3, tk_4, tk_5, tk_6, tk_7, tk_8, cs_n, cs_i, cs_l, cs_r, cs_u, nl, rt_s, rt_n, CST1, Nat.reduceAdd, Nat.reduceLeDiff, va_rf, rtOk, Bool.false_eq_true, Bool.true_eq_false, if_false, if_true, ite_true, ite_false, true_and, and_true, eq_self, ne_eq, not_false_eq_true, not_true_eq_false, false_implies, true_implies, and_self, reduceCtorEq, Nat.reduceBEq, Bool.or_false, Bool.false_or, Bool.or_true, Bool.true_or, if1_0, if1_1, if1_01, one_01, zer_01, lg_cmp_ge, lg_cmp_le, lg_cmp_gt, lg_cmp_lt, lg_cmp_eq, Classical.not_not, SHm hS, SHr hS, e1]
  refine ⟨v1, fun q => ⟨v1, ?_⟩, fun q => ⟨v1, ?_⟩⟩
  · rw [if_neg (by simp only [i_le, LIT1] at q; omega)] at hk; exact hk
  · rw [if_pos (by simp only [i_le, LIT1] at q; omega)] at hk; exact hk
set_option maxHeartbeats 4000000 in
set_option maxRecDepth 100000 in
theorem m_loseX {x : Int32} (hS : Sh mu ro) (hd : 3 ≤ d) (hb : ¬ (0 ≤ x.toInt ∧ x.toInt ≤ 3)) (hk : K (some (.int (-1))) sg) : aCall d 238 [.ref 48, .int x] n mu ro sg K := by
  have c10 : ¬ (1 : Int32) = 0 := by decide
  refine aCall_start (mL := 3) (cc := cX12_lose) (o := 12) (ret := (some .int)) 1 (by decide) (by decide +kernel) rfl rfl rfl rfl (Nat.le_of_ble_eq_true rfl) (fun G hC hG => ?_)
  simp only [exL, List.cons_append, List.nil_append, rp_0, rp_1, rp_2, rp_3, rp_4, rp_5, rp_6, rp_7, rp_8, rp_9, rp_10, rp_11, List.append_nil]
  refine hG (fun _ => false) 60 _ _ _ _ (Nat.le_of_ble_eq_true rfl) ?_
  simp only [D_X12_lose, vcS, vcC, vcI, gtF, ptF, inS, inV, fv0, fv1, fv2, fv3, fw0, fw1, lg_0, lg_1, lg_2, lg_3, lg_4, lg_5, lg_6, lg_7, lg_8, lg_9, lg_10, lg_11, lg_12, lg_13, lg_14, lsq_0, lsl_0, lsq_1, lsl_1, lsq_2, lsl_2, lsq_3, lsl_3, lsq_4, lsl_4, lsq_5, lsl_5, lsq_6, lsl_6, lsq_7, lsl_7, lsq_8, lsl_8, lsq_9, lsl_9, lsq_10, lsl_10, lsq_11, lsl_11, lsq_12, lsl_12, lsq_13, lsl_13, lsq_14, lsl_14, tk_0, tk_1, tk_2, tk_3, tk_4, tk_5, tk_6, tk_7, tk_8, cs_n, cs_i, cs_l, cs_r, cs_u, nl, rt_s, rt_n, CST1, Nat.reduceAdd, Nat.reduceLeDiff, va_rf, rtOk, Bool.false_eq_true, Bool.true_eq_false, if_false, if_true, ite_true, ite_false, true_and, and_true, eq_self, ne_eq, not_false_eq_true, not_true_eq_false, false_implies, true_implies, and_self, reduceCtorEq, Nat.reduceBEq, Bool.or_false, Bool.false_or, Bool.or_true, Bool.true_or, if1_0, if1_1, if1_01, one_01, zer_01, lg_cmp_ge, lg_cmp_le, lg_cmp_gt, lg_cmp_lt, lg_cmp_eq, Classical.not_not, SHm hS, SHr hS]
  refine ⟨by omega, m_noSheetX (by omega) hb ?_⟩
  simp only [D_X12_lose, vcS, vcC, vcI, gtF, ptF, inS, inV, fv0, fv1, fv2, fv3, fw0, fw1, lg_0, lg_1, lg_2, lg_3, lg_4, lg_5, lg_6, lg_7, lg_8, lg_9, lg_10, lg_11, lg_12, lg_13, lg_14, lsq_0, lsl_0, lsq_1, lsl_1, lsq_2, lsl_2, lsq_3, lsl_3, lsq_4, lsl_4, lsq_5, lsl_5, lsq_6, lsl_6, lsq_7, lsl_7, lsq_8, lsl_8, lsq_9, lsl_9, lsq_10, lsl_10, lsq_11, lsl_11, lsq_12, lsl_12, lsq_13, lsl_13, lsq_14, lsl_14, tk_0, tk_1, tk_2, tk_3, tk_4, tk_5, tk_6, tk_7, tk_8, cs_n, cs_i, cs_l, cs_r, cs_u, nl, rt_s, rt_n, CST1, Nat.reduceAdd, Nat.reduceLeDiff, va_rf, rtOk, Bool.false_eq_true, Bool.true_eq_false, if_false, if_true, ite_true, ite_false, true_and, and_true, eq_self, ne_eq, not_false_eq_true, not_true_eq_false, false_implies, true_implies, and_self, reduceCtorEq, Nat.reduceBEq, Bool.or_false, Bool.false_or, Bool.or_true, Bool.true_or, if1_0, if1_1, if1_01, one_01, zer_01, lg_cmp_ge, lg_cmp_le, lg_cmp_gt, lg_cmp_lt, lg_cmp_eq, Classical.not_not, SHm hS, SHr hS, c10]
  exact hk
theorem reg_sh {k j : Nat} (hk : k < 4) : reg (40 + 2 * k) j = 11 ∧ reg (41 + 2 * k) j = 11 := by
  match k, hk with
  | 0, _ => exact ⟨rfl, rfl⟩
  | 1, _ => exact ⟨rfl, rfl⟩
  | 2, _ => exact ⟨rfl, rfl⟩
  | 3, _ => exact ⟨rfl, rfl⟩
set_option maxHeartbeats 4000000 in
set_option maxRecDepth 100000 in
theorem b_lose {x : Int32} (hS : Sh mu ro) (hd : 3 ≤ d) (hI : I_sh sg) (hk : ∀ r sg2, I_sh sg2 → Fr [11, 13] sg sg2 → K r sg2) : aCall d 137 [.ref 0, .int x] n mu ro sg (fun r1 sg1 => aCall d 238 [.ref 48, .int x] n mu ro sg1 (fun r2 sg2 => r1 = r2 ∧ K r1 sg2)) := by
  by_cases hok : 0 ≤ x.toInt ∧ x.toInt ≤ 3
  · obtain ⟨k, hk4, rfl⟩ := k_of hok
    have hk1 := sh_of hI hk4
    have cm : (-1 : Int32).toInt = -1 := by decide
    refine c_lose hS hd hk4 (fun q => ?_) (fun q => ?_)
    · rcases hk1 with ⟨g1, g2⟩ | ⟨g1, -⟩
      · refine m_lose hS hd hk4 ⟨by rw [g2]; rfl, hk _ _ ?_ ?_⟩
        · rw [← g2, s2_id]; exact hI
        · rw [← g2, s2_id]; exact Fr.rfl
      · rw [g1] at q; exact absurd q (by decide)
    · rcases hk1 with ⟨g1, g2⟩ | ⟨g1, g2, g3, g4, g5, g6⟩
      · exact absurd g1 q
      · refine m_lose hS hd hk4 ⟨?_, hk _ _ (sh_to ?_ (fun k' hk' => ?_)) ?_⟩
        · rw [s2_ne (by omega), if_neg (by have := g3.1; omega)]
        · rw [s2_far (by decide), s2_far (by omega), s2_far (by decide), s2_far (by omega)]; exact hI.1
        · by_cases hkk : k' = k
          · subst hkk
            refine Or.inl ⟨?_, ?_⟩
            · rw [s2_far (by omega), s2_own]
            · rw [s2_own]
          · refine sh1_fr (sh_of hI hk') (fun j => ?_) (fun j => ?_) ?_ ?_ (fun i _ => ?_)
            · rw [s2_far (by omega), s2_far (by omega)]
            · rw [s2_far (by omega), s2_far (by omega)]
            · rw [s2_oth hkk, s2_far (by omega)]
            · rw [s2_far (by decide), s2_far (by omega)]
            · rw [s2_far (by decide), s2_far (by omega)]
        · exact Fr.putq (m := 11) (Fr.putq (m := 11) Fr.rfl (reg_sh hk4).1 (by decide)) rfl (by decide)
  · exact c_loseX hS hd hok (m_loseX hS hd hok ⟨rfl, hk _ _ hI Fr.rfl⟩)
-- sheet
set_option maxHeartbeats 4000000 in
set_option maxRecDepth 100000 in
theorem c_sheet {k : Nat} {l w : Int32} (hS : Sh mu ro) (hd : 3 ≤ d) (hk4 : k < 4) (hk1 : ¬ (0 ≤ l.toInt ∧ l.toInt ≤ 2) ∨ 60 < w.toInt → K (some (.int (-2))) (s2 sg 0 14 0)) (hk2 : (0 ≤ l.toInt ∧ l.toInt ≤ 2) → w.toInt < 0 → K (some (.int (-14))) (s2 sg 0 14 4)) (hk3 : (0 ≤ l.toInt ∧ l.toInt ≤ 2) → 0 ≤ w.toInt → w.toInt ≤ 60 → K (some (.int 1)) (flS (s2 (s2 (s2 (s2 sg 0 14 0) (40 + 2 * k) 1 1) (40 + 2 * k) 2 l) (40 + 2 * k) 3 w) (41 + 2 * k) 60 0)) : aCall d 136 [.ref 0, .int (nI k), .int l, .int w] n mu ro sg K := by
  obtain ⟨h1, h2, h3⟩ := shm hS hk4
  refine aCall_start (mL := 5) (cc := cX11_sheet) (o := 11) (ret := (some .int)) 1 (by decide) (by decide +kernel) rfl rfl rfl rfl (Nat.le_of_ble_eq_true rfl) (fun G hC hG => ?_)
  simp only [exL, List.cons_append, List.nil_append, rp_0, rp_1, rp_2, rp_3, rp_4, rp_5, rp_6, rp_7, rp_8, rp_9, rp_10, rp_11, List.append_nil]
  refine hG (fun _ => false) 60 _ _ _ _ (Nat.le_of_ble_eq_true rfl) ?_
  simp only [D_X11_sheet, N_X11_sheet, vcS, vcC, vcI, gtF, ptF, inS, inV, fv0, fv1, fv2, fv3, fw0, fw1, lg_0, lg_1, lg_2, lg_3, lg_4, lg_5, lg_6, lg_7, lg_8, lg_9, lg_10, lg_11, lg_12, lg_13, lg_14, lsq_0, lsl_0, lsq_1, lsl_1, lsq_2, lsl_2, lsq_3, lsl_3, lsq_4, lsl_4, lsq_5, lsl_5, lsq_6, lsl_6, lsq_7, lsl_7, lsq_8, lsl_8, lsq_9, lsl_9, lsq_10, lsl_10, lsq_11, lsl_11, lsq_12, lsl_12, lsq_13, lsl_13, lsq_14, lsl_14, tk_0, tk_1, tk_2, tk_3, tk_4, tk_5, tk_6, tk_7, tk_8, cs_n, cs_i, cs_l, cs_r, cs_u, nl, rt_s, rt_n, CST1, Nat.reduceAdd, Nat.reduceLeDiff, va_rf, rtOk, Bool.false_eq_true, Bool.true_eq_false, if_false, if_true, ite_true, ite_false, true_and, and_true, eq_self, ne_eq, not_false_eq_true, not_true_eq_false, false_implies, true_implies, and_self, reduceCtorEq, Nat.reduceBEq, Bool.or_false, Bool.false_or, Bool.or_true, Bool.true_or, if1_0, if1_1, if1_01, one_01, zer_01, lg_cmp_ge, lg_cmp_le, lg_cmp_gt, lg_cmp_lt, lg_cmp_eq, Classical.not_not, SHm hS, SHr hS]
  refine ⟨by omega, c_sheetN hS (by omega) hk4 ?_⟩
  simp only [D_X11_sheet, N_X11_sheet, vcS, vcC, vcI, gtF, ptF, inS, inV, fv0, fv1, fv2, fv3, fw0, fw1, lg_0, lg_1, lg_2, lg_3, lg_4, lg_5, lg_6, lg_7, lg_8, lg_9, lg_10, lg_11, lg_12, lg_13, lg_14, lsq_0, lsl_0, lsq_1, lsl_1, lsq_2, lsl_2, lsq_3, lsl_3, lsq_4, lsl_4, lsq_5, lsl_5, lsq_6, lsl_6, lsq_7, lsl_7, lsq_8, lsl_8, lsq_9, lsl_9, lsq_10, lsl_10, lsq_11, lsl_11, lsq_12, lsl_12, lsq_13, lsl_13, lsq_14, lsl_14, tk_0, tk_1, tk_2, tk_3, tk_4, tk_5, tk_6, tk_7, tk_8, cs_n, cs_i, cs_l, cs_r, cs_u, nl, rt_s, rt_n, CST1, Nat.reduceAdd, Nat.reduceLeDiff, va_rf, rtOk, Bool.false_eq_true, Bool.true_eq_false, if_false, if_true, ite_true, ite_false, true_and, and_true, eq_self, ne_eq, not_false_eq_true, not_true_eq_false, false_implies, true_implies, and_self, reduceCtorEq, Nat.reduceBEq, Bool.or_false, Bool.false_or, Bool.or_true, Bool.true_or, if1_0, if1_1, if1_01, one_01, zer_01, lg_cmp_ge, lg_cmp_le, lg_cmp_gt, lg_cmp_lt, lg_cmp_eq, Classical.not_not, SHm hS, SHr hS, h1]
  repeat' (first | (with_reducible assumption) | (refine vp_in_iff.mpr ?_; ((try simp only [i_le, i_lt, i_eq, l_le, l_lt, l_eq, i_ne, l_ne, toL, l_add, l_sub1, LIT1, LIT2, Int.reduceNeg, ge_iff_le, gt_iff_lt] at *); omega)) | (refine And.intro ?_ ?_) | (omega) | (refine c_isLane (by omega) ?_; simp only [D_X11_sheet, N_X11_sheet, vcS, vcC, vcI, gtF, ptF, inS, inV, fv0, fv1, fv2, fv3, fw0, fw1, lg_0, lg_1, lg_2, lg_3, lg_4, lg_5, lg_6, lg_7, lg_8, lg_9, lg_10, lg_11, lg_12, lg_13, lg_14, lsq_0, lsl_0, lsq_1, lsl_1, lsq_2, lsl_2, lsq_3, lsl_3, lsq_4, lsl_4, lsq_5, lsl_5, lsq_6, lsl_6, lsq_7, lsl_7, lsq_8, lsl_8, lsq_9, lsl_9, lsq_10, lsl_10, lsq_11, lsl_11, lsq_12, lsl_12, lsq_13, lsl_13, lsq_14, lsl_14, tk_0, tk_1, tk_2, tk_3, tk_4, tk_5, tk_6, tk_7, tk_8, cs_n, cs_i, cs_l, cs_r, cs_u, nl, rt_s, rt_n, CST1, Nat.reduceAdd, Nat.reduceLeDiff, va_rf, rtOk, Bool.false_eq_true, Bool.true_eq_false, if_false, if_true, ite_true, ite_false, true_and, and_true, eq_self, ne_eq, not_false_eq_true, not_true_eq_false, false_implies, true_implies, and_self, reduceCtorEq, Nat.reduceBEq, Bool.or_false, Bool.false_or, Bool.or_true, Bool.true_or, if1_0, if1_1, if1_01, one_01, zer_01, lg_cmp_ge, lg_cmp_le, lg_cmp_gt, lg_cmp_lt, lg_cmp_eq, Classical.not_not, SHm hS, SHr hS, LIT1, s2_s2]) | (refine c_faulted hS ?_; simp only [D_X11_sheet, N_X11_sheet, vcS, vcC, vcI, gtF, ptF, inS, inV, fv0, fv1, fv2, fv3, fw0, fw1, lg_0, lg_1, lg_2, lg_3, lg_4, lg_5, lg_6, lg_7, lg_8, lg_9, lg_10, lg_11, lg_12, lg_13, lg_14, lsq_0, lsl_0, lsq_1, lsl_1, lsq_2, lsl_2, lsq_3, lsl_3, lsq_4, lsl_4, lsq_5, lsl_5, lsq_6, lsl_6, lsq_7, lsl_7, lsq_8, lsl_8, lsq_9, lsl_9, lsq_10, lsl_10, lsq_11, lsl_11, lsq_12, lsl_12, lsq_13, lsl_13, lsq_14, lsl_14, tk_0, tk_1, tk_2, tk_3, tk_4, tk_5, tk_6, tk_7, tk_8, cs_n, cs_i, cs_l, cs_r, cs_u, nl, rt_s, rt_n, CST1, Nat.reduceAdd, Nat.reduceLeDiff, va_rf, rtOk, Bool.false_eq_true, Bool.true_eq_false, if_false, if_true, ite_true, ite_false, true_and, and_true, eq_self, ne_eq, not_false_eq_true, not_true_eq_false, false_implies, true_implies, and_self, reduceCtorEq, Nat.reduceBEq, Bool.or_false, Bool.false_or, Bool.or_true, Bool.true_or, if1_0, if1_1, if1_01, one_01, zer_01, lg_cmp_ge, lg_cmp_le, lg_cmp_gt, lg_cmp_lt, lg_cmp_eq, Classical.not_not, SHm hS, SHr hS, LIT1, s2_s2]) | (refine c_begin (by omega) h1 h2 h3 ?_; simp only [D_X11_sheet, N_X11_sheet, vcS, vcC, vcI, gtF, ptF, inS, inV, fv0, fv1, fv2, fv3, fw0, fw1, lg_0, lg_1, lg_2, lg_3, lg_4, lg_5, lg_6, lg_7, lg_8, lg_9, lg_10, lg_11, lg_12, lg_13, lg_14, lsq_0, lsl_0, lsq_1, lsl_1, lsq_2, lsl_2, lsq_3, lsl_3, lsq_4, lsl_4, lsq_5, lsl_5, lsq_6, lsl_6, lsq_7, lsl_7, lsq_8, lsl_8, lsq_9, lsl_9, lsq_10, lsl_10, lsq_11, lsl_11, lsq_12, lsl_12, lsq_13, lsl_13, lsq_14, lsl_14, tk_0, tk_1, tk_2, tk_3, tk_4, tk_5, tk_6, tk_7, tk_8, cs_n, cs_i, cs_l, cs_r, cs_u, nl, rt_s, rt_n, CST1, Nat.reduceAdd, Nat.reduceLeDiff, va_rf, rtOk, Bool.false_eq_true, Bool.true_eq_false, if_false, if_true, ite_true, ite_false, true_and, and_true, eq_self, ne_eq, not_false_eq_true, not_true_eq_false, false_implies, true_implies, and_self, reduceCtorEq, Nat.reduceBEq, Bool.or_false, Bool.false_or, Bool.or_true, Bool.true_or, if1_0, if1_1, if1_01, one_01, zer_01, lg_cmp_ge, lg_cmp_le, lg_cmp_gt, lg_cmp_lt, lg_cmp_eq, Classical.not_not, SHm hS, SHr hS, LIT1, s2_s2]) | (with_reducible intro _))
  all_goals first | (exact hk1 (by ((try simp only [i_le, i_lt, i_eq, l_le, l_lt, l_eq, i_ne, l_ne, toL, l_add, l_sub1, LIT1, LIT2, Int.reduceNeg, ge_iff_le, gt_iff_lt] at *); omega))) | (exact hk2 (by ((try simp only [i_le, i_lt, i_eq, l_le, l_lt, l_eq, i_ne, l_ne, toL, l_add, l_sub1, LIT1, LIT2, Int.reduceNeg, ge_iff_le, gt_iff_lt] at *); omega)) (by ((try simp only [i_le, i_lt, i_eq, l_le, l_lt, l_eq, i_ne, l_ne, toL, l_add, l_sub1, LIT1, LIT2, Int.reduceNeg, ge_iff_le, gt_iff_lt] at *); omega))) | (exact hk3 (by ((try simp only [i_le, i_lt, i_eq, l_le, l_lt, l_eq, i_ne, l_ne, toL, l_add, l_sub1, LIT1, LIT2, Int.reduceNeg, ge_iff_le, gt_iff_lt] at *); omega)) (by ((try simp only [i_le, i_lt, i_eq, l_le, l_lt, l_eq, i_ne, l_ne, toL, l_add, l_sub1, LIT1, LIT2, Int.reduceNeg, ge_iff_le, gt_iff_lt] at *); omega)) (by ((try simp only [i_le, i_lt, i_eq, l_le, l_lt, l_eq, i_ne, l_ne, toL, l_add, l_sub1, LIT1, LIT2, Int.reduceNeg, ge_iff_le, gt_iff_lt] at *); omega)))
end H23
