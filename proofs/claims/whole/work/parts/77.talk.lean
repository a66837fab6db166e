/-! part 77: talk on both sides -/
section H77
variable {d n N T Q F : Nat} {mu : aM} {ro : aR} {sg σ : aS} {K : Option Value → aS → Prop} {tb rb : Nat → Nat} {KA : Option Value → Nat → aM → aR → aS → Prop}
def tlV (T : Nat) (x a b : Int32) : Option Int32 := if ¬ ((0 ≤ a.toInt ∧ a.toInt ≤ 9) ∧ (0 ≤ b.toInt ∧ b.toInt ≤ 9)) then some (-1) else if ¬ (0 ≤ x.toInt ∧ x.toInt ≤ 2) ∨ a = b then some (-2) else if 8 ≤ T then some (-4) else none
def TlP (n T : Nat) (mu : aM) (ro : aR) (sg : aS) (x a b : Int32) (mu' : aM) (ro' : aR) (sg' : aS) : Prop := ((∀ c, c < n → mu' c = mu c) ∧ mu' n = (18, 10) ∧ mu' (n + 1) = (1, 79) ∧ mu' (n + 2) = (1, 79)) ∧ ((∀ c k, c < n → ¬ (c = 13 ∧ k = T) → ro' c k = ro c k) ∧ ro' 13 T = some n ∧ ro' n 4 = some (n + 1) ∧ ro' n 5 = some (n + 2)) ∧ (∀ c k, c < n → ¬ (c = 0 ∧ k = 11) → sg' c k = sg c k) ∧ sg' 0 11 = nI (T + 1) ∧ (sg' n 0 = nI T ∧ sg' n 1 = x ∧ sg' n 2 = a ∧ sg' n 3 = b ∧ sg' n 6 = 0 ∧ sg' n 7 = 0 ∧ sg' n 8 = 0 ∧ sg' n 9 = -9) ∧ ∀ p, p < 79 → sg' (n + 1) p = -9 ∧ sg' (n + 2) p = -9
theorem tlV_1 {x a b : Int32} (h : ¬ ((0 ≤ a.toInt ∧ a.toInt ≤ 9) ∧ (0 ≤ b.toInt ∧ b.toInt ≤ 9))) : tlV T x a b = some (-1) := if_pos h
theorem tlV_2 {x a b : Int32} (h : (0 ≤ a.toInt ∧ a.toInt ≤ 9) ∧ (0 ≤ b.toInt ∧ b.toInt ≤ 9)) (h2 : ¬ (0 ≤ x.toInt ∧ x.toInt ≤ 2) ∨ a = b) : tlV T x a b = some (-2) := by rw [tlV, if_neg (not_not_intro h), if_pos h2]
theorem tlV_4 {x a b : Int32} (h : (0 ≤ a.toInt ∧ a.toInt ≤ 9) ∧ (0 ≤ b.toInt ∧ b.toInt ≤ 9)) (h2 : 0 ≤ x.toInt ∧ x.toInt ≤ 2) (h3 : ¬ a = b) (h4 : 8 ≤ T) : tlV T x a b = some (-4) := by rw [tlV, if_neg (not_not_intro h), if_neg (fun z => z.elim (fun y => y h2) h3), if_pos h4]
theorem tlV_0 {x a b : Int32} (h : (0 ≤ a.toInt ∧ a.toInt ≤ 9) ∧ (0 ≤ b.toInt ∧ b.toInt ≤ 9)) (h2 : 0 ≤ x.toInt ∧ x.toInt ≤ 2) (h3 : ¬ a = b) (h4 : ¬ 8 ≤ T) : tlV T x a b = none := by rw [tlV, if_neg (not_not_intro h), if_neg (fun z => z.elim (fun y => y h2) h3), if_neg h4]
theorem tlV_i {x a b : Int32} (h : tlV T x a b = none) : ((0 ≤ a.toInt ∧ a.toInt ≤ 9) ∧ (0 ≤ b.toInt ∧ b.toInt ≤ 9)) ∧ (0 ≤ x.toInt ∧ x.toInt ≤ 2) ∧ T < 8 := by
  by_cases q1 : (0 ≤ a.toInt ∧ a.toInt ≤ 9) ∧ (0 ≤ b.toInt ∧ b.toInt ≤ 9)
  · by_cases q2 : ¬ (0 ≤ x.toInt ∧ x.toInt ≤ 2) ∨ a = b
    · rw [tlV_2 q1 q2] at h; cases h
    · by_cases q3 : 8 ≤ T
      · rw [tlV, if_neg (not_not_intro q1), if_neg q2, if_pos q3] at h; cases h
      · exact ⟨q1, Classical.byContradiction (fun z => q2 (Or.inl z)), by omega⟩
  · rw [tlV_1 q1] at h; cases h
set_option maxHeartbeats 4000000 in
set_option maxRecDepth 100000 in
theorem c_talk {x a b : Int32} (hS : Sh mu ro) (hd : 3 ≤ d) (hn : 89 ≤ n) (hT : sg 0 11 = nI T) (hT8 : T ≤ 8) (hk0 : ∀ r, tlV T x a b = some r → KA (some (.int r)) n mu ro sg) (hk1 : tlV T x a b = none → ∀ mu' ro' sg', TlP n T mu ro sg x a b mu' ro' sg' → KA (some (.int (nI T))) (n + 3) mu' ro' sg') : aCallA 3 168 d 100 [.ref 0, .int x, .int a, .int b] n mu ro sg KA := by
  have tT : (nI T).toInt = T := nI_toInt (by omega)
  refine aCallA_start (mL := 4) (cc := cX11_talk) (o := 11) (ret := (some .int)) (nm := "talk") 0 (by decide) (by decide +kernel) rfl rfl rfl rfl rfl (Nat.le_of_ble_eq_true rfl) (fun G hC hM hRm hG => ?_)
  simp only [exL, List.cons_append, List.nil_append, rp_0, rp_1, rp_2, rp_3, rp_4, rp_5, rp_6, rp_7, rp_8, rp_9, rp_10, rp_11, List.append_nil]
  refine hG _ _ _ _ _ (by omega) (by omega) (by omega) (fun q => q == 47) 60 _ _ _ _ (Nat.le_of_ble_eq_true rfl) ?_
  simp only [D_X11_talk, N_X11_talk, ↓reduceIte, vcS, vcC, vcI, gtF, ptF, inS, inV, fv0, fv1, fv2, fv3, fw0, fw1, lg_0, lg_1, lg_2, lg_3, lg_4, lg_5, lg_6, lg_7, lg_8, lg_9, lg_10, lg_11, lg_12, lg_13, lg_14, lsq_0, lsl_0, lsq_1, lsl_1, lsq_2, lsl_2, lsq_3, lsl_3, lsq_4, lsl_4, lsq_5, lsl_5, lsq_6, lsl_6, lsq_7, lsl_7, lsq_8, lsl_8, lsq_9, lsl_9, lsq_10, lsl_10, lsq_11, lsl_11, lsq_12, lsl_12, lsq_13, lsl_13, lsq_14, lsl_14, tk_0, tk_1, tk_2, tk_3, tk_4, tk_5, tk_6, tk_7, tk_8, cs_n, cs_i, cs_l, cs_r, cs_u, nl, rt_s, rt_n, CST1, Nat.reduceAdd, Nat.reduceLeDiff, va_rf, rtOk, Bool.false_eq_true, Bool.true_eq_false, if_false, if_true, ite_true, ite_false, true_and, and_true, eq_self, ne_eq, not_false_eq_true, not_true_eq_false, false_implies, true_implies, and_self, reduceCtorEq, Nat.reduceBEq, Bool.or_false, Bool.false_or, Bool.or_true, Bool.true_or, if1_0, if1_1, if1_01, one_01, zer_01, lg_cmp_ge, lg_cmp_le, lg_cmp_gt, lg_cmp_lt, lg_cmp_eq, Classical.not_not, SHm hS, SHr hS, hT]
  refine ⟨by omega, c_areMachines (by omega) ?_⟩
  simp only [D_X11_talk, N_X11_talk, ↓reduceIte, vcS, vcC, vcI, gtF, ptF, inS, inV, fv0, fv1, fv2, fv3, fw0, fw1, lg_0, lg_1, lg_2, lg_3, lg_4, lg_5, lg_6, lg_7, lg_8, lg_9, lg_10, lg_11, lg_12, lg_13, lg_14, lsq_0, lsl_0, lsq_1, lsl_1, lsq_2, lsl_2, lsq_3, lsl_3, lsq_4, lsl_4, lsq_5, lsl_5, lsq_6, lsl_6, lsq_7, lsl_7, lsq_8, lsl_8, lsq_9, lsl_9, lsq_10, lsl_10, lsq_11, lsl_11, lsq_12, lsl_12, lsq_13, lsl_13, lsq_14, lsl_14, tk_0, tk_1, tk_2, tk_3, tk_4, tk_5, tk_6, tk_7, tk_8, cs_n, cs_i, cs_l, cs_r, cs_u, nl, rt_s, rt_n, CST1, Nat.reduceAdd, Nat.reduceLeDiff, va_rf, rtOk, Bool.false_eq_true, Bool.true_eq_false, if_false, if_true, ite_true, ite_false, true_and, and_true, eq_self, ne_eq, not_false_eq_true, not_true_eq_false, false_implies, true_implies, and_self, reduceCtorEq, Nat.reduceBEq, Bool.or_false, Bool.false_or, Bool.or_true, Bool.true_or, if1_0, if1_1, if1_01, one_01, zer_01, lg_cmp_ge, lg_cmp_le, lg_cmp_gt, lg_cmp_lt, lg_cmp_eq, Classical.not_not, SHm hS, SHr hS, hT]
  refine ⟨fun q1 => ⟨by omega, c_isIn ?_⟩, fun q1 => hk0 _ (tlV_1 q1)⟩
  simp only [D_X11_talk, N_X11_talk, ↓reduceIte, vcS, vcC, vcI, gtF, ptF, inS, inV, fv0, fv1, fv2, fv3, fw0, fw1, lg_0, lg_1, lg_2, lg_3, lg_4, lg_5, lg_6, lg_7, lg_8, lg_9, lg_10, lg_11, lg_12, lg_13, lg_14, lsq_0, lsl_0, lsq_1, lsl_1, lsq_2, lsl_2, lsq_3, lsl_3, lsq_4, lsl_4, lsq_5, lsl_5, lsq_6, lsl_6, lsq_7, lsl_7, lsq_8, lsl_8, lsq_9, lsl_9, lsq_10, lsl_10, lsq_11, lsl_11, lsq_12, lsl_12, lsq_13, lsl_13, lsq_14, lsl_14, tk_0, tk_1, tk_2, tk_3, tk_4, tk_5, tk_6, tk_7, tk_8, cs_n, cs_i, cs_l, cs_r, cs_u, nl, rt_s, rt_n, CST1, Nat.reduceAdd, Nat.reduceLeDiff, va_rf, rtOk, Bool.false_eq_true, Bool.true_eq_false, if_false, if_true, ite_true, ite_false, true_and, and_true, eq_self, ne_eq, not_false_eq_true, not_true_eq_false, false_implies, true_implies, and_self, reduceCtorEq, Nat.reduceBEq, Bool.or_false, Bool.false_or, Bool.or_true, Bool.true_or, if1_0, if1_1, if1_01, one_01, zer_01, lg_cmp_ge, lg_cmp_le, lg_cmp_gt, lg_cmp_lt, lg_cmp_eq, Classical.not_not, SHm hS, SHr hS, hT, LIT1]
  refine ⟨fun q2 => hk0 _ (tlV_2 q1 (Or.inl q2)), fun q2 => ⟨fun q3 => ⟨fun q4 => ?_, fun q4 => hk0 _ (tlV_4 q1 q2 q3 (by ((try simp only [i_le, i_lt, i_eq, l_le, l_lt, l_eq, i_ne, l_ne, toL, l_add, l_sub1, LIT1, LIT2, Int.reduceNeg, ge_iff_le, gt_iff_lt] at *); omega)))⟩, fun q3 => hk0 _ (tlV_2 q1 (Or.inr q3))⟩⟩
  have h8 : T < 8 := by ((try simp only [i_le, i_lt, i_eq, l_le, l_lt, l_eq, i_ne, l_ne, toL, l_add, l_sub1, LIT1, LIT2, Int.reduceNeg, ge_iff_le, gt_iff_lt] at *); omega)
  have nn8 : nN 8 = 10 := rfl
  refine av_new (i := 25) (ci := 8) hC (by omega) (hRm _ _ (by omega) (Nat.le_of_ble_eq_true rfl)) (by simp only [D_X11_talk, Nat.reduceAdd]) (by decide) (tgw_at (i := 151) (by decide +kernel) rfl) (tgw_at (i := 470) (by decide +kernel) rfl) (tgw_at (i := 72) (by decide +kernel) rfl) ?_
  have m0 : ∀ c, c < n → va_up mu n (10 + 8, nN 8) c = mu c := fun c hc => va_up_ne _ _ (by omega)
  have s0 : ∀ c, c < n → va_up sg n (fun _ => 0) c = sg c := fun c hc => va_up_ne _ _ (by omega)
  refine hG _ _ _ _ _ (by omega) (by omega) (by omega) (fun q => q == 58) 60 _ _ _ _ (Nat.le_of_ble_eq_true rfl) ?_
  simp only [D_X11_talk, N_X11_talk, ↓reduceIte, vcS, vcC, vcI, gtF, ptF, inS, inV, fv0, fv1, fv2, fv3, fw0, fw1, lg_0, lg_1, lg_2, lg_3, lg_4, lg_5, lg_6, lg_7, lg_8, lg_9, lg_10, lg_11, lg_12, lg_13, lg_14, lsq_0, lsl_0, lsq_1, lsl_1, lsq_2, lsl_2, lsq_3, lsl_3, lsq_4, lsl_4, lsq_5, lsl_5, lsq_6, lsl_6, lsq_7, lsl_7, lsq_8, lsl_8, lsq_9, lsl_9, lsq_10, lsl_10, lsq_11, lsl_11, lsq_12, lsl_12, lsq_13, lsl_13, lsq_14, lsl_14, tk_0, tk_1, tk_2, tk_3, tk_4, tk_5, tk_6, tk_7, tk_8, cs_n, cs_i, cs_l, cs_r, cs_u, nl, rt_s, rt_n, CST1, Nat.reduceAdd, Nat.reduceLeDiff, va_rf, rtOk, Bool.false_eq_true, Bool.true_eq_false, if_false, if_true, ite_true, ite_false, true_and, and_true, eq_self, ne_eq, not_false_eq_true, not_true_eq_false, false_implies, true_implies, and_self, reduceCtorEq, Nat.reduceBEq, Bool.or_false, Bool.false_or, Bool.or_true, Bool.true_or, if1_0, if1_1, if1_01, one_01, zer_01, lg_cmp_ge, lg_cmp_le, lg_cmp_gt, lg_cmp_lt, lg_cmp_eq, Classical.not_not, m0 0 (by omega), s0 0 (by omega), SHm hS, SHr hS, hT]
  refine av_special (mc := 2) (ms := 158) (k := 58) (i := 164) (b := n) (av := [.int (nI T), .int x, .int a, .int b]) (rest := [.ref n, .int (nI T), .ref 13]) hC (by omega) (hRm _ _ (by omega) (Nat.le_of_ble_eq_true rfl)) (by simp only [D_X11_talk, Nat.reduceAdd]) (by simp only [D_X11_talk, Nat.reduceAdd]) (by decide +kernel) (by decide +kernel) (by decide +kernel) (Nat.le_of_ble_eq_true rfl) (by omega) rfl (c_initT (by rw [va_up_self]; rfl) (by omega) (by omega)) ?_
  rintro r n' mu2 ro2 sg2 ⟨rfl, rfl, ⟨a1, a2, a3⟩, ⟨b1, b2, b3⟩, ⟨c1, c2, c3, c4, c5, c6, c7⟩⟩
  have m13 : mu2 13 = (5, 8) := by rw [a1 13 (by omega) (by omega), m0 13 (by omega)]; simp only [SHm hS]
  have mn : mu2 n = (18, 10) := by rw [a1 n (by omega) (by omega), va_up_self]; rfl
  have mm : ∀ c, c < n → mu2 c = mu c := fun c hc => by rw [a1 c (by omega) (by omega), m0 c hc]
  have gg : ∀ c k, c < n → sg2 c k = sg c k := fun c k hc => by rw [c1 c k (by omega) (by omega), s0 c hc]
  have g0 : sg2 0 11 = nI T := by rw [gg 0 11 (by omega), hT]
  refine av_aast (ci := 8) (a := 13) (b := n) (i := nI T) hC (by simp only [D_X11_talk, Nat.reduceAdd]) (Or.inr (Or.inr ⟨by rw [m13], rfl⟩)) (by rw [mn]) (by rw [m13]; exact vp_in_nI (by omega) (by decide)) ?_
  have eT : (nI T).toNatClampNeg = T := nI_clamp (by omega)
  rw [eT]
  have mu0 : mu2 0 = (21, 15) := by rw [mm 0 (by omega)]; simp only [SHm hS]
  refine hG _ _ _ _ _ (by omega) (by omega) (by omega) (fun _ => false) 60 _ _ _ _ (Nat.le_of_ble_eq_true rfl) ?_
  simp only [D_X11_talk, N_X11_talk, ↓reduceIte, vcS, vcC, vcI, gtF, ptF, inS, inV, fv0, fv1, fv2, fv3, fw0, fw1, lg_0, lg_1, lg_2, lg_3, lg_4, lg_5, lg_6, lg_7, lg_8, lg_9, lg_10, lg_11, lg_12, lg_13, lg_14, lsq_0, lsl_0, lsq_1, lsl_1, lsq_2, lsl_2, lsq_3, lsl_3, lsq_4, lsl_4, lsq_5, lsl_5, lsq_6, lsl_6, lsq_7, lsl_7, lsq_8, lsl_8, lsq_9, lsl_9, lsq_10, lsl_10, lsq_11, lsl_11, lsq_12, lsl_12, lsq_13, lsl_13, lsq_14, lsl_14, tk_0, tk_1, tk_2, tk_3, tk_4, tk_5, tk_6, tk_7, tk_8, cs_n, cs_i, cs_l, cs_r, cs_u, nl, rt_s, rt_n, CST1, Nat.reduceAdd, Nat.reduceLeDiff, va_rf, rtOk, Bool.false_eq_true, Bool.true_eq_false, if_false, if_true, ite_true, ite_false, true_and, and_true, eq_self, ne_eq, not_false_eq_true, not_true_eq_false, false_implies, true_implies, and_self, reduceCtorEq, Nat.reduceBEq, Bool.or_false, Bool.false_or, Bool.or_true, Bool.true_or, if1_0, if1_1, if1_01, one_01, zer_01, lg_cmp_ge, lg_cmp_le, lg_cmp_gt, lg_cmp_lt, lg_cmp_eq, Classical.not_not, mu0, g0, s2_own, nI_1, nI_s1]
  refine hk1 (tlV_0 q1 q2 q3 (by omega)) _ _ _ ⟨⟨mm, mn, a2, a3⟩, ⟨fun c k hc hk => ?_, r2_y ⟨rfl, rfl⟩, ?_, ?_⟩, fun c k hc hk => ?_, s2_y ⟨rfl, rfl⟩, ⟨?_, ?_, ?_, ?_, ?_, ?_, ?_, ?_⟩, fun p hp => ⟨?_, ?_⟩⟩
  · rw [r2_n hk, b1 c k (by omega) (by omega), va_up_ne _ _ (by omega)]
  · rw [r2_n (by omega), b2]
  · rw [r2_n (by omega), b3]
  · rw [s2_n (by omega), gg c k hc]
  · rw [s2_n (by omega), c2]
  · rw [s2_n (by omega), c3]
  · rw [s2_n (by omega), c4]
  · rw [s2_n (by omega), c5]
  · rw [s2_n (by omega), c1 n 6 (by omega) (by omega), va_up_self]
  · rw [s2_n (by omega), c1 n 7 (by omega) (by omega), va_up_self]
  · rw [s2_n (by omega), c1 n 8 (by omega) (by omega), va_up_self]
  · rw [s2_n (by omega), c6]
  · rw [s2_n (by omega), (c7 p hp).1]
  · rw [s2_n (by omega), (c7 p hp).2]
def tlM (s : aS) (T : Nat) (x a b : Int32) : aS := s2 (s2 (s2 (s2 (s2 s 55 T x) 56 T a) 57 T b) 62 T (-9)) 48 9 (nI (T + 1))
set_option maxHeartbeats 4000000 in
set_option maxRecDepth 100000 in
theorem m_talk {x a b : Int32} (hS : Sh mu ro) (hd : 3 ≤ d) (hT : sg 48 9 = nI T) (hT8 : T ≤ 8) (hk0 : ∀ r, tlV T x a b = some r → K (some (.int r)) sg) (hk1 : tlV T x a b = none → K (some (.int (nI T))) (tlM sg T x a b)) : aCall d 177 [.ref 48, .int x, .int a, .int b] n mu ro sg K := by
  have tT : (nI T).toInt = T := nI_toInt (by omega)
  have eT : (nI T).toNatClampNeg = T := nI_clamp (by omega)
  by_cases q1 : (0 ≤ a.toInt ∧ a.toInt ≤ 9) ∧ (0 ≤ b.toInt ∧ b.toInt ≤ 9)
  · have qa : (0 ≤ a.toInt ∧ a.toInt ≤ 9) = True := eq_true q1.1
    have qb : (0 ≤ b.toInt ∧ b.toInt ≤ 9) = True := eq_true q1.2
    refine aCall_start (mL := 4) (cc := cX12_talk) (o := 12) (ret := (some .int)) 0 (by decide) (by decide +kernel) rfl rfl rfl rfl (Nat.le_of_ble_eq_true rfl) (fun G hC hG => ?_)
    simp only [exL, List.cons_append, List.nil_append, rp_0, rp_1, rp_2, rp_3, rp_4, rp_5, rp_6, rp_7, rp_8, rp_9, rp_10, rp_11, List.append_nil]
    refine hG (fun _ => false) 80 _ _ _ _ (Nat.le_of_ble_eq_true rfl) ?_
    simp only [D_X12_talk, ↓reduceIte, vcS, vcC, vcI, gtF, ptF, inS, inV, fv0, fv1, fv2, fv3, fw0, fw1, lg_0, lg_1, lg_2, lg_3, lg_4, lg_5, lg_6, lg_7, lg_8, lg_9, lg_10, lg_11, lg_12, lg_13, lg_14, lsq_0, lsl_0, lsq_1, lsl_1, lsq_2, lsl_2, lsq_3, lsl_3, lsq_4, lsl_4, lsq_5, lsl_5, lsq_6, lsl_6, lsq_7, lsl_7, lsq_8, lsl_8, lsq_9, lsl_9, lsq_10, lsl_10, lsq_11, lsl_11, lsq_12, lsl_12, lsq_13, lsl_13, lsq_14, lsl_14, tk_0, tk_1, tk_2, tk_3, tk_4, tk_5, tk_6, tk_7, tk_8, cs_n, cs_i, cs_l, cs_r, cs_u, nl, rt_s, rt_n, CST1, Nat.reduceAdd, Nat.reduceLeDiff, va_rf, rtOk, Bool.false_eq_true, Bool.true_eq_false, if_false, if_true, ite_true, ite_false, true_and, and_true, eq_self, ne_eq, not_false_eq_true, not_true_eq_false, false_implies, true_implies, and_self, reduceCtorEq, Nat.reduceBEq, Bool.or_false, Bool.false_or, Bool.or_true, Bool.true_or, if1_0, if1_1, if1_01, one_01, zer_01, lg_cmp_ge, lg_cmp_le, lg_cmp_gt, lg_cmp_lt, lg_cmp_eq, Classical.not_not, SHm hS, SHr hS, hT]
    refine ⟨by omega, m_noMachine (by omega) ?_⟩
    simp only [D_X12_talk, ↓reduceIte, vcS, vcC, vcI, gtF, ptF, inS, inV, fv0, fv1, fv2, fv3, fw0, fw1, lg_0, lg_1, lg_2, lg_3, lg_4, lg_5, lg_6, lg_7, lg_8, lg_9, lg_10, lg_11, lg_12, lg_13, lg_14, lsq_0, lsl_0, lsq_1, lsl_1, lsq_2, lsl_2, lsq_3, lsl_3, lsq_4, lsl_4, lsq_5, lsl_5, lsq_6, lsl_6, lsq_7, lsl_7, lsq_8, lsl_8, lsq_9, lsl_9, lsq_10, lsl_10, lsq_11, lsl_11, lsq_12, lsl_12, lsq_13, lsl_13, lsq_14, lsl_14, tk_0, tk_1, tk_2, tk_3, tk_4, tk_5, tk_6, tk_7, tk_8, cs_n, cs_i, cs_l, cs_r, cs_u, nl, rt_s, rt_n, CST1, Nat.reduceAdd, Nat.reduceLeDiff, va_rf, rtOk, Bool.false_eq_true, Bool.true_eq_false, if_false, if_true, ite_true, ite_false, true_and, and_true, eq_self, ne_eq, not_false_eq_true, not_true_eq_false, false_implies, true_implies, and_self, reduceCtorEq, Nat.reduceBEq, Bool.or_false, Bool.false_or, Bool.or_true, Bool.true_or, if1_0, if1_1, if1_01, one_01, zer_01, lg_cmp_ge, lg_cmp_le, lg_cmp_gt, lg_cmp_lt, lg_cmp_eq, Classical.not_not, SHm hS, SHr hS, hT, qa, z10]
    refine ⟨by omega, m_noMachine (by omega) ?_⟩
    simp only [D_X12_talk, ↓reduceIte, vcS, vcC, vcI, gtF, ptF, inS, inV, fv0, fv1, fv2, fv3, fw0, fw1, lg_0, lg_1, lg_2, lg_3, lg_4, lg_5, lg_6, lg_7, lg_8, lg_9, lg_10, lg_11, lg_12, lg_13, lg_14, lsq_0, lsl_0, lsq_1, lsl_1, lsq_2, lsl_2, lsq_3, lsl_3, lsq_4, lsl_4, lsq_5, lsl_5, lsq_6, lsl_6, lsq_7, lsl_7, lsq_8, lsl_8, lsq_9, lsl_9, lsq_10, lsl_10, lsq_11, lsl_11, lsq_12, lsl_12, lsq_13, lsl_13, lsq_14, lsl_14, tk_0, tk_1, tk_2, tk_3, tk_4, tk_5, tk_6, tk_7, tk_8, cs_n, cs_i, cs_l, cs_r, cs_u, nl, rt_s, rt_n, CST1, Nat.reduceAdd, Nat.reduceLeDiff, va_rf, rtOk, Bool.false_eq_true, Bool.true_eq_false, if_false, if_true, ite_true, ite_false, true_and, and_true, eq_self, ne_eq, not_false_eq_true, not_true_eq_false, false_implies, true_implies, and_self, reduceCtorEq, Nat.reduceBEq, Bool.or_false, Bool.false_or, Bool.or_true, Bool.true_or, if1_0, if1_1, if1_01, one_01, zer_01, lg_cmp_ge, lg_cmp_le, lg_cmp_gt, lg_cmp_lt, lg_cmp_eq, Classical.not_not, SHm hS, SHr hS, hT, qb, z10]
    refine ⟨by omega, m_in ?_⟩
    by_cases q2 : 0 ≤ x.toInt ∧ x.toInt ≤ 2
    · have qx : (0 ≤ x.toInt ∧ x.toInt ≤ 2) = True := eq_true q2
      by_cases q3 : a = b
      · have q3' : (a = b) = True := eq_true q3
        simp only [D_X12_talk, ↓reduceIte, vcS, vcC, vcI, gtF, ptF, inS, inV, fv0, fv1, fv2, fv3, fw0, fw1, lg_0, lg_1, lg_2, lg_3, lg_4, lg_5, lg_6, lg_7, lg_8, lg_9, lg_10, lg_11, lg_12, lg_13, lg_14, lsq_0, lsl_0, lsq_1, lsl_1, lsq_2, lsl_2, lsq_3, lsl_3, lsq_4, lsl_4, lsq_5, lsl_5, lsq_6, lsl_6, lsq_7, lsl_7, lsq_8, lsl_8, lsq_9, lsl_9, lsq_10, lsl_10, lsq_11, lsl_11, lsq_12, lsl_12, lsq_13, lsl_13, lsq_14, lsl_14, tk_0, tk_1, tk_2, tk_3, tk_4, tk_5, tk_6, tk_7, tk_8, cs_n, cs_i, cs_l, cs_r, cs_u, nl, rt_s, rt_n, CST1, Nat.reduceAdd, Nat.reduceLeDiff, va_rf, rtOk, Bool.false_eq_true, Bool.true_eq_false, if_false, if_true, ite_true, ite_false, true_and, and_true, eq_self, ne_eq, not_false_eq_true, not_true_eq_false, false_implies, true_implies, and_self, reduceCtorEq, Nat.reduceBEq, Bool.or_false, Bool.false_or, Bool.or_true, Bool.true_or, if1_0, if1_1, if1_01, one_01, zer_01, lg_cmp_ge, lg_cmp_le, lg_cmp_gt, lg_cmp_lt, lg_cmp_eq, Classical.not_not, SHm hS, SHr hS, hT, LIT2, toL, qx, ↓im_T q3', ↓im_TN q3', q3', z10]
        exact hk0 _ (tlV_2 q1 (Or.inr q3))
      · have q3' : (a = b) = False := eq_false q3
        by_cases q4 : 8 ≤ T
        · have q4' : (nI T = 8) = True := eq_true (by rw [show T = 8 by omega]; rfl)
          simp only [D_X12_talk, ↓reduceIte, vcS, vcC, vcI, gtF, ptF, inS, inV, fv0, fv1, fv2, fv3, fw0, fw1, lg_0, lg_1, lg_2, lg_3, lg_4, lg_5, lg_6, lg_7, lg_8, lg_9, lg_10, lg_11, lg_12, lg_13, lg_14, lsq_0, lsl_0, lsq_1, lsl_1, lsq_2, lsl_2, lsq_3, lsl_3, lsq_4, lsl_4, lsq_5, lsl_5, lsq_6, lsl_6, lsq_7, lsl_7, lsq_8, lsl_8, lsq_9, lsl_9, lsq_10, lsl_10, lsq_11, lsl_11, lsq_12, lsl_12, lsq_13, lsl_13, lsq_14, lsl_14, tk_0, tk_1, tk_2, tk_3, tk_4, tk_5, tk_6, tk_7, tk_8, cs_n, cs_i, cs_l, cs_r, cs_u, nl, rt_s, rt_n, CST1, Nat.reduceAdd, Nat.reduceLeDiff, va_rf, rtOk, Bool.false_eq_true, Bool.true_eq_false, if_false, if_true, ite_true, ite_false, true_and, and_true, eq_self, ne_eq, not_false_eq_true, not_true_eq_false, false_implies, true_implies, and_self, reduceCtorEq, Nat.reduceBEq, Bool.or_false, Bool.false_or, Bool.or_true, Bool.true_or, if1_0, if1_1, if1_01, one_01, zer_01, lg_cmp_ge, lg_cmp_le, lg_cmp_gt, lg_cmp_lt, lg_cmp_eq, Classical.not_not, SHm hS, SHr hS, hT, LIT2, toL, qx, ↓im_F q3', ↓im_FN q3', q3', ↓im_T q4', ↓im_TN q4', q4', z10]
          exact hk0 _ (tlV_4 q1 q2 q3 q4)
        · have q4' : (nI T = 8) = False := eq_false (by ((try simp only [i_le, i_lt, i_eq, l_le, l_lt, l_eq, i_ne, l_ne, toL, l_add, l_sub1, LIT1, LIT2, Int.reduceNeg, ge_iff_le, gt_iff_lt] at *); omega))
          have v1 : vp_in (nI T) 8 := vp_in_nI (by omega) (by decide)
          have r1 : ∀ (s : aS) (A k : Nat) (x : Int32), 48 ≠ A → s2 s A k x 48 9 = s 48 9 := fun s A k x hA => s2_n (Or.inl hA)
          simp only [D_X12_talk, ↓reduceIte, vcS, vcC, vcI, gtF, ptF, inS, inV, fv0, fv1, fv2, fv3, fw0, fw1, lg_0, lg_1, lg_2, lg_3, lg_4, lg_5, lg_6, lg_7, lg_8, lg_9, lg_10, lg_11, lg_12, lg_13, lg_14, lsq_0, lsl_0, lsq_1, lsl_1, lsq_2, lsl_2, lsq_3, lsl_3, lsq_4, lsl_4, lsq_5, lsl_5, lsq_6, lsl_6, lsq_7, lsl_7, lsq_8, lsl_8, lsq_9, lsl_9, lsq_10, lsl_10, lsq_11, lsl_11, lsq_12, lsl_12, lsq_13, lsl_13, lsq_14, lsl_14, tk_0, tk_1, tk_2, tk_3, tk_4, tk_5, tk_6, tk_7, tk_8, cs_n, cs_i, cs_l, cs_r, cs_u, nl, rt_s, rt_n, CST1, Nat.reduceAdd, Nat.reduceLeDiff, va_rf, rtOk, Bool.false_eq_true, Bool.true_eq_false, if_false, if_true, ite_true, ite_false, true_and, and_true, eq_self, ne_eq, not_false_eq_true, not_true_eq_false, false_implies, true_implies, and_self, reduceCtorEq, Nat.reduceBEq, Bool.or_false, Bool.false_or, Bool.or_true, Bool.true_or, if1_0, if1_1, if1_01, one_01, zer_01, lg_cmp_ge, lg_cmp_le, lg_cmp_gt, lg_cmp_lt, lg_cmp_eq, Classical.not_not, SHm hS, SHr hS, hT, LIT2, toL, qx, ↓im_F q3', ↓im_FN q3', q3', ↓im_F q4', ↓im_FN q4', q4', v1, eT, r1 _ 55 _ _ (by decide), r1 _ 56 _ _ (by decide), r1 _ 57 _ _ (by decide), r1 _ 62 _ _ (by decide), s2_own, nI_1, nI_s1, z10]
          exact hk1 (tlV_0 q1 q2 q3 q4)
    · have qx : (0 ≤ x.toInt ∧ x.toInt ≤ 2) = False := eq_false q2
      simp only [D_X12_talk, ↓reduceIte, vcS, vcC, vcI, gtF, ptF, inS, inV, fv0, fv1, fv2, fv3, fw0, fw1, lg_0, lg_1, lg_2, lg_3, lg_4, lg_5, lg_6, lg_7, lg_8, lg_9, lg_10, lg_11, lg_12, lg_13, lg_14, lsq_0, lsl_0, lsq_1, lsl_1, lsq_2, lsl_2, lsq_3, lsl_3, lsq_4, lsl_4, lsq_5, lsl_5, lsq_6, lsl_6, lsq_7, lsl_7, lsq_8, lsl_8, lsq_9, lsl_9, lsq_10, lsl_10, lsq_11, lsl_11, lsq_12, lsl_12, lsq_13, lsl_13, lsq_14, lsl_14, tk_0, tk_1, tk_2, tk_3, tk_4, tk_5, tk_6, tk_7, tk_8, cs_n, cs_i, cs_l, cs_r, cs_u, nl, rt_s, rt_n, CST1, Nat.reduceAdd, Nat.reduceLeDiff, va_rf, rtOk, Bool.false_eq_true, Bool.true_eq_false, if_false, if_true, ite_true, ite_false, true_and, and_true, eq_self, ne_eq, not_false_eq_true, not_true_eq_false, false_implies, true_implies, and_self, reduceCtorEq, Nat.reduceBEq, Bool.or_false, Bool.false_or, Bool.or_true, Bool.true_or, if1_0, if1_1, if1_01, one_01, zer_01, lg_cmp_ge, lg_cmp_le, lg_cmp_gt, lg_cmp_lt, lg_cmp_eq, Classical.not_not, SHm hS, SHr hS, hT, LIT2, toL, qx, z10]
      exact hk0 _ (tlV_2 q1 (Or.inl q2))
  · have hk := hk0 _ (tlV_1 q1)
    refine aCall_start (mL := 4) (cc := cX12_talk) (o := 12) (ret := (some .int)) 0 (by decide) (by decide +kernel) rfl rfl rfl rfl (Nat.le_of_ble_eq_true rfl) (fun G hC hG => ?_)
    simp only [exL, List.cons_append, List.nil_append, rp_0, rp_1, rp_2, rp_3, rp_4, rp_5, rp_6, rp_7, rp_8, rp_9, rp_10, rp_11, List.append_nil]
    refine hG (fun _ => false) 80 _ _ _ _ (Nat.le_of_ble_eq_true rfl) ?_
    simp only [D_X12_talk, ↓reduceIte, vcS, vcC, vcI, gtF, ptF, inS, inV, fv0, fv1, fv2, fv3, fw0, fw1, lg_0, lg_1, lg_2, lg_3, lg_4, lg_5, lg_6, lg_7, lg_8, lg_9, lg_10, lg_11, lg_12, lg_13, lg_14, lsq_0, lsl_0, lsq_1, lsl_1, lsq_2, lsl_2, lsq_3, lsl_3, lsq_4, lsl_4, lsq_5, lsl_5, lsq_6, lsl_6, lsq_7, lsl_7, lsq_8, lsl_8, lsq_9, lsl_9, lsq_10, lsl_10, lsq_11, lsl_11, lsq_12, lsl_12, lsq_13, lsl_13, lsq_14, lsl_14, tk_0, tk_1, tk_2, tk_3, tk_4, tk_5, tk_6, tk_7, tk_8, cs_n, cs_i, cs_l, cs_r, cs_u, nl, rt_s, rt_n, CST1, Nat.reduceAdd, Nat.reduceLeDiff, va_rf, rtOk, Bool.false_eq_true, Bool.true_eq_false, if_false, if_true, ite_true, ite_false, true_and, and_true, eq_self, ne_eq, not_false_eq_true, not_true_eq_false, false_implies, true_implies, and_self, reduceCtorEq, Nat.reduceBEq, Bool.or_false, Bool.false_or, Bool.or_true, Bool.true_or, if1_0, if1_1, if1_01, one_01, zer_01, lg_cmp_ge, lg_cmp_le, lg_cmp_gt, lg_cmp_lt, lg_cmp_eq, Classical.not_not, SHm hS, SHr hS, hT]
    refine ⟨by omega, m_noMachine (by omega) ?_⟩
    by_cases qa : 0 ≤ a.toInt ∧ a.toInt ≤ 9
    · have qa' : (0 ≤ a.toInt ∧ a.toInt ≤ 9) = True := eq_true qa
      have qb' : (0 ≤ b.toInt ∧ b.toInt ≤ 9) = False := eq_false (fun z => q1 ⟨qa, z⟩)
      simp only [D_X12_talk, ↓reduceIte, vcS, vcC, vcI, gtF, ptF, inS, inV, fv0, fv1, fv2, fv3, fw0, fw1, lg_0, lg_1, lg_2, lg_3, lg_4, lg_5, lg_6, lg_7, lg_8, lg_9, lg_10, lg_11, lg_12, lg_13, lg_14, lsq_0, lsl_0, lsq_1, lsl_1, lsq_2, lsl_2, lsq_3, lsl_3, lsq_4, lsl_4, lsq_5, lsl_5, lsq_6, lsl_6, lsq_7, lsl_7, lsq_8, lsl_8, lsq_9, lsl_9, lsq_10, lsl_10, lsq_11, lsl_11, lsq_12, lsl_12, lsq_13, lsl_13, lsq_14, lsl_14, tk_0, tk_1, tk_2, tk_3, tk_4, tk_5, tk_6, tk_7, tk_8, cs_n, cs_i, cs_l, cs_r, cs_u, nl, rt_s, rt_n, CST1, Nat.reduceAdd, Nat.reduceLeDiff, va_rf, rtOk, Bool.false_eq_true, Bool.true_eq_false, if_false, if_true, ite_true, ite_false, true_and, and_true, eq_self, ne_eq, not_false_eq_true, not_true_eq_false, false_implies, true_implies, and_self, reduceCtorEq, Nat.reduceBEq, Bool.or_false, Bool.false_or, Bool.or_true, Bool.true_or, if1_0, if1_1, if1_01, one_01, zer_01, lg_cmp_ge, lg_cmp_le, lg_cmp_gt, lg_cmp_lt, lg_cmp_eq, Classical.not_not, SHm hS, SHr hS, hT, qa', z10]
      refine ⟨by omega, m_noMachine (by omega) ?_⟩
      simp only [D_X12_talk, ↓reduceIte, vcS, vcC, vcI, gtF, ptF, inS, inV, fv0, fv1, fv2, fv3, fw0, fw1, lg_0, lg_1, lg_2, lg_3, lg_4, lg_5, lg_6, lg_7, lg_8, lg_9, lg_10, lg_11, lg_12, lg_13, lg_14, lsq_0, lsl_0, lsq_1, lsl_1, lsq_2, lsl_2, lsq_3, lsl_3, lsq_4, lsl_4, lsq_5, lsl_5, lsq_6, lsl_6, lsq_7, lsl_7, lsq_8, lsl_8, lsq_9, lsl_9, lsq_10, lsl_10, lsq_11, lsl_11, lsq_12, lsl_12, lsq_13, lsl_13, lsq_14, lsl_14, tk_0, tk_1, tk_2, tk_3, tk_4, tk_5, tk_6, tk_7, tk_8, cs_n, cs_i, cs_l, cs_r, cs_u, nl, rt_s, rt_n, CST1, Nat.reduceAdd, Nat.reduceLeDiff, va_rf, rtOk, Bool.false_eq_true, Bool.true_eq_false, if_false, if_true, ite_true, ite_false, true_and, and_true, eq_self, ne_eq, not_false_eq_true, not_true_eq_false, false_implies, true_implies, and_self, reduceCtorEq, Nat.reduceBEq, Bool.or_false, Bool.false_or, Bool.or_true, Bool.true_or, if1_0, if1_1, if1_01, one_01, zer_01, lg_cmp_ge, lg_cmp_le, lg_cmp_gt, lg_cmp_lt, lg_cmp_eq, Classical.not_not, SHm hS, SHr hS, hT, qb', z10]
      exact hk
    · have qa' : (0 ≤ a.toInt ∧ a.toInt ≤ 9) = False := eq_false qa
      simp only [D_X12_talk, ↓reduceIte, vcS, vcC, vcI, gtF, ptF, inS, inV, fv0, fv1, fv2, fv3, fw0, fw1, lg_0, lg_1, lg_2, lg_3, lg_4, lg_5, lg_6, lg_7, lg_8, lg_9, lg_10, lg_11, lg_12, lg_13, lg_14, lsq_0, lsl_0, lsq_1, lsl_1, lsq_2, lsl_2, lsq_3, lsl_3, lsq_4, lsl_4, lsq_5, lsl_5, lsq_6, lsl_6, lsq_7, lsl_7, lsq_8, lsl_8, lsq_9, lsl_9, lsq_10, lsl_10, lsq_11, lsl_11, lsq_12, lsl_12, lsq_13, lsl_13, lsq_14, lsl_14, tk_0, tk_1, tk_2, tk_3, tk_4, tk_5, tk_6, tk_7, tk_8, cs_n, cs_i, cs_l, cs_r, cs_u, nl, rt_s, rt_n, CST1, Nat.reduceAdd, Nat.reduceLeDiff, va_rf, rtOk, Bool.false_eq_true, Bool.true_eq_false, if_false, if_true, ite_true, ite_false, true_and, and_true, eq_self, ne_eq, not_false_eq_true, not_true_eq_false, false_implies, true_implies, and_self, reduceCtorEq, Nat.reduceBEq, Bool.or_false, Bool.false_or, Bool.or_true, Bool.true_or, if1_0, if1_1, if1_01, one_01, zer_01, lg_cmp_ge, lg_cmp_le, lg_cmp_gt, lg_cmp_lt, lg_cmp_eq, Classical.not_not, SHm hS, SHr hS, hT, qa', z10]
      exact hk
theorem Sh.up {mu' : aM} {ro' : aR} (h : Sh mu ro) (hm : ∀ c, c < 89 → mu' c = mu c) (hr : ∀ c k, c < 89 → c ≠ 13 → c ≠ 14 → ro' c k = ro c k) : Sh mu' ro' := ⟨fun a ha => by rw [hm a ha]; exact h.1 a ha, fun a k ha h1 h2 hk => by rw [hr a k ha h1 h2]; exact h.2 a k ha h1 h2 hk⟩
set_option maxHeartbeats 4000000 in
set_option maxRecDepth 100000 in
theorem b_talk {x a b : Int32} {KB : Nat → aM → aR → aS → Prop} (hS : Sh mu ro) (hd : 3 ≤ d) (hn : 89 ≤ n) (hT : S_tk mu ro n T tb) (hR : S_rw mu ro n Q rb) (hDs : S_ds T Q tb rb) (hI : I_tk sg T tb) (hJ : I_rw sg Q rb) (hF : I_fd sg F T) (hk0 : KB n mu ro sg) (hk1 : ∀ mu' ro' sg', Sh mu' ro' → S_tk mu' ro' (n + 3) (T + 1) (fun t => if t = T then n else tb t) → S_rw mu' ro' (n + 3) Q rb → S_ds (T + 1) Q (fun t => if t = T then n else tb t) rb → I_tk sg' (T + 1) (fun t => if t = T then n else tb t) → I_rw sg' Q rb → I_fd sg' F (T + 1) → Fr [3] sg sg' → KB (n + 3) mu' ro' sg') : aCallA 3 168 d 100 [.ref 0, .int x, .int a, .int b] n mu ro sg (fun r1 n1 mu1 ro1 sg1 => mu1 48 = (22, 55) ∧ aCall d 177 [.ref 48, .int x, .int a, .int b] n1 mu1 ro1 sg1 (fun r2 sg2 => r1 = r2 ∧ KB n1 mu1 ro1 sg2)) := by
  obtain ⟨⟨i1, i2⟩, i3, i4, i5⟩ := id hI
  have m48 : mu 48 = (22, 55) := by simp only [SHm hS]
  refine c_talk hS hd hn i1 i3 (fun r h => ⟨m48, ?_⟩) (fun h mu' ro' sg' hP => ⟨by rw [hP.1.1 48 (by omega), m48], ?_⟩)
  · refine m_talk hS hd i2 i3 (fun r2 h2 => ⟨?_, hk0⟩) (fun h2 => ?_)
    · rw [h] at h2
      rw [Option.some.inj h2]
    · rw [h] at h2; cases h2
  · obtain ⟨⟨a1, a2, a3, a4⟩, ⟨b1, b2, b3, b4⟩, c1, c2, ⟨c3, c4, c5, c6, c7, c8, c9, c10⟩, c11⟩ := hP
    obtain ⟨w1, w2, w3⟩ := tlV_i h
    have hS' : Sh mu' ro' := hS.up (fun c hc => a1 c (by omega)) (fun c k hc h1 _ => b1 c k (by omega) (by omega))
    refine m_talk (T := T) hS' hd (by rw [c1 48 9 (by omega) (by omega)]; exact i2) i3 (fun r2 h2 => ?_) (fun _ => ⟨rfl, ?_⟩)
    · rw [h] at h2; cases h2
    have e : ∀ c k, c < n → ¬ (c = 0 ∧ k = 11) → ¬ (c = 48 ∧ k = 9) → ¬ ((c = 55 ∨ c = 56 ∨ c = 57 ∨ c = 62) ∧ k = T) → tlM sg' T x a b c k = sg c k := fun c k hc q1 q2 q3 => by
      unfold tlM
      rw [s2_n (by omega), s2_n (by omega), s2_n (by omega), s2_n (by omega), s2_n (by omega), c1 c k hc q1]
    have e2 : ∀ c k, n ≤ c → tlM sg' T x a b c k = sg' c k := fun c k hc => by
      unfold tlM
      rw [s2_n (by omega), s2_n (by omega), s2_n (by omega), s2_n (by omega), s2_n (by omega)]
    have f1 : tlM sg' T x a b 48 9 = nI (T + 1) := s2_y ⟨rfl, rfl⟩
    have f2 : tlM sg' T x a b 0 11 = nI (T + 1) := by
      unfold tlM
      rw [s2_n (by omega), s2_n (by omega), s2_n (by omega), s2_n (by omega), s2_n (by omega), c2]
    have f3 : tlM sg' T x a b 55 T = x := by
      unfold tlM
      rw [s2_n (by omega), s2_n (by omega), s2_n (by omega), s2_n (by omega), s2_y ⟨rfl, rfl⟩]
    have f4 : tlM sg' T x a b 56 T = a := by
      unfold tlM
      rw [s2_n (by omega), s2_n (by omega), s2_n (by omega), s2_y ⟨rfl, rfl⟩]
    have f5 : tlM sg' T x a b 57 T = b := by
      unfold tlM
      rw [s2_n (by omega), s2_n (by omega), s2_y ⟨rfl, rfl⟩]
    have f6 : tlM sg' T x a b 62 T = -9 := by
      unfold tlM
      rw [s2_n (by omega), s2_y ⟨rfl, rfl⟩]
    obtain ⟨σ, hσ⟩ : ∃ s : aS, s = tlM sg' T x a b := ⟨_, rfl⟩
    rw [← hσ] at e e2 f1 f2 f3 f4 f5 f6 ⊢
    obtain ⟨z1, z2, z3⟩ := i5 T (Nat.le_refl _) w3
    refine hk1 _ _ _ hS' ?_ ?_ ?_ ?_ ?_ ?_ ?_
    · intro t ht
      by_cases q : t = T
      · subst q
        simp only [if_true]
        exact ⟨b2, a2, b3, b4, a3, a4, hn, by omega⟩
      · obtain ⟨g1, g2, g3, g4, g5, g6, g7, g8⟩ := hT t (by omega)
        simp only [if_neg q]
        exact ⟨by rw [b1 13 t (by omega) (by omega)]; exact g1, by rw [a1 _ (by omega)]; exact g2, by rw [b1 _ _ (by omega) (by omega)]; exact g3, by rw [b1 _ _ (by omega) (by omega)]; exact g4, by rw [a1 _ (by omega)]; exact g5, by rw [a1 _ (by omega)]; exact g6, g7, by omega⟩
    · intro r hr
      obtain ⟨g1, g2, g3, g4, g5, g6⟩ := hR r hr
      exact ⟨by rw [b1 14 r (by omega) (by omega)]; exact g1, by rw [a1 _ (by omega)]; exact g2, by rw [b1 _ _ (by omega) (by omega)]; exact g3, by rw [a1 _ (by omega)]; exact g4, g5, by omega⟩
    · obtain ⟨d1, d2, d3⟩ := hDs
      refine ⟨fun t u ht hu htu => ?_, fun t r ht hr => ?_, d3⟩
      · show (if t = T then n else tb t) + 3 ≤ (if u = T then n else tb u) ∨ (if u = T then n else tb u) + 3 ≤ (if t = T then n else tb t)
        by_cases q : t = T
        · have q2 : ¬ u = T := by omega
          have := (hT u (by omega)).2.2.2.2.2.2.2
          rw [if_pos q, if_neg q2]; omega
        · by_cases q2 : u = T
          · have := (hT t (by omega)).2.2.2.2.2.2.2
            rw [if_neg q, if_pos q2]; omega
          · rw [if_neg q, if_neg q2]
            exact d1 t u (by omega) (by omega) htu
      · show (if t = T then n else tb t) + 3 ≤ rb r ∨ rb r + 2 ≤ (if t = T then n else tb t)
        by_cases q : t = T
        · have := (hR r hr).2.2.2.2.2
          rw [if_pos q]; omega
        · rw [if_neg q]
          exact d2 t r (by omega) hr
    · refine ⟨⟨f2, f1⟩, by omega, fun t ht => ?_, fun t ht ht2 => ?_⟩
      · by_cases q : t = T
        · subst q
          simp only [if_true]
          refine ⟨by rw [e2 _ _ (by omega)]; exact c3, ⟨by rw [e2 _ _ (by omega), f3]; exact c4, by rw [f3]; exact w2⟩, ⟨by rw [e2 _ _ (by omega), f4]; exact c5, by rw [f4]; exact w1.1⟩, ⟨by rw [e2 _ _ (by omega), f5]; exact c6, by rw [f5]; exact w1.2⟩, ?_, ?_, ?_, ⟨0, by omega, by rw [e2 _ _ (by omega)]; exact c7, fun p _ hp => ?_, Or.inl rfl⟩, fun p hp => ?_⟩
          · rw [e2 _ _ (by omega), c8, e 60 t (by omega) (by omega) (by omega) (by omega), z1]
          · rw [e2 _ _ (by omega), c9, e 61 t (by omega) (by omega) (by omega) (by omega), z2]
          · rw [e2 _ _ (by omega), c10, f6]
          · rw [e 58 _ (by omega) (by omega) (by omega) (by omega)]
            exact (z3 p hp).1
          · rw [e2 (n + 1) p (by omega), e2 (n + 2) p (by omega), e 58 _ (by omega) (by omega) (by omega) (by omega), e 59 _ (by omega) (by omega) (by omega) (by omega), (z3 p hp).1, (z3 p hp).2, (c11 p hp).1, (c11 p hp).2]
            exact ⟨rfl, Or.inl rfl, rfl, Or.inl rfl⟩
        · simp only [if_neg q]
          have g := hT t (by omega)
          have g7 := g.2.2.2.2.2.2.1
          have g8 := g.2.2.2.2.2.2.2
          have o : ∀ k, σ (tb t) k = sg (tb t) k := fun k => e _ _ (by omega) (by omega) (by omega) (by omega)
          have h4 := i4 t (by omega)
          unfold I_t1 at *
          rw [o, o, o, o, o, o, o, o, e 55 t (by omega) (by omega) (by omega) (by omega), e 56 t (by omega) (by omega) (by omega) (by omega), e 57 t (by omega) (by omega) (by omega) (by omega), e 60 t (by omega) (by omega) (by omega) (by omega), e 61 t (by omega) (by omega) (by omega) (by omega), e 62 t (by omega) (by omega) (by omega) (by omega)]
          have o1 : σ (tb t + 1) = sg (tb t + 1) := funext (fun k => e _ _ (by omega) (by omega) (by omega) (by omega))
          have o2 : σ (tb t + 2) = sg (tb t + 2) := funext (fun k => e _ _ (by omega) (by omega) (by omega) (by omega))
          have o3 : σ 58 = sg 58 := funext (fun k => e _ _ (by omega) (by omega) (by omega) (by omega))
          have o4 : σ 59 = sg 59 := funext (fun k => e _ _ (by omega) (by omega) (by omega) (by omega))
          rw [o1, o2, o3, o4]
          exact h4
      · obtain ⟨g1, g2, g3⟩ := i5 t (by omega) ht2
        exact ⟨by rw [e 60 t (by omega) (by omega) (by omega) (by omega)]; exact g1, by rw [e 61 t (by omega) (by omega) (by omega) (by omega)]; exact g2, fun p hp => by rw [e 58 _ (by omega) (by omega) (by omega) (by omega), e 59 _ (by omega) (by omega) (by omega) (by omega)]; exact g3 p hp⟩
    · obtain ⟨⟨j1, j2⟩, j3, j4⟩ := hJ
      refine ⟨⟨by rw [e 0 12 (by omega) (by omega) (by omega) (by omega)]; exact j1, by rw [e 48 18 (by omega) (by omega) (by omega) (by omega)]; exact j2⟩, j3, fun r hr => ?_⟩
      obtain ⟨y, y1, y2, y3, y4, y5⟩ := j4 r hr
      obtain ⟨g1, g2, g3, g4, g5, g6⟩ := hR r hr
      exact ⟨y, y1, y2, by rw [e _ _ (by omega) (by omega) (by omega) (by omega)]; exact y3, by rw [e 63 r (by omega) (by omega) (by omega) (by omega)]; exact y4, fun k hk => by rw [e _ _ (by omega) (by omega) (by omega) (by omega), e 64 _ (by omega) (by omega) (by omega) (by omega)]; exact y5 k hk⟩
    · obtain ⟨⟨j1, j2⟩, j3, j4, j5⟩ := hF
      refine ⟨⟨by rw [e 15 5 (by omega) (by omega) (by omega) (by omega)]; exact j1, by rw [e 48 21 (by omega) (by omega) (by omega) (by omega)]; exact j2⟩, j3, fun f hf => ?_, fun f hf hf2 => by rw [e 20 f (by omega) (by omega) (by omega) (by omega)]; exact j5 f hf hf2⟩
      obtain ⟨⟨t, t1, t2, t3, t4⟩, g⟩ := j4 f hf
      unfold I_f1
      rw [e 16 f (by omega) (by omega) (by omega) (by omega), e 65 f (by omega) (by omega) (by omega) (by omega), e 19 f (by omega) (by omega) (by omega) (by omega), e 67 f (by omega) (by omega) (by omega) (by omega), e 20 f (by omega) (by omega) (by omega) (by omega), e 68 f (by omega) (by omega) (by omega) (by omega)]
      exact ⟨⟨t, by omega, by rw [e 17 f (by omega) (by omega) (by omega) (by omega)]; exact t2, by rw [e 66 f (by omega) (by omega) (by omega) (by omega)]; exact t3, by rw [e 18 f (by omega) (by omega) (by omega) (by omega), e 56 t (by omega) (by omega) (by omega) (by omega)]; exact t4⟩, g⟩
    · intro c k q1 q2
      refine e c k ?_ ?_ ?_ ?_
      · rcases Nat.lt_or_ge c n with q | q
        · exact q
        · exact absurd (by rw [reg_9 (by omega)]; decide) q1
      · rintro ⟨rfl, rfl⟩; exact q1 (by decide)
      · rintro ⟨rfl, rfl⟩; exact q1 (by decide)
      · rintro ⟨q3, -⟩
        rcases q3 with rfl | rfl | rfl | rfl <;> exact q1 (by rw [show reg _ k = 3 from rfl]; decide)
end H77
