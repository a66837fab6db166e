/-! part 60: where a row fits -/
section H60
variable {d n N T Q F : Nat} {mu : aM} {ro : aR} {sg : aS} {K : Option Value → aS → Prop} {tb rb : Nat → Nat}
def alR (p : Nat → Bool) : Nat → Bool
  | 0 => true
  | m + 1 => alR p m && p m
theorem al_f {p : Nat → Bool} {k : Nat} (h : p k = false) : ∀ m, k < m → alR p m = false
  | 0, hk => absurd hk (by omega)
  | m + 1, hk => by
    rw [alR]
    by_cases q : k = m
    · rw [← q, h, Bool.and_false]
    · rw [al_f h m (by omega), Bool.false_and]
def qF (s : aS) (r t : Nat) (rd : Int32) (p : Nat) : Nat → Bool := fun k => decide (s 64 (6 * r + k) = -1) || decide (s 64 (6 * r + k) = byF rd (s 58 (80 * t + (p + k))) (s 59 (80 * t + (p + k))))
def fpF (s : aS) (r t : Nat) (rd : Int32) (z J : Nat) (p : Nat) : Bool := decide (p + z ≤ J) && alR (qF s r t rd p) z
theorem qF_t {r t p k : Nat} {rd : Int32} : (qF sg r t rd p k = true) = (sg 64 (6 * r + k) = -1 ∨ sg 64 (6 * r + k) = byF rd (sg 58 (80 * t + (p + k))) (sg 59 (80 * t + (p + k)))) := by
  unfold qF
  rw [Bool.or_eq_true, decide_eq_true_iff, decide_eq_true_iff]
theorem fs_no {p : Nat → Bool} : ∀ m i, (∀ j, i ≤ j → j < i + m → p j = false) → fsG p m i = i + m
  | 0, _, _ => rfl
  | m + 1, i, h => by
    rw [fsG, if_neg (by rw [h i (Nat.le_refl i) (by omega)]; decide), fs_no m (i + 1) (fun j h1 h2 => h j (by omega) (by omega))]
    omega
theorem fs_is {p : Nat → Bool} {j : Nat} : ∀ m i, i ≤ j → j < i + m → p j = true → (∀ u, i ≤ u → u < j → p u = false) → fsG p m i = j
  | 0, i, h1, h2, _, _ => absurd h2 (by omega)
  | m + 1, i, h1, h2, h3, h4 => by
    rw [fsG]
    by_cases q : i = j
    · rw [q, if_pos h3]
    · rw [if_neg (by rw [h4 i (Nat.le_refl i) (by omega)]; decide)]
      exact fs_is m (i + 1) (by omega) (by omega) h3 (fun u h5 h6 => h4 u (by omega) h6)
def fvF (p : Nat → Bool) (J m i : Nat) : Int32 := if fsG p m i < J then nI (fsG p m i) else -9
def cuB (p : Nat → Bool) : Nat → Nat → Nat
  | 0, _ => 0
  | m + 1, j => cuB p m (j + 1) + (if p j = true then 1 else 0)
theorem cu_c {p : Nat → Bool} : ∀ m j, cntB p (j + m) = cntB p j + cuB p m j
  | 0, _ => rfl
  | m + 1, j => by
    rw [show j + (m + 1) = j + 1 + m by omega, cu_c m (j + 1), cntB, cuB]
    omega
theorem cu_le {p : Nat → Bool} : ∀ m j, cuB p m j ≤ m
  | 0, _ => Nat.le_refl 0
  | m + 1, j => by rw [cuB]; have := cu_le (p := p) m (j + 1); split <;> omega
-- what both sides know of a row and of a talk
set_option maxHeartbeats 4000000 in
set_option maxRecDepth 100000 in
theorem c_isAt {a b r t p z : Nat} {rd : Int32} (hd : 1 ≤ d) (a1 : mu a = (15, 2)) (a2 : ro a 0 = some (a + 1)) (a3 : mu (a + 1) = (1, 6)) (hz : sg a 1 = nI z) (hz2 : 1 ≤ z ∧ z ≤ 6) (hc : ∀ k, k < z → sg (a + 1) k = sg 64 (6 * r + k)) (h1 : mu b = (18, 10)) (h2 : ro b 4 = some (b + 1)) (h3 : mu (b + 1) = (1, 79)) (h4 : ro b 5 = some (b + 2)) (h5 : mu (b + 2) = (1, 79)) (hb : ∀ p, p < 79 → sg (b + 1) p = sg 58 (80 * t + p) ∧ sg (b + 2) p = sg 59 (80 * t + p)) (hp : p + z ≤ 79) (hk : K (some (.int (if alR (qF sg r t rd p) z = true then 1 else 0))) sg) : aCall d 41 [.ref a, .ref b, .int rd, .int (nI p)] n mu ro sg K := by
  refine aCall_start (mL := 5) (cc := cX5_isAt) (o := 5) (ret := (some .boolean)) 1 (by decide) (by decide +kernel) rfl rfl rfl rfl (Nat.le_of_ble_eq_true rfl) (fun G hC hG => ?_)
  simp only [exL, List.cons_append, List.nil_append, rp_0, rp_1, rp_2, rp_3, rp_4, rp_5, rp_6, rp_7, rp_8, rp_9, rp_10, rp_11, List.append_nil]
  have lo : ∀ (m k : Nat), k + m = z → alR (qF sg r t rd p) k = true → AW G 5 n 0 0 mu ro sg 3 [.ref a, .ref b, .int rd, .int (nI p), .int (nI k)] [] := by
    intro m
    induction m with
    | zero =>
      intro k hk2 ha
      have hq : (nI z ≤ nI k) = True := eq_true (nI_le (by omega) (by omega))
      have : k = z := by omega
      subst this
      rw [if_pos ha] at hk
      refine hG (fun q => q == 3) 80 _ _ _ _ (Nat.le_of_ble_eq_true rfl) ?_
      simp only [D_X5_isAt, N_X5_isAt, ↓reduceIte, vcS, vcC, vcI, gtF, ptF, inS, inV, fv0, fv1, fv2, fv3, fw0, fw1, lg_0, lg_1, lg_2, lg_3, lg_4, lg_5, lg_6, lg_7, lg_8, lg_9, lg_10, lg_11, lg_12, lg_13, lg_14, lsq_0, lsl_0, lsq_1, lsl_1, lsq_2, lsl_2, lsq_3, lsl_3, lsq_4, lsl_4, lsq_5, lsl_5, lsq_6, lsl_6, lsq_7, lsl_7, lsq_8, lsl_8, lsq_9, lsl_9, lsq_10, lsl_10, lsq_11, lsl_11, lsq_12, lsl_12, lsq_13, lsl_13, lsq_14, lsl_14, tk_0, tk_1, tk_2, tk_3, tk_4, tk_5, tk_6, tk_7, tk_8, cs_n, cs_i, cs_l, cs_r, cs_u, nl, rt_s, rt_n, CST1, Nat.reduceAdd, Nat.reduceLeDiff, va_rf, rtOk, Bool.false_eq_true, Bool.true_eq_false, if_false, if_true, ite_true, ite_false, true_and, and_true, eq_self, ne_eq, not_false_eq_true, not_true_eq_false, false_implies, true_implies, and_self, reduceCtorEq, Nat.reduceBEq, Bool.or_false, Bool.false_or, Bool.or_true, Bool.true_or, if1_0, if1_1, if1_01, one_01, zer_01, lg_cmp_ge, lg_cmp_le, lg_cmp_gt, lg_cmp_lt, lg_cmp_eq, Classical.not_not, a1, hz, ↓im_T hq, ↓im_TN hq, hq]
      exact hk
    | succ m ih =>
      intro k hk2 ha
      have hq : (nI z ≤ nI k) = False := eq_false (nI_ge (by omega) (by omega))
      have ek : (nI k).toNatClampNeg = k := nI_clamp (by omega)
      have vk : vp_in (nI k) 6 := vp_in_nI (by omega) (by decide)
      have hck := hc k (by omega)
      have yes : qF sg r t rd p k = true → AW G 5 n 0 0 mu ro sg 3 [.ref a, .ref b, .int rd, .int (nI p), .int (nI (k + 1))] [] := fun g => ih (k + 1) (by omega) (by rw [alR, ha, g]; rfl)
      refine hG (fun q => q == 3) 80 _ _ _ _ (Nat.le_of_ble_eq_true rfl) ?_
      simp only [D_X5_isAt, N_X5_isAt, ↓reduceIte, vcS, vcC, vcI, gtF, ptF, inS, inV, fv0, fv1, fv2, fv3, fw0, fw1, lg_0, lg_1, lg_2, lg_3, lg_4, lg_5, lg_6, lg_7, lg_8, lg_9, lg_10, lg_11, lg_12, lg_13, lg_14, lsq_0, lsl_0, lsq_1, lsl_1, lsq_2, lsl_2, lsq_3, lsl_3, lsq_4, lsl_4, lsq_5, lsl_5, lsq_6, lsl_6, lsq_7, lsl_7, lsq_8, lsl_8, lsq_9, lsl_9, lsq_10, lsl_10, lsq_11, lsl_11, lsq_12, lsl_12, lsq_13, lsl_13, lsq_14, lsl_14, tk_0, tk_1, tk_2, tk_3, tk_4, tk_5, tk_6, tk_7, tk_8, cs_n, cs_i, cs_l, cs_r, cs_u, nl, rt_s, rt_n, CST1, Nat.reduceAdd, Nat.reduceLeDiff, va_rf, rtOk, Bool.false_eq_true, Bool.true_eq_false, if_false, if_true, ite_true, ite_false, true_and, and_true, eq_self, ne_eq, not_false_eq_true, not_true_eq_false, false_implies, true_implies, and_self, reduceCtorEq, Nat.reduceBEq, Bool.or_false, Bool.false_or, Bool.or_true, Bool.true_or, if1_0, if1_1, if1_01, one_01, zer_01, lg_cmp_ge, lg_cmp_le, lg_cmp_gt, lg_cmp_lt, lg_cmp_eq, Classical.not_not, a1, a2, a3, h1, hz, ↓im_F hq, ↓im_FN hq, hq, ek, vk, hck, nI_1, nI_add]
      refine ⟨fun g => yes (by rw [qF_t]; exact Or.inl g), fun g => ⟨hd, c_byteAt h1 h2 h3 h4 h5 (by omega) ?_⟩⟩
      rw [(hb (p + k) (by omega)).1, (hb (p + k) (by omega)).2]
      simp only [D_X5_isAt, N_X5_isAt, ↓reduceIte, vcS, vcC, vcI, gtF, ptF, inS, inV, fv0, fv1, fv2, fv3, fw0, fw1, lg_0, lg_1, lg_2, lg_3, lg_4, lg_5, lg_6, lg_7, lg_8, lg_9, lg_10, lg_11, lg_12, lg_13, lg_14, lsq_0, lsl_0, lsq_1, lsl_1, lsq_2, lsl_2, lsq_3, lsl_3, lsq_4, lsl_4, lsq_5, lsl_5, lsq_6, lsl_6, lsq_7, lsl_7, lsq_8, lsl_8, lsq_9, lsl_9, lsq_10, lsl_10, lsq_11, lsl_11, lsq_12, lsl_12, lsq_13, lsl_13, lsq_14, lsl_14, tk_0, tk_1, tk_2, tk_3, tk_4, tk_5, tk_6, tk_7, tk_8, cs_n, cs_i, cs_l, cs_r, cs_u, nl, rt_s, rt_n, CST1, Nat.reduceAdd, Nat.reduceLeDiff, va_rf, rtOk, Bool.false_eq_true, Bool.true_eq_false, if_false, if_true, ite_true, ite_false, true_and, and_true, eq_self, ne_eq, not_false_eq_true, not_true_eq_false, false_implies, true_implies, and_self, reduceCtorEq, Nat.reduceBEq, Bool.or_false, Bool.false_or, Bool.or_true, Bool.true_or, if1_0, if1_1, if1_01, one_01, zer_01, lg_cmp_ge, lg_cmp_le, lg_cmp_gt, lg_cmp_lt, lg_cmp_eq, Classical.not_not, a1, a2, a3, h1, nI_1]
      refine ⟨fun g2 => yes (by rw [qF_t]; exact Or.inr g2), fun g2 => ?_⟩
      rw [if_neg (by rw [al_f (k := k) (by rw [← Bool.not_eq_true, qF_t]; exact fun y => y.elim g g2) z (by omega)]; decide)] at hk
      exact hk
  refine hG (fun q => q == 3) 80 _ _ _ _ (Nat.le_of_ble_eq_true rfl) ?_
  simp only [D_X5_isAt, N_X5_isAt, ↓reduceIte, vcS, vcC, vcI, gtF, ptF, inS, inV, fv0, fv1, fv2, fv3, fw0, fw1, lg_0, lg_1, lg_2, lg_3, lg_4, lg_5, lg_6, lg_7, lg_8, lg_9, lg_10, lg_11, lg_12, lg_13, lg_14, lsq_0, lsl_0, lsq_1, lsl_1, lsq_2, lsl_2, lsq_3, lsl_3, lsq_4, lsl_4, lsq_5, lsl_5, lsq_6, lsl_6, lsq_7, lsl_7, lsq_8, lsl_8, lsq_9, lsl_9, lsq_10, lsl_10, lsq_11, lsl_11, lsq_12, lsl_12, lsq_13, lsl_13, lsq_14, lsl_14, tk_0, tk_1, tk_2, tk_3, tk_4, tk_5, tk_6, tk_7, tk_8, cs_n, cs_i, cs_l, cs_r, cs_u, nl, rt_s, rt_n, CST1, Nat.reduceAdd, Nat.reduceLeDiff, va_rf, rtOk, Bool.false_eq_true, Bool.true_eq_false, if_false, if_true, ite_true, ite_false, true_and, and_true, eq_self, ne_eq, not_false_eq_true, not_true_eq_false, false_implies, true_implies, and_self, reduceCtorEq, Nat.reduceBEq, Bool.or_false, Bool.false_or, Bool.or_true, Bool.true_or, if1_0, if1_1, if1_01, one_01, zer_01, lg_cmp_ge, lg_cmp_le, lg_cmp_gt, lg_cmp_lt, lg_cmp_eq, Classical.not_not]
  exact lo z 0 (by omega) rfl
theorem fp_M {r t z J p : Nat} {rd : Int32} (h : J < p + z) : fpF sg r t rd z J p = false := by
  unfold fpF
  rw [decide_eq_false (by omega), Bool.false_and]
theorem fp_c {r t z J : Nat} {rd : Int32} (hz : 1 ≤ z) : cntB (fpF sg r t rd z J) J = cntB (fpF sg r t rd z J) (J + 1 - z) := by
  have := cnt_cut (p := fpF sg r t rd z J) (M := J + 1 - z) (J - (J + 1 - z)) (fun j h1 h2 => fp_M (by omega))
  rw [show J + 1 - z + (J - (J + 1 - z)) = J by omega] at this
  exact this
set_option maxHeartbeats 4000000 in
set_option maxRecDepth 100000 in
theorem c_placesIn {a b r t z J : Nat} {rd : Int32} {g : Nat → Bool} (hd : 2 ≤ d) (a1 : mu a = (15, 2)) (a2 : ro a 0 = some (a + 1)) (a3 : mu (a + 1) = (1, 6)) (hz : sg a 1 = nI z) (hz2 : 1 ≤ z ∧ z ≤ 6) (hc : ∀ k, k < z → sg (a + 1) k = sg 64 (6 * r + k)) (h1 : mu b = (18, 10)) (h2 : ro b 4 = some (b + 1)) (h3 : mu (b + 1) = (1, 79)) (h4 : ro b 5 = some (b + 2)) (h5 : mu (b + 2) = (1, 79)) (hb : ∀ p, p < 79 → sg (b + 1) p = sg 58 (80 * t + p) ∧ sg (b + 2) p = sg 59 (80 * t + p)) (hg : ∀ p, p < 79 → (sg (b + 1) p = -9) = (g p = true)) (hJ : fsG g 79 0 = J) (hJ2 : J ≤ 79) (hk : K (some (.int (nI (cntB (fpF sg r t rd z J) J)))) sg) : aCall d 42 [.ref a, .ref b, .int rd] n mu ro sg K := by
  rw [fp_c hz2.1] at hk
  have tl : (nI J - nI z).toInt = (J : Int) - z := pk_sub_toInt (by omega) (by omega)
  refine aCall_start (mL := 6) (cc := cX5_placesIn) (o := 5) (ret := (some .int)) 3 (by decide) (by decide +kernel) rfl rfl rfl rfl (Nat.le_of_ble_eq_true rfl) (fun G hC hG => ?_)
  simp only [exL, List.cons_append, List.nil_append, rp_0, rp_1, rp_2, rp_3, rp_4, rp_5, rp_6, rp_7, rp_8, rp_9, rp_10, rp_11, List.append_nil]
  refine hG (fun q => q == 16) 80 _ _ _ _ (Nat.le_of_ble_eq_true rfl) ?_
  simp only [D_X5_placesIn, N_X5_placesIn, ↓reduceIte, vcS, vcC, vcI, gtF, ptF, inS, inV, fv0, fv1, fv2, fv3, fw0, fw1, lg_0, lg_1, lg_2, lg_3, lg_4, lg_5, lg_6, lg_7, lg_8, lg_9, lg_10, lg_11, lg_12, lg_13, lg_14, lsq_0, lsl_0, lsq_1, lsl_1, lsq_2, lsl_2, lsq_3, lsl_3, lsq_4, lsl_4, lsq_5, lsl_5, lsq_6, lsl_6, lsq_7, lsl_7, lsq_8, lsl_8, lsq_9, lsl_9, lsq_10, lsl_10, lsq_11, lsl_11, lsq_12, lsl_12, lsq_13, lsl_13, lsq_14, lsl_14, tk_0, tk_1, tk_2, tk_3, tk_4, tk_5, tk_6, tk_7, tk_8, cs_n, cs_i, cs_l, cs_r, cs_u, nl, rt_s, rt_n, CST1, Nat.reduceAdd, Nat.reduceLeDiff, va_rf, rtOk, Bool.false_eq_true, Bool.true_eq_false, if_false, if_true, ite_true, ite_false, true_and, and_true, eq_self, ne_eq, not_false_eq_true, not_true_eq_false, false_implies, true_implies, and_self, reduceCtorEq, Nat.reduceBEq, Bool.or_false, Bool.false_or, Bool.or_true, Bool.true_or, if1_0, if1_1, if1_01, one_01, zer_01, lg_cmp_ge, lg_cmp_le, lg_cmp_gt, lg_cmp_lt, lg_cmp_eq, Classical.not_not, a1, h1, hz]
  refine ⟨by omega, c_joined h1 h2 h3 hg ?_⟩
  rw [hJ]
  simp only [D_X5_placesIn, N_X5_placesIn, ↓reduceIte, vcS, vcC, vcI, gtF, ptF, inS, inV, fv0, fv1, fv2, fv3, fw0, fw1, lg_0, lg_1, lg_2, lg_3, lg_4, lg_5, lg_6, lg_7, lg_8, lg_9, lg_10, lg_11, lg_12, lg_13, lg_14, lsq_0, lsl_0, lsq_1, lsl_1, lsq_2, lsl_2, lsq_3, lsl_3, lsq_4, lsl_4, lsq_5, lsl_5, lsq_6, lsl_6, lsq_7, lsl_7, lsq_8, lsl_8, lsq_9, lsl_9, lsq_10, lsl_10, lsq_11, lsl_11, lsq_12, lsl_12, lsq_13, lsl_13, lsq_14, lsl_14, tk_0, tk_1, tk_2, tk_3, tk_4, tk_5, tk_6, tk_7, tk_8, cs_n, cs_i, cs_l, cs_r, cs_u, nl, rt_s, rt_n, CST1, Nat.reduceAdd, Nat.reduceLeDiff, va_rf, rtOk, Bool.false_eq_true, Bool.true_eq_false, if_false, if_true, ite_true, ite_false, true_and, and_true, eq_self, ne_eq, not_false_eq_true, not_true_eq_false, false_implies, true_implies, and_self, reduceCtorEq, Nat.reduceBEq, Bool.or_false, Bool.false_or, Bool.or_true, Bool.true_or, if1_0, if1_1, if1_01, one_01, zer_01, lg_cmp_ge, lg_cmp_le, lg_cmp_gt, lg_cmp_lt, lg_cmp_eq, Classical.not_not, a1, h1, hz]
  have lo : ∀ (m p : Nat), p + m = J + 1 - z → AW G 6 n 0 0 mu ro sg 16 [.ref a, .ref b, .int rd, .int (nI (cntB (fpF sg r t rd z J) p)), .int (nI J - nI z), .int (nI p)] [] := by
    intro m
    induction m with
    | zero =>
      intro p hp
      have tp : (nI p).toInt = p := nI_toInt (by omega)
      have hq : (nI J - nI z < nI p) = True := eq_true (by ((try simp only [i_le, i_lt, i_eq, l_le, l_lt, l_eq, i_ne, l_ne, toL, l_add, l_sub1, LIT1, LIT2, Int.reduceNeg, ge_iff_le, gt_iff_lt] at *); omega))
      have : p = J + 1 - z := by omega
      rw [← this] at hk
      refine hG (fun q => q == 16) 80 _ _ _ _ (Nat.le_of_ble_eq_true rfl) ?_
      simp only [D_X5_placesIn, N_X5_placesIn, ↓reduceIte, vcS, vcC, vcI, gtF, ptF, inS, inV, fv0, fv1, fv2, fv3, fw0, fw1, lg_0, lg_1, lg_2, lg_3, lg_4, lg_5, lg_6, lg_7, lg_8, lg_9, lg_10, lg_11, lg_12, lg_13, lg_14, lsq_0, lsl_0, lsq_1, lsl_1, lsq_2, lsl_2, lsq_3, lsl_3, lsq_4, lsl_4, lsq_5, lsl_5, lsq_6, lsl_6, lsq_7, lsl_7, lsq_8, lsl_8, lsq_9, lsl_9, lsq_10, lsl_10, lsq_11, lsl_11, lsq_12, lsl_12, lsq_13, lsl_13, lsq_14, lsl_14, tk_0, tk_1, tk_2, tk_3, tk_4, tk_5, tk_6, tk_7, tk_8, cs_n, cs_i, cs_l, cs_r, cs_u, nl, rt_s, rt_n, CST1, Nat.reduceAdd, Nat.reduceLeDiff, va_rf, rtOk, Bool.false_eq_true, Bool.true_eq_false, if_false, if_true, ite_true, ite_false, true_and, and_true, eq_self, ne_eq, not_false_eq_true, not_true_eq_false, false_implies, true_implies, and_self, reduceCtorEq, Nat.reduceBEq, Bool.or_false, Bool.false_or, Bool.or_true, Bool.true_or, if1_0, if1_1, if1_01, one_01, zer_01, lg_cmp_ge, lg_cmp_le, lg_cmp_gt, lg_cmp_lt, lg_cmp_eq, Classical.not_not, ↓im_T hq, ↓im_TN hq, hq]
      exact hk
    | succ m ih =>
      intro p hp
      have tp : (nI p).toInt = p := nI_toInt (by omega)
      have hq : (nI J - nI z < nI p) = False := eq_false (by ((try simp only [i_le, i_lt, i_eq, l_le, l_lt, l_eq, i_ne, l_ne, toL, l_add, l_sub1, LIT1, LIT2, Int.reduceNeg, ge_iff_le, gt_iff_lt] at *); omega))
      have h0 := ih (p + 1) (by omega)
      rw [cntB] at h0
      have fe : fpF sg r t rd z J p = alR (qF sg r t rd p) z := by unfold fpF; rw [decide_eq_true (by omega), Bool.true_and]
      rw [fe] at h0
      refine hG (fun q => q == 16) 80 _ _ _ _ (Nat.le_of_ble_eq_true rfl) ?_
      simp only [D_X5_placesIn, N_X5_placesIn, ↓reduceIte, vcS, vcC, vcI, gtF, ptF, inS, inV, fv0, fv1, fv2, fv3, fw0, fw1, lg_0, lg_1, lg_2, lg_3, lg_4, lg_5, lg_6, lg_7, lg_8, lg_9, lg_10, lg_11, lg_12, lg_13, lg_14, lsq_0, lsl_0, lsq_1, lsl_1, lsq_2, lsl_2, lsq_3, lsl_3, lsq_4, lsl_4, lsq_5, lsl_5, lsq_6, lsl_6, lsq_7, lsl_7, lsq_8, lsl_8, lsq_9, lsl_9, lsq_10, lsl_10, lsq_11, lsl_11, lsq_12, lsl_12, lsq_13, lsl_13, lsq_14, lsl_14, tk_0, tk_1, tk_2, tk_3, tk_4, tk_5, tk_6, tk_7, tk_8, cs_n, cs_i, cs_l, cs_r, cs_u, nl, rt_s, rt_n, CST1, Nat.reduceAdd, Nat.reduceLeDiff, va_rf, rtOk, Bool.false_eq_true, Bool.true_eq_false, if_false, if_true, ite_true, ite_false, true_and, and_true, eq_self, ne_eq, not_false_eq_true, not_true_eq_false, false_implies, true_implies, and_self, reduceCtorEq, Nat.reduceBEq, Bool.or_false, Bool.false_or, Bool.or_true, Bool.true_or, if1_0, if1_1, if1_01, one_01, zer_01, lg_cmp_ge, lg_cmp_le, lg_cmp_gt, lg_cmp_lt, lg_cmp_eq, Classical.not_not, ↓im_F hq, ↓im_FN hq, hq, a1]
      refine ⟨by omega, c_isAt (r := r) (t := t) (by omega) a1 a2 a3 hz hz2 hc h1 h2 h3 h4 h5 hb (by omega) ?_⟩
      simp only [D_X5_placesIn, N_X5_placesIn, ↓reduceIte, vcS, vcC, vcI, gtF, ptF, inS, inV, fv0, fv1, fv2, fv3, fw0, fw1, lg_0, lg_1, lg_2, lg_3, lg_4, lg_5, lg_6, lg_7, lg_8, lg_9, lg_10, lg_11, lg_12, lg_13, lg_14, lsq_0, lsl_0, lsq_1, lsl_1, lsq_2, lsl_2, lsq_3, lsl_3, lsq_4, lsl_4, lsq_5, lsl_5, lsq_6, lsl_6, lsq_7, lsl_7, lsq_8, lsl_8, lsq_9, lsl_9, lsq_10, lsl_10, lsq_11, lsl_11, lsq_12, lsl_12, lsq_13, lsl_13, lsq_14, lsl_14, tk_0, tk_1, tk_2, tk_3, tk_4, tk_5, tk_6, tk_7, tk_8, cs_n, cs_i, cs_l, cs_r, cs_u, nl, rt_s, rt_n, CST1, Nat.reduceAdd, Nat.reduceLeDiff, va_rf, rtOk, Bool.false_eq_true, Bool.true_eq_false, if_false, if_true, ite_true, ite_false, true_and, and_true, eq_self, ne_eq, not_false_eq_true, not_true_eq_false, false_implies, true_implies, and_self, reduceCtorEq, Nat.reduceBEq, Bool.or_false, Bool.false_or, Bool.or_true, Bool.true_or, if1_0, if1_1, if1_01, one_01, zer_01, lg_cmp_ge, lg_cmp_le, lg_cmp_gt, lg_cmp_lt, lg_cmp_eq, Classical.not_not, nI_1]
      refine ⟨fun g => ?_, fun g => ?_⟩
      · rw [if_neg g, Nat.add_zero] at h0; exact h0
      · rw [if_pos g] at h0; exact h0
  exact lo (J + 1 - z) 0 (by omega)
set_option maxHeartbeats 4000000 in
set_option maxRecDepth 100000 in
theorem c_firstIn {a b r t z J : Nat} {rd : Int32} {g : Nat → Bool} (hd : 2 ≤ d) (a1 : mu a = (15, 2)) (a2 : ro a 0 = some (a + 1)) (a3 : mu (a + 1) = (1, 6)) (hz : sg a 1 = nI z) (hz2 : 1 ≤ z ∧ z ≤ 6) (hc : ∀ k, k < z → sg (a + 1) k = sg 64 (6 * r + k)) (h1 : mu b = (18, 10)) (h2 : ro b 4 = some (b + 1)) (h3 : mu (b + 1) = (1, 79)) (h4 : ro b 5 = some (b + 2)) (h5 : mu (b + 2) = (1, 79)) (hb : ∀ p, p < 79 → sg (b + 1) p = sg 58 (80 * t + p) ∧ sg (b + 2) p = sg 59 (80 * t + p)) (hg : ∀ p, p < 79 → (sg (b + 1) p = -9) = (g p = true)) (hJ : fsG g 79 0 = J) (hJ2 : J ≤ 79) (hk : K (some (.int (fvF (fpF sg r t rd z J) J J 0))) sg) : aCall d 43 [.ref a, .ref b, .int rd] n mu ro sg K := by
  have tl : (nI J - nI z).toInt = (J : Int) - z := pk_sub_toInt (by omega) (by omega)
  refine aCall_start (mL := 5) (cc := cX5_firstIn) (o := 5) (ret := (some .int)) 2 (by decide) (by decide +kernel) rfl rfl rfl rfl (Nat.le_of_ble_eq_true rfl) (fun G hC hG => ?_)
  simp only [exL, List.cons_append, List.nil_append, rp_0, rp_1, rp_2, rp_3, rp_4, rp_5, rp_6, rp_7, rp_8, rp_9, rp_10, rp_11, List.append_nil]
  refine hG (fun q => q == 13) 80 _ _ _ _ (Nat.le_of_ble_eq_true rfl) ?_
  simp only [D_X5_firstIn, N_X5_firstIn, ↓reduceIte, vcS, vcC, vcI, gtF, ptF, inS, inV, fv0, fv1, fv2, fv3, fw0, fw1, lg_0, lg_1, lg_2, lg_3, lg_4, lg_5, lg_6, lg_7, lg_8, lg_9, lg_10, lg_11, lg_12, lg_13, lg_14, lsq_0, lsl_0, lsq_1, lsl_1, lsq_2, lsl_2, lsq_3, lsl_3, lsq_4, lsl_4, lsq_5, lsl_5, lsq_6, lsl_6, lsq_7, lsl_7, lsq_8, lsl_8, lsq_9, lsl_9, lsq_10, lsl_10, lsq_11, lsl_11, lsq_12, lsl_12, lsq_13, lsl_13, lsq_14, lsl_14, tk_0, tk_1, tk_2, tk_3, tk_4, tk_5, tk_6, tk_7, tk_8, cs_n, cs_i, cs_l, cs_r, cs_u, nl, rt_s, rt_n, CST1, Nat.reduceAdd, Nat.reduceLeDiff, va_rf, rtOk, Bool.false_eq_true, Bool.true_eq_false, if_false, if_true, ite_true, ite_false, true_and, and_true, eq_self, ne_eq, not_false_eq_true, not_true_eq_false, false_implies, true_implies, and_self, reduceCtorEq, Nat.reduceBEq, Bool.or_false, Bool.false_or, Bool.or_true, Bool.true_or, if1_0, if1_1, if1_01, one_01, zer_01, lg_cmp_ge, lg_cmp_le, lg_cmp_gt, lg_cmp_lt, lg_cmp_eq, Classical.not_not, a1, h1, hz]
  refine ⟨by omega, c_joined h1 h2 h3 hg ?_⟩
  rw [hJ]
  simp only [D_X5_firstIn, N_X5_firstIn, ↓reduceIte, vcS, vcC, vcI, gtF, ptF, inS, inV, fv0, fv1, fv2, fv3, fw0, fw1, lg_0, lg_1, lg_2, lg_3, lg_4, lg_5, lg_6, lg_7, lg_8, lg_9, lg_10, lg_11, lg_12, lg_13, lg_14, lsq_0, lsl_0, lsq_1, lsl_1, lsq_2, lsl_2, lsq_3, lsl_3, lsq_4, lsl_4, lsq_5, lsl_5, lsq_6, lsl_6, lsq_7, lsl_7, lsq_8, lsl_8, lsq_9, lsl_9, lsq_10, lsl_10, lsq_11, lsl_11, lsq_12, lsl_12, lsq_13, lsl_13, lsq_14, lsl_14, tk_0, tk_1, tk_2, tk_3, tk_4, tk_5, tk_6, tk_7, tk_8, cs_n, cs_i, cs_l, cs_r, cs_u, nl, rt_s, rt_n, CST1, Nat.reduceAdd, Nat.reduceLeDiff, va_rf, rtOk, Bool.false_eq_true, Bool.true_eq_false, if_false, if_true, ite_true, ite_false, true_and, and_true, eq_self, ne_eq, not_false_eq_true, not_true_eq_false, false_implies, true_implies, and_self, reduceCtorEq, Nat.reduceBEq, Bool.or_false, Bool.false_or, Bool.or_true, Bool.true_or, if1_0, if1_1, if1_01, one_01, zer_01, lg_cmp_ge, lg_cmp_le, lg_cmp_gt, lg_cmp_lt, lg_cmp_eq, Classical.not_not, a1, h1, hz]
  have lo : ∀ (m p : Nat), p + m = J + 1 - z → (∀ j, j < p → fpF sg r t rd z J j = false) → AW G 5 n 0 0 mu ro sg 13 [.ref a, .ref b, .int rd, .int (nI J - nI z), .int (nI p)] [] := by
    intro m
    induction m with
    | zero =>
      intro p hp hn
      have tp : (nI p).toInt = p := nI_toInt (by omega)
      have hq : (nI J - nI z < nI p) = True := eq_true (by ((try simp only [i_le, i_lt, i_eq, l_le, l_lt, l_eq, i_ne, l_ne, toL, l_add, l_sub1, LIT1, LIT2, Int.reduceNeg, ge_iff_le, gt_iff_lt] at *); omega))
      have e : fsG (fpF sg r t rd z J) J 0 = J := by
        rw [fs_no J 0 (fun j _ h2 => ?_), Nat.zero_add]
        by_cases q : j < p
        · exact hn j q
        · exact fp_M (by omega)
      rw [fvF, e, if_neg (by omega)] at hk
      refine hG (fun q => q == 13) 80 _ _ _ _ (Nat.le_of_ble_eq_true rfl) ?_
      simp only [D_X5_firstIn, N_X5_firstIn, ↓reduceIte, vcS, vcC, vcI, gtF, ptF, inS, inV, fv0, fv1, fv2, fv3, fw0, fw1, lg_0, lg_1, lg_2, lg_3, lg_4, lg_5, lg_6, lg_7, lg_8, lg_9, lg_10, lg_11, lg_12, lg_13, lg_14, lsq_0, lsl_0, lsq_1, lsl_1, lsq_2, lsl_2, lsq_3, lsl_3, lsq_4, lsl_4, lsq_5, lsl_5, lsq_6, lsl_6, lsq_7, lsl_7, lsq_8, lsl_8, lsq_9, lsl_9, lsq_10, lsl_10, lsq_11, lsl_11, lsq_12, lsl_12, lsq_13, lsl_13, lsq_14, lsl_14, tk_0, tk_1, tk_2, tk_3, tk_4, tk_5, tk_6, tk_7, tk_8, cs_n, cs_i, cs_l, cs_r, cs_u, nl, rt_s, rt_n, CST1, Nat.reduceAdd, Nat.reduceLeDiff, va_rf, rtOk, Bool.false_eq_true, Bool.true_eq_false, if_false, if_true, ite_true, ite_false, true_and, and_true, eq_self, ne_eq, not_false_eq_true, not_true_eq_false, false_implies, true_implies, and_self, reduceCtorEq, Nat.reduceBEq, Bool.or_false, Bool.false_or, Bool.or_true, Bool.true_or, if1_0, if1_1, if1_01, one_01, zer_01, lg_cmp_ge, lg_cmp_le, lg_cmp_gt, lg_cmp_lt, lg_cmp_eq, Classical.not_not, ↓im_T hq, ↓im_TN hq, hq]
      exact hk
    | succ m ih =>
      intro p hp hn
      have tp : (nI p).toInt = p := nI_toInt (by omega)
      have hq : (nI J - nI z < nI p) = False := eq_false (by ((try simp only [i_le, i_lt, i_eq, l_le, l_lt, l_eq, i_ne, l_ne, toL, l_add, l_sub1, LIT1, LIT2, Int.reduceNeg, ge_iff_le, gt_iff_lt] at *); omega))
      have fe : fpF sg r t rd z J p = alR (qF sg r t rd p) z := by unfold fpF; rw [decide_eq_true (by omega), Bool.true_and]
      refine hG (fun q => q == 13) 80 _ _ _ _ (Nat.le_of_ble_eq_true rfl) ?_
      simp only [D_X5_firstIn, N_X5_firstIn, ↓reduceIte, vcS, vcC, vcI, gtF, ptF, inS, inV, fv0, fv1, fv2, fv3, fw0, fw1, lg_0, lg_1, lg_2, lg_3, lg_4, lg_5, lg_6, lg_7, lg_8, lg_9, lg_10, lg_11, lg_12, lg_13, lg_14, lsq_0, lsl_0, lsq_1, lsl_1, lsq_2, lsl_2, lsq_3, lsl_3, lsq_4, lsl_4, lsq_5, lsl_5, lsq_6, lsl_6, lsq_7, lsl_7, lsq_8, lsl_8, lsq_9, lsl_9, lsq_10, lsl_10, lsq_11, lsl_11, lsq_12, lsl_12, lsq_13, lsl_13, lsq_14, lsl_14, tk_0, tk_1, tk_2, tk_3, tk_4, tk_5, tk_6, tk_7, tk_8, cs_n, cs_i, cs_l, cs_r, cs_u, nl, rt_s, rt_n, CST1, Nat.reduceAdd, Nat.reduceLeDiff, va_rf, rtOk, Bool.false_eq_true, Bool.true_eq_false, if_false, if_true, ite_true, ite_false, true_and, and_true, eq_self, ne_eq, not_false_eq_true, not_true_eq_false, false_implies, true_implies, and_self, reduceCtorEq, Nat.reduceBEq, Bool.or_false, Bool.false_or, Bool.or_true, Bool.true_or, if1_0, if1_1, if1_01, one_01, zer_01, lg_cmp_ge, lg_cmp_le, lg_cmp_gt, lg_cmp_lt, lg_cmp_eq, Classical.not_not, ↓im_F hq, ↓im_FN hq, hq, a1]
      refine ⟨by omega, c_isAt (r := r) (t := t) (by omega) a1 a2 a3 hz hz2 hc h1 h2 h3 h4 h5 hb (by omega) ?_⟩
      simp only [D_X5_firstIn, N_X5_firstIn, ↓reduceIte, vcS, vcC, vcI, gtF, ptF, inS, inV, fv0, fv1, fv2, fv3, fw0, fw1, lg_0, lg_1, lg_2, lg_3, lg_4, lg_5, lg_6, lg_7, lg_8, lg_9, lg_10, lg_11, lg_12, lg_13, lg_14, lsq_0, lsl_0, lsq_1, lsl_1, lsq_2, lsl_2, lsq_3, lsl_3, lsq_4, lsl_4, lsq_5, lsl_5, lsq_6, lsl_6, lsq_7, lsl_7, lsq_8, lsl_8, lsq_9, lsl_9, lsq_10, lsl_10, lsq_11, lsl_11, lsq_12, lsl_12, lsq_13, lsl_13, lsq_14, lsl_14, tk_0, tk_1, tk_2, tk_3, tk_4, tk_5, tk_6, tk_7, tk_8, cs_n, cs_i, cs_l, cs_r, cs_u, nl, rt_s, rt_n, CST1, Nat.reduceAdd, Nat.reduceLeDiff, va_rf, rtOk, Bool.false_eq_true, Bool.true_eq_false, if_false, if_true, ite_true, ite_false, true_and, and_true, eq_self, ne_eq, not_false_eq_true, not_true_eq_false, false_implies, true_implies, and_self, reduceCtorEq, Nat.reduceBEq, Bool.or_false, Bool.false_or, Bool.or_true, Bool.true_or, if1_0, if1_1, if1_01, one_01, zer_01, lg_cmp_ge, lg_cmp_le, lg_cmp_gt, lg_cmp_lt, lg_cmp_eq, Classical.not_not, nI_1]
      refine ⟨fun g => ?_, fun g => ?_⟩
      · refine ih (p + 1) (by omega) (fun j hj => ?_)
        by_cases q : j = p
        · rw [q, fe, ← Bool.not_eq_true]; exact g
        · exact hn j (by omega)
      · rw [fvF, fs_is J 0 (Nat.zero_le p) (by omega) (by rw [fe]; exact g) (fun u _ h => hn u h), if_pos (by omega)] at hk
        exact hk
  exact lo (J + 1 - z) 0 (by omega) (fun j hj => absurd hj (by omega))
-- the reference
set_option maxHeartbeats 4000000 in
set_option maxRecDepth 100000 in
theorem m_doesFit {r t p z J : Nat} {rd : Int32} (hS : Sh mu ro) (hd : 1 ≤ d) (hr : r < 8) (ht : t < 8) (hz : sg 63 r = nI z) (hz2 : 1 ≤ z ∧ z ≤ 6) (hc : ∀ k, k < z → i_bw (sg 64 (6 * r + k)) (-1) 127) (hb : ∀ p, p < 79 → i_by (sg 59 (80 * t + p))) (hp : p < J) (hJ : J ≤ 79) (hk : K (some (.int (if fpF sg r t rd z J p = true then 1 else 0))) sg) : aCall d 188 [.ref 48, .int (nI r), .int (nI t), .int rd, .int (nI p), .int (nI J)] n mu ro sg K := by
  have er : (nI r).toNatClampNeg = r := nI_clamp (by omega)
  have vr : vp_in (nI r) 8 := vp_in_nI hr (by decide)
  refine aCall_start (mL := 9) (cc := cX12_doesFit) (o := 12) (ret := (some .boolean)) 3 (by decide) (by decide +kernel) rfl rfl rfl rfl (Nat.le_of_ble_eq_true rfl) (fun G hC hG => ?_)
  simp only [exL, List.cons_append, List.nil_append, rp_0, rp_1, rp_2, rp_3, rp_4, rp_5, rp_6, rp_7, rp_8, rp_9, rp_10, rp_11, List.append_nil]
  have fal : fpF sg r t rd z J p = false → ∀ (k : Nat) (v : Value), k ≤ z → AW G 9 n 0 0 mu ro sg 24 [.ref 48, .int (nI r), .int (nI t), .int rd, .int (nI p), .int (nI J), .int 0, .int (nI k), v] [] := by
    intro g k v hkz
    rw [g, if_neg (by decide)] at hk
    by_cases q : z ≤ k
    · have hq : (nI z ≤ nI k) = True := eq_true (nI_le q (by omega))
      refine hG (fun q => q == 24) 80 _ _ _ _ (Nat.le_of_ble_eq_true rfl) ?_
      simp only [D_X12_doesFit, N_X12_doesFit, ↓reduceIte, vcS, vcC, vcI, gtF, ptF, inS, inV, fv0, fv1, fv2, fv3, fw0, fw1, lg_0, lg_1, lg_2, lg_3, lg_4, lg_5, lg_6, lg_7, lg_8, lg_9, lg_10, lg_11, lg_12, lg_13, lg_14, lsq_0, lsl_0, lsq_1, lsl_1, lsq_2, lsl_2, lsq_3, lsl_3, lsq_4, lsl_4, lsq_5, lsl_5, lsq_6, lsl_6, lsq_7, lsl_7, lsq_8, lsl_8, lsq_9, lsl_9, lsq_10, lsl_10, lsq_11, lsl_11, lsq_12, lsl_12, lsq_13, lsl_13, lsq_14, lsl_14, tk_0, tk_1, tk_2, tk_3, tk_4, tk_5, tk_6, tk_7, tk_8, cs_n, cs_i, cs_l, cs_r, cs_u, nl, rt_s, rt_n, CST1, Nat.reduceAdd, Nat.reduceLeDiff, va_rf, rtOk, Bool.false_eq_true, Bool.true_eq_false, if_false, if_true, ite_true, ite_false, true_and, and_true, eq_self, ne_eq, not_false_eq_true, not_true_eq_false, false_implies, true_implies, and_self, reduceCtorEq, Nat.reduceBEq, Bool.or_false, Bool.false_or, Bool.or_true, Bool.true_or, if1_0, if1_1, if1_01, one_01, zer_01, lg_cmp_ge, lg_cmp_le, lg_cmp_gt, lg_cmp_lt, lg_cmp_eq, Classical.not_not, SHm hS, SHr hS, er, vr, hz, ↓im_T hq, ↓im_TN hq, hq]
      exact hk
    · have hq : (nI z ≤ nI k) = False := eq_false (nI_ge (by omega) (by omega))
      refine hG (fun q => q == 24) 80 _ _ _ _ (Nat.le_of_ble_eq_true rfl) ?_
      simp only [D_X12_doesFit, N_X12_doesFit, ↓reduceIte, vcS, vcC, vcI, gtF, ptF, inS, inV, fv0, fv1, fv2, fv3, fw0, fw1, lg_0, lg_1, lg_2, lg_3, lg_4, lg_5, lg_6, lg_7, lg_8, lg_9, lg_10, lg_11, lg_12, lg_13, lg_14, lsq_0, lsl_0, lsq_1, lsl_1, lsq_2, lsl_2, lsq_3, lsl_3, lsq_4, lsl_4, lsq_5, lsl_5, lsq_6, lsl_6, lsq_7, lsl_7, lsq_8, lsl_8, lsq_9, lsl_9, lsq_10, lsl_10, lsq_11, lsl_11, lsq_12, lsl_12, lsq_13, lsl_13, lsq_14, lsl_14, tk_0, tk_1, tk_2, tk_3, tk_4, tk_5, tk_6, tk_7, tk_8, cs_n, cs_i, cs_l, cs_r, cs_u, nl, rt_s, rt_n, CST1, Nat.reduceAdd, Nat.reduceLeDiff, va_rf, rtOk, Bool.false_eq_true, Bool.true_eq_false, if_false, if_true, ite_true, ite_false, true_and, and_true, eq_self, ne_eq, not_false_eq_true, not_true_eq_false, false_implies, true_implies, and_self, reduceCtorEq, Nat.reduceBEq, Bool.or_false, Bool.false_or, Bool.or_true, Bool.true_or, if1_0, if1_1, if1_01, one_01, zer_01, lg_cmp_ge, lg_cmp_le, lg_cmp_gt, lg_cmp_lt, lg_cmp_eq, Classical.not_not, SHm hS, SHr hS, er, vr, hz, ↓im_F hq, ↓im_FN hq, hq]
      exact hk
  by_cases h0 : p + z ≤ J
  · have fe : fpF sg r t rd z J p = alR (qF sg r t rd p) z := by unfold fpF; rw [decide_eq_true h0, Bool.true_and]
    rw [fe] at hk fal
    have lo : ∀ (m k : Nat) (v : Value), k + m = z → alR (qF sg r t rd p) k = true → AW G 9 n 0 0 mu ro sg 24 [.ref 48, .int (nI r), .int (nI t), .int rd, .int (nI p), .int (nI J), .int 1, .int (nI k), v] [] := by
      intro m
      induction m with
      | zero =>
        intro k v hk2 ha
        have hq : (nI z ≤ nI k) = True := eq_true (nI_le (by omega) (by omega))
        have : k = z := by omega
        subst this
        rw [if_pos ha] at hk
        refine hG (fun q => q == 24) 80 _ _ _ _ (Nat.le_of_ble_eq_true rfl) ?_
        simp only [D_X12_doesFit, N_X12_doesFit, ↓reduceIte, vcS, vcC, vcI, gtF, ptF, inS, inV, fv0, fv1, fv2, fv3, fw0, fw1, lg_0, lg_1, lg_2, lg_3, lg_4, lg_5, lg_6, lg_7, lg_8, lg_9, lg_10, lg_11, lg_12, lg_13, lg_14, lsq_0, lsl_0, lsq_1, lsl_1, lsq_2, lsl_2, lsq_3, lsl_3, lsq_4, lsl_4, lsq_5, lsl_5, lsq_6, lsl_6, lsq_7, lsl_7, lsq_8, lsl_8, lsq_9, lsl_9, lsq_10, lsl_10, lsq_11, lsl_11, lsq_12, lsl_12, lsq_13, lsl_13, lsq_14, lsl_14, tk_0, tk_1, tk_2, tk_3, tk_4, tk_5, tk_6, tk_7, tk_8, cs_n, cs_i, cs_l, cs_r, cs_u, nl, rt_s, rt_n, CST1, Nat.reduceAdd, Nat.reduceLeDiff, va_rf, rtOk, Bool.false_eq_true, Bool.true_eq_false, if_false, if_true, ite_true, ite_false, true_and, and_true, eq_self, ne_eq, not_false_eq_true, not_true_eq_false, false_implies, true_implies, and_self, reduceCtorEq, Nat.reduceBEq, Bool.or_false, Bool.false_or, Bool.or_true, Bool.true_or, if1_0, if1_1, if1_01, one_01, zer_01, lg_cmp_ge, lg_cmp_le, lg_cmp_gt, lg_cmp_lt, lg_cmp_eq, Classical.not_not, SHm hS, SHr hS, er, vr, hz, ↓im_T hq, ↓im_TN hq, hq]
        exact hk
      | succ m ih =>
        intro k v hk2 ha
        have hq : (nI z ≤ nI k) = False := eq_false (nI_ge (by omega) (by omega))
        have ei : (nI (6 * r + k)).toNatClampNeg = 6 * r + k := nI_clamp (by omega)
        have vi : vp_in (nI (6 * r + k)) 48 := vp_in_nI (by omega) (by decide)
        obtain ⟨c1, c2⟩ := hc k (by omega)
        have cc : (sg 64 (6 * r + k) < 0) = (sg 64 (6 * r + k) = -1) := propext ⟨fun z => by ((try simp only [i_le, i_lt, i_eq, l_le, l_lt, l_eq, i_ne, l_ne, toL, l_add, l_sub1, LIT1, LIT2, Int.reduceNeg, ge_iff_le, gt_iff_lt] at *); omega), fun z => by rw [z]; decide⟩
        have yes : qF sg r t rd p k = true → ∀ v, AW G 9 n 0 0 mu ro sg 24 [.ref 48, .int (nI r), .int (nI t), .int rd, .int (nI p), .int (nI J), .int 1, .int (nI (k + 1)), v] [] := fun g v => ih (k + 1) v (by omega) (by rw [alR, ha, g]; rfl)
        refine hG (fun q => q == 24) 80 _ _ _ _ (Nat.le_of_ble_eq_true rfl) ?_
        simp only [D_X12_doesFit, N_X12_doesFit, ↓reduceIte, vcS, vcC, vcI, gtF, ptF, inS, inV, fv0, fv1, fv2, fv3, fw0, fw1, lg_0, lg_1, lg_2, lg_3, lg_4, lg_5, lg_6, lg_7, lg_8, lg_9, lg_10, lg_11, lg_12, lg_13, lg_14, lsq_0, lsl_0, lsq_1, lsl_1, lsq_2, lsl_2, lsq_3, lsl_3, lsq_4, lsl_4, lsq_5, lsl_5, lsq_6, lsl_6, lsq_7, lsl_7, lsq_8, lsl_8, lsq_9, lsl_9, lsq_10, lsl_10, lsq_11, lsl_11, lsq_12, lsl_12, lsq_13, lsl_13, lsq_14, lsl_14, tk_0, tk_1, tk_2, tk_3, tk_4, tk_5, tk_6, tk_7, tk_8, cs_n, cs_i, cs_l, cs_r, cs_u, nl, rt_s, rt_n, CST1, Nat.reduceAdd, Nat.reduceLeDiff, va_rf, rtOk, Bool.false_eq_true, Bool.true_eq_false, if_false, if_true, ite_true, ite_false, true_and, and_true, eq_self, ne_eq, not_false_eq_true, not_true_eq_false, false_implies, true_implies, and_self, reduceCtorEq, Nat.reduceBEq, Bool.or_false, Bool.false_or, Bool.or_true, Bool.true_or, if1_0, if1_1, if1_01, one_01, zer_01, lg_cmp_ge, lg_cmp_le, lg_cmp_gt, lg_cmp_lt, lg_cmp_eq, Classical.not_not, SHm hS, SHr hS, er, vr, hz, ↓im_F hq, ↓im_FN hq, hq, z10, ml6, nI_add, ei, vi, cc, nI_1]
        refine ⟨fun g => yes (by rw [qF_t]; exact Or.inl g) _, fun g => ⟨hd, m_byteAt hS ht (by omega) (hb _ (by omega)) ?_⟩⟩
        simp only [D_X12_doesFit, N_X12_doesFit, ↓reduceIte, vcS, vcC, vcI, gtF, ptF, inS, inV, fv0, fv1, fv2, fv3, fw0, fw1, lg_0, lg_1, lg_2, lg_3, lg_4, lg_5, lg_6, lg_7, lg_8, lg_9, lg_10, lg_11, lg_12, lg_13, lg_14, lsq_0, lsl_0, lsq_1, lsl_1, lsq_2, lsl_2, lsq_3, lsl_3, lsq_4, lsl_4, lsq_5, lsl_5, lsq_6, lsl_6, lsq_7, lsl_7, lsq_8, lsl_8, lsq_9, lsl_9, lsq_10, lsl_10, lsq_11, lsl_11, lsq_12, lsl_12, lsq_13, lsl_13, lsq_14, lsl_14, tk_0, tk_1, tk_2, tk_3, tk_4, tk_5, tk_6, tk_7, tk_8, cs_n, cs_i, cs_l, cs_r, cs_u, nl, rt_s, rt_n, CST1, Nat.reduceAdd, Nat.reduceLeDiff, va_rf, rtOk, Bool.false_eq_true, Bool.true_eq_false, if_false, if_true, ite_true, ite_false, true_and, and_true, eq_self, ne_eq, not_false_eq_true, not_true_eq_false, false_implies, true_implies, and_self, reduceCtorEq, Nat.reduceBEq, Bool.or_false, Bool.false_or, Bool.or_true, Bool.true_or, if1_0, if1_1, if1_01, one_01, zer_01, lg_cmp_ge, lg_cmp_le, lg_cmp_gt, lg_cmp_lt, lg_cmp_eq, Classical.not_not, SHm hS, SHr hS, nI_1]
        refine ⟨fun g2 => fal (al_f (k := k) (by rw [← Bool.not_eq_true, qF_t]; exact fun y => y.elim g (fun y => g2 y.symm)) z (by omega)) (k + 1) _ (by omega), fun g2 => yes (by rw [qF_t]; exact Or.inr g2.symm) _⟩
    have hq : (nI J < nI (p + z)) = False := eq_false (nI_nlt h0 (by omega))
    refine hG (fun q => q == 24) 80 _ _ _ _ (Nat.le_of_ble_eq_true rfl) ?_
    simp only [D_X12_doesFit, N_X12_doesFit, ↓reduceIte, vcS, vcC, vcI, gtF, ptF, inS, inV, fv0, fv1, fv2, fv3, fw0, fw1, lg_0, lg_1, lg_2, lg_3, lg_4, lg_5, lg_6, lg_7, lg_8, lg_9, lg_10, lg_11, lg_12, lg_13, lg_14, lsq_0, lsl_0, lsq_1, lsl_1, lsq_2, lsl_2, lsq_3, lsl_3, lsq_4, lsl_4, lsq_5, lsl_5, lsq_6, lsl_6, lsq_7, lsl_7, lsq_8, lsl_8, lsq_9, lsl_9, lsq_10, lsl_10, lsq_11, lsl_11, lsq_12, lsl_12, lsq_13, lsl_13, lsq_14, lsl_14, tk_0, tk_1, tk_2, tk_3, tk_4, tk_5, tk_6, tk_7, tk_8, cs_n, cs_i, cs_l, cs_r, cs_u, nl, rt_s, rt_n, CST1, Nat.reduceAdd, Nat.reduceLeDiff, va_rf, rtOk, Bool.false_eq_true, Bool.true_eq_false, if_false, if_true, ite_true, ite_false, true_and, and_true, eq_self, ne_eq, not_false_eq_true, not_true_eq_false, false_implies, true_implies, and_self, reduceCtorEq, Nat.reduceBEq, Bool.or_false, Bool.false_or, Bool.or_true, Bool.true_or, if1_0, if1_1, if1_01, one_01, zer_01, lg_cmp_ge, lg_cmp_le, lg_cmp_gt, lg_cmp_lt, lg_cmp_eq, Classical.not_not, SHm hS, SHr hS, er, vr, hz, nI_add, ↓im_F hq, ↓im_FN hq, hq]
    exact lo z 0 _ (by omega) rfl
  · have hq : (nI J < nI (p + z)) = True := eq_true (nI_lt (by omega) (by omega))
    refine hG (fun q => q == 24) 80 _ _ _ _ (Nat.le_of_ble_eq_true rfl) ?_
    simp only [D_X12_doesFit, N_X12_doesFit, ↓reduceIte, vcS, vcC, vcI, gtF, ptF, inS, inV, fv0, fv1, fv2, fv3, fw0, fw1, lg_0, lg_1, lg_2, lg_3, lg_4, lg_5, lg_6, lg_7, lg_8, lg_9, lg_10, lg_11, lg_12, lg_13, lg_14, lsq_0, lsl_0, lsq_1, lsl_1, lsq_2, lsl_2, lsq_3, lsl_3, lsq_4, lsl_4, lsq_5, lsl_5, lsq_6, lsl_6, lsq_7, lsl_7, lsq_8, lsl_8, lsq_9, lsl_9, lsq_10, lsl_10, lsq_11, lsl_11, lsq_12, lsl_12, lsq_13, lsl_13, lsq_14, lsl_14, tk_0, tk_1, tk_2, tk_3, tk_4, tk_5, tk_6, tk_7, tk_8, cs_n, cs_i, cs_l, cs_r, cs_u, nl, rt_s, rt_n, CST1, Nat.reduceAdd, Nat.reduceLeDiff, va_rf, rtOk, Bool.false_eq_true, Bool.true_eq_false, if_false, if_true, ite_true, ite_false, true_and, and_true, eq_self, ne_eq, not_false_eq_true, not_true_eq_false, false_implies, true_implies, and_self, reduceCtorEq, Nat.reduceBEq, Bool.or_false, Bool.false_or, Bool.or_true, Bool.true_or, if1_0, if1_1, if1_01, one_01, zer_01, lg_cmp_ge, lg_cmp_le, lg_cmp_gt, lg_cmp_lt, lg_cmp_eq, Classical.not_not, SHm hS, SHr hS, er, vr, hz, nI_add, ↓im_T hq, ↓im_TN hq, hq]
    exact fal (fp_M (by omega)) 0 _ (by omega)
theorem m1_eq {i : Nat} : nI i + (-1) = nI i - 1 := by
  cases i with
  | zero => decide
  | succ i => rw [pk_m1, nI_pred]
set_option maxHeartbeats 4000000 in
set_option maxRecDepth 100000 in
theorem m_fitsOf {r t z J : Nat} {rd y : Int32} {g : Nat → Bool} (hS : Sh mu ro) (hd : 2 ≤ d) (hr : r < 8) (ht : t < 8) (hz : sg 63 r = nI z) (hz2 : 1 ≤ z ∧ z ≤ 6) (hc : ∀ k, k < z → i_bw (sg 64 (6 * r + k)) (-1) 127) (hb : ∀ p, p < 79 → i_by (sg 59 (80 * t + p))) (hg : ∀ p, p < 79 → (sg 58 (80 * t + p) < 0) = (g p = true)) (hJ : fsG g 79 0 = J) (hJ2 : J ≤ 79) (hk : K (some (.int (if y = 0 then nI (cntB (fpF sg r t rd z J) J) else fvF (fpF sg r t rd z J) J J 0))) sg) : aCall d 189 [.ref 48, .int (nI r), .int (nI t), .int rd, .int y] n mu ro sg K := by
  have ec := cu_c (p := fpF sg r t rd z J) J 0
  rw [Nat.zero_add] at ec
  rw [ec] at hk
  have ec0 : cntB (fpF sg r t rd z J) 0 = 0 := rfl
  rw [ec0, Nat.zero_add] at hk
  refine aCall_start (mL := 9) (cc := cX12_fitsOf) (o := 12) (ret := (some .int)) 4 (by decide) (by decide +kernel) rfl rfl rfl rfl (Nat.le_of_ble_eq_true rfl) (fun G hC hG => ?_)
  simp only [exL, List.cons_append, List.nil_append, rp_0, rp_1, rp_2, rp_3, rp_4, rp_5, rp_6, rp_7, rp_8, rp_9, rp_10, rp_11, List.append_nil]
  have lo : ∀ (i : Nat), i ≤ J → AW G 9 n 0 0 mu ro sg 20 [.ref 48, .int (nI r), .int (nI t), .int rd, .int y, .int (nI J), .int (nI (cuB (fpF sg r t rd z J) (J - i) i)), .int (fvF (fpF sg r t rd z J) J (J - i) i), .int (nI i - 1)] [] := by
    intro i
    induction i with
    | zero =>
      intro _
      have hq : (nI 0 - 1 < (0 : Int32)) = True := eq_true (by decide)
      refine hG (fun q => q == 20) 80 _ _ _ _ (Nat.le_of_ble_eq_true rfl) ?_
      simp only [D_X12_fitsOf, N_X12_fitsOf, ↓reduceIte, vcS, vcC, vcI, gtF, ptF, inS, inV, fv0, fv1, fv2, fv3, fw0, fw1, lg_0, lg_1, lg_2, lg_3, lg_4, lg_5, lg_6, lg_7, lg_8, lg_9, lg_10, lg_11, lg_12, lg_13, lg_14, lsq_0, lsl_0, lsq_1, lsl_1, lsq_2, lsl_2, lsq_3, lsl_3, lsq_4, lsl_4, lsq_5, lsl_5, lsq_6, lsl_6, lsq_7, lsl_7, lsq_8, lsl_8, lsq_9, lsl_9, lsq_10, lsl_10, lsq_11, lsl_11, lsq_12, lsl_12, lsq_13, lsl_13, lsq_14, lsl_14, tk_0, tk_1, tk_2, tk_3, tk_4, tk_5, tk_6, tk_7, tk_8, cs_n, cs_i, cs_l, cs_r, cs_u, nl, rt_s, rt_n, CST1, Nat.reduceAdd, Nat.reduceLeDiff, va_rf, rtOk, Bool.false_eq_true, Bool.true_eq_false, if_false, if_true, ite_true, ite_false, true_and, and_true, eq_self, ne_eq, not_false_eq_true, not_true_eq_false, false_implies, true_implies, and_self, reduceCtorEq, Nat.reduceBEq, Bool.or_false, Bool.false_or, Bool.or_true, Bool.true_or, if1_0, if1_1, if1_01, one_01, zer_01, lg_cmp_ge, lg_cmp_le, lg_cmp_gt, lg_cmp_lt, lg_cmp_eq, Classical.not_not, ↓im_T hq, ↓im_TN hq, hq, Nat.sub_zero]
      refine ⟨fun g => ?_, fun g => ?_⟩
      · rw [if_neg g] at hk; exact hk
      · rw [if_pos g] at hk; exact hk
    | succ i ih =>
      intro hi
      have h0 := ih (by omega)
      rw [show J - i = J - (i + 1) + 1 by omega, cuB, fvF, fsG] at h0
      have hq : (nI i < (0 : Int32)) = False := nI_lt0 (by omega)
      rw [nI_pred]
      refine hG (fun q => q == 20) 80 _ _ _ _ (Nat.le_of_ble_eq_true rfl) ?_
      simp only [D_X12_fitsOf, N_X12_fitsOf, ↓reduceIte, vcS, vcC, vcI, gtF, ptF, inS, inV, fv0, fv1, fv2, fv3, fw0, fw1, lg_0, lg_1, lg_2, lg_3, lg_4, lg_5, lg_6, lg_7, lg_8, lg_9, lg_10, lg_11, lg_12, lg_13, lg_14, lsq_0, lsl_0, lsq_1, lsl_1, lsq_2, lsl_2, lsq_3, lsl_3, lsq_4, lsl_4, lsq_5, lsl_5, lsq_6, lsl_6, lsq_7, lsl_7, lsq_8, lsl_8, lsq_9, lsl_9, lsq_10, lsl_10, lsq_11, lsl_11, lsq_12, lsl_12, lsq_13, lsl_13, lsq_14, lsl_14, tk_0, tk_1, tk_2, tk_3, tk_4, tk_5, tk_6, tk_7, tk_8, cs_n, cs_i, cs_l, cs_r, cs_u, nl, rt_s, rt_n, CST1, Nat.reduceAdd, Nat.reduceLeDiff, va_rf, rtOk, Bool.false_eq_true, Bool.true_eq_false, if_false, if_true, ite_true, ite_false, true_and, and_true, eq_self, ne_eq, not_false_eq_true, not_true_eq_false, false_implies, true_implies, and_self, reduceCtorEq, Nat.reduceBEq, Bool.or_false, Bool.false_or, Bool.or_true, Bool.true_or, if1_0, if1_1, if1_01, one_01, zer_01, lg_cmp_ge, lg_cmp_le, lg_cmp_gt, lg_cmp_lt, lg_cmp_eq, Classical.not_not, ↓im_F hq, ↓im_FN hq, hq, SHm hS, SHr hS]
      refine ⟨by omega, m_doesFit hS (by omega) hr ht hz hz2 hc hb (by omega) hJ2 ?_⟩
      simp only [D_X12_fitsOf, N_X12_fitsOf, ↓reduceIte, vcS, vcC, vcI, gtF, ptF, inS, inV, fv0, fv1, fv2, fv3, fw0, fw1, lg_0, lg_1, lg_2, lg_3, lg_4, lg_5, lg_6, lg_7, lg_8, lg_9, lg_10, lg_11, lg_12, lg_13, lg_14, lsq_0, lsl_0, lsq_1, lsl_1, lsq_2, lsl_2, lsq_3, lsl_3, lsq_4, lsl_4, lsq_5, lsl_5, lsq_6, lsl_6, lsq_7, lsl_7, lsq_8, lsl_8, lsq_9, lsl_9, lsq_10, lsl_10, lsq_11, lsl_11, lsq_12, lsl_12, lsq_13, lsl_13, lsq_14, lsl_14, tk_0, tk_1, tk_2, tk_3, tk_4, tk_5, tk_6, tk_7, tk_8, cs_n, cs_i, cs_l, cs_r, cs_u, nl, rt_s, rt_n, CST1, Nat.reduceAdd, Nat.reduceLeDiff, va_rf, rtOk, Bool.false_eq_true, Bool.true_eq_false, if_false, if_true, ite_true, ite_false, true_and, and_true, eq_self, ne_eq, not_false_eq_true, not_true_eq_false, false_implies, true_implies, and_self, reduceCtorEq, Nat.reduceBEq, Bool.or_false, Bool.false_or, Bool.or_true, Bool.true_or, if1_0, if1_1, if1_01, one_01, zer_01, lg_cmp_ge, lg_cmp_le, lg_cmp_gt, lg_cmp_lt, lg_cmp_eq, Classical.not_not, SHm hS, SHr hS, nI_1, m1_eq]
      refine ⟨fun g => ?_, fun g => ?_⟩
      · rw [if_neg g, if_neg g, Nat.add_zero] at h0
        exact h0
      · rw [if_pos g, if_pos g, if_pos (by omega)] at h0
        exact h0
  refine hG (fun q => q == 20) 80 _ _ _ _ (Nat.le_of_ble_eq_true rfl) ?_
  simp only [D_X12_fitsOf, N_X12_fitsOf, ↓reduceIte, vcS, vcC, vcI, gtF, ptF, inS, inV, fv0, fv1, fv2, fv3, fw0, fw1, lg_0, lg_1, lg_2, lg_3, lg_4, lg_5, lg_6, lg_7, lg_8, lg_9, lg_10, lg_11, lg_12, lg_13, lg_14, lsq_0, lsl_0, lsq_1, lsl_1, lsq_2, lsl_2, lsq_3, lsl_3, lsq_4, lsl_4, lsq_5, lsl_5, lsq_6, lsl_6, lsq_7, lsl_7, lsq_8, lsl_8, lsq_9, lsl_9, lsq_10, lsl_10, lsq_11, lsl_11, lsq_12, lsl_12, lsq_13, lsl_13, lsq_14, lsl_14, tk_0, tk_1, tk_2, tk_3, tk_4, tk_5, tk_6, tk_7, tk_8, cs_n, cs_i, cs_l, cs_r, cs_u, nl, rt_s, rt_n, CST1, Nat.reduceAdd, Nat.reduceLeDiff, va_rf, rtOk, Bool.false_eq_true, Bool.true_eq_false, if_false, if_true, ite_true, ite_false, true_and, and_true, eq_self, ne_eq, not_false_eq_true, not_true_eq_false, false_implies, true_implies, and_self, reduceCtorEq, Nat.reduceBEq, Bool.or_false, Bool.false_or, Bool.or_true, Bool.true_or, if1_0, if1_1, if1_01, one_01, zer_01, lg_cmp_ge, lg_cmp_le, lg_cmp_gt, lg_cmp_lt, lg_cmp_eq, Classical.not_not, SHm hS, SHr hS]
  refine ⟨by omega, m_joinedOf hS ht hg ?_⟩
  rw [hJ]
  simp only [D_X12_fitsOf, N_X12_fitsOf, ↓reduceIte, vcS, vcC, vcI, gtF, ptF, inS, inV, fv0, fv1, fv2, fv3, fw0, fw1, lg_0, lg_1, lg_2, lg_3, lg_4, lg_5, lg_6, lg_7, lg_8, lg_9, lg_10, lg_11, lg_12, lg_13, lg_14, lsq_0, lsl_0, lsq_1, lsl_1, lsq_2, lsl_2, lsq_3, lsl_3, lsq_4, lsl_4, lsq_5, lsl_5, lsq_6, lsl_6, lsq_7, lsl_7, lsq_8, lsl_8, lsq_9, lsl_9, lsq_10, lsl_10, lsq_11, lsl_11, lsq_12, lsl_12, lsq_13, lsl_13, lsq_14, lsl_14, tk_0, tk_1, tk_2, tk_3, tk_4, tk_5, tk_6, tk_7, tk_8, cs_n, cs_i, cs_l, cs_r, cs_u, nl, rt_s, rt_n, CST1, Nat.reduceAdd, Nat.reduceLeDiff, va_rf, rtOk, Bool.false_eq_true, Bool.true_eq_false, if_false, if_true, ite_true, ite_false, true_and, and_true, eq_self, ne_eq, not_false_eq_true, not_true_eq_false, false_implies, true_implies, and_self, reduceCtorEq, Nat.reduceBEq, Bool.or_false, Bool.false_or, Bool.or_true, Bool.true_or, if1_0, if1_1, if1_01, one_01, zer_01, lg_cmp_ge, lg_cmp_le, lg_cmp_gt, lg_cmp_lt, lg_cmp_eq, Classical.not_not, SHm hS, SHr hS]
  have := lo J (Nat.le_refl J)
  rw [Nat.sub_self, cuB, fvF, fsG, if_neg (by omega)] at this
  exact this
end H60
