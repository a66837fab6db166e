/-! part 47: the class's questions to the net: open roads, reach -/
section H47
variable {d n N : Nat} {mu : aM} {ro : aR} {sg : aS} {K : Option Value → aS → Prop} {R P : Nat → Nat → Bool} {D : Nat} {dA dB : Nat → Nat} {S T : Nat → Bool}
def clB (dA dB : Nat → Nat) (T : Nat → Bool) (a b : Nat) : Nat → Bool
  | 0 => false
  | e + 1 => clB dA dB T a b e || (T e && decide ((dA e = a ∧ dB e = b) ∨ (dA e = b ∧ dB e = a)))
theorem cl_t {a b : Nat} : ∀ D, clB dA dB T a b D = true ↔ ∃ e, e < D ∧ T e = true ∧ prD dA dB e a b
  | 0 => ⟨fun h => absurd h (by simp [clB]), fun ⟨_, h, _⟩ => absurd h (by omega)⟩
  | D + 1 => by
    rw [clB, Bool.or_eq_true, cl_t D, Bool.and_eq_true, decide_eq_true_iff]
    constructor
    · rintro (⟨e, h1, h2, h3⟩ | ⟨h1, h2⟩)
      · exact ⟨e, by omega, h2, h3⟩
      · exact ⟨D, by omega, h1, h2⟩
    · rintro ⟨e, h1, h2, h3⟩
      by_cases q : e = D
      · subst q; exact Or.inr ⟨h2, h3⟩
      · exact Or.inl ⟨e, by omega, h2, h3⟩
theorem cl_c {a b : Nat} : clB dA dB T a b D = clB dA dB T b a D := by
  rw [Bool.eq_iff_iff, cl_t, cl_t]
  exact ⟨fun ⟨e, h1, h2, h3⟩ => ⟨e, h1, h2, prD_c h3⟩, fun ⟨e, h1, h2, h3⟩ => ⟨e, h1, h2, prD_c h3⟩⟩
theorem cl_cg {T' : Nat → Bool} {a b : Nat} (h : ∀ e, e < D → T e = T' e) : clB dA dB T a b D = clB dA dB T' a b D := by
  rw [Bool.eq_iff_iff, cl_t, cl_t]
  exact ⟨fun ⟨e, h1, h2, h3⟩ => ⟨e, h1, by rw [← h e h1]; exact h2, h3⟩, fun ⟨e, h1, h2, h3⟩ => ⟨e, h1, by rw [h e h1]; exact h2, h3⟩⟩
/-- the roads that can be gone -/
def opE (R P : Nat → Nat → Bool) (D : Nat) (dA dB : Nat → Nat) (T : Nat → Bool) (bl : Bool) (a b : Nat) : Bool := R a b && !clB dA dB T a b D && !(bl && P a b)
theorem op_c {a b : Nat} {bl : Bool} (h : Nt R P D dA dB S) (ha : a < 10) (hb : b < 10) : opE R P D dA dB T bl a b = opE R P D dA dB T bl b a := by
  unfold opE
  rw [h.2.1 a b ha hb, h.2.2.2.1 a b ha hb, cl_c]
set_option maxHeartbeats 4000000 in
set_option maxRecDepth 100000 in
theorem c_openRoads {x : Int32} {T2 : Nat → Bool} (hS : Sh mu ro) (hN : Nt R P D dA dB S) (hX : C_nt sg R P D dA dB S) (hx : rwO x 8 T2) (hk : ∀ σ, (∀ a, a < 10 → rwO (σ 6 a) 10 (opE R P D dA dB (fun e => S e || T2 e) false a)) → (∀ a k, a ≠ 6 → σ a k = sg a k) → K none σ) : aCall d 31 [.ref 1, .int x] n mu ro sg K := by
  obtain ⟨x1, x2, x3, x4, x5, x6⟩ := hX
  have hD8 := hN.1
  have hcl := rw_or x5 hx
  refine aCall_start (mL := 4) (cc := cX4_openRoads) (o := 4) (ret := none) 2 (by decide) (by decide +kernel) rfl rfl rfl rfl (Nat.le_of_ble_eq_true rfl) (fun G hC hG => ?_)
  simp only [exL, List.cons_append, List.nil_append, rp_0, rp_1, rp_2, rp_3, rp_4, rp_5, rp_6, rp_7, rp_8, rp_9, rp_10, rp_11, List.append_nil]
  have lo2 : ∀ (m e : Nat) (σ : aS), e + m = D → (∀ a k, a ≠ 6 → σ a k = sg a k) → (∀ a, a < 10 → rwO (σ 6 a) 10 (fun b => R a b && !clB dA dB (fun e => S e || T2 e) a b e)) → AW G 4 n 0 0 mu ro σ 35 [.ref 1, .int x, .int (sg 1 10 ||| x), .int (nI e)] [] := by
    intro m
    induction m with
    | zero =>
      intro e σ he hF hR
      have hD : σ 1 9 = nI D := by rw [hF 1 9 (by decide)]; exact x3
      have hq : (nI D ≤ nI e) = True := eq_true (nI_le (by omega) (by omega))
      have : e = D := by omega
      subst this
      refine hG (fun q => q == 2 || q == 35) 80 _ _ _ _ (Nat.le_of_ble_eq_true rfl) ?_
      simp only [D_X4_openRoads, ↓reduceIte, vcS, vcC, vcI, gtF, ptF, inS, inV, fv0, fv1, fv2, fv3, fw0, fw1, lg_0, lg_1, lg_2, lg_3, lg_4, lg_5, lg_6, lg_7, lg_8, lg_9, lg_10, lg_11, lg_12, lg_13, lg_14, lsq_0, lsl_0, lsq_1, lsl_1, lsq_2, lsl_2, lsq_3, lsl_3, lsq_4, lsl_4, lsq_5, lsl_5, lsq_6, lsl_6, lsq_7, lsl_7, lsq_8, lsl_8, lsq_9, lsl_9, lsq_10, lsl_10, lsq_11, lsl_11, lsq_12, lsl_12, lsq_13, lsl_13, lsq_14, lsl_14, tk_0, tk_1, tk_2, tk_3, tk_4, tk_5, tk_6, tk_7, tk_8, cs_n, cs_i, cs_l, cs_r, cs_u, nl, rt_s, rt_n, CST1, Nat.reduceAdd, Nat.reduceLeDiff, va_rf, rtOk, Bool.false_eq_true, Bool.true_eq_false, if_false, if_true, ite_true, ite_false, true_and, and_true, eq_self, ne_eq, not_false_eq_true, not_true_eq_false, false_implies, true_implies, and_self, reduceCtorEq, Nat.reduceBEq, Bool.or_false, Bool.false_or, Bool.or_true, Bool.true_or, if1_0, if1_1, if1_01, one_01, zer_01, lg_cmp_ge, lg_cmp_le, lg_cmp_gt, lg_cmp_lt, lg_cmp_eq, Classical.not_not, SHm hS, SHr hS, hD, ↓im_T hq, ↓im_TN hq, hq]
      refine hk σ (fun a ha => rw_cg (hR a ha) (fun j hj => ?_)) hF
      unfold opE
      rw [Bool.false_and, Bool.not_false, Bool.and_true]
    | succ m ih =>
      intro e σ he hF hR
      have hD : σ 1 9 = nI D := by rw [hF 1 9 (by decide)]; exact x3
      have hq : (nI D ≤ nI e) = False := eq_false (nI_ge (by omega) (by omega))
      have ee : (nI e).toNatClampNeg = e := nI_clamp (by omega)
      have ve : vp_in (nI e) 8 := vp_in_nI (by omega) (by decide)
      obtain ⟨u1, u2, u3⟩ := hN.2.2.2.2.2.1 e (by omega)
      have y1 : σ 4 e = nI (dA e) := by rw [hF 4 e (by decide)]; exact (x4 e (by omega)).1
      have y2 : σ 5 e = nI (dB e) := by rw [hF 5 e (by decide)]; exact (x4 e (by omega)).2
      have ea : (nI (dA e)).toNatClampNeg = dA e := nI_clamp (by omega)
      have va : vp_in (nI (dA e)) 10 := vp_in_nI (by omega) (by decide)
      have eb : (nI (dB e)).toNatClampNeg = dB e := nI_clamp (by omega)
      have vb : vp_in (nI (dB e)) 10 := vp_in_nI (by omega) (by decide)
      have r1 : ∀ v, s2 σ 6 (dA e) v 4 e = nI (dA e) := fun v => by rw [s2_n (by omega)]; exact y1
      have r2 : ∀ v, s2 σ 6 (dA e) v 5 e = nI (dB e) := fun v => by rw [s2_n (by omega)]; exact y2
      have r3 : ∀ v, s2 σ 6 (dA e) v 6 (dB e) = σ 6 (dB e) := fun v => s2_n (by omega)
      have hbt := rw_bt hcl (show e < 8 by omega) (by omega)
      refine hG (fun q => q == 2 || q == 35) 80 _ _ _ _ (Nat.le_of_ble_eq_true rfl) ?_
      simp only [D_X4_openRoads, ↓reduceIte, vcS, vcC, vcI, gtF, ptF, inS, inV, fv0, fv1, fv2, fv3, fw0, fw1, lg_0, lg_1, lg_2, lg_3, lg_4, lg_5, lg_6, lg_7, lg_8, lg_9, lg_10, lg_11, lg_12, lg_13, lg_14, lsq_0, lsl_0, lsq_1, lsl_1, lsq_2, lsl_2, lsq_3, lsl_3, lsq_4, lsl_4, lsq_5, lsl_5, lsq_6, lsl_6, lsq_7, lsl_7, lsq_8, lsl_8, lsq_9, lsl_9, lsq_10, lsl_10, lsq_11, lsl_11, lsq_12, lsl_12, lsq_13, lsl_13, lsq_14, lsl_14, tk_0, tk_1, tk_2, tk_3, tk_4, tk_5, tk_6, tk_7, tk_8, cs_n, cs_i, cs_l, cs_r, cs_u, nl, rt_s, rt_n, CST1, Nat.reduceAdd, Nat.reduceLeDiff, va_rf, rtOk, Bool.false_eq_true, Bool.true_eq_false, if_false, if_true, ite_true, ite_false, true_and, and_true, eq_self, ne_eq, not_false_eq_true, not_true_eq_false, false_implies, true_implies, and_self, reduceCtorEq, Nat.reduceBEq, Bool.or_false, Bool.false_or, Bool.or_true, Bool.true_or, if1_0, if1_1, if1_01, one_01, zer_01, lg_cmp_ge, lg_cmp_le, lg_cmp_gt, lg_cmp_lt, lg_cmp_eq, Classical.not_not, SHm hS, SHr hS, hD, ↓im_F hq, ↓im_FN hq, hq, bt_ne, hbt, ee, ve, y1, y2, ea, va, eb, vb, r1, r2, r3, nI_1]
      refine ⟨fun q => ?_, fun q => ?_⟩
      · refine ih (e + 1) σ (by omega) hF (fun a ha => rw_cg (hR a ha) (fun j hj => ?_))
        have q' : (S e || T2 e) = false := by
          cases z : (S e || T2 e) with
          | false => rfl
          | true => exact absurd z q
        simp only [clB, q', Bool.false_and, Bool.or_false]
      · refine ih (e + 1) _ (by omega) (fun a k h => by rw [s2_n (by omega), s2_n (by omega)]; exact hF a k h) (fun a ha => ?_)
        have q' : (S e || T2 e) = true := q
        by_cases h1 : a = dA e
        · subst h1
          rw [s2_n (by omega), s2_y ⟨rfl, rfl⟩]
          refine rw_cg (rw_an (hR _ u1) (rw_bit u2 (by omega))) (fun j hj => ?_)
          show (R (dA e) j && !clB dA dB (fun e => S e || T2 e) (dA e) j e && !decide (j = dB e)) = (R (dA e) j && !(clB dA dB (fun e => S e || T2 e) (dA e) j e || ((S e || T2 e) && decide ((dA e = dA e ∧ dB e = j) ∨ (dA e = j ∧ dB e = dA e)))))
          rw [q', Bool.true_and]
          have : (decide ((dA e = dA e ∧ dB e = j) ∨ (dA e = j ∧ dB e = dA e))) = decide (j = dB e) := by
            apply decide_eq_decide.mpr
            omega
          rw [this]
          cases R (dA e) j <;> cases clB dA dB (fun e => S e || T2 e) (dA e) j e <;> cases decide (j = dB e) <;> rfl
        · by_cases h2 : a = dB e
          · subst h2
            rw [s2_y ⟨rfl, rfl⟩]
            refine rw_cg (rw_an (hR _ u2) (rw_bit u1 (by omega))) (fun j hj => ?_)
            show (R (dB e) j && !clB dA dB (fun e => S e || T2 e) (dB e) j e && !decide (j = dA e)) = (R (dB e) j && !(clB dA dB (fun e => S e || T2 e) (dB e) j e || ((S e || T2 e) && decide ((dA e = dB e ∧ dB e = j) ∨ (dA e = j ∧ dB e = dB e)))))
            rw [q', Bool.true_and]
            have : (decide ((dA e = dB e ∧ dB e = j) ∨ (dA e = j ∧ dB e = dB e))) = decide (j = dA e) := by
              apply decide_eq_decide.mpr
              omega
            rw [this]
            cases R (dB e) j <;> cases clB dA dB (fun e => S e || T2 e) (dB e) j e <;> cases decide (j = dA e) <;> rfl
          · rw [s2_n (by omega), s2_n (by omega)]
            refine rw_cg (hR a ha) (fun j hj => ?_)
            simp only [clB, q', Bool.true_and]
            rw [decide_eq_false (show ¬ ((dA e = a ∧ dB e = j) ∨ (dA e = j ∧ dB e = a)) by omega), Bool.or_false]
  have lo1 : ∀ (m i : Nat) (v : Value), i + m = 10 → AW G 4 n 0 0 mu ro (rgS sg 6 0 i (sg 2)) 2 [.ref 1, .int x, .int (nI i), v] [] := by
    intro m
    induction m with
    | zero =>
      intro i v hi
      have hc : (10 ≤ nI i) = True := eq_true (by have := nI_toInt (n := i) (by omega); ((try simp only [i_le, i_lt, i_eq, l_le, l_lt, l_eq, i_ne, l_ne, toL, l_add, l_sub1, LIT1, LIT2, Int.reduceNeg, ge_iff_le, gt_iff_lt] at *); omega))
      have r1 : rgS sg 6 0 i (sg 2) 1 10 = sg 1 10 := rg_n (by omega)
      refine hG (fun q => q == 2 || q == 35) 80 _ _ _ _ (Nat.le_of_ble_eq_true rfl) ?_
      simp only [D_X4_openRoads, ↓reduceIte, vcS, vcC, vcI, gtF, ptF, inS, inV, fv0, fv1, fv2, fv3, fw0, fw1, lg_0, lg_1, lg_2, lg_3, lg_4, lg_5, lg_6, lg_7, lg_8, lg_9, lg_10, lg_11, lg_12, lg_13, lg_14, lsq_0, lsl_0, lsq_1, lsl_1, lsq_2, lsl_2, lsq_3, lsl_3, lsq_4, lsl_4, lsq_5, lsl_5, lsq_6, lsl_6, lsq_7, lsl_7, lsq_8, lsl_8, lsq_9, lsl_9, lsq_10, lsl_10, lsq_11, lsl_11, lsq_12, lsl_12, lsq_13, lsl_13, lsq_14, lsl_14, tk_0, tk_1, tk_2, tk_3, tk_4, tk_5, tk_6, tk_7, tk_8, cs_n, cs_i, cs_l, cs_r, cs_u, nl, rt_s, rt_n, CST1, Nat.reduceAdd, Nat.reduceLeDiff, va_rf, rtOk, Bool.false_eq_true, Bool.true_eq_false, if_false, if_true, ite_true, ite_false, true_and, and_true, eq_self, ne_eq, not_false_eq_true, not_true_eq_false, false_implies, true_implies, and_self, reduceCtorEq, Nat.reduceBEq, Bool.or_false, Bool.false_or, Bool.or_true, Bool.true_or, if1_0, if1_1, if1_01, one_01, zer_01, lg_cmp_ge, lg_cmp_le, lg_cmp_gt, lg_cmp_lt, lg_cmp_eq, Classical.not_not, SHm hS, SHr hS, ↓im_T hc, ↓im_TN hc, hc, r1]
      refine lo2 D 0 _ (by omega) (fun a k h => rg_n (by omega)) (fun a ha => ?_)
      rw [rg_y ⟨rfl, by omega, by omega⟩, Nat.sub_zero]
      exact rw_cg (x1 a ha) (fun j hj => by simp only [clB, Bool.not_false, Bool.and_true])
    | succ m ih =>
      intro i v hi
      have hc : (10 ≤ nI i) = False := eq_false (by have := nI_toInt (n := i) (by omega); ((try simp only [i_le, i_lt, i_eq, l_le, l_lt, l_eq, i_ne, l_ne, toL, l_add, l_sub1, LIT1, LIT2, Int.reduceNeg, ge_iff_le, gt_iff_lt] at *); omega))
      have ei : (nI i).toNatClampNeg = i := nI_clamp (by omega)
      have vi : vp_in (nI i) 10 := vp_in_nI (by omega) (by decide)
      have h0 := ih (i + 1) v (by omega)
      rw [← rg_s (j := i) (x := rgS sg 6 0 i (sg 2) 2 i) (by omega) (rg_n (by omega))] at h0
      refine hG (fun q => q == 2 || q == 35) 80 _ _ _ _ (Nat.le_of_ble_eq_true rfl) ?_
      simp only [D_X4_openRoads, ↓reduceIte, vcS, vcC, vcI, gtF, ptF, inS, inV, fv0, fv1, fv2, fv3, fw0, fw1, lg_0, lg_1, lg_2, lg_3, lg_4, lg_5, lg_6, lg_7, lg_8, lg_9, lg_10, lg_11, lg_12, lg_13, lg_14, lsq_0, lsl_0, lsq_1, lsl_1, lsq_2, lsl_2, lsq_3, lsl_3, lsq_4, lsl_4, lsq_5, lsl_5, lsq_6, lsl_6, lsq_7, lsl_7, lsq_8, lsl_8, lsq_9, lsl_9, lsq_10, lsl_10, lsq_11, lsl_11, lsq_12, lsl_12, lsq_13, lsl_13, lsq_14, lsl_14, tk_0, tk_1, tk_2, tk_3, tk_4, tk_5, tk_6, tk_7, tk_8, cs_n, cs_i, cs_l, cs_r, cs_u, nl, rt_s, rt_n, CST1, Nat.reduceAdd, Nat.reduceLeDiff, va_rf, rtOk, Bool.false_eq_true, Bool.true_eq_false, if_false, if_true, ite_true, ite_false, true_and, and_true, eq_self, ne_eq, not_false_eq_true, not_true_eq_false, false_implies, true_implies, and_self, reduceCtorEq, Nat.reduceBEq, Bool.or_false, Bool.false_or, Bool.or_true, Bool.true_or, if1_0, if1_1, if1_01, one_01, zer_01, lg_cmp_ge, lg_cmp_le, lg_cmp_gt, lg_cmp_lt, lg_cmp_eq, Classical.not_not, SHm hS, SHr hS, ↓im_F hc, ↓im_FN hc, hc, ei, vi, nI_1]
      exact h0
  refine hG (fun q => q == 2 || q == 35) 80 _ _ _ _ (Nat.le_of_ble_eq_true rfl) ?_
  simp only [D_X4_openRoads, ↓reduceIte, vcS, vcC, vcI, gtF, ptF, inS, inV, fv0, fv1, fv2, fv3, fw0, fw1, lg_0, lg_1, lg_2, lg_3, lg_4, lg_5, lg_6, lg_7, lg_8, lg_9, lg_10, lg_11, lg_12, lg_13, lg_14, lsq_0, lsl_0, lsq_1, lsl_1, lsq_2, lsl_2, lsq_3, lsl_3, lsq_4, lsl_4, lsq_5, lsl_5, lsq_6, lsl_6, lsq_7, lsl_7, lsq_8, lsl_8, lsq_9, lsl_9, lsq_10, lsl_10, lsq_11, lsl_11, lsq_12, lsl_12, lsq_13, lsl_13, lsq_14, lsl_14, tk_0, tk_1, tk_2, tk_3, tk_4, tk_5, tk_6, tk_7, tk_8, cs_n, cs_i, cs_l, cs_r, cs_u, nl, rt_s, rt_n, CST1, Nat.reduceAdd, Nat.reduceLeDiff, va_rf, rtOk, Bool.false_eq_true, Bool.true_eq_false, if_false, if_true, ite_true, ite_false, true_and, and_true, eq_self, ne_eq, not_false_eq_true, not_true_eq_false, false_implies, true_implies, and_self, reduceCtorEq, Nat.reduceBEq, Bool.or_false, Bool.false_or, Bool.or_true, Bool.true_or, if1_0, if1_1, if1_01, one_01, zer_01, lg_cmp_ge, lg_cmp_le, lg_cmp_gt, lg_cmp_lt, lg_cmp_eq, Classical.not_not]
  have := lo1 10 0 (.float 0) (by omega)
  rw [rg_0] at this
  exact this
set_option maxHeartbeats 4000000 in
set_option maxRecDepth 100000 in
theorem c_leavePosts {f : Nat → Nat → Bool} (hS : Sh mu ro) (hf : ∀ a, a < 10 → rwO (sg 6 a) 10 (f a)) (hp : ∀ a, a < 10 → rwO (sg 3 a) 10 (P a)) (hk : ∀ σ, (∀ a, a < 10 → rwO (σ 6 a) 10 (fun b => f a b && !P a b)) → (∀ a k, a ≠ 6 → σ a k = sg a k) → K none σ) : aCall d 32 [.ref 1] n mu ro sg K := by
  refine aCall_start (mL := 2) (cc := cX4_leavePosts) (o := 4) (ret := none) 1 (by decide) (by decide +kernel) rfl rfl rfl rfl (Nat.le_of_ble_eq_true rfl) (fun G hC hG => ?_)
  simp only [exL, List.cons_append, List.nil_append, rp_0, rp_1, rp_2, rp_3, rp_4, rp_5, rp_6, rp_7, rp_8, rp_9, rp_10, rp_11, List.append_nil]
  have lo1 : ∀ (m i : Nat), i + m = 10 → AW G 2 n 0 0 mu ro (rgS sg 6 0 i (fun a => sg 6 a &&& (sg 3 a ^^^ -1))) 2 [.ref 1, .int (nI i)] [] := by
    intro m
    induction m with
    | zero =>
      intro i hi
      have hc : (10 ≤ nI i) = True := eq_true (by have := nI_toInt (n := i) (by omega); ((try simp only [i_le, i_lt, i_eq, l_le, l_lt, l_eq, i_ne, l_ne, toL, l_add, l_sub1, LIT1, LIT2, Int.reduceNeg, ge_iff_le, gt_iff_lt] at *); omega))
      refine hG (fun q => q == 2) 80 _ _ _ _ (Nat.le_of_ble_eq_true rfl) ?_
      simp only [D_X4_leavePosts, ↓reduceIte, vcS, vcC, vcI, gtF, ptF, inS, inV, fv0, fv1, fv2, fv3, fw0, fw1, lg_0, lg_1, lg_2, lg_3, lg_4, lg_5, lg_6, lg_7, lg_8, lg_9, lg_10, lg_11, lg_12, lg_13, lg_14, lsq_0, lsl_0, lsq_1, lsl_1, lsq_2, lsl_2, lsq_3, lsl_3, lsq_4, lsl_4, lsq_5, lsl_5, lsq_6, lsl_6, lsq_7, lsl_7, lsq_8, lsl_8, lsq_9, lsl_9, lsq_10, lsl_10, lsq_11, lsl_11, lsq_12, lsl_12, lsq_13, lsl_13, lsq_14, lsl_14, tk_0, tk_1, tk_2, tk_3, tk_4, tk_5, tk_6, tk_7, tk_8, cs_n, cs_i, cs_l, cs_r, cs_u, nl, rt_s, rt_n, CST1, Nat.reduceAdd, Nat.reduceLeDiff, va_rf, rtOk, Bool.false_eq_true, Bool.true_eq_false, if_false, if_true, ite_true, ite_false, true_and, and_true, eq_self, ne_eq, not_false_eq_true, not_true_eq_false, false_implies, true_implies, and_self, reduceCtorEq, Nat.reduceBEq, Bool.or_false, Bool.false_or, Bool.or_true, Bool.true_or, if1_0, if1_1, if1_01, one_01, zer_01, lg_cmp_ge, lg_cmp_le, lg_cmp_gt, lg_cmp_lt, lg_cmp_eq, Classical.not_not, SHm hS, SHr hS, ↓im_T hc, ↓im_TN hc, hc]
      refine hk _ (fun a ha => ?_) (fun a k h => rg_n (by omega))
      rw [rg_y ⟨rfl, by omega, by omega⟩, Nat.sub_zero]
      exact rw_an (hf a ha) (hp a ha)
    | succ m ih =>
      intro i hi
      have hc : (10 ≤ nI i) = False := eq_false (by have := nI_toInt (n := i) (by omega); ((try simp only [i_le, i_lt, i_eq, l_le, l_lt, l_eq, i_ne, l_ne, toL, l_add, l_sub1, LIT1, LIT2, Int.reduceNeg, ge_iff_le, gt_iff_lt] at *); omega))
      have ei : (nI i).toNatClampNeg = i := nI_clamp (by omega)
      have vi : vp_in (nI i) 10 := vp_in_nI (by omega) (by decide)
      have h0 := ih (i + 1) (by omega)
      rw [← rg_s (j := i) (x := sg 6 i &&& (sg 3 i ^^^ -1)) (by omega) rfl] at h0
      have r1 : rgS sg 6 0 i (fun a => sg 6 a &&& (sg 3 a ^^^ -1)) 6 i = sg 6 i := rg_n (by omega)
      have r2 : rgS sg 6 0 i (fun a => sg 6 a &&& (sg 3 a ^^^ -1)) 3 i = sg 3 i := rg_n (by omega)
      refine hG (fun q => q == 2) 80 _ _ _ _ (Nat.le_of_ble_eq_true rfl) ?_
      simp only [D_X4_leavePosts, ↓reduceIte, vcS, vcC, vcI, gtF, ptF, inS, inV, fv0, fv1, fv2, fv3, fw0, fw1, lg_0, lg_1, lg_2, lg_3, lg_4, lg_5, lg_6, lg_7, lg_8, lg_9, lg_10, lg_11, lg_12, lg_13, lg_14, lsq_0, lsl_0, lsq_1, lsl_1, lsq_2, lsl_2, lsq_3, lsl_3, lsq_4, lsl_4, lsq_5, lsl_5, lsq_6, lsl_6, lsq_7, lsl_7, lsq_8, lsl_8, lsq_9, lsl_9, lsq_10, lsl_10, lsq_11, lsl_11, lsq_12, lsl_12, lsq_13, lsl_13, lsq_14, lsl_14, tk_0, tk_1, tk_2, tk_3, tk_4, tk_5, tk_6, tk_7, tk_8, cs_n, cs_i, cs_l, cs_r, cs_u, nl, rt_s, rt_n, CST1, Nat.reduceAdd, Nat.reduceLeDiff, va_rf, rtOk, Bool.false_eq_true, Bool.true_eq_false, if_false, if_true, ite_true, ite_false, true_and, and_true, eq_self, ne_eq, not_false_eq_true, not_true_eq_false, false_implies, true_implies, and_self, reduceCtorEq, Nat.reduceBEq, Bool.or_false, Bool.false_or, Bool.or_true, Bool.true_or, if1_0, if1_1, if1_01, one_01, zer_01, lg_cmp_ge, lg_cmp_le, lg_cmp_gt, lg_cmp_lt, lg_cmp_eq, Classical.not_not, SHm hS, SHr hS, ↓im_F hc, ↓im_FN hc, hc, ei, vi, r1, r2, nI_1]
      exact h0
  refine hG (fun q => q == 2) 80 _ _ _ _ (Nat.le_of_ble_eq_true rfl) ?_
  simp only [D_X4_leavePosts, ↓reduceIte, vcS, vcC, vcI, gtF, ptF, inS, inV, fv0, fv1, fv2, fv3, fw0, fw1, lg_0, lg_1, lg_2, lg_3, lg_4, lg_5, lg_6, lg_7, lg_8, lg_9, lg_10, lg_11, lg_12, lg_13, lg_14, lsq_0, lsl_0, lsq_1, lsl_1, lsq_2, lsl_2, lsq_3, lsl_3, lsq_4, lsl_4, lsq_5, lsl_5, lsq_6, lsl_6, lsq_7, lsl_7, lsq_8, lsl_8, lsq_9, lsl_9, lsq_10, lsl_10, lsq_11, lsl_11, lsq_12, lsl_12, lsq_13, lsl_13, lsq_14, lsl_14, tk_0, tk_1, tk_2, tk_3, tk_4, tk_5, tk_6, tk_7, tk_8, cs_n, cs_i, cs_l, cs_r, cs_u, nl, rt_s, rt_n, CST1, Nat.reduceAdd, Nat.reduceLeDiff, va_rf, rtOk, Bool.false_eq_true, Bool.true_eq_false, if_false, if_true, ite_true, ite_false, true_and, and_true, eq_self, ne_eq, not_false_eq_true, not_true_eq_false, false_implies, true_implies, and_self, reduceCtorEq, Nat.reduceBEq, Bool.or_false, Bool.false_or, Bool.or_true, Bool.true_or, if1_0, if1_1, if1_01, one_01, zer_01, lg_cmp_ge, lg_cmp_le, lg_cmp_gt, lg_cmp_lt, lg_cmp_eq, Classical.not_not]
  have := lo1 10 0 (by omega)
  rw [rg_0] at this
  exact this
set_option maxHeartbeats 4000000 in
set_option maxRecDepth 100000 in
theorem c_reach {w : Int32} {E : Nat → Nat → Bool} {A : Nat → Bool} (hS : Sh mu ro) (hE : ∀ a, a < 10 → rwO (sg 6 a) 10 (E a)) (hw : rwO w 10 A) (hk : ∀ v, rwO v 10 (stB E A 10) → K (some (.int v)) sg) : aCall d 33 [.ref 1, .int w] n mu ro sg K := by
  refine aCall_start (mL := 7) (cc := cX4_reach) (o := 4) (ret := (some .int)) 5 (by decide) (by decide +kernel) rfl rfl rfl rfl (Nat.le_of_ble_eq_true rfl) (fun G hC hG => ?_)
  simp only [exL, List.cons_append, List.nil_append, rp_0, rp_1, rp_2, rp_3, rp_4, rp_5, rp_6, rp_7, rp_8, rp_9, rp_10, rp_11, List.append_nil]
  have lo : ∀ (m r : Nat) (u f : Int32) (F : Nat → Bool) (v5 v6 : Value), r + m = 10 → rwO u 10 (stB E A r) → rwO f 10 F → frI E A F r → AW G 7 n 0 0 mu ro sg 7 [.ref 1, .int w, .int u, .int f, .int (nI r), v5, v6] [] := by
    intro m
    induction m with
    | zero =>
      intro r u f F v5 v6 hr hu hf hI
      have hc : (10 ≤ nI r) = True := eq_true (by have := nI_toInt (n := r) (by omega); ((try simp only [i_le, i_lt, i_eq, l_le, l_lt, l_eq, i_ne, l_ne, toL, l_add, l_sub1, LIT1, LIT2, Int.reduceNeg, ge_iff_le, gt_iff_lt] at *); omega))
      have : r = 10 := by omega
      subst this
      refine hG (fun q => q == 7 || q == 24) 80 _ _ _ _ (Nat.le_of_ble_eq_true rfl) ?_
      simp only [D_X4_reach, ↓reduceIte, vcS, vcC, vcI, gtF, ptF, inS, inV, fv0, fv1, fv2, fv3, fw0, fw1, lg_0, lg_1, lg_2, lg_3, lg_4, lg_5, lg_6, lg_7, lg_8, lg_9, lg_10, lg_11, lg_12, lg_13, lg_14, lsq_0, lsl_0, lsq_1, lsl_1, lsq_2, lsl_2, lsq_3, lsl_3, lsq_4, lsl_4, lsq_5, lsl_5, lsq_6, lsl_6, lsq_7, lsl_7, lsq_8, lsl_8, lsq_9, lsl_9, lsq_10, lsl_10, lsq_11, lsl_11, lsq_12, lsl_12, lsq_13, lsl_13, lsq_14, lsl_14, tk_0, tk_1, tk_2, tk_3, tk_4, tk_5, tk_6, tk_7, tk_8, cs_n, cs_i, cs_l, cs_r, cs_u, nl, rt_s, rt_n, CST1, Nat.reduceAdd, Nat.reduceLeDiff, va_rf, rtOk, Bool.false_eq_true, Bool.true_eq_false, if_false, if_true, ite_true, ite_false, true_and, and_true, eq_self, ne_eq, not_false_eq_true, not_true_eq_false, false_implies, true_implies, and_self, reduceCtorEq, Nat.reduceBEq, Bool.or_false, Bool.false_or, Bool.or_true, Bool.true_or, if1_0, if1_1, if1_01, one_01, zer_01, lg_cmp_ge, lg_cmp_le, lg_cmp_gt, lg_cmp_lt, lg_cmp_eq, Classical.not_not, ↓im_T hc, ↓im_TN hc, hc]
      exact hk u hu
    | succ m ih =>
      intro r u f F v5 v6 hr hu hf hI
      have hc : (10 ≤ nI r) = False := eq_false (by have := nI_toInt (n := r) (by omega); ((try simp only [i_le, i_lt, i_eq, l_le, l_lt, l_eq, i_ne, l_ne, toL, l_add, l_sub1, LIT1, LIT2, Int.reduceNeg, ge_iff_le, gt_iff_lt] at *); omega))
      have inn : ∀ (mm y : Nat) (g : Int32), y + mm = 10 → rwO g 10 (fun x => anB (fun z => F z && E z x) y) → AW G 7 n 0 0 mu ro sg 24 [.ref 1, .int w, .int u, .int f, .int (nI r), .int g, .int (nI y)] [] := by
        intro mm
        induction mm with
        | zero =>
          intro y g hy hg
          have hc2 : (10 ≤ nI y) = True := eq_true (by have := nI_toInt (n := y) (by omega); ((try simp only [i_le, i_lt, i_eq, l_le, l_lt, l_eq, i_ne, l_ne, toL, l_add, l_sub1, LIT1, LIT2, Int.reduceNeg, ge_iff_le, gt_iff_lt] at *); omega))
          have : y = 10 := by omega
          subst this
          obtain ⟨k1, k2⟩ := fr_s hI
          refine hG (fun q => q == 7 || q == 24) 80 _ _ _ _ (Nat.le_of_ble_eq_true rfl) ?_
          simp only [D_X4_reach, ↓reduceIte, vcS, vcC, vcI, gtF, ptF, inS, inV, fv0, fv1, fv2, fv3, fw0, fw1, lg_0, lg_1, lg_2, lg_3, lg_4, lg_5, lg_6, lg_7, lg_8, lg_9, lg_10, lg_11, lg_12, lg_13, lg_14, lsq_0, lsl_0, lsq_1, lsl_1, lsq_2, lsl_2, lsq_3, lsl_3, lsq_4, lsl_4, lsq_5, lsl_5, lsq_6, lsl_6, lsq_7, lsl_7, lsq_8, lsl_8, lsq_9, lsl_9, lsq_10, lsl_10, lsq_11, lsl_11, lsq_12, lsl_12, lsq_13, lsl_13, lsq_14, lsl_14, tk_0, tk_1, tk_2, tk_3, tk_4, tk_5, tk_6, tk_7, tk_8, cs_n, cs_i, cs_l, cs_r, cs_u, nl, rt_s, rt_n, CST1, Nat.reduceAdd, Nat.reduceLeDiff, va_rf, rtOk, Bool.false_eq_true, Bool.true_eq_false, if_false, if_true, ite_true, ite_false, true_and, and_true, eq_self, ne_eq, not_false_eq_true, not_true_eq_false, false_implies, true_implies, and_self, reduceCtorEq, Nat.reduceBEq, Bool.or_false, Bool.false_or, Bool.or_true, Bool.true_or, if1_0, if1_1, if1_01, one_01, zer_01, lg_cmp_ge, lg_cmp_le, lg_cmp_gt, lg_cmp_lt, lg_cmp_eq, Classical.not_not, ↓im_T hc2, ↓im_TN hc2, hc2, nI_1]
          exact ih (r + 1) _ _ _ _ _ (by omega) (rw_cg (rw_or hu hg) k1) (rw_an hg hu) k2
        | succ mm ih2 =>
          intro y g hy hg
          have hc2 : (10 ≤ nI y) = False := eq_false (by have := nI_toInt (n := y) (by omega); ((try simp only [i_le, i_lt, i_eq, l_le, l_lt, l_eq, i_ne, l_ne, toL, l_add, l_sub1, LIT1, LIT2, Int.reduceNeg, ge_iff_le, gt_iff_lt] at *); omega))
          have ey : (nI y).toNatClampNeg = y := nI_clamp (by omega)
          have vy : vp_in (nI y) 10 := vp_in_nI (by omega) (by decide)
          have hbt := rw_bt hf (show y < 10 by omega) (by omega)
          refine hG (fun q => q == 7 || q == 24) 80 _ _ _ _ (Nat.le_of_ble_eq_true rfl) ?_
          simp only [D_X4_reach, ↓reduceIte, vcS, vcC, vcI, gtF, ptF, inS, inV, fv0, fv1, fv2, fv3, fw0, fw1, lg_0, lg_1, lg_2, lg_3, lg_4, lg_5, lg_6, lg_7, lg_8, lg_9, lg_10, lg_11, lg_12, lg_13, lg_14, lsq_0, lsl_0, lsq_1, lsl_1, lsq_2, lsl_2, lsq_3, lsl_3, lsq_4, lsl_4, lsq_5, lsl_5, lsq_6, lsl_6, lsq_7, lsl_7, lsq_8, lsl_8, lsq_9, lsl_9, lsq_10, lsl_10, lsq_11, lsl_11, lsq_12, lsl_12, lsq_13, lsl_13, lsq_14, lsl_14, tk_0, tk_1, tk_2, tk_3, tk_4, tk_5, tk_6, tk_7, tk_8, cs_n, cs_i, cs_l, cs_r, cs_u, nl, rt_s, rt_n, CST1, Nat.reduceAdd, Nat.reduceLeDiff, va_rf, rtOk, Bool.false_eq_true, Bool.true_eq_false, if_false, if_true, ite_true, ite_false, true_and, and_true, eq_self, ne_eq, not_false_eq_true, not_true_eq_false, false_implies, true_implies, and_self, reduceCtorEq, Nat.reduceBEq, Bool.or_false, Bool.false_or, Bool.or_true, Bool.true_or, if1_0, if1_1, if1_01, one_01, zer_01, lg_cmp_ge, lg_cmp_le, lg_cmp_gt, lg_cmp_lt, lg_cmp_eq, Classical.not_not, ↓im_F hc2, ↓im_FN hc2, hc2, bt_ne, hbt, SHm hS, SHr hS, ey, vy, nI_1]
          refine ⟨fun q => ?_, fun q => ?_⟩
          · refine ih2 (y + 1) g (by omega) (rw_cg hg (fun j hj => ?_))
            have q' : F y = false := by
              cases z : F y with
              | false => rfl
              | true => exact absurd z q
            rw [anB, q', Bool.false_and, Bool.or_false]
          · refine ih2 (y + 1) _ (by omega) (rw_cg (rw_or hg (hE y (by omega))) (fun j hj => ?_))
            rw [anB, q, Bool.true_and]
      by_cases h0 : f = 0
      · have hz : (f = 0) = True := eq_true h0
        refine hG (fun q => q == 7 || q == 24) 80 _ _ _ _ (Nat.le_of_ble_eq_true rfl) ?_
        simp only [D_X4_reach, ↓reduceIte, vcS, vcC, vcI, gtF, ptF, inS, inV, fv0, fv1, fv2, fv3, fw0, fw1, lg_0, lg_1, lg_2, lg_3, lg_4, lg_5, lg_6, lg_7, lg_8, lg_9, lg_10, lg_11, lg_12, lg_13, lg_14, lsq_0, lsl_0, lsq_1, lsl_1, lsq_2, lsl_2, lsq_3, lsl_3, lsq_4, lsl_4, lsq_5, lsl_5, lsq_6, lsl_6, lsq_7, lsl_7, lsq_8, lsl_8, lsq_9, lsl_9, lsq_10, lsl_10, lsq_11, lsl_11, lsq_12, lsl_12, lsq_13, lsl_13, lsq_14, lsl_14, tk_0, tk_1, tk_2, tk_3, tk_4, tk_5, tk_6, tk_7, tk_8, cs_n, cs_i, cs_l, cs_r, cs_u, nl, rt_s, rt_n, CST1, Nat.reduceAdd, Nat.reduceLeDiff, va_rf, rtOk, Bool.false_eq_true, Bool.true_eq_false, if_false, if_true, ite_true, ite_false, true_and, and_true, eq_self, ne_eq, not_false_eq_true, not_true_eq_false, false_implies, true_implies, and_self, reduceCtorEq, Nat.reduceBEq, Bool.or_false, Bool.false_or, Bool.or_true, Bool.true_or, if1_0, if1_1, if1_01, one_01, zer_01, lg_cmp_ge, lg_cmp_le, lg_cmp_gt, lg_cmp_lt, lg_cmp_eq, Classical.not_not, ↓im_F hc, ↓im_FN hc, hc, ↓im_T hz, ↓im_TN hz, hz]
        exact hk u (rw_cg hu (fr_e hI ((rw_z hf (by omega)).mp h0) (by omega)))
      · have hz : (f = 0) = False := eq_false h0
        refine hG (fun q => q == 7 || q == 24) 80 _ _ _ _ (Nat.le_of_ble_eq_true rfl) ?_
        simp only [D_X4_reach, ↓reduceIte, vcS, vcC, vcI, gtF, ptF, inS, inV, fv0, fv1, fv2, fv3, fw0, fw1, lg_0, lg_1, lg_2, lg_3, lg_4, lg_5, lg_6, lg_7, lg_8, lg_9, lg_10, lg_11, lg_12, lg_13, lg_14, lsq_0, lsl_0, lsq_1, lsl_1, lsq_2, lsl_2, lsq_3, lsl_3, lsq_4, lsl_4, lsq_5, lsl_5, lsq_6, lsl_6, lsq_7, lsl_7, lsq_8, lsl_8, lsq_9, lsl_9, lsq_10, lsl_10, lsq_11, lsl_11, lsq_12, lsl_12, lsq_13, lsl_13, lsq_14, lsl_14, tk_0, tk_1, tk_2, tk_3, tk_4, tk_5, tk_6, tk_7, tk_8, cs_n, cs_i, cs_l, cs_r, cs_u, nl, rt_s, rt_n, CST1, Nat.reduceAdd, Nat.reduceLeDiff, va_rf, rtOk, Bool.false_eq_true, Bool.true_eq_false, if_false, if_true, ite_true, ite_false, true_and, and_true, eq_self, ne_eq, not_false_eq_true, not_true_eq_false, false_implies, true_implies, and_self, reduceCtorEq, Nat.reduceBEq, Bool.or_false, Bool.false_or, Bool.or_true, Bool.true_or, if1_0, if1_1, if1_01, one_01, zer_01, lg_cmp_ge, lg_cmp_le, lg_cmp_gt, lg_cmp_lt, lg_cmp_eq, Classical.not_not, ↓im_F hc, ↓im_FN hc, hc, ↓im_F hz, ↓im_FN hz, hz]
        exact inn 10 0 0 (by omega) rw_0
  refine hG (fun q => q == 7 || q == 24) 80 _ _ _ _ (Nat.le_of_ble_eq_true rfl) ?_
  simp only [D_X4_reach, ↓reduceIte, vcS, vcC, vcI, gtF, ptF, inS, inV, fv0, fv1, fv2, fv3, fw0, fw1, lg_0, lg_1, lg_2, lg_3, lg_4, lg_5, lg_6, lg_7, lg_8, lg_9, lg_10, lg_11, lg_12, lg_13, lg_14, lsq_0, lsl_0, lsq_1, lsl_1, lsq_2, lsl_2, lsq_3, lsl_3, lsq_4, lsl_4, lsq_5, lsl_5, lsq_6, lsl_6, lsq_7, lsl_7, lsq_8, lsl_8, lsq_9, lsl_9, lsq_10, lsl_10, lsq_11, lsl_11, lsq_12, lsl_12, lsq_13, lsl_13, lsq_14, lsl_14, tk_0, tk_1, tk_2, tk_3, tk_4, tk_5, tk_6, tk_7, tk_8, cs_n, cs_i, cs_l, cs_r, cs_u, nl, rt_s, rt_n, CST1, Nat.reduceAdd, Nat.reduceLeDiff, va_rf, rtOk, Bool.false_eq_true, Bool.true_eq_false, if_false, if_true, ite_true, ite_false, true_and, and_true, eq_self, ne_eq, not_false_eq_true, not_true_eq_false, false_implies, true_implies, and_self, reduceCtorEq, Nat.reduceBEq, Bool.or_false, Bool.false_or, Bool.or_true, Bool.true_or, if1_0, if1_1, if1_01, one_01, zer_01, lg_cmp_ge, lg_cmp_le, lg_cmp_gt, lg_cmp_lt, lg_cmp_eq, Classical.not_not]
  exact lo 10 0 w w A _ _ (by omega) hw hw ⟨fun x hx h => h, fun y x _ _ q1 q2 _ => absurd q1 (by rw [show stB E A 0 y = A y from rfl, q2]; decide)⟩
set_option maxHeartbeats 4000000 in
set_option maxRecDepth 100000 in
theorem c_parts {w o : Int32} {E : Nat → Nat → Bool} {A B : Nat → Bool} (hS : Sh mu ro) (hd : 1 ≤ d) (hE : ∀ a, a < 10 → rwO (sg 6 a) 10 (E a)) (hw : rwO w 10 A) (ho : rwO o 10 B) (hk : K (some (.int (if anB (fun x => stB E A 10 x && B x) 10 = true then 0 else 1))) sg) : aCall d 34 [.ref 1, .int w, .int o] n mu ro sg K := by
  refine aCall_start (mL := 3) (cc := cX4_parts) (o := 4) (ret := (some .boolean)) 0 (by decide) (by decide +kernel) rfl rfl rfl rfl (Nat.le_of_ble_eq_true rfl) (fun G hC hG => ?_)
  simp only [exL, List.cons_append, List.nil_append, rp_0, rp_1, rp_2, rp_3, rp_4, rp_5, rp_6, rp_7, rp_8, rp_9, rp_10, rp_11, List.append_nil]
  refine hG (fun _ => false) 60 _ _ _ _ (Nat.le_of_ble_eq_true rfl) ?_
  simp only [D_X4_parts, N_X4_parts, ↓reduceIte, vcS, vcC, vcI, gtF, ptF, inS, inV, fv0, fv1, fv2, fv3, fw0, fw1, lg_0, lg_1, lg_2, lg_3, lg_4, lg_5, lg_6, lg_7, lg_8, lg_9, lg_10, lg_11, lg_12, lg_13, lg_14, lsq_0, lsl_0, lsq_1, lsl_1, lsq_2, lsl_2, lsq_3, lsl_3, lsq_4, lsl_4, lsq_5, lsl_5, lsq_6, lsl_6, lsq_7, lsl_7, lsq_8, lsl_8, lsq_9, lsl_9, lsq_10, lsl_10, lsq_11, lsl_11, lsq_12, lsl_12, lsq_13, lsl_13, lsq_14, lsl_14, tk_0, tk_1, tk_2, tk_3, tk_4, tk_5, tk_6, tk_7, tk_8, cs_n, cs_i, cs_l, cs_r, cs_u, nl, rt_s, rt_n, CST1, Nat.reduceAdd, Nat.reduceLeDiff, va_rf, rtOk, Bool.false_eq_true, Bool.true_eq_false, if_false, if_true, ite_true, ite_false, true_and, and_true, eq_self, ne_eq, not_false_eq_true, not_true_eq_false, false_implies, true_implies, and_self, reduceCtorEq, Nat.reduceBEq, Bool.or_false, Bool.false_or, Bool.or_true, Bool.true_or, if1_0, if1_1, if1_01, one_01, zer_01, lg_cmp_ge, lg_cmp_le, lg_cmp_gt, lg_cmp_lt, lg_cmp_eq, Classical.not_not, SHm hS, SHr hS]
  refine ⟨hd, c_reach hS hE hw (fun v hv => ?_)⟩
  have hz : (v &&& o = 0) = ¬ (anB (fun x => stB E A 10 x && B x) 10 = true) := by
    rw [propext (rw_z (rw_and hv ho) (by omega)), Bool.not_eq_true]
    exact propext anB_f.symm
  simp only [D_X4_parts, N_X4_parts, ↓reduceIte, vcS, vcC, vcI, gtF, ptF, inS, inV, fv0, fv1, fv2, fv3, fw0, fw1, lg_0, lg_1, lg_2, lg_3, lg_4, lg_5, lg_6, lg_7, lg_8, lg_9, lg_10, lg_11, lg_12, lg_13, lg_14, lsq_0, lsl_0, lsq_1, lsl_1, lsq_2, lsl_2, lsq_3, lsl_3, lsq_4, lsl_4, lsq_5, lsl_5, lsq_6, lsl_6, lsq_7, lsl_7, lsq_8, lsl_8, lsq_9, lsl_9, lsq_10, lsl_10, lsq_11, lsl_11, lsq_12, lsl_12, lsq_13, lsl_13, lsq_14, lsl_14, tk_0, tk_1, tk_2, tk_3, tk_4, tk_5, tk_6, tk_7, tk_8, cs_n, cs_i, cs_l, cs_r, cs_u, nl, rt_s, rt_n, CST1, Nat.reduceAdd, Nat.reduceLeDiff, va_rf, rtOk, Bool.false_eq_true, Bool.true_eq_false, if_false, if_true, ite_true, ite_false, true_and, and_true, eq_self, ne_eq, not_false_eq_true, not_true_eq_false, false_implies, true_implies, and_self, reduceCtorEq, Nat.reduceBEq, Bool.or_false, Bool.false_or, Bool.or_true, Bool.true_or, if1_0, if1_1, if1_01, one_01, zer_01, lg_cmp_ge, lg_cmp_le, lg_cmp_gt, lg_cmp_lt, lg_cmp_eq, Classical.not_not, SHm hS, SHr hS, hz]
  refine ⟨fun q => ?_, fun q => ?_⟩
  · rw [if_pos q] at hk; exact hk
  · rw [if_neg q] at hk; exact hk
end H47
