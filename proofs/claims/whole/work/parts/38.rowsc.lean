/-! part 38: rows, the class -/
section H38
variable {d n N : Nat} {mu : aM} {ro : aR} {sg : aS} {K : Option Value → aS → Prop}
/-- a state is come to by k signs, none of them barred -/
def RcP (L cb : Nat → Nat) (b : Int32) : Nat → Nat → Prop
  | 0, t => t = 0
  | k + 1, t => t ≠ 0 ∧ ∃ x, x < 64 ∧ L x = t ∧ RcP L cb b k (x / 4) ∧ okG cb b (x / 4) (x % 4)
theorem RP_uq {L cb : Nat → Nat} {b : Int32} (hT : Tre L cb N) : ∀ k k' t, RcP L cb b k t → RcP L cb b k' t → k = k'
  | 0, 0, _, _, _ => rfl
  | 0, k' + 1, t, h, h' => absurd h h'.1
  | k + 1, 0, t, h, h' => absurd h' h.1
  | k + 1, k' + 1, t, ⟨h0, x, x1, x2, x3, x4⟩, ⟨_, y, y1, y2, y3, y4⟩ => by
    have : x = y := hT.inj x y x1 y1 (by rw [x2]; exact h0) (by rw [x2, y2])
    subst this
    rw [RP_uq hT k k' _ x3 y3]
theorem RP_le {L cb : Nat → Nat} {b : Int32} (hT : Tre L cb N) : ∀ k t, RcP L cb b k t → k ≤ t
  | 0, _, _ => Nat.zero_le _
  | k + 1, t, ⟨h0, x, x1, x2, x3, x4⟩ => by
    have := RP_le hT k _ x3
    have := (hT.up x x1 (by rw [x2]; exact h0)).1
    omega
theorem RP_pa {L cb : Nat → Nat} {b : Int32} {k t : Nat} (h : RcP L cb b k t) (h0 : t ≠ 0) : ∃ x, x < 64 ∧ L x = t := by
  cases k with
  | zero => exact absurd h h0
  | succ k =>
    obtain ⟨-, x, x1, x2, -⟩ := h
    exact ⟨x, x1, x2⟩
noncomputable def RPb (L cb : Nat → Nat) (b : Int32) (k t : Nat) : Bool := @decide (RcP L cb b k t) (Classical.propDecidable _)
theorem RPb_t {L cb : Nat → Nat} {b : Int32} {k t : Nat} : RPb L cb b k t = true ↔ RcP L cb b k t := @decide_eq_true_iff _ (Classical.propDecidable _)
def InX (L : Nat → Nat) (t X : Nat) : Prop := t = 0 ∨ ∃ x, x < 64 ∧ L x = t ∧ x < X
def dpI (L cb : Nat → Nat) (b : Int32) (f : Nat → Int32) (X : Nat) : Prop := ∀ t, t < 16 → (∃ k, k < 16 ∧ f t = nI k ∧ RcP L cb b k t ∧ InX L t X) ∨ (f t = -9 ∧ ∀ k, RcP L cb b k t → ¬ InX L t X)
theorem dp_0 {L cb : Nat → Nat} {b : Int32} {f : Nat → Int32} (h0 : f 0 = 0) (h1 : ∀ t, t < 16 → t ≠ 0 → f t = -9) : dpI L cb b f 0 := by
  intro t ht
  by_cases h : t = 0
  · subst h
    exact Or.inl ⟨0, by omega, h0, rfl, Or.inl rfl⟩
  · refine Or.inr ⟨h1 t ht h, fun k _ z => ?_⟩
    rcases z with z | ⟨x, _, _, z⟩
    · exact h z
    · omega
theorem dp_at {L cb : Nat → Nat} {b : Int32} {f : Nat → Int32} {X q : Nat} (hT : Tre L cb N) (h : dpI L cb b f X) (hX : 4 * q ≤ X) (hq : q < 16) : (∃ k, k < 16 ∧ f q = nI k ∧ RcP L cb b k q) ∨ (f q = -9 ∧ ∀ k, ¬ RcP L cb b k q) := by
  rcases h q hq with ⟨k, k1, k2, k3, _⟩ | ⟨k1, k2⟩
  · exact Or.inl ⟨k, k1, k2, k3⟩
  · refine Or.inr ⟨k1, fun k z => k2 k z ?_⟩
    by_cases h0 : q = 0
    · exact Or.inl h0
    · obtain ⟨x, x1, x2⟩ := RP_pa z h0
      have := (hT.up x x1 (by rw [x2]; exact h0)).1
      exact Or.inr ⟨x, x1, x2, by omega⟩
theorem dp_no {L cb : Nat → Nat} {b : Int32} {f : Nat → Int32} {X : Nat} (hT : Tre L cb N) (h : dpI L cb b f X) (hX : X < 64) (hn : ¬ (L X ≠ 0 ∧ (∃ k, RcP L cb b k (X / 4)) ∧ okG cb b (X / 4) (X % 4))) : dpI L cb b f (X + 1) := by
  intro t ht
  rcases h t ht with ⟨k, k1, k2, k3, k4⟩ | ⟨k1, k2⟩
  · refine Or.inl ⟨k, k1, k2, k3, ?_⟩
    rcases k4 with z | ⟨x, z1, z2, z3⟩
    · exact Or.inl z
    · exact Or.inr ⟨x, z1, z2, by omega⟩
  · refine Or.inr ⟨k1, fun k z y => k2 k z ?_⟩
    rcases y with y | ⟨x, y1, y2, y3⟩
    · exact Or.inl y
    · by_cases hx : x < X
      · exact Or.inr ⟨x, y1, y2, hx⟩
      · have : x = X := by omega
        subst this
        by_cases h0 : t = 0
        · exact Or.inl h0
        · exfalso
          cases k with
          | zero => exact h0 z
          | succ k =>
            obtain ⟨-, u, u1, u2, u3, u4⟩ := z
            have : u = x := hT.inj u x u1 y1 (by rw [u2]; exact h0) (by rw [u2, y2])
            subst this
            exact hn ⟨by rw [u2]; exact h0, ⟨k, u3⟩, u4⟩
theorem dp_yes {L cb : Nat → Nat} {b : Int32} {f g : Nat → Int32} {X k : Nat} (hT : Tre L cb N) (h : dpI L cb b f X) (hX : X < 64) (h0 : L X ≠ 0) (hr : RcP L cb b k (X / 4)) (ho : okG cb b (X / 4) (X % 4)) (hg : ∀ t, t ≠ L X → g t = f t) (hg2 : g (L X) = nI (k + 1)) : dpI L cb b g (X + 1) := by
  intro t ht
  have n16 := hT.n16
  have u := hT.up X hX h0
  by_cases hx : t = L X
  · subst hx
    have r1 : RcP L cb b (k + 1) (L X) := ⟨h0, X, hX, rfl, hr, ho⟩
    have := RP_le hT _ _ r1
    exact Or.inl ⟨k + 1, by omega, hg2, r1, Or.inr ⟨X, hX, rfl, by omega⟩⟩
  · rw [hg t hx]
    rcases h t ht with ⟨k, k1, k2, k3, k4⟩ | ⟨k1, k2⟩
    · refine Or.inl ⟨k, k1, k2, k3, ?_⟩
      rcases k4 with z | ⟨x, z1, z2, z3⟩
      · exact Or.inl z
      · exact Or.inr ⟨x, z1, z2, by omega⟩
    · refine Or.inr ⟨k1, fun k z y => k2 k z ?_⟩
      rcases y with y | ⟨x, y1, y2, y3⟩
      · exact Or.inl y
      · by_cases hx2 : x < X
        · exact Or.inr ⟨x, y1, y2, hx2⟩
        · have : x = X := by omega
          subst this
          exact absurd y2.symm hx
set_option maxHeartbeats 4000000 in
set_option maxRecDepth 100000 in
theorem c_rowsOf {w : Nat} {L cb : Nat → Nat} (hS : Sh mu ro) (hd : 2 ≤ d) (hT : Tre L cb N) (hX : C_tp sg L cb N) (hw : w ≤ 20) (hk : ∀ σ, (∀ a k, a ≠ 34 → σ a k = sg a k) → K (some (.int (nI (cntB (RPb L cb (sg 30 5) w) N)))) σ) : aCall d 75 [.ref 30, .int (nI w)] n mu ro sg K := by
  have n16 := hT.n16
  obtain ⟨b, hb⟩ : ∃ b, b = sg 30 5 := ⟨_, rfl⟩
  rw [← hb] at hk
  obtain ⟨x1, x2, x3⟩ := hX
  refine aCall_start (mL := 5) (cc := cX9_rowsOf) (o := 9) (ret := (some .int)) 3 (by decide) (by decide +kernel) rfl rfl rfl rfl (Nat.le_of_ble_eq_true rfl) (fun G hC hG => ?_)
  simp only [exL, List.cons_append, List.nil_append, rp_0, rp_1, rp_2, rp_3, rp_4, rp_5, rp_6, rp_7, rp_8, rp_9, rp_10, rp_11, List.append_nil]
  have loop : ∀ (m q : Nat) (σ : aS) (v : Value), q + m = N → (∀ a k, a ≠ 34 → σ a k = sg a k) → dpI L cb b (σ 34) (4 * q) → AW G 5 n 0 0 mu ro σ 20 [.ref 30, .int (nI w), .int (nI (cntB (RPb L cb b w) q)), .int (nI q), v] [] := by
    intro m
    induction m with
    | zero =>
      intro q σ v hq hF hD
      have hqN : q = N := by omega
      have hN : σ 30 4 = nI N := by rw [hF 30 4 (by decide)]; exact x1
      have hc : (nI N ≤ nI q) = True := eq_true (nI_le (by omega) (by omega))
      refine hG (fun q => q == 20 || q == 58) 80 _ _ _ _ (Nat.le_of_ble_eq_true rfl) ?_
      simp only [D_X9_rowsOf, N_X9_rowsOf, ↓reduceIte, vcS, vcC, vcI, gtF, ptF, inS, inV, fv0, fv1, fv2, fv3, fw0, fw1, lg_0, lg_1, lg_2, lg_3, lg_4, lg_5, lg_6, lg_7, lg_8, lg_9, lg_10, lg_11, lg_12, lg_13, lg_14, lsq_0, lsl_0, lsq_1, lsl_1, lsq_2, lsl_2, lsq_3, lsl_3, lsq_4, lsl_4, lsq_5, lsl_5, lsq_6, lsl_6, lsq_7, lsl_7, lsq_8, lsl_8, lsq_9, lsl_9, lsq_10, lsl_10, lsq_11, lsl_11, lsq_12, lsl_12, lsq_13, lsl_13, lsq_14, lsl_14, tk_0, tk_1, tk_2, tk_3, tk_4, tk_5, tk_6, tk_7, tk_8, cs_n, cs_i, cs_l, cs_r, cs_u, nl, rt_s, rt_n, CST1, Nat.reduceAdd, Nat.reduceLeDiff, va_rf, rtOk, Bool.false_eq_true, Bool.true_eq_false, if_false, if_true, ite_true, ite_false, true_and, and_true, eq_self, ne_eq, not_false_eq_true, not_true_eq_false, false_implies, true_implies, and_self, reduceCtorEq, Nat.reduceBEq, Bool.or_false, Bool.false_or, Bool.or_true, Bool.true_or, if1_0, if1_1, if1_01, one_01, zer_01, lg_cmp_ge, lg_cmp_le, lg_cmp_gt, lg_cmp_lt, lg_cmp_eq, Classical.not_not, SHm hS, SHr hS, hN, ↓im_T hc, ↓im_TN hc, hc]
      rw [hqN]
      exact hk σ hF
    | succ m ih =>
      intro q σ v hq hF hD
      have hN : σ 30 4 = nI N := by rw [hF 30 4 (by decide)]; exact x1
      have hc : (nI N ≤ nI q) = False := eq_false (nI_ge (by omega) (by omega))
      have eq : (nI q).toNatClampNeg = q := nI_clamp (by omega)
      have vq : vp_in (nI q) 16 := vp_in_nI (by omega) (by decide)
      rcases dp_at hT hD (Nat.le_refl _) (show q < 16 by omega) with ⟨k, k1, k2, k3⟩ | ⟨k1, k2⟩
      · -- the signs of one state
        have inn : ∀ (mm c : Nat) (σ : aS), c + mm = 4 → (∀ a k, a ≠ 34 → σ a k = sg a k) → dpI L cb b (σ 34) (4 * q + c) → σ 34 q = nI k → AW G 5 n 0 0 mu ro σ 58 [.ref 30, .int (nI w), .int (nI (cntB (RPb L cb b w) (q + 1))), .int (nI q), .int (nI c)] [] := by
          intro mm
          induction mm with
          | zero =>
            intro c σ hc4 hF hD hkq
            have hcq : (4 ≤ nI c) = True := eq_true (by have := nI_toInt (n := c) (by omega); ((try simp only [i_le, i_lt, i_eq, l_le, l_lt, l_eq, i_ne, l_ne, toL, l_add, l_sub1, LIT1, LIT2, Int.reduceNeg, ge_iff_le, gt_iff_lt] at *); omega))
            refine hG (fun q => q == 20 || q == 58) 80 _ _ _ _ (Nat.le_of_ble_eq_true rfl) ?_
            simp only [D_X9_rowsOf, N_X9_rowsOf, ↓reduceIte, vcS, vcC, vcI, gtF, ptF, inS, inV, fv0, fv1, fv2, fv3, fw0, fw1, lg_0, lg_1, lg_2, lg_3, lg_4, lg_5, lg_6, lg_7, lg_8, lg_9, lg_10, lg_11, lg_12, lg_13, lg_14, lsq_0, lsl_0, lsq_1, lsl_1, lsq_2, lsl_2, lsq_3, lsl_3, lsq_4, lsl_4, lsq_5, lsl_5, lsq_6, lsl_6, lsq_7, lsl_7, lsq_8, lsl_8, lsq_9, lsl_9, lsq_10, lsl_10, lsq_11, lsl_11, lsq_12, lsl_12, lsq_13, lsl_13, lsq_14, lsl_14, tk_0, tk_1, tk_2, tk_3, tk_4, tk_5, tk_6, tk_7, tk_8, cs_n, cs_i, cs_l, cs_r, cs_u, nl, rt_s, rt_n, CST1, Nat.reduceAdd, Nat.reduceLeDiff, va_rf, rtOk, Bool.false_eq_true, Bool.true_eq_false, if_false, if_true, ite_true, ite_false, true_and, and_true, eq_self, ne_eq, not_false_eq_true, not_true_eq_false, false_implies, true_implies, and_self, reduceCtorEq, Nat.reduceBEq, Bool.or_false, Bool.false_or, Bool.or_true, Bool.true_or, if1_0, if1_1, if1_01, one_01, zer_01, lg_cmp_ge, lg_cmp_le, lg_cmp_gt, lg_cmp_lt, lg_cmp_eq, Classical.not_not, ↓im_T hcq, ↓im_TN hcq, hcq, nI_1]
            exact ih (q + 1) σ _ (by omega) hF (by rw [show 4 * (q + 1) = 4 * q + c by omega]; exact hD)
          | succ mm ih2 =>
            intro c σ hc4 hF hD hkq
            have hcq : (4 ≤ nI c) = False := eq_false (by have := nI_toInt (n := c) (by omega); ((try simp only [i_le, i_lt, i_eq, l_le, l_lt, l_eq, i_ne, l_ne, toL, l_add, l_sub1, LIT1, LIT2, Int.reduceNeg, ge_iff_le, gt_iff_lt] at *); omega))
            have y1 : (4 * q + c) / 4 = q := by omega
            have y2 : (4 * q + c) % 4 = c := by omega
            have hl : σ 31 (4 * q + c) = nI (L (4 * q + c)) := by rw [hF 31 _ (by decide)]; exact x2 _ (by omega)
            have hlt := hT.lt (4 * q + c) (by omega)
            have hbb : σ 30 5 = b := by rw [hF 30 5 (by decide), hb]
            have hlz : (σ 31 (4 * q + c) = 0) = (L (4 * q + c) = 0) := by rw [hl]; exact nI_z (by omega)
            refine hG (fun q => q == 20 || q == 58) 80 _ _ _ _ (Nat.le_of_ble_eq_true rfl) ?_
            simp only [D_X9_rowsOf, N_X9_rowsOf, ↓reduceIte, vcS, vcC, vcI, gtF, ptF, inS, inV, fv0, fv1, fv2, fv3, fw0, fw1, lg_0, lg_1, lg_2, lg_3, lg_4, lg_5, lg_6, lg_7, lg_8, lg_9, lg_10, lg_11, lg_12, lg_13, lg_14, lsq_0, lsl_0, lsq_1, lsl_1, lsq_2, lsl_2, lsq_3, lsl_3, lsq_4, lsl_4, lsq_5, lsl_5, lsq_6, lsl_6, lsq_7, lsl_7, lsq_8, lsl_8, lsq_9, lsl_9, lsq_10, lsl_10, lsq_11, lsl_11, lsq_12, lsl_12, lsq_13, lsl_13, lsq_14, lsl_14, tk_0, tk_1, tk_2, tk_3, tk_4, tk_5, tk_6, tk_7, tk_8, cs_n, cs_i, cs_l, cs_r, cs_u, nl, rt_s, rt_n, CST1, Nat.reduceAdd, Nat.reduceLeDiff, va_rf, rtOk, Bool.false_eq_true, Bool.true_eq_false, if_false, if_true, ite_true, ite_false, true_and, and_true, eq_self, ne_eq, not_false_eq_true, not_true_eq_false, false_implies, true_implies, and_self, reduceCtorEq, Nat.reduceBEq, Bool.or_false, Bool.false_or, Bool.or_true, Bool.true_or, if1_0, if1_1, if1_01, one_01, zer_01, lg_cmp_ge, lg_cmp_le, lg_cmp_gt, lg_cmp_lt, lg_cmp_eq, Classical.not_not, ↓im_F hcq, ↓im_FN hcq, hcq, SHm hS, SHr hS]
            refine ⟨by omega, c_canGo (cb := cb) hS (by omega) (by omega) (by omega) (fun h0 => ?_) ?_⟩
            · obtain ⟨x, z1, z2⟩ := RP_pa k3 h0
              have := x3 x z1 (by rw [z2]; exact h0)
              rw [z2] at this
              have u := (hT.up x z1 (by rw [z2]; exact h0)).2.2
              rw [z2] at u
              exact ⟨by rw [hF 32 _ (by decide)]; exact this, by omega⟩
            · simp only [D_X9_rowsOf, N_X9_rowsOf, ↓reduceIte, vcS, vcC, vcI, gtF, ptF, inS, inV, fv0, fv1, fv2, fv3, fw0, fw1, lg_0, lg_1, lg_2, lg_3, lg_4, lg_5, lg_6, lg_7, lg_8, lg_9, lg_10, lg_11, lg_12, lg_13, lg_14, lsq_0, lsl_0, lsq_1, lsl_1, lsq_2, lsl_2, lsq_3, lsl_3, lsq_4, lsl_4, lsq_5, lsl_5, lsq_6, lsl_6, lsq_7, lsl_7, lsq_8, lsl_8, lsq_9, lsl_9, lsq_10, lsl_10, lsq_11, lsl_11, lsq_12, lsl_12, lsq_13, lsl_13, lsq_14, lsl_14, tk_0, tk_1, tk_2, tk_3, tk_4, tk_5, tk_6, tk_7, tk_8, cs_n, cs_i, cs_l, cs_r, cs_u, nl, rt_s, rt_n, CST1, Nat.reduceAdd, Nat.reduceLeDiff, va_rf, rtOk, Bool.false_eq_true, Bool.true_eq_false, if_false, if_true, ite_true, ite_false, true_and, and_true, eq_self, ne_eq, not_false_eq_true, not_true_eq_false, false_implies, true_implies, and_self, reduceCtorEq, Nat.reduceBEq, Bool.or_false, Bool.false_or, Bool.or_true, Bool.true_or, if1_0, if1_1, if1_01, one_01, zer_01, lg_cmp_ge, lg_cmp_le, lg_cmp_gt, lg_cmp_lt, lg_cmp_eq, Classical.not_not, SHm hS, SHr hS, hlz, hbb, nI_1]
              refine ⟨fun g => ?_, fun g => ⟨by omega, c_leadsN hS (by omega) (by omega) ?_⟩⟩
              · refine ih2 (c + 1) σ (by omega) hF (dp_no (X := 4 * q + c) hT hD (by omega) (fun z => g ⟨z.1, ?_⟩)) hkq
                have := z.2.2
                rw [y1, y2] at this
                exact this
              · obtain ⟨g1, g2⟩ := g
                have u := hT.up (4 * q + c) (by omega) g1
                have el : (nI (L (4 * q + c))).toNatClampNeg = L (4 * q + c) := nI_clamp (by omega)
                have vl : vp_in (nI (L (4 * q + c))) 16 := vp_in_nI (by omega) (by decide)
                simp only [D_X9_rowsOf, N_X9_rowsOf, ↓reduceIte, vcS, vcC, vcI, gtF, ptF, inS, inV, fv0, fv1, fv2, fv3, fw0, fw1, lg_0, lg_1, lg_2, lg_3, lg_4, lg_5, lg_6, lg_7, lg_8, lg_9, lg_10, lg_11, lg_12, lg_13, lg_14, lsq_0, lsl_0, lsq_1, lsl_1, lsq_2, lsl_2, lsq_3, lsl_3, lsq_4, lsl_4, lsq_5, lsl_5, lsq_6, lsl_6, lsq_7, lsl_7, lsq_8, lsl_8, lsq_9, lsl_9, lsq_10, lsl_10, lsq_11, lsl_11, lsq_12, lsl_12, lsq_13, lsl_13, lsq_14, lsl_14, tk_0, tk_1, tk_2, tk_3, tk_4, tk_5, tk_6, tk_7, tk_8, cs_n, cs_i, cs_l, cs_r, cs_u, nl, rt_s, rt_n, CST1, Nat.reduceAdd, Nat.reduceLeDiff, va_rf, rtOk, Bool.false_eq_true, Bool.true_eq_false, if_false, if_true, ite_true, ite_false, true_and, and_true, eq_self, ne_eq, not_false_eq_true, not_true_eq_false, false_implies, true_implies, and_self, reduceCtorEq, Nat.reduceBEq, Bool.or_false, Bool.false_or, Bool.or_true, Bool.true_or, if1_0, if1_1, if1_01, one_01, zer_01, lg_cmp_ge, lg_cmp_le, lg_cmp_gt, lg_cmp_lt, lg_cmp_eq, Classical.not_not, SHm hS, SHr hS, hl, eq, vq, hkq, nI_1, el, vl]
                refine ih2 (c + 1) _ (by omega) (fun a j h => by rw [s2_n (by omega)]; exact hF a j h) (dp_yes (X := 4 * q + c) (k := k) hT hD (by omega) g1 (by rw [y1]; exact k3) (by rw [y1, y2]; exact g2) (fun t ht => s2_n (by omega)) (s2_y ⟨rfl, rfl⟩)) (by rw [s2_n (by omega)]; exact hkq)
        have h9 : (nI k = -9) = False := nI_n9 (by omega)
        have h0 := inn 4 0 σ (by omega) hF hD k2
        by_cases hkw : k = w
        · have hkw' : (nI k = nI w) = True := eq_true (by rw [hkw])
          rw [cntB, if_pos (RPb_t.mpr (by rw [← hkw]; exact k3))] at h0
          refine hG (fun q => q == 20 || q == 58) 80 _ _ _ _ (Nat.le_of_ble_eq_true rfl) ?_
          simp only [D_X9_rowsOf, N_X9_rowsOf, ↓reduceIte, vcS, vcC, vcI, gtF, ptF, inS, inV, fv0, fv1, fv2, fv3, fw0, fw1, lg_0, lg_1, lg_2, lg_3, lg_4, lg_5, lg_6, lg_7, lg_8, lg_9, lg_10, lg_11, lg_12, lg_13, lg_14, lsq_0, lsl_0, lsq_1, lsl_1, lsq_2, lsl_2, lsq_3, lsl_3, lsq_4, lsl_4, lsq_5, lsl_5, lsq_6, lsl_6, lsq_7, lsl_7, lsq_8, lsl_8, lsq_9, lsl_9, lsq_10, lsl_10, lsq_11, lsl_11, lsq_12, lsl_12, lsq_13, lsl_13, lsq_14, lsl_14, tk_0, tk_1, tk_2, tk_3, tk_4, tk_5, tk_6, tk_7, tk_8, cs_n, cs_i, cs_l, cs_r, cs_u, nl, rt_s, rt_n, CST1, Nat.reduceAdd, Nat.reduceLeDiff, va_rf, rtOk, Bool.false_eq_true, Bool.true_eq_false, if_false, if_true, ite_true, ite_false, true_and, and_true, eq_self, ne_eq, not_false_eq_true, not_true_eq_false, false_implies, true_implies, and_self, reduceCtorEq, Nat.reduceBEq, Bool.or_false, Bool.false_or, Bool.or_true, Bool.true_or, if1_0, if1_1, if1_01, one_01, zer_01, lg_cmp_ge, lg_cmp_le, lg_cmp_gt, lg_cmp_lt, lg_cmp_eq, Classical.not_not, SHm hS, SHr hS, hN, ↓im_F hc, ↓im_FN hc, hc, eq, vq, k2, h9, hkw', nI_1]
          exact h0
        · have hkw' : (nI k = nI w) = False := eq_false (fun z => hkw ((nI_eq (by omega) (by omega)).mp z))
          rw [cntB, if_neg (fun z => hkw (RP_uq hT k w q k3 (RPb_t.mp z))), Nat.add_zero] at h0
          refine hG (fun q => q == 20 || q == 58) 80 _ _ _ _ (Nat.le_of_ble_eq_true rfl) ?_
          simp only [D_X9_rowsOf, N_X9_rowsOf, ↓reduceIte, vcS, vcC, vcI, gtF, ptF, inS, inV, fv0, fv1, fv2, fv3, fw0, fw1, lg_0, lg_1, lg_2, lg_3, lg_4, lg_5, lg_6, lg_7, lg_8, lg_9, lg_10, lg_11, lg_12, lg_13, lg_14, lsq_0, lsl_0, lsq_1, lsl_1, lsq_2, lsl_2, lsq_3, lsl_3, lsq_4, lsl_4, lsq_5, lsl_5, lsq_6, lsl_6, lsq_7, lsl_7, lsq_8, lsl_8, lsq_9, lsl_9, lsq_10, lsl_10, lsq_11, lsl_11, lsq_12, lsl_12, lsq_13, lsl_13, lsq_14, lsl_14, tk_0, tk_1, tk_2, tk_3, tk_4, tk_5, tk_6, tk_7, tk_8, cs_n, cs_i, cs_l, cs_r, cs_u, nl, rt_s, rt_n, CST1, Nat.reduceAdd, Nat.reduceLeDiff, va_rf, rtOk, Bool.false_eq_true, Bool.true_eq_false, if_false, if_true, ite_true, ite_false, true_and, and_true, eq_self, ne_eq, not_false_eq_true, not_true_eq_false, false_implies, true_implies, and_self, reduceCtorEq, Nat.reduceBEq, Bool.or_false, Bool.false_or, Bool.or_true, Bool.true_or, if1_0, if1_1, if1_01, one_01, zer_01, lg_cmp_ge, lg_cmp_le, lg_cmp_gt, lg_cmp_lt, lg_cmp_eq, Classical.not_not, SHm hS, SHr hS, hN, ↓im_F hc, ↓im_FN hc, hc, eq, vq, k2, h9, hkw', nI_1]
          exact h0
      · have h9 : ((-9 : Int32) = -9) = True := eq_true rfl
        have nx : ∀ c, c < 4 → dpI L cb b (σ 34) (4 * q + c) → dpI L cb b (σ 34) (4 * q + c + 1) := by
          intro c hc z
          refine dp_no hT z (by omega) (fun y => ?_)
          obtain ⟨-, ⟨k, y⟩, -⟩ := y
          rw [show (4 * q + c) / 4 = q by omega] at y
          exact k2 k y
        have h0 := ih (q + 1) σ v (by omega) hF (nx 3 (by omega) (nx 2 (by omega) (nx 1 (by omega) (nx 0 (by omega) hD))))
        rw [cntB, if_neg (fun z => k2 w (RPb_t.mp z)), Nat.add_zero] at h0
        refine hG (fun q => q == 20 || q == 58) 80 _ _ _ _ (Nat.le_of_ble_eq_true rfl) ?_
        simp only [D_X9_rowsOf, N_X9_rowsOf, ↓reduceIte, vcS, vcC, vcI, gtF, ptF, inS, inV, fv0, fv1, fv2, fv3, fw0, fw1, lg_0, lg_1, lg_2, lg_3, lg_4, lg_5, lg_6, lg_7, lg_8, lg_9, lg_10, lg_11, lg_12, lg_13, lg_14, lsq_0, lsl_0, lsq_1, lsl_1, lsq_2, lsl_2, lsq_3, lsl_3, lsq_4, lsl_4, lsq_5, lsl_5, lsq_6, lsl_6, lsq_7, lsl_7, lsq_8, lsl_8, lsq_9, lsl_9, lsq_10, lsl_10, lsq_11, lsl_11, lsq_12, lsl_12, lsq_13, lsl_13, lsq_14, lsl_14, tk_0, tk_1, tk_2, tk_3, tk_4, tk_5, tk_6, tk_7, tk_8, cs_n, cs_i, cs_l, cs_r, cs_u, nl, rt_s, rt_n, CST1, Nat.reduceAdd, Nat.reduceLeDiff, va_rf, rtOk, Bool.false_eq_true, Bool.true_eq_false, if_false, if_true, ite_true, ite_false, true_and, and_true, eq_self, ne_eq, not_false_eq_true, not_true_eq_false, false_implies, true_implies, and_self, reduceCtorEq, Nat.reduceBEq, Bool.or_false, Bool.false_or, Bool.or_true, Bool.true_or, if1_0, if1_1, if1_01, one_01, zer_01, lg_cmp_ge, lg_cmp_le, lg_cmp_gt, lg_cmp_lt, lg_cmp_eq, Classical.not_not, SHm hS, SHr hS, hN, ↓im_F hc, ↓im_FN hc, hc, eq, vq, k1, nI_1]
        exact h0
  refine hG (fun q => q == 20 || q == 58) 80 _ _ _ _ (Nat.le_of_ble_eq_true rfl) ?_
  simp only [D_X9_rowsOf, N_X9_rowsOf, ↓reduceIte, vcS, vcC, vcI, gtF, ptF, inS, inV, fv0, fv1, fv2, fv3, fw0, fw1, lg_0, lg_1, lg_2, lg_3, lg_4, lg_5, lg_6, lg_7, lg_8, lg_9, lg_10, lg_11, lg_12, lg_13, lg_14, lsq_0, lsl_0, lsq_1, lsl_1, lsq_2, lsl_2, lsq_3, lsl_3, lsq_4, lsl_4, lsq_5, lsl_5, lsq_6, lsl_6, lsq_7, lsl_7, lsq_8, lsl_8, lsq_9, lsl_9, lsq_10, lsl_10, lsq_11, lsl_11, lsq_12, lsl_12, lsq_13, lsl_13, lsq_14, lsl_14, tk_0, tk_1, tk_2, tk_3, tk_4, tk_5, tk_6, tk_7, tk_8, cs_n, cs_i, cs_l, cs_r, cs_u, nl, rt_s, rt_n, CST1, Nat.reduceAdd, Nat.reduceLeDiff, va_rf, rtOk, Bool.false_eq_true, Bool.true_eq_false, if_false, if_true, ite_true, ite_false, true_and, and_true, eq_self, ne_eq, not_false_eq_true, not_true_eq_false, false_implies, true_implies, and_self, reduceCtorEq, Nat.reduceBEq, Bool.or_false, Bool.false_or, Bool.or_true, Bool.true_or, if1_0, if1_1, if1_01, one_01, zer_01, lg_cmp_ge, lg_cmp_le, lg_cmp_gt, lg_cmp_lt, lg_cmp_eq, Classical.not_not, SHm hS, SHr hS]
  refine ⟨by omega, c_fill (N := 16) (by simp only [SHm hS]) (by decide) ?_⟩
  have v0 : vp_in (0 : Int32) 16 := vp_in_nI (n := 0) (by decide) (by decide)
  have e0 : (0 : Int32).toNatClampNeg = 0 := by decide
  simp only [D_X9_rowsOf, N_X9_rowsOf, ↓reduceIte, vcS, vcC, vcI, gtF, ptF, inS, inV, fv0, fv1, fv2, fv3, fw0, fw1, lg_0, lg_1, lg_2, lg_3, lg_4, lg_5, lg_6, lg_7, lg_8, lg_9, lg_10, lg_11, lg_12, lg_13, lg_14, lsq_0, lsl_0, lsq_1, lsl_1, lsq_2, lsl_2, lsq_3, lsl_3, lsq_4, lsl_4, lsq_5, lsl_5, lsq_6, lsl_6, lsq_7, lsl_7, lsq_8, lsl_8, lsq_9, lsl_9, lsq_10, lsl_10, lsq_11, lsl_11, lsq_12, lsl_12, lsq_13, lsl_13, lsq_14, lsl_14, tk_0, tk_1, tk_2, tk_3, tk_4, tk_5, tk_6, tk_7, tk_8, cs_n, cs_i, cs_l, cs_r, cs_u, nl, rt_s, rt_n, CST1, Nat.reduceAdd, Nat.reduceLeDiff, va_rf, rtOk, Bool.false_eq_true, Bool.true_eq_false, if_false, if_true, ite_true, ite_false, true_and, and_true, eq_self, ne_eq, not_false_eq_true, not_true_eq_false, false_implies, true_implies, and_self, reduceCtorEq, Nat.reduceBEq, Bool.or_false, Bool.false_or, Bool.or_true, Bool.true_or, if1_0, if1_1, if1_01, one_01, zer_01, lg_cmp_ge, lg_cmp_le, lg_cmp_gt, lg_cmp_lt, lg_cmp_eq, Classical.not_not, SHm hS, SHr hS, v0, e0]
  refine loop N 0 _ _ (by omega) (fun a k h => ?_) (dp_0 (s2_y ⟨rfl, rfl⟩) (fun t ht h0 => ?_))
  · rw [s2_n (by omega), fl_n (by omega)]
  · rw [s2_n (by omega), fl_y ⟨rfl, ht⟩]
set_option maxHeartbeats 4000000 in
set_option maxRecDepth 100000 in
theorem c_rows {x : Int32} {L cb : Nat → Nat} (hS : Sh mu ro) (hd : 3 ≤ d) (hT : Tre L cb N) (hX : C_tp sg L cb N) (hk1 : ¬ (0 ≤ x.toInt ∧ x.toInt ≤ 20) → K (some (.int (-2))) sg) (hk2 : ∀ w : Nat, w ≤ 20 → x = nI w → ∀ σ, (∀ a k, a ≠ 34 → σ a k = sg a k) → K (some (.int (nI (cntB (RPb L cb (sg 30 5) w) N)))) σ) : aCall d 125 [.ref 0, .int x] n mu ro sg K := by
  refine aCall_start (mL := 2) (cc := cX11_rows) (o := 11) (ret := (some .int)) 0 (by decide) (by decide +kernel) rfl rfl rfl rfl (Nat.le_of_ble_eq_true rfl) (fun G hC hG => ?_)
  simp only [exL, List.cons_append, List.nil_append, rp_0, rp_1, rp_2, rp_3, rp_4, rp_5, rp_6, rp_7, rp_8, rp_9, rp_10, rp_11, List.append_nil]
  refine hG (fun _ => false) 60 _ _ _ _ (Nat.le_of_ble_eq_true rfl) ?_
  simp only [D_X11_rows, N_X11_rows, ↓reduceIte, vcS, vcC, vcI, gtF, ptF, inS, inV, fv0, fv1, fv2, fv3, fw0, fw1, lg_0, lg_1, lg_2, lg_3, lg_4, lg_5, lg_6, lg_7, lg_8, lg_9, lg_10, lg_11, lg_12, lg_13, lg_14, lsq_0, lsl_0, lsq_1, lsl_1, lsq_2, lsl_2, lsq_3, lsl_3, lsq_4, lsl_4, lsq_5, lsl_5, lsq_6, lsl_6, lsq_7, lsl_7, lsq_8, lsl_8, lsq_9, lsl_9, lsq_10, lsl_10, lsq_11, lsl_11, lsq_12, lsl_12, lsq_13, lsl_13, lsq_14, lsl_14, tk_0, tk_1, tk_2, tk_3, tk_4, tk_5, tk_6, tk_7, tk_8, cs_n, cs_i, cs_l, cs_r, cs_u, nl, rt_s, rt_n, CST1, Nat.reduceAdd, Nat.reduceLeDiff, va_rf, rtOk, Bool.false_eq_true, Bool.true_eq_false, if_false, if_true, ite_true, ite_false, true_and, and_true, eq_self, ne_eq, not_false_eq_true, not_true_eq_false, false_implies, true_implies, and_self, reduceCtorEq, Nat.reduceBEq, Bool.or_false, Bool.false_or, Bool.or_true, Bool.true_or, if1_0, if1_1, if1_01, one_01, zer_01, lg_cmp_ge, lg_cmp_le, lg_cmp_gt, lg_cmp_lt, lg_cmp_eq, Classical.not_not, SHm hS, SHr hS]
  refine ⟨by omega, c_isIn ?_⟩
  simp only [D_X11_rows, N_X11_rows, ↓reduceIte, vcS, vcC, vcI, gtF, ptF, inS, inV, fv0, fv1, fv2, fv3, fw0, fw1, lg_0, lg_1, lg_2, lg_3, lg_4, lg_5, lg_6, lg_7, lg_8, lg_9, lg_10, lg_11, lg_12, lg_13, lg_14, lsq_0, lsl_0, lsq_1, lsl_1, lsq_2, lsl_2, lsq_3, lsl_3, lsq_4, lsl_4, lsq_5, lsl_5, lsq_6, lsl_6, lsq_7, lsl_7, lsq_8, lsl_8, lsq_9, lsl_9, lsq_10, lsl_10, lsq_11, lsl_11, lsq_12, lsl_12, lsq_13, lsl_13, lsq_14, lsl_14, tk_0, tk_1, tk_2, tk_3, tk_4, tk_5, tk_6, tk_7, tk_8, cs_n, cs_i, cs_l, cs_r, cs_u, nl, rt_s, rt_n, CST1, Nat.reduceAdd, Nat.reduceLeDiff, va_rf, rtOk, Bool.false_eq_true, Bool.true_eq_false, if_false, if_true, ite_true, ite_false, true_and, and_true, eq_self, ne_eq, not_false_eq_true, not_true_eq_false, false_implies, true_implies, and_self, reduceCtorEq, Nat.reduceBEq, Bool.or_false, Bool.false_or, Bool.or_true, Bool.true_or, if1_0, if1_1, if1_01, one_01, zer_01, lg_cmp_ge, lg_cmp_le, lg_cmp_gt, lg_cmp_lt, lg_cmp_eq, Classical.not_not, SHm hS, SHr hS, LIT1]
  refine ⟨fun q => hk1 q, fun q => ?_⟩
  obtain ⟨w, hw, rfl⟩ := i_of (x := x) (N := 20) q.1 q.2 (by decide)
  refine ⟨by omega, c_rowsOf hS (by omega) hT hX hw (fun σ hF => ?_)⟩
  simp only [D_X11_rows, N_X11_rows, ↓reduceIte, vcS, vcC, vcI, gtF, ptF, inS, inV, fv0, fv1, fv2, fv3, fw0, fw1, lg_0, lg_1, lg_2, lg_3, lg_4, lg_5, lg_6, lg_7, lg_8, lg_9, lg_10, lg_11, lg_12, lg_13, lg_14, lsq_0, lsl_0, lsq_1, lsl_1, lsq_2, lsl_2, lsq_3, lsl_3, lsq_4, lsl_4, lsq_5, lsl_5, lsq_6, lsl_6, lsq_7, lsl_7, lsq_8, lsl_8, lsq_9, lsl_9, lsq_10, lsl_10, lsq_11, lsl_11, lsq_12, lsl_12, lsq_13, lsl_13, lsq_14, lsl_14, tk_0, tk_1, tk_2, tk_3, tk_4, tk_5, tk_6, tk_7, tk_8, cs_n, cs_i, cs_l, cs_r, cs_u, nl, rt_s, rt_n, CST1, Nat.reduceAdd, Nat.reduceLeDiff, va_rf, rtOk, Bool.false_eq_true, Bool.true_eq_false, if_false, if_true, ite_true, ite_false, true_and, and_true, eq_self, ne_eq, not_false_eq_true, not_true_eq_false, false_implies, true_implies, and_self, reduceCtorEq, Nat.reduceBEq, Bool.or_false, Bool.false_or, Bool.or_true, Bool.true_or, if1_0, if1_1, if1_01, one_01, zer_01, lg_cmp_ge, lg_cmp_le, lg_cmp_gt, lg_cmp_lt, lg_cmp_eq, Classical.not_not, SHm hS, SHr hS]
  exact hk2 w hw rfl σ hF
end H38
