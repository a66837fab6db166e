/-! part 54: talks, rows, findings: what is kept of them; finding, clear on both sides -/
section H54
variable {d n N T Q F : Nat} {mu : aM} {ro : aR} {sg : aS} {K : Option Value → aS → Prop} {tb rb : Nat → Nat}
/-- the talks' and rows' objects -/
def S_tk (mu : aM) (ro : aR) (n T : Nat) (tb : Nat → Nat) : Prop := ∀ t, t < T → ro 13 t = some (tb t) ∧ mu (tb t) = (18, 10) ∧ ro (tb t) 4 = some (tb t + 1) ∧ ro (tb t) 5 = some (tb t + 2) ∧ mu (tb t + 1) = (1, 79) ∧ mu (tb t + 2) = (1, 79) ∧ 89 ≤ tb t ∧ tb t + 3 ≤ n
def S_rw (mu : aM) (ro : aR) (n Q : Nat) (rb : Nat → Nat) : Prop := ∀ r, r < Q → ro 14 r = some (rb r) ∧ mu (rb r) = (15, 2) ∧ ro (rb r) 0 = some (rb r + 1) ∧ mu (rb r + 1) = (1, 6) ∧ 89 ≤ rb r ∧ rb r + 2 ≤ n
def S_ds (T Q : Nat) (tb rb : Nat → Nat) : Prop := (∀ t u, t < T → u < T → t ≠ u → tb t + 3 ≤ tb u ∨ tb u + 3 ≤ tb t) ∧ (∀ t r, t < T → r < Q → tb t + 3 ≤ rb r ∨ rb r + 2 ≤ tb t) ∧ ∀ r q, r < Q → q < Q → r ≠ q → rb r + 2 ≤ rb q ∨ rb q + 2 ≤ rb r
def i_by (x : Int32) : Prop := x = -9 ∨ i_bw x 0 127
def I_t1 (s : aS) (a t : Nat) : Prop := s a 0 = nI t ∧ (s a 1 = s 55 t ∧ i_bw (s 55 t) 0 2) ∧ (s a 2 = s 56 t ∧ i_bw (s 56 t) 0 9) ∧ (s a 3 = s 57 t ∧ i_bw (s 57 t) 0 9) ∧ s a 7 = s 60 t ∧ s a 8 = s 61 t ∧ s a 9 = s 62 t ∧ (∃ e, e ≤ 79 ∧ s a 6 = nI e ∧ (∀ p, e ≤ p → p < 79 → s 58 (80 * t + p) = -9) ∧ (e = 0 ∨ s 58 (80 * t + (e - 1)) ≠ -9)) ∧ ∀ p, p < 79 → s (a + 1) p = s 58 (80 * t + p) ∧ i_by (s 58 (80 * t + p)) ∧ s (a + 2) p = s 59 (80 * t + p) ∧ i_by (s 59 (80 * t + p))
def I_t0 (s : aS) (t : Nat) : Prop := s 60 t = 0 ∧ s 61 t = 0 ∧ ∀ p, p < 79 → s 58 (80 * t + p) = -9 ∧ s 59 (80 * t + p) = -9
def I_tk (s : aS) (T : Nat) (tb : Nat → Nat) : Prop := i_nr (s 0 11) (s 48 9) T ∧ T ≤ 8 ∧ (∀ t, t < T → I_t1 s (tb t) t) ∧ ∀ t, T ≤ t → t < 8 → I_t0 s t
def I_rw (s : aS) (Q : Nat) (rb : Nat → Nat) : Prop := i_nr (s 0 12) (s 48 18) Q ∧ Q ≤ 8 ∧ ∀ r, r < Q → ∃ z, 1 ≤ z ∧ z ≤ 6 ∧ s (rb r) 1 = nI z ∧ s 63 r = nI z ∧ ∀ k, k < z → s (rb r + 1) k = s 64 (6 * r + k) ∧ i_bw (s 64 (6 * r + k)) (-1) 127
def I_f1 (s : aS) (T f : Nat) : Prop := (∃ t, t < T ∧ s 17 f = nI t ∧ s 66 f = nI t ∧ s 18 f = s 56 t) ∧ s 16 f = s 65 f ∧ i_bw (s 65 f) 0 7 ∧ s 19 f = s 67 f ∧ i_bw (s 67 f) 0 999 ∧ s 20 f = s 68 f ∧ i_bw (s 68 f) 0 2
def I_fd (s : aS) (F T : Nat) : Prop := i_nr (s 15 5) (s 48 21) F ∧ F ≤ 40 ∧ (∀ f, f < F → I_f1 s T f) ∧ ∀ f, F ≤ f → f < 40 → s 20 f = 0
theorem reg_9 {a k : Nat} (h : 89 ≤ a) : reg a k = 3 := by
  unfold reg
  rw [if_neg (by omega), if_neg (by omega), if_neg (by omega)]
  have : regL.length = 89 := by decide
  rw [List.getD_eq_getElem?_getD, List.getElem?_eq_none (by omega)]
  rfl
theorem I_t1.fr {s s' : aS} {a t : Nat} (h : I_t1 s a t) (ha : 89 ≤ a) (hf : ∀ a k, reg a k = 3 → s' a k = s a k) : I_t1 s' a t := by
  have o : ∀ x, 89 ≤ x → s' x = s x := fun x hx => funext (fun k => hf x k (reg_9 hx))
  have e : ∀ x, x < 63 → 55 ≤ x → s' x = s x := fun x h1 h2 => funext (fun k => hf x k (by
    rcases (show x = 55 ∨ x = 56 ∨ x = 57 ∨ x = 58 ∨ x = 59 ∨ x = 60 ∨ x = 61 ∨ x = 62 by omega) with rfl | rfl | rfl | rfl | rfl | rfl | rfl | rfl <;> rfl))
  unfold I_t1 at *
  rw [o a ha, o (a + 1) (by omega), o (a + 2) (by omega), e 55 (by decide) (by decide), e 56 (by decide) (by decide), e 57 (by decide) (by decide), e 58 (by decide) (by decide), e 59 (by decide) (by decide), e 60 (by decide) (by decide), e 61 (by decide) (by decide), e 62 (by decide) (by decide)]
  exact h
theorem I_tk.fr {s s' : aS} (h : I_tk s T tb) (hT : S_tk mu ro n T tb) (hf : ∀ a k, reg a k = 3 → s' a k = s a k) : I_tk s' T tb := by
  obtain ⟨⟨h1, h2⟩, h3, h4, h5⟩ := h
  refine ⟨⟨by rw [hf 0 11 rfl]; exact h1, by rw [hf 48 9 rfl]; exact h2⟩, h3, fun t ht => (h4 t ht).fr (hT t ht).2.2.2.2.2.2.1 hf, fun t ht ht2 => ?_⟩
  obtain ⟨g1, g2, g3⟩ := h5 t ht ht2
  exact ⟨by rw [hf 60 t rfl]; exact g1, by rw [hf 61 t rfl]; exact g2, fun p hp => by rw [hf 58 _ rfl, hf 59 _ rfl]; exact g3 p hp⟩
theorem I_rw.fr {s s' : aS} (h : I_rw s Q rb) (hR : S_rw mu ro n Q rb) (hf : ∀ a k, reg a k = 3 → s' a k = s a k) : I_rw s' Q rb := by
  obtain ⟨⟨h1, h2⟩, h3, h4⟩ := h
  refine ⟨⟨by rw [hf 0 12 rfl]; exact h1, by rw [hf 48 18 rfl]; exact h2⟩, h3, fun r hr => ?_⟩
  obtain ⟨z, z1, z2, z3, z4, z5⟩ := h4 r hr
  have hb := (hR r hr).2.2.2.2.1
  exact ⟨z, z1, z2, by rw [hf _ _ (reg_9 hb)]; exact z3, by rw [hf 63 r rfl]; exact z4, fun k hk => by rw [hf _ _ (reg_9 (show 89 ≤ rb r + 1 by omega)), hf 64 _ rfl]; exact z5 k hk⟩
theorem I_fd.fr {s s' : aS} (h : I_fd s F T) (hf : ∀ a k, reg a k = 3 → s' a k = s a k) : I_fd s' F T := by
  obtain ⟨⟨h1, h2⟩, h3, h4, h5⟩ := h
  refine ⟨⟨by rw [hf 15 5 rfl]; exact h1, by rw [hf 48 21 rfl]; exact h2⟩, h3, fun f hq => ?_, fun f hq hq2 => by rw [hf 20 f rfl]; exact h5 f hq hq2⟩
  have := h4 f hq
  unfold I_f1 at *
  obtain ⟨⟨t, t1, t2, t3, t4⟩, g⟩ := this
  rw [hf 16 f rfl, hf 65 f rfl, hf 19 f rfl, hf 67 f rfl, hf 20 f rfl, hf 68 f rfl]
  exact ⟨⟨t, t1, by rw [hf 17 f rfl]; exact t2, by rw [hf 66 f rfl]; exact t3, by rw [hf 18 f rfl, hf 56 t rfl]; exact t4⟩, g⟩
-- finding
theorem sw_4 {K : Nat → Prop} {pc : Nat} {x : Int32} {lo a0 a1 a2 a3 : Int} : swL K pc x (#[a0, a1, a2, a3] : Array Int).toList lo = ((x.toInt = lo → jok pc a0 = true ∧ K (jmp pc a0)) ∧ (x.toInt = lo + 1 → jok pc a1 = true ∧ K (jmp pc a1)) ∧ (x.toInt = lo + 1 + 1 → jok pc a2 = true ∧ K (jmp pc a2)) ∧ (x.toInt = lo + 1 + 1 + 1 → jok pc a3 = true ∧ K (jmp pc a3)) ∧ True) := rfl
theorem sw_8 {K : Nat → Prop} {pc : Nat} {x : Int32} {lo a0 a1 a2 a3 a4 a5 a6 a7 : Int} : swL K pc x (#[a0, a1, a2, a3, a4, a5, a6, a7] : Array Int).toList lo = ((x.toInt = lo → jok pc a0 = true ∧ K (jmp pc a0)) ∧ (x.toInt = lo + 1 → jok pc a1 = true ∧ K (jmp pc a1)) ∧ (x.toInt = lo + 1 + 1 → jok pc a2 = true ∧ K (jmp pc a2)) ∧ (x.toInt = lo + 1 + 1 + 1 → jok pc a3 = true ∧ K (jmp pc a3)) ∧ (x.toInt = lo + 1 + 1 + 1 + 1 → jok pc a4 = true ∧ K (jmp pc a4)) ∧ (x.toInt = lo + 1 + 1 + 1 + 1 + 1 → jok pc a5 = true ∧ K (jmp pc a5)) ∧ (x.toInt = lo + 1 + 1 + 1 + 1 + 1 + 1 → jok pc a6 = true ∧ K (jmp pc a6)) ∧ (x.toInt = lo + 1 + 1 + 1 + 1 + 1 + 1 + 1 → jok pc a7 = true ∧ K (jmp pc a7)) ∧ True) := rfl
theorem sw_9 {K : Nat → Prop} {pc : Nat} {x : Int32} {lo a0 a1 a2 a3 a4 a5 a6 a7 a8 : Int} : swL K pc x (#[a0, a1, a2, a3, a4, a5, a6, a7, a8] : Array Int).toList lo = ((x.toInt = lo → jok pc a0 = true ∧ K (jmp pc a0)) ∧ (x.toInt = lo + 1 → jok pc a1 = true ∧ K (jmp pc a1)) ∧ (x.toInt = lo + 1 + 1 → jok pc a2 = true ∧ K (jmp pc a2)) ∧ (x.toInt = lo + 1 + 1 + 1 → jok pc a3 = true ∧ K (jmp pc a3)) ∧ (x.toInt = lo + 1 + 1 + 1 + 1 → jok pc a4 = true ∧ K (jmp pc a4)) ∧ (x.toInt = lo + 1 + 1 + 1 + 1 + 1 → jok pc a5 = true ∧ K (jmp pc a5)) ∧ (x.toInt = lo + 1 + 1 + 1 + 1 + 1 + 1 → jok pc a6 = true ∧ K (jmp pc a6)) ∧ (x.toInt = lo + 1 + 1 + 1 + 1 + 1 + 1 + 1 → jok pc a7 = true ∧ K (jmp pc a7)) ∧ (x.toInt = lo + 1 + 1 + 1 + 1 + 1 + 1 + 1 + 1 → jok pc a8 = true ∧ K (jmp pc a8)) ∧ True) := rfl
def fnR (s : aS) (A B C D F : Nat) (x y : Int32) : Int32 := if ¬ (0 ≤ x.toInt ∧ x.toInt ≤ (F : Int) - 1) then -1 else if y.toInt = 0 then s A x.toNatClampNeg else if y.toInt = 1 then s B x.toNatClampNeg else if y.toInt = 2 then s C x.toNatClampNeg else if y.toInt = 3 then s D x.toNatClampNeg else -2
set_option maxHeartbeats 4000000 in
set_option maxRecDepth 100000 in
theorem c_finding {x y : Int32} (hS : Sh mu ro) (hd : 2 ≤ d) (hF : sg 15 5 = nI F) (hF2 : F ≤ 40) (hk : K (some (.int (fnR sg 16 17 19 20 F x y))) sg) : aCall d 108 [.ref 0, .int x, .int y] n mu ro sg K := by
  have hm1 := nI_m1 (N := F) (by omega)
  have sz : (#[32, 42, 52, 62] : Array Int).size = (3 - 0 + 1 : Int).toNat := rfl
  have tl : (#[32, 42, 52, 62] : Array Int).toList = [32, 42, 52, 62] := rfl
  have le : ((0 : Int) ≤ 3) = True := eq_true (by decide)
  refine aCall_start (mL := 3) (cc := cX11_finding) (o := 11) (ret := (some .int)) 0 (by decide) (by decide +kernel) rfl rfl rfl rfl (Nat.le_of_ble_eq_true rfl) (fun G hC hG => ?_)
  simp only [exL, List.cons_append, List.nil_append, rp_0, rp_1, rp_2, rp_3, rp_4, rp_5, rp_6, rp_7, rp_8, rp_9, rp_10, rp_11, List.append_nil]
  refine hG (fun _ => false) 60 _ _ _ _ (Nat.le_of_ble_eq_true rfl) ?_
  simp only [D_X11_finding, ↓reduceIte, vcS, vcC, vcI, gtF, ptF, inS, inV, fv0, fv1, fv2, fv3, fw0, fw1, lg_0, lg_1, lg_2, lg_3, lg_4, lg_5, lg_6, lg_7, lg_8, lg_9, lg_10, lg_11, lg_12, lg_13, lg_14, lsq_0, lsl_0, lsq_1, lsl_1, lsq_2, lsl_2, lsq_3, lsl_3, lsq_4, lsl_4, lsq_5, lsl_5, lsq_6, lsl_6, lsq_7, lsl_7, lsq_8, lsl_8, lsq_9, lsl_9, lsq_10, lsl_10, lsq_11, lsl_11, lsq_12, lsl_12, lsq_13, lsl_13, lsq_14, lsl_14, tk_0, tk_1, tk_2, tk_3, tk_4, tk_5, tk_6, tk_7, tk_8, cs_n, cs_i, cs_l, cs_r, cs_u, nl, rt_s, rt_n, CST1, Nat.reduceAdd, Nat.reduceLeDiff, va_rf, rtOk, Bool.false_eq_true, Bool.true_eq_false, if_false, if_true, ite_true, ite_false, true_and, and_true, eq_self, ne_eq, not_false_eq_true, not_true_eq_false, false_implies, true_implies, and_self, reduceCtorEq, Nat.reduceBEq, Bool.or_false, Bool.false_or, Bool.or_true, Bool.true_or, if1_0, if1_1, if1_01, one_01, zer_01, lg_cmp_ge, lg_cmp_le, lg_cmp_gt, lg_cmp_lt, lg_cmp_eq, Classical.not_not, SHm hS, SHr hS, hF, ↓sw_4, sz, le]
  refine ⟨by omega, c_isIn ?_⟩
  simp only [D_X11_finding, ↓reduceIte, vcS, vcC, vcI, gtF, ptF, inS, inV, fv0, fv1, fv2, fv3, fw0, fw1, lg_0, lg_1, lg_2, lg_3, lg_4, lg_5, lg_6, lg_7, lg_8, lg_9, lg_10, lg_11, lg_12, lg_13, lg_14, lsq_0, lsl_0, lsq_1, lsl_1, lsq_2, lsl_2, lsq_3, lsl_3, lsq_4, lsl_4, lsq_5, lsl_5, lsq_6, lsl_6, lsq_7, lsl_7, lsq_8, lsl_8, lsq_9, lsl_9, lsq_10, lsl_10, lsq_11, lsl_11, lsq_12, lsl_12, lsq_13, lsl_13, lsq_14, lsl_14, tk_0, tk_1, tk_2, tk_3, tk_4, tk_5, tk_6, tk_7, tk_8, cs_n, cs_i, cs_l, cs_r, cs_u, nl, rt_s, rt_n, CST1, Nat.reduceAdd, Nat.reduceLeDiff, va_rf, rtOk, Bool.false_eq_true, Bool.true_eq_false, if_false, if_true, ite_true, ite_false, true_and, and_true, eq_self, ne_eq, not_false_eq_true, not_true_eq_false, false_implies, true_implies, and_self, reduceCtorEq, Nat.reduceBEq, Bool.or_false, Bool.false_or, Bool.or_true, Bool.true_or, if1_0, if1_1, if1_01, one_01, zer_01, lg_cmp_ge, lg_cmp_le, lg_cmp_gt, lg_cmp_lt, lg_cmp_eq, Classical.not_not, SHm hS, SHr hS, LIT1, hm1, ↓sw_4, sz, le, Int.reduceAdd]
  unfold fnR at hk
  refine ⟨fun q => ?_, fun q => ?_⟩
  · have v1 : vp_in x 40 := vp_in_iff.mpr (by omega)
    rw [if_neg (not_not_intro q)] at hk
    simp only [v1, true_and, implies_true, and_true]
    refine ⟨fun g => ?_, fun g => ?_, fun g => ?_, fun g => ?_, fun g => ?_⟩
    · rw [if_neg (by omega), if_neg (by omega), if_neg (by omega), if_neg (by omega)] at hk; exact hk
    · rw [if_pos g] at hk; exact hk
    · rw [if_neg (by omega), if_pos g] at hk; exact hk
    · rw [if_neg (by omega), if_neg (by omega), if_pos g] at hk; exact hk
    · rw [if_neg (by omega), if_neg (by omega), if_neg (by omega), if_pos g] at hk; exact hk
  · rw [if_pos q] at hk; exact hk
set_option maxHeartbeats 4000000 in
set_option maxRecDepth 100000 in
theorem m_finding {x y : Int32} (hS : Sh mu ro) (hd : 2 ≤ d) (hF : sg 48 21 = nI F) (hF2 : F ≤ 40) (hk : K (some (.int (fnR sg 65 66 67 68 F x y))) sg) : aCall d 193 [.ref 48, .int x, .int y] n mu ro sg K := by
  have hm1 := lI_m1 (N := F) (by omega)
  have sz : (#[29, 36, 43, 50] : Array Int).size = (3 - 0 + 1 : Int).toNat := rfl
  have tl : (#[29, 36, 43, 50] : Array Int).toList = [29, 36, 43, 50] := rfl
  have le : ((0 : Int) ≤ 3) = True := eq_true (by decide)
  refine aCall_start (mL := 3) (cc := cX12_finding) (o := 12) (ret := (some .int)) 0 (by decide) (by decide +kernel) rfl rfl rfl rfl (Nat.le_of_ble_eq_true rfl) (fun G hC hG => ?_)
  simp only [exL, List.cons_append, List.nil_append, rp_0, rp_1, rp_2, rp_3, rp_4, rp_5, rp_6, rp_7, rp_8, rp_9, rp_10, rp_11, List.append_nil]
  refine hG (fun _ => false) 60 _ _ _ _ (Nat.le_of_ble_eq_true rfl) ?_
  simp only [D_X12_finding, ↓reduceIte, vcS, vcC, vcI, gtF, ptF, inS, inV, fv0, fv1, fv2, fv3, fw0, fw1, lg_0, lg_1, lg_2, lg_3, lg_4, lg_5, lg_6, lg_7, lg_8, lg_9, lg_10, lg_11, lg_12, lg_13, lg_14, lsq_0, lsl_0, lsq_1, lsl_1, lsq_2, lsl_2, lsq_3, lsl_3, lsq_4, lsl_4, lsq_5, lsl_5, lsq_6, lsl_6, lsq_7, lsl_7, lsq_8, lsl_8, lsq_9, lsl_9, lsq_10, lsl_10, lsq_11, lsl_11, lsq_12, lsl_12, lsq_13, lsl_13, lsq_14, lsl_14, tk_0, tk_1, tk_2, tk_3, tk_4, tk_5, tk_6, tk_7, tk_8, cs_n, cs_i, cs_l, cs_r, cs_u, nl, rt_s, rt_n, CST1, Nat.reduceAdd, Nat.reduceLeDiff, va_rf, rtOk, Bool.false_eq_true, Bool.true_eq_false, if_false, if_true, ite_true, ite_false, true_and, and_true, eq_self, ne_eq, not_false_eq_true, not_true_eq_false, false_implies, true_implies, and_self, reduceCtorEq, Nat.reduceBEq, Bool.or_false, Bool.false_or, Bool.or_true, Bool.true_or, if1_0, if1_1, if1_01, one_01, zer_01, lg_cmp_ge, lg_cmp_le, lg_cmp_gt, lg_cmp_lt, lg_cmp_eq, Classical.not_not, SHm hS, SHr hS, hF, ↓sw_4, sz, le]
  refine ⟨by omega, m_in ?_⟩
  simp only [D_X12_finding, ↓reduceIte, vcS, vcC, vcI, gtF, ptF, inS, inV, fv0, fv1, fv2, fv3, fw0, fw1, lg_0, lg_1, lg_2, lg_3, lg_4, lg_5, lg_6, lg_7, lg_8, lg_9, lg_10, lg_11, lg_12, lg_13, lg_14, lsq_0, lsl_0, lsq_1, lsl_1, lsq_2, lsl_2, lsq_3, lsl_3, lsq_4, lsl_4, lsq_5, lsl_5, lsq_6, lsl_6, lsq_7, lsl_7, lsq_8, lsl_8, lsq_9, lsl_9, lsq_10, lsl_10, lsq_11, lsl_11, lsq_12, lsl_12, lsq_13, lsl_13, lsq_14, lsl_14, tk_0, tk_1, tk_2, tk_3, tk_4, tk_5, tk_6, tk_7, tk_8, cs_n, cs_i, cs_l, cs_r, cs_u, nl, rt_s, rt_n, CST1, Nat.reduceAdd, Nat.reduceLeDiff, va_rf, rtOk, Bool.false_eq_true, Bool.true_eq_false, if_false, if_true, ite_true, ite_false, true_and, and_true, eq_self, ne_eq, not_false_eq_true, not_true_eq_false, false_implies, true_implies, and_self, reduceCtorEq, Nat.reduceBEq, Bool.or_false, Bool.false_or, Bool.or_true, Bool.true_or, if1_0, if1_1, if1_01, one_01, zer_01, lg_cmp_ge, lg_cmp_le, lg_cmp_gt, lg_cmp_lt, lg_cmp_eq, Classical.not_not, SHm hS, SHr hS, LIT2, toL, hm1, ↓sw_4, sz, le, Int.reduceAdd]
  unfold fnR at hk
  refine ⟨fun q => ?_, fun q => ?_⟩
  · have v1 : vp_in x 40 := vp_in_iff.mpr (by omega)
    rw [if_neg (not_not_intro q)] at hk
    simp only [v1, true_and, implies_true, and_true]
    refine ⟨fun g => ?_, fun g => ?_, fun g => ?_, fun g => ?_, fun g => ?_⟩
    · rw [if_neg (by omega), if_neg (by omega), if_neg (by omega), if_neg (by omega)] at hk; exact hk
    · rw [if_pos g] at hk; exact hk
    · rw [if_neg (by omega), if_pos g] at hk; exact hk
    · rw [if_neg (by omega), if_neg (by omega), if_pos g] at hk; exact hk
    · rw [if_neg (by omega), if_neg (by omega), if_neg (by omega), if_pos g] at hk; exact hk
  · rw [if_pos q] at hk; exact hk
set_option maxHeartbeats 4000000 in
set_option maxRecDepth 100000 in
theorem b_finding {x y : Int32} (hS : Sh mu ro) (hd : 2 ≤ d) (hI : I_fd sg F T) (hk : ∀ r, K r sg) : aCall d 108 [.ref 0, .int x, .int y] n mu ro sg (fun r1 sg1 => aCall d 193 [.ref 48, .int x, .int y] n mu ro sg1 (fun r2 sg2 => r1 = r2 ∧ K r1 sg2)) := by
  obtain ⟨⟨i1, i2⟩, i3, i4, i5⟩ := id hI
  refine c_finding hS hd i1 i3 (m_finding hS hd i2 i3 ⟨?_, hk _⟩)
  unfold fnR
  by_cases q : 0 ≤ x.toInt ∧ x.toInt ≤ (F : Int) - 1
  · have := i_cl q.1
    obtain ⟨⟨t, t1, t2, t3, t4⟩, g1, g2, g3, g4, g5, g6⟩ := i4 x.toNatClampNeg (by omega)
    rw [g1, t2, t3, g3, g5]
  · rw [if_pos q, if_pos q]
-- clear
def clrR (s : aS) (A F : Nat) (x y : Int32) : Int32 := if ¬ (0 ≤ x.toInt ∧ x.toInt ≤ (F : Int) - 1) then -1 else if ¬ (0 ≤ y.toInt ∧ y.toInt ≤ 2) then -2 else s A x.toNatClampNeg
def clrS (s : aS) (A F : Nat) (x y : Int32) : aS := if (0 ≤ x.toInt ∧ x.toInt ≤ (F : Int) - 1) ∧ (0 ≤ y.toInt ∧ y.toInt ≤ 2) then s2 s A x.toNatClampNeg y else s
set_option maxHeartbeats 4000000 in
set_option maxRecDepth 100000 in
theorem c_clear {x y : Int32} (hS : Sh mu ro) (hd : 2 ≤ d) (hF : sg 15 5 = nI F) (hF2 : F ≤ 40) (hk : K (some (.int (clrR sg 20 F x y))) (clrS sg 20 F x y)) : aCall d 109 [.ref 0, .int x, .int y] n mu ro sg K := by
  have hm1 := nI_m1 (N := F) (by omega)
  refine aCall_start (mL := 4) (cc := cX11_clear) (o := 11) (ret := (some .int)) 1 (by decide) (by decide +kernel) rfl rfl rfl rfl (Nat.le_of_ble_eq_true rfl) (fun G hC hG => ?_)
  simp only [exL, List.cons_append, List.nil_append, rp_0, rp_1, rp_2, rp_3, rp_4, rp_5, rp_6, rp_7, rp_8, rp_9, rp_10, rp_11, List.append_nil]
  refine hG (fun _ => false) 60 _ _ _ _ (Nat.le_of_ble_eq_true rfl) ?_
  simp only [D_X11_clear, ↓reduceIte, vcS, vcC, vcI, gtF, ptF, inS, inV, fv0, fv1, fv2, fv3, fw0, fw1, lg_0, lg_1, lg_2, lg_3, lg_4, lg_5, lg_6, lg_7, lg_8, lg_9, lg_10, lg_11, lg_12, lg_13, lg_14, lsq_0, lsl_0, lsq_1, lsl_1, lsq_2, lsl_2, lsq_3, lsl_3, lsq_4, lsl_4, lsq_5, lsl_5, lsq_6, lsl_6, lsq_7, lsl_7, lsq_8, lsl_8, lsq_9, lsl_9, lsq_10, lsl_10, lsq_11, lsl_11, lsq_12, lsl_12, lsq_13, lsl_13, lsq_14, lsl_14, tk_0, tk_1, tk_2, tk_3, tk_4, tk_5, tk_6, tk_7, tk_8, cs_n, cs_i, cs_l, cs_r, cs_u, nl, rt_s, rt_n, CST1, Nat.reduceAdd, Nat.reduceLeDiff, va_rf, rtOk, Bool.false_eq_true, Bool.true_eq_false, if_false, if_true, ite_true, ite_false, true_and, and_true, eq_self, ne_eq, not_false_eq_true, not_true_eq_false, false_implies, true_implies, and_self, reduceCtorEq, Nat.reduceBEq, Bool.or_false, Bool.false_or, Bool.or_true, Bool.true_or, if1_0, if1_1, if1_01, one_01, zer_01, lg_cmp_ge, lg_cmp_le, lg_cmp_gt, lg_cmp_lt, lg_cmp_eq, Classical.not_not, SHm hS, SHr hS, hF]
  unfold clrR clrS at hk
  refine ⟨by omega, c_isIn ?_⟩
  simp only [D_X11_clear, ↓reduceIte, vcS, vcC, vcI, gtF, ptF, inS, inV, fv0, fv1, fv2, fv3, fw0, fw1, lg_0, lg_1, lg_2, lg_3, lg_4, lg_5, lg_6, lg_7, lg_8, lg_9, lg_10, lg_11, lg_12, lg_13, lg_14, lsq_0, lsl_0, lsq_1, lsl_1, lsq_2, lsl_2, lsq_3, lsl_3, lsq_4, lsl_4, lsq_5, lsl_5, lsq_6, lsl_6, lsq_7, lsl_7, lsq_8, lsl_8, lsq_9, lsl_9, lsq_10, lsl_10, lsq_11, lsl_11, lsq_12, lsl_12, lsq_13, lsl_13, lsq_14, lsl_14, tk_0, tk_1, tk_2, tk_3, tk_4, tk_5, tk_6, tk_7, tk_8, cs_n, cs_i, cs_l, cs_r, cs_u, nl, rt_s, rt_n, CST1, Nat.reduceAdd, Nat.reduceLeDiff, va_rf, rtOk, Bool.false_eq_true, Bool.true_eq_false, if_false, if_true, ite_true, ite_false, true_and, and_true, eq_self, ne_eq, not_false_eq_true, not_true_eq_false, false_implies, true_implies, and_self, reduceCtorEq, Nat.reduceBEq, Bool.or_false, Bool.false_or, Bool.or_true, Bool.true_or, if1_0, if1_1, if1_01, one_01, zer_01, lg_cmp_ge, lg_cmp_le, lg_cmp_gt, lg_cmp_lt, lg_cmp_eq, Classical.not_not, SHm hS, SHr hS, LIT1, hm1]
  refine ⟨fun q => ⟨by omega, c_isIn ?_⟩, fun q => ?_⟩
  · simp only [D_X11_clear, ↓reduceIte, vcS, vcC, vcI, gtF, ptF, inS, inV, fv0, fv1, fv2, fv3, fw0, fw1, lg_0, lg_1, lg_2, lg_3, lg_4, lg_5, lg_6, lg_7, lg_8, lg_9, lg_10, lg_11, lg_12, lg_13, lg_14, lsq_0, lsl_0, lsq_1, lsl_1, lsq_2, lsl_2, lsq_3, lsl_3, lsq_4, lsl_4, lsq_5, lsl_5, lsq_6, lsl_6, lsq_7, lsl_7, lsq_8, lsl_8, lsq_9, lsl_9, lsq_10, lsl_10, lsq_11, lsl_11, lsq_12, lsl_12, lsq_13, lsl_13, lsq_14, lsl_14, tk_0, tk_1, tk_2, tk_3, tk_4, tk_5, tk_6, tk_7, tk_8, cs_n, cs_i, cs_l, cs_r, cs_u, nl, rt_s, rt_n, CST1, Nat.reduceAdd, Nat.reduceLeDiff, va_rf, rtOk, Bool.false_eq_true, Bool.true_eq_false, if_false, if_true, ite_true, ite_false, true_and, and_true, eq_self, ne_eq, not_false_eq_true, not_true_eq_false, false_implies, true_implies, and_self, reduceCtorEq, Nat.reduceBEq, Bool.or_false, Bool.false_or, Bool.or_true, Bool.true_or, if1_0, if1_1, if1_01, one_01, zer_01, lg_cmp_ge, lg_cmp_le, lg_cmp_gt, lg_cmp_lt, lg_cmp_eq, Classical.not_not, SHm hS, SHr hS, LIT1]
    refine ⟨fun q2 => ?_, fun q2 => ?_⟩
    · have v1 : vp_in x 40 := vp_in_iff.mpr (by omega)
      rw [if_neg (not_not_intro q), if_neg (not_not_intro q2), if_pos ⟨q, q2⟩] at hk
      exact ⟨v1, v1, hk⟩
    · rw [if_neg (not_not_intro q), if_pos q2, if_neg (fun z => q2 z.2)] at hk
      exact hk
  · rw [if_pos q, if_neg (fun z => q z.1)] at hk
    exact hk
set_option maxHeartbeats 4000000 in
set_option maxRecDepth 100000 in
theorem m_clear {x y : Int32} (hS : Sh mu ro) (hd : 2 ≤ d) (hF : sg 48 21 = nI F) (hF2 : F ≤ 40) (hk : K (some (.int (clrR sg 68 F x y))) (clrS sg 68 F x y)) : aCall d 194 [.ref 48, .int x, .int y] n mu ro sg K := by
  have hm1 := lI_m1 (N := F) (by omega)
  refine aCall_start (mL := 4) (cc := cX12_clear) (o := 12) (ret := (some .int)) 1 (by decide) (by decide +kernel) rfl rfl rfl rfl (Nat.le_of_ble_eq_true rfl) (fun G hC hG => ?_)
  simp only [exL, List.cons_append, List.nil_append, rp_0, rp_1, rp_2, rp_3, rp_4, rp_5, rp_6, rp_7, rp_8, rp_9, rp_10, rp_11, List.append_nil]
  refine hG (fun _ => false) 60 _ _ _ _ (Nat.le_of_ble_eq_true rfl) ?_
  simp only [D_X12_clear, ↓reduceIte, vcS, vcC, vcI, gtF, ptF, inS, inV, fv0, fv1, fv2, fv3, fw0, fw1, lg_0, lg_1, lg_2, lg_3, lg_4, lg_5, lg_6, lg_7, lg_8, lg_9, lg_10, lg_11, lg_12, lg_13, lg_14, lsq_0, lsl_0, lsq_1, lsl_1, lsq_2, lsl_2, lsq_3, lsl_3, lsq_4, lsl_4, lsq_5, lsl_5, lsq_6, lsl_6, lsq_7, lsl_7, lsq_8, lsl_8, lsq_9, lsl_9, lsq_10, lsl_10, lsq_11, lsl_11, lsq_12, lsl_12, lsq_13, lsl_13, lsq_14, lsl_14, tk_0, tk_1, tk_2, tk_3, tk_4, tk_5, tk_6, tk_7, tk_8, cs_n, cs_i, cs_l, cs_r, cs_u, nl, rt_s, rt_n, CST1, Nat.reduceAdd, Nat.reduceLeDiff, va_rf, rtOk, Bool.false_eq_true, Bool.true_eq_false, if_false, if_true, ite_true, ite_false, true_and, and_true, eq_self, ne_eq, not_false_eq_true, not_true_eq_false, false_implies, true_implies, and_self, reduceCtorEq, Nat.reduceBEq, Bool.or_false, Bool.false_or, Bool.or_true, Bool.true_or, if1_0, if1_1, if1_01, one_01, zer_01, lg_cmp_ge, lg_cmp_le, lg_cmp_gt, lg_cmp_lt, lg_cmp_eq, Classical.not_not, SHm hS, SHr hS, hF]
  unfold clrR clrS at hk
  refine ⟨by omega, m_in ?_⟩
  simp only [D_X12_clear, ↓reduceIte, vcS, vcC, vcI, gtF, ptF, inS, inV, fv0, fv1, fv2, fv3, fw0, fw1, lg_0, lg_1, lg_2, lg_3, lg_4, lg_5, lg_6, lg_7, lg_8, lg_9, lg_10, lg_11, lg_12, lg_13, lg_14, lsq_0, lsl_0, lsq_1, lsl_1, lsq_2, lsl_2, lsq_3, lsl_3, lsq_4, lsl_4, lsq_5, lsl_5, lsq_6, lsl_6, lsq_7, lsl_7, lsq_8, lsl_8, lsq_9, lsl_9, lsq_10, lsl_10, lsq_11, lsl_11, lsq_12, lsl_12, lsq_13, lsl_13, lsq_14, lsl_14, tk_0, tk_1, tk_2, tk_3, tk_4, tk_5, tk_6, tk_7, tk_8, cs_n, cs_i, cs_l, cs_r, cs_u, nl, rt_s, rt_n, CST1, Nat.reduceAdd, Nat.reduceLeDiff, va_rf, rtOk, Bool.false_eq_true, Bool.true_eq_false, if_false, if_true, ite_true, ite_false, true_and, and_true, eq_self, ne_eq, not_false_eq_true, not_true_eq_false, false_implies, true_implies, and_self, reduceCtorEq, Nat.reduceBEq, Bool.or_false, Bool.false_or, Bool.or_true, Bool.true_or, if1_0, if1_1, if1_01, one_01, zer_01, lg_cmp_ge, lg_cmp_le, lg_cmp_gt, lg_cmp_lt, lg_cmp_eq, Classical.not_not, SHm hS, SHr hS, LIT2, toL, hm1]
  refine ⟨fun q => ⟨by omega, m_in ?_⟩, fun q => ?_⟩
  · simp only [D_X12_clear, ↓reduceIte, vcS, vcC, vcI, gtF, ptF, inS, inV, fv0, fv1, fv2, fv3, fw0, fw1, lg_0, lg_1, lg_2, lg_3, lg_4, lg_5, lg_6, lg_7, lg_8, lg_9, lg_10, lg_11, lg_12, lg_13, lg_14, lsq_0, lsl_0, lsq_1, lsl_1, lsq_2, lsl_2, lsq_3, lsl_3, lsq_4, lsl_4, lsq_5, lsl_5, lsq_6, lsl_6, lsq_7, lsl_7, lsq_8, lsl_8, lsq_9, lsl_9, lsq_10, lsl_10, lsq_11, lsl_11, lsq_12, lsl_12, lsq_13, lsl_13, lsq_14, lsl_14, tk_0, tk_1, tk_2, tk_3, tk_4, tk_5, tk_6, tk_7, tk_8, cs_n, cs_i, cs_l, cs_r, cs_u, nl, rt_s, rt_n, CST1, Nat.reduceAdd, Nat.reduceLeDiff, va_rf, rtOk, Bool.false_eq_true, Bool.true_eq_false, if_false, if_true, ite_true, ite_false, true_and, and_true, eq_self, ne_eq, not_false_eq_true, not_true_eq_false, false_implies, true_implies, and_self, reduceCtorEq, Nat.reduceBEq, Bool.or_false, Bool.false_or, Bool.or_true, Bool.true_or, if1_0, if1_1, if1_01, one_01, zer_01, lg_cmp_ge, lg_cmp_le, lg_cmp_gt, lg_cmp_lt, lg_cmp_eq, Classical.not_not, SHm hS, SHr hS, LIT2, toL]
    refine ⟨fun q2 => ?_, fun q2 => ?_⟩
    · have v1 : vp_in x 40 := vp_in_iff.mpr (by omega)
      rw [if_neg (not_not_intro q), if_neg (not_not_intro q2), if_pos ⟨q, q2⟩] at hk
      exact ⟨v1, v1, hk⟩
    · rw [if_neg (not_not_intro q), if_pos q2, if_neg (fun z => q2 z.2)] at hk
      exact hk
  · rw [if_pos q, if_neg (fun z => q z.1)] at hk
    exact hk
set_option maxHeartbeats 4000000 in
set_option maxRecDepth 100000 in
theorem b_clear {x y : Int32} (hS : Sh mu ro) (hd : 2 ≤ d) (hI : I_fd sg F T) (hk : ∀ r sg2, I_fd sg2 F T → (∀ a k, a ≠ 20 → a ≠ 68 → sg2 a k = sg a k) → K r sg2) : aCall d 109 [.ref 0, .int x, .int y] n mu ro sg (fun r1 sg1 => aCall d 194 [.ref 48, .int x, .int y] n mu ro sg1 (fun r2 sg2 => r1 = r2 ∧ K r1 sg2)) := by
  obtain ⟨⟨i1, i2⟩, i3, i4, i5⟩ := id hI
  by_cases q : (0 ≤ x.toInt ∧ x.toInt ≤ (F : Int) - 1) ∧ (0 ≤ y.toInt ∧ y.toInt ≤ 2)
  · have hx := i_cl q.1.1
    obtain ⟨f, hf⟩ : ∃ f, f = x.toNatClampNeg := ⟨_, rfl⟩
    refine c_clear hS hd i1 i3 ?_
    rw [clrR, clrS, if_neg (not_not_intro q.1), if_neg (not_not_intro q.2), if_pos q, ← hf]
    refine m_clear hS hd (by rw [s2_n (by omega)]; exact i2) i3 ?_
    rw [clrR, clrS, if_neg (not_not_intro q.1), if_neg (not_not_intro q.2), if_pos q, ← hf]
    refine ⟨by rw [s2_n (by omega), (i4 f (by omega)).2.2.2.2.2.1], hk _ _ ⟨⟨by ((try simp (disch := omega) only [s2_y, s2_n, rg_y, rg_n, fl_y, fl_n]); (try with_reducible rfl); (try assumption)), by ((try simp (disch := omega) only [s2_y, s2_n, rg_y, rg_n, fl_y, fl_n]); (try with_reducible rfl); (try assumption))⟩, i3, fun g hg => ?_, fun g hg hg2 => ?_⟩ (fun a k h1 h2 => by rw [s2_n (by omega), s2_n (by omega)])⟩
    · obtain ⟨⟨t, t1, t2, t3, t4⟩, g1, g2, g3, g4, g5, g6⟩ := i4 g hg
      have e : ∀ a, a ≠ 20 → a ≠ 68 → ∀ k, s2 (s2 sg 20 f y) 68 f y a k = sg a k := fun a h1 h2 k => by rw [s2_n (by omega), s2_n (by omega)]
      unfold I_f1
      rw [e 16 (by decide) (by decide), e 65 (by decide) (by decide), e 19 (by decide) (by decide), e 67 (by decide) (by decide)]
      refine ⟨⟨t, t1, by rw [e 17 (by decide) (by decide)]; exact t2, by rw [e 66 (by decide) (by decide)]; exact t3, by rw [e 18 (by decide) (by decide), e 56 (by decide) (by decide)]; exact t4⟩, g1, g2, g3, g4, ?_⟩
      by_cases z : g = f
      · subst z
        rw [s2_n (by omega), s2_y ⟨rfl, rfl⟩, s2_y ⟨rfl, rfl⟩]
        exact ⟨rfl, q.2⟩
      · rw [s2_n (by omega), s2_n (by omega), s2_n (by omega), s2_n (by omega)]
        exact ⟨g5, g6⟩
    · rw [s2_n (by omega), s2_n (by omega)]
      exact i5 g hg hg2
  · refine c_clear hS hd i1 i3 ?_
    rw [clrS, if_neg q]
    refine m_clear hS hd i2 i3 ?_
    rw [clrS, if_neg q]
    refine ⟨?_, hk _ _ hI (fun _ _ _ _ => rfl)⟩
    unfold clrR
    (repeat' split) <;> first | rfl | (exfalso; ((try simp only [i_le, i_lt, i_eq, l_le, l_lt, l_eq, i_ne, l_ne, toL, l_add, l_sub1, LIT1, LIT2, Int.reduceNeg, ge_iff_le, gt_iff_lt] at *); omega))
end H54
