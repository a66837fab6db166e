/-! part 35: grow, the class -/
section H35
variable {d n N : Nat} {mu : aM} {ro : aR} {sg : aS} {K : Option Value → aS → Prop}
def hbF (b : Int32) (g : Nat → Nat) : Nat → Nat → Bool
  | 0, _ => false
  | m + 1, x => if bt1 b (nI (4 * g (x - 1) + g x)) then true else hbF b g m (x + 1)
def wkF (L g : Nat → Nat) : Nat → Nat → Nat → Nat × Nat
  | 0, x, s => (x, s)
  | m + 1, x, s => if L (4 * s + g x) = 0 then (x, s) else wkF L g m (x + 1) (L (4 * s + g x))
def upN (f : Nat → Nat) (a v : Nat) : Nat → Nat := fun y => if y = a then v else f y
theorem upN_y {f : Nat → Nat} {a v : Nat} : upN f a v a = v := if_pos rfl
theorem upN_n {f : Nat → Nat} {a v y : Nat} (h : y ≠ a) : upN f a v y = f y := if_neg h
def gmF (g : Nat → Nat) : Nat → Nat → Nat → (Nat → Nat) → (Nat → Nat) → Nat → (Nat → Nat) × (Nat → Nat) × Nat × Nat
  | 0, _, s, L, cb, N => (L, cb, N, s)
  | m + 1, x, s, L, cb, N => if L (4 * s + g x) = 0 then gmF g m (x + 1) N (upN L (4 * s + g x) N) (upN cb N (g x)) (N + 1) else gmF g m (x + 1) (L (4 * s + g x)) L cb N
theorem Tre.new {L cb : Nat → Nat} {s c : Nat} (h : Tre L cb N) (hs : s < N) (hc : c < 4) (hN : N < 16) (h0 : L (4 * s + c) = 0) : Tre (upN L (4 * s + c) N) (upN cb N c) (N + 1) := by
  have n1 := h.n1
  refine ⟨by omega, by omega, fun x hx hx0 => ?_, fun x y hx hy hx0 he => ?_⟩
  · by_cases q : x = 4 * s + c
    · subst q
      rw [upN_y, upN_y]
      omega
    · rw [upN_n q] at hx0 ⊢
      obtain ⟨u1, u2, u3⟩ := h.up x hx hx0
      rw [upN_n (by omega)]
      omega
  · by_cases q : x = 4 * s + c
    · by_cases q2 : y = 4 * s + c
      · omega
      · rw [q, upN_y, upN_n q2] at he
        have := (h.up y hy (by omega)).2.1
        omega
    · rw [upN_n q] at hx0 he
      by_cases q2 : y = 4 * s + c
      · rw [q2, upN_y] at he
        have := (h.up x hx hx0).2.1
        omega
      · rw [upN_n q2] at he
        exact h.inj x y hx hy hx0 he
theorem Tre.far {L cb : Nat → Nat} (h : Tre L cb N) {s c : Nat} (hs : N ≤ s) (hc : c < 4) (h16 : s < 16) : L (4 * s + c) = 0 := by
  refine Classical.byContradiction (fun z => ?_)
  have := h.up (4 * s + c) (by omega) z
  omega
theorem gm_ge {g : Nat → Nat} : ∀ m x s (L cb : Nat → Nat) N, N ≤ (gmF g m x s L cb N).2.2.1
  | 0, _, _, _, _, _ => Nat.le_refl _
  | m + 1, x, s, L, cb, N => by
    unfold gmF
    split
    · exact Nat.le_trans (Nat.le_succ N) (gm_ge m _ _ _ _ _)
    · exact gm_ge m _ _ _ _ _
theorem gm_new {g : Nat → Nat} : ∀ m x s (L cb : Nat → Nat) N, Tre L cb N → s < N → (∀ j, j < m → g (x + j) < 4) → (m = 0 ∨ L (4 * s + g x) = 0) → N + m ≤ 16 → (gmF g m x s L cb N).2.2.1 = N + m
  | 0, _, _, _, _, _, _, _, _, _, _ => rfl
  | m + 1, x, s, L, cb, N, hT, hs, hg, h0, hN => by
    have h0' : L (4 * s + g x) = 0 := h0.resolve_left (by omega)
    have g0 := hg 0 (by omega)
    rw [Nat.add_zero] at g0
    rw [gmF, if_pos h0']
    have hT' := hT.new hs g0 (by omega) h0'
    rw [gm_new m (x + 1) N _ _ (N + 1) hT' (by omega) (fun j hj => by have := hg (j + 1) (by omega); rw [show x + 1 + j = x + (j + 1) by omega]; exact this) ?_ (by omega)]
    · omega
    · by_cases hm : m = 0
      · exact Or.inl hm
      · refine Or.inr ?_
        have g1 := hg 1 (by omega)
        rw [upN_n (by omega)]
        exact hT.far (Nat.le_refl N) g1 (by omega)
/-- along what is there, then what is new -/
theorem gm_walk {L cb g : Nat → Nat} (hT : Tre L cb N) : ∀ m x s, s < N → (∀ j, j < m → g (x + j) < 4) → gmF g m x s L cb N = gmF g (x + m - (wkF L g m x s).1) (wkF L g m x s).1 (wkF L g m x s).2 L cb N ∧ x ≤ (wkF L g m x s).1 ∧ (wkF L g m x s).1 ≤ x + m ∧ (wkF L g m x s).2 < N ∧ ((wkF L g m x s).1 = x + m ∨ L (4 * (wkF L g m x s).2 + g (wkF L g m x s).1) = 0)
  | 0, x, s, hs, _ => by
    simp only [wkF]
    refine ⟨by rw [show x + 0 - x = 0 by omega], by omega, by omega, hs, Or.inl (by omega)⟩
  | m + 1, x, s, hs, hg => by
    have n16 := hT.n16
    have g0 := hg 0 (by omega)
    rw [Nat.add_zero] at g0
    by_cases h0 : L (4 * s + g x) = 0
    · have e : wkF L g (m + 1) x s = (x, s) := by rw [wkF, if_pos h0]
      rw [e]
      refine ⟨by rw [show x + (m + 1) - x = m + 1 by omega], by omega, by simp only; omega, hs, Or.inr h0⟩
    · have e : wkF L g (m + 1) x s = wkF L g m (x + 1) (L (4 * s + g x)) := by rw [wkF, if_neg h0]
      obtain ⟨i1, i2, i3, i4, i5⟩ := gm_walk hT m (x + 1) (L (4 * s + g x)) (hT.up _ (by omega) h0).2.1 (fun j hj => by have := hg (j + 1) (by omega); rw [show x + 1 + j = x + (j + 1) by omega]; exact this)
      rw [e, gmF, if_neg h0, show x + (m + 1) = x + 1 + m by omega]
      exact ⟨i1, by omega, i3, i4, i5⟩
theorem C_tp.new {s : aS} {L cb : Nat → Nat} {q c : Nat} (h : C_tp s L cb N) (hT : Tre L cb N) (hq : q < N) (hc : c < 4) (hN : N < 16) (h0 : L (4 * q + c) = 0) : C_tp (s2 (s2 (s2 s 31 (4 * q + c) (nI N)) 32 N (nI c)) 30 4 (nI (N + 1))) (upN L (4 * q + c) N) (upN cb N c) (N + 1) := by
  obtain ⟨h1, h2, h3⟩ := h
  refine ⟨by ((try simp (disch := omega) only [s2_y, s2_n, rg_y, rg_n, fl_y, fl_n]); (try with_reducible rfl); (try assumption)), fun x hx => ?_, fun x hx hx0 => ?_⟩
  · by_cases hxq : x = 4 * q + c
    · subst hxq
      rw [upN_y]
      ((try simp (disch := omega) only [s2_y, s2_n, rg_y, rg_n, fl_y, fl_n]); (try with_reducible rfl); (try assumption))
    · rw [upN_n hxq]
      rw [s2_n (by omega), s2_n (by omega), s2_n (by omega)]
      exact h2 x hx
  · by_cases hxq : x = 4 * q + c
    · subst hxq
      rw [upN_y, upN_y]
      ((try simp (disch := omega) only [s2_y, s2_n, rg_y, rg_n, fl_y, fl_n]); (try with_reducible rfl); (try assumption))
    · rw [upN_n hxq] at hx0 ⊢
      have := (hT.up x hx hx0).2.1
      rw [upN_n (by omega), s2_n (by omega), s2_n (by omega), s2_n (by omega)]
      exact h3 x hx hx0
theorem M_tp.new {s : aS} {L : Nat → Nat} {q c : Nat} (h : M_tp s L N) (hN0 : 1 ≤ N) (hq : q < N) (hc : c < 4) (hN : N < 16) : M_tp (s2 (s2 s 75 (4 * q + c) (nI N)) 48 36 (nI (N + 1))) (upN L (4 * q + c) N) (N + 1) := by
  obtain ⟨h1, h2⟩ := h
  refine ⟨by ((try simp (disch := omega) only [s2_y, s2_n, rg_y, rg_n, fl_y, fl_n]); (try with_reducible rfl); (try assumption)), fun x hx => ?_⟩
  by_cases hxq : x = 4 * q + c
  · subst hxq
    rw [upN_y, if_neg (by omega)]
    ((try simp (disch := omega) only [s2_y, s2_n, rg_y, rg_n, fl_y, fl_n]); (try with_reducible rfl); (try assumption))
  · rw [upN_n hxq, s2_n (by omega), s2_n (by omega)]
    exact h2 x hx
set_option maxHeartbeats 4000000 in
set_option maxRecDepth 100000 in
theorem c_newState {s c : Nat} (hS : Sh mu ro) (hs : s < 16) (hc : c < 4) (hN : sg 30 4 = nI N) (hN16 : N < 16) (hk : K (some (.int (nI N))) (s2 (s2 (s2 sg 31 (4 * s + c) (nI N)) 32 N (nI c)) 30 4 (nI (N + 1)))) : aCall d 72 [.ref 30, .int (nI s), .int (nI c)] n mu ro sg K := by
  have n1 : s2 sg 31 (4 * s + c) (nI N) 30 4 = nI N := by ((try simp (disch := omega) only [s2_y, s2_n, rg_y, rg_n, fl_y, fl_n]); (try with_reducible rfl); (try assumption))
  have n2 : s2 (s2 sg 31 (4 * s + c) (nI N)) 32 N (nI c) 30 4 = nI N := by ((try simp (disch := omega) only [s2_y, s2_n, rg_y, rg_n, fl_y, fl_n]); (try with_reducible rfl); (try assumption))
  have n3 : s2 (s2 (s2 sg 31 (4 * s + c) (nI N)) 32 N (nI c)) 30 4 (nI (N + 1)) 30 4 = nI (N + 1) := by ((try simp (disch := omega) only [s2_y, s2_n, rg_y, rg_n, fl_y, fl_n]); (try with_reducible rfl); (try assumption))
  have e1 : (nI (4 * s + c)).toNatClampNeg = 4 * s + c := nI_clamp (by omega)
  have e2 : (nI N).toNatClampNeg = N := nI_clamp (by omega)
  have v1 : vp_in (nI (4 * s + c)) 64 := vp_in_nI (by omega) (by decide)
  have v2 : vp_in (nI N) 16 := vp_in_nI (by omega) (by decide)
  refine aCall_start (mL := 3) (cc := cX9_newState) (o := 9) (ret := (some .int)) 0 (by decide) (by decide +kernel) rfl rfl rfl rfl (Nat.le_of_ble_eq_true rfl) (fun G hC hG => ?_)
  simp only [exL, List.cons_append, List.nil_append, rp_0, rp_1, rp_2, rp_3, rp_4, rp_5, rp_6, rp_7, rp_8, rp_9, rp_10, rp_11, List.append_nil]
  refine hG (fun _ => false) 60 _ _ _ _ (Nat.le_of_ble_eq_true rfl) ?_
  simp only [D_X9_newState, ↓reduceIte, vcS, vcC, vcI, gtF, ptF, inS, inV, fv0, fv1, fv2, fv3, fw0, fw1, lg_0, lg_1, lg_2, lg_3, lg_4, lg_5, lg_6, lg_7, lg_8, lg_9, lg_10, lg_11, lg_12, lg_13, lg_14, lsq_0, lsl_0, lsq_1, lsl_1, lsq_2, lsl_2, lsq_3, lsl_3, lsq_4, lsl_4, lsq_5, lsl_5, lsq_6, lsl_6, lsq_7, lsl_7, lsq_8, lsl_8, lsq_9, lsl_9, lsq_10, lsl_10, lsq_11, lsl_11, lsq_12, lsl_12, lsq_13, lsl_13, lsq_14, lsl_14, tk_0, tk_1, tk_2, tk_3, tk_4, tk_5, tk_6, tk_7, tk_8, cs_n, cs_i, cs_l, cs_r, cs_u, nl, rt_s, rt_n, CST1, Nat.reduceAdd, Nat.reduceLeDiff, va_rf, rtOk, Bool.false_eq_true, Bool.true_eq_false, if_false, if_true, ite_true, ite_false, true_and, and_true, eq_self, ne_eq, not_false_eq_true, not_true_eq_false, false_implies, true_implies, and_self, reduceCtorEq, Nat.reduceBEq, Bool.or_false, Bool.false_or, Bool.or_true, Bool.true_or, if1_0, if1_1, if1_01, one_01, zer_01, lg_cmp_ge, lg_cmp_le, lg_cmp_gt, lg_cmp_lt, lg_cmp_eq, Classical.not_not, SHm hS, SHr hS, mr4, nI_add, e1, e2, v1, v2, hN, n1, n2, n3, nI_1, nI_pred]
  exact hk
set_option maxHeartbeats 4000000 in
set_option maxRecDepth 100000 in
theorem c_hasBarred {k i w : Nat} {g : Nat → Nat} (hS : Sh mu ro) (hd : 1 ≤ d) (hk4 : k < 4) (hw : 1 ≤ w) (hg : ∀ j, j < w → sg (41 + 2 * k) (i + j) = nI (g j) ∧ g j < 4) (hiw : i + w ≤ 60) (hk : K (some (.int (if hbF (sg 30 5) g (w - 1) 1 = true then 1 else 0))) sg) : aCall d 71 [.ref 30, .ref (40 + 2 * k), .int (nI i), .int (nI w)] n mu ro sg K := by
  obtain ⟨u1, u2, u3⟩ := shm hS hk4
  refine aCall_start (mL := 5) (cc := cX9_hasBarred) (o := 9) (ret := (some .boolean)) 1 (by decide) (by decide +kernel) rfl rfl rfl rfl (Nat.le_of_ble_eq_true rfl) (fun G hC hG => ?_)
  simp only [exL, List.cons_append, List.nil_append, rp_0, rp_1, rp_2, rp_3, rp_4, rp_5, rp_6, rp_7, rp_8, rp_9, rp_10, rp_11, List.append_nil]
  have loop : ∀ (m x : Nat), x + m = w → 1 ≤ x → hbF (sg 30 5) g (w - 1) 1 = hbF (sg 30 5) g m x → AW G 5 n 0 0 mu ro sg 3 [.ref 30, .ref (40 + 2 * k), .int (nI i), .int (nI w), .int (nI x)] [] := by
    intro m
    induction m with
    | zero =>
      intro x hx hx1 he
      have hq : (nI w ≤ nI x) = True := eq_true (nI_le (by omega) (by omega))
      refine hG (fun q => q == 3) 80 _ _ _ _ (Nat.le_of_ble_eq_true rfl) ?_
      simp only [D_X9_hasBarred, N_X9_hasBarred, ↓reduceIte, vcS, vcC, vcI, gtF, ptF, inS, inV, fv0, fv1, fv2, fv3, fw0, fw1, lg_0, lg_1, lg_2, lg_3, lg_4, lg_5, lg_6, lg_7, lg_8, lg_9, lg_10, lg_11, lg_12, lg_13, lg_14, lsq_0, lsl_0, lsq_1, lsl_1, lsq_2, lsl_2, lsq_3, lsl_3, lsq_4, lsl_4, lsq_5, lsl_5, lsq_6, lsl_6, lsq_7, lsl_7, lsq_8, lsl_8, lsq_9, lsl_9, lsq_10, lsl_10, lsq_11, lsl_11, lsq_12, lsl_12, lsq_13, lsl_13, lsq_14, lsl_14, tk_0, tk_1, tk_2, tk_3, tk_4, tk_5, tk_6, tk_7, tk_8, cs_n, cs_i, cs_l, cs_r, cs_u, nl, rt_s, rt_n, CST1, Nat.reduceAdd, Nat.reduceLeDiff, va_rf, rtOk, Bool.false_eq_true, Bool.true_eq_false, if_false, if_true, ite_true, ite_false, true_and, and_true, eq_self, ne_eq, not_false_eq_true, not_true_eq_false, false_implies, true_implies, and_self, reduceCtorEq, Nat.reduceBEq, Bool.or_false, Bool.false_or, Bool.or_true, Bool.true_or, if1_0, if1_1, if1_01, one_01, zer_01, lg_cmp_ge, lg_cmp_le, lg_cmp_gt, lg_cmp_lt, lg_cmp_eq, Classical.not_not, ↓im_T hq, ↓im_TN hq, hq]
      rw [he, hbF, if_neg (by decide)] at hk
      exact hk
    | succ m ih =>
      intro x hx hx1 he
      have hq : (nI w ≤ nI x) = False := eq_false (nI_ge (by omega) (by omega))
      have ex : (nI (i + x)).toNatClampNeg = i + x := nI_clamp (by omega)
      have ey : (nI (i + (x - 1))).toNatClampNeg = i + (x - 1) := nI_clamp (by omega)
      have hp : nI (i + x) - 1 = nI (i + (x - 1)) := by rw [show i + x = i + (x - 1) + 1 by omega, nI_pred]
      have vx : vp_in (nI (i + x)) 60 := vp_in_nI (by omega) (by decide)
      have vy : vp_in (nI (i + (x - 1))) 60 := vp_in_nI (by omega) (by decide)
      obtain ⟨g1, g2⟩ := hg x (by omega)
      obtain ⟨g3, g4⟩ := hg (x - 1) (by omega)
      refine hG (fun q => q == 3) 80 _ _ _ _ (Nat.le_of_ble_eq_true rfl) ?_
      simp only [D_X9_hasBarred, N_X9_hasBarred, ↓reduceIte, vcS, vcC, vcI, gtF, ptF, inS, inV, fv0, fv1, fv2, fv3, fw0, fw1, lg_0, lg_1, lg_2, lg_3, lg_4, lg_5, lg_6, lg_7, lg_8, lg_9, lg_10, lg_11, lg_12, lg_13, lg_14, lsq_0, lsl_0, lsq_1, lsl_1, lsq_2, lsl_2, lsq_3, lsl_3, lsq_4, lsl_4, lsq_5, lsl_5, lsq_6, lsl_6, lsq_7, lsl_7, lsq_8, lsl_8, lsq_9, lsl_9, lsq_10, lsl_10, lsq_11, lsl_11, lsq_12, lsl_12, lsq_13, lsl_13, lsq_14, lsl_14, tk_0, tk_1, tk_2, tk_3, tk_4, tk_5, tk_6, tk_7, tk_8, cs_n, cs_i, cs_l, cs_r, cs_u, nl, rt_s, rt_n, CST1, Nat.reduceAdd, Nat.reduceLeDiff, va_rf, rtOk, Bool.false_eq_true, Bool.true_eq_false, if_false, if_true, ite_true, ite_false, true_and, and_true, eq_self, ne_eq, not_false_eq_true, not_true_eq_false, false_implies, true_implies, and_self, reduceCtorEq, Nat.reduceBEq, Bool.or_false, Bool.false_or, Bool.or_true, Bool.true_or, if1_0, if1_1, if1_01, one_01, zer_01, lg_cmp_ge, lg_cmp_le, lg_cmp_gt, lg_cmp_lt, lg_cmp_eq, Classical.not_not, ↓im_F hq, ↓im_FN hq, hq, u1, u2, u3, SHm hS, SHr hS, nI_add, hp, ex, ey, vx, vy, g1, g3]
      refine ⟨hd, c_isBarN hS g4 g2 ?_⟩
      simp only [D_X9_hasBarred, N_X9_hasBarred, ↓reduceIte, vcS, vcC, vcI, gtF, ptF, inS, inV, fv0, fv1, fv2, fv3, fw0, fw1, lg_0, lg_1, lg_2, lg_3, lg_4, lg_5, lg_6, lg_7, lg_8, lg_9, lg_10, lg_11, lg_12, lg_13, lg_14, lsq_0, lsl_0, lsq_1, lsl_1, lsq_2, lsl_2, lsq_3, lsl_3, lsq_4, lsl_4, lsq_5, lsl_5, lsq_6, lsl_6, lsq_7, lsl_7, lsq_8, lsl_8, lsq_9, lsl_9, lsq_10, lsl_10, lsq_11, lsl_11, lsq_12, lsl_12, lsq_13, lsl_13, lsq_14, lsl_14, tk_0, tk_1, tk_2, tk_3, tk_4, tk_5, tk_6, tk_7, tk_8, cs_n, cs_i, cs_l, cs_r, cs_u, nl, rt_s, rt_n, CST1, Nat.reduceAdd, Nat.reduceLeDiff, va_rf, rtOk, Bool.false_eq_true, Bool.true_eq_false, if_false, if_true, ite_true, ite_false, true_and, and_true, eq_self, ne_eq, not_false_eq_true, not_true_eq_false, false_implies, true_implies, and_self, reduceCtorEq, Nat.reduceBEq, Bool.or_false, Bool.false_or, Bool.or_true, Bool.true_or, if1_0, if1_1, if1_01, one_01, zer_01, lg_cmp_ge, lg_cmp_le, lg_cmp_gt, lg_cmp_lt, lg_cmp_eq, Classical.not_not, nI_1]
      rw [hbF] at he
      refine ⟨fun q => ?_, fun q => ?_⟩
      · rw [if_neg q] at he
        exact ih (x + 1) (by omega) (by omega) he
      · rw [if_pos q] at he
        rw [he, if_pos rfl] at hk
        exact hk
  refine hG (fun q => q == 3) 80 _ _ _ _ (Nat.le_of_ble_eq_true rfl) ?_
  simp only [D_X9_hasBarred, N_X9_hasBarred, ↓reduceIte, vcS, vcC, vcI, gtF, ptF, inS, inV, fv0, fv1, fv2, fv3, fw0, fw1, lg_0, lg_1, lg_2, lg_3, lg_4, lg_5, lg_6, lg_7, lg_8, lg_9, lg_10, lg_11, lg_12, lg_13, lg_14, lsq_0, lsl_0, lsq_1, lsl_1, lsq_2, lsl_2, lsq_3, lsl_3, lsq_4, lsl_4, lsq_5, lsl_5, lsq_6, lsl_6, lsq_7, lsl_7, lsq_8, lsl_8, lsq_9, lsl_9, lsq_10, lsl_10, lsq_11, lsl_11, lsq_12, lsl_12, lsq_13, lsl_13, lsq_14, lsl_14, tk_0, tk_1, tk_2, tk_3, tk_4, tk_5, tk_6, tk_7, tk_8, cs_n, cs_i, cs_l, cs_r, cs_u, nl, rt_s, rt_n, CST1, Nat.reduceAdd, Nat.reduceLeDiff, va_rf, rtOk, Bool.false_eq_true, Bool.true_eq_false, if_false, if_true, ite_true, ite_false, true_and, and_true, eq_self, ne_eq, not_false_eq_true, not_true_eq_false, false_implies, true_implies, and_self, reduceCtorEq, Nat.reduceBEq, Bool.or_false, Bool.false_or, Bool.or_true, Bool.true_or, if1_0, if1_1, if1_01, one_01, zer_01, lg_cmp_ge, lg_cmp_le, lg_cmp_gt, lg_cmp_lt, lg_cmp_eq, Classical.not_not]
  exact loop (w - 1) 1 (by omega) (by omega) rfl
set_option maxHeartbeats 4000000 in
set_option maxRecDepth 100000 in
theorem c_growBy {k i w : Nat} {L cb g : Nat → Nat} (hS : Sh mu ro) (hd : 2 ≤ d) (hT : Tre L cb N) (hX : C_tp sg L cb N) (hk4 : k < 4) (hw : 1 ≤ w) (hg : ∀ j, j < w → sg (41 + 2 * k) (i + j) = nI (g j) ∧ g j < 4) (hiw : i + w ≤ 60)
    (hk1 : hbF (sg 30 5) g (w - 1) 1 = true → K (some (.int (-3))) sg) (hk2 : ¬ hbF (sg 30 5) g (w - 1) 1 = true → ¬ N + (w - (wkF L g w 0 0).1) ≤ 16 → K (some (.int (-4))) sg)
    (hk3 : ¬ hbF (sg 30 5) g (w - 1) 1 = true → N + (w - (wkF L g w 0 0).1) ≤ 16 → ∀ σ, C_tp σ (gmF g w 0 0 L cb N).1 (gmF g w 0 0 L cb N).2.1 (gmF g w 0 0 L cb N).2.2.1 → (∀ a k, ¬ (a = 31 ∨ a = 32 ∨ a = 30 ∧ k = 4) → σ a k = sg a k) → K (some (.int (nI (gmF g w 0 0 L cb N).2.2.2))) σ) : aCall d 70 [.ref 30, .ref (40 + 2 * k), .int (nI i), .int (nI w)] n mu ro sg K := by
  obtain ⟨u1, u2, u3⟩ := shm hS hk4
  have n16 := hT.n16
  have n1 := hT.n1
  refine aCall_start (mL := 7) (cc := cX9_growBy) (o := 9) (ret := (some .int)) 3 (by decide) (by decide +kernel) rfl rfl rfl rfl (Nat.le_of_ble_eq_true rfl) (fun G hC hG => ?_)
  simp only [exL, List.cons_append, List.nil_append, rp_0, rp_1, rp_2, rp_3, rp_4, rp_5, rp_6, rp_7, rp_8, rp_9, rp_10, rp_11, List.append_nil]
  refine hG (fun q => q == 19 || q == 87) 80 _ _ _ _ (Nat.le_of_ble_eq_true rfl) ?_
  simp only [D_X9_growBy, N_X9_growBy, ↓reduceIte, vcS, vcC, vcI, gtF, ptF, inS, inV, fv0, fv1, fv2, fv3, fw0, fw1, lg_0, lg_1, lg_2, lg_3, lg_4, lg_5, lg_6, lg_7, lg_8, lg_9, lg_10, lg_11, lg_12, lg_13, lg_14, lsq_0, lsl_0, lsq_1, lsl_1, lsq_2, lsl_2, lsq_3, lsl_3, lsq_4, lsl_4, lsq_5, lsl_5, lsq_6, lsl_6, lsq_7, lsl_7, lsq_8, lsl_8, lsq_9, lsl_9, lsq_10, lsl_10, lsq_11, lsl_11, lsq_12, lsl_12, lsq_13, lsl_13, lsq_14, lsl_14, tk_0, tk_1, tk_2, tk_3, tk_4, tk_5, tk_6, tk_7, tk_8, cs_n, cs_i, cs_l, cs_r, cs_u, nl, rt_s, rt_n, CST1, Nat.reduceAdd, Nat.reduceLeDiff, va_rf, rtOk, Bool.false_eq_true, Bool.true_eq_false, if_false, if_true, ite_true, ite_false, true_and, and_true, eq_self, ne_eq, not_false_eq_true, not_true_eq_false, false_implies, true_implies, and_self, reduceCtorEq, Nat.reduceBEq, Bool.or_false, Bool.false_or, Bool.or_true, Bool.true_or, if1_0, if1_1, if1_01, one_01, zer_01, lg_cmp_ge, lg_cmp_le, lg_cmp_gt, lg_cmp_lt, lg_cmp_eq, Classical.not_not, SHm hS, SHr hS]
  refine ⟨by omega, c_hasBarred hS (by omega) hk4 hw hg hiw ?_⟩
  simp only [D_X9_growBy, N_X9_growBy, ↓reduceIte, vcS, vcC, vcI, gtF, ptF, inS, inV, fv0, fv1, fv2, fv3, fw0, fw1, lg_0, lg_1, lg_2, lg_3, lg_4, lg_5, lg_6, lg_7, lg_8, lg_9, lg_10, lg_11, lg_12, lg_13, lg_14, lsq_0, lsl_0, lsq_1, lsl_1, lsq_2, lsl_2, lsq_3, lsl_3, lsq_4, lsl_4, lsq_5, lsl_5, lsq_6, lsl_6, lsq_7, lsl_7, lsq_8, lsl_8, lsq_9, lsl_9, lsq_10, lsl_10, lsq_11, lsl_11, lsq_12, lsl_12, lsq_13, lsl_13, lsq_14, lsl_14, tk_0, tk_1, tk_2, tk_3, tk_4, tk_5, tk_6, tk_7, tk_8, cs_n, cs_i, cs_l, cs_r, cs_u, nl, rt_s, rt_n, CST1, Nat.reduceAdd, Nat.reduceLeDiff, va_rf, rtOk, Bool.false_eq_true, Bool.true_eq_false, if_false, if_true, ite_true, ite_false, true_and, and_true, eq_self, ne_eq, not_false_eq_true, not_true_eq_false, false_implies, true_implies, and_self, reduceCtorEq, Nat.reduceBEq, Bool.or_false, Bool.false_or, Bool.or_true, Bool.true_or, if1_0, if1_1, if1_01, one_01, zer_01, lg_cmp_ge, lg_cmp_le, lg_cmp_gt, lg_cmp_lt, lg_cmp_eq, Classical.not_not, SHm hS, SHr hS]
  refine ⟨fun hb => ?_, fun hb => hk1 hb⟩
  -- what is new
  have lo2 : ∀ (al m x s : Nat) (L' cb' : Nat → Nat) (N' : Nat) (σ : aS), x + m = w → s < N' → Tre L' cb' N' → C_tp σ L' cb' N' → N' + m ≤ 16 → (m = 0 ∨ L' (4 * s + g x) = 0) → (∀ a k, ¬ (a = 31 ∨ a = 32 ∨ a = 30 ∧ k = 4) → σ a k = sg a k) → N + (w - (wkF L g w 0 0).1) ≤ 16 → gmF g w 0 0 L cb N = gmF g m x s L' cb' N' → AW G 7 n 0 0 mu ro σ 87 [.ref 30, .ref (40 + 2 * k), .int (nI i), .int (nI w), .int (nI al), .int (nI s), .int (nI x)] [] := by
    intro al m
    induction m with
    | zero =>
      intro x s L' cb' N' σ hx hs hT' hX' h16 h0 hF hN he
      have hq : (nI w ≤ nI x) = True := eq_true (nI_le (by omega) (by omega))
      refine hG (fun q => q == 19 || q == 87) 80 _ _ _ _ (Nat.le_of_ble_eq_true rfl) ?_
      simp only [D_X9_growBy, N_X9_growBy, ↓reduceIte, vcS, vcC, vcI, gtF, ptF, inS, inV, fv0, fv1, fv2, fv3, fw0, fw1, lg_0, lg_1, lg_2, lg_3, lg_4, lg_5, lg_6, lg_7, lg_8, lg_9, lg_10, lg_11, lg_12, lg_13, lg_14, lsq_0, lsl_0, lsq_1, lsl_1, lsq_2, lsl_2, lsq_3, lsl_3, lsq_4, lsl_4, lsq_5, lsl_5, lsq_6, lsl_6, lsq_7, lsl_7, lsq_8, lsl_8, lsq_9, lsl_9, lsq_10, lsl_10, lsq_11, lsl_11, lsq_12, lsl_12, lsq_13, lsl_13, lsq_14, lsl_14, tk_0, tk_1, tk_2, tk_3, tk_4, tk_5, tk_6, tk_7, tk_8, cs_n, cs_i, cs_l, cs_r, cs_u, nl, rt_s, rt_n, CST1, Nat.reduceAdd, Nat.reduceLeDiff, va_rf, rtOk, Bool.false_eq_true, Bool.true_eq_false, if_false, if_true, ite_true, ite_false, true_and, and_true, eq_self, ne_eq, not_false_eq_true, not_true_eq_false, false_implies, true_implies, and_self, reduceCtorEq, Nat.reduceBEq, Bool.or_false, Bool.false_or, Bool.or_true, Bool.true_or, if1_0, if1_1, if1_01, one_01, zer_01, lg_cmp_ge, lg_cmp_le, lg_cmp_gt, lg_cmp_lt, lg_cmp_eq, Classical.not_not, ↓im_T hq, ↓im_TN hq, hq]
      have := hk3 hb hN σ
      rw [he, gmF] at this
      exact this hX' hF
    | succ m ih =>
      intro x s L' cb' N' σ hx hs hT' hX' h16 h0 hF hN he
      have hq : (nI w ≤ nI x) = False := eq_false (nI_ge (by omega) (by omega))
      have h0' : L' (4 * s + g x) = 0 := h0.resolve_left (by omega)
      have ex : (nI (i + x)).toNatClampNeg = i + x := nI_clamp (by omega)
      have vx : vp_in (nI (i + x)) 60 := vp_in_nI (by omega) (by decide)
      obtain ⟨g1, g2⟩ := hg x (by omega)
      rw [← hF (41 + 2 * k) (i + x) (by omega)] at g1
      refine hG (fun q => q == 19 || q == 87) 80 _ _ _ _ (Nat.le_of_ble_eq_true rfl) ?_
      simp only [D_X9_growBy, N_X9_growBy, ↓reduceIte, vcS, vcC, vcI, gtF, ptF, inS, inV, fv0, fv1, fv2, fv3, fw0, fw1, lg_0, lg_1, lg_2, lg_3, lg_4, lg_5, lg_6, lg_7, lg_8, lg_9, lg_10, lg_11, lg_12, lg_13, lg_14, lsq_0, lsl_0, lsq_1, lsl_1, lsq_2, lsl_2, lsq_3, lsl_3, lsq_4, lsl_4, lsq_5, lsl_5, lsq_6, lsl_6, lsq_7, lsl_7, lsq_8, lsl_8, lsq_9, lsl_9, lsq_10, lsl_10, lsq_11, lsl_11, lsq_12, lsl_12, lsq_13, lsl_13, lsq_14, lsl_14, tk_0, tk_1, tk_2, tk_3, tk_4, tk_5, tk_6, tk_7, tk_8, cs_n, cs_i, cs_l, cs_r, cs_u, nl, rt_s, rt_n, CST1, Nat.reduceAdd, Nat.reduceLeDiff, va_rf, rtOk, Bool.false_eq_true, Bool.true_eq_false, if_false, if_true, ite_true, ite_false, true_and, and_true, eq_self, ne_eq, not_false_eq_true, not_true_eq_false, false_implies, true_implies, and_self, reduceCtorEq, Nat.reduceBEq, Bool.or_false, Bool.false_or, Bool.or_true, Bool.true_or, if1_0, if1_1, if1_01, one_01, zer_01, lg_cmp_ge, lg_cmp_le, lg_cmp_gt, lg_cmp_lt, lg_cmp_eq, Classical.not_not, ↓im_F hq, ↓im_FN hq, hq, u1, u2, u3, SHm hS, SHr hS, nI_add, ex, vx, g1]
      refine ⟨by omega, c_newState hS (by omega) g2 hX'.1 (by omega) ?_⟩
      simp only [D_X9_growBy, N_X9_growBy, ↓reduceIte, vcS, vcC, vcI, gtF, ptF, inS, inV, fv0, fv1, fv2, fv3, fw0, fw1, lg_0, lg_1, lg_2, lg_3, lg_4, lg_5, lg_6, lg_7, lg_8, lg_9, lg_10, lg_11, lg_12, lg_13, lg_14, lsq_0, lsl_0, lsq_1, lsl_1, lsq_2, lsl_2, lsq_3, lsl_3, lsq_4, lsl_4, lsq_5, lsl_5, lsq_6, lsl_6, lsq_7, lsl_7, lsq_8, lsl_8, lsq_9, lsl_9, lsq_10, lsl_10, lsq_11, lsl_11, lsq_12, lsl_12, lsq_13, lsl_13, lsq_14, lsl_14, tk_0, tk_1, tk_2, tk_3, tk_4, tk_5, tk_6, tk_7, tk_8, cs_n, cs_i, cs_l, cs_r, cs_u, nl, rt_s, rt_n, CST1, Nat.reduceAdd, Nat.reduceLeDiff, va_rf, rtOk, Bool.false_eq_true, Bool.true_eq_false, if_false, if_true, ite_true, ite_false, true_and, and_true, eq_self, ne_eq, not_false_eq_true, not_true_eq_false, false_implies, true_implies, and_self, reduceCtorEq, Nat.reduceBEq, Bool.or_false, Bool.false_or, Bool.or_true, Bool.true_or, if1_0, if1_1, if1_01, one_01, zer_01, lg_cmp_ge, lg_cmp_le, lg_cmp_gt, lg_cmp_lt, lg_cmp_eq, Classical.not_not, nI_1]
      rw [gmF, if_pos h0'] at he
      refine ih (x + 1) N' _ _ (N' + 1) _ (by omega) (by omega) (hT'.new hs g2 (by omega) h0') (hX'.new hT' hs g2 (by omega) h0') (by omega) ?_ (fun a b q => ?_) hN he
      · by_cases hm : m = 0
        · exact Or.inl hm
        · refine Or.inr ?_
          have g9 := (hg (x + 1) (by omega)).2
          rw [upN_n (by omega)]
          exact hT'.far (Nat.le_refl N') g9 (by omega)
      · rw [s2_n (by omega), s2_n (by omega), s2_n (by omega)]
        exact hF a b q
  -- along what is there
  have fin : ∀ x s, wkF L g w 0 0 = (x, s) → x ≤ w ∧ (nI (N + w - x) ≤ 16 → AW G 7 n 0 0 mu ro sg 87 [.ref 30, .ref (40 + 2 * k), .int (nI i), .int (nI w), .int (nI x), .int (nI s), .int (nI x)] []) ∧ (¬ nI (N + w - x) ≤ 16 → K (some (.int (-4))) sg) := by
    intro x s he
    obtain ⟨i1, i2, i3, i4, i5⟩ := gm_walk (g := g) hT w 0 0 (by omega) (fun j hj => by rw [Nat.zero_add]; exact (hg j hj).2)
    rw [he] at i1 i2 i3 i4 i5
    simp only at i1 i2 i3 i4 i5
    have t9 : (nI (N + w - x)).toInt = (N + w - x : Nat) := nI_toInt (by omega)
    refine ⟨by omega, fun q => ?_, fun q => hk2 hb ?_⟩
    · have q9 : N + w - x ≤ 16 := by ((try simp only [i_le, i_lt, i_eq, l_le, l_lt, l_eq, i_ne, l_ne, toL, l_add, l_sub1, LIT1, LIT2, Int.reduceNeg, ge_iff_le, gt_iff_lt] at *); omega)
      refine lo2 x (w - x) x s L cb N sg (by omega) i4 hT hX (by omega) ?_ (fun _ _ _ => rfl) (by rw [he]; simp only; omega) (by rw [i1, Nat.zero_add])
      rcases i5 with q2 | q2
      · exact Or.inl (by omega)
      · exact Or.inr q2
    · rw [he]
      simp only
      ((try simp only [i_le, i_lt, i_eq, l_le, l_lt, l_eq, i_ne, l_ne, toL, l_add, l_sub1, LIT1, LIT2, Int.reduceNeg, ge_iff_le, gt_iff_lt] at *); omega)
  have lo1 : ∀ (m x s : Nat) (v : Value), x + m = w → s < 16 → wkF L g w 0 0 = wkF L g m x s → AW G 7 n 0 0 mu ro sg 19 [.ref 30, .ref (40 + 2 * k), .int (nI i), .int (nI w), .int (nI x), .int (nI s), v] [] := by
    intro m
    induction m with
    | zero =>
      intro x s v hx hs he
      have hq : (nI w ≤ nI x) = True := eq_true (nI_le (by omega) (by omega))
      obtain ⟨f0, f1, f2⟩ := fin x s (by rw [he, wkF])
      have hsub : nI (N + w) - nI x = nI (N + w - x) := pk_sub (by omega)
      refine hG (fun q => q == 19 || q == 87) 80 _ _ _ _ (Nat.le_of_ble_eq_true rfl) ?_
      simp only [D_X9_growBy, N_X9_growBy, ↓reduceIte, vcS, vcC, vcI, gtF, ptF, inS, inV, fv0, fv1, fv2, fv3, fw0, fw1, lg_0, lg_1, lg_2, lg_3, lg_4, lg_5, lg_6, lg_7, lg_8, lg_9, lg_10, lg_11, lg_12, lg_13, lg_14, lsq_0, lsl_0, lsq_1, lsl_1, lsq_2, lsl_2, lsq_3, lsl_3, lsq_4, lsl_4, lsq_5, lsl_5, lsq_6, lsl_6, lsq_7, lsl_7, lsq_8, lsl_8, lsq_9, lsl_9, lsq_10, lsl_10, lsq_11, lsl_11, lsq_12, lsl_12, lsq_13, lsl_13, lsq_14, lsl_14, tk_0, tk_1, tk_2, tk_3, tk_4, tk_5, tk_6, tk_7, tk_8, cs_n, cs_i, cs_l, cs_r, cs_u, nl, rt_s, rt_n, CST1, Nat.reduceAdd, Nat.reduceLeDiff, va_rf, rtOk, Bool.false_eq_true, Bool.true_eq_false, if_false, if_true, ite_true, ite_false, true_and, and_true, eq_self, ne_eq, not_false_eq_true, not_true_eq_false, false_implies, true_implies, and_self, reduceCtorEq, Nat.reduceBEq, Bool.or_false, Bool.false_or, Bool.or_true, Bool.true_or, if1_0, if1_1, if1_01, one_01, zer_01, lg_cmp_ge, lg_cmp_le, lg_cmp_gt, lg_cmp_lt, lg_cmp_eq, Classical.not_not, ↓im_T hq, ↓im_TN hq, hq, SHm hS, SHr hS, hX.1, nI_add, hsub]
      exact ⟨f1, f2⟩
    | succ m ih =>
      intro x s v hx hs he
      have hq : (nI w ≤ nI x) = False := eq_false (nI_ge (by omega) (by omega))
      have ex : (nI (i + x)).toNatClampNeg = i + x := nI_clamp (by omega)
      have vx : vp_in (nI (i + x)) 60 := vp_in_nI (by omega) (by decide)
      obtain ⟨g1, g2⟩ := hg x (by omega)
      have hl := hX.2.1 (4 * s + g x) (by omega)
      have hlt := hT.lt (4 * s + g x) (by omega)
      have hsub : nI (N + w) - nI x = nI (N + w - x) := pk_sub (by omega)
      refine hG (fun q => q == 19 || q == 87) 80 _ _ _ _ (Nat.le_of_ble_eq_true rfl) ?_
      simp only [D_X9_growBy, N_X9_growBy, ↓reduceIte, vcS, vcC, vcI, gtF, ptF, inS, inV, fv0, fv1, fv2, fv3, fw0, fw1, lg_0, lg_1, lg_2, lg_3, lg_4, lg_5, lg_6, lg_7, lg_8, lg_9, lg_10, lg_11, lg_12, lg_13, lg_14, lsq_0, lsl_0, lsq_1, lsl_1, lsq_2, lsl_2, lsq_3, lsl_3, lsq_4, lsl_4, lsq_5, lsl_5, lsq_6, lsl_6, lsq_7, lsl_7, lsq_8, lsl_8, lsq_9, lsl_9, lsq_10, lsl_10, lsq_11, lsl_11, lsq_12, lsl_12, lsq_13, lsl_13, lsq_14, lsl_14, tk_0, tk_1, tk_2, tk_3, tk_4, tk_5, tk_6, tk_7, tk_8, cs_n, cs_i, cs_l, cs_r, cs_u, nl, rt_s, rt_n, CST1, Nat.reduceAdd, Nat.reduceLeDiff, va_rf, rtOk, Bool.false_eq_true, Bool.true_eq_false, if_false, if_true, ite_true, ite_false, true_and, and_true, eq_self, ne_eq, not_false_eq_true, not_true_eq_false, false_implies, true_implies, and_self, reduceCtorEq, Nat.reduceBEq, Bool.or_false, Bool.false_or, Bool.or_true, Bool.true_or, if1_0, if1_1, if1_01, one_01, zer_01, lg_cmp_ge, lg_cmp_le, lg_cmp_gt, lg_cmp_lt, lg_cmp_eq, Classical.not_not, ↓im_F hq, ↓im_FN hq, hq, u1, u2, u3, SHm hS, SHr hS, nI_add, ex, vx, g1]
      refine ⟨by omega, c_leadsN hS hs g2 ?_⟩
      rw [hl]
      rw [wkF] at he
      by_cases h0 : L (4 * s + g x) = 0
      · rw [if_pos h0] at he
        obtain ⟨f0, f1, f2⟩ := fin x s he
        have hz : (nI (L (4 * s + g x)) = 0) = True := eq_true (by rw [h0]; rfl)
        simp only [D_X9_growBy, N_X9_growBy, ↓reduceIte, vcS, vcC, vcI, gtF, ptF, inS, inV, fv0, fv1, fv2, fv3, fw0, fw1, lg_0, lg_1, lg_2, lg_3, lg_4, lg_5, lg_6, lg_7, lg_8, lg_9, lg_10, lg_11, lg_12, lg_13, lg_14, lsq_0, lsl_0, lsq_1, lsl_1, lsq_2, lsl_2, lsq_3, lsl_3, lsq_4, lsl_4, lsq_5, lsl_5, lsq_6, lsl_6, lsq_7, lsl_7, lsq_8, lsl_8, lsq_9, lsl_9, lsq_10, lsl_10, lsq_11, lsl_11, lsq_12, lsl_12, lsq_13, lsl_13, lsq_14, lsl_14, tk_0, tk_1, tk_2, tk_3, tk_4, tk_5, tk_6, tk_7, tk_8, cs_n, cs_i, cs_l, cs_r, cs_u, nl, rt_s, rt_n, CST1, Nat.reduceAdd, Nat.reduceLeDiff, va_rf, rtOk, Bool.false_eq_true, Bool.true_eq_false, if_false, if_true, ite_true, ite_false, true_and, and_true, eq_self, ne_eq, not_false_eq_true, not_true_eq_false, false_implies, true_implies, and_self, reduceCtorEq, Nat.reduceBEq, Bool.or_false, Bool.false_or, Bool.or_true, Bool.true_or, if1_0, if1_1, if1_01, one_01, zer_01, lg_cmp_ge, lg_cmp_le, lg_cmp_gt, lg_cmp_lt, lg_cmp_eq, Classical.not_not, ↓im_T hz, ↓im_TN hz, hz, SHm hS, SHr hS, hX.1, nI_add, hsub]
        exact ⟨f1, f2⟩
      · rw [if_neg h0] at he
        have hz : (nI (L (4 * s + g x)) = 0) = False := eq_false (nI_ne0 (by omega) (by omega))
        simp only [D_X9_growBy, N_X9_growBy, ↓reduceIte, vcS, vcC, vcI, gtF, ptF, inS, inV, fv0, fv1, fv2, fv3, fw0, fw1, lg_0, lg_1, lg_2, lg_3, lg_4, lg_5, lg_6, lg_7, lg_8, lg_9, lg_10, lg_11, lg_12, lg_13, lg_14, lsq_0, lsl_0, lsq_1, lsl_1, lsq_2, lsl_2, lsq_3, lsl_3, lsq_4, lsl_4, lsq_5, lsl_5, lsq_6, lsl_6, lsq_7, lsl_7, lsq_8, lsl_8, lsq_9, lsl_9, lsq_10, lsl_10, lsq_11, lsl_11, lsq_12, lsl_12, lsq_13, lsl_13, lsq_14, lsl_14, tk_0, tk_1, tk_2, tk_3, tk_4, tk_5, tk_6, tk_7, tk_8, cs_n, cs_i, cs_l, cs_r, cs_u, nl, rt_s, rt_n, CST1, Nat.reduceAdd, Nat.reduceLeDiff, va_rf, rtOk, Bool.false_eq_true, Bool.true_eq_false, if_false, if_true, ite_true, ite_false, true_and, and_true, eq_self, ne_eq, not_false_eq_true, not_true_eq_false, false_implies, true_implies, and_self, reduceCtorEq, Nat.reduceBEq, Bool.or_false, Bool.false_or, Bool.or_true, Bool.true_or, if1_0, if1_1, if1_01, one_01, zer_01, lg_cmp_ge, lg_cmp_le, lg_cmp_gt, lg_cmp_lt, lg_cmp_eq, Classical.not_not, ↓im_F hz, ↓im_FN hz, hz, u1, u2, u3, SHm hS, SHr hS, nI_add, ex, vx, g1]
        refine ⟨by omega, c_leadsN hS hs g2 ?_⟩
        rw [hl]
        simp only [D_X9_growBy, N_X9_growBy, ↓reduceIte, vcS, vcC, vcI, gtF, ptF, inS, inV, fv0, fv1, fv2, fv3, fw0, fw1, lg_0, lg_1, lg_2, lg_3, lg_4, lg_5, lg_6, lg_7, lg_8, lg_9, lg_10, lg_11, lg_12, lg_13, lg_14, lsq_0, lsl_0, lsq_1, lsl_1, lsq_2, lsl_2, lsq_3, lsl_3, lsq_4, lsl_4, lsq_5, lsl_5, lsq_6, lsl_6, lsq_7, lsl_7, lsq_8, lsl_8, lsq_9, lsl_9, lsq_10, lsl_10, lsq_11, lsl_11, lsq_12, lsl_12, lsq_13, lsl_13, lsq_14, lsl_14, tk_0, tk_1, tk_2, tk_3, tk_4, tk_5, tk_6, tk_7, tk_8, cs_n, cs_i, cs_l, cs_r, cs_u, nl, rt_s, rt_n, CST1, Nat.reduceAdd, Nat.reduceLeDiff, va_rf, rtOk, Bool.false_eq_true, Bool.true_eq_false, if_false, if_true, ite_true, ite_false, true_and, and_true, eq_self, ne_eq, not_false_eq_true, not_true_eq_false, false_implies, true_implies, and_self, reduceCtorEq, Nat.reduceBEq, Bool.or_false, Bool.false_or, Bool.or_true, Bool.true_or, if1_0, if1_1, if1_01, one_01, zer_01, lg_cmp_ge, lg_cmp_le, lg_cmp_gt, lg_cmp_lt, lg_cmp_eq, Classical.not_not, nI_1]
        exact ih (x + 1) _ _ (by omega) hlt he
  exact lo1 w 0 0 _ (by omega) (by omega) rfl
end H35
