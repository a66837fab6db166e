/-! part 64: scan on both sides -/
section H64
variable {d n N T Q F F0 : Nat} {mu : aM} {ro : aR} {sg σ : aS} {K : Option Value → aS → Prop} {tb rb : Nat → Nat} {fr ft : Nat → Nat} {w : Int32}
def scW (hit : Nat → Nat → Bool) (t : Nat) : Nat → Nat → Nat × (Nat → Nat) × (Nat → Nat) → Nat × (Nat → Nat) × (Nat → Nat)
  | 0, _, st => st
  | m + 1, r, st => scW hit t m (r + 1) (scO hit t r st)
def scA (hit : Nat → Nat → Bool) (Q : Nat) : Nat → Nat → Nat × (Nat → Nat) × (Nat → Nat) → Nat × (Nat → Nat) × (Nat → Nat)
  | 0, _, st => st
  | m + 1, t, st => scA hit Q m (t + 1) (scW hit t Q 0 st)
theorem scW_no {hit : Nat → Nat → Bool} {t : Nat} (h : ∀ r, hit r t = false) : ∀ m r st, scW hit t m r st = st
  | 0, _, _ => rfl
  | m + 1, r, st => by
    rw [scW, scW_no h m]
    unfold scO
    rw [if_neg (fun z => by rw [h r] at z; exact absurd z.1.1 (by decide))]
theorem scO_T {hit : Nat → Nat → Bool} {t r : Nat} {st : Nat × (Nat → Nat) × (Nat → Nat)} (ht : t < T) (h : ∀ f, f < st.1 → st.2.2 f < T) : ∀ f, f < (scO hit t r st).1 → (scO hit t r st).2.2 f < T := by
  unfold scO
  by_cases q : (hit r t = true ∧ thB st.2.1 st.2.2 st.1 r t = false) ∧ st.1 < 40
  · rw [if_pos q]
    intro f hf
    by_cases z : f = st.1
    · show upN st.2.2 st.1 t f < T
      rw [z, upN_y]; exact ht
    · show upN st.2.2 st.1 t f < T
      rw [upN_n z]; exact h f (by have : f < st.1 + 1 := hf; omega)
  · rw [if_neg q]; exact h
theorem scW_T {hit : Nat → Nat → Bool} {t : Nat} (ht : t < T) : ∀ m r st, (∀ f, f < st.1 → st.2.2 f < T) → ∀ f, f < (scW hit t m r st).1 → (scW hit t m r st).2.2 f < T
  | 0, _, _, h => h
  | m + 1, r, st, h => scW_T ht m (r + 1) _ (scO_T ht h)
theorem scA_T {hit : Nat → Nat → Bool} : ∀ m t st, t + m ≤ T → (∀ f, f < st.1 → st.2.2 f < T) → ∀ f, f < (scA hit Q m t st).1 → (scA hit Q m t st).2.2 f < T
  | 0, _, _, _, h => h
  | m + 1, t, st, hm, h => scA_T m (t + 1) _ (by omega) (scW_T (by omega) Q 0 st h)
theorem scO_k {hit : Nat → Nat → Bool} {t r : Nat} {st : Nat × (Nat → Nat) × (Nat → Nat)} : st.1 ≤ (scO hit t r st).1 ∧ ∀ f, f < st.1 → (scO hit t r st).2.2 f = st.2.2 f := by
  unfold scO
  by_cases q : (hit r t = true ∧ thB st.2.1 st.2.2 st.1 r t = false) ∧ st.1 < 40
  · rw [if_pos q]
    refine ⟨Nat.le_succ _, fun f hf => ?_⟩
    show upN st.2.2 st.1 t f = _
    rw [upN_n (by omega)]
  · rw [if_neg q]
    exact ⟨Nat.le_refl _, fun _ _ => rfl⟩
theorem scW_k {hit : Nat → Nat → Bool} {t : Nat} : ∀ m r st, st.1 ≤ (scW hit t m r st).1 ∧ ∀ f, f < st.1 → (scW hit t m r st).2.2 f = st.2.2 f
  | 0, _, st => ⟨Nat.le_refl _, fun _ _ => rfl⟩
  | m + 1, r, st => by
    obtain ⟨a1, a2⟩ := scO_k (hit := hit) (t := t) (r := r) (st := st)
    obtain ⟨b1, b2⟩ := scW_k (hit := hit) (t := t) m (r + 1) (scO hit t r st)
    rw [scW]
    exact ⟨by omega, fun f hf => (b2 f (by omega)).trans (a2 f hf)⟩
theorem scA_k {hit : Nat → Nat → Bool} : ∀ m t st, st.1 ≤ (scA hit Q m t st).1 ∧ ∀ f, f < st.1 → (scA hit Q m t st).2.2 f = st.2.2 f
  | 0, _, st => ⟨Nat.le_refl _, fun _ _ => rfl⟩
  | m + 1, t, st => by
    obtain ⟨a1, a2⟩ := scW_k (hit := hit) (t := t) Q 0 st
    obtain ⟨b1, b2⟩ := scA_k (hit := hit) m (t + 1) (scW hit t Q 0 st)
    rw [scA]
    exact ⟨by omega, fun f hf => (b2 f (by omega)).trans (a2 f hf)⟩
set_option maxHeartbeats 4000000 in
set_option maxRecDepth 100000 in
theorem c_scan {x : Int32} (hS : Sh mu ro) (hd : 4 ≤ d) (hT : S_tk mu ro n T tb) (hR : S_rw mu ro n Q rb) (hI : I_tk sg T tb) (hJ : I_rw sg Q rb) (hC9 : C_fd sg sg F0 F0 fr ft x) (hk1 : ¬ (0 ≤ x.toInt ∧ x.toInt ≤ 999) → K (some (.int (-2))) sg) (hk2 : (0 ≤ x.toInt ∧ x.toInt ≤ 999) → ∀ σ', C_fd sg σ' F0 (scA (hitB sg) Q T 0 (F0, fr, ft)).1 (scA (hitB sg) Q T 0 (F0, fr, ft)).2.1 (scA (hitB sg) Q T 0 (F0, fr, ft)).2.2 x → K (some (.int (nI ((scA (hitB sg) Q T 0 (F0, fr, ft)).1 - F0)))) σ') : aCall d 106 [.ref 0, .int x] n mu ro sg K := by
  obtain ⟨⟨i1, i2⟩, i3, i4, i5⟩ := id hI
  obtain ⟨⟨j1, j2⟩, j3, j4⟩ := id hJ
  refine aCall_start (mL := 5) (cc := cX11_scan) (o := 11) (ret := (some .int)) 3 (by decide) (by decide +kernel) rfl rfl rfl rfl (Nat.le_of_ble_eq_true rfl) (fun G hC hG => ?_)
  simp only [exL, List.cons_append, List.nil_append, rp_0, rp_1, rp_2, rp_3, rp_4, rp_5, rp_6, rp_7, rp_8, rp_9, rp_10, rp_11, List.append_nil]
  refine hG (fun q => q == 20 || q == 31) 80 _ _ _ _ (Nat.le_of_ble_eq_true rfl) ?_
  simp only [D_X11_scan, N_X11_scan, ↓reduceIte, vcS, vcC, vcI, gtF, ptF, inS, inV, fv0, fv1, fv2, fv3, fw0, fw1, lg_0, lg_1, lg_2, lg_3, lg_4, lg_5, lg_6, lg_7, lg_8, lg_9, lg_10, lg_11, lg_12, lg_13, lg_14, lsq_0, lsl_0, lsq_1, lsl_1, lsq_2, lsl_2, lsq_3, lsl_3, lsq_4, lsl_4, lsq_5, lsl_5, lsq_6, lsl_6, lsq_7, lsl_7, lsq_8, lsl_8, lsq_9, lsl_9, lsq_10, lsl_10, lsq_11, lsl_11, lsq_12, lsl_12, lsq_13, lsl_13, lsq_14, lsl_14, tk_0, tk_1, tk_2, tk_3, tk_4, tk_5, tk_6, tk_7, tk_8, cs_n, cs_i, cs_l, cs_r, cs_u, nl, rt_s, rt_n, CST1, Nat.reduceAdd, Nat.reduceLeDiff, va_rf, rtOk, Bool.false_eq_true, Bool.true_eq_false, if_false, if_true, ite_true, ite_false, true_and, and_true, eq_self, ne_eq, not_false_eq_true, not_true_eq_false, false_implies, true_implies, and_self, reduceCtorEq, Nat.reduceBEq, Bool.or_false, Bool.false_or, Bool.or_true, Bool.true_or, if1_0, if1_1, if1_01, one_01, zer_01, lg_cmp_ge, lg_cmp_le, lg_cmp_gt, lg_cmp_lt, lg_cmp_eq, Classical.not_not, SHm hS, SHr hS]
  refine ⟨by omega, c_isTick (by omega) ?_⟩
  simp only [D_X11_scan, N_X11_scan, ↓reduceIte, vcS, vcC, vcI, gtF, ptF, inS, inV, fv0, fv1, fv2, fv3, fw0, fw1, lg_0, lg_1, lg_2, lg_3, lg_4, lg_5, lg_6, lg_7, lg_8, lg_9, lg_10, lg_11, lg_12, lg_13, lg_14, lsq_0, lsl_0, lsq_1, lsl_1, lsq_2, lsl_2, lsq_3, lsl_3, lsq_4, lsl_4, lsq_5, lsl_5, lsq_6, lsl_6, lsq_7, lsl_7, lsq_8, lsl_8, lsq_9, lsl_9, lsq_10, lsl_10, lsq_11, lsl_11, lsq_12, lsl_12, lsq_13, lsl_13, lsq_14, lsl_14, tk_0, tk_1, tk_2, tk_3, tk_4, tk_5, tk_6, tk_7, tk_8, cs_n, cs_i, cs_l, cs_r, cs_u, nl, rt_s, rt_n, CST1, Nat.reduceAdd, Nat.reduceLeDiff, va_rf, rtOk, Bool.false_eq_true, Bool.true_eq_false, if_false, if_true, ite_true, ite_false, true_and, and_true, eq_self, ne_eq, not_false_eq_true, not_true_eq_false, false_implies, true_implies, and_self, reduceCtorEq, Nat.reduceBEq, Bool.or_false, Bool.false_or, Bool.or_true, Bool.true_or, if1_0, if1_1, if1_01, one_01, zer_01, lg_cmp_ge, lg_cmp_le, lg_cmp_gt, lg_cmp_lt, lg_cmp_eq, Classical.not_not, SHm hS, SHr hS, hC9.1]
  refine ⟨fun q => ?_, fun q => hk1 q⟩
  have hk3 := hk2 q
  have lo : ∀ (m t F : Nat) (fr' ft' : Nat → Nat) (σ : aS) (v : Value), t + m = T → C_fd sg σ F0 F fr' ft' x → scA (hitB sg) Q T 0 (F0, fr, ft) = scA (hitB sg) Q m t (F, fr', ft') → AW G 5 n 0 0 mu ro σ 20 [.ref 0, .int x, .int (nI F0), .int (nI t), v] [] := by
    intro m
    induction m with
    | zero =>
      intro t F fr' ft' σ v ht hc he
      have h11 : σ 0 11 = nI T := by rw [hc.f.at (a := 0) (by omega) (by omega) (by omega)]; exact i1
      have hq : (nI T ≤ nI t) = True := eq_true (nI_le (by omega) (by omega))
      have hsb : nI F - nI F0 = nI (F - F0) := pk_sub hc.2.2.1
      rw [he, scA] at hk3
      refine hG (fun q => q == 20 || q == 31) 80 _ _ _ _ (Nat.le_of_ble_eq_true rfl) ?_
      simp only [D_X11_scan, N_X11_scan, ↓reduceIte, vcS, vcC, vcI, gtF, ptF, inS, inV, fv0, fv1, fv2, fv3, fw0, fw1, lg_0, lg_1, lg_2, lg_3, lg_4, lg_5, lg_6, lg_7, lg_8, lg_9, lg_10, lg_11, lg_12, lg_13, lg_14, lsq_0, lsl_0, lsq_1, lsl_1, lsq_2, lsl_2, lsq_3, lsl_3, lsq_4, lsl_4, lsq_5, lsl_5, lsq_6, lsl_6, lsq_7, lsl_7, lsq_8, lsl_8, lsq_9, lsl_9, lsq_10, lsl_10, lsq_11, lsl_11, lsq_12, lsl_12, lsq_13, lsl_13, lsq_14, lsl_14, tk_0, tk_1, tk_2, tk_3, tk_4, tk_5, tk_6, tk_7, tk_8, cs_n, cs_i, cs_l, cs_r, cs_u, nl, rt_s, rt_n, CST1, Nat.reduceAdd, Nat.reduceLeDiff, va_rf, rtOk, Bool.false_eq_true, Bool.true_eq_false, if_false, if_true, ite_true, ite_false, true_and, and_true, eq_self, ne_eq, not_false_eq_true, not_true_eq_false, false_implies, true_implies, and_self, reduceCtorEq, Nat.reduceBEq, Bool.or_false, Bool.false_or, Bool.or_true, Bool.true_or, if1_0, if1_1, if1_01, one_01, zer_01, lg_cmp_ge, lg_cmp_le, lg_cmp_gt, lg_cmp_lt, lg_cmp_eq, Classical.not_not, SHm hS, SHr hS, h11, ↓im_T hq, ↓im_TN hq, hq, hc.1, hsb]
      exact hk3 σ hc
    | succ m ih =>
      intro t F fr' ft' σ v ht hc he
      have h11 : σ 0 11 = nI T := by rw [hc.f.at (a := 0) (by omega) (by omega) (by omega)]; exact i1
      have hq : (nI T ≤ nI t) = False := eq_false (nI_ge (by omega) (by omega))
      rw [scA] at he
      have inn : ∀ (mm r F : Nat) (fr' ft' : Nat → Nat) (σ : aS), r + mm = Q → C_fd sg σ F0 F fr' ft' x → scA (hitB sg) Q T 0 (F0, fr, ft) = scA (hitB sg) Q m (t + 1) (scW (hitB sg) t mm r (F, fr', ft')) → AW G 5 n 0 0 mu ro σ 31 [.ref 0, .int x, .int (nI F0), .int (nI t), .int (nI r)] [] := by
        intro mm
        induction mm with
        | zero =>
          intro r F fr' ft' σ hr hc he
          have h12 : σ 0 12 = nI Q := by rw [hc.f.at (a := 0) (by omega) (by omega) (by omega)]; exact j1
          have hq2 : (nI Q ≤ nI r) = True := eq_true (nI_le (by omega) (by omega))
          rw [scW] at he
          refine hG (fun q => q == 20 || q == 31) 80 _ _ _ _ (Nat.le_of_ble_eq_true rfl) ?_
          simp only [D_X11_scan, N_X11_scan, ↓reduceIte, vcS, vcC, vcI, gtF, ptF, inS, inV, fv0, fv1, fv2, fv3, fw0, fw1, lg_0, lg_1, lg_2, lg_3, lg_4, lg_5, lg_6, lg_7, lg_8, lg_9, lg_10, lg_11, lg_12, lg_13, lg_14, lsq_0, lsl_0, lsq_1, lsl_1, lsq_2, lsl_2, lsq_3, lsl_3, lsq_4, lsl_4, lsq_5, lsl_5, lsq_6, lsl_6, lsq_7, lsl_7, lsq_8, lsl_8, lsq_9, lsl_9, lsq_10, lsl_10, lsq_11, lsl_11, lsq_12, lsl_12, lsq_13, lsl_13, lsq_14, lsl_14, tk_0, tk_1, tk_2, tk_3, tk_4, tk_5, tk_6, tk_7, tk_8, cs_n, cs_i, cs_l, cs_r, cs_u, nl, rt_s, rt_n, CST1, Nat.reduceAdd, Nat.reduceLeDiff, va_rf, rtOk, Bool.false_eq_true, Bool.true_eq_false, if_false, if_true, ite_true, ite_false, true_and, and_true, eq_self, ne_eq, not_false_eq_true, not_true_eq_false, false_implies, true_implies, and_self, reduceCtorEq, Nat.reduceBEq, Bool.or_false, Bool.false_or, Bool.or_true, Bool.true_or, if1_0, if1_1, if1_01, one_01, zer_01, lg_cmp_ge, lg_cmp_le, lg_cmp_gt, lg_cmp_lt, lg_cmp_eq, Classical.not_not, SHm hS, SHr hS, h12, ↓im_T hq2, ↓im_TN hq2, hq2, nI_1]
          exact ih (t + 1) F fr' ft' σ _ (by omega) hc he
        | succ mm ih2 =>
          intro r F fr' ft' σ hr hc he
          have h12 : σ 0 12 = nI Q := by rw [hc.f.at (a := 0) (by omega) (by omega) (by omega)]; exact j1
          have hq2 : (nI Q ≤ nI r) = False := eq_false (nI_ge (by omega) (by omega))
          rw [scW] at he
          refine hG (fun q => q == 20 || q == 31) 80 _ _ _ _ (Nat.le_of_ble_eq_true rfl) ?_
          simp only [D_X11_scan, N_X11_scan, ↓reduceIte, vcS, vcC, vcI, gtF, ptF, inS, inV, fv0, fv1, fv2, fv3, fw0, fw1, lg_0, lg_1, lg_2, lg_3, lg_4, lg_5, lg_6, lg_7, lg_8, lg_9, lg_10, lg_11, lg_12, lg_13, lg_14, lsq_0, lsl_0, lsq_1, lsl_1, lsq_2, lsl_2, lsq_3, lsl_3, lsq_4, lsl_4, lsq_5, lsl_5, lsq_6, lsl_6, lsq_7, lsl_7, lsq_8, lsl_8, lsq_9, lsl_9, lsq_10, lsl_10, lsq_11, lsl_11, lsq_12, lsl_12, lsq_13, lsl_13, lsq_14, lsl_14, tk_0, tk_1, tk_2, tk_3, tk_4, tk_5, tk_6, tk_7, tk_8, cs_n, cs_i, cs_l, cs_r, cs_u, nl, rt_s, rt_n, CST1, Nat.reduceAdd, Nat.reduceLeDiff, va_rf, rtOk, Bool.false_eq_true, Bool.true_eq_false, if_false, if_true, ite_true, ite_false, true_and, and_true, eq_self, ne_eq, not_false_eq_true, not_true_eq_false, false_implies, true_implies, and_self, reduceCtorEq, Nat.reduceBEq, Bool.or_false, Bool.false_or, Bool.or_true, Bool.true_or, if1_0, if1_1, if1_01, one_01, zer_01, lg_cmp_ge, lg_cmp_le, lg_cmp_gt, lg_cmp_lt, lg_cmp_eq, Classical.not_not, SHm hS, SHr hS, h12, ↓im_F hq2, ↓im_FN hq2, hq2]
          refine ⟨by omega, c_scanOne (sg := sg) hS (by omega) hT hR hI hJ (by omega) (by omega) hc (fun σ' hc' => ?_)⟩
          simp only [D_X11_scan, N_X11_scan, ↓reduceIte, vcS, vcC, vcI, gtF, ptF, inS, inV, fv0, fv1, fv2, fv3, fw0, fw1, lg_0, lg_1, lg_2, lg_3, lg_4, lg_5, lg_6, lg_7, lg_8, lg_9, lg_10, lg_11, lg_12, lg_13, lg_14, lsq_0, lsl_0, lsq_1, lsl_1, lsq_2, lsl_2, lsq_3, lsl_3, lsq_4, lsl_4, lsq_5, lsl_5, lsq_6, lsl_6, lsq_7, lsl_7, lsq_8, lsl_8, lsq_9, lsl_9, lsq_10, lsl_10, lsq_11, lsl_11, lsq_12, lsl_12, lsq_13, lsl_13, lsq_14, lsl_14, tk_0, tk_1, tk_2, tk_3, tk_4, tk_5, tk_6, tk_7, tk_8, cs_n, cs_i, cs_l, cs_r, cs_u, nl, rt_s, rt_n, CST1, Nat.reduceAdd, Nat.reduceLeDiff, va_rf, rtOk, Bool.false_eq_true, Bool.true_eq_false, if_false, if_true, ite_true, ite_false, true_and, and_true, eq_self, ne_eq, not_false_eq_true, not_true_eq_false, false_implies, true_implies, and_self, reduceCtorEq, Nat.reduceBEq, Bool.or_false, Bool.false_or, Bool.or_true, Bool.true_or, if1_0, if1_1, if1_01, one_01, zer_01, lg_cmp_ge, lg_cmp_le, lg_cmp_gt, lg_cmp_lt, lg_cmp_eq, Classical.not_not, SHm hS, SHr hS, nI_1]
          exact ih2 (r + 1) _ _ _ σ' (by omega) hc' he
      refine hG (fun q => q == 20 || q == 31) 80 _ _ _ _ (Nat.le_of_ble_eq_true rfl) ?_
      simp only [D_X11_scan, N_X11_scan, ↓reduceIte, vcS, vcC, vcI, gtF, ptF, inS, inV, fv0, fv1, fv2, fv3, fw0, fw1, lg_0, lg_1, lg_2, lg_3, lg_4, lg_5, lg_6, lg_7, lg_8, lg_9, lg_10, lg_11, lg_12, lg_13, lg_14, lsq_0, lsl_0, lsq_1, lsl_1, lsq_2, lsl_2, lsq_3, lsl_3, lsq_4, lsl_4, lsq_5, lsl_5, lsq_6, lsl_6, lsq_7, lsl_7, lsq_8, lsl_8, lsq_9, lsl_9, lsq_10, lsl_10, lsq_11, lsl_11, lsq_12, lsl_12, lsq_13, lsl_13, lsq_14, lsl_14, tk_0, tk_1, tk_2, tk_3, tk_4, tk_5, tk_6, tk_7, tk_8, cs_n, cs_i, cs_l, cs_r, cs_u, nl, rt_s, rt_n, CST1, Nat.reduceAdd, Nat.reduceLeDiff, va_rf, rtOk, Bool.false_eq_true, Bool.true_eq_false, if_false, if_true, ite_true, ite_false, true_and, and_true, eq_self, ne_eq, not_false_eq_true, not_true_eq_false, false_implies, true_implies, and_self, reduceCtorEq, Nat.reduceBEq, Bool.or_false, Bool.false_or, Bool.or_true, Bool.true_or, if1_0, if1_1, if1_01, one_01, zer_01, lg_cmp_ge, lg_cmp_le, lg_cmp_gt, lg_cmp_lt, lg_cmp_eq, Classical.not_not, SHm hS, SHr hS, h11, ↓im_F hq, ↓im_FN hq, hq]
      exact inn Q 0 F fr' ft' σ (by omega) hc he
  exact lo T 0 F0 fr ft sg _ (by omega) hC9 rfl
theorem cnt_fs {p : Nat → Bool} {J : Nat} : (cntB p J = 0) = ¬ (fsG p J 0 < J) := by
  apply propext
  constructor
  · intro h0 h1
    have ex : ∃ y, 0 ≤ y ∧ y < 0 + J ∧ p y = true := by
      refine Classical.byContradiction (fun q => ?_)
      have := fs_no (p := p) J 0 (fun j h2 h3 => by rw [← Bool.not_eq_true]; exact fun z => q ⟨j, h2, h3, z⟩)
      omega
    obtain ⟨y, _, y1, y2⟩ := ex
    have := cnt_lt (p := fun _ => false) (q := p) (y := y) (fun _ z => absurd z (by decide)) y2 rfl J
    rw [if_pos (by omega)] at this
    omega
  · intro h
    refine cntB_no J (fun j hj => ?_)
    rw [← Bool.not_eq_true]
    intro z
    have := (fs_at (p := p) J 0 ⟨j, by omega, by omega, z⟩).2.1
    omega
set_option maxHeartbeats 4000000 in
set_option maxRecDepth 100000 in
theorem m_scan {x : Int32} (hS : Sh mu ro) (hd : 4 ≤ d) (hT : S_tk mu ro n T tb) (hR : S_rw mu ro n Q rb) (hI : I_tk sg T tb) (hJ : I_rw sg Q rb) (hC9 : M_fd sg sg F0 F0 fr ft x) (hk1 : ¬ (0 ≤ x.toInt ∧ x.toInt ≤ 999) → K (some (.int (-2))) sg) (hk2 : (0 ≤ x.toInt ∧ x.toInt ≤ 999) → ∀ σ', M_fd sg σ' F0 (scA (hitB sg) Q T 0 (F0, fr, ft)).1 (scA (hitB sg) Q T 0 (F0, fr, ft)).2.1 (scA (hitB sg) Q T 0 (F0, fr, ft)).2.2 x → K (some (.int (nI ((scA (hitB sg) Q T 0 (F0, fr, ft)).1 - F0)))) σ') : aCall d 192 [.ref 48, .int x] n mu ro sg K := by
  obtain ⟨⟨i1, i2⟩, i3, i4, i5⟩ := id hI
  obtain ⟨⟨j1, j2⟩, j3, j4⟩ := id hJ
  refine aCall_start (mL := 6) (cc := cX12_scan) (o := 12) (ret := (some .int)) 4 (by decide) (by decide +kernel) rfl rfl rfl rfl (Nat.le_of_ble_eq_true rfl) (fun G hC hG => ?_)
  simp only [exL, List.cons_append, List.nil_append, rp_0, rp_1, rp_2, rp_3, rp_4, rp_5, rp_6, rp_7, rp_8, rp_9, rp_10, rp_11, List.append_nil]
  refine hG (fun q => q == 17 || q == 28) 120 _ _ _ _ (Nat.le_of_ble_eq_true rfl) ?_
  simp only [D_X12_scan, N_X12_scan, ↓reduceIte, vcS, vcC, vcI, gtF, ptF, inS, inV, fv0, fv1, fv2, fv3, fw0, fw1, lg_0, lg_1, lg_2, lg_3, lg_4, lg_5, lg_6, lg_7, lg_8, lg_9, lg_10, lg_11, lg_12, lg_13, lg_14, lsq_0, lsl_0, lsq_1, lsl_1, lsq_2, lsl_2, lsq_3, lsl_3, lsq_4, lsl_4, lsq_5, lsl_5, lsq_6, lsl_6, lsq_7, lsl_7, lsq_8, lsl_8, lsq_9, lsl_9, lsq_10, lsl_10, lsq_11, lsl_11, lsq_12, lsl_12, lsq_13, lsl_13, lsq_14, lsl_14, tk_0, tk_1, tk_2, tk_3, tk_4, tk_5, tk_6, tk_7, tk_8, cs_n, cs_i, cs_l, cs_r, cs_u, nl, rt_s, rt_n, CST1, Nat.reduceAdd, Nat.reduceLeDiff, va_rf, rtOk, Bool.false_eq_true, Bool.true_eq_false, if_false, if_true, ite_true, ite_false, true_and, and_true, eq_self, ne_eq, not_false_eq_true, not_true_eq_false, false_implies, true_implies, and_self, reduceCtorEq, Nat.reduceBEq, Bool.or_false, Bool.false_or, Bool.or_true, Bool.true_or, if1_0, if1_1, if1_01, one_01, zer_01, lg_cmp_ge, lg_cmp_le, lg_cmp_gt, lg_cmp_lt, lg_cmp_eq, Classical.not_not, SHm hS, SHr hS]
  refine ⟨by omega, m_isTick (by omega) ?_⟩
  simp only [D_X12_scan, N_X12_scan, ↓reduceIte, vcS, vcC, vcI, gtF, ptF, inS, inV, fv0, fv1, fv2, fv3, fw0, fw1, lg_0, lg_1, lg_2, lg_3, lg_4, lg_5, lg_6, lg_7, lg_8, lg_9, lg_10, lg_11, lg_12, lg_13, lg_14, lsq_0, lsl_0, lsq_1, lsl_1, lsq_2, lsl_2, lsq_3, lsl_3, lsq_4, lsl_4, lsq_5, lsl_5, lsq_6, lsl_6, lsq_7, lsl_7, lsq_8, lsl_8, lsq_9, lsl_9, lsq_10, lsl_10, lsq_11, lsl_11, lsq_12, lsl_12, lsq_13, lsl_13, lsq_14, lsl_14, tk_0, tk_1, tk_2, tk_3, tk_4, tk_5, tk_6, tk_7, tk_8, cs_n, cs_i, cs_l, cs_r, cs_u, nl, rt_s, rt_n, CST1, Nat.reduceAdd, Nat.reduceLeDiff, va_rf, rtOk, Bool.false_eq_true, Bool.true_eq_false, if_false, if_true, ite_true, ite_false, true_and, and_true, eq_self, ne_eq, not_false_eq_true, not_true_eq_false, false_implies, true_implies, and_self, reduceCtorEq, Nat.reduceBEq, Bool.or_false, Bool.false_or, Bool.or_true, Bool.true_or, if1_0, if1_1, if1_01, one_01, zer_01, lg_cmp_ge, lg_cmp_le, lg_cmp_gt, lg_cmp_lt, lg_cmp_eq, Classical.not_not, SHm hS, SHr hS, hC9.1]
  refine ⟨fun q => ?_, fun q => hk1 q⟩
  have hk3 := hk2 q
  have lo : ∀ (m t F : Nat) (fr' ft' : Nat → Nat) (σ : aS) (v4 v5 : Value), t + m = T → M_fd sg σ F0 F fr' ft' x → scA (hitB sg) Q T 0 (F0, fr, ft) = scA (hitB sg) Q m t (F, fr', ft') → AW G 6 n 0 0 mu ro σ 17 [.ref 48, .int x, .int (nI F0), .int (nI t), v4, v5] [] := by
    intro m
    induction m with
    | zero =>
      intro t F fr' ft' σ v4 v5 ht hc he
      have h11 : σ 48 9 = nI T := by rw [hc.f 48 9 (by unfold fdC; omega)]; exact i2
      have hq : (nI T ≤ nI t) = True := eq_true (nI_le (by omega) (by omega))
      have hsb : nI F - nI F0 = nI (F - F0) := pk_sub hc.2.2.1
      rw [he, scA] at hk3
      refine hG (fun q => q == 17 || q == 28) 120 _ _ _ _ (Nat.le_of_ble_eq_true rfl) ?_
      simp only [D_X12_scan, N_X12_scan, ↓reduceIte, vcS, vcC, vcI, gtF, ptF, inS, inV, fv0, fv1, fv2, fv3, fw0, fw1, lg_0, lg_1, lg_2, lg_3, lg_4, lg_5, lg_6, lg_7, lg_8, lg_9, lg_10, lg_11, lg_12, lg_13, lg_14, lsq_0, lsl_0, lsq_1, lsl_1, lsq_2, lsl_2, lsq_3, lsl_3, lsq_4, lsl_4, lsq_5, lsl_5, lsq_6, lsl_6, lsq_7, lsl_7, lsq_8, lsl_8, lsq_9, lsl_9, lsq_10, lsl_10, lsq_11, lsl_11, lsq_12, lsl_12, lsq_13, lsl_13, lsq_14, lsl_14, tk_0, tk_1, tk_2, tk_3, tk_4, tk_5, tk_6, tk_7, tk_8, cs_n, cs_i, cs_l, cs_r, cs_u, nl, rt_s, rt_n, CST1, Nat.reduceAdd, Nat.reduceLeDiff, va_rf, rtOk, Bool.false_eq_true, Bool.true_eq_false, if_false, if_true, ite_true, ite_false, true_and, and_true, eq_self, ne_eq, not_false_eq_true, not_true_eq_false, false_implies, true_implies, and_self, reduceCtorEq, Nat.reduceBEq, Bool.or_false, Bool.false_or, Bool.or_true, Bool.true_or, if1_0, if1_1, if1_01, one_01, zer_01, lg_cmp_ge, lg_cmp_le, lg_cmp_gt, lg_cmp_lt, lg_cmp_eq, Classical.not_not, SHm hS, SHr hS, h11, ↓im_T hq, ↓im_TN hq, hq, hc.1, hsb]
      exact hk3 σ hc
    | succ m ih =>
      intro t F fr' ft' σ v4 v5 ht hc he
      have h11 : σ 48 9 = nI T := by rw [hc.f 48 9 (by unfold fdC; omega)]; exact i2
      have hq : (nI T ≤ nI t) = False := eq_false (nI_ge (by omega) (by omega))
      have et : (nI t).toNatClampNeg = t := nI_clamp (by omega)
      have vt : vp_in (nI t) 8 := vp_in_nI (by omega) (by decide)
      rw [scA] at he
      have inn : ∀ (mm r F : Nat) (fr' ft' : Nat → Nat) (σ : aS) (v5 : Value), r + mm = Q → M_fd sg σ F0 F fr' ft' x → scA (hitB sg) Q T 0 (F0, fr, ft) = scA (hitB sg) Q m (t + 1) (scW (hitB sg) t mm r (F, fr', ft')) → AW G 6 n 0 0 mu ro σ 28 [.ref 48, .int x, .int (nI F0), .int (nI t), .int (nI r), v5] [] := by
        intro mm
        induction mm with
        | zero =>
          intro r F fr' ft' σ v5 hr hc he
          have h12 : σ 48 18 = nI Q := by rw [hc.f 48 18 (by unfold fdC; omega)]; exact j2
          have hq2 : (nI Q ≤ nI r) = True := eq_true (nI_le (by omega) (by omega))
          rw [scW] at he
          refine hG (fun q => q == 17 || q == 28) 120 _ _ _ _ (Nat.le_of_ble_eq_true rfl) ?_
          simp only [D_X12_scan, N_X12_scan, ↓reduceIte, vcS, vcC, vcI, gtF, ptF, inS, inV, fv0, fv1, fv2, fv3, fw0, fw1, lg_0, lg_1, lg_2, lg_3, lg_4, lg_5, lg_6, lg_7, lg_8, lg_9, lg_10, lg_11, lg_12, lg_13, lg_14, lsq_0, lsl_0, lsq_1, lsl_1, lsq_2, lsl_2, lsq_3, lsl_3, lsq_4, lsl_4, lsq_5, lsl_5, lsq_6, lsl_6, lsq_7, lsl_7, lsq_8, lsl_8, lsq_9, lsl_9, lsq_10, lsl_10, lsq_11, lsl_11, lsq_12, lsl_12, lsq_13, lsl_13, lsq_14, lsl_14, tk_0, tk_1, tk_2, tk_3, tk_4, tk_5, tk_6, tk_7, tk_8, cs_n, cs_i, cs_l, cs_r, cs_u, nl, rt_s, rt_n, CST1, Nat.reduceAdd, Nat.reduceLeDiff, va_rf, rtOk, Bool.false_eq_true, Bool.true_eq_false, if_false, if_true, ite_true, ite_false, true_and, and_true, eq_self, ne_eq, not_false_eq_true, not_true_eq_false, false_implies, true_implies, and_self, reduceCtorEq, Nat.reduceBEq, Bool.or_false, Bool.false_or, Bool.or_true, Bool.true_or, if1_0, if1_1, if1_01, one_01, zer_01, lg_cmp_ge, lg_cmp_le, lg_cmp_gt, lg_cmp_lt, lg_cmp_eq, Classical.not_not, SHm hS, SHr hS, h12, ↓im_T hq2, ↓im_TN hq2, hq2, nI_1]
          exact ih (t + 1) F fr' ft' σ _ _ (by omega) hc he
        | succ mm ih2 =>
          intro r F fr' ft' σ v5 hr hc he
          have h12 : σ 48 18 = nI Q := by rw [hc.f 48 18 (by unfold fdC; omega)]; exact j2
          have hq2 : (nI Q ≤ nI r) = False := eq_false (nI_ge (by omega) (by omega))
          have ff := hc.f
          have hIs := hI.fd hT ff
          have hJs := hJ.fd hR ff
          obtain ⟨kd, e, k1, k2, k3, _, _, _⟩ := t1_k (hIs.2.2.1 t (by omega))
          by_cases kz : kd = 0
          · have k5 : σ 55 t = 0 := by rw [k3, kz]; rfl
            obtain ⟨g1, g2, g3, g4⟩ := t1_g (hIs.2.2.1 t (by omega))
            obtain ⟨z, z1, z2, z3, z4, z5⟩ := hJs.2.2 r (by omega)
            have gg := (hIs.2.2.1 t (by omega)).2.2.2.2.2.2.2.2
            have ez : (σ 63 r).toNatClampNeg = z := by rw [z4]; exact nI_clamp (by omega)
            have l0 := cntB_le (fpF σ r t 0 z (jnJ σ t)) (jnJ σ t)
            have l1 := cntB_le (fpF σ r t 1 z (jnJ σ t)) (jnJ σ t)
            have lj := jn_le (s := σ) (t := t)
            obtain ⟨c1, c2, c3, c4, c5, c6, c7⟩ := id hc
            have hb : hitB sg r t = (hitV σ r t 0 || hitV σ r t 1) := by
              rw [← hit_cg ff]
              unfold hitB
              rw [decide_eq_true k5, Bool.true_and]
            have hle : (nI (cntB (fpF σ r t 0 z (jnJ σ t)) (jnJ σ t) + cntB (fpF σ r t 1 z (jnJ σ t)) (jnJ σ t)) ≤ 0) = ¬ (hitB sg r t = true) := by
              rw [nI_le0 (by omega), hb, Bool.or_eq_true]
              have a0 : (cntB (fpF σ r t 0 z (jnJ σ t)) (jnJ σ t) = 0) = ¬ (hitV σ r t 0 = true) := by
                rw [cnt_fs]; unfold hitV; rw [ez, decide_eq_true_iff]
              have a1 : (cntB (fpF σ r t 1 z (jnJ σ t)) (jnJ σ t) = 0) = ¬ (hitV σ r t 1 = true) := by
                rw [cnt_fs]; unfold hitV; rw [ez, decide_eq_true_iff]
              apply propext
              rw [not_or, ← a0, ← a1]
              omega
            rw [scW] at he
            have no : ¬ ((hitB sg r t = true ∧ thB fr' ft' F r t = false) ∧ F < 40) → ∀ v5, AW G 6 n 0 0 mu ro σ 28 [.ref 48, .int x, .int (nI F0), .int (nI t), .int (nI (r + 1)), v5] [] := by
              intro y v5
              refine ih2 (r + 1) F fr' ft' σ v5 (by omega) hc ?_
              rw [scO, if_neg y] at he
              exact he
            have c55 := eq_true k5
            refine hG (fun q => q == 17 || q == 28) 120 _ _ _ _ (Nat.le_of_ble_eq_true rfl) ?_
            simp only [D_X12_scan, N_X12_scan, ↓reduceIte, vcS, vcC, vcI, gtF, ptF, inS, inV, fv0, fv1, fv2, fv3, fw0, fw1, lg_0, lg_1, lg_2, lg_3, lg_4, lg_5, lg_6, lg_7, lg_8, lg_9, lg_10, lg_11, lg_12, lg_13, lg_14, lsq_0, lsl_0, lsq_1, lsl_1, lsq_2, lsl_2, lsq_3, lsl_3, lsq_4, lsl_4, lsq_5, lsl_5, lsq_6, lsl_6, lsq_7, lsl_7, lsq_8, lsl_8, lsq_9, lsl_9, lsq_10, lsl_10, lsq_11, lsl_11, lsq_12, lsl_12, lsq_13, lsl_13, lsq_14, lsl_14, tk_0, tk_1, tk_2, tk_3, tk_4, tk_5, tk_6, tk_7, tk_8, cs_n, cs_i, cs_l, cs_r, cs_u, nl, rt_s, rt_n, CST1, Nat.reduceAdd, Nat.reduceLeDiff, va_rf, rtOk, Bool.false_eq_true, Bool.true_eq_false, if_false, if_true, ite_true, ite_false, true_and, and_true, eq_self, ne_eq, not_false_eq_true, not_true_eq_false, false_implies, true_implies, and_self, reduceCtorEq, Nat.reduceBEq, Bool.or_false, Bool.false_or, Bool.or_true, Bool.true_or, if1_0, if1_1, if1_01, one_01, zer_01, lg_cmp_ge, lg_cmp_le, lg_cmp_gt, lg_cmp_lt, lg_cmp_eq, Classical.not_not, SHm hS, SHr hS, h12, ↓im_F hq2, ↓im_FN hq2, hq2, et, vt, c55]
            refine ⟨by omega, m_fitsOf (J := jnJ σ t) hS (by omega) (by omega) (by omega) z4 ⟨z1, z2⟩ (fun k hk => (z5 k hk).2) (fun p hp => (gg p hp).2.2.2) g2 rfl jn_le ?_⟩
            rw [if_pos rfl]
            simp only [D_X12_scan, N_X12_scan, ↓reduceIte, vcS, vcC, vcI, gtF, ptF, inS, inV, fv0, fv1, fv2, fv3, fw0, fw1, lg_0, lg_1, lg_2, lg_3, lg_4, lg_5, lg_6, lg_7, lg_8, lg_9, lg_10, lg_11, lg_12, lg_13, lg_14, lsq_0, lsl_0, lsq_1, lsl_1, lsq_2, lsl_2, lsq_3, lsl_3, lsq_4, lsl_4, lsq_5, lsl_5, lsq_6, lsl_6, lsq_7, lsl_7, lsq_8, lsl_8, lsq_9, lsl_9, lsq_10, lsl_10, lsq_11, lsl_11, lsq_12, lsl_12, lsq_13, lsl_13, lsq_14, lsl_14, tk_0, tk_1, tk_2, tk_3, tk_4, tk_5, tk_6, tk_7, tk_8, cs_n, cs_i, cs_l, cs_r, cs_u, nl, rt_s, rt_n, CST1, Nat.reduceAdd, Nat.reduceLeDiff, va_rf, rtOk, Bool.false_eq_true, Bool.true_eq_false, if_false, if_true, ite_true, ite_false, true_and, and_true, eq_self, ne_eq, not_false_eq_true, not_true_eq_false, false_implies, true_implies, and_self, reduceCtorEq, Nat.reduceBEq, Bool.or_false, Bool.false_or, Bool.or_true, Bool.true_or, if1_0, if1_1, if1_01, one_01, zer_01, lg_cmp_ge, lg_cmp_le, lg_cmp_gt, lg_cmp_lt, lg_cmp_eq, Classical.not_not, SHm hS, SHr hS]
            refine ⟨by omega, m_fitsOf (J := jnJ σ t) hS (by omega) (by omega) (by omega) z4 ⟨z1, z2⟩ (fun k hk => (z5 k hk).2) (fun p hp => (gg p hp).2.2.2) g2 rfl jn_le ?_⟩
            rw [if_pos rfl]
            simp only [D_X12_scan, N_X12_scan, ↓reduceIte, vcS, vcC, vcI, gtF, ptF, inS, inV, fv0, fv1, fv2, fv3, fw0, fw1, lg_0, lg_1, lg_2, lg_3, lg_4, lg_5, lg_6, lg_7, lg_8, lg_9, lg_10, lg_11, lg_12, lg_13, lg_14, lsq_0, lsl_0, lsq_1, lsl_1, lsq_2, lsl_2, lsq_3, lsl_3, lsq_4, lsl_4, lsq_5, lsl_5, lsq_6, lsl_6, lsq_7, lsl_7, lsq_8, lsl_8, lsq_9, lsl_9, lsq_10, lsl_10, lsq_11, lsl_11, lsq_12, lsl_12, lsq_13, lsl_13, lsq_14, lsl_14, tk_0, tk_1, tk_2, tk_3, tk_4, tk_5, tk_6, tk_7, tk_8, cs_n, cs_i, cs_l, cs_r, cs_u, nl, rt_s, rt_n, CST1, Nat.reduceAdd, Nat.reduceLeDiff, va_rf, rtOk, Bool.false_eq_true, Bool.true_eq_false, if_false, if_true, ite_true, ite_false, true_and, and_true, eq_self, ne_eq, not_false_eq_true, not_true_eq_false, false_implies, true_implies, and_self, reduceCtorEq, Nat.reduceBEq, Bool.or_false, Bool.false_or, Bool.or_true, Bool.true_or, if1_0, if1_1, if1_01, one_01, zer_01, lg_cmp_ge, lg_cmp_le, lg_cmp_gt, lg_cmp_lt, lg_cmp_eq, Classical.not_not, SHm hS, SHr hS, nI_add, hle, z10, nI_1]
            refine ⟨fun y1 => no (fun u => y1 u.1.1) _, fun y1 => ⟨by omega, m_isFound hS (by omega) (by omega) c1 c2 c4 ?_⟩⟩
            by_cases y3 : F < 40
            · have h40 : (40 ≤ nI F) = False := eq_false (by have := nI_toInt (n := F) (by omega); ((try simp only [i_le, i_lt, i_eq, l_le, l_lt, l_eq, i_ne, l_ne, toL, l_add, l_sub1, LIT1, LIT2, Int.reduceNeg, ge_iff_le, gt_iff_lt] at *); omega))
              have eF : (nI F).toNatClampNeg = F := nI_clamp (by omega)
              have vF : vp_in (nI F) 40 := vp_in_nI (by omega) (by decide)
              have r1 : s2 σ 65 F (nI r) 48 21 = nI F := by rw [s2_n (by omega)]; exact c1
              have r2 : s2 (s2 σ 65 F (nI r)) 66 F (nI t) 48 21 = nI F := by rw [s2_n (by omega)]; exact r1
              have r3 : s2 (s2 (s2 σ 65 F (nI r)) 66 F (nI t)) 67 F x 48 21 = nI F := by rw [s2_n (by omega)]; exact r2
              have r4 : s2 (s2 (s2 (s2 σ 65 F (nI r)) 66 F (nI t)) 67 F x) 68 F 0 48 21 = nI F := by rw [s2_n (by omega)]; exact r3
              simp only [D_X12_scan, N_X12_scan, ↓reduceIte, vcS, vcC, vcI, gtF, ptF, inS, inV, fv0, fv1, fv2, fv3, fw0, fw1, lg_0, lg_1, lg_2, lg_3, lg_4, lg_5, lg_6, lg_7, lg_8, lg_9, lg_10, lg_11, lg_12, lg_13, lg_14, lsq_0, lsl_0, lsq_1, lsl_1, lsq_2, lsl_2, lsq_3, lsl_3, lsq_4, lsl_4, lsq_5, lsl_5, lsq_6, lsl_6, lsq_7, lsl_7, lsq_8, lsl_8, lsq_9, lsl_9, lsq_10, lsl_10, lsq_11, lsl_11, lsq_12, lsl_12, lsq_13, lsl_13, lsq_14, lsl_14, tk_0, tk_1, tk_2, tk_3, tk_4, tk_5, tk_6, tk_7, tk_8, cs_n, cs_i, cs_l, cs_r, cs_u, nl, rt_s, rt_n, CST1, Nat.reduceAdd, Nat.reduceLeDiff, va_rf, rtOk, Bool.false_eq_true, Bool.true_eq_false, if_false, if_true, ite_true, ite_false, true_and, and_true, eq_self, ne_eq, not_false_eq_true, not_true_eq_false, false_implies, true_implies, and_self, reduceCtorEq, Nat.reduceBEq, Bool.or_false, Bool.false_or, Bool.or_true, Bool.true_or, if1_0, if1_1, if1_01, one_01, zer_01, lg_cmp_ge, lg_cmp_le, lg_cmp_gt, lg_cmp_lt, lg_cmp_eq, Classical.not_not, SHm hS, SHr hS, c1, h40, eF, vF, r1, r2, r3, r4, nI_1]
              refine ⟨fun y2 => no (fun u => by rw [y2] at u; exact absurd u.1.2 (by decide)) _, fun y2 => ?_⟩
              have y2' : thB fr' ft' F r t = false := by rw [← Bool.not_eq_true]; exact y2
              rw [scO, if_pos ⟨⟨y1, y2'⟩, y3⟩] at he
              refine ih2 (r + 1) (F + 1) _ _ _ _ (by omega) ⟨by ((try simp (disch := omega) only [s2_y, s2_n, rg_y, rg_n, fl_y, fl_n]); (try with_reducible rfl); (try assumption)), by omega, by omega, fun f hf => ?_, fun f hf => ?_, fun f hf hf2 => ?_, fun b k q => ?_⟩ he
              · by_cases q : f = F
                · subst q
                  rw [upN_y, upN_y]
                  exact ⟨by ((try simp (disch := omega) only [s2_y, s2_n, rg_y, rg_n, fl_y, fl_n]); (try with_reducible rfl); (try assumption)), by ((try simp (disch := omega) only [s2_y, s2_n, rg_y, rg_n, fl_y, fl_n]); (try with_reducible rfl); (try assumption)), by omega, by omega⟩
                · rw [upN_n q, upN_n q]
                  obtain ⟨u1, u2, u3, u4⟩ := c4 f (by omega)
                  exact ⟨by ((try simp (disch := omega) only [s2_y, s2_n, rg_y, rg_n, fl_y, fl_n]); (try with_reducible rfl); (try assumption)), by ((try simp (disch := omega) only [s2_y, s2_n, rg_y, rg_n, fl_y, fl_n]); (try with_reducible rfl); (try assumption)), u3, u4⟩
              · obtain ⟨u1, u2⟩ := c5 f hf
                exact ⟨by ((try simp (disch := omega) only [s2_y, s2_n, rg_y, rg_n, fl_y, fl_n]); (try with_reducible rfl); (try assumption)), by ((try simp (disch := omega) only [s2_y, s2_n, rg_y, rg_n, fl_y, fl_n]); (try with_reducible rfl); (try assumption))⟩
              · by_cases q : f = F
                · subst q
                  exact ⟨by ((try simp (disch := omega) only [s2_y, s2_n, rg_y, rg_n, fl_y, fl_n]); (try with_reducible rfl); (try assumption)), by ((try simp (disch := omega) only [s2_y, s2_n, rg_y, rg_n, fl_y, fl_n]); (try with_reducible rfl); (try assumption))⟩
                · obtain ⟨u1, u2⟩ := c6 f hf (by omega)
                  exact ⟨by ((try simp (disch := omega) only [s2_y, s2_n, rg_y, rg_n, fl_y, fl_n]); (try with_reducible rfl); (try assumption)), by ((try simp (disch := omega) only [s2_y, s2_n, rg_y, rg_n, fl_y, fl_n]); (try with_reducible rfl); (try assumption))⟩
              · rw [s2_n (by omega), s2_n (by omega), s2_n (by omega), s2_n (by omega), s2_n (by omega)]
                exact c7 b k q
            · have h40 : (40 ≤ nI F) = True := eq_true (by have := nI_toInt (n := F) (by omega); ((try simp only [i_le, i_lt, i_eq, l_le, l_lt, l_eq, i_ne, l_ne, toL, l_add, l_sub1, LIT1, LIT2, Int.reduceNeg, ge_iff_le, gt_iff_lt] at *); omega))
              simp only [D_X12_scan, N_X12_scan, ↓reduceIte, vcS, vcC, vcI, gtF, ptF, inS, inV, fv0, fv1, fv2, fv3, fw0, fw1, lg_0, lg_1, lg_2, lg_3, lg_4, lg_5, lg_6, lg_7, lg_8, lg_9, lg_10, lg_11, lg_12, lg_13, lg_14, lsq_0, lsl_0, lsq_1, lsl_1, lsq_2, lsl_2, lsq_3, lsl_3, lsq_4, lsl_4, lsq_5, lsl_5, lsq_6, lsl_6, lsq_7, lsl_7, lsq_8, lsl_8, lsq_9, lsl_9, lsq_10, lsl_10, lsq_11, lsl_11, lsq_12, lsl_12, lsq_13, lsl_13, lsq_14, lsl_14, tk_0, tk_1, tk_2, tk_3, tk_4, tk_5, tk_6, tk_7, tk_8, cs_n, cs_i, cs_l, cs_r, cs_u, nl, rt_s, rt_n, CST1, Nat.reduceAdd, Nat.reduceLeDiff, va_rf, rtOk, Bool.false_eq_true, Bool.true_eq_false, if_false, if_true, ite_true, ite_false, true_and, and_true, eq_self, ne_eq, not_false_eq_true, not_true_eq_false, false_implies, true_implies, and_self, reduceCtorEq, Nat.reduceBEq, Bool.or_false, Bool.false_or, Bool.or_true, Bool.true_or, if1_0, if1_1, if1_01, one_01, zer_01, lg_cmp_ge, lg_cmp_le, lg_cmp_gt, lg_cmp_lt, lg_cmp_eq, Classical.not_not, SHm hS, SHr hS, c1, h40, nI_1]
              exact ⟨fun _ => no (fun u => y3 u.2) _, fun _ => no (fun u => y3 u.2) _⟩
          · have c55 : (σ 55 t = 0) = False := eq_false (by rw [k3]; exact nI_ne0 (by omega) (by omega))
            have hn : ∀ r, hitB sg r t = false := by
              intro r
              rw [← hit_cg ff]
              unfold hitB
              rw [decide_eq_false (by rw [c55]; exact fun z => z), Bool.false_and]
            rw [scW_no hn] at he
            refine hG (fun q => q == 17 || q == 28) 120 _ _ _ _ (Nat.le_of_ble_eq_true rfl) ?_
            simp only [D_X12_scan, N_X12_scan, ↓reduceIte, vcS, vcC, vcI, gtF, ptF, inS, inV, fv0, fv1, fv2, fv3, fw0, fw1, lg_0, lg_1, lg_2, lg_3, lg_4, lg_5, lg_6, lg_7, lg_8, lg_9, lg_10, lg_11, lg_12, lg_13, lg_14, lsq_0, lsl_0, lsq_1, lsl_1, lsq_2, lsl_2, lsq_3, lsl_3, lsq_4, lsl_4, lsq_5, lsl_5, lsq_6, lsl_6, lsq_7, lsl_7, lsq_8, lsl_8, lsq_9, lsl_9, lsq_10, lsl_10, lsq_11, lsl_11, lsq_12, lsl_12, lsq_13, lsl_13, lsq_14, lsl_14, tk_0, tk_1, tk_2, tk_3, tk_4, tk_5, tk_6, tk_7, tk_8, cs_n, cs_i, cs_l, cs_r, cs_u, nl, rt_s, rt_n, CST1, Nat.reduceAdd, Nat.reduceLeDiff, va_rf, rtOk, Bool.false_eq_true, Bool.true_eq_false, if_false, if_true, ite_true, ite_false, true_and, and_true, eq_self, ne_eq, not_false_eq_true, not_true_eq_false, false_implies, true_implies, and_self, reduceCtorEq, Nat.reduceBEq, Bool.or_false, Bool.false_or, Bool.or_true, Bool.true_or, if1_0, if1_1, if1_01, one_01, zer_01, lg_cmp_ge, lg_cmp_le, lg_cmp_gt, lg_cmp_lt, lg_cmp_eq, Classical.not_not, SHm hS, SHr hS, h12, ↓im_F hq2, ↓im_FN hq2, hq2, et, vt, c55, nI_1]
            exact ih (t + 1) F fr' ft' σ _ _ (by omega) hc he
      refine hG (fun q => q == 17 || q == 28) 120 _ _ _ _ (Nat.le_of_ble_eq_true rfl) ?_
      simp only [D_X12_scan, N_X12_scan, ↓reduceIte, vcS, vcC, vcI, gtF, ptF, inS, inV, fv0, fv1, fv2, fv3, fw0, fw1, lg_0, lg_1, lg_2, lg_3, lg_4, lg_5, lg_6, lg_7, lg_8, lg_9, lg_10, lg_11, lg_12, lg_13, lg_14, lsq_0, lsl_0, lsq_1, lsl_1, lsq_2, lsl_2, lsq_3, lsl_3, lsq_4, lsl_4, lsq_5, lsl_5, lsq_6, lsl_6, lsq_7, lsl_7, lsq_8, lsl_8, lsq_9, lsl_9, lsq_10, lsl_10, lsq_11, lsl_11, lsq_12, lsl_12, lsq_13, lsl_13, lsq_14, lsl_14, tk_0, tk_1, tk_2, tk_3, tk_4, tk_5, tk_6, tk_7, tk_8, cs_n, cs_i, cs_l, cs_r, cs_u, nl, rt_s, rt_n, CST1, Nat.reduceAdd, Nat.reduceLeDiff, va_rf, rtOk, Bool.false_eq_true, Bool.true_eq_false, if_false, if_true, ite_true, ite_false, true_and, and_true, eq_self, ne_eq, not_false_eq_true, not_true_eq_false, false_implies, true_implies, and_self, reduceCtorEq, Nat.reduceBEq, Bool.or_false, Bool.false_or, Bool.or_true, Bool.true_or, if1_0, if1_1, if1_01, one_01, zer_01, lg_cmp_ge, lg_cmp_le, lg_cmp_gt, lg_cmp_lt, lg_cmp_eq, Classical.not_not, SHm hS, SHr hS, h11, ↓im_F hq, ↓im_FN hq, hq]
      exact inn Q 0 F fr' ft' σ _ (by omega) hc he
  exact lo T 0 F0 fr ft sg _ _ (by omega) hC9 rfl
set_option maxHeartbeats 4000000 in
set_option maxRecDepth 100000 in
theorem b_scan {x : Int32} (hS : Sh mu ro) (hd : 4 ≤ d) (hT : S_tk mu ro n T tb) (hR : S_rw mu ro n Q rb) (hI : I_tk sg T tb) (hJ : I_rw sg Q rb) (hF : I_fd sg F0 T) (hk : ∀ r sg2 F', I_fd sg2 F' T → FdF sg sg2 → K r sg2) : aCall d 106 [.ref 0, .int x] n mu ro sg (fun r1 sg1 => aCall d 192 [.ref 48, .int x] n mu ro sg1 (fun r2 sg2 => r1 = r2 ∧ K r1 sg2)) := by
  obtain ⟨⟨f1, f2⟩, f3, f4, f5⟩ := id hF
  have h8 := hI.2.1
  obtain ⟨fr, hfr⟩ : ∃ fr : Nat → Nat, fr = fun f => (sg 65 f).toInt.toNat := ⟨_, rfl⟩
  obtain ⟨ft, hft⟩ : ∃ ft : Nat → Nat, ft = fun f => (sg 66 f).toNatClampNeg := ⟨_, rfl⟩
  have key : ∀ f, f < F0 → sg 65 f = nI (fr f) ∧ sg 66 f = nI (ft f) ∧ fr f < 8 ∧ ft f < T ∧ sg 16 f = nI (fr f) ∧ sg 17 f = nI (ft f) ∧ sg 18 f = sg 56 (ft f) := by
    intro f hf
    obtain ⟨⟨t, t1, t2, t3, t4⟩, g1, ⟨g2, g2'⟩, -⟩ := f4 f hf
    have e0 : fr f = (sg 65 f).toInt.toNat := by rw [hfr]
    have e1 : sg 65 f = nI (fr f) := by rw [e0]; exact i_eq.mpr (by rw [nI_toInt (by omega)]; omega)
    have e2 : ft f = t := by rw [hft]; show (sg 66 f).toNatClampNeg = t; rw [t3]; exact nI_clamp (by omega)
    refine ⟨e1, by rw [e2]; exact t3, ?_, by omega, g1.trans e1, by rw [e2]; exact t2, by rw [e2]; exact t4⟩
    rw [hfr]
    show (sg 65 f).toInt.toNat < 8
    omega
  have C0 : C_fd sg sg F0 F0 fr ft x := ⟨f1, f3, Nat.le_refl _, fun f hf => ⟨(key f hf).2.2.2.2.1, (key f hf).2.2.2.2.2.1, (key f hf).2.2.1, by have := (key f hf).2.2.2.1; omega⟩, fun f _ => ⟨rfl, rfl⟩, fun f h1 h2 => absurd h2 (by omega), fun _ _ _ => rfl⟩
  refine c_scan hS hd hT hR hI hJ C0 (fun q => ?_) (fun q σ1 hc => ?_)
  · have M0 : M_fd sg sg F0 F0 fr ft x := ⟨f2, f3, Nat.le_refl _, fun f hf => ⟨(key f hf).1, (key f hf).2.1, (key f hf).2.2.1, by have := (key f hf).2.2.2.1; omega⟩, fun f _ => ⟨rfl, rfl⟩, fun f h1 h2 => absurd h2 (by omega), fun _ _ _ => rfl⟩
    exact m_scan hS hd hT hR hI hJ M0 (fun _ => ⟨rfl, hk _ _ _ hF (fun _ _ _ => rfl)⟩) (fun z => absurd z q)
  · have ff := hc.f
    have hh : hitB σ1 = hitB sg := funext (fun r => funext (fun t => hit_cg ff r t))
    have eM : ∀ a, 65 ≤ a → a ≤ 68 → σ1 a = sg a := fun a h1 h2 => funext (fun k => hc.2.2.2.2.2.2 a k (by omega))
    have M0 : M_fd σ1 σ1 F0 F0 fr ft x := ⟨by rw [hc.2.2.2.2.2.2 48 21 (by omega)]; exact f2, f3, Nat.le_refl _, fun f hf => ⟨by rw [eM 65 (by omega) (by omega)]; exact (key f hf).1, by rw [eM 66 (by omega) (by omega)]; exact (key f hf).2.1, (key f hf).2.2.1, by have := (key f hf).2.2.2.1; omega⟩, fun f _ => ⟨rfl, rfl⟩, fun f h1 h2 => absurd h2 (by omega), fun _ _ _ => rfl⟩
    have mk := m_scan (K := fun r2 sg2 => some (Value.int (nI ((scA (hitB sg) Q T 0 (F0, fr, ft)).1 - F0))) = r2 ∧ K (some (Value.int (nI ((scA (hitB sg) Q T 0 (F0, fr, ft)).1 - F0)))) sg2) hS hd hT hR (hI.fd hT ff) (hJ.fd hR ff) M0 (fun z => absurd q z)
    rw [hh] at mk
    refine mk (fun _ σ2 hm => ⟨rfl, hk _ _ (scA (hitB sg) Q T 0 (F0, fr, ft)).1 ?_ (ff.tr hm.f)⟩)
    have bT := scA_T (hit := hitB sg) (Q := Q) (T := T) T 0 (F0, fr, ft) (by omega) (fun f hf => (key f hf).2.2.2.1)
    obtain ⟨c1, c2, c3, c4, c5, c6, c7⟩ := hc
    obtain ⟨m1, m2, m3, m4, m5, m6, m7⟩ := hm
    have o : ∀ a k, a ≠ 48 → ¬ (65 ≤ a ∧ a ≤ 68) → σ2 a k = σ1 a k := fun a k h1 h2 => m7 a k (by omega)
    have o56 : ∀ k, σ2 56 k = sg 56 k := fun k => by rw [o 56 k (by omega) (by omega), c7 56 k (by omega)]
    have o20 : ∀ k, σ2 20 k = sg 20 k := fun k => by rw [o 20 k (by omega) (by omega), c7 20 k (by omega)]
    refine ⟨⟨by rw [o 15 5 (by omega) (by omega)]; exact c1, m1⟩, c2, fun f hf => ?_, fun f h1 h2 => by rw [o20]; exact f5 f (by omega) h2⟩
    obtain ⟨u1, u2, u3, u4⟩ := c4 f hf
    obtain ⟨v1, v2, v3, v4⟩ := m4 f hf
    unfold I_f1
    rw [o 16 f (by omega) (by omega), o 17 f (by omega) (by omega), o 18 f (by omega) (by omega), o 19 f (by omega) (by omega), o20, u1, v1]
    by_cases hn : f < F0
    · obtain ⟨a1, a2⟩ := c5 f hn
      obtain ⟨b1, b2⟩ := m5 f hn
      obtain ⟨⟨t, t1, t2, t3, t4⟩, g1, g2, g3, g4, g5, g6⟩ := f4 f hn
      have x17 : σ1 17 f = sg 17 f := by
        obtain ⟨-, -, -, -, -, k17, -⟩ := key f hn
        rw [u2, k17, (scA_k (hit := hitB sg) (Q := Q) T 0 (F0, fr, ft)).2 f hn]
      rw [a1, a2, b1, b2, eM 67 (by omega) (by omega), eM 68 (by omega) (by omega)]
      refine ⟨⟨t, t1, ?_, ?_, by rw [o56]; exact t4⟩, rfl, ⟨by rw [nI_toInt (by omega)]; omega, by rw [nI_toInt (by omega)]; omega⟩, g3, g4, g5, g6⟩
      · rw [x17]; exact t2
      · rw [v2, ← u2, x17]; exact t2
    · obtain ⟨a1, a2⟩ := c6 f (by omega) hf
      obtain ⟨b1, b2⟩ := m6 f (by omega) hf
      rw [a1, a2, b1, b2]
      exact ⟨⟨(scA (hitB sg) Q T 0 (F0, fr, ft)).2.2 f, bT f hf, u2, v2, by rw [o56]⟩, rfl, ⟨by rw [nI_toInt (by omega)]; omega, by rw [nI_toInt (by omega)]; omega⟩, rfl, q, f5 f (by omega) (by omega), ⟨by decide, by decide⟩⟩
end H64
