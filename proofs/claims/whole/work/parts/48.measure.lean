/-! part 48: the class measures how far, and finds the way -/
section H48
variable {d n N : Nat} {mu : aM} {ro : aR} {sg : aS} {K : Option Value → aS → Prop} {R P : Nat → Nat → Bool} {D : Nat} {dA dB : Nat → Nat} {S : Nat → Bool} {E : Nat → Nat → Bool} {A : Nat → Bool}
theorem lv_dn {l x : Nat} (h : Lv E A (l + 1) x) : ∃ y, y < 10 ∧ Lv E A l y ∧ E y x = true := by
  obtain ⟨h1, h2⟩ := h
  rcases st_s.mp h1 with q | ⟨y, y1, y2, y3⟩
  · rw [h2 l (by omega)] at q
    exact absurd q (by decide)
  · refine ⟨y, y1, ⟨y2, fun k hk => ?_⟩, y3⟩
    rw [← Bool.not_eq_true]
    intro z
    have := h2 (k + 1) (by omega)
    rw [st_s.mpr (Or.inr ⟨y, y1, z, y3⟩)] at this
    exact absurd this (by decide)
theorem cnt_lt {p q : Nat → Bool} {y : Nat} (h : ∀ x, p x = true → q x = true) (h1 : q y = true) (h2 : p y = false) : ∀ m, cntB p m + (if y < m then 1 else 0) ≤ cntB q m
  | 0 => Nat.le_refl 0
  | m + 1 => by
    have ih := cnt_lt h h1 h2 m
    rw [cntB, cntB]
    by_cases e : m = y
    · subst e
      rw [h1, h2, if_neg (by decide), if_pos rfl, if_pos (show m < m + 1 by omega)]
      rw [if_neg (show ¬ m < m by omega)] at ih
      omega
    · have e1 : (if y < m + 1 then 1 else 0) = if y < m then 1 else 0 := by
        by_cases q4 : y < m
        · rw [if_pos q4, if_pos (by omega)]
        · rw [if_neg q4, if_neg (by omega)]
      rw [e1]
      have e2 : (if p m = true then 1 else 0) ≤ if q m = true then 1 else 0 := by
        by_cases z : p m = true
        · rw [if_pos z, if_pos (h m z)]; omega
        · rw [if_neg z]; omega
      omega
/-- among ten, nobody lies farther than nine steps -/
theorem lv_9 {l x : Nat} (h : Lv E A l x) (hx : x < 10) : l ≤ 9 := by
  have ex : ∀ m, m ≤ l → ∃ y, y < 10 ∧ Lv E A (l - m) y := by
    intro m
    induction m with
    | zero => intro _; exact ⟨x, hx, h⟩
    | succ m ih =>
      intro hm
      obtain ⟨y, y1, y2⟩ := ih (by omega)
      rw [show l - m = l - (m + 1) + 1 by omega] at y2
      obtain ⟨z, z1, z2, _⟩ := lv_dn y2
      exact ⟨z, z1, z2⟩
  have ct : ∀ k, k ≤ l → k + 1 ≤ cntB (stB E A k) 10 := by
    intro k
    induction k with
    | zero =>
      intro _
      obtain ⟨y, y1, y2⟩ := ex l (Nat.le_refl l)
      rw [Nat.sub_self] at y2
      have := cnt_lt (p := fun _ => false) (q := stB E A 0) (y := y) (fun _ z => absurd z (by decide)) y2.1 rfl 10
      rw [if_pos y1] at this
      omega
    | succ k ih =>
      intro hk
      have ih := ih (by omega)
      obtain ⟨y, y1, y2⟩ := ex (l - (k + 1)) (by omega)
      rw [show l - (l - (k + 1)) = k + 1 by omega] at y2
      have := cnt_lt (p := stB E A k) (q := stB E A (k + 1)) (y := y) (fun _ z => st_le z (by omega)) y2.1 (y2.2 k (by omega)) 10
      rw [if_pos y1] at this
      omega
  have h1 := ct l (Nat.le_refl l)
  have h2 := cntB_le (stB E A l) 10
  omega
/-- the least of those that are so; the bound, if none is -/
def fsG (p : Nat → Bool) : Nat → Nat → Nat
  | 0, j => j
  | m + 1, j => if p j = true then j else fsG p m (j + 1)
theorem fs_at {p : Nat → Bool} : ∀ m j, (∃ y, j ≤ y ∧ y < j + m ∧ p y = true) → j ≤ fsG p m j ∧ fsG p m j < j + m ∧ p (fsG p m j) = true
  | 0, j, ⟨y, h1, h2, _⟩ => absurd h2 (by omega)
  | m + 1, j, ⟨y, h1, h2, h3⟩ => by
    rw [fsG]
    by_cases q : p j = true
    · rw [if_pos q]; exact ⟨Nat.le_refl j, by omega, q⟩
    · rw [if_neg q]
      have hy : j ≠ y := by rintro rfl; exact q h3
      have := fs_at m (j + 1) ⟨y, by omega, by omega, h3⟩
      exact ⟨by omega, by omega, this.2.2⟩
theorem fs_cg {p q : Nat → Bool} : ∀ m j, (∀ y, j ≤ y → y < j + m → p y = q y) → fsG p m j = fsG q m j
  | 0, _, _ => rfl
  | m + 1, j, h => by rw [fsG, fsG, h j (Nat.le_refl j) (by omega), fs_cg m (j + 1) (fun y h1 h2 => h y (by omega) (by omega))]
/-- the first that lies nearer -/
def nxF (E : Nat → Nat → Bool) (f : Nat → Int32) (a : Nat) : Nat := fsG (fun b => E a b && decide (f b = f a - 1)) 10 0
theorem nx_ok {f : Nat → Int32} {l x : Nat} (hf : farI E A f) (hE : ∀ a b, a < 10 → b < 10 → E a b = E b a) (hx : x < 10) (hL : Lv E A (l + 1) x) : (∃ y, 0 ≤ y ∧ y < 0 + 10 ∧ (E x y && decide (f y = f x - 1)) = true) ∧ nxF E f x < 10 ∧ Lv E A l (nxF E f x) ∧ f x = nI (l + 1) := by
  have l9 := lv_9 hL hx
  have lvl : ∀ k y, y < 10 → k ≤ 9 → (f y = nI k ↔ Lv E A k y) := by
    intro k y hy hk
    rcases hf y hy with ⟨l', l1, l2, l3⟩ | ⟨l1, l2⟩
    · constructor
      · intro z
        have : l' = k := (nI_eq (by omega) (by omega)).mp (l2.symm.trans z)
        rw [← this]; exact l3
      · intro z
        rw [l2, Lv_uq l3 z]
    · constructor
      · intro z
        rw [l1] at z
        exact absurd z.symm (by rw [nI_n9 (by omega)]; exact fun z => z)
      · intro z
        rw [st_le z.1 (show k ≤ 10 by omega)] at l2
        exact absurd l2 (by decide)
  have fx := (lvl (l + 1) x hx l9).mpr hL
  obtain ⟨y, y1, y2, y3⟩ := lv_dn hL
  have fy := (lvl l y y1 (by omega)).mpr y2
  have ex : ∃ y, 0 ≤ y ∧ y < 0 + 10 ∧ (E x y && decide (f y = f x - 1)) = true := ⟨y, by omega, by omega, by rw [hE x y hx y1, y3, fy, fx, nI_pred, decide_eq_true rfl]; rfl⟩
  obtain ⟨g1, g2, g3⟩ := fs_at 10 0 ex
  rw [Bool.and_eq_true, decide_eq_true_iff] at g3
  have g4 : f (nxF E f x) = f x - 1 := g3.2
  rw [show f x - 1 = nI l by rw [fx, nI_pred]] at g4
  exact ⟨ex, by unfold nxF; omega, (lvl l _ (by unfold nxF; omega) (by omega)).mp g4, fx⟩
def wyF (E : Nat → Nat → Bool) (f : Nat → Int32) (a : Nat) : Nat → Nat
  | 0 => a
  | k + 1 => nxF E f (wyF E f a k)
theorem wy_ok {f : Nat → Int32} {l x : Nat} (hf : farI E A f) (hE : ∀ a b, a < 10 → b < 10 → E a b = E b a) (hx : x < 10) (hL : Lv E A l x) : ∀ k, k ≤ l → wyF E f x k < 10 ∧ Lv E A (l - k) (wyF E f x k)
  | 0, _ => ⟨hx, hL⟩
  | k + 1, hk => by
    obtain ⟨h1, h2⟩ := wy_ok hf hE hx hL k (by omega)
    rw [show l - k = l - (k + 1) + 1 by omega] at h2
    obtain ⟨-, g2, g3, -⟩ := nx_ok hf hE h1 h2
    exact ⟨g2, g3⟩
theorem nx_cg {f g : Nat → Int32} {E' : Nat → Nat → Bool} {a : Nat} (ha : a < 10) (hE : ∀ a b, a < 10 → b < 10 → E a b = E' a b) (hf : ∀ x, x < 10 → f x = g x) : nxF E f a = nxF E' g a := fs_cg 10 0 (fun y _ h2 => by rw [hE a y ha (by omega), hf y (by omega), hf a ha])
-- the class
set_option maxHeartbeats 4000000 in
set_option maxRecDepth 100000 in
theorem c_measureAround {a r : Nat} (hS : Sh mu ro) (ha : a < 10) (hr : r ≤ 9) (hE : ∀ a, a < 10 → rwO (sg 6 a) 10 (E a)) (h0 : faI E A (sg 7) r a 0) (hL : Lv E A r a) (hk : ∀ σ, faI E A (σ 7) r a 10 → (∀ a k, a ≠ 7 → σ a k = sg a k) → K none σ) : aCall d 37 [.ref 1, .int (nI a), .int (nI (r + 1))] n mu ro sg K := by
  have ea : (nI a).toNatClampNeg = a := nI_clamp (by omega)
  have va : vp_in (nI a) 10 := vp_in_nI (by omega) (by decide)
  refine aCall_start (mL := 4) (cc := cX4_measureAround) (o := 4) (ret := none) 1 (by decide) (by decide +kernel) rfl rfl rfl rfl (Nat.le_of_ble_eq_true rfl) (fun G hC hG => ?_)
  simp only [exL, List.cons_append, List.nil_append, rp_0, rp_1, rp_2, rp_3, rp_4, rp_5, rp_6, rp_7, rp_8, rp_9, rp_10, rp_11, List.append_nil]
  have lo : ∀ (m b : Nat) (σ : aS), b + m = 10 → faI E A (σ 7) r a b → (∀ a k, a ≠ 7 → σ a k = sg a k) → AW G 4 n 0 0 mu ro σ 2 [.ref 1, .int (nI a), .int (nI (r + 1)), .int (nI b)] [] := by
    intro m
    induction m with
    | zero =>
      intro b σ hb hI hF
      have hc : (10 ≤ nI b) = True := eq_true (by have := nI_toInt (n := b) (by omega); ((try simp only [i_le, i_lt, i_eq, l_le, l_lt, l_eq, i_ne, l_ne, toL, l_add, l_sub1, LIT1, LIT2, Int.reduceNeg, ge_iff_le, gt_iff_lt] at *); omega))
      have : b = 10 := by omega
      subst this
      refine hG (fun q => q == 2) 80 _ _ _ _ (Nat.le_of_ble_eq_true rfl) ?_
      simp only [D_X4_measureAround, ↓reduceIte, vcS, vcC, vcI, gtF, ptF, inS, inV, fv0, fv1, fv2, fv3, fw0, fw1, lg_0, lg_1, lg_2, lg_3, lg_4, lg_5, lg_6, lg_7, lg_8, lg_9, lg_10, lg_11, lg_12, lg_13, lg_14, lsq_0, lsl_0, lsq_1, lsl_1, lsq_2, lsl_2, lsq_3, lsl_3, lsq_4, lsl_4, lsq_5, lsl_5, lsq_6, lsl_6, lsq_7, lsl_7, lsq_8, lsl_8, lsq_9, lsl_9, lsq_10, lsl_10, lsq_11, lsl_11, lsq_12, lsl_12, lsq_13, lsl_13, lsq_14, lsl_14, tk_0, tk_1, tk_2, tk_3, tk_4, tk_5, tk_6, tk_7, tk_8, cs_n, cs_i, cs_l, cs_r, cs_u, nl, rt_s, rt_n, CST1, Nat.reduceAdd, Nat.reduceLeDiff, va_rf, rtOk, Bool.false_eq_true, Bool.true_eq_false, if_false, if_true, ite_true, ite_false, true_and, and_true, eq_self, ne_eq, not_false_eq_true, not_true_eq_false, false_implies, true_implies, and_self, reduceCtorEq, Nat.reduceBEq, Bool.or_false, Bool.false_or, Bool.or_true, Bool.true_or, if1_0, if1_1, if1_01, one_01, zer_01, lg_cmp_ge, lg_cmp_le, lg_cmp_gt, lg_cmp_lt, lg_cmp_eq, Classical.not_not, ↓im_T hc, ↓im_TN hc, hc]
      exact hk σ hI hF
    | succ m ih =>
      intro b σ hb hI hF
      have hc : (10 ≤ nI b) = False := eq_false (by have := nI_toInt (n := b) (by omega); ((try simp only [i_le, i_lt, i_eq, l_le, l_lt, l_eq, i_ne, l_ne, toL, l_add, l_sub1, LIT1, LIT2, Int.reduceNeg, ge_iff_le, gt_iff_lt] at *); omega))
      have eb : (nI b).toNatClampNeg = b := nI_clamp (by omega)
      have vb : vp_in (nI b) 10 := vp_in_nI (by omega) (by decide)
      have hEa : rwO (σ 6 a) 10 (E a) := by rw [hF 6 a (by decide)]; exact hE a ha
      have hbt := rw_bt hEa (show b < 10 by omega) (by omega)
      refine hG (fun q => q == 2) 80 _ _ _ _ (Nat.le_of_ble_eq_true rfl) ?_
      simp only [D_X4_measureAround, ↓reduceIte, vcS, vcC, vcI, gtF, ptF, inS, inV, fv0, fv1, fv2, fv3, fw0, fw1, lg_0, lg_1, lg_2, lg_3, lg_4, lg_5, lg_6, lg_7, lg_8, lg_9, lg_10, lg_11, lg_12, lg_13, lg_14, lsq_0, lsl_0, lsq_1, lsl_1, lsq_2, lsl_2, lsq_3, lsl_3, lsq_4, lsl_4, lsq_5, lsl_5, lsq_6, lsl_6, lsq_7, lsl_7, lsq_8, lsl_8, lsq_9, lsl_9, lsq_10, lsl_10, lsq_11, lsl_11, lsq_12, lsl_12, lsq_13, lsl_13, lsq_14, lsl_14, tk_0, tk_1, tk_2, tk_3, tk_4, tk_5, tk_6, tk_7, tk_8, cs_n, cs_i, cs_l, cs_r, cs_u, nl, rt_s, rt_n, CST1, Nat.reduceAdd, Nat.reduceLeDiff, va_rf, rtOk, Bool.false_eq_true, Bool.true_eq_false, if_false, if_true, ite_true, ite_false, true_and, and_true, eq_self, ne_eq, not_false_eq_true, not_true_eq_false, false_implies, true_implies, and_self, reduceCtorEq, Nat.reduceBEq, Bool.or_false, Bool.false_or, Bool.or_true, Bool.true_or, if1_0, if1_1, if1_01, one_01, zer_01, lg_cmp_ge, lg_cmp_le, lg_cmp_gt, lg_cmp_lt, lg_cmp_eq, Classical.not_not, ↓im_F hc, ↓im_FN hc, hc, SHm hS, SHr hS, ea, va, eb, vb, bt_ne, hbt, nI_1]
      have no : ¬ (σ 7 b = -9 ∧ E a b = true) → AW G 4 n 0 0 mu ro σ 2 [.ref 1, .int (nI a), .int (nI (r + 1)), .int (nI (b + 1))] [] := fun z => ih (b + 1) σ (by omega) (fa_b (by omega) hI ha (by omega) hL (fun _ _ => rfl) (by rw [if_neg z])) hF
      refine ⟨fun q => no (fun z => q z.2), fun q => ⟨fun q2 => no (fun z => q2 z.1), fun q2 => ?_⟩⟩
      refine ih (b + 1) _ (by omega) (fa_b (by omega) hI ha (by omega) hL (fun x hx => s2_n (by omega)) (by rw [s2_y ⟨rfl, rfl⟩, if_pos ⟨q2, q⟩])) (fun a k h => by rw [s2_n (by omega)]; exact hF a k h)
  refine hG (fun q => q == 2) 80 _ _ _ _ (Nat.le_of_ble_eq_true rfl) ?_
  simp only [D_X4_measureAround, ↓reduceIte, vcS, vcC, vcI, gtF, ptF, inS, inV, fv0, fv1, fv2, fv3, fw0, fw1, lg_0, lg_1, lg_2, lg_3, lg_4, lg_5, lg_6, lg_7, lg_8, lg_9, lg_10, lg_11, lg_12, lg_13, lg_14, lsq_0, lsl_0, lsq_1, lsl_1, lsq_2, lsl_2, lsq_3, lsl_3, lsq_4, lsl_4, lsq_5, lsl_5, lsq_6, lsl_6, lsq_7, lsl_7, lsq_8, lsl_8, lsq_9, lsl_9, lsq_10, lsl_10, lsq_11, lsl_11, lsq_12, lsl_12, lsq_13, lsl_13, lsq_14, lsl_14, tk_0, tk_1, tk_2, tk_3, tk_4, tk_5, tk_6, tk_7, tk_8, cs_n, cs_i, cs_l, cs_r, cs_u, nl, rt_s, rt_n, CST1, Nat.reduceAdd, Nat.reduceLeDiff, va_rf, rtOk, Bool.false_eq_true, Bool.true_eq_false, if_false, if_true, ite_true, ite_false, true_and, and_true, eq_self, ne_eq, not_false_eq_true, not_true_eq_false, false_implies, true_implies, and_self, reduceCtorEq, Nat.reduceBEq, Bool.or_false, Bool.false_or, Bool.or_true, Bool.true_or, if1_0, if1_1, if1_01, one_01, zer_01, lg_cmp_ge, lg_cmp_le, lg_cmp_gt, lg_cmp_lt, lg_cmp_eq, Classical.not_not]
  exact lo 10 0 sg (by omega) h0 (fun _ _ _ => rfl)
set_option maxHeartbeats 4000000 in
set_option maxRecDepth 100000 in
theorem c_measureFrom {e : Nat} (hS : Sh mu ro) (hd : 1 ≤ d) (he : e < 10) (hE : ∀ a, a < 10 → rwO (sg 6 a) 10 (E a)) (hk : ∀ σ, farI E (fun y => decide (y = e)) (σ 7) → (∀ a k, a ≠ 7 → σ a k = sg a k) → K none σ) : aCall d 36 [.ref 1, .int (nI e)] n mu ro sg K := by
  have ee : (nI e).toNatClampNeg = e := nI_clamp (by omega)
  have ve : vp_in (nI e) 10 := vp_in_nI (by omega) (by decide)
  refine aCall_start (mL := 4) (cc := cX4_measureFrom) (o := 4) (ret := none) 2 (by decide) (by decide +kernel) rfl rfl rfl rfl (Nat.le_of_ble_eq_true rfl) (fun G hC hG => ?_)
  simp only [exL, List.cons_append, List.nil_append, rp_0, rp_1, rp_2, rp_3, rp_4, rp_5, rp_6, rp_7, rp_8, rp_9, rp_10, rp_11, List.append_nil]
  have lo : ∀ (m r : Nat) (σ : aS) (v : Value), r + m = 10 → faI E (fun y => decide (y = e)) (σ 7) r 0 0 → (∀ a k, a ≠ 7 → σ a k = sg a k) → AW G 4 n 0 0 mu ro σ 18 [.ref 1, .int (nI e), .int (nI r), v] [] := by
    intro m
    induction m with
    | zero =>
      intro r σ v hr hI hF
      have hc : (10 ≤ nI r) = True := eq_true (by have := nI_toInt (n := r) (by omega); ((try simp only [i_le, i_lt, i_eq, l_le, l_lt, l_eq, i_ne, l_ne, toL, l_add, l_sub1, LIT1, LIT2, Int.reduceNeg, ge_iff_le, gt_iff_lt] at *); omega))
      have : r = 10 := by omega
      subst this
      refine hG (fun q => q == 18 || q == 26) 80 _ _ _ _ (Nat.le_of_ble_eq_true rfl) ?_
      simp only [D_X4_measureFrom, N_X4_measureFrom, ↓reduceIte, vcS, vcC, vcI, gtF, ptF, inS, inV, fv0, fv1, fv2, fv3, fw0, fw1, lg_0, lg_1, lg_2, lg_3, lg_4, lg_5, lg_6, lg_7, lg_8, lg_9, lg_10, lg_11, lg_12, lg_13, lg_14, lsq_0, lsl_0, lsq_1, lsl_1, lsq_2, lsl_2, lsq_3, lsl_3, lsq_4, lsl_4, lsq_5, lsl_5, lsq_6, lsl_6, lsq_7, lsl_7, lsq_8, lsl_8, lsq_9, lsl_9, lsq_10, lsl_10, lsq_11, lsl_11, lsq_12, lsl_12, lsq_13, lsl_13, lsq_14, lsl_14, tk_0, tk_1, tk_2, tk_3, tk_4, tk_5, tk_6, tk_7, tk_8, cs_n, cs_i, cs_l, cs_r, cs_u, nl, rt_s, rt_n, CST1, Nat.reduceAdd, Nat.reduceLeDiff, va_rf, rtOk, Bool.false_eq_true, Bool.true_eq_false, if_false, if_true, ite_true, ite_false, true_and, and_true, eq_self, ne_eq, not_false_eq_true, not_true_eq_false, false_implies, true_implies, and_self, reduceCtorEq, Nat.reduceBEq, Bool.or_false, Bool.false_or, Bool.or_true, Bool.true_or, if1_0, if1_1, if1_01, one_01, zer_01, lg_cmp_ge, lg_cmp_le, lg_cmp_gt, lg_cmp_lt, lg_cmp_eq, Classical.not_not, ↓im_T hc, ↓im_TN hc, hc]
      exact hk σ (fa_e hI) hF
    | succ m ih =>
      intro r σ v hr hI hF
      have hc : (10 ≤ nI r) = False := eq_false (by have := nI_toInt (n := r) (by omega); ((try simp only [i_le, i_lt, i_eq, l_le, l_lt, l_eq, i_ne, l_ne, toL, l_add, l_sub1, LIT1, LIT2, Int.reduceNeg, ge_iff_le, gt_iff_lt] at *); omega))
      have inn : ∀ (mm a : Nat) (σ : aS), a + mm = 10 → faI E (fun y => decide (y = e)) (σ 7) r a 0 → (∀ a k, a ≠ 7 → σ a k = sg a k) → AW G 4 n 0 0 mu ro σ 26 [.ref 1, .int (nI e), .int (nI r), .int (nI a)] [] := by
        intro mm
        induction mm with
        | zero =>
          intro a σ ha hI hF
          have hc2 : (10 ≤ nI a) = True := eq_true (by have := nI_toInt (n := a) (by omega); ((try simp only [i_le, i_lt, i_eq, l_le, l_lt, l_eq, i_ne, l_ne, toL, l_add, l_sub1, LIT1, LIT2, Int.reduceNeg, ge_iff_le, gt_iff_lt] at *); omega))
          have : a = 10 := by omega
          subst this
          refine hG (fun q => q == 18 || q == 26) 80 _ _ _ _ (Nat.le_of_ble_eq_true rfl) ?_
          simp only [D_X4_measureFrom, N_X4_measureFrom, ↓reduceIte, vcS, vcC, vcI, gtF, ptF, inS, inV, fv0, fv1, fv2, fv3, fw0, fw1, lg_0, lg_1, lg_2, lg_3, lg_4, lg_5, lg_6, lg_7, lg_8, lg_9, lg_10, lg_11, lg_12, lg_13, lg_14, lsq_0, lsl_0, lsq_1, lsl_1, lsq_2, lsl_2, lsq_3, lsl_3, lsq_4, lsl_4, lsq_5, lsl_5, lsq_6, lsl_6, lsq_7, lsl_7, lsq_8, lsl_8, lsq_9, lsl_9, lsq_10, lsl_10, lsq_11, lsl_11, lsq_12, lsl_12, lsq_13, lsl_13, lsq_14, lsl_14, tk_0, tk_1, tk_2, tk_3, tk_4, tk_5, tk_6, tk_7, tk_8, cs_n, cs_i, cs_l, cs_r, cs_u, nl, rt_s, rt_n, CST1, Nat.reduceAdd, Nat.reduceLeDiff, va_rf, rtOk, Bool.false_eq_true, Bool.true_eq_false, if_false, if_true, ite_true, ite_false, true_and, and_true, eq_self, ne_eq, not_false_eq_true, not_true_eq_false, false_implies, true_implies, and_self, reduceCtorEq, Nat.reduceBEq, Bool.or_false, Bool.false_or, Bool.or_true, Bool.true_or, if1_0, if1_1, if1_01, one_01, zer_01, lg_cmp_ge, lg_cmp_le, lg_cmp_gt, lg_cmp_lt, lg_cmp_eq, Classical.not_not, ↓im_T hc2, ↓im_TN hc2, hc2, nI_1]
          exact ih (r + 1) σ _ (by omega) (fa_r hI) hF
        | succ mm ih2 =>
          intro a σ ha hI hF
          have hc2 : (10 ≤ nI a) = False := eq_false (by have := nI_toInt (n := a) (by omega); ((try simp only [i_le, i_lt, i_eq, l_le, l_lt, l_eq, i_ne, l_ne, toL, l_add, l_sub1, LIT1, LIT2, Int.reduceNeg, ge_iff_le, gt_iff_lt] at *); omega))
          have ea : (nI a).toNatClampNeg = a := nI_clamp (by omega)
          have va : vp_in (nI a) 10 := vp_in_nI (by omega) (by decide)
          have hL := (fa_at hI (by omega) (show a < 10 by omega)).1
          have hL' : (σ 7 a = nI r) = Lv E (fun y => decide (y = e)) r a := propext hL
          refine hG (fun q => q == 18 || q == 26) 80 _ _ _ _ (Nat.le_of_ble_eq_true rfl) ?_
          simp only [D_X4_measureFrom, N_X4_measureFrom, ↓reduceIte, vcS, vcC, vcI, gtF, ptF, inS, inV, fv0, fv1, fv2, fv3, fw0, fw1, lg_0, lg_1, lg_2, lg_3, lg_4, lg_5, lg_6, lg_7, lg_8, lg_9, lg_10, lg_11, lg_12, lg_13, lg_14, lsq_0, lsl_0, lsq_1, lsl_1, lsq_2, lsl_2, lsq_3, lsl_3, lsq_4, lsl_4, lsq_5, lsl_5, lsq_6, lsl_6, lsq_7, lsl_7, lsq_8, lsl_8, lsq_9, lsl_9, lsq_10, lsl_10, lsq_11, lsl_11, lsq_12, lsl_12, lsq_13, lsl_13, lsq_14, lsl_14, tk_0, tk_1, tk_2, tk_3, tk_4, tk_5, tk_6, tk_7, tk_8, cs_n, cs_i, cs_l, cs_r, cs_u, nl, rt_s, rt_n, CST1, Nat.reduceAdd, Nat.reduceLeDiff, va_rf, rtOk, Bool.false_eq_true, Bool.true_eq_false, if_false, if_true, ite_true, ite_false, true_and, and_true, eq_self, ne_eq, not_false_eq_true, not_true_eq_false, false_implies, true_implies, and_self, reduceCtorEq, Nat.reduceBEq, Bool.or_false, Bool.false_or, Bool.or_true, Bool.true_or, if1_0, if1_1, if1_01, one_01, zer_01, lg_cmp_ge, lg_cmp_le, lg_cmp_gt, lg_cmp_lt, lg_cmp_eq, Classical.not_not, ↓im_F hc2, ↓im_FN hc2, hc2, SHm hS, SHr hS, ea, va, hL', nI_1]
          refine ⟨fun q => ih2 (a + 1) σ (by omega) (fa_n hI q) hF, fun q => ⟨hd, c_measureAround hS (by omega) (by omega) (fun x hx => by rw [hF 6 x (by decide)]; exact hE x hx) hI q (fun σ2 g1 g2 => ?_)⟩⟩
          simp only [D_X4_measureFrom, N_X4_measureFrom, ↓reduceIte, vcS, vcC, vcI, gtF, ptF, inS, inV, fv0, fv1, fv2, fv3, fw0, fw1, lg_0, lg_1, lg_2, lg_3, lg_4, lg_5, lg_6, lg_7, lg_8, lg_9, lg_10, lg_11, lg_12, lg_13, lg_14, lsq_0, lsl_0, lsq_1, lsl_1, lsq_2, lsl_2, lsq_3, lsl_3, lsq_4, lsl_4, lsq_5, lsl_5, lsq_6, lsl_6, lsq_7, lsl_7, lsq_8, lsl_8, lsq_9, lsl_9, lsq_10, lsl_10, lsq_11, lsl_11, lsq_12, lsl_12, lsq_13, lsl_13, lsq_14, lsl_14, tk_0, tk_1, tk_2, tk_3, tk_4, tk_5, tk_6, tk_7, tk_8, cs_n, cs_i, cs_l, cs_r, cs_u, nl, rt_s, rt_n, CST1, Nat.reduceAdd, Nat.reduceLeDiff, va_rf, rtOk, Bool.false_eq_true, Bool.true_eq_false, if_false, if_true, ite_true, ite_false, true_and, and_true, eq_self, ne_eq, not_false_eq_true, not_true_eq_false, false_implies, true_implies, and_self, reduceCtorEq, Nat.reduceBEq, Bool.or_false, Bool.false_or, Bool.or_true, Bool.true_or, if1_0, if1_1, if1_01, one_01, zer_01, lg_cmp_ge, lg_cmp_le, lg_cmp_gt, lg_cmp_lt, lg_cmp_eq, Classical.not_not, SHm hS, SHr hS, nI_1]
          exact ih2 (a + 1) σ2 (by omega) (fa_a g1) (fun x k h => by rw [g2 x k h]; exact hF x k h)
      refine hG (fun q => q == 18 || q == 26) 80 _ _ _ _ (Nat.le_of_ble_eq_true rfl) ?_
      simp only [D_X4_measureFrom, N_X4_measureFrom, ↓reduceIte, vcS, vcC, vcI, gtF, ptF, inS, inV, fv0, fv1, fv2, fv3, fw0, fw1, lg_0, lg_1, lg_2, lg_3, lg_4, lg_5, lg_6, lg_7, lg_8, lg_9, lg_10, lg_11, lg_12, lg_13, lg_14, lsq_0, lsl_0, lsq_1, lsl_1, lsq_2, lsl_2, lsq_3, lsl_3, lsq_4, lsl_4, lsq_5, lsl_5, lsq_6, lsl_6, lsq_7, lsl_7, lsq_8, lsl_8, lsq_9, lsl_9, lsq_10, lsl_10, lsq_11, lsl_11, lsq_12, lsl_12, lsq_13, lsl_13, lsq_14, lsl_14, tk_0, tk_1, tk_2, tk_3, tk_4, tk_5, tk_6, tk_7, tk_8, cs_n, cs_i, cs_l, cs_r, cs_u, nl, rt_s, rt_n, CST1, Nat.reduceAdd, Nat.reduceLeDiff, va_rf, rtOk, Bool.false_eq_true, Bool.true_eq_false, if_false, if_true, ite_true, ite_false, true_and, and_true, eq_self, ne_eq, not_false_eq_true, not_true_eq_false, false_implies, true_implies, and_self, reduceCtorEq, Nat.reduceBEq, Bool.or_false, Bool.false_or, Bool.or_true, Bool.true_or, if1_0, if1_1, if1_01, one_01, zer_01, lg_cmp_ge, lg_cmp_le, lg_cmp_gt, lg_cmp_lt, lg_cmp_eq, Classical.not_not, ↓im_F hc, ↓im_FN hc, hc]
      exact inn 10 0 σ (by omega) hI hF
  refine hG (fun q => q == 18 || q == 26) 80 _ _ _ _ (Nat.le_of_ble_eq_true rfl) ?_
  simp only [D_X4_measureFrom, N_X4_measureFrom, ↓reduceIte, vcS, vcC, vcI, gtF, ptF, inS, inV, fv0, fv1, fv2, fv3, fw0, fw1, lg_0, lg_1, lg_2, lg_3, lg_4, lg_5, lg_6, lg_7, lg_8, lg_9, lg_10, lg_11, lg_12, lg_13, lg_14, lsq_0, lsl_0, lsq_1, lsl_1, lsq_2, lsl_2, lsq_3, lsl_3, lsq_4, lsl_4, lsq_5, lsl_5, lsq_6, lsl_6, lsq_7, lsl_7, lsq_8, lsl_8, lsq_9, lsl_9, lsq_10, lsl_10, lsq_11, lsl_11, lsq_12, lsl_12, lsq_13, lsl_13, lsq_14, lsl_14, tk_0, tk_1, tk_2, tk_3, tk_4, tk_5, tk_6, tk_7, tk_8, cs_n, cs_i, cs_l, cs_r, cs_u, nl, rt_s, rt_n, CST1, Nat.reduceAdd, Nat.reduceLeDiff, va_rf, rtOk, Bool.false_eq_true, Bool.true_eq_false, if_false, if_true, ite_true, ite_false, true_and, and_true, eq_self, ne_eq, not_false_eq_true, not_true_eq_false, false_implies, true_implies, and_self, reduceCtorEq, Nat.reduceBEq, Bool.or_false, Bool.false_or, Bool.or_true, Bool.true_or, if1_0, if1_1, if1_01, one_01, zer_01, lg_cmp_ge, lg_cmp_le, lg_cmp_gt, lg_cmp_lt, lg_cmp_eq, Classical.not_not, SHm hS, SHr hS]
  refine ⟨hd, c_fill (N := 10) (by simp only [SHm hS]) (by decide) ?_⟩
  simp only [D_X4_measureFrom, N_X4_measureFrom, ↓reduceIte, vcS, vcC, vcI, gtF, ptF, inS, inV, fv0, fv1, fv2, fv3, fw0, fw1, lg_0, lg_1, lg_2, lg_3, lg_4, lg_5, lg_6, lg_7, lg_8, lg_9, lg_10, lg_11, lg_12, lg_13, lg_14, lsq_0, lsl_0, lsq_1, lsl_1, lsq_2, lsl_2, lsq_3, lsl_3, lsq_4, lsl_4, lsq_5, lsl_5, lsq_6, lsl_6, lsq_7, lsl_7, lsq_8, lsl_8, lsq_9, lsl_9, lsq_10, lsl_10, lsq_11, lsl_11, lsq_12, lsl_12, lsq_13, lsl_13, lsq_14, lsl_14, tk_0, tk_1, tk_2, tk_3, tk_4, tk_5, tk_6, tk_7, tk_8, cs_n, cs_i, cs_l, cs_r, cs_u, nl, rt_s, rt_n, CST1, Nat.reduceAdd, Nat.reduceLeDiff, va_rf, rtOk, Bool.false_eq_true, Bool.true_eq_false, if_false, if_true, ite_true, ite_false, true_and, and_true, eq_self, ne_eq, not_false_eq_true, not_true_eq_false, false_implies, true_implies, and_self, reduceCtorEq, Nat.reduceBEq, Bool.or_false, Bool.false_or, Bool.or_true, Bool.true_or, if1_0, if1_1, if1_01, one_01, zer_01, lg_cmp_ge, lg_cmp_le, lg_cmp_gt, lg_cmp_lt, lg_cmp_eq, Classical.not_not, SHm hS, SHr hS, ee, ve]
  refine lo 10 0 _ _ (by omega) (fa_0 (fun x hx => ?_)) (fun a k h => by rw [s2_n (by omega), fl_n (by omega)])
  by_cases q : x = e
  · rw [if_pos q, s2_y ⟨rfl, q⟩]
  · rw [if_neg q, s2_n (by omega), fl_y ⟨rfl, hx⟩]
set_option maxHeartbeats 4000000 in
set_option maxRecDepth 100000 in
theorem c_firstNearer {a l : Nat} (hS : Sh mu ro) (ha : a < 10) (hEs : ∀ a b, a < 10 → b < 10 → E a b = E b a) (hE : ∀ a, a < 10 → rwO (sg 6 a) 10 (E a)) (hf : farI E A (sg 7)) (hL : Lv E A (l + 1) a) (hk : K (some (.int (nI (nxF E (sg 7) a)))) sg) : aCall d 38 [.ref 1, .int (nI a)] n mu ro sg K := by
  have ea : (nI a).toNatClampNeg = a := nI_clamp (by omega)
  have va : vp_in (nI a) 10 := vp_in_nI (by omega) (by decide)
  obtain ⟨ex, -, -, -⟩ := nx_ok hf hEs ha hL
  refine aCall_start (mL := 3) (cc := cX4_firstNearer) (o := 4) (ret := (some .int)) 1 (by decide) (by decide +kernel) rfl rfl rfl rfl (Nat.le_of_ble_eq_true rfl) (fun G hC hG => ?_)
  simp only [exL, List.cons_append, List.nil_append, rp_0, rp_1, rp_2, rp_3, rp_4, rp_5, rp_6, rp_7, rp_8, rp_9, rp_10, rp_11, List.append_nil]
  have lo : ∀ (m b : Nat), b + m = 10 → (∃ y, b ≤ y ∧ y < b + m ∧ (E a y && decide (sg 7 y = sg 7 a - 1)) = true) → nxF E (sg 7) a = fsG (fun b => E a b && decide (sg 7 b = sg 7 a - 1)) m b → AW G 3 n 0 0 mu ro sg 2 [.ref 1, .int (nI a), .int (nI b)] [] := by
    intro m
    induction m with
    | zero =>
      intro b hb hx he
      obtain ⟨y, h1, h2, _⟩ := hx
      exact absurd h2 (by omega)
    | succ m ih =>
      intro b hb hx he
      have hc : (10 ≤ nI b) = False := eq_false (by have := nI_toInt (n := b) (by omega); ((try simp only [i_le, i_lt, i_eq, l_le, l_lt, l_eq, i_ne, l_ne, toL, l_add, l_sub1, LIT1, LIT2, Int.reduceNeg, ge_iff_le, gt_iff_lt] at *); omega))
      have eb : (nI b).toNatClampNeg = b := nI_clamp (by omega)
      have vb : vp_in (nI b) 10 := vp_in_nI (by omega) (by decide)
      have hbt := rw_bt (hE a ha) (show b < 10 by omega) (by omega)
      rw [fsG] at he
      have no : ¬ (E a b = true ∧ sg 7 b = sg 7 a - 1) → AW G 3 n 0 0 mu ro sg 2 [.ref 1, .int (nI a), .int (nI (b + 1))] [] := by
        intro z
        have z' : ¬ (E a b && decide (sg 7 b = sg 7 a - 1)) = true := by
          rw [Bool.and_eq_true, decide_eq_true_iff]
          exact z
        rw [if_neg z'] at he
        obtain ⟨y, h1, h2, h3⟩ := hx
        have hy : b ≠ y := by rintro rfl; exact z' h3
        exact ih (b + 1) (by omega) ⟨y, by omega, by omega, h3⟩ he
      refine hG (fun q => q == 2) 80 _ _ _ _ (Nat.le_of_ble_eq_true rfl) ?_
      simp only [D_X4_firstNearer, ↓reduceIte, vcS, vcC, vcI, gtF, ptF, inS, inV, fv0, fv1, fv2, fv3, fw0, fw1, lg_0, lg_1, lg_2, lg_3, lg_4, lg_5, lg_6, lg_7, lg_8, lg_9, lg_10, lg_11, lg_12, lg_13, lg_14, lsq_0, lsl_0, lsq_1, lsl_1, lsq_2, lsl_2, lsq_3, lsl_3, lsq_4, lsl_4, lsq_5, lsl_5, lsq_6, lsl_6, lsq_7, lsl_7, lsq_8, lsl_8, lsq_9, lsl_9, lsq_10, lsl_10, lsq_11, lsl_11, lsq_12, lsl_12, lsq_13, lsl_13, lsq_14, lsl_14, tk_0, tk_1, tk_2, tk_3, tk_4, tk_5, tk_6, tk_7, tk_8, cs_n, cs_i, cs_l, cs_r, cs_u, nl, rt_s, rt_n, CST1, Nat.reduceAdd, Nat.reduceLeDiff, va_rf, rtOk, Bool.false_eq_true, Bool.true_eq_false, if_false, if_true, ite_true, ite_false, true_and, and_true, eq_self, ne_eq, not_false_eq_true, not_true_eq_false, false_implies, true_implies, and_self, reduceCtorEq, Nat.reduceBEq, Bool.or_false, Bool.false_or, Bool.or_true, Bool.true_or, if1_0, if1_1, if1_01, one_01, zer_01, lg_cmp_ge, lg_cmp_le, lg_cmp_gt, lg_cmp_lt, lg_cmp_eq, Classical.not_not, ↓im_F hc, ↓im_FN hc, hc, SHm hS, SHr hS, ea, va, eb, vb, bt_ne, hbt, nI_1]
      refine ⟨fun q => no (fun z => q z.1), fun q => ⟨fun q2 => no (fun z => q2 z.2), fun q2 => ?_⟩⟩
      rw [if_pos (by rw [Bool.and_eq_true, decide_eq_true_iff]; exact ⟨q, q2⟩)] at he
      rw [he] at hk
      exact hk
  refine hG (fun q => q == 2) 80 _ _ _ _ (Nat.le_of_ble_eq_true rfl) ?_
  simp only [D_X4_firstNearer, ↓reduceIte, vcS, vcC, vcI, gtF, ptF, inS, inV, fv0, fv1, fv2, fv3, fw0, fw1, lg_0, lg_1, lg_2, lg_3, lg_4, lg_5, lg_6, lg_7, lg_8, lg_9, lg_10, lg_11, lg_12, lg_13, lg_14, lsq_0, lsl_0, lsq_1, lsl_1, lsq_2, lsl_2, lsq_3, lsl_3, lsq_4, lsl_4, lsq_5, lsl_5, lsq_6, lsl_6, lsq_7, lsl_7, lsq_8, lsl_8, lsq_9, lsl_9, lsq_10, lsl_10, lsq_11, lsl_11, lsq_12, lsl_12, lsq_13, lsl_13, lsq_14, lsl_14, tk_0, tk_1, tk_2, tk_3, tk_4, tk_5, tk_6, tk_7, tk_8, cs_n, cs_i, cs_l, cs_r, cs_u, nl, rt_s, rt_n, CST1, Nat.reduceAdd, Nat.reduceLeDiff, va_rf, rtOk, Bool.false_eq_true, Bool.true_eq_false, if_false, if_true, ite_true, ite_false, true_and, and_true, eq_self, ne_eq, not_false_eq_true, not_true_eq_false, false_implies, true_implies, and_self, reduceCtorEq, Nat.reduceBEq, Bool.or_false, Bool.false_or, Bool.or_true, Bool.true_or, if1_0, if1_1, if1_01, one_01, zer_01, lg_cmp_ge, lg_cmp_le, lg_cmp_gt, lg_cmp_lt, lg_cmp_eq, Classical.not_not]
  exact lo 10 0 (by omega) ex rfl
/-- what is used again by every question, and nothing else -/
def FSc (s s' : aS) : Prop := ∀ x k, x ≠ 6 → x ≠ 7 → x ≠ 8 → ¬ (x = 1 ∧ k = 7) → s' x k = s x k
set_option maxHeartbeats 4000000 in
set_option maxRecDepth 100000 in
theorem c_findWay {a b : Nat} (hS : Sh mu ro) (hd : 2 ≤ d) (hN : Nt R P D dA dB S) (hX : C_nt sg R P D dA dB S) (ha : a < 10) (hb : b < 10)
    (hk1 : stB (opE R P D dA dB S false) (fun y => decide (y = b)) 10 a = false → ∀ σ, FSc sg σ → K (some (.int 0)) σ)
    (hk2 : ∀ (l : Nat) (f : Nat → Int32), farI (opE R P D dA dB S false) (fun y => decide (y = b)) f → Lv (opE R P D dA dB S false) (fun y => decide (y = b)) l a → l ≤ 9 → ∀ σ, FSc sg σ → σ 1 7 = nI l → (∀ k, k ≤ l → σ 8 k = nI (wyF (opE R P D dA dB S false) f a k)) → K (some (.int 1)) σ) : aCall d 35 [.ref 1, .int (nI a), .int (nI b)] n mu ro sg K := by
  have ea : (nI a).toNatClampNeg = a := nI_clamp (by omega)
  have va : vp_in (nI a) 10 := vp_in_nI (by omega) (by decide)
  have hEs : ∀ a b, a < 10 → b < 10 → opE R P D dA dB S false a b = opE R P D dA dB S false b a := fun a b ha hb => op_c hN ha hb
  refine aCall_start (mL := 4) (cc := cX4_findWay) (o := 4) (ret := (some .boolean)) 1 (by decide) (by decide +kernel) rfl rfl rfl rfl (Nat.le_of_ble_eq_true rfl) (fun G hC hG => ?_)
  simp only [exL, List.cons_append, List.nil_append, rp_0, rp_1, rp_2, rp_3, rp_4, rp_5, rp_6, rp_7, rp_8, rp_9, rp_10, rp_11, List.append_nil]
  refine hG (fun q => q == 42) 80 _ _ _ _ (Nat.le_of_ble_eq_true rfl) ?_
  simp only [D_X4_findWay, N_X4_findWay, ↓reduceIte, vcS, vcC, vcI, gtF, ptF, inS, inV, fv0, fv1, fv2, fv3, fw0, fw1, lg_0, lg_1, lg_2, lg_3, lg_4, lg_5, lg_6, lg_7, lg_8, lg_9, lg_10, lg_11, lg_12, lg_13, lg_14, lsq_0, lsl_0, lsq_1, lsl_1, lsq_2, lsl_2, lsq_3, lsl_3, lsq_4, lsl_4, lsq_5, lsl_5, lsq_6, lsl_6, lsq_7, lsl_7, lsq_8, lsl_8, lsq_9, lsl_9, lsq_10, lsl_10, lsq_11, lsl_11, lsq_12, lsl_12, lsq_13, lsl_13, lsq_14, lsl_14, tk_0, tk_1, tk_2, tk_3, tk_4, tk_5, tk_6, tk_7, tk_8, cs_n, cs_i, cs_l, cs_r, cs_u, nl, rt_s, rt_n, CST1, Nat.reduceAdd, Nat.reduceLeDiff, va_rf, rtOk, Bool.false_eq_true, Bool.true_eq_false, if_false, if_true, ite_true, ite_false, true_and, and_true, eq_self, ne_eq, not_false_eq_true, not_true_eq_false, false_implies, true_implies, and_self, reduceCtorEq, Nat.reduceBEq, Bool.or_false, Bool.false_or, Bool.or_true, Bool.true_or, if1_0, if1_1, if1_01, one_01, zer_01, lg_cmp_ge, lg_cmp_le, lg_cmp_gt, lg_cmp_lt, lg_cmp_eq, Classical.not_not, SHm hS, SHr hS]
  refine ⟨by omega, c_openRoads (T2 := fun _ => false) hS hN hX rw_0 (fun σ1 h1 h2 => ?_)⟩
  have h1' : ∀ a, a < 10 → rwO (σ1 6 a) 10 (opE R P D dA dB S false a) := fun a ha => rw_cg (h1 a ha) (fun j hj => by unfold opE; rw [cl_cg (T' := S) (fun e he => Bool.or_false _)])
  simp only [D_X4_findWay, N_X4_findWay, ↓reduceIte, vcS, vcC, vcI, gtF, ptF, inS, inV, fv0, fv1, fv2, fv3, fw0, fw1, lg_0, lg_1, lg_2, lg_3, lg_4, lg_5, lg_6, lg_7, lg_8, lg_9, lg_10, lg_11, lg_12, lg_13, lg_14, lsq_0, lsl_0, lsq_1, lsl_1, lsq_2, lsl_2, lsq_3, lsl_3, lsq_4, lsl_4, lsq_5, lsl_5, lsq_6, lsl_6, lsq_7, lsl_7, lsq_8, lsl_8, lsq_9, lsl_9, lsq_10, lsl_10, lsq_11, lsl_11, lsq_12, lsl_12, lsq_13, lsl_13, lsq_14, lsl_14, tk_0, tk_1, tk_2, tk_3, tk_4, tk_5, tk_6, tk_7, tk_8, cs_n, cs_i, cs_l, cs_r, cs_u, nl, rt_s, rt_n, CST1, Nat.reduceAdd, Nat.reduceLeDiff, va_rf, rtOk, Bool.false_eq_true, Bool.true_eq_false, if_false, if_true, ite_true, ite_false, true_and, and_true, eq_self, ne_eq, not_false_eq_true, not_true_eq_false, false_implies, true_implies, and_self, reduceCtorEq, Nat.reduceBEq, Bool.or_false, Bool.false_or, Bool.or_true, Bool.true_or, if1_0, if1_1, if1_01, one_01, zer_01, lg_cmp_ge, lg_cmp_le, lg_cmp_gt, lg_cmp_lt, lg_cmp_eq, Classical.not_not, SHm hS, SHr hS]
  refine ⟨by omega, c_measureFrom hS (by omega) hb h1' (fun σ2 h3 h4 => ?_)⟩
  obtain ⟨f, hf⟩ : ∃ f, f = σ2 7 := ⟨_, rfl⟩
  rw [← hf] at h3
  have hF2 : FSc sg σ2 := fun x k y1 y2 y3 y4 => by rw [h4 x k y2, h2 x k y1]
  have hE2 : ∀ a, a < 10 → rwO (σ2 6 a) 10 (opE R P D dA dB S false a) := fun a ha => by rw [h4 6 a (by decide)]; exact h1' a ha
  rcases h3 a ha with ⟨l, l1, l2, l3⟩ | ⟨l1, l2⟩
  · have l9 := lv_9 l3 ha
    have wo := wy_ok h3 hEs ha l3
    rw [hf] at l2
    have q9 : (nI l = -9) = False := nI_n9 (by omega)
    have v0 : vp_in (0 : Int32) 10 := vp_in_nI (n := 0) (by decide) (by decide)
    have e0 : (0 : Int32).toNatClampNeg = 0 := by decide
    simp only [D_X4_findWay, N_X4_findWay, ↓reduceIte, vcS, vcC, vcI, gtF, ptF, inS, inV, fv0, fv1, fv2, fv3, fw0, fw1, lg_0, lg_1, lg_2, lg_3, lg_4, lg_5, lg_6, lg_7, lg_8, lg_9, lg_10, lg_11, lg_12, lg_13, lg_14, lsq_0, lsl_0, lsq_1, lsl_1, lsq_2, lsl_2, lsq_3, lsl_3, lsq_4, lsl_4, lsq_5, lsl_5, lsq_6, lsl_6, lsq_7, lsl_7, lsq_8, lsl_8, lsq_9, lsl_9, lsq_10, lsl_10, lsq_11, lsl_11, lsq_12, lsl_12, lsq_13, lsl_13, lsq_14, lsl_14, tk_0, tk_1, tk_2, tk_3, tk_4, tk_5, tk_6, tk_7, tk_8, cs_n, cs_i, cs_l, cs_r, cs_u, nl, rt_s, rt_n, CST1, Nat.reduceAdd, Nat.reduceLeDiff, va_rf, rtOk, Bool.false_eq_true, Bool.true_eq_false, if_false, if_true, ite_true, ite_false, true_and, and_true, eq_self, ne_eq, not_false_eq_true, not_true_eq_false, false_implies, true_implies, and_self, reduceCtorEq, Nat.reduceBEq, Bool.or_false, Bool.false_or, Bool.or_true, Bool.true_or, if1_0, if1_1, if1_01, one_01, zer_01, lg_cmp_ge, lg_cmp_le, lg_cmp_gt, lg_cmp_lt, lg_cmp_eq, Classical.not_not, SHm hS, SHr hS, ea, va, l2, q9, v0, e0]
    have lo : ∀ (m k : Nat) (σ : aS), k + m = l + 1 → 1 ≤ k → FSc sg σ → σ 7 = f → (∀ a, a < 10 → rwO (σ 6 a) 10 (opE R P D dA dB S false a)) → σ 1 7 = nI l → (∀ j, j < k → σ 8 j = nI (wyF (opE R P D dA dB S false) f a j)) → AW G 4 n 0 0 mu ro σ 42 [.ref 1, .int (nI a), .int (nI b), .int (nI k)] [] := by
      intro m
      induction m with
      | zero =>
        intro k σ hk hk1 hF h7 h6 h17 h8
        have hc : (nI l < nI k) = True := eq_true (nI_lt (by omega) (by omega))
        refine hG (fun q => q == 42) 80 _ _ _ _ (Nat.le_of_ble_eq_true rfl) ?_
        simp only [D_X4_findWay, N_X4_findWay, ↓reduceIte, vcS, vcC, vcI, gtF, ptF, inS, inV, fv0, fv1, fv2, fv3, fw0, fw1, lg_0, lg_1, lg_2, lg_3, lg_4, lg_5, lg_6, lg_7, lg_8, lg_9, lg_10, lg_11, lg_12, lg_13, lg_14, lsq_0, lsl_0, lsq_1, lsl_1, lsq_2, lsl_2, lsq_3, lsl_3, lsq_4, lsl_4, lsq_5, lsl_5, lsq_6, lsl_6, lsq_7, lsl_7, lsq_8, lsl_8, lsq_9, lsl_9, lsq_10, lsl_10, lsq_11, lsl_11, lsq_12, lsl_12, lsq_13, lsl_13, lsq_14, lsl_14, tk_0, tk_1, tk_2, tk_3, tk_4, tk_5, tk_6, tk_7, tk_8, cs_n, cs_i, cs_l, cs_r, cs_u, nl, rt_s, rt_n, CST1, Nat.reduceAdd, Nat.reduceLeDiff, va_rf, rtOk, Bool.false_eq_true, Bool.true_eq_false, if_false, if_true, ite_true, ite_false, true_and, and_true, eq_self, ne_eq, not_false_eq_true, not_true_eq_false, false_implies, true_implies, and_self, reduceCtorEq, Nat.reduceBEq, Bool.or_false, Bool.false_or, Bool.or_true, Bool.true_or, if1_0, if1_1, if1_01, one_01, zer_01, lg_cmp_ge, lg_cmp_le, lg_cmp_gt, lg_cmp_lt, lg_cmp_eq, Classical.not_not, SHm hS, SHr hS, h17, ↓im_T hc, ↓im_TN hc, hc]
        exact hk2 l f h3 l3 l9 σ hF h17 (fun j hj => h8 j (by omega))
      | succ m ih =>
        intro k σ hk hk1 hF h7 h6 h17 h8
        have hc : (nI l < nI k) = False := eq_false (nI_nlt (by omega) (by omega))
        have hp : nI k - 1 = nI (k - 1) := by rw [show k = k - 1 + 1 by omega, nI_pred, Nat.add_sub_cancel]
        have ek : (nI k).toNatClampNeg = k := nI_clamp (by omega)
        have vk : vp_in (nI k) 10 := vp_in_nI (by omega) (by decide)
        have ep : (nI (k - 1)).toNatClampNeg = k - 1 := nI_clamp (by omega)
        have vp : vp_in (nI (k - 1)) 10 := vp_in_nI (by omega) (by decide)
        have h8' := h8 (k - 1) (by omega)
        obtain ⟨w1, w2⟩ := wo (k - 1) (by omega)
        rw [show l - (k - 1) = l - k + 1 by omega] at w2
        have ew : wyF (opE R P D dA dB S false) f a k = nxF (opE R P D dA dB S false) f (wyF (opE R P D dA dB S false) f a (k - 1)) := by
          rw [show k = k - 1 + 1 by omega, wyF, Nat.add_sub_cancel]
        refine hG (fun q => q == 42) 80 _ _ _ _ (Nat.le_of_ble_eq_true rfl) ?_
        simp only [D_X4_findWay, N_X4_findWay, ↓reduceIte, vcS, vcC, vcI, gtF, ptF, inS, inV, fv0, fv1, fv2, fv3, fw0, fw1, lg_0, lg_1, lg_2, lg_3, lg_4, lg_5, lg_6, lg_7, lg_8, lg_9, lg_10, lg_11, lg_12, lg_13, lg_14, lsq_0, lsl_0, lsq_1, lsl_1, lsq_2, lsl_2, lsq_3, lsl_3, lsq_4, lsl_4, lsq_5, lsl_5, lsq_6, lsl_6, lsq_7, lsl_7, lsq_8, lsl_8, lsq_9, lsl_9, lsq_10, lsl_10, lsq_11, lsl_11, lsq_12, lsl_12, lsq_13, lsl_13, lsq_14, lsl_14, tk_0, tk_1, tk_2, tk_3, tk_4, tk_5, tk_6, tk_7, tk_8, cs_n, cs_i, cs_l, cs_r, cs_u, nl, rt_s, rt_n, CST1, Nat.reduceAdd, Nat.reduceLeDiff, va_rf, rtOk, Bool.false_eq_true, Bool.true_eq_false, if_false, if_true, ite_true, ite_false, true_and, and_true, eq_self, ne_eq, not_false_eq_true, not_true_eq_false, false_implies, true_implies, and_self, reduceCtorEq, Nat.reduceBEq, Bool.or_false, Bool.false_or, Bool.or_true, Bool.true_or, if1_0, if1_1, if1_01, one_01, zer_01, lg_cmp_ge, lg_cmp_le, lg_cmp_gt, lg_cmp_lt, lg_cmp_eq, Classical.not_not, SHm hS, SHr hS, h17, ↓im_F hc, ↓im_FN hc, hc, hp, ek, vk, ep, vp, h8']
        refine ⟨by omega, c_firstNearer hS w1 hEs h6 (by rw [h7]; exact h3) w2 ?_⟩
        simp only [D_X4_findWay, N_X4_findWay, ↓reduceIte, vcS, vcC, vcI, gtF, ptF, inS, inV, fv0, fv1, fv2, fv3, fw0, fw1, lg_0, lg_1, lg_2, lg_3, lg_4, lg_5, lg_6, lg_7, lg_8, lg_9, lg_10, lg_11, lg_12, lg_13, lg_14, lsq_0, lsl_0, lsq_1, lsl_1, lsq_2, lsl_2, lsq_3, lsl_3, lsq_4, lsl_4, lsq_5, lsl_5, lsq_6, lsl_6, lsq_7, lsl_7, lsq_8, lsl_8, lsq_9, lsl_9, lsq_10, lsl_10, lsq_11, lsl_11, lsq_12, lsl_12, lsq_13, lsl_13, lsq_14, lsl_14, tk_0, tk_1, tk_2, tk_3, tk_4, tk_5, tk_6, tk_7, tk_8, cs_n, cs_i, cs_l, cs_r, cs_u, nl, rt_s, rt_n, CST1, Nat.reduceAdd, Nat.reduceLeDiff, va_rf, rtOk, Bool.false_eq_true, Bool.true_eq_false, if_false, if_true, ite_true, ite_false, true_and, and_true, eq_self, ne_eq, not_false_eq_true, not_true_eq_false, false_implies, true_implies, and_self, reduceCtorEq, Nat.reduceBEq, Bool.or_false, Bool.false_or, Bool.or_true, Bool.true_or, if1_0, if1_1, if1_01, one_01, zer_01, lg_cmp_ge, lg_cmp_le, lg_cmp_gt, lg_cmp_lt, lg_cmp_eq, Classical.not_not, SHm hS, SHr hS, ek, vk, nI_1]
        rw [h7, ← ew]
        refine ih (k + 1) _ (by omega) (by omega) (fun x j y1 y2 y3 y4 => by rw [s2_n (by omega)]; exact hF x j y1 y2 y3 y4) (by rw [← h7]; exact funext (fun j => s2_n (by omega))) (fun x hx => by rw [s2_n (by omega)]; exact h6 x hx) (by rw [s2_n (by omega)]; exact h17) (fun j hj => ?_)
        by_cases q : j = k
        · rw [s2_y ⟨rfl, q⟩, q]
        · rw [s2_n (by omega)]; exact h8 j (by omega)
    refine lo l 1 _ (by omega) (by omega) (fun x k y1 y2 y3 y4 => by rw [s2_n (by omega), s2_n (by omega)]; exact hF2 x k y1 y2 y3 y4) (by rw [hf]; exact funext (fun j => by rw [s2_n (by omega), s2_n (by omega)])) (fun x hx => by rw [s2_n (by omega), s2_n (by omega)]; exact hE2 x hx) (by ((try simp (disch := omega) only [s2_y, s2_n, rg_y, rg_n, fl_y, fl_n]); (try with_reducible rfl); (try assumption))) (fun j hj => ?_)
    have : j = 0 := by omega
    subst this
    rw [s2_y ⟨rfl, rfl⟩]
    rfl
  · rw [hf] at l1
    simp only [D_X4_findWay, N_X4_findWay, ↓reduceIte, vcS, vcC, vcI, gtF, ptF, inS, inV, fv0, fv1, fv2, fv3, fw0, fw1, lg_0, lg_1, lg_2, lg_3, lg_4, lg_5, lg_6, lg_7, lg_8, lg_9, lg_10, lg_11, lg_12, lg_13, lg_14, lsq_0, lsl_0, lsq_1, lsl_1, lsq_2, lsl_2, lsq_3, lsl_3, lsq_4, lsl_4, lsq_5, lsl_5, lsq_6, lsl_6, lsq_7, lsl_7, lsq_8, lsl_8, lsq_9, lsl_9, lsq_10, lsl_10, lsq_11, lsl_11, lsq_12, lsl_12, lsq_13, lsl_13, lsq_14, lsl_14, tk_0, tk_1, tk_2, tk_3, tk_4, tk_5, tk_6, tk_7, tk_8, cs_n, cs_i, cs_l, cs_r, cs_u, nl, rt_s, rt_n, CST1, Nat.reduceAdd, Nat.reduceLeDiff, va_rf, rtOk, Bool.false_eq_true, Bool.true_eq_false, if_false, if_true, ite_true, ite_false, true_and, and_true, eq_self, ne_eq, not_false_eq_true, not_true_eq_false, false_implies, true_implies, and_self, reduceCtorEq, Nat.reduceBEq, Bool.or_false, Bool.false_or, Bool.or_true, Bool.true_or, if1_0, if1_1, if1_01, one_01, zer_01, lg_cmp_ge, lg_cmp_le, lg_cmp_gt, lg_cmp_lt, lg_cmp_eq, Classical.not_not, SHm hS, SHr hS, ea, va, l1]
    exact hk1 l2 σ2 hF2
end H48
