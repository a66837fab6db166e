/-! part 65: bytes that are seen; ways with posts -/
section H65
variable {d n N T Q F : Nat} {mu : aM} {ro : aR} {sg σ : aS} {K : Option Value → aS → Prop} {tb rb : Nat → Nat} {R P : Nat → Nat → Bool} {D : Nat} {dA dB : Nat → Nat} {S : Nat → Bool} {E : Nat → Nat → Bool} {A : Nat → Bool}
def byO (p : Nat) (v : Int32) (st : (Nat → Int32) × (Nat → Int32) × Int32) : (Nat → Int32) × (Nat → Int32) × Int32 := if st.1 p = -9 then (upd st.1 p v, st.2.1, st.2.2) else if v = st.1 p ∨ v = st.2.1 p then st else if st.2.1 p = -9 then (st.1, upd st.2.1 p v, st.2.2) else (st.1, st.2.1, st.2.2 + 1)
def byW (v : Nat → Int32) (p : Nat) : Nat → Nat → (Nat → Int32) × (Nat → Int32) × Int32 → (Nat → Int32) × (Nat → Int32) × Int32
  | 0, _, st => st
  | m + 1, j, st => byW v p m (j + 1) (byO (p + j) (v j) st)
def C_by (s : aS) (a : Nat) (st : (Nat → Int32) × (Nat → Int32) × Int32) : Prop := (∀ p, p < 79 → s (a + 1) p = st.1 p ∧ s (a + 2) p = st.2.1 p) ∧ s a 7 = st.2.2
def M_by (s : aS) (t : Nat) (st : (Nat → Int32) × (Nat → Int32) × Int32) : Prop := (∀ p, p < 79 → s 58 (80 * t + p) = st.1 p ∧ s 59 (80 * t + p) = st.2.1 p) ∧ s 60 t = st.2.2
def G_by (st : (Nat → Int32) × (Nat → Int32) × Int32) : Prop := ∀ p, p < 79 → i_by (st.1 p) ∧ i_by (st.2.1 p)
theorem byO_ok {p : Nat} {v : Int32} {st : (Nat → Int32) × (Nat → Int32) × Int32} (h : G_by st) (hv : i_bw v 0 127) : G_by (byO p v st) ∧ (byO p v st).1 p ≠ -9 ∧ ∀ q, q ≠ p → (byO p v st).1 q = st.1 q := by
  have v9 : ¬ v = -9 := fun z => by rw [z] at hv; exact absurd hv.1 (by decide)
  unfold byO
  by_cases h1 : st.1 p = -9
  · rw [if_pos h1]
    refine ⟨fun q hq => ⟨?_, (h q hq).2⟩, by show upd st.1 p v p ≠ -9; rw [pk_us]; exact v9, fun q hq => pk_un hq⟩
    by_cases e : q = p
    · show i_by (upd st.1 p v q)
      rw [e, pk_us]; exact Or.inr hv
    · show i_by (upd st.1 p v q)
      rw [pk_un e]; exact (h q hq).1
  · rw [if_neg h1]
    by_cases h2 : v = st.1 p ∨ v = st.2.1 p
    · rw [if_pos h2]; exact ⟨h, h1, fun _ _ => rfl⟩
    · rw [if_neg h2]
      by_cases h3 : st.2.1 p = -9
      · rw [if_pos h3]
        refine ⟨fun q hq => ⟨(h q hq).1, ?_⟩, h1, fun _ _ => rfl⟩
        by_cases e : q = p
        · show i_by (upd st.2.1 p v q)
          rw [e, pk_us]; exact Or.inr hv
        · show i_by (upd st.2.1 p v q)
          rw [pk_un e]; exact (h q hq).2
      · rw [if_neg h3]; exact ⟨h, h1, fun _ _ => rfl⟩
theorem byW_ok {v : Nat → Int32} {p : Nat} : ∀ m j st, G_by st → (∀ i, j ≤ i → i < j + m → i_bw (v i) 0 127) → G_by (byW v p m j st) ∧ (∀ q, q < p + j ∨ p + (j + m) ≤ q → (byW v p m j st).1 q = st.1 q) ∧ ∀ q, p + j ≤ q → q < p + (j + m) → (byW v p m j st).1 q ≠ -9
  | 0, j, st, h, _ => ⟨h, fun _ _ => rfl, fun q h1 h2 => absurd h2 (by omega)⟩
  | m + 1, j, st, h, hv => by
    obtain ⟨a1, a2, a3⟩ := byO_ok (p := p + j) h (hv j (Nat.le_refl j) (by omega))
    obtain ⟨b1, b2, b3⟩ := byW_ok (v := v) (p := p) m (j + 1) (byO (p + j) (v j) st) a1 (fun i h1 h2 => hv i (by omega) (by omega))
    rw [byW]
    refine ⟨b1, fun q hq => ?_, fun q h1 h2 => ?_⟩
    · rw [b2 q (by omega), a3 q (by omega)]
    · by_cases e : q = p + j
      · rw [b2 q (by omega), e]; exact a2
      · exact b3 q (by omega) (by omega)
set_option maxHeartbeats 4000000 in
set_option maxRecDepth 100000 in
theorem c_seeByte {a p : Nat} {v : Int32} {st : (Nat → Int32) × (Nat → Int32) × Int32} (h1 : mu a = (18, 10)) (h2 : ro a 4 = some (a + 1)) (h3 : mu (a + 1) = (1, 79)) (h4 : ro a 5 = some (a + 2)) (h5 : mu (a + 2) = (1, 79)) (hp : p < 79) (hB : C_by sg a st) (hk : ∀ σ', C_by σ' a (byO p v st) → (∀ b k, ¬ (b = a + 1 ∨ b = a + 2 ∨ (b = a ∧ k = 7)) → σ' b k = sg b k) → K none σ') : aCall d 61 [.ref a, .int (nI p), .int v] n mu ro sg K := by
  have ep : (nI p).toNatClampNeg = p := nI_clamp (by omega)
  have vp : vp_in (nI p) 79 := vp_in_nI hp (by decide)
  obtain ⟨b1, b2⟩ := id hB
  obtain ⟨e1, e2⟩ := b1 p hp
  unfold byO at hk
  refine aCall_start (mL := 3) (cc := cX8_seeByte) (o := 8) (ret := none) 0 (by decide) (by decide +kernel) rfl rfl rfl rfl (Nat.le_of_ble_eq_true rfl) (fun G hC hG => ?_)
  simp only [exL, List.cons_append, List.nil_append, rp_0, rp_1, rp_2, rp_3, rp_4, rp_5, rp_6, rp_7, rp_8, rp_9, rp_10, rp_11, List.append_nil]
  refine hG (fun _ => false) 60 _ _ _ _ (Nat.le_of_ble_eq_true rfl) ?_
  simp only [D_X8_seeByte, ↓reduceIte, vcS, vcC, vcI, gtF, ptF, inS, inV, fv0, fv1, fv2, fv3, fw0, fw1, lg_0, lg_1, lg_2, lg_3, lg_4, lg_5, lg_6, lg_7, lg_8, lg_9, lg_10, lg_11, lg_12, lg_13, lg_14, lsq_0, lsl_0, lsq_1, lsl_1, lsq_2, lsl_2, lsq_3, lsl_3, lsq_4, lsl_4, lsq_5, lsl_5, lsq_6, lsl_6, lsq_7, lsl_7, lsq_8, lsl_8, lsq_9, lsl_9, lsq_10, lsl_10, lsq_11, lsl_11, lsq_12, lsl_12, lsq_13, lsl_13, lsq_14, lsl_14, tk_0, tk_1, tk_2, tk_3, tk_4, tk_5, tk_6, tk_7, tk_8, cs_n, cs_i, cs_l, cs_r, cs_u, nl, rt_s, rt_n, CST1, Nat.reduceAdd, Nat.reduceLeDiff, va_rf, rtOk, Bool.false_eq_true, Bool.true_eq_false, if_false, if_true, ite_true, ite_false, true_and, and_true, eq_self, ne_eq, not_false_eq_true, not_true_eq_false, false_implies, true_implies, and_self, reduceCtorEq, Nat.reduceBEq, Bool.or_false, Bool.false_or, Bool.or_true, Bool.true_or, if1_0, if1_1, if1_01, one_01, zer_01, lg_cmp_ge, lg_cmp_le, lg_cmp_gt, lg_cmp_lt, lg_cmp_eq, Classical.not_not, h1, h2, h3, h4, h5, ep, vp, e1, e2, b2]
  have z3 : ¬ st.1 p = -9 → (v = st.1 p ∨ v = st.2.1 p) → K none sg := by
    intro y1 y2
    rw [if_neg y1, if_pos y2] at hk
    exact hk sg hB (fun _ _ _ => rfl)
  refine ⟨fun y1 => ⟨fun y2 => z3 y1 (Or.inl y2), fun y2 => ⟨fun y3 => ⟨fun y4 => ?_, fun y4 => ?_⟩, fun y3 => z3 y1 (Or.inr y3)⟩⟩, fun y1 => ?_⟩
  · rw [if_neg y1, if_neg (fun z => z.elim y2 y3), if_neg y4] at hk
    refine hk _ ⟨fun q hq => ?_, by ((try simp (disch := omega) only [s2_y, s2_n, rg_y, rg_n, fl_y, fl_n]); (try with_reducible rfl); (try assumption))⟩ (fun b k z => by ((try simp (disch := omega) only [s2_y, s2_n, rg_y, rg_n, fl_y, fl_n]); (try with_reducible rfl); (try assumption)))
    obtain ⟨u1, u2⟩ := b1 q hq
    exact ⟨by rw [s2_n (by omega)]; exact u1, by rw [s2_n (by omega)]; exact u2⟩
  · rw [if_neg y1, if_neg (fun z => z.elim y2 y3), if_pos y4] at hk
    refine hk _ ⟨fun q hq => ?_, by rw [s2_n (by omega)]; exact b2⟩ (fun b k z => by ((try simp (disch := omega) only [s2_y, s2_n, rg_y, rg_n, fl_y, fl_n]); (try with_reducible rfl); (try assumption)))
    obtain ⟨u1, u2⟩ := b1 q hq
    refine ⟨by rw [s2_n (by omega)]; exact u1, ?_⟩
    by_cases e : q = p
    · show _ = upd st.2.1 p v q
      rw [e, pk_us, s2_y ⟨rfl, rfl⟩]
    · show _ = upd st.2.1 p v q
      rw [pk_un e, s2_n (by omega)]; exact u2
  · rw [if_pos y1] at hk
    refine hk _ ⟨fun q hq => ?_, by rw [s2_n (by omega)]; exact b2⟩ (fun b k z => by ((try simp (disch := omega) only [s2_y, s2_n, rg_y, rg_n, fl_y, fl_n]); (try with_reducible rfl); (try assumption)))
    obtain ⟨u1, u2⟩ := b1 q hq
    refine ⟨?_, by rw [s2_n (by omega)]; exact u2⟩
    by_cases e : q = p
    · show _ = upd st.1 p v q
      rw [e, pk_us, s2_y ⟨rfl, rfl⟩]
    · show _ = upd st.1 p v q
      rw [pk_un e, s2_n (by omega)]; exact u1
set_option maxHeartbeats 4000000 in
set_option maxRecDepth 100000 in
theorem m_take {t p : Nat} {v : Int32} {st : (Nat → Int32) × (Nat → Int32) × Int32} (hS : Sh mu ro) (ht : t < 8) (hp : p < 79) (hG : G_by st) (hv : i_bw v 0 127) (hB : M_by sg t st) (hk : ∀ σ', M_by σ' t (byO p v st) → (∀ b k, ¬ (b = 58 ∧ k = 80 * t + p) → ¬ (b = 59 ∧ k = 80 * t + p) → ¬ (b = 60 ∧ k = t) → σ' b k = sg b k) → K none σ') : aCall d 179 [.ref 48, .int (nI t), .int (nI p), .int v] n mu ro sg K := by
  have ei : (nI (80 * t + p)).toNatClampNeg = 80 * t + p := nI_clamp (by omega)
  have vi : vp_in (nI (80 * t + p)) 640 := vp_in_nI (by omega) (by decide)
  have et : (nI t).toNatClampNeg = t := nI_clamp (by omega)
  have vt : vp_in (nI t) 8 := vp_in_nI ht (by decide)
  obtain ⟨b1, b2⟩ := id hB
  obtain ⟨e1, e2⟩ := b1 p hp
  obtain ⟨g1, g2⟩ := hG p hp
  have c1 : (0 ≤ st.1 p) = ¬ (st.1 p = -9) := by rw [← by_lt g1]; exact propext ⟨fun z => by ((try simp only [i_le, i_lt, i_eq, l_le, l_lt, l_eq, i_ne, l_ne, toL, l_add, l_sub1, LIT1, LIT2, Int.reduceNeg, ge_iff_le, gt_iff_lt] at *); omega), fun z => by ((try simp only [i_le, i_lt, i_eq, l_le, l_lt, l_eq, i_ne, l_ne, toL, l_add, l_sub1, LIT1, LIT2, Int.reduceNeg, ge_iff_le, gt_iff_lt] at *); omega)⟩
  have c2 : (0 ≤ st.2.1 p) = ¬ (st.2.1 p = -9) := by rw [← by_lt g2]; exact propext ⟨fun z => by ((try simp only [i_le, i_lt, i_eq, l_le, l_lt, l_eq, i_ne, l_ne, toL, l_add, l_sub1, LIT1, LIT2, Int.reduceNeg, ge_iff_le, gt_iff_lt] at *); omega), fun z => by ((try simp only [i_le, i_lt, i_eq, l_le, l_lt, l_eq, i_ne, l_ne, toL, l_add, l_sub1, LIT1, LIT2, Int.reduceNeg, ge_iff_le, gt_iff_lt] at *); omega)⟩
  have v9 : ¬ v = -9 := fun z => by rw [z] at hv; exact absurd hv.1 (by decide)
  unfold byO at hk
  refine aCall_start (mL := 5) (cc := cX12_take) (o := 12) (ret := none) 1 (by decide) (by decide +kernel) rfl rfl rfl rfl (Nat.le_of_ble_eq_true rfl) (fun G hC hG => ?_)
  simp only [exL, List.cons_append, List.nil_append, rp_0, rp_1, rp_2, rp_3, rp_4, rp_5, rp_6, rp_7, rp_8, rp_9, rp_10, rp_11, List.append_nil]
  refine hG (fun _ => false) 80 _ _ _ _ (Nat.le_of_ble_eq_true rfl) ?_
  simp only [D_X12_take, ↓reduceIte, vcS, vcC, vcI, gtF, ptF, inS, inV, fv0, fv1, fv2, fv3, fw0, fw1, lg_0, lg_1, lg_2, lg_3, lg_4, lg_5, lg_6, lg_7, lg_8, lg_9, lg_10, lg_11, lg_12, lg_13, lg_14, lsq_0, lsl_0, lsq_1, lsl_1, lsq_2, lsl_2, lsq_3, lsl_3, lsq_4, lsl_4, lsq_5, lsl_5, lsq_6, lsl_6, lsq_7, lsl_7, lsq_8, lsl_8, lsq_9, lsl_9, lsq_10, lsl_10, lsq_11, lsl_11, lsq_12, lsl_12, lsq_13, lsl_13, lsq_14, lsl_14, tk_0, tk_1, tk_2, tk_3, tk_4, tk_5, tk_6, tk_7, tk_8, cs_n, cs_i, cs_l, cs_r, cs_u, nl, rt_s, rt_n, CST1, Nat.reduceAdd, Nat.reduceLeDiff, va_rf, rtOk, Bool.false_eq_true, Bool.true_eq_false, if_false, if_true, ite_true, ite_false, true_and, and_true, eq_self, ne_eq, not_false_eq_true, not_true_eq_false, false_implies, true_implies, and_self, reduceCtorEq, Nat.reduceBEq, Bool.or_false, Bool.false_or, Bool.or_true, Bool.true_or, if1_0, if1_1, if1_01, one_01, zer_01, lg_cmp_ge, lg_cmp_le, lg_cmp_gt, lg_cmp_lt, lg_cmp_eq, Classical.not_not, SHm hS, SHr hS, ml80, nI_add, ei, vi, e1, e2, c1, c2, et, vt, b2]
  have z3 : ¬ st.1 p = -9 → (v = st.1 p ∨ v = st.2.1 p) → K none sg := by
    intro y1 y2
    rw [if_neg y1, if_pos y2] at hk
    exact hk sg hB (fun _ _ _ _ _ => rfl)
  by_cases y1 : st.1 p = -9
  · simp only [y1, not_true_eq_false, false_implies, true_and, not_false_eq_true, true_implies, and_true, implies_true]
    rw [if_pos y1] at hk
    refine hk _ ⟨fun q hq => ?_, by rw [s2_n (by omega)]; exact b2⟩ (fun b k z1 z2 z3 => by ((try simp (disch := omega) only [s2_y, s2_n, rg_y, rg_n, fl_y, fl_n]); (try with_reducible rfl); (try assumption)))
    obtain ⟨u1, u2⟩ := b1 q hq
    refine ⟨?_, by rw [s2_n (by omega)]; exact u2⟩
    by_cases e : q = p
    · show _ = upd st.1 p v q
      rw [e, pk_us, s2_y ⟨rfl, rfl⟩]
    · show _ = upd st.1 p v q
      rw [pk_un e, s2_n (by omega)]; exact u1
  · by_cases y2 : st.1 p = v
    · have z4 := z3 y1 (Or.inl y2.symm)
      simp only [y2, v9, not_true_eq_false, false_implies, true_and, not_false_eq_true, true_implies, and_true, implies_true]
      exact z4
    · by_cases y4 : st.2.1 p = -9
      · rw [if_neg y1, if_neg (fun z => z.elim (fun z => y2 z.symm) (fun z => v9 (z.trans y4))), if_pos y4] at hk
        simp only [y1, y2, y4, not_true_eq_false, false_implies, true_and, not_false_eq_true, true_implies, and_true, implies_true]
        refine hk _ ⟨fun q hq => ?_, by rw [s2_n (by omega)]; exact b2⟩ (fun b k z1 z2 z3 => by ((try simp (disch := omega) only [s2_y, s2_n, rg_y, rg_n, fl_y, fl_n]); (try with_reducible rfl); (try assumption)))
        obtain ⟨u1, u2⟩ := b1 q hq
        refine ⟨by rw [s2_n (by omega)]; exact u1, ?_⟩
        by_cases e : q = p
        · show _ = upd st.2.1 p v q
          rw [e, pk_us, s2_y ⟨rfl, rfl⟩]
        · show _ = upd st.2.1 p v q
          rw [pk_un e, s2_n (by omega)]; exact u2
      · by_cases y3 : st.2.1 p = v
        · have z4 := z3 y1 (Or.inr y3.symm)
          simp only [y1, y2, y3, y4, v9, not_true_eq_false, false_implies, true_and, not_false_eq_true, true_implies, and_true, implies_true]
          exact z4
        · rw [if_neg y1, if_neg (fun z => z.elim (fun z => y2 z.symm) (fun z => y3 z.symm)), if_neg y4] at hk
          simp only [y1, y2, y3, y4, not_true_eq_false, false_implies, true_and, not_false_eq_true, true_implies, and_true, implies_true]
          refine hk _ ⟨fun q hq => ?_, by ((try simp (disch := omega) only [s2_y, s2_n, rg_y, rg_n, fl_y, fl_n]); (try with_reducible rfl); (try assumption))⟩ (fun b k z1 z2 z3 => by ((try simp (disch := omega) only [s2_y, s2_n, rg_y, rg_n, fl_y, fl_n]); (try with_reducible rfl); (try assumption)))
          obtain ⟨u1, u2⟩ := b1 q hq
          exact ⟨by rw [s2_n (by omega)]; exact u1, by rw [s2_n (by omega)]; exact u2⟩
set_option maxHeartbeats 4000000 in
set_option maxRecDepth 100000 in
theorem c_see {a k i w pl e : Nat} {tk : Int32} {st : (Nat → Int32) × (Nat → Int32) × Int32} (hS : Sh mu ro) (hd : 1 ≤ d) (ha : 89 ≤ a) (h1 : mu a = (18, 10)) (h2 : ro a 4 = some (a + 1)) (h3 : mu (a + 1) = (1, 79)) (h4 : ro a 5 = some (a + 2)) (h5 : mu (a + 2) = (1, 79)) (hk4 : k < 4) (hiw : i + w ≤ 60) (hpl : pl + w ≤ 79) (he : sg a 6 = nI e) (he2 : e ≤ 79) (hB : C_by sg a st) (hk : ∀ σ', C_by σ' a (byW (fun j => sg (41 + 2 * k) (i + j)) pl w 0 st) → σ' a 6 = nI (if e < pl + w then pl + w else e) → σ' a 9 = tk → (∀ b k, ¬ (b = a + 1 ∨ b = a + 2 ∨ (b = a ∧ (k = 6 ∨ k = 7 ∨ k = 9))) → σ' b k = sg b k) → K none σ') : aCall d 60 [.ref a, .int (nI pl), .int tk, .ref (40 + 2 * k), .int (nI i), .int (nI w)] n mu ro sg K := by
  obtain ⟨u1, u2, u3⟩ := shm hS hk4
  refine aCall_start (mL := 7) (cc := cX8_see) (o := 8) (ret := none) 1 (by decide) (by decide +kernel) rfl rfl rfl rfl (Nat.le_of_ble_eq_true rfl) (fun G hC hG => ?_)
  simp only [exL, List.cons_append, List.nil_append, rp_0, rp_1, rp_2, rp_3, rp_4, rp_5, rp_6, rp_7, rp_8, rp_9, rp_10, rp_11, List.append_nil]
  have lo : ∀ (m j : Nat) (st' : (Nat → Int32) × (Nat → Int32) × Int32) (σ : aS), j + m = w → C_by σ a st' → (∀ b k, ¬ (b = a + 1 ∨ b = a + 2 ∨ (b = a ∧ k = 7)) → σ b k = sg b k) → byW (fun j => sg (41 + 2 * k) (i + j)) pl w 0 st = byW (fun j => sg (41 + 2 * k) (i + j)) pl m j st' → AW G 7 n 0 0 mu ro σ 3 [.ref a, .int (nI pl), .int tk, .ref (40 + 2 * k), .int (nI i), .int (nI w), .int (nI j)] [] := by
    intro m
    induction m with
    | zero =>
      intro j st' σ hj hB' hF hw
      have hq : (nI w ≤ nI j) = True := eq_true (nI_le (by omega) (by omega))
      have e6 : σ a 6 = nI e := by rw [hF a 6 (by omega)]; exact he
      rw [byW] at hw
      rw [hw] at hk
      refine hG (fun q => q == 3 || q == 43) 80 _ _ _ _ (Nat.le_of_ble_eq_true rfl) ?_
      simp only [D_X8_see, N_X8_see, ↓reduceIte, vcS, vcC, vcI, gtF, ptF, inS, inV, fv0, fv1, fv2, fv3, fw0, fw1, lg_0, lg_1, lg_2, lg_3, lg_4, lg_5, lg_6, lg_7, lg_8, lg_9, lg_10, lg_11, lg_12, lg_13, lg_14, lsq_0, lsl_0, lsq_1, lsl_1, lsq_2, lsl_2, lsq_3, lsl_3, lsq_4, lsl_4, lsq_5, lsl_5, lsq_6, lsl_6, lsq_7, lsl_7, lsq_8, lsl_8, lsq_9, lsl_9, lsq_10, lsl_10, lsq_11, lsl_11, lsq_12, lsl_12, lsq_13, lsl_13, lsq_14, lsl_14, tk_0, tk_1, tk_2, tk_3, tk_4, tk_5, tk_6, tk_7, tk_8, cs_n, cs_i, cs_l, cs_r, cs_u, nl, rt_s, rt_n, CST1, Nat.reduceAdd, Nat.reduceLeDiff, va_rf, rtOk, Bool.false_eq_true, Bool.true_eq_false, if_false, if_true, ite_true, ite_false, true_and, and_true, eq_self, ne_eq, not_false_eq_true, not_true_eq_false, false_implies, true_implies, and_self, reduceCtorEq, Nat.reduceBEq, Bool.or_false, Bool.false_or, Bool.or_true, Bool.true_or, if1_0, if1_1, if1_01, one_01, zer_01, lg_cmp_ge, lg_cmp_le, lg_cmp_gt, lg_cmp_lt, lg_cmp_eq, Classical.not_not, ↓im_T hq, ↓im_TN hq, hq, h1, e6, nI_add]
      refine av_max (i := 52) hC ⟨Nat.zero_le _, Nat.zero_le _⟩ (by simp only [D_X8_see]) (by simp only [D_X8_see]) (by simp only [cs_n, cs_r]; decide) (by omega) ?_
      have mx : (if nI e < nI (pl + w) then nI (pl + w) else nI e) = nI (if e < pl + w then pl + w else e) := by
        by_cases z : e < pl + w
        · rw [if_pos z, if_pos (nI_lt z (by omega))]
        · rw [if_neg z, if_neg (nI_nlt (by omega) (by omega))]
      rw [mx]
      refine hG (fun q => q == 3) 60 _ _ _ _ (Nat.le_of_ble_eq_true rfl) ?_
      simp only [D_X8_see, N_X8_see, ↓reduceIte, vcS, vcC, vcI, gtF, ptF, inS, inV, fv0, fv1, fv2, fv3, fw0, fw1, lg_0, lg_1, lg_2, lg_3, lg_4, lg_5, lg_6, lg_7, lg_8, lg_9, lg_10, lg_11, lg_12, lg_13, lg_14, lsq_0, lsl_0, lsq_1, lsl_1, lsq_2, lsl_2, lsq_3, lsl_3, lsq_4, lsl_4, lsq_5, lsl_5, lsq_6, lsl_6, lsq_7, lsl_7, lsq_8, lsl_8, lsq_9, lsl_9, lsq_10, lsl_10, lsq_11, lsl_11, lsq_12, lsl_12, lsq_13, lsl_13, lsq_14, lsl_14, tk_0, tk_1, tk_2, tk_3, tk_4, tk_5, tk_6, tk_7, tk_8, cs_n, cs_i, cs_l, cs_r, cs_u, nl, rt_s, rt_n, CST1, Nat.reduceAdd, Nat.reduceLeDiff, va_rf, rtOk, Bool.false_eq_true, Bool.true_eq_false, if_false, if_true, ite_true, ite_false, true_and, and_true, eq_self, ne_eq, not_false_eq_true, not_true_eq_false, false_implies, true_implies, and_self, reduceCtorEq, Nat.reduceBEq, Bool.or_false, Bool.false_or, Bool.or_true, Bool.true_or, if1_0, if1_1, if1_01, one_01, zer_01, lg_cmp_ge, lg_cmp_le, lg_cmp_gt, lg_cmp_lt, lg_cmp_eq, Classical.not_not, h1]
      obtain ⟨b1, b2⟩ := hB'
      refine hk _ ⟨fun q hq => ?_, by rw [s2_n (by omega), s2_n (by omega)]; exact b2⟩ (by ((try simp (disch := omega) only [s2_y, s2_n, rg_y, rg_n, fl_y, fl_n]); (try with_reducible rfl); (try assumption))) (by ((try simp (disch := omega) only [s2_y, s2_n, rg_y, rg_n, fl_y, fl_n]); (try with_reducible rfl); (try assumption))) (fun b k z => ?_)
      · obtain ⟨v1, v2⟩ := b1 q hq
        exact ⟨by rw [s2_n (by omega), s2_n (by omega)]; exact v1, by rw [s2_n (by omega), s2_n (by omega)]; exact v2⟩
      · rw [s2_n (by omega), s2_n (by omega)]
        exact hF b k (by omega)
    | succ m ih =>
      intro j st' σ hj hB' hF hw
      have hq : (nI w ≤ nI j) = False := eq_false (nI_ge (by omega) (by omega))
      have ex : (nI (i + j)).toNatClampNeg = i + j := nI_clamp (by omega)
      have vx : vp_in (nI (i + j)) 60 := vp_in_nI (by omega) (by decide)
      have ec : σ (41 + 2 * k) (i + j) = sg (41 + 2 * k) (i + j) := hF _ _ (by omega)
      rw [byW] at hw
      refine hG (fun q => q == 3 || q == 43) 80 _ _ _ _ (Nat.le_of_ble_eq_true rfl) ?_
      simp only [D_X8_see, N_X8_see, ↓reduceIte, vcS, vcC, vcI, gtF, ptF, inS, inV, fv0, fv1, fv2, fv3, fw0, fw1, lg_0, lg_1, lg_2, lg_3, lg_4, lg_5, lg_6, lg_7, lg_8, lg_9, lg_10, lg_11, lg_12, lg_13, lg_14, lsq_0, lsl_0, lsq_1, lsl_1, lsq_2, lsl_2, lsq_3, lsl_3, lsq_4, lsl_4, lsq_5, lsl_5, lsq_6, lsl_6, lsq_7, lsl_7, lsq_8, lsl_8, lsq_9, lsl_9, lsq_10, lsl_10, lsq_11, lsl_11, lsq_12, lsl_12, lsq_13, lsl_13, lsq_14, lsl_14, tk_0, tk_1, tk_2, tk_3, tk_4, tk_5, tk_6, tk_7, tk_8, cs_n, cs_i, cs_l, cs_r, cs_u, nl, rt_s, rt_n, CST1, Nat.reduceAdd, Nat.reduceLeDiff, va_rf, rtOk, Bool.false_eq_true, Bool.true_eq_false, if_false, if_true, ite_true, ite_false, true_and, and_true, eq_self, ne_eq, not_false_eq_true, not_true_eq_false, false_implies, true_implies, and_self, reduceCtorEq, Nat.reduceBEq, Bool.or_false, Bool.false_or, Bool.or_true, Bool.true_or, if1_0, if1_1, if1_01, one_01, zer_01, lg_cmp_ge, lg_cmp_le, lg_cmp_gt, lg_cmp_lt, lg_cmp_eq, Classical.not_not, ↓im_F hq, ↓im_FN hq, hq, h1, u1, u2, u3, nI_add, ex, vx, ec]
      refine ⟨hd, c_seeByte h1 h2 h3 h4 h5 (by omega) hB' (fun σ' hB2 hF2 => ?_)⟩
      simp only [D_X8_see, N_X8_see, ↓reduceIte, vcS, vcC, vcI, gtF, ptF, inS, inV, fv0, fv1, fv2, fv3, fw0, fw1, lg_0, lg_1, lg_2, lg_3, lg_4, lg_5, lg_6, lg_7, lg_8, lg_9, lg_10, lg_11, lg_12, lg_13, lg_14, lsq_0, lsl_0, lsq_1, lsl_1, lsq_2, lsl_2, lsq_3, lsl_3, lsq_4, lsl_4, lsq_5, lsl_5, lsq_6, lsl_6, lsq_7, lsl_7, lsq_8, lsl_8, lsq_9, lsl_9, lsq_10, lsl_10, lsq_11, lsl_11, lsq_12, lsl_12, lsq_13, lsl_13, lsq_14, lsl_14, tk_0, tk_1, tk_2, tk_3, tk_4, tk_5, tk_6, tk_7, tk_8, cs_n, cs_i, cs_l, cs_r, cs_u, nl, rt_s, rt_n, CST1, Nat.reduceAdd, Nat.reduceLeDiff, va_rf, rtOk, Bool.false_eq_true, Bool.true_eq_false, if_false, if_true, ite_true, ite_false, true_and, and_true, eq_self, ne_eq, not_false_eq_true, not_true_eq_false, false_implies, true_implies, and_self, reduceCtorEq, Nat.reduceBEq, Bool.or_false, Bool.false_or, Bool.or_true, Bool.true_or, if1_0, if1_1, if1_01, one_01, zer_01, lg_cmp_ge, lg_cmp_le, lg_cmp_gt, lg_cmp_lt, lg_cmp_eq, Classical.not_not, nI_1]
      exact ih (j + 1) _ σ' (by omega) hB2 (fun b k z => by rw [hF2 b k z]; exact hF b k z) hw
  refine hG (fun q => q == 3 || q == 43) 80 _ _ _ _ (Nat.le_of_ble_eq_true rfl) ?_
  simp only [D_X8_see, N_X8_see, ↓reduceIte, vcS, vcC, vcI, gtF, ptF, inS, inV, fv0, fv1, fv2, fv3, fw0, fw1, lg_0, lg_1, lg_2, lg_3, lg_4, lg_5, lg_6, lg_7, lg_8, lg_9, lg_10, lg_11, lg_12, lg_13, lg_14, lsq_0, lsl_0, lsq_1, lsl_1, lsq_2, lsl_2, lsq_3, lsl_3, lsq_4, lsl_4, lsq_5, lsl_5, lsq_6, lsl_6, lsq_7, lsl_7, lsq_8, lsl_8, lsq_9, lsl_9, lsq_10, lsl_10, lsq_11, lsl_11, lsq_12, lsl_12, lsq_13, lsl_13, lsq_14, lsl_14, tk_0, tk_1, tk_2, tk_3, tk_4, tk_5, tk_6, tk_7, tk_8, cs_n, cs_i, cs_l, cs_r, cs_u, nl, rt_s, rt_n, CST1, Nat.reduceAdd, Nat.reduceLeDiff, va_rf, rtOk, Bool.false_eq_true, Bool.true_eq_false, if_false, if_true, ite_true, ite_false, true_and, and_true, eq_self, ne_eq, not_false_eq_true, not_true_eq_false, false_implies, true_implies, and_self, reduceCtorEq, Nat.reduceBEq, Bool.or_false, Bool.false_or, Bool.or_true, Bool.true_or, if1_0, if1_1, if1_01, one_01, zer_01, lg_cmp_ge, lg_cmp_le, lg_cmp_gt, lg_cmp_lt, lg_cmp_eq, Classical.not_not]
  exact lo w 0 st sg (by omega) hB (fun _ _ _ => rfl) rfl
-- ways with posts
def wpB (P : Nat → Nat → Bool) (wy : Nat → Nat) : Nat → Bool := anB (fun k => P (wy k) (wy (k + 1)))
set_option maxHeartbeats 4000000 in
set_option maxRecDepth 100000 in
theorem c_wayHasPost {l : Nat} {wy : Nat → Nat} (hS : Sh mu ro) (hd : 1 ≤ d) (hl : l ≤ 9) (h7 : sg 1 7 = nI l) (h8 : ∀ k, k ≤ l → sg 8 k = nI (wy k) ∧ wy k < 10) (hP : ∀ x, x < 10 → rwO (sg 3 x) 10 (P x)) (hk : K (some (.int (if wpB P wy l = true then 1 else 0))) sg) : aCall d 39 [.ref 1] n mu ro sg K := by
  refine aCall_start (mL := 2) (cc := cX4_wayHasPost) (o := 4) (ret := (some .boolean)) 1 (by decide) (by decide +kernel) rfl rfl rfl rfl (Nat.le_of_ble_eq_true rfl) (fun G hC hG => ?_)
  simp only [exL, List.cons_append, List.nil_append, rp_0, rp_1, rp_2, rp_3, rp_4, rp_5, rp_6, rp_7, rp_8, rp_9, rp_10, rp_11, List.append_nil]
  have lo : ∀ (m k : Nat), k + m = l → wpB P wy k = false → AW G 2 n 0 0 mu ro sg 2 [.ref 1, .int (nI (k + 1))] [] := by
    intro m
    induction m with
    | zero =>
      intro k hkl hn
      have hq : (nI l < nI (k + 1)) = True := eq_true (nI_lt (by omega) (by omega))
      have : k = l := by omega
      subst this
      rw [hn, if_neg (by decide)] at hk
      refine hG (fun q => q == 2) 80 _ _ _ _ (Nat.le_of_ble_eq_true rfl) ?_
      simp only [D_X4_wayHasPost, N_X4_wayHasPost, ↓reduceIte, vcS, vcC, vcI, gtF, ptF, inS, inV, fv0, fv1, fv2, fv3, fw0, fw1, lg_0, lg_1, lg_2, lg_3, lg_4, lg_5, lg_6, lg_7, lg_8, lg_9, lg_10, lg_11, lg_12, lg_13, lg_14, lsq_0, lsl_0, lsq_1, lsl_1, lsq_2, lsl_2, lsq_3, lsl_3, lsq_4, lsl_4, lsq_5, lsl_5, lsq_6, lsl_6, lsq_7, lsl_7, lsq_8, lsl_8, lsq_9, lsl_9, lsq_10, lsl_10, lsq_11, lsl_11, lsq_12, lsl_12, lsq_13, lsl_13, lsq_14, lsl_14, tk_0, tk_1, tk_2, tk_3, tk_4, tk_5, tk_6, tk_7, tk_8, cs_n, cs_i, cs_l, cs_r, cs_u, nl, rt_s, rt_n, CST1, Nat.reduceAdd, Nat.reduceLeDiff, va_rf, rtOk, Bool.false_eq_true, Bool.true_eq_false, if_false, if_true, ite_true, ite_false, true_and, and_true, eq_self, ne_eq, not_false_eq_true, not_true_eq_false, false_implies, true_implies, and_self, reduceCtorEq, Nat.reduceBEq, Bool.or_false, Bool.false_or, Bool.or_true, Bool.true_or, if1_0, if1_1, if1_01, one_01, zer_01, lg_cmp_ge, lg_cmp_le, lg_cmp_gt, lg_cmp_lt, lg_cmp_eq, Classical.not_not, SHm hS, SHr hS, h7, ↓im_T hq, ↓im_TN hq, hq]
      exact hk
    | succ m ih =>
      intro k hkl hn
      have hq : (nI l < nI (k + 1)) = False := eq_false (nI_nlt (by omega) (by omega))
      have e1 : (nI (k + 1)).toNatClampNeg = k + 1 := nI_clamp (by omega)
      have v1 : vp_in (nI (k + 1)) 10 := vp_in_nI (by omega) (by decide)
      have e2 : (nI k).toNatClampNeg = k := nI_clamp (by omega)
      have v2 : vp_in (nI k) 10 := vp_in_nI (by omega) (by decide)
      obtain ⟨a1, a2⟩ := h8 k (by omega)
      obtain ⟨a3, a4⟩ := h8 (k + 1) (by omega)
      refine hG (fun q => q == 2) 80 _ _ _ _ (Nat.le_of_ble_eq_true rfl) ?_
      simp only [D_X4_wayHasPost, N_X4_wayHasPost, ↓reduceIte, vcS, vcC, vcI, gtF, ptF, inS, inV, fv0, fv1, fv2, fv3, fw0, fw1, lg_0, lg_1, lg_2, lg_3, lg_4, lg_5, lg_6, lg_7, lg_8, lg_9, lg_10, lg_11, lg_12, lg_13, lg_14, lsq_0, lsl_0, lsq_1, lsl_1, lsq_2, lsl_2, lsq_3, lsl_3, lsq_4, lsl_4, lsq_5, lsl_5, lsq_6, lsl_6, lsq_7, lsl_7, lsq_8, lsl_8, lsq_9, lsl_9, lsq_10, lsl_10, lsq_11, lsl_11, lsq_12, lsl_12, lsq_13, lsl_13, lsq_14, lsl_14, tk_0, tk_1, tk_2, tk_3, tk_4, tk_5, tk_6, tk_7, tk_8, cs_n, cs_i, cs_l, cs_r, cs_u, nl, rt_s, rt_n, CST1, Nat.reduceAdd, Nat.reduceLeDiff, va_rf, rtOk, Bool.false_eq_true, Bool.true_eq_false, if_false, if_true, ite_true, ite_false, true_and, and_true, eq_self, ne_eq, not_false_eq_true, not_true_eq_false, false_implies, true_implies, and_self, reduceCtorEq, Nat.reduceBEq, Bool.or_false, Bool.false_or, Bool.or_true, Bool.true_or, if1_0, if1_1, if1_01, one_01, zer_01, lg_cmp_ge, lg_cmp_le, lg_cmp_gt, lg_cmp_lt, lg_cmp_eq, Classical.not_not, SHm hS, SHr hS, h7, ↓im_F hq, ↓im_FN hq, hq, nI_pred, e1, v1, e2, v2, a1, a3]
      refine ⟨hd, c_hasPost hS a2 a4 (hP _ a2) ?_⟩
      simp only [D_X4_wayHasPost, N_X4_wayHasPost, ↓reduceIte, vcS, vcC, vcI, gtF, ptF, inS, inV, fv0, fv1, fv2, fv3, fw0, fw1, lg_0, lg_1, lg_2, lg_3, lg_4, lg_5, lg_6, lg_7, lg_8, lg_9, lg_10, lg_11, lg_12, lg_13, lg_14, lsq_0, lsl_0, lsq_1, lsl_1, lsq_2, lsl_2, lsq_3, lsl_3, lsq_4, lsl_4, lsq_5, lsl_5, lsq_6, lsl_6, lsq_7, lsl_7, lsq_8, lsl_8, lsq_9, lsl_9, lsq_10, lsl_10, lsq_11, lsl_11, lsq_12, lsl_12, lsq_13, lsl_13, lsq_14, lsl_14, tk_0, tk_1, tk_2, tk_3, tk_4, tk_5, tk_6, tk_7, tk_8, cs_n, cs_i, cs_l, cs_r, cs_u, nl, rt_s, rt_n, CST1, Nat.reduceAdd, Nat.reduceLeDiff, va_rf, rtOk, Bool.false_eq_true, Bool.true_eq_false, if_false, if_true, ite_true, ite_false, true_and, and_true, eq_self, ne_eq, not_false_eq_true, not_true_eq_false, false_implies, true_implies, and_self, reduceCtorEq, Nat.reduceBEq, Bool.or_false, Bool.false_or, Bool.or_true, Bool.true_or, if1_0, if1_1, if1_01, one_01, zer_01, lg_cmp_ge, lg_cmp_le, lg_cmp_gt, lg_cmp_lt, lg_cmp_eq, Classical.not_not, nI_1]
      refine ⟨fun g => ?_, fun g => ?_⟩
      · refine ih (k + 1) (by omega) ?_
        unfold wpB at *
        rw [anB, hn, Bool.false_or, ← Bool.not_eq_true]
        exact g
      · have : wpB P wy l = true := (anB_t l).mpr ⟨k, by omega, g⟩
        rw [if_pos this] at hk
        exact hk
  refine hG (fun q => q == 2) 80 _ _ _ _ (Nat.le_of_ble_eq_true rfl) ?_
  simp only [D_X4_wayHasPost, N_X4_wayHasPost, ↓reduceIte, vcS, vcC, vcI, gtF, ptF, inS, inV, fv0, fv1, fv2, fv3, fw0, fw1, lg_0, lg_1, lg_2, lg_3, lg_4, lg_5, lg_6, lg_7, lg_8, lg_9, lg_10, lg_11, lg_12, lg_13, lg_14, lsq_0, lsl_0, lsq_1, lsl_1, lsq_2, lsl_2, lsq_3, lsl_3, lsq_4, lsl_4, lsq_5, lsl_5, lsq_6, lsl_6, lsq_7, lsl_7, lsq_8, lsl_8, lsq_9, lsl_9, lsq_10, lsl_10, lsq_11, lsl_11, lsq_12, lsl_12, lsq_13, lsl_13, lsq_14, lsl_14, tk_0, tk_1, tk_2, tk_3, tk_4, tk_5, tk_6, tk_7, tk_8, cs_n, cs_i, cs_l, cs_r, cs_u, nl, rt_s, rt_n, CST1, Nat.reduceAdd, Nat.reduceLeDiff, va_rf, rtOk, Bool.false_eq_true, Bool.true_eq_false, if_false, if_true, ite_true, ite_false, true_and, and_true, eq_self, ne_eq, not_false_eq_true, not_true_eq_false, false_implies, true_implies, and_self, reduceCtorEq, Nat.reduceBEq, Bool.or_false, Bool.false_or, Bool.or_true, Bool.true_or, if1_0, if1_1, if1_01, one_01, zer_01, lg_cmp_ge, lg_cmp_le, lg_cmp_gt, lg_cmp_lt, lg_cmp_eq, Classical.not_not]
  exact lo l 0 (by omega) rfl
set_option maxHeartbeats 4000000 in
set_option maxRecDepth 100000 in
theorem m_isSeen {a l : Nat} (hS : Sh mu ro) (hd : 3 ≤ d) (hN : Nt R P D dA dB S) (hM : M_nt sg R P D dA dB S) (ha : a < 10) (hf : farI (opE R P D dA dB S false) A (sg 54)) (hL : Lv (opE R P D dA dB S false) A l a) (hk : K (some (.int (if wpB P (wyF (opE R P D dA dB S false) (sg 54) a) l = true then 1 else 0))) sg) : aCall d 178 [.ref 48, .int (nI a)] n mu ro sg K := by
  have l9 := lv_9 hL ha
  have wo := wy_ok hf (fun a b ha hb => op_c hN ha hb) ha hL
  obtain ⟨wy, hwy⟩ : ∃ wy, wy = wyF (opE R P D dA dB S false) (sg 54) a := ⟨_, rfl⟩
  rw [← hwy] at hk wo
  have lvl : ∀ x, x ≤ l → sg 54 (wy x) = nI (l - x) := by
    intro x hx
    obtain ⟨w1, w2⟩ := wo x hx
    rcases hf (wy x) w1 with ⟨k, k1, k2, k3⟩ | ⟨k1, k2⟩
    · rw [k2, Lv_uq k3 w2]
    · rw [st_le w2.1 (show l - x ≤ 10 by omega)] at k2
      exact absurd k2 (by decide)
  refine aCall_start (mL := 5) (cc := cX12_isSeen) (o := 12) (ret := (some .boolean)) 3 (by decide) (by decide +kernel) rfl rfl rfl rfl (Nat.le_of_ble_eq_true rfl) (fun G hC hG => ?_)
  simp only [exL, List.cons_append, List.nil_append, rp_0, rp_1, rp_2, rp_3, rp_4, rp_5, rp_6, rp_7, rp_8, rp_9, rp_10, rp_11, List.append_nil]
  have lo : ∀ (m x : Nat) (c : Bool) (v : Value), x + m = l → wpB P wy x = c → AW G 5 n 0 0 mu ro sg 4 [.ref 48, .int (nI a), .int (if c = true then 1 else 0), .int (nI (wy x)), v] [] := by
    intro m
    induction m with
    | zero =>
      intro x c v hx hc
      obtain ⟨w1, w2⟩ := wo x (by omega)
      have ew : (nI (wy x)).toNatClampNeg = wy x := nI_clamp (by omega)
      have vw : vp_in (nI (wy x)) 10 := vp_in_nI w1 (by decide)
      have lx := lvl x (by omega)
      rw [show l - x = 0 by omega] at lx
      have hq : (nI 0 ≤ (0 : Int32)) = True := eq_true (by decide)
      have : x = l := by omega
      subst this
      rw [hc] at hk
      refine hG (fun q => q == 4) 80 _ _ _ _ (Nat.le_of_ble_eq_true rfl) ?_
      simp only [D_X12_isSeen, N_X12_isSeen, ↓reduceIte, vcS, vcC, vcI, gtF, ptF, inS, inV, fv0, fv1, fv2, fv3, fw0, fw1, lg_0, lg_1, lg_2, lg_3, lg_4, lg_5, lg_6, lg_7, lg_8, lg_9, lg_10, lg_11, lg_12, lg_13, lg_14, lsq_0, lsl_0, lsq_1, lsl_1, lsq_2, lsl_2, lsq_3, lsl_3, lsq_4, lsl_4, lsq_5, lsl_5, lsq_6, lsl_6, lsq_7, lsl_7, lsq_8, lsl_8, lsq_9, lsl_9, lsq_10, lsl_10, lsq_11, lsl_11, lsq_12, lsl_12, lsq_13, lsl_13, lsq_14, lsl_14, tk_0, tk_1, tk_2, tk_3, tk_4, tk_5, tk_6, tk_7, tk_8, cs_n, cs_i, cs_l, cs_r, cs_u, nl, rt_s, rt_n, CST1, Nat.reduceAdd, Nat.reduceLeDiff, va_rf, rtOk, Bool.false_eq_true, Bool.true_eq_false, if_false, if_true, ite_true, ite_false, true_and, and_true, eq_self, ne_eq, not_false_eq_true, not_true_eq_false, false_implies, true_implies, and_self, reduceCtorEq, Nat.reduceBEq, Bool.or_false, Bool.false_or, Bool.or_true, Bool.true_or, if1_0, if1_1, if1_01, one_01, zer_01, lg_cmp_ge, lg_cmp_le, lg_cmp_gt, lg_cmp_lt, lg_cmp_eq, Classical.not_not, SHm hS, SHr hS, ew, vw, lx, ↓im_T hq, ↓im_TN hq, hq]
      exact hk
    | succ m ih =>
      intro x c v hx hc
      obtain ⟨w1, w2⟩ := wo x (by omega)
      obtain ⟨w3, w4⟩ := wo (x + 1) (by omega)
      have ew : (nI (wy x)).toNatClampNeg = wy x := nI_clamp (by omega)
      have vw : vp_in (nI (wy x)) 10 := vp_in_nI w1 (by decide)
      have lx := lvl x (by omega)
      have hq : (nI (l - x) ≤ (0 : Int32)) = False := eq_false (nI_nle (by omega) (by omega))
      rw [show l - x = l - (x + 1) + 1 by omega] at w2
      have en : nxF (opE R P D dA dB S false) (sg 54) (wy x) = wy (x + 1) := by rw [hwy]; rfl
      have hbt : ((sg 50 (wy x) >>> (nI (wy (x + 1)) &&& 31)) &&& 1 = 1) = (P (wy x) (wy (x + 1)) = true) := rw_bt (hM.2.1 _ w1) w3 (by omega)
      have st : wpB P wy (x + 1) = (c || P (wy x) (wy (x + 1))) := by
        unfold wpB at *
        rw [anB, hc]
      refine hG (fun q => q == 4) 80 _ _ _ _ (Nat.le_of_ble_eq_true rfl) ?_
      simp only [D_X12_isSeen, N_X12_isSeen, ↓reduceIte, vcS, vcC, vcI, gtF, ptF, inS, inV, fv0, fv1, fv2, fv3, fw0, fw1, lg_0, lg_1, lg_2, lg_3, lg_4, lg_5, lg_6, lg_7, lg_8, lg_9, lg_10, lg_11, lg_12, lg_13, lg_14, lsq_0, lsl_0, lsq_1, lsl_1, lsq_2, lsl_2, lsq_3, lsl_3, lsq_4, lsl_4, lsq_5, lsl_5, lsq_6, lsl_6, lsq_7, lsl_7, lsq_8, lsl_8, lsq_9, lsl_9, lsq_10, lsl_10, lsq_11, lsl_11, lsq_12, lsl_12, lsq_13, lsl_13, lsq_14, lsl_14, tk_0, tk_1, tk_2, tk_3, tk_4, tk_5, tk_6, tk_7, tk_8, cs_n, cs_i, cs_l, cs_r, cs_u, nl, rt_s, rt_n, CST1, Nat.reduceAdd, Nat.reduceLeDiff, va_rf, rtOk, Bool.false_eq_true, Bool.true_eq_false, if_false, if_true, ite_true, ite_false, true_and, and_true, eq_self, ne_eq, not_false_eq_true, not_true_eq_false, false_implies, true_implies, and_self, reduceCtorEq, Nat.reduceBEq, Bool.or_false, Bool.false_or, Bool.or_true, Bool.true_or, if1_0, if1_1, if1_01, one_01, zer_01, lg_cmp_ge, lg_cmp_le, lg_cmp_gt, lg_cmp_lt, lg_cmp_eq, Classical.not_not, SHm hS, SHr hS, ew, vw, lx, ↓im_F hq, ↓im_FN hq, hq]
      refine ⟨by omega, m_nextOn hS (by omega) hN hM w1 hf w2 ?_⟩
      rw [en]
      cases c with
      | true =>
        have n1 := ih (x + 1) true (.int (nI (wy (x + 1)))) (by omega) (by rw [st, Bool.true_or])
        have z9 : (if true = true then (1 : Int32) else 0) = 1 := rfl
        rw [z9] at n1
        simp only [D_X12_isSeen, N_X12_isSeen, ↓reduceIte, vcS, vcC, vcI, gtF, ptF, inS, inV, fv0, fv1, fv2, fv3, fw0, fw1, lg_0, lg_1, lg_2, lg_3, lg_4, lg_5, lg_6, lg_7, lg_8, lg_9, lg_10, lg_11, lg_12, lg_13, lg_14, lsq_0, lsl_0, lsq_1, lsl_1, lsq_2, lsl_2, lsq_3, lsl_3, lsq_4, lsl_4, lsq_5, lsl_5, lsq_6, lsl_6, lsq_7, lsl_7, lsq_8, lsl_8, lsq_9, lsl_9, lsq_10, lsl_10, lsq_11, lsl_11, lsq_12, lsl_12, lsq_13, lsl_13, lsq_14, lsl_14, tk_0, tk_1, tk_2, tk_3, tk_4, tk_5, tk_6, tk_7, tk_8, cs_n, cs_i, cs_l, cs_r, cs_u, nl, rt_s, rt_n, CST1, Nat.reduceAdd, Nat.reduceLeDiff, va_rf, rtOk, Bool.false_eq_true, Bool.true_eq_false, if_false, if_true, ite_true, ite_false, true_and, and_true, eq_self, ne_eq, not_false_eq_true, not_true_eq_false, false_implies, true_implies, and_self, reduceCtorEq, Nat.reduceBEq, Bool.or_false, Bool.false_or, Bool.or_true, Bool.true_or, if1_0, if1_1, if1_01, one_01, zer_01, lg_cmp_ge, lg_cmp_le, lg_cmp_gt, lg_cmp_lt, lg_cmp_eq, Classical.not_not, SHm hS, SHr hS, z10]
        exact n1
      | false =>
        simp only [D_X12_isSeen, N_X12_isSeen, ↓reduceIte, vcS, vcC, vcI, gtF, ptF, inS, inV, fv0, fv1, fv2, fv3, fw0, fw1, lg_0, lg_1, lg_2, lg_3, lg_4, lg_5, lg_6, lg_7, lg_8, lg_9, lg_10, lg_11, lg_12, lg_13, lg_14, lsq_0, lsl_0, lsq_1, lsl_1, lsq_2, lsl_2, lsq_3, lsl_3, lsq_4, lsl_4, lsq_5, lsl_5, lsq_6, lsl_6, lsq_7, lsl_7, lsq_8, lsl_8, lsq_9, lsl_9, lsq_10, lsl_10, lsq_11, lsl_11, lsq_12, lsl_12, lsq_13, lsl_13, lsq_14, lsl_14, tk_0, tk_1, tk_2, tk_3, tk_4, tk_5, tk_6, tk_7, tk_8, cs_n, cs_i, cs_l, cs_r, cs_u, nl, rt_s, rt_n, CST1, Nat.reduceAdd, Nat.reduceLeDiff, va_rf, rtOk, Bool.false_eq_true, Bool.true_eq_false, if_false, if_true, ite_true, ite_false, true_and, and_true, eq_self, ne_eq, not_false_eq_true, not_true_eq_false, false_implies, true_implies, and_self, reduceCtorEq, Nat.reduceBEq, Bool.or_false, Bool.false_or, Bool.or_true, Bool.true_or, if1_0, if1_1, if1_01, one_01, zer_01, lg_cmp_ge, lg_cmp_le, lg_cmp_gt, lg_cmp_lt, lg_cmp_eq, Classical.not_not, SHm hS, SHr hS, ew, vw]
        refine ⟨by omega, m_hasBit ?_⟩
        simp only [D_X12_isSeen, N_X12_isSeen, ↓reduceIte, vcS, vcC, vcI, gtF, ptF, inS, inV, fv0, fv1, fv2, fv3, fw0, fw1, lg_0, lg_1, lg_2, lg_3, lg_4, lg_5, lg_6, lg_7, lg_8, lg_9, lg_10, lg_11, lg_12, lg_13, lg_14, lsq_0, lsl_0, lsq_1, lsl_1, lsq_2, lsl_2, lsq_3, lsl_3, lsq_4, lsl_4, lsq_5, lsl_5, lsq_6, lsl_6, lsq_7, lsl_7, lsq_8, lsl_8, lsq_9, lsl_9, lsq_10, lsl_10, lsq_11, lsl_11, lsq_12, lsl_12, lsq_13, lsl_13, lsq_14, lsl_14, tk_0, tk_1, tk_2, tk_3, tk_4, tk_5, tk_6, tk_7, tk_8, cs_n, cs_i, cs_l, cs_r, cs_u, nl, rt_s, rt_n, CST1, Nat.reduceAdd, Nat.reduceLeDiff, va_rf, rtOk, Bool.false_eq_true, Bool.true_eq_false, if_false, if_true, ite_true, ite_false, true_and, and_true, eq_self, ne_eq, not_false_eq_true, not_true_eq_false, false_implies, true_implies, and_self, reduceCtorEq, Nat.reduceBEq, Bool.or_false, Bool.false_or, Bool.or_true, Bool.true_or, if1_0, if1_1, if1_01, one_01, zer_01, lg_cmp_ge, lg_cmp_le, lg_cmp_gt, lg_cmp_lt, lg_cmp_eq, Classical.not_not, SHm hS, SHr hS, hbt]
        refine ⟨fun g => ?_, fun g => ?_⟩
        · have := ih (x + 1) false (.int (nI (wy (x + 1)))) (by omega) (by rw [st, Bool.false_or, ← Bool.not_eq_true]; exact g)
          exact this
        · have := ih (x + 1) true (.int (nI (wy (x + 1)))) (by omega) (by rw [st, g]; rfl)
          exact this
  refine hG (fun q => q == 4) 80 _ _ _ _ (Nat.le_of_ble_eq_true rfl) ?_
  simp only [D_X12_isSeen, N_X12_isSeen, ↓reduceIte, vcS, vcC, vcI, gtF, ptF, inS, inV, fv0, fv1, fv2, fv3, fw0, fw1, lg_0, lg_1, lg_2, lg_3, lg_4, lg_5, lg_6, lg_7, lg_8, lg_9, lg_10, lg_11, lg_12, lg_13, lg_14, lsq_0, lsl_0, lsq_1, lsl_1, lsq_2, lsl_2, lsq_3, lsl_3, lsq_4, lsl_4, lsq_5, lsl_5, lsq_6, lsl_6, lsq_7, lsl_7, lsq_8, lsl_8, lsq_9, lsl_9, lsq_10, lsl_10, lsq_11, lsl_11, lsq_12, lsl_12, lsq_13, lsl_13, lsq_14, lsl_14, tk_0, tk_1, tk_2, tk_3, tk_4, tk_5, tk_6, tk_7, tk_8, cs_n, cs_i, cs_l, cs_r, cs_u, nl, rt_s, rt_n, CST1, Nat.reduceAdd, Nat.reduceLeDiff, va_rf, rtOk, Bool.false_eq_true, Bool.true_eq_false, if_false, if_true, ite_true, ite_false, true_and, and_true, eq_self, ne_eq, not_false_eq_true, not_true_eq_false, false_implies, true_implies, and_self, reduceCtorEq, Nat.reduceBEq, Bool.or_false, Bool.false_or, Bool.or_true, Bool.true_or, if1_0, if1_1, if1_01, one_01, zer_01, lg_cmp_ge, lg_cmp_le, lg_cmp_gt, lg_cmp_lt, lg_cmp_eq, Classical.not_not]
  have := lo l 0 false (.float 0) (by omega) rfl
  rw [hwy] at this
  exact this
end H65
