/-! part 30: counting sets of hours, two ways -/
section H30
theorem s_l : ∀ n, n < 32 → ((nI n &&& 31).toBitVec.smod 32).toNat = n := by decide +kernel
/-- bit j of a number -/
theorem nb_bit {X j : Nat} (hX : X < 2 ^ 31) (hj : j < 32) : (nI X >>> (nI j &&& 31)) &&& 1 = nI (X / 2 ^ j % 2) := by
  rw [pk_shrN hX _ j (s_l j hj)]
  rw [pk_and (m := 1) (nI (X / 2 ^ j)) 1 (by decide)]
  congr 1
  show (BitVec.ofNat 32 (X / 2 ^ j)).toNat % 2 ^ 1 = _
  have : X / 2 ^ j ≤ X := Nat.div_le_self _ _
  rw [BitVec.toNat_ofNat, Nat.mod_eq_of_lt (a := X / 2 ^ j) (by omega)]
theorem nb_bt {X j : Nat} (hX : X < 2 ^ 31) (hj : j < 32) : bt1 (nI X) (nI j) ↔ X / 2 ^ j % 2 = 1 := by
  unfold bt1
  rw [nb_bit hX hj, show (1 : Int32) = nI 1 from rfl]
  exact nI_eq (by omega) (by decide)
def pcU (X : Nat) : Nat → Nat
  | 0 => 0
  | i + 1 => pcU X i + X / 2 ^ i % 2
theorem pcU_le (X : Nat) : ∀ i, pcU X i ≤ i
  | 0 => Nat.le_refl 0
  | i + 1 => by unfold pcU; have := pcU_le X i; omega
theorem pcU_low (z b : Nat) (hb : b < 2) : ∀ r, pcU (2 * z + b) (r + 1) = b + pcU z r
  | 0 => by
    simp only [pcU, Nat.pow_zero, Nat.div_one]
    omega
  | r + 1 => by
    rw [pcU, pcU_low z b hb r, pcU]
    have : (2 * z + b) / 2 ^ (r + 1) = z / 2 ^ r := by
      rw [Nat.pow_succ, Nat.mul_comm (2 ^ r) 2, ← Nat.div_div_eq_div_mul]
      congr 1
      omega
    rw [this]
    omega
theorem pcU_more {X k : Nat} (h : X < 2 ^ k) : ∀ m, pcU X (k + m) = pcU X k
  | 0 => rfl
  | m + 1 => by
    rw [← Nat.add_assoc, pcU, pcU_more h m]
    have : X / 2 ^ (k + m) = 0 := Nat.div_eq_of_lt (Nat.lt_of_lt_of_le h (Nat.pow_le_pow_right (by decide) (by omega)))
    rw [this]
    omega
/-- the sum of chosen ones: bit j of y chooses f (o + j) -/
def slU (f : Nat → Nat) (o y : Nat) : Nat → Nat
  | 0 => 0
  | i + 1 => slU f o y i + y / 2 ^ i % 2 * f (o + i)
theorem slU_low (f : Nat → Nat) (o z b : Nat) (hb : b < 2) : ∀ r, slU f o (2 * z + b) (r + 1) = b * f o + slU f (o + 1) z r
  | 0 => by
    simp only [slU, Nat.pow_zero, Nat.div_one, Nat.add_zero]
    have : (2 * z + b) % 2 = b := by omega
    rw [this]
    omega
  | r + 1 => by
    rw [slU, slU_low f o z b hb r, slU]
    have : (2 * z + b) / 2 ^ (r + 1) = z / 2 ^ r := by
      rw [Nat.pow_succ, Nat.mul_comm (2 ^ r) 2, ← Nat.div_div_eq_div_mul]
      congr 1
      omega
    rw [this, show o + (r + 1) = o + 1 + r by omega]
    omega
theorem cntB_two (p : Nat → Bool) : ∀ m, cntB p (2 * m) = cntB (fun z => p (2 * z)) m + cntB (fun z => p (2 * z + 1)) m
  | 0 => rfl
  | m + 1 => by
    rw [show 2 * (m + 1) = 2 * m + 1 + 1 by omega, cntB, cntB, cntB, cntB, cntB_two p m]
    omega
theorem cntB_ext {p q : Nat → Bool} : ∀ m, (∀ j, j < m → p j = q j) → cntB p m = cntB q m
  | 0, _ => rfl
  | m + 1, h => by rw [cntB, cntB, cntB_ext m (fun j hj => h j (by omega)), h m (by omega)]
theorem cntB_le (p : Nat → Bool) : ∀ m, cntB p m ≤ m
  | 0 => Nat.le_refl 0
  | m + 1 => by rw [cntB]; have := cntB_le p m; split <;> omega
theorem cntB_no {p : Nat → Bool} : ∀ m, (∀ j, j < m → p j = false) → cntB p m = 0
  | 0, _ => rfl
  | m + 1, h => by rw [cntB, cntB_no m (fun j hj => h j (by omega)), h m (by omega)]; rfl
/-- how many sets of s of the last r hours have together M -/
def swN (f : Nat → Nat) : Nat → Nat → Int → Nat
  | 0, 0, M => if M ≤ 0 then 1 else 0
  | 0, _ + 1, _ => 0
  | _ + 1, 0, M => if M ≤ 0 then 1 else 0
  | r + 1, s + 1, M => swN f r (s + 1) M + swN f r s (M - f (13 - r))
theorem swN_0 (f : Nat → Nat) (r : Nat) (M : Int) : swN f r 0 M = if M ≤ 0 then 1 else 0 := by cases r <;> rfl
theorem swN_few (f : Nat → Nat) : ∀ (r s : Nat) (M : Int), r < s → swN f r s M = 0
  | 0, 0, _, h => absurd h (by omega)
  | 0, _ + 1, _, _ => rfl
  | r + 1, 0, _, h => absurd h (by omega)
  | r + 1, s + 1, M, h => by rw [swN, swN_few f r (s + 1) M (by omega), swN_few f r s _ (by omega)]
def odP (f : Nat → Nat) (r s : Nat) (M : Int) (y : Nat) : Bool := decide (pcU y r = s) && decide (M ≤ (slU f (14 - r) y r : Int))
theorem odP_sw (f : Nat → Nat) : ∀ (r s : Nat) (M : Int), r ≤ 14 → cntB (odP f r s M) (2 ^ r) = swN f r s M
  | 0, s, M, _ => by
    rw [Nat.pow_zero, cntB, cntB]
    cases s with
    | zero =>
      by_cases hM : M ≤ 0 <;> simp [odP, pcU, slU, swN, hM]
    | succ s => simp [odP, pcU, swN]
  | r + 1, s, M, h => by
    rw [Nat.pow_succ, Nat.mul_comm, cntB_two]
    have o1 : 14 - (r + 1) + 1 = 14 - r := by omega
    have e1 : cntB (fun z => odP f (r + 1) s M (2 * z)) (2 ^ r) = swN f r s M := by
      rw [← odP_sw f r s M (by omega)]
      refine cntB_ext _ (fun z _ => ?_)
      have h1 := pcU_low z 0 (by decide) r
      have h2 := slU_low f (14 - (r + 1)) z 0 (by decide) r
      simp only [Nat.add_zero, Nat.zero_add, Nat.zero_mul] at h1 h2
      unfold odP
      rw [h1, h2, o1]
    rw [e1]
    have h1 : ∀ z, pcU (2 * z + 1) (r + 1) = 1 + pcU z r := fun z => pcU_low z 1 (by decide) r
    have h2 : ∀ z, slU f (14 - (r + 1)) (2 * z + 1) (r + 1) = f (13 - r) + slU f (14 - r) z r := fun z => by
      rw [slU_low f (14 - (r + 1)) z 1 (by decide) r, o1, show 14 - (r + 1) = 13 - r by omega, Nat.one_mul]
    cases s with
    | zero =>
      rw [cntB_no _ (fun z _ => ?_), swN_0, swN_0]
      · rfl
      · unfold odP
        rw [h1]
        simp
    | succ s =>
      rw [swN]
      congr 1
      rw [← odP_sw f r s _ (by omega)]
      refine cntB_ext _ (fun z _ => ?_)
      unfold odP
      rw [h1, h2]
      congr 1
      · exact decide_eq_decide.mpr (by omega)
      · exact decide_eq_decide.mpr (by omega)
theorem sets_tab : ∀ n, n < 15 → 1 ≤ n → z_sets n = nI (swN (fun _ => 0) 14 n 0) ∧ 0 < swN (fun _ => 0) 14 n 0 ∧ swN (fun _ => 0) 14 n 0 < 65536 := by decide +kernel
theorem sets_all {n : Nat} : cntB (fun x => decide (pcU x 16 = n)) 16384 = swN (fun _ => 0) 14 n 0 := by
  rw [← odP_sw _ 14 n 0 (by omega)]
  refine cntB_ext _ (fun z hz => ?_)
  unfold odP
  rw [show (16 : Nat) = 14 + 2 from rfl, pcU_more (k := 14) (by omega) 2]
  simp
theorem sets_as {f : Nat → Nat} {n : Nat} {M : Int} : cntB (fun x => decide (pcU x 16 = n) && decide (M ≤ (slU f 0 x 14 : Int))) 16384 = swN f 14 n M := by
  rw [← odP_sw _ 14 n M (by omega)]
  refine cntB_ext _ (fun z hz => ?_)
  unfold odP
  rw [show (16 : Nat) = 14 + 2 from rfl, pcU_more (k := 14) (by omega) 2]
-- bitCount
def bcE (i : Int32) : Int32 :=
  let i1 := i - ((i.toUInt32 >>> ((1 : Int32).toUInt32 &&& Int32.toUInt32 31)).toInt32 &&& 1431655765)
  let i2 := (i1 &&& 858993459) + ((i1.toUInt32 >>> ((2 : Int32).toUInt32 &&& Int32.toUInt32 31)).toInt32 &&& 858993459)
  let i3 := (i2 + (i2.toUInt32 >>> ((4 : Int32).toUInt32 &&& Int32.toUInt32 31)).toInt32) &&& 252645135
  let i4 := i3 + (i3.toUInt32 >>> ((8 : Int32).toUInt32 &&& Int32.toUInt32 31)).toInt32
  let i5 := i4 + (i4.toUInt32 >>> ((16 : Int32).toUInt32 &&& Int32.toUInt32 31)).toInt32
  i5 &&& 63
theorem bc_tab : ∀ a, a < 128 → ∀ b, b < 128 → bcE (nI (128 * a + b)) = nI (pcU (128 * a + b) 16) := by decide +kernel
theorem bc_eq {X : Nat} (h : X < 16384) : bcE (nI X) = nI (pcU X 16) := by
  have := bc_tab (X / 128) (by omega) (X % 128) (by omega)
  rw [show 128 * (X / 128) + X % 128 = X by omega] at this
  exact this
end H30
section H30b
variable {d n N : Nat} {mu : aM} {ro : aR} {sg : aS} {K : Option Value → aS → Prop}
set_option maxHeartbeats 4000000 in
set_option maxRecDepth 100000 in
theorem c_bitCount {X : Nat} (h : X < 16384) (hk : K (some (.int (nI (pcU X 16)))) sg) : aCall d 251 [.int (nI X)] n mu ro sg K := by
  rw [← bc_eq h] at hk
  refine aCall_start (mL := 1) (cc := cJ6_bitCount_0f7a4) (o := 14) (ret := (some .int)) 0 (by decide) (by decide +kernel) rfl rfl rfl rfl (Nat.le_of_ble_eq_true rfl) (fun G hC hG => ?_)
  simp only [exL, List.cons_append, List.nil_append, rp_0, rp_1, rp_2, rp_3, rp_4, rp_5, rp_6, rp_7, rp_8, rp_9, rp_10, rp_11, List.append_nil]
  refine hG (fun _ => false) 60 _ _ _ _ (Nat.le_of_ble_eq_true rfl) ?_
  simp only [D_J6_bitCount_0f7a4, ↓reduceIte, vcS, vcC, vcI, gtF, ptF, inS, inV, fv0, fv1, fv2, fv3, fw0, fw1, lg_0, lg_1, lg_2, lg_3, lg_4, lg_5, lg_6, lg_7, lg_8, lg_9, lg_10, lg_11, lg_12, lg_13, lg_14, lsq_0, lsl_0, lsq_1, lsl_1, lsq_2, lsl_2, lsq_3, lsl_3, lsq_4, lsl_4, lsq_5, lsl_5, lsq_6, lsl_6, lsq_7, lsl_7, lsq_8, lsl_8, lsq_9, lsl_9, lsq_10, lsl_10, lsq_11, lsl_11, lsq_12, lsl_12, lsq_13, lsl_13, lsq_14, lsl_14, tk_0, tk_1, tk_2, tk_3, tk_4, tk_5, tk_6, tk_7, tk_8, cs_n, cs_i, cs_l, cs_r, cs_u, nl, rt_s, rt_n, CST1, Nat.reduceAdd, Nat.reduceLeDiff, va_rf, rtOk, Bool.false_eq_true, Bool.true_eq_false, if_false, if_true, ite_true, ite_false, true_and, and_true, eq_self, ne_eq, not_false_eq_true, not_true_eq_false, false_implies, true_implies, and_self, reduceCtorEq, Nat.reduceBEq, Bool.or_false, Bool.false_or, Bool.or_true, Bool.true_or, if1_0, if1_1, if1_01, one_01, zer_01, lg_cmp_ge, lg_cmp_le, lg_cmp_gt, lg_cmp_lt, lg_cmp_eq, Classical.not_not]
  exact hk
end H30b
