/-! part 40: sets that are held as bits (the first rows began as kit/laws/BITS.to-paste) -/
section H40
variable {d n N : Nat} {mu : aM} {ro : aR} {sg : aS} {K : Option Value → aS → Prop}
def bt (x : Int32) (i : Nat) : Bool := x.toBitVec.getLsbD i
theorem bx_ext {x y : Int32} (h : ∀ i, i < 32 → bt x i = bt y i) : x = y := Int32.toBitVec_inj.mp (BitVec.eq_of_getLsbD_eq (fun i hi => h i hi))
theorem bx_or (x y : Int32) (i : Nat) : bt (x ||| y) i = (bt x i || bt y i) := by unfold bt; rw [Int32.toBitVec_or, BitVec.getLsbD_or]
theorem bx_and (x y : Int32) (i : Nat) : bt (x &&& y) i = (bt x i && bt y i) := by unfold bt; rw [Int32.toBitVec_and, BitVec.getLsbD_and]
theorem bx_xor (x y : Int32) (i : Nat) : bt (x ^^^ y) i = (bt x i ^^ bt y i) := by unfold bt; rw [Int32.toBitVec_xor, BitVec.getLsbD_xor]
theorem bx_m1 : ∀ i, i < 32 → bt (-1) i = true := by decide +kernel
theorem bx_0 (i : Nat) : bt 0 i = false := BitVec.getLsbD_zero
theorem bx_1 : ∀ i, i < 32 → bt 1 i = decide (i = 0) := by decide +kernel
theorem bx_shl (n : Nat) (hn : n < 32) (x : Int32) {i : Nat} (hi : i < 32) : bt (x <<< (nI n &&& 31)) i = (decide (n ≤ i) && bt x (i - n)) := by
  unfold bt
  rw [Int32.toBitVec_shiftLeft]
  show (x.toBitVec <<< ((nI n &&& 31).toBitVec.smod 32).toNat).getLsbD i = _
  rw [s_l n hn, BitVec.getLsbD_shiftLeft]
  rcases Nat.lt_or_ge i n with h | h
  · simp [h, Nat.not_le.mpr h]
  · simp [hi, h, Nat.not_lt.mpr h]
theorem bx_sshr (n : Nat) (hn : n < 32) (x : Int32) {i : Nat} (hi : i < 32) : bt (x >>> (nI n &&& 31)) i = if n + i < 32 then bt x (n + i) else bt x 31 := by
  unfold bt
  rw [Int32.toBitVec_shiftRight]
  show (x.toBitVec.sshiftRight ((nI n &&& 31).toBitVec.smod 32).toNat).getLsbD i = _
  rw [s_l n hn, BitVec.getLsbD_sshiftRight, BitVec.msb_eq_getLsbD_last]
  simp [hi]
theorem bx_bit {b j : Nat} (hb : b < 32) (hj : j < 32) : bt (1 <<< (nI b &&& 31)) j = decide (j = b) := by
  rw [bx_shl b hb 1 hj, bx_1 (j - b) (by omega)]
  by_cases h : j = b
  · simp [h]
  · by_cases h2 : b ≤ j
    · rw [decide_eq_false (show ¬ j - b = 0 by omega), decide_eq_false h, Bool.and_false]
    · rw [decide_eq_false h2, decide_eq_false h, Bool.false_and]
/-- a number's bits are a set's -/
def rwO (w : Int32) (k : Nat) (f : Nat → Bool) : Prop := ∀ j, j < 32 → bt w j = (decide (j < k) && f j)
theorem rw_cg {w : Int32} {k : Nat} {f g : Nat → Bool} (h : rwO w k f) (hg : ∀ j, j < k → f j = g j) : rwO w k g := by
  intro j hj
  rw [h j hj]
  by_cases q : j < k
  · rw [hg j q]
  · rw [decide_eq_false q, Bool.false_and, Bool.false_and]
theorem rw_eq {w v : Int32} {k : Nat} {f g : Nat → Bool} (h : rwO w k f) (h2 : rwO v k g) (hg : ∀ j, j < k → f j = g j) : w = v := bx_ext (fun j hj => by rw [(rw_cg h hg) j hj, h2 j hj])
theorem rw_at {w : Int32} {k j : Nat} {f : Nat → Bool} (h : rwO w k f) (hj : j < k) (hk : k ≤ 32) : bt w j = f j := by
  rw [h j (by omega), decide_eq_true hj, Bool.true_and]
theorem rw_or {w v : Int32} {k : Nat} {f g : Nat → Bool} (h : rwO w k f) (h2 : rwO v k g) : rwO (w ||| v) k (fun j => f j || g j) := by
  intro j hj
  rw [bx_or, h j hj, h2 j hj]
  cases decide (j < k) <;> simp
theorem rw_and {w v : Int32} {k : Nat} {f g : Nat → Bool} (h : rwO w k f) (h2 : rwO v k g) : rwO (w &&& v) k (fun j => f j && g j) := by
  intro j hj
  rw [bx_and, h j hj, h2 j hj]
  cases decide (j < k) <;> simp
theorem rw_xor {w v : Int32} {k : Nat} {f g : Nat → Bool} (h : rwO w k f) (h2 : rwO v k g) : rwO (w ^^^ v) k (fun j => f j ^^ g j) := by
  intro j hj
  rw [bx_xor, h j hj, h2 j hj]
  cases decide (j < k) <;> simp
theorem rw_an {w v : Int32} {k : Nat} {f g : Nat → Bool} (h : rwO w k f) (h2 : rwO v k g) : rwO (w &&& (v ^^^ -1)) k (fun j => f j && !g j) := by
  intro j hj
  rw [bx_and, bx_xor, h j hj, h2 j hj, bx_m1 j hj]
  cases decide (j < k) <;> simp
theorem rw_bit {b k : Nat} (hb : b < k) (hk : k ≤ 32) : rwO (1 <<< (nI b &&& 31)) k (fun j => decide (j = b)) := by
  intro j hj
  rw [bx_bit (by omega) hj]
  show decide (j = b) = (decide (j < k) && decide (j = b))
  by_cases h : j = b
  · rw [decide_eq_true h, decide_eq_true (show j < k by omega)]; rfl
  · rw [decide_eq_false h, Bool.and_false]
theorem rw_m1 {w : Int32} {k : Nat} {f : Nat → Bool} (h : rwO w k f) : rwO (w &&& -1) k f := by
  intro j hj
  rw [bx_and, h j hj, bx_m1 j hj, Bool.and_true]
theorem rw_0 {k : Nat} : rwO 0 k (fun _ => false) := fun j _ => by rw [bx_0, Bool.and_false]
theorem rw_z {w : Int32} {k : Nat} {f : Nat → Bool} (h : rwO w k f) (hk : k ≤ 32) : w = 0 ↔ ∀ j, j < k → f j = false := by
  constructor
  · intro e j hj
    rw [← rw_at h hj hk, e, bx_0]
  · intro e
    exact rw_eq h rw_0 e
theorem bt_lsb {x : Int32} : x &&& 1 = 1 ↔ bt x 0 = true := by
  have e : bt (x &&& 1) 0 = bt x 0 := by rw [bx_and, bx_1 0 (by omega)]; simp
  rcases and1 x with q | q
  · rw [q, bx_0] at e
    rw [q, ← e]
    simp
  · rw [q, bx_1 0 (by omega)] at e
    rw [q, ← e]
    simp
theorem rw_bt {w : Int32} {k j : Nat} {f : Nat → Bool} (h : rwO w k f) (hj : j < k) (hk : k ≤ 31) : bt1 w (nI j) = (f j = true) := by
  unfold bt1
  rw [propext bt_lsb, bx_sshr j (by omega) w (by omega), if_pos (by omega), Nat.add_zero, rw_at h hj (by omega)]
theorem bt_nI {X j : Nat} (hX : X < 2 ^ 31) (hj : j < 31) : bt (nI X) j = decide (X / 2 ^ j % 2 = 1) := by
  have h1 := nb_bt (X := X) (j := j) hX (by omega)
  unfold bt1 at h1
  rw [bt_lsb, bx_sshr j (by omega) _ (by omega), if_pos (by omega), Nat.add_zero] at h1
  by_cases q : X / 2 ^ j % 2 = 1
  · rw [decide_eq_true q, h1.mpr q]
  · rw [decide_eq_false q, ← Bool.not_eq_true, h1]
    exact q
theorem bt_31 {x : Int32} (h : 0 ≤ x.toInt) : bt x 31 = false := by
  have : x.toBitVec.msb = false := by
    rw [BitVec.msb_eq_false_iff_two_mul_lt]
    have h2 : x.toInt = x.toBitVec.toInt := rfl
    rw [h2] at h
    rw [BitVec.toInt_eq_toNat_cond] at h
    split at h
    · omega
    · have := x.toBitVec.isLt
      omega
  rw [BitVec.msb_eq_getLsbD_last] at this
  exact this
/-- a number that is small enough is a set -/
theorem rw_of {w : Int32} {k : Nat} (hk : k ≤ 30) (h0 : 0 ≤ w.toInt) (h1 : w.toInt < 2 ^ k) : rwO w k (bt w) := by
  intro j hj
  by_cases q : j < k
  · rw [decide_eq_true q, Bool.true_and]
  · rw [decide_eq_false q, Bool.false_and]
    by_cases q31 : j = 31
    · subst q31
      exact bt_31 h0
    · obtain ⟨X, hX⟩ : ∃ X : Nat, (X : Int) = w.toInt := ⟨w.toInt.toNat, by omega⟩
      have hp : (2 : Int) ^ k ≤ 2 ^ 30 := by
        have : (2 : Nat) ^ k ≤ 2 ^ 30 := Nat.pow_le_pow_right (by omega) hk
        exact_mod_cast this
      have e : w = nI X := i_eq.mpr (by rw [nI_toInt (by omega)]; omega)
      rw [e, bt_nI (by omega) (by omega)]
      have h2 : X < 2 ^ k := by
        have : (X : Int) < ((2 ^ k : Nat) : Int) := by rw [hX]; simpa using h1
        exact_mod_cast this
      have h3 : (2 : Nat) ^ k ≤ 2 ^ j := Nat.pow_le_pow_right (by omega) (by omega)
      rw [Nat.div_eq_of_lt (by omega)]
      decide
end H40
