/-! part 13: the invariant between the class's memory and the reference's -/
def i_bw (x : Int32) (lo hi : Int) : Prop := lo ≤ x.toInt ∧ x.toInt ≤ hi
/-- a number that is kept on both sides, as a count -/
def i_nr (x y : Int32) (N : Nat) : Prop := x = nI N ∧ y = nI N
def I_sh1 (s : aS) (a b k : Nat) : Prop := (s a 1 = 0 ∧ s 85 k = -1) ∨ (s a 1 = 1 ∧ s a 3 = s 85 k ∧ i_bw (s 85 k) 0 60 ∧ s a 2 = s 86 k ∧ i_bw (s 86 k) 0 2 ∧ ∀ i : Nat, (i : Int) < (s 85 k).toInt → s b i = s 87 (60 * k + i))
def I_sh (s : aS) : Prop := s 0 14 = s 48 0 ∧ I_sh1 s 40 41 0 ∧ I_sh1 s 42 43 1 ∧ I_sh1 s 44 45 2 ∧ I_sh1 s 46 47 3
def I_tr (s : aS) : Prop := s 0 13 = s 48 54
def cntB (p : Nat → Bool) : Nat → Nat
  | 0 => 0
  | m + 1 => cntB p m + (if p m = true then 1 else 0)
def I_kp (s : aS) (N : Nat) : Prop := (∀ j, j < 40 → s 36 j = s 82 j ∧ i_bw (s 82 j) (-9) 999) ∧ i_nr (s 35 3) (s 48 47) N ∧ N ≤ 60 ∧ ∀ k, k < 4 → s 37 k = nI (cntB (fun j => s 83 j == nI k) N) ∧ s 38 k = nI (cntB (fun j => s 83 j == nI k && s 84 j == 0) N)
def I_hr (s : aS) : Prop := (∀ j, j < 140 → s 24 j = s 70 j ∧ i_bw (s 70 j) 0 999) ∧ ∀ m, m < 10 → s 25 m = s 71 m ∧ i_bw (s 71 m) 0 3
def I_sk (s : aS) (N : Nat) : Prop := (∀ j, j < 48 → s 27 j = s 72 j) ∧ i_nr (s 26 3) (s 48 33) N ∧ N ≤ 200 ∧ (∀ j, j < N → s 28 j = s 73 j ∧ i_bw (s 73 j) 0 9999 ∧ s 29 j = s 74 j) ∧ ∀ j, N ≤ j → j < 200 → s 29 j = 0
def I_wk (s : aS) (N : Nat) : Prop := i_nr (s 9 3) (s 48 42) N ∧ N ≤ 8 ∧ ∀ j, j < N → s 10 j = s 79 j ∧ i_bw (s 79 j) 0 9 ∧ s 11 j = s 80 j ∧ i_bw (s 80 j) 0 9 ∧ s 12 j = s 81 j ∧ i_bw (s 81 j) 1 99
/-- the trap: a tree; state j is come to by one row alone -/
def I_tp (s : aS) (N : Nat) : Prop := i_nr (s 30 4) (s 48 36) N ∧ 1 ≤ N ∧ N ≤ 16 ∧ s 30 5 = s 48 39 ∧ (∀ j, j < 16 → s 33 j = s 76 j ∧ i_bw (s 76 j) 0 99)
  ∧ (∀ x, x < 64 → (s 75 x = -9 ∧ s 31 x = 0) ∨ ∃ j, x / 4 < j ∧ j < N ∧ s 75 x = nI j ∧ s 31 x = nI j ∧ s 32 j = nI (x % 4)) ∧ (∀ x y, x < 64 → y < 64 → s 75 x = s 75 y → 0 ≤ (s 75 x).toInt → x = y)
