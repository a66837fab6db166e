/-! part 46: who can be come to: sets by steps, and how far each one lies -/
section H46
def anB (p : Nat → Bool) : Nat → Bool
  | 0 => false
  | m + 1 => anB p m || p m
theorem anB_t {p : Nat → Bool} : ∀ m, anB p m = true ↔ ∃ y, y < m ∧ p y = true
  | 0 => ⟨fun h => absurd h (by simp [anB]), fun ⟨_, h, _⟩ => absurd h (by omega)⟩
  | m + 1 => by
    rw [anB, Bool.or_eq_true, anB_t m]
    constructor
    · rintro (⟨y, h1, h2⟩ | h)
      · exact ⟨y, by omega, h2⟩
      · exact ⟨m, by omega, h⟩
    · rintro ⟨y, h1, h2⟩
      by_cases q : y = m
      · subst q; exact Or.inr h2
      · exact Or.inl ⟨y, by omega, h2⟩
theorem anB_f {p : Nat → Bool} {m : Nat} : anB p m = false ↔ ∀ y, y < m → p y = false := by
  rw [← Bool.not_eq_true, anB_t]
  constructor
  · intro h y hy
    rw [← Bool.not_eq_true]
    exact fun z => h ⟨y, hy, z⟩
  · rintro h ⟨y, hy, z⟩
    rw [h y hy] at z
    exact absurd z (by decide)
/-- come to in at most k steps -/
def stB (E : Nat → Nat → Bool) (A : Nat → Bool) : Nat → Nat → Bool
  | 0, x => A x
  | k + 1, x => stB E A k x || anB (fun y => stB E A k y && E y x) 10
variable {E : Nat → Nat → Bool} {A B : Nat → Bool}
theorem st_s {k x : Nat} : stB E A (k + 1) x = true ↔ stB E A k x = true ∨ ∃ y, y < 10 ∧ stB E A k y = true ∧ E y x = true := by
  rw [stB, Bool.or_eq_true, anB_t]
  constructor
  · rintro (h | ⟨y, h1, h2⟩)
    · exact Or.inl h
    · rw [Bool.and_eq_true] at h2
      exact Or.inr ⟨y, h1, h2.1, h2.2⟩
  · rintro (h | ⟨y, h1, h2, h3⟩)
    · exact Or.inl h
    · exact Or.inr ⟨y, h1, by rw [Bool.and_eq_true]; exact ⟨h2, h3⟩⟩
theorem st_mo {k x : Nat} (h : stB E A k x = true) : ∀ m, stB E A (k + m) x = true
  | 0 => h
  | m + 1 => st_s.mpr (Or.inl (st_mo h m))
theorem st_le {k l x : Nat} (h : stB E A k x = true) (hl : k ≤ l) : stB E A l x = true := by
  have := st_mo h (l - k)
  rw [show k + (l - k) = l by omega] at this
  exact this
theorem st_fix {r : Nat} (h : ∀ y x, y < 10 → x < 10 → stB E A r y = true → E y x = true → stB E A r x = true) : ∀ m x, x < 10 → stB E A (r + m) x = stB E A r x
  | 0, _, _ => rfl
  | m + 1, x, hx => by
    have e := st_fix h m
    cases q : stB E A r x with
    | true => exact st_mo q (m + 1)
    | false =>
      rw [← Bool.not_eq_true]
      intro z
      rcases (st_s (k := r + m)).mp z with z | ⟨y, y1, y2, y3⟩
      · rw [e x hx, q] at z
        exact absurd z (by decide)
      · rw [e y y1] at y2
        rw [h y x y1 hx y2 y3] at q
        exact absurd q (by decide)
/-- from a set one comes to what one comes to from one of its members -/
theorem st_un {k x : Nat} (hx : x < 10) : stB E A k x = true ↔ ∃ m, m < 10 ∧ A m = true ∧ stB E (fun y => decide (y = m)) k x = true := by
  induction k generalizing x with
  | zero =>
    constructor
    · intro h
      exact ⟨x, hx, h, decide_eq_true rfl⟩
    · rintro ⟨m, h1, h2, h3⟩
      have : x = m := of_decide_eq_true h3
      rw [this]
      exact h2
  | succ k ih =>
    rw [st_s]
    constructor
    · rintro (h | ⟨y, y1, y2, y3⟩)
      · obtain ⟨m, h1, h2, h3⟩ := (ih hx).mp h
        exact ⟨m, h1, h2, st_s.mpr (Or.inl h3)⟩
      · obtain ⟨m, h1, h2, h3⟩ := (ih y1).mp y2
        exact ⟨m, h1, h2, st_s.mpr (Or.inr ⟨y, y1, h3, y3⟩)⟩
    · rintro ⟨m, h1, h2, h3⟩
      rcases st_s.mp h3 with h3 | ⟨y, y1, y2, y3⟩
      · exact Or.inl ((ih hx).mpr ⟨m, h1, h2, h3⟩)
      · exact Or.inr ⟨y, y1, (ih y1).mpr ⟨m, h1, h2, y2⟩, y3⟩
theorem st_cg {E' : Nat → Nat → Bool} (h : ∀ a b, a < 10 → b < 10 → E a b = E' a b) (hA : ∀ x, x < 10 → A x = B x) : ∀ k x, x < 10 → stB E A k x = stB E' B k x
  | 0, x, hx => hA x hx
  | k + 1, x, hx => by
    have e := st_cg h hA k
    rw [Bool.eq_iff_iff, st_s, st_s, e x hx]
    constructor
    · rintro (q | ⟨y, y1, y2, y3⟩)
      · exact Or.inl q
      · exact Or.inr ⟨y, y1, by rw [← e y y1]; exact y2, by rw [← h y x y1 hx]; exact y3⟩
    · rintro (q | ⟨y, y1, y2, y3⟩)
      · exact Or.inl q
      · exact Or.inr ⟨y, y1, by rw [e y y1]; exact y2, by rw [h y x y1 hx]; exact y3⟩
-- the class goes on from what is fresh alone
def frI (E : Nat → Nat → Bool) (A F : Nat → Bool) (r : Nat) : Prop := (∀ x, x < 10 → F x = true → stB E A r x = true) ∧ ∀ y x, y < 10 → x < 10 → stB E A r y = true → F y = false → E y x = true → stB E A r x = true
theorem fr_s {F : Nat → Bool} {r : Nat} (h : frI E A F r) : (∀ x, x < 10 → (stB E A r x || anB (fun y => F y && E y x) 10) = stB E A (r + 1) x) ∧ frI E A (fun x => anB (fun y => F y && E y x) 10 && !stB E A r x) (r + 1) := by
  obtain ⟨h1, h2⟩ := h
  have key : ∀ x, x < 10 → (stB E A r x || anB (fun y => F y && E y x) 10) = stB E A (r + 1) x := by
    intro x hx
    rw [Bool.eq_iff_iff, st_s, Bool.or_eq_true, anB_t]
    constructor
    · rintro (q | ⟨y, y1, y2⟩)
      · exact Or.inl q
      · rw [Bool.and_eq_true] at y2
        exact Or.inr ⟨y, y1, h1 y y1 y2.1, y2.2⟩
    · rintro (q | ⟨y, y1, y2, y3⟩)
      · exact Or.inl q
      · cases q : F y with
        | true => exact Or.inr ⟨y, y1, by rw [q, y3]; rfl⟩
        | false => exact Or.inl (h2 y x y1 hx y2 q y3)
  refine ⟨key, fun x hx q => ?_, fun y x hy hx q1 q2 q3 => ?_⟩
  · rw [Bool.and_eq_true] at q
    rw [← key x hx, q.1, Bool.or_true]
  · rw [← key y hy, Bool.or_eq_true] at q1
    have q4 : stB E A r y = true := by
      rcases q1 with q1 | q1
      · exact q1
      · have q5 : (anB (fun z => F z && E z y) 10 && !stB E A r y) = false := q2
        rw [q1, Bool.true_and] at q5
        cases z : stB E A r y with
        | true => rfl
        | false => rw [z] at q5; exact absurd q5 (by decide)
    exact st_s.mpr (Or.inr ⟨y, hy, q4, q3⟩)
theorem fr_e {F : Nat → Bool} {r : Nat} (h : frI E A F r) (h0 : ∀ x, x < 10 → F x = false) (hr : r ≤ 10) : ∀ x, x < 10 → stB E A r x = stB E A 10 x := by
  intro x hx
  have := st_fix (E := E) (A := A) (r := r) (fun y x y1 hx y2 y3 => h.2 y x y1 hx y2 (h0 y y1) y3) (10 - r) x hx
  rw [show r + (10 - r) = 10 by omega] at this
  exact this.symm
-- how far
def Lv (E : Nat → Nat → Bool) (A : Nat → Bool) (l x : Nat) : Prop := stB E A l x = true ∧ ∀ k, k < l → stB E A k x = false
theorem Lv_uq {l k x : Nat} (h : Lv E A l x) (h2 : Lv E A k x) : l = k := by
  rcases Nat.lt_trichotomy l k with q | q | q
  · have := h2.2 l q
    rw [h.1] at this
    exact absurd this (by decide)
  · exact q
  · have := h.2 k q
    rw [h2.1] at this
    exact absurd this (by decide)
def faI (E : Nat → Nat → Bool) (A : Nat → Bool) (f : Nat → Int32) (r a b : Nat) : Prop := ∀ x, x < 10 → (∃ l, l ≤ r ∧ f x = nI l ∧ Lv E A l x) ∨ (f x = nI (r + 1) ∧ stB E A r x = false ∧ ∃ y, y < 10 ∧ Lv E A r y ∧ E y x = true ∧ (y < a ∨ (y = a ∧ x < b))) ∨ (f x = -9 ∧ stB E A r x = false ∧ ∀ y, y < 10 → Lv E A r y → E y x = true → ¬ (y < a ∨ (y = a ∧ x < b)))
def farI (E : Nat → Nat → Bool) (A : Nat → Bool) (f : Nat → Int32) : Prop := ∀ x, x < 10 → (∃ l, l ≤ 10 ∧ f x = nI l ∧ Lv E A l x) ∨ (f x = -9 ∧ stB E A 10 x = false)
theorem fa_0 {f : Nat → Int32} {a : Nat} (h : ∀ x, x < 10 → f x = if x = a then 0 else -9) : faI E (fun y => decide (y = a)) f 0 0 0 := by
  intro x hx
  rw [h x hx]
  by_cases q : x = a
  · rw [if_pos q]
    exact Or.inl ⟨0, Nat.le_refl 0, rfl, decide_eq_true q, fun k hk => absurd hk (by omega)⟩
  · rw [if_neg q]
    exact Or.inr (Or.inr ⟨rfl, decide_eq_false q, fun y _ _ _ z => by omega⟩)
theorem fa_at {f : Nat → Int32} {r a b x : Nat} (h : faI E A f r a b) (hr : r ≤ 10) (hx : x < 10) : (f x = nI r ↔ Lv E A r x) ∧ (f x = -9 ∨ ∃ l, l ≤ r + 1 ∧ f x = nI l) := by
  rcases h x hx with ⟨l, l1, l2, l3⟩ | ⟨l1, l2, y, y1, y2, y3, y4⟩ | ⟨l1, l2, l3⟩
  · refine ⟨⟨fun z => ?_, fun z => ?_⟩, Or.inr ⟨l, by omega, l2⟩⟩
    · have : l = r := (nI_eq (by omega) (by omega)).mp (l2.symm.trans z)
      rw [← this]; exact l3
    · rw [l2, Lv_uq l3 z]
  · refine ⟨⟨fun z => ?_, fun z => ?_⟩, Or.inr ⟨r + 1, by omega, l1⟩⟩
    · have : r + 1 = r := (nI_eq (by omega) (by omega)).mp (l1.symm.trans z)
      omega
    · rw [z.1] at l2
      exact absurd l2 (by decide)
  · refine ⟨⟨fun z => ?_, fun z => ?_⟩, Or.inl l1⟩
    · rw [l1] at z
      have := nI_toInt (n := r) (by omega)
      rw [← z] at this
      have h9 : (-9 : Int32).toInt = -9 := by decide
      omega
    · rw [z.1] at l2
      exact absurd l2 (by decide)
/-- one look from a at b -/
theorem fa_b {f g : Nat → Int32} {r a b : Nat} (hr : r ≤ 10) (h : faI E A f r a b) (ha : a < 10) (hb : b < 10) (hL : Lv E A r a) (hg : ∀ x, x ≠ b → g x = f x) (hg2 : g b = if f b = -9 ∧ E a b = true then nI (r + 1) else f b) : faI E A g r a (b + 1) := by
  intro x hx
  by_cases q : x = b
  · subst q
    rw [hg2]
    rcases h x hx with ⟨l, l1, l2, l3⟩ | ⟨l1, l2, y, y1, y2, y3, y4⟩ | ⟨l1, l2, l3⟩
    · have n9 : ¬ f x = -9 := by
        rw [l2, nI_n9 (by omega)]
        exact fun z => z
      rw [if_neg (fun z => n9 z.1)]
      exact Or.inl ⟨l, l1, l2, l3⟩
    · by_cases z : f x = -9 ∧ E a x = true
      · rw [if_pos z]
        exact Or.inr (Or.inl ⟨rfl, l2, y, y1, y2, y3, by omega⟩)
      · rw [if_neg z]
        exact Or.inr (Or.inl ⟨l1, l2, y, y1, y2, y3, by omega⟩)
    · by_cases z : E a x = true
      · rw [if_pos ⟨l1, z⟩]
        exact Or.inr (Or.inl ⟨rfl, l2, a, ha, hL, z, Or.inr ⟨rfl, by omega⟩⟩)
      · rw [if_neg (fun y => z y.2)]
        refine Or.inr (Or.inr ⟨l1, l2, fun y y1 y2 y3 y4 => ?_⟩)
        by_cases q2 : y = a
        · subst q2; exact z y3
        · exact l3 y y1 y2 y3 (by omega)
  · rw [hg x q]
    rcases h x hx with ⟨l, l1, l2, l3⟩ | ⟨l1, l2, y, y1, y2, y3, y4⟩ | ⟨l1, l2, l3⟩
    · exact Or.inl ⟨l, l1, l2, l3⟩
    · exact Or.inr (Or.inl ⟨l1, l2, y, y1, y2, y3, by omega⟩)
    · exact Or.inr (Or.inr ⟨l1, l2, fun y y1 y2 y3 y4 => l3 y y1 y2 y3 (by omega)⟩)
theorem fa_a {f : Nat → Int32} {r a : Nat} (h : faI E A f r a 10) : faI E A f r (a + 1) 0 := by
  intro x hx
  rcases h x hx with ⟨l, l1, l2, l3⟩ | ⟨l1, l2, y, y1, y2, y3, y4⟩ | ⟨l1, l2, l3⟩
  · exact Or.inl ⟨l, l1, l2, l3⟩
  · exact Or.inr (Or.inl ⟨l1, l2, y, y1, y2, y3, by omega⟩)
  · exact Or.inr (Or.inr ⟨l1, l2, fun y y1 y2 y3 y4 => l3 y y1 y2 y3 (by omega)⟩)
theorem fa_n {f : Nat → Int32} {r a : Nat} (h : faI E A f r a 0) (hL : ¬ Lv E A r a) : faI E A f r (a + 1) 0 := by
  intro x hx
  rcases h x hx with ⟨l, l1, l2, l3⟩ | ⟨l1, l2, y, y1, y2, y3, y4⟩ | ⟨l1, l2, l3⟩
  · exact Or.inl ⟨l, l1, l2, l3⟩
  · exact Or.inr (Or.inl ⟨l1, l2, y, y1, y2, y3, by omega⟩)
  · refine Or.inr (Or.inr ⟨l1, l2, fun y y1 y2 y3 y4 => ?_⟩)
    by_cases q2 : y = a
    · subst q2; exact hL y2
    · exact l3 y y1 y2 y3 (by omega)
theorem fa_r {f : Nat → Int32} {r : Nat} (h : faI E A f r 10 0) : faI E A f (r + 1) 0 0 := by
  intro x hx
  rcases h x hx with ⟨l, l1, l2, l3⟩ | ⟨l1, l2, y, y1, y2, y3, y4⟩ | ⟨l1, l2, l3⟩
  · exact Or.inl ⟨l, by omega, l2, l3⟩
  · refine Or.inl ⟨r + 1, by omega, l1, st_s.mpr (Or.inr ⟨y, y1, y2.1, y3⟩), fun k hk => ?_⟩
    rw [← Bool.not_eq_true]
    intro z
    rw [st_le z (show k ≤ r by omega)] at l2
    exact absurd l2 (by decide)
  · refine Or.inr (Or.inr ⟨l1, ?_, fun y _ _ _ z => by omega⟩)
    rw [← Bool.not_eq_true]
    intro z
    rcases st_s.mp z with z | ⟨y, y1, y2, y3⟩
    · rw [z] at l2
      exact absurd l2 (by decide)
    · by_cases q : ∀ k, k < r → stB E A k y = false
      · exact l3 y y1 ⟨y2, q⟩ y3 (by omega)
      · refine q (fun k hk => ?_)
        rw [← Bool.not_eq_true]
        intro u
        have : stB E A (k + 1) x = true := st_s.mpr (Or.inr ⟨y, y1, u, y3⟩)
        rw [st_le this (show k + 1 ≤ r by omega)] at l2
        exact absurd l2 (by decide)
theorem fa_e {f : Nat → Int32} (h : faI E A f 10 0 0) : farI E A f := by
  intro x hx
  rcases h x hx with ⟨l, l1, l2, l3⟩ | ⟨l1, l2, y, y1, y2, y3, y4⟩ | ⟨l1, l2, l3⟩
  · exact Or.inl ⟨l, l1, l2, l3⟩
  · exfalso; omega
  · exact Or.inr ⟨l1, l2⟩
theorem far_uq {f g : Nat → Int32} (h : farI E A f) (h2 : farI E A g) : ∀ x, x < 10 → f x = g x := by
  intro x hx
  rcases h x hx with ⟨l, l1, l2, l3⟩ | ⟨l1, l2⟩
  · rcases h2 x hx with ⟨k, k1, k2, k3⟩ | ⟨k1, k2⟩
    · rw [l2, k2, Lv_uq l3 k3]
    · rw [st_le l3.1 l1] at k2
      exact absurd k2 (by decide)
  · rcases h2 x hx with ⟨k, k1, k2, k3⟩ | ⟨k1, k2⟩
    · rw [st_le k3.1 k1] at l2
      exact absurd l2 (by decide)
    · rw [l1, k1]
theorem far_ge {f : Nat → Int32} (h : farI E A f) {x : Nat} (hx : x < 10) : (f x < 0) = (stB E A 10 x = false) := by
  rcases h x hx with ⟨l, l1, l2, l3⟩ | ⟨l1, l2⟩
  · rw [l2, nI_lt0 (by omega), st_le l3.1 l1]
    exact (eq_false (by decide)).symm
  · rw [l1, l2]
    exact (eq_true (by decide)).trans (eq_true rfl).symm
end H46
