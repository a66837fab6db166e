/-! part 67: piece on both sides -/
section H67
variable {d n N T Q F : Nat} {mu : aM} {ro : aR} {sg σ : aS} {K : Option Value → aS → Prop} {tb rb : Nat → Nat}
def tcl (tb : Nat → Nat) (t a k : Nat) : Prop := (tb t ≤ a ∧ a ≤ tb t + 2) ∨ ((a = 58 ∨ a = 59) ∧ 80 * t ≤ k ∧ k < 80 * t + 79) ∨ ((a = 60 ∨ a = 61 ∨ a = 62) ∧ k = t)
theorem I_t1.cg {s s' : aS} {a t : Nat} (h : I_t1 s a t) (e0 : ∀ j, s' a j = s a j) (e1 : ∀ p, p < 79 → s' (a + 1) p = s (a + 1) p ∧ s' (a + 2) p = s (a + 2) p) (e5 : ∀ b, 55 ≤ b → b ≤ 62 → b ≠ 58 → b ≠ 59 → s' b t = s b t) (e8 : ∀ p, p < 79 → s' 58 (80 * t + p) = s 58 (80 * t + p) ∧ s' 59 (80 * t + p) = s 59 (80 * t + p)) : I_t1 s' a t := by
  obtain ⟨h0, h1, h2, h3, h5, h6, h7, ⟨e, q1, q2, q3, q4⟩, h9⟩ := h
  unfold I_t1
  rw [e0, e0, e0, e0, e0, e0, e0, e0, e5 55 (by omega) (by omega) (by omega) (by omega), e5 56 (by omega) (by omega) (by omega) (by omega), e5 57 (by omega) (by omega) (by omega) (by omega), e5 60 (by omega) (by omega) (by omega) (by omega), e5 61 (by omega) (by omega) (by omega) (by omega), e5 62 (by omega) (by omega) (by omega) (by omega)]
  refine ⟨h0, h1, h2, h3, h5, h6, h7, ⟨e, q1, q2, fun p z1 z2 => by rw [(e8 p z2).1]; exact q3 p z1 z2, ?_⟩, fun p hp => by rw [(e1 p hp).1, (e1 p hp).2, (e8 p hp).1, (e8 p hp).2]; exact h9 p hp⟩
  by_cases z : e = 0
  · exact Or.inl z
  · rw [(e8 (e - 1) (by omega)).1]
    exact Or.inr (q4.resolve_left z)
theorem pc_post {s s' : aS} {t : Nat} (hT : S_tk mu ro n T tb) (hR : S_rw mu ro n Q rb) (hD : S_ds T Q tb rb) (ht : t < T) (hI : I_tk s T tb) (hJ : I_rw s Q rb) (hF : I_fd s F T) (hH : I_sh s) (h : ∀ a k, reg a k ≠ 0 → ¬ tcl tb t a k → s' a k = s a k) (h1 : I_t1 s' (tb t) t) : I_sh s' ∧ I_tk s' T tb ∧ I_rw s' Q rb ∧ I_fd s' F T ∧ Fr [3] s s' := by
  obtain ⟨⟨i1, i2⟩, i3, i4, i5⟩ := hI
  have ta := (hT t ht).2.2.2.2.2.2.1
  have lo : ∀ a k, a < 55 → reg a k ≠ 0 → s' a k = s a k := fun a k ha hr => h a k hr (by unfold tcl; omega)
  have hi : ∀ a k, 63 ≤ a → a < 89 → reg a k ≠ 0 → s' a k = s a k := fun a k ha hb hr => h a k hr (by unfold tcl; omega)
  have fr : Fr [3] s s' := by
    intro a k q1 q2
    refine h a k q2 (fun z => q1 ?_)
    have : reg a k = 3 := by
      rcases z with ⟨z1, z2⟩ | ⟨rfl | rfl, -⟩ | ⟨rfl | rfl | rfl, -⟩
      · exact reg_9 (by omega)
      all_goals rfl
    rw [this]
    decide
  refine ⟨hH.fr2 (fun a k q => ?_), ⟨⟨by rw [lo 0 11 (by omega) (by decide)]; exact i1, by rw [lo 48 9 (by omega) (by decide)]; exact i2⟩, i3, fun u hu => ?_, fun u hu hu2 => ?_⟩, ?_, ?_, fr⟩
  · rcases q with q | q
    · exact fr a k (by rw [q]; decide) (by rw [q]; decide)
    · exact fr a k (by rw [q]; decide) (by rw [q]; decide)
  · by_cases e : u = t
    · rw [e]; exact h1
    · have hu9 := (hT u hu).2.2.2.2.2.2.1
      have dd := hD.1 u t hu ht e
      refine (i4 u hu).cg (fun j => h _ _ (by rw [reg_9 (by omega)]; decide) (by unfold tcl; omega)) (fun p hp => ⟨h _ _ (by rw [reg_9 (by omega)]; decide) (by unfold tcl; omega), h _ _ (by rw [reg_9 (by omega)]; decide) (by unfold tcl; omega)⟩) (fun b b1 b2 b3 b4 => h b u ?_ (by unfold tcl; omega)) (fun p hp => ⟨h 58 _ (by show (3 : Nat) ≠ 0; decide) (by unfold tcl; omega), h 59 _ (by show (3 : Nat) ≠ 0; decide) (by unfold tcl; omega)⟩)
      rcases (show b = 55 ∨ b = 56 ∨ b = 57 ∨ b = 60 ∨ b = 61 ∨ b = 62 by omega) with rfl | rfl | rfl | rfl | rfl | rfl <;> (show (3 : Nat) ≠ 0; decide)
  · obtain ⟨g1, g2, g3⟩ := i5 u hu hu2
    exact ⟨by rw [h 60 u (by show (3 : Nat) ≠ 0; decide) (by unfold tcl; omega)]; exact g1, by rw [h 61 u (by show (3 : Nat) ≠ 0; decide) (by unfold tcl; omega)]; exact g2, fun p hp => by rw [h 58 _ (by show (3 : Nat) ≠ 0; decide) (by unfold tcl; omega), h 59 _ (by show (3 : Nat) ≠ 0; decide) (by unfold tcl; omega)]; exact g3 p hp⟩
  · obtain ⟨⟨j1, j2⟩, j3, j4⟩ := hJ
    refine ⟨⟨by rw [lo 0 12 (by omega) (by decide)]; exact j1, by rw [lo 48 18 (by omega) (by decide)]; exact j2⟩, j3, fun r hr => ?_⟩
    obtain ⟨z, z1, z2, z3, z4, z5⟩ := j4 r hr
    have hb := (hR r hr).2.2.2.2.1
    have dd := hD.2.1 t r ht hr
    exact ⟨z, z1, z2, by rw [h _ _ (by rw [reg_9 (by omega)]; decide) (by unfold tcl; omega)]; exact z3, by rw [hi 63 r (by omega) (by omega) (by show (3 : Nat) ≠ 0; decide)]; exact z4, fun k hk => by rw [h (rb r + 1) k (by rw [reg_9 (by omega)]; decide) (by unfold tcl; omega), hi 64 _ (by omega) (by omega) (by show (3 : Nat) ≠ 0; decide)]; exact z5 k hk⟩
  · obtain ⟨⟨f1, f2⟩, f3, f4, f5⟩ := hF
    refine ⟨⟨by rw [lo 15 5 (by omega) (by decide)]; exact f1, by rw [lo 48 21 (by omega) (by decide)]; exact f2⟩, f3, fun f hf => ?_, fun f q1 q2 => by rw [lo 20 f (by omega) (by show (3 : Nat) ≠ 0; decide)]; exact f5 f q1 q2⟩
    obtain ⟨⟨u, u1, u2, u3, u4⟩, g⟩ := f4 f hf
    unfold I_f1
    rw [lo 16 f (by omega) (by show (3 : Nat) ≠ 0; decide), hi 65 f (by omega) (by omega) (by show (3 : Nat) ≠ 0; decide), lo 19 f (by omega) (by show (3 : Nat) ≠ 0; decide), hi 67 f (by omega) (by omega) (by show (3 : Nat) ≠ 0; decide), lo 20 f (by omega) (by show (3 : Nat) ≠ 0; decide), hi 68 f (by omega) (by omega) (by show (3 : Nat) ≠ 0; decide)]
    exact ⟨⟨u, u1, by rw [lo 17 f (by omega) (by show (3 : Nat) ≠ 0; decide)]; exact u2, by rw [hi 66 f (by omega) (by omega) (by show (3 : Nat) ≠ 0; decide)]; exact u3, by rw [lo 18 f (by omega) (by show (3 : Nat) ≠ 0; decide), h 56 u (by show (3 : Nat) ≠ 0; decide) (by unfold tcl; omega)]; exact u4⟩, g⟩
theorem pcV_cg {s s' : aS} {x y z k l i w r f : Int32} (h5 : s' 85 = s 85) (h6 : s' 86 = s 86) (h7 : s' 87 = s 87) : pcV s' T x y z k l i w r f ↔ pcV s T x y z k l i w r f := by
  unfold pcV clO
  rw [tkV_fr (s := s) (s' := s') (fun j => by rw [h5]) (fun j => by rw [h6]), h7]
theorem pcN_cg {s s' : aS} {x y z k l i w : Int32} {t pl k' i' w' fm to : Nat} (h5 : s' 85 = s 85) (h6 : s' 86 = s 86) (h7 : s' 87 = s 87) (h8 : s' 56 = s 56) (h9 : s' 57 = s 57) : pcN s' T x y z k l i w t pl k' i' w' fm to ↔ pcN s T x y z k l i w t pl k' i' w' fm to := by
  unfold pcN clO
  rw [tkV_fr (s := s) (s' := s') (fun j => by rw [h5]) (fun j => by rw [h6]), h7, h8, h9]
theorem pc_uq {s : aS} {x y z k l i w r f r' f' : Int32} (h : pcV s T x y z k l i w r f) (h' : pcV s T x y z k l i w r' f') : r = r' ∧ f = f' := by
  rcases h with ⟨a, rfl, rfl⟩ | ⟨a, b, rfl, rfl⟩ | ⟨a, b, c⟩ | ⟨a, b, c, e, rfl, rfl⟩ <;> rcases h' with ⟨a', rfl, rfl⟩ | ⟨a', b', rfl, rfl⟩ | ⟨a', b', c'⟩ | ⟨a', b', c', e', rfl, rfl⟩
  all_goals first | exact ⟨rfl, rfl⟩ | (exact absurd a a') | (exact absurd a' a) | (exact absurd b b') | (exact absurd b' b) | (have := Option.some.inj (c.symm.trans c'); exact ⟨congrArg Prod.fst this, congrArg Prod.snd this⟩) | (exact absurd (c.symm.trans c') (by simp))
theorem pc_ex {s : aS} {x y z k l i w r f : Int32} {t pl k' i' w' fm to : Nat} (h : pcV s T x y z k l i w r f) (h' : pcN s T x y z k l i w t pl k' i' w' fm to) : False := by
  obtain ⟨⟨a', b', c', e'⟩, -⟩ := h'
  rcases h with ⟨a, -⟩ | ⟨a, b, -⟩ | ⟨a, b, c⟩ | ⟨a, b, c, e, -⟩
  · exact a a'
  · exact b b'
  · rw [c] at c'; exact absurd c' (by simp)
  · exact e e'
theorem pcN_uq {s : aS} {x y z k l i w : Int32} {t pl k' i' w' fm to t2 pl2 k2 i2 w2 fm2 to2 : Nat} (hT8 : T ≤ 8) (h : pcN s T x y z k l i w t pl k' i' w' fm to) (h' : pcN s T x y z k l i w t2 pl2 k2 i2 w2 fm2 to2) : t = t2 ∧ pl = pl2 ∧ k' = k2 ∧ i' = i2 ∧ w' = w2 ∧ fm = fm2 ∧ to = to2 := by
  obtain ⟨-, a1, a2, a3, a4, a5, a6, a7, a8, a9, a10, a11, a12, a13, a14, a15, -⟩ := h
  obtain ⟨-, b1, b2, b3, b4, b5, b6, b7, b8, b9, b10, b11, b12, b13, b14, b15, -⟩ := h'
  have e1 : t = t2 := nI_inj (by omega) (by omega) a2 b2
  subst e1
  exact ⟨rfl, nI_inj (by omega) (by omega) a4 b4, nI_inj (by omega) (by omega) a6 b6, nI_inj (by omega) (by omega) a7 b7, nI_inj (by omega) (by omega) a8 b8, nI_inj (by omega) (by omega) a14 b14, nI_inj (by omega) (by omega) a15 b15⟩
theorem wp_cg {P : Nat → Nat → Bool} {wy wy' : Nat → Nat} {m : Nat} (h : ∀ k, k ≤ m → wy k = wy' k) : wpB P wy m = wpB P wy' m := by
  unfold wpB
  rw [Bool.eq_iff_iff, anB_t, anB_t]
  constructor
  · rintro ⟨y, y1, y2⟩; exact ⟨y, y1, by rw [← h y (by omega), ← h (y + 1) (by omega)]; exact y2⟩
  · rintro ⟨y, y1, y2⟩; exact ⟨y, y1, by rw [h y (by omega), h (y + 1) (by omega)]; exact y2⟩
end H67
