/-! part 27x: to prune a road that isn't gone -/
theorem im_T {p q : Prop} (h : p = True) : (p → q) = q := by subst h; exact propext ⟨fun z => z trivial, fun z _ => z⟩
theorem im_TN {p q : Prop} (h : p = True) : (¬ p → q) = True := by subst h; exact propext ⟨fun _ => trivial, fun _ z => absurd trivial z⟩
theorem im_F {p q : Prop} (h : p = False) : (p → q) = True := by subst h; exact propext ⟨fun _ => trivial, fun _ z => z.elim⟩
theorem im_FN {p q : Prop} (h : p = False) : (¬ p → q) = q := by subst h; exact propext ⟨fun z => z (fun y => y), fun z _ => z⟩
