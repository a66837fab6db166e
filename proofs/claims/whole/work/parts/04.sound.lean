theorem lg_has {ls : Array Slot} {mL B i : Nat} {L : List Value} {v : Value} (hl : lv_has ls mL (aLf B L)) (h : lg L i = v) (hv : nf v = true) : ls[i]? = some (.val (cv B v)) := by
  have h1 : L[i]? = some v := by
    unfold lg at h
    rw [List.getD_eq_getElem?_getD] at h
    cases hq : L[i]? with
    | none => rw [hq] at h; simp at h; subst h; simp [nf] at hv
    | some w => rw [hq] at h; simp at h; rw [h]
  exact hl.2.2 (i, cv B v) (aLf_mem.mpr ⟨i, v, h1, hv, rfl⟩)
theorem pv_ok {L : List Value} {i : Nat} (h : pv L i = true) : ∀ j w, j + 1 = i → L[j]? = some w → nl w = true := by
  intro j w hj hw
  subst hj
  simpa [pv, lg, List.getD_eq_getElem?_getD, hw] using h
theorem ptF_spec {K : aS → Prop} {mu : aM} {sg : aS} {a : Nat} {x : Int32} {q : Option (Nat × Nat × Nat × Bool)} (h : ptF K mu sg a x q) : ∃ ci k, q = some (ci, k, 1, false) ∧ (mu a).1 = 10 + ci ∧ (isBo (tyN ci k) = true → b01 x) ∧ K (s2 sg a k x) := by
  unfold ptF at h
  split at h
  · exact ⟨_, _, rfl, h⟩
  · exact h.elim
theorem ptL_spec {K : aS → Prop} {mu : aM} {sg : aS} {a : Nat} {x : Int64} {q : Option (Nat × Nat × Nat × Bool)} (h : ptL K mu sg a x q) : ∃ ci k, q = some (ci, k, 2, false) ∧ (mu a).1 = 10 + ci ∧ K (s2l sg a k x) := by
  unfold ptL at h
  split at h
  · exact ⟨_, _, rfl, h⟩
  · exact h.elim
theorem gtF_spec {K : Value → Prop} {mu : aM} {ro : aR} {sg : aS} {a : Nat} {q : Option (Nat × Nat × Nat × Bool)} (h : gtF K mu ro sg a q) : ∃ ci k kd f, q = some (ci, k, kd, f) ∧ (mu a).1 = 10 + ci ∧ ((kd = 1 ∧ K (.int (sg a k))) ∨ (kd = 0 ∧ K (va_rf (ro a k))) ∨ (kd = 2 ∧ K (.long (jl (sg a (100 + k)) (sg a (200 + k)))))) := by
  unfold gtF at h
  split at h
  · exact ⟨_, _, _, _, rfl, h.1, Or.inl ⟨rfl, h.2⟩⟩
  · exact ⟨_, _, _, _, rfl, h.1, Or.inr (Or.inl ⟨rfl, h.2⟩)⟩
  · exact ⟨_, _, _, _, rfl, h.1, Or.inr (Or.inr ⟨rfl, h.2⟩)⟩
  · exact h.elim
theorem narrow_I {ty : FieldType} {x : Int32} (h : kdT ty = 1) (hb : isBo ty = true → b01 x) : narrow ty (.int x) = .int x ∧ fits ty (.int x) = true := by
  cases ty with
  | int => exact ⟨rfl, rfl⟩
  | boolean => rcases hb rfl with rfl | rfl <;> exact ⟨by decide, by decide⟩
  | _ => simp [kdT] at h

section SND
variable {G : aG} {mL d n0 o n nc ns pc : Nat} {cc : ByteArray} {mu : aM} {ro : aR} {sg : aS} {L st : List Value} {K : Nat → List Value → List Value → aS → Prop} {Rt : Option Value → aS → Prop}

theorem sv_iconst (hC : Cx G mL d n0 o cc) (hL : L.length ≤ mL) (hK : ∀ pc L st sg, L.length ≤ mL → K pc L st sg → AW G mL n nc ns mu ro sg pc L st) {c : Int} (hd : dk cc pc = some (.iconst c)) (h : vcI K Rt o d n mu ro pc L st sg (.iconst c)) : AW G mL n nc ns mu ro sg pc L st := by
  obtain ⟨⟨p, l, e, R, s, m⟩, ⟨args, below, meth, c⟩, ⟨D, dA, B⟩, Q⟩ := G
  obtain ⟨hx, hb, hml, hown, hts, hlk, hk, hz, h0, hf, hlo⟩ := hC
  intro H locs ls hP hS hl
  have hdd := dk_1 hd rfl
  simp only [vcI] at h
  exact lv_iconst hx hb hdd rfl (hK _ _ _ _ hL h H locs ls hP hS hl)

theorem sv_bipush (hC : Cx G mL d n0 o cc) (hL : L.length ≤ mL) (hK : ∀ pc L st sg, L.length ≤ mL → K pc L st sg → AW G mL n nc ns mu ro sg pc L st) {c : Int} (hd : dk cc pc = some (.bipush c)) (h : vcI K Rt o d n mu ro pc L st sg (.bipush c)) : AW G mL n nc ns mu ro sg pc L st := by
  obtain ⟨⟨p, l, e, R, s, m⟩, ⟨args, below, meth, c⟩, ⟨D, dA, B⟩, Q⟩ := G
  obtain ⟨hx, hb, hml, hown, hts, hlk, hk, hz, h0, hf, hlo⟩ := hC
  intro H locs ls hP hS hl
  have hdd := dk_1 hd rfl
  simp only [vcI] at h
  exact lv_bipush hx hb hdd rfl (hK _ _ _ _ hL h H locs ls hP hS hl)

theorem sv_sipush (hC : Cx G mL d n0 o cc) (hL : L.length ≤ mL) (hK : ∀ pc L st sg, L.length ≤ mL → K pc L st sg → AW G mL n nc ns mu ro sg pc L st) {c : Int} (hd : dk cc pc = some (.sipush c)) (h : vcI K Rt o d n mu ro pc L st sg (.sipush c)) : AW G mL n nc ns mu ro sg pc L st := by
  obtain ⟨⟨p, l, e, R, s, m⟩, ⟨args, below, meth, c⟩, ⟨D, dA, B⟩, Q⟩ := G
  obtain ⟨hx, hb, hml, hown, hts, hlk, hk, hz, h0, hf, hlo⟩ := hC
  intro H locs ls hP hS hl
  have hdd := dk_1 hd rfl
  simp only [vcI] at h
  exact lv_sipush hx hb hdd rfl (hK _ _ _ _ hL h H locs ls hP hS hl)

theorem sv_lconst (hC : Cx G mL d n0 o cc) (hL : L.length ≤ mL) (hK : ∀ pc L st sg, L.length ≤ mL → K pc L st sg → AW G mL n nc ns mu ro sg pc L st) {c : Fin 2} (hd : dk cc pc = some (.lconst c)) (h : vcI K Rt o d n mu ro pc L st sg (.lconst c)) : AW G mL n nc ns mu ro sg pc L st := by
  obtain ⟨⟨p, l, e, R, s, m⟩, ⟨args, below, meth, c⟩, ⟨D, dA, B⟩, Q⟩ := G
  obtain ⟨hx, hb, hml, hown, hts, hlk, hk, hz, h0, hf, hlo⟩ := hC
  intro H locs ls hP hS hl
  have hdd := dk_1 hd rfl
  simp only [vcI] at h
  exact lv_lconst hx hb hdd rfl (hK _ _ _ _ hL h H locs ls hP hS hl)

theorem sv_null (hC : Cx G mL d n0 o cc) (hL : L.length ≤ mL) (hK : ∀ pc L st sg, L.length ≤ mL → K pc L st sg → AW G mL n nc ns mu ro sg pc L st) (hd : dk cc pc = some (.aconst_null)) (h : vcI K Rt o d n mu ro pc L st sg (.aconst_null)) : AW G mL n nc ns mu ro sg pc L st := by
  obtain ⟨⟨p, l, e, R, s, m⟩, ⟨args, below, meth, c⟩, ⟨D, dA, B⟩, Q⟩ := G
  obtain ⟨hx, hb, hml, hown, hts, hlk, hk, hz, h0, hf, hlo⟩ := hC
  intro H locs ls hP hS hl
  have hdd := dk_1 hd rfl
  simp only [vcI] at h
  exact lv_null hx hb hdd (hK _ _ _ _ hL h H locs ls hP hS hl)

theorem sv_ldc (hC : Cx G mL d n0 o cc) (hL : L.length ≤ mL) (hK : ∀ pc L st sg, L.length ≤ mL → K pc L st sg → AW G mL n nc ns mu ro sg pc L st) {i : Nat} (hd : dk cc pc = some (.ldc i)) (h : vcI K Rt o d n mu ro pc L st sg (.ldc i)) : AW G mL n nc ns mu ro sg pc L st := by
  obtain ⟨⟨p, l, e, R, s, m⟩, ⟨args, below, meth, c⟩, ⟨D, dA, B⟩, Q⟩ := G
  obtain ⟨hx, hb, hml, hown, hts, hlk, hk, hz, h0, hf, hlo⟩ := hC
  intro H locs ls hP hS hl
  have hdd := dk_1 hd rfl
  simp only [vcI] at h
  split at h
  · next v hv => exact lv_ldc hx hb hown (hts _ (kres_ok hv)) hdd (hK _ _ _ _ hL h H locs ls hP hS hl)
  · exact h.elim

theorem sv_ldcw (hC : Cx G mL d n0 o cc) (hL : L.length ≤ mL) (hK : ∀ pc L st sg, L.length ≤ mL → K pc L st sg → AW G mL n nc ns mu ro sg pc L st) {i : Nat} (hd : dk cc pc = some (.ldc_w i)) (h : vcI K Rt o d n mu ro pc L st sg (.ldc_w i)) : AW G mL n nc ns mu ro sg pc L st := by
  obtain ⟨⟨p, l, e, R, s, m⟩, ⟨args, below, meth, c⟩, ⟨D, dA, B⟩, Q⟩ := G
  obtain ⟨hx, hb, hml, hown, hts, hlk, hk, hz, h0, hf, hlo⟩ := hC
  intro H locs ls hP hS hl
  have hdd := dk_1 hd rfl
  simp only [vcI] at h
  split at h
  · next v hv => exact lv_ldcw hx hb hown (hts _ (kres_ok hv)) hdd (hK _ _ _ _ hL h H locs ls hP hS hl)
  · exact h.elim

theorem sv_ldc2 (hC : Cx G mL d n0 o cc) (hL : L.length ≤ mL) (hK : ∀ pc L st sg, L.length ≤ mL → K pc L st sg → AW G mL n nc ns mu ro sg pc L st) {i : Nat} (hd : dk cc pc = some (.ldc2_w i)) (h : vcI K Rt o d n mu ro pc L st sg (.ldc2_w i)) : AW G mL n nc ns mu ro sg pc L st := by
  obtain ⟨⟨p, l, e, R, s, m⟩, ⟨args, below, meth, c⟩, ⟨D, dA, B⟩, Q⟩ := G
  obtain ⟨hx, hb, hml, hown, hts, hlk, hk, hz, h0, hf, hlo⟩ := hC
  intro H locs ls hP hS hl
  have hdd := dk_1 hd rfl
  simp only [vcI] at h
  split at h
  · next v hv => exact lv_ldc2 hx hb hown (hts _ (lres_ok hv)) hdd (hK _ _ _ _ hL h H locs ls hP hS hl)
  · exact h.elim

theorem sv_iload_n (hC : Cx G mL d n0 o cc) (hL : L.length ≤ mL) (hK : ∀ pc L st sg, L.length ≤ mL → K pc L st sg → AW G mL n nc ns mu ro sg pc L st) {i : Fin 4} (hd : dk cc pc = some (.iload_n i)) (h : vcI K Rt o d n mu ro pc L st sg (.iload_n i)) : AW G mL n nc ns mu ro sg pc L st := by
  obtain ⟨⟨p, l, e, R, s, m⟩, ⟨args, below, meth, c⟩, ⟨D, dA, B⟩, Q⟩ := G
  obtain ⟨hx, hb, hml, hown, hts, hlk, hk, hz, h0, hf, hlo⟩ := hC
  intro H locs ls hP hS hl
  have hdd := dk_1 hd rfl
  simp only [vcI] at h
  split at h
  · next x hv => exact lv_iload_n hx hb hdd rfl (lg_has hl hv rfl) (hK _ _ _ _ hL h H locs ls hP hS hl)
  · exact h.elim

theorem sv_iload (hC : Cx G mL d n0 o cc) (hL : L.length ≤ mL) (hK : ∀ pc L st sg, L.length ≤ mL → K pc L st sg → AW G mL n nc ns mu ro sg pc L st) {i : Nat} (hd : dk cc pc = some (.iload i)) (h : vcI K Rt o d n mu ro pc L st sg (.iload i)) : AW G mL n nc ns mu ro sg pc L st := by
  obtain ⟨⟨p, l, e, R, s, m⟩, ⟨args, below, meth, c⟩, ⟨D, dA, B⟩, Q⟩ := G
  obtain ⟨hx, hb, hml, hown, hts, hlk, hk, hz, h0, hf, hlo⟩ := hC
  intro H locs ls hP hS hl
  have hdd := dk_1 hd rfl
  simp only [vcI] at h
  split at h
  · next x hv => exact lv_iload hx hb hdd (lg_has hl hv rfl) (hK _ _ _ _ hL h H locs ls hP hS hl)
  · exact h.elim

theorem sv_lload_n (hC : Cx G mL d n0 o cc) (hL : L.length ≤ mL) (hK : ∀ pc L st sg, L.length ≤ mL → K pc L st sg → AW G mL n nc ns mu ro sg pc L st) {i : Fin 4} (hd : dk cc pc = some (.lload_n i)) (h : vcI K Rt o d n mu ro pc L st sg (.lload_n i)) : AW G mL n nc ns mu ro sg pc L st := by
  obtain ⟨⟨p, l, e, R, s, m⟩, ⟨args, below, meth, c⟩, ⟨D, dA, B⟩, Q⟩ := G
  obtain ⟨hx, hb, hml, hown, hts, hlk, hk, hz, h0, hf, hlo⟩ := hC
  intro H locs ls hP hS hl
  have hdd := dk_1 hd rfl
  simp only [vcI] at h
  split at h
  · next x hv => exact lv_lload_n hx hb hdd rfl (lg_has hl hv rfl) (hK _ _ _ _ hL h H locs ls hP hS hl)
  · exact h.elim

theorem sv_lload (hC : Cx G mL d n0 o cc) (hL : L.length ≤ mL) (hK : ∀ pc L st sg, L.length ≤ mL → K pc L st sg → AW G mL n nc ns mu ro sg pc L st) {i : Nat} (hd : dk cc pc = some (.lload i)) (h : vcI K Rt o d n mu ro pc L st sg (.lload i)) : AW G mL n nc ns mu ro sg pc L st := by
  obtain ⟨⟨p, l, e, R, s, m⟩, ⟨args, below, meth, c⟩, ⟨D, dA, B⟩, Q⟩ := G
  obtain ⟨hx, hb, hml, hown, hts, hlk, hk, hz, h0, hf, hlo⟩ := hC
  intro H locs ls hP hS hl
  have hdd := dk_1 hd rfl
  simp only [vcI] at h
  split at h
  · next x hv => exact lv_lload hx hb hdd (lg_has hl hv rfl) (hK _ _ _ _ hL h H locs ls hP hS hl)
  · exact h.elim

theorem sv_aload_n (hC : Cx G mL d n0 o cc) (hL : L.length ≤ mL) (hK : ∀ pc L st sg, L.length ≤ mL → K pc L st sg → AW G mL n nc ns mu ro sg pc L st) {i : Fin 4} (hd : dk cc pc = some (.aload_n i)) (h : vcI K Rt o d n mu ro pc L st sg (.aload_n i)) : AW G mL n nc ns mu ro sg pc L st := by
  obtain ⟨⟨p, l, e, R, s, m⟩, ⟨args, below, meth, c⟩, ⟨D, dA, B⟩, Q⟩ := G
  obtain ⟨hx, hb, hml, hown, hts, hlk, hk, hz, h0, hf, hlo⟩ := hC
  intro H locs ls hP hS hl
  have hdd := dk_1 hd rfl
  simp only [vcI] at h
  split at h
  · next x hv => exact lv_aload_n hx hb hdd rfl (lg_has hl hv rfl) (hK _ _ _ _ hL h H locs ls hP hS hl)
  · next hv => exact lv_aload_nN hx hb hdd rfl (lg_has hl hv rfl) (hK _ _ _ _ hL h H locs ls hP hS hl)
  · exact h.elim

theorem sv_aload (hC : Cx G mL d n0 o cc) (hL : L.length ≤ mL) (hK : ∀ pc L st sg, L.length ≤ mL → K pc L st sg → AW G mL n nc ns mu ro sg pc L st) {i : Nat} (hd : dk cc pc = some (.aload i)) (h : vcI K Rt o d n mu ro pc L st sg (.aload i)) : AW G mL n nc ns mu ro sg pc L st := by
  obtain ⟨⟨p, l, e, R, s, m⟩, ⟨args, below, meth, c⟩, ⟨D, dA, B⟩, Q⟩ := G
  obtain ⟨hx, hb, hml, hown, hts, hlk, hk, hz, h0, hf, hlo⟩ := hC
  intro H locs ls hP hS hl
  have hdd := dk_1 hd rfl
  simp only [vcI] at h
  split at h
  · next x hv => exact lv_aload hx hb hdd (lg_has hl hv rfl) (hK _ _ _ _ hL h H locs ls hP hS hl)
  · next hv => exact lv_aloadN hx hb hdd (lg_has hl hv rfl) (hK _ _ _ _ hL h H locs ls hP hS hl)
  · exact h.elim

theorem sv_istore_n (hC : Cx G mL d n0 o cc) (hL : L.length ≤ mL) (hK : ∀ pc L st sg, L.length ≤ mL → K pc L st sg → AW G mL n nc ns mu ro sg pc L st) {i : Fin 4} (hd : dk cc pc = some (.istore_n i)) (h : vcI K Rt o d n mu ro pc L st sg (.istore_n i)) : AW G mL n nc ns mu ro sg pc L st := by
  obtain ⟨⟨p, l, e, R, s, m⟩, ⟨args, below, meth, c⟩, ⟨D, dA, B⟩, Q⟩ := G
  obtain ⟨hx, hb, hml, hown, hts, hlk, hk, hz, h0, hf, hlo⟩ := hC
  intro H locs ls hP hS hl
  have hdd := dk_1 hd rfl
  simp only [vcI] at h
  split at h
  · exact lv_istore_n hx hb hdd rfl hl (Nat.lt_of_lt_of_le h.2.1 hL) rfl (fun ls1 hl1 => hK _ _ _ _ (by rw [List.length_set]; exact hL) h.2.2 H locs ls1 hP hS (aLf_set h.2.1 (pv_ok h.1) hl1))
  · exact h.elim

theorem sv_istore (hC : Cx G mL d n0 o cc) (hL : L.length ≤ mL) (hK : ∀ pc L st sg, L.length ≤ mL → K pc L st sg → AW G mL n nc ns mu ro sg pc L st) {i : Nat} (hd : dk cc pc = some (.istore i)) (h : vcI K Rt o d n mu ro pc L st sg (.istore i)) : AW G mL n nc ns mu ro sg pc L st := by
  obtain ⟨⟨p, l, e, R, s, m⟩, ⟨args, below, meth, c⟩, ⟨D, dA, B⟩, Q⟩ := G
  obtain ⟨hx, hb, hml, hown, hts, hlk, hk, hz, h0, hf, hlo⟩ := hC
  intro H locs ls hP hS hl
  have hdd := dk_1 hd rfl
  simp only [vcI] at h
  split at h
  · exact lv_istore hx hb hdd hl (Nat.lt_of_lt_of_le h.2.1 hL) rfl (fun ls1 hl1 => hK _ _ _ _ (by rw [List.length_set]; exact hL) h.2.2 H locs ls1 hP hS (aLf_set h.2.1 (pv_ok h.1) hl1))
  · exact h.elim

theorem sv_lstore_n (hC : Cx G mL d n0 o cc) (hL : L.length ≤ mL) (hK : ∀ pc L st sg, L.length ≤ mL → K pc L st sg → AW G mL n nc ns mu ro sg pc L st) {i : Fin 4} (hd : dk cc pc = some (.lstore_n i)) (h : vcI K Rt o d n mu ro pc L st sg (.lstore_n i)) : AW G mL n nc ns mu ro sg pc L st := by
  obtain ⟨⟨p, l, e, R, s, m⟩, ⟨args, below, meth, c⟩, ⟨D, dA, B⟩, Q⟩ := G
  obtain ⟨hx, hb, hml, hown, hts, hlk, hk, hz, h0, hf, hlo⟩ := hC
  intro H locs ls hP hS hl
  have hdd := dk_1 hd rfl
  simp only [vcI] at h
  split at h
  · exact lv_lstore_n hx hb hdd rfl hl (Nat.lt_of_lt_of_le h.2.1 hL) rfl (fun ls1 hl1 => hK _ _ _ _ (by rw [List.length_set, List.length_set]; exact hL) h.2.2 H locs ls1 hP hS (aLf_set2 (Nat.lt_of_succ_lt h.2.1) (pv_ok h.1) hl1))
  · exact h.elim

theorem sv_lstore (hC : Cx G mL d n0 o cc) (hL : L.length ≤ mL) (hK : ∀ pc L st sg, L.length ≤ mL → K pc L st sg → AW G mL n nc ns mu ro sg pc L st) {i : Nat} (hd : dk cc pc = some (.lstore i)) (h : vcI K Rt o d n mu ro pc L st sg (.lstore i)) : AW G mL n nc ns mu ro sg pc L st := by
  obtain ⟨⟨p, l, e, R, s, m⟩, ⟨args, below, meth, c⟩, ⟨D, dA, B⟩, Q⟩ := G
  obtain ⟨hx, hb, hml, hown, hts, hlk, hk, hz, h0, hf, hlo⟩ := hC
  intro H locs ls hP hS hl
  have hdd := dk_1 hd rfl
  simp only [vcI] at h
  split at h
  · exact lv_lstore hx hb hdd hl (Nat.lt_of_lt_of_le h.2.1 hL) rfl (fun ls1 hl1 => hK _ _ _ _ (by rw [List.length_set, List.length_set]; exact hL) h.2.2 H locs ls1 hP hS (aLf_set2 (Nat.lt_of_succ_lt h.2.1) (pv_ok h.1) hl1))
  · exact h.elim

theorem sv_astore_n (hC : Cx G mL d n0 o cc) (hL : L.length ≤ mL) (hK : ∀ pc L st sg, L.length ≤ mL → K pc L st sg → AW G mL n nc ns mu ro sg pc L st) {i : Fin 4} (hd : dk cc pc = some (.astore_n i)) (h : vcI K Rt o d n mu ro pc L st sg (.astore_n i)) : AW G mL n nc ns mu ro sg pc L st := by
  obtain ⟨⟨p, l, e, R, s, m⟩, ⟨args, below, meth, c⟩, ⟨D, dA, B⟩, Q⟩ := G
  obtain ⟨hx, hb, hml, hown, hts, hlk, hk, hz, h0, hf, hlo⟩ := hC
  intro H locs ls hP hS hl
  have hdd := dk_1 hd rfl
  simp only [vcI] at h
  split at h
  · exact lv_astore_n hx hb hdd rfl hl (Nat.lt_of_lt_of_le h.2.1 hL) rfl (fun ls1 hl1 => hK _ _ _ _ (by rw [List.length_set]; exact hL) h.2.2 H locs ls1 hP hS (aLf_set h.2.1 (pv_ok h.1) hl1))
  · exact lv_astore_nN hx hb hdd rfl hl (Nat.lt_of_lt_of_le h.2.1 hL) rfl (fun ls1 hl1 => hK _ _ _ _ (by rw [List.length_set]; exact hL) h.2.2 H locs ls1 hP hS (aLf_set h.2.1 (pv_ok h.1) hl1))
  · exact h.elim

theorem sv_astore (hC : Cx G mL d n0 o cc) (hL : L.length ≤ mL) (hK : ∀ pc L st sg, L.length ≤ mL → K pc L st sg → AW G mL n nc ns mu ro sg pc L st) {i : Nat} (hd : dk cc pc = some (.astore i)) (h : vcI K Rt o d n mu ro pc L st sg (.astore i)) : AW G mL n nc ns mu ro sg pc L st := by
  obtain ⟨⟨p, l, e, R, s, m⟩, ⟨args, below, meth, c⟩, ⟨D, dA, B⟩, Q⟩ := G
  obtain ⟨hx, hb, hml, hown, hts, hlk, hk, hz, h0, hf, hlo⟩ := hC
  intro H locs ls hP hS hl
  have hdd := dk_1 hd rfl
  simp only [vcI] at h
  split at h
  · exact lv_astore hx hb hdd hl (Nat.lt_of_lt_of_le h.2.1 hL) rfl (fun ls1 hl1 => hK _ _ _ _ (by rw [List.length_set]; exact hL) h.2.2 H locs ls1 hP hS (aLf_set h.2.1 (pv_ok h.1) hl1))
  · exact lv_astoreN hx hb hdd hl (Nat.lt_of_lt_of_le h.2.1 hL) rfl (fun ls1 hl1 => hK _ _ _ _ (by rw [List.length_set]; exact hL) h.2.2 H locs ls1 hP hS (aLf_set h.2.1 (pv_ok h.1) hl1))
  · exact h.elim

theorem sv_iinc (hC : Cx G mL d n0 o cc) (hL : L.length ≤ mL) (hK : ∀ pc L st sg, L.length ≤ mL → K pc L st sg → AW G mL n nc ns mu ro sg pc L st) {i : Nat} {c : Int} (hd : dk cc pc = some (.iinc i c)) (h : vcI K Rt o d n mu ro pc L st sg (.iinc i c)) : AW G mL n nc ns mu ro sg pc L st := by
  obtain ⟨⟨p, l, e, R, s, m⟩, ⟨args, below, meth, c⟩, ⟨D, dA, B⟩, Q⟩ := G
  obtain ⟨hx, hb, hml, hown, hts, hlk, hk, hz, h0, hf, hlo⟩ := hC
  intro H locs ls hP hS hl
  have hdd := dk_1 hd rfl
  simp only [vcI] at h
  split at h
  · next x hv =>
    have hm : (i, Value.int x) ∈ aLf B L := by
      have h1 : L[i]? = some (.int x) := by
        unfold lg at hv
        rw [List.getD_eq_getElem?_getD] at hv
        cases hq : L[i]? with
        | none => rw [hq] at hv; simp at hv
        | some w => rw [hq] at hv; simp at hv; rw [hv]
      exact aLf_mem.mpr ⟨i, .int x, h1, rfl, rfl⟩
    obtain ⟨k, hk9⟩ := List.getElem?_of_mem hm
    exact lv_iinc hx hb hdd hl hk9 rfl (Nat.lt_of_lt_of_le h.2.1 hL) rfl (fun ls1 hl1 => hK _ _ _ _ (by rw [List.length_set]; exact hL) h.2.2 H locs ls1 hP hS (aLf_set h.2.1 (pv_ok h.1) hl1))
  · exact h.elim

theorem sv_iadd (hC : Cx G mL d n0 o cc) (hL : L.length ≤ mL) (hK : ∀ pc L st sg, L.length ≤ mL → K pc L st sg → AW G mL n nc ns mu ro sg pc L st) (hd : dk cc pc = some (.iadd)) (h : vcI K Rt o d n mu ro pc L st sg (.iadd)) : AW G mL n nc ns mu ro sg pc L st := by
  obtain ⟨⟨p, l, e, R, s, m⟩, ⟨args, below, meth, c⟩, ⟨D, dA, B⟩, Q⟩ := G
  obtain ⟨hx, hb, hml, hown, hts, hlk, hk, hz, h0, hf, hlo⟩ := hC
  intro H locs ls hP hS hl
  have hdd := dk_1 hd rfl
  simp only [vcI] at h
  split at h
  · exact lv_iadd hx hb hdd (hK _ _ _ _ hL h H locs ls hP hS hl)
  · exact h.elim

theorem sv_isub (hC : Cx G mL d n0 o cc) (hL : L.length ≤ mL) (hK : ∀ pc L st sg, L.length ≤ mL → K pc L st sg → AW G mL n nc ns mu ro sg pc L st) (hd : dk cc pc = some (.isub)) (h : vcI K Rt o d n mu ro pc L st sg (.isub)) : AW G mL n nc ns mu ro sg pc L st := by
  obtain ⟨⟨p, l, e, R, s, m⟩, ⟨args, below, meth, c⟩, ⟨D, dA, B⟩, Q⟩ := G
  obtain ⟨hx, hb, hml, hown, hts, hlk, hk, hz, h0, hf, hlo⟩ := hC
  intro H locs ls hP hS hl
  have hdd := dk_1 hd rfl
  simp only [vcI] at h
  split at h
  · exact lv_isub hx hb hdd (hK _ _ _ _ hL h H locs ls hP hS hl)
  · exact h.elim

theorem sv_imul (hC : Cx G mL d n0 o cc) (hL : L.length ≤ mL) (hK : ∀ pc L st sg, L.length ≤ mL → K pc L st sg → AW G mL n nc ns mu ro sg pc L st) (hd : dk cc pc = some (.imul)) (h : vcI K Rt o d n mu ro pc L st sg (.imul)) : AW G mL n nc ns mu ro sg pc L st := by
  obtain ⟨⟨p, l, e, R, s, m⟩, ⟨args, below, meth, c⟩, ⟨D, dA, B⟩, Q⟩ := G
  obtain ⟨hx, hb, hml, hown, hts, hlk, hk, hz, h0, hf, hlo⟩ := hC
  intro H locs ls hP hS hl
  have hdd := dk_1 hd rfl
  simp only [vcI] at h
  split at h
  · exact lv_imul hx hb hdd (hK _ _ _ _ hL h H locs ls hP hS hl)
  · exact h.elim

theorem sv_iand (hC : Cx G mL d n0 o cc) (hL : L.length ≤ mL) (hK : ∀ pc L st sg, L.length ≤ mL → K pc L st sg → AW G mL n nc ns mu ro sg pc L st) (hd : dk cc pc = some (.iand)) (h : vcI K Rt o d n mu ro pc L st sg (.iand)) : AW G mL n nc ns mu ro sg pc L st := by
  obtain ⟨⟨p, l, e, R, s, m⟩, ⟨args, below, meth, c⟩, ⟨D, dA, B⟩, Q⟩ := G
  obtain ⟨hx, hb, hml, hown, hts, hlk, hk, hz, h0, hf, hlo⟩ := hC
  intro H locs ls hP hS hl
  have hdd := dk_1 hd rfl
  simp only [vcI] at h
  split at h
  · exact lv_iand hx hb hdd (hK _ _ _ _ hL h H locs ls hP hS hl)
  · exact h.elim

theorem sv_ior (hC : Cx G mL d n0 o cc) (hL : L.length ≤ mL) (hK : ∀ pc L st sg, L.length ≤ mL → K pc L st sg → AW G mL n nc ns mu ro sg pc L st) (hd : dk cc pc = some (.ior)) (h : vcI K Rt o d n mu ro pc L st sg (.ior)) : AW G mL n nc ns mu ro sg pc L st := by
  obtain ⟨⟨p, l, e, R, s, m⟩, ⟨args, below, meth, c⟩, ⟨D, dA, B⟩, Q⟩ := G
  obtain ⟨hx, hb, hml, hown, hts, hlk, hk, hz, h0, hf, hlo⟩ := hC
  intro H locs ls hP hS hl
  have hdd := dk_1 hd rfl
  simp only [vcI] at h
  split at h
  · exact lv_ior hx hb hdd (hK _ _ _ _ hL h H locs ls hP hS hl)
  · exact h.elim

theorem sv_ixor (hC : Cx G mL d n0 o cc) (hL : L.length ≤ mL) (hK : ∀ pc L st sg, L.length ≤ mL → K pc L st sg → AW G mL n nc ns mu ro sg pc L st) (hd : dk cc pc = some (.ixor)) (h : vcI K Rt o d n mu ro pc L st sg (.ixor)) : AW G mL n nc ns mu ro sg pc L st := by
  obtain ⟨⟨p, l, e, R, s, m⟩, ⟨args, below, meth, c⟩, ⟨D, dA, B⟩, Q⟩ := G
  obtain ⟨hx, hb, hml, hown, hts, hlk, hk, hz, h0, hf, hlo⟩ := hC
  intro H locs ls hP hS hl
  have hdd := dk_1 hd rfl
  simp only [vcI] at h
  split at h
  · exact lv_ixor hx hb hdd (hK _ _ _ _ hL h H locs ls hP hS hl)
  · exact h.elim

theorem sv_ishl (hC : Cx G mL d n0 o cc) (hL : L.length ≤ mL) (hK : ∀ pc L st sg, L.length ≤ mL → K pc L st sg → AW G mL n nc ns mu ro sg pc L st) (hd : dk cc pc = some (.ishl)) (h : vcI K Rt o d n mu ro pc L st sg (.ishl)) : AW G mL n nc ns mu ro sg pc L st := by
  obtain ⟨⟨p, l, e, R, s, m⟩, ⟨args, below, meth, c⟩, ⟨D, dA, B⟩, Q⟩ := G
  obtain ⟨hx, hb, hml, hown, hts, hlk, hk, hz, h0, hf, hlo⟩ := hC
  intro H locs ls hP hS hl
  have hdd := dk_1 hd rfl
  simp only [vcI] at h
  split at h
  · exact lv_ishl hx hb hdd (hK _ _ _ _ hL h H locs ls hP hS hl)
  · exact h.elim

theorem sv_ishr (hC : Cx G mL d n0 o cc) (hL : L.length ≤ mL) (hK : ∀ pc L st sg, L.length ≤ mL → K pc L st sg → AW G mL n nc ns mu ro sg pc L st) (hd : dk cc pc = some (.ishr)) (h : vcI K Rt o d n mu ro pc L st sg (.ishr)) : AW G mL n nc ns mu ro sg pc L st := by
  obtain ⟨⟨p, l, e, R, s, m⟩, ⟨args, below, meth, c⟩, ⟨D, dA, B⟩, Q⟩ := G
  obtain ⟨hx, hb, hml, hown, hts, hlk, hk, hz, h0, hf, hlo⟩ := hC
  intro H locs ls hP hS hl
  have hdd := dk_1 hd rfl
  simp only [vcI] at h
  split at h
  · exact lv_ishr hx hb hdd (hK _ _ _ _ hL h H locs ls hP hS hl)
  · exact h.elim

theorem sv_ladd (hC : Cx G mL d n0 o cc) (hL : L.length ≤ mL) (hK : ∀ pc L st sg, L.length ≤ mL → K pc L st sg → AW G mL n nc ns mu ro sg pc L st) (hd : dk cc pc = some (.ladd)) (h : vcI K Rt o d n mu ro pc L st sg (.ladd)) : AW G mL n nc ns mu ro sg pc L st := by
  obtain ⟨⟨p, l, e, R, s, m⟩, ⟨args, below, meth, c⟩, ⟨D, dA, B⟩, Q⟩ := G
  obtain ⟨hx, hb, hml, hown, hts, hlk, hk, hz, h0, hf, hlo⟩ := hC
  intro H locs ls hP hS hl
  have hdd := dk_1 hd rfl
  simp only [vcI] at h
  split at h
  · exact lv_ladd hx hb hdd (hK _ _ _ _ hL h H locs ls hP hS hl)
  · exact h.elim

theorem sv_lsub (hC : Cx G mL d n0 o cc) (hL : L.length ≤ mL) (hK : ∀ pc L st sg, L.length ≤ mL → K pc L st sg → AW G mL n nc ns mu ro sg pc L st) (hd : dk cc pc = some (.lsub)) (h : vcI K Rt o d n mu ro pc L st sg (.lsub)) : AW G mL n nc ns mu ro sg pc L st := by
  obtain ⟨⟨p, l, e, R, s, m⟩, ⟨args, below, meth, c⟩, ⟨D, dA, B⟩, Q⟩ := G
  obtain ⟨hx, hb, hml, hown, hts, hlk, hk, hz, h0, hf, hlo⟩ := hC
  intro H locs ls hP hS hl
  have hdd := dk_1 hd rfl
  simp only [vcI] at h
  split at h
  · exact lv_lsub hx hb hdd (hK _ _ _ _ hL h H locs ls hP hS hl)
  · exact h.elim

theorem sv_land (hC : Cx G mL d n0 o cc) (hL : L.length ≤ mL) (hK : ∀ pc L st sg, L.length ≤ mL → K pc L st sg → AW G mL n nc ns mu ro sg pc L st) (hd : dk cc pc = some (.land)) (h : vcI K Rt o d n mu ro pc L st sg (.land)) : AW G mL n nc ns mu ro sg pc L st := by
  obtain ⟨⟨p, l, e, R, s, m⟩, ⟨args, below, meth, c⟩, ⟨D, dA, B⟩, Q⟩ := G
  obtain ⟨hx, hb, hml, hown, hts, hlk, hk, hz, h0, hf, hlo⟩ := hC
  intro H locs ls hP hS hl
  have hdd := dk_1 hd rfl
  simp only [vcI] at h
  split at h
  · exact lv_land hx hb hdd (hK _ _ _ _ hL h H locs ls hP hS hl)
  · exact h.elim

theorem sv_lor (hC : Cx G mL d n0 o cc) (hL : L.length ≤ mL) (hK : ∀ pc L st sg, L.length ≤ mL → K pc L st sg → AW G mL n nc ns mu ro sg pc L st) (hd : dk cc pc = some (.lor)) (h : vcI K Rt o d n mu ro pc L st sg (.lor)) : AW G mL n nc ns mu ro sg pc L st := by
  obtain ⟨⟨p, l, e, R, s, m⟩, ⟨args, below, meth, c⟩, ⟨D, dA, B⟩, Q⟩ := G
  obtain ⟨hx, hb, hml, hown, hts, hlk, hk, hz, h0, hf, hlo⟩ := hC
  intro H locs ls hP hS hl
  have hdd := dk_1 hd rfl
  simp only [vcI] at h
  split at h
  · exact lv_lor hx hb hdd (hK _ _ _ _ hL h H locs ls hP hS hl)
  · exact h.elim

theorem sv_iushr (hC : Cx G mL d n0 o cc) (hL : L.length ≤ mL) (hK : ∀ pc L st sg, L.length ≤ mL → K pc L st sg → AW G mL n nc ns mu ro sg pc L st) (hd : dk cc pc = some (.iushr)) (h : vcI K Rt o d n mu ro pc L st sg (.iushr)) : AW G mL n nc ns mu ro sg pc L st := by
  obtain ⟨⟨p, l, e, R, s, m⟩, ⟨args, below, meth, c⟩, ⟨D, dA, B⟩, Q⟩ := G
  obtain ⟨hx, hb, hml, hown, hts, hlk, hk, hz, h0, hf, hlo⟩ := hC
  intro H locs ls hP hS hl
  have hdd := dk_1 hd rfl
  simp only [vcI] at h
  split at h
  · exact lv_iushr hx hb hdd rfl (hK _ _ _ _ hL h H locs ls hP hS hl)
  · exact h.elim

theorem sv_lshl (hC : Cx G mL d n0 o cc) (hL : L.length ≤ mL) (hK : ∀ pc L st sg, L.length ≤ mL → K pc L st sg → AW G mL n nc ns mu ro sg pc L st) (hd : dk cc pc = some (.lshl)) (h : vcI K Rt o d n mu ro pc L st sg (.lshl)) : AW G mL n nc ns mu ro sg pc L st := by
  obtain ⟨⟨p, l, e, R, s, m⟩, ⟨args, below, meth, c⟩, ⟨D, dA, B⟩, Q⟩ := G
  obtain ⟨hx, hb, hml, hown, hts, hlk, hk, hz, h0, hf, hlo⟩ := hC
  intro H locs ls hP hS hl
  have hdd := dk_1 hd rfl
  simp only [vcI] at h
  split at h
  · exact lv_lshl hx hb hdd rfl (hK _ _ _ _ hL h H locs ls hP hS hl)
  · exact h.elim

theorem sv_lshr (hC : Cx G mL d n0 o cc) (hL : L.length ≤ mL) (hK : ∀ pc L st sg, L.length ≤ mL → K pc L st sg → AW G mL n nc ns mu ro sg pc L st) (hd : dk cc pc = some (.lshr)) (h : vcI K Rt o d n mu ro pc L st sg (.lshr)) : AW G mL n nc ns mu ro sg pc L st := by
  obtain ⟨⟨p, l, e, R, s, m⟩, ⟨args, below, meth, c⟩, ⟨D, dA, B⟩, Q⟩ := G
  obtain ⟨hx, hb, hml, hown, hts, hlk, hk, hz, h0, hf, hlo⟩ := hC
  intro H locs ls hP hS hl
  have hdd := dk_1 hd rfl
  simp only [vcI] at h
  split at h
  · exact lv_lshr hx hb hdd rfl (hK _ _ _ _ hL h H locs ls hP hS hl)
  · exact h.elim

theorem sv_i2l (hC : Cx G mL d n0 o cc) (hL : L.length ≤ mL) (hK : ∀ pc L st sg, L.length ≤ mL → K pc L st sg → AW G mL n nc ns mu ro sg pc L st) (hd : dk cc pc = some (.i2l)) (h : vcI K Rt o d n mu ro pc L st sg (.i2l)) : AW G mL n nc ns mu ro sg pc L st := by
  obtain ⟨⟨p, l, e, R, s, m⟩, ⟨args, below, meth, c⟩, ⟨D, dA, B⟩, Q⟩ := G
  obtain ⟨hx, hb, hml, hown, hts, hlk, hk, hz, h0, hf, hlo⟩ := hC
  intro H locs ls hP hS hl
  have hdd := dk_1 hd rfl
  simp only [vcI] at h
  split at h
  · exact lv_i2l hx hb hdd rfl (hK _ _ _ _ hL h H locs ls hP hS hl)
  · exact h.elim

theorem sv_i2b (hC : Cx G mL d n0 o cc) (hL : L.length ≤ mL) (hK : ∀ pc L st sg, L.length ≤ mL → K pc L st sg → AW G mL n nc ns mu ro sg pc L st) (hd : dk cc pc = some (.i2b)) (h : vcI K Rt o d n mu ro pc L st sg (.i2b)) : AW G mL n nc ns mu ro sg pc L st := by
  obtain ⟨⟨p, l, e, R, s, m⟩, ⟨args, below, meth, c⟩, ⟨D, dA, B⟩, Q⟩ := G
  obtain ⟨hx, hb, hml, hown, hts, hlk, hk, hz, h0, hf, hlo⟩ := hC
  intro H locs ls hP hS hl
  have hdd := dk_1 hd rfl
  simp only [vcI] at h
  split at h
  · exact lv_i2b hx hb hdd rfl (hK _ _ _ _ hL h H locs ls hP hS hl)
  · exact h.elim

theorem sv_i2s (hC : Cx G mL d n0 o cc) (hL : L.length ≤ mL) (hK : ∀ pc L st sg, L.length ≤ mL → K pc L st sg → AW G mL n nc ns mu ro sg pc L st) (hd : dk cc pc = some (.i2s)) (h : vcI K Rt o d n mu ro pc L st sg (.i2s)) : AW G mL n nc ns mu ro sg pc L st := by
  obtain ⟨⟨p, l, e, R, s, m⟩, ⟨args, below, meth, c⟩, ⟨D, dA, B⟩, Q⟩ := G
  obtain ⟨hx, hb, hml, hown, hts, hlk, hk, hz, h0, hf, hlo⟩ := hC
  intro H locs ls hP hS hl
  have hdd := dk_1 hd rfl
  simp only [vcI] at h
  split at h
  · exact lv_i2s hx hb hdd rfl (hK _ _ _ _ hL h H locs ls hP hS hl)
  · exact h.elim

theorem sv_idiv (hC : Cx G mL d n0 o cc) (hL : L.length ≤ mL) (hK : ∀ pc L st sg, L.length ≤ mL → K pc L st sg → AW G mL n nc ns mu ro sg pc L st) (hd : dk cc pc = some (.idiv)) (h : vcI K Rt o d n mu ro pc L st sg (.idiv)) : AW G mL n nc ns mu ro sg pc L st := by
  obtain ⟨⟨p, l, e, R, s, m⟩, ⟨args, below, meth, c⟩, ⟨D, dA, B⟩, Q⟩ := G
  obtain ⟨hx, hb, hml, hown, hts, hlk, hk, hz, h0, hf, hlo⟩ := hC
  intro H locs ls hP hS hl
  have hdd := dk_1 hd rfl
  simp only [vcI] at h
  split at h
  · exact lv_idiv hx hb hdd h.1 (hK _ _ _ _ hL h.2 H locs ls hP hS hl)
  · exact h.elim

theorem sv_irem (hC : Cx G mL d n0 o cc) (hL : L.length ≤ mL) (hK : ∀ pc L st sg, L.length ≤ mL → K pc L st sg → AW G mL n nc ns mu ro sg pc L st) (hd : dk cc pc = some (.irem)) (h : vcI K Rt o d n mu ro pc L st sg (.irem)) : AW G mL n nc ns mu ro sg pc L st := by
  obtain ⟨⟨p, l, e, R, s, m⟩, ⟨args, below, meth, c⟩, ⟨D, dA, B⟩, Q⟩ := G
  obtain ⟨hx, hb, hml, hown, hts, hlk, hk, hz, h0, hf, hlo⟩ := hC
  intro H locs ls hP hS hl
  have hdd := dk_1 hd rfl
  simp only [vcI] at h
  split at h
  · exact lv_irem hx hb hdd h.1 (hK _ _ _ _ hL h.2 H locs ls hP hS hl)
  · exact h.elim

theorem sv_ldiv (hC : Cx G mL d n0 o cc) (hL : L.length ≤ mL) (hK : ∀ pc L st sg, L.length ≤ mL → K pc L st sg → AW G mL n nc ns mu ro sg pc L st) (hd : dk cc pc = some (.ldiv)) (h : vcI K Rt o d n mu ro pc L st sg (.ldiv)) : AW G mL n nc ns mu ro sg pc L st := by
  obtain ⟨⟨p, l, e, R, s, m⟩, ⟨args, below, meth, c⟩, ⟨D, dA, B⟩, Q⟩ := G
  obtain ⟨hx, hb, hml, hown, hts, hlk, hk, hz, h0, hf, hlo⟩ := hC
  intro H locs ls hP hS hl
  have hdd := dk_1 hd rfl
  simp only [vcI] at h
  split at h
  · exact lv_ldiv hx hb hdd h.1 (hK _ _ _ _ hL h.2 H locs ls hP hS hl)
  · exact h.elim

theorem sv_lrem (hC : Cx G mL d n0 o cc) (hL : L.length ≤ mL) (hK : ∀ pc L st sg, L.length ≤ mL → K pc L st sg → AW G mL n nc ns mu ro sg pc L st) (hd : dk cc pc = some (.lrem)) (h : vcI K Rt o d n mu ro pc L st sg (.lrem)) : AW G mL n nc ns mu ro sg pc L st := by
  obtain ⟨⟨p, l, e, R, s, m⟩, ⟨args, below, meth, c⟩, ⟨D, dA, B⟩, Q⟩ := G
  obtain ⟨hx, hb, hml, hown, hts, hlk, hk, hz, h0, hf, hlo⟩ := hC
  intro H locs ls hP hS hl
  have hdd := dk_1 hd rfl
  simp only [vcI] at h
  split at h
  · exact lv_lrem hx hb hdd h.1 (hK _ _ _ _ hL h.2 H locs ls hP hS hl)
  · exact h.elim

theorem sv_lcmp (hC : Cx G mL d n0 o cc) (hL : L.length ≤ mL) (hK : ∀ pc L st sg, L.length ≤ mL → K pc L st sg → AW G mL n nc ns mu ro sg pc L st) (hd : dk cc pc = some (.lcmp)) (h : vcI K Rt o d n mu ro pc L st sg (.lcmp)) : AW G mL n nc ns mu ro sg pc L st := by
  obtain ⟨⟨p, l, e, R, s, m⟩, ⟨args, below, meth, c⟩, ⟨D, dA, B⟩, Q⟩ := G
  obtain ⟨hx, hb, hml, hown, hts, hlk, hk, hz, h0, hf, hlo⟩ := hC
  intro H locs ls hP hS hl
  have hdd := dk_1 hd rfl
  simp only [vcI] at h
  split at h
  · exact W.lcmp hx hb hdd (hK _ _ _ _ hL h H locs ls hP hS hl)
  · exact h.elim

theorem sv_dup (hC : Cx G mL d n0 o cc) (hL : L.length ≤ mL) (hK : ∀ pc L st sg, L.length ≤ mL → K pc L st sg → AW G mL n nc ns mu ro sg pc L st) (hd : dk cc pc = some (.dup)) (h : vcI K Rt o d n mu ro pc L st sg (.dup)) : AW G mL n nc ns mu ro sg pc L st := by
  obtain ⟨⟨p, l, e, R, s, m⟩, ⟨args, below, meth, c⟩, ⟨D, dA, B⟩, Q⟩ := G
  obtain ⟨hx, hb, hml, hown, hts, hlk, hk, hz, h0, hf, hlo⟩ := hC
  intro H locs ls hP hS hl
  have hdd := dk_1 hd rfl
  simp only [vcI] at h
  split at h
  · exact lv_dup hx hb hdd rfl (hK _ _ _ _ hL h H locs ls hP hS hl)
  · exact lv_dup hx hb hdd rfl (hK _ _ _ _ hL h H locs ls hP hS hl)
  · exact h.elim

theorem sv_dup2 (hC : Cx G mL d n0 o cc) (hL : L.length ≤ mL) (hK : ∀ pc L st sg, L.length ≤ mL → K pc L st sg → AW G mL n nc ns mu ro sg pc L st) (hd : dk cc pc = some (.dup2)) (h : vcI K Rt o d n mu ro pc L st sg (.dup2)) : AW G mL n nc ns mu ro sg pc L st := by
  obtain ⟨⟨p, l, e, R, s, m⟩, ⟨args, below, meth, c⟩, ⟨D, dA, B⟩, Q⟩ := G
  obtain ⟨hx, hb, hml, hown, hts, hlk, hk, hz, h0, hf, hlo⟩ := hC
  intro H locs ls hP hS hl
  have hdd := dk_1 hd rfl
  simp only [vcI] at h
  split at h
  · exact lv_dup2_11 hx hb hdd rfl rfl (hK _ _ _ _ hL h H locs ls hP hS hl)
  · exact lv_dup2_11 hx hb hdd rfl rfl (hK _ _ _ _ hL h H locs ls hP hS hl)
  · exact h.elim

theorem sv_pop (hC : Cx G mL d n0 o cc) (hL : L.length ≤ mL) (hK : ∀ pc L st sg, L.length ≤ mL → K pc L st sg → AW G mL n nc ns mu ro sg pc L st) (hd : dk cc pc = some (.pop)) (h : vcI K Rt o d n mu ro pc L st sg (.pop)) : AW G mL n nc ns mu ro sg pc L st := by
  obtain ⟨⟨p, l, e, R, s, m⟩, ⟨args, below, meth, c⟩, ⟨D, dA, B⟩, Q⟩ := G
  obtain ⟨hx, hb, hml, hown, hts, hlk, hk, hz, h0, hf, hlo⟩ := hC
  intro H locs ls hP hS hl
  have hdd := dk_1 hd rfl
  simp only [vcI] at h
  split at h
  · exact lv_pop hx hb hdd rfl (hK _ _ _ _ hL h H locs ls hP hS hl)
  · exact h.elim

theorem sv_goto (hC : Cx G mL d n0 o cc) (hL : L.length ≤ mL) (hK : ∀ pc L st sg, L.length ≤ mL → K pc L st sg → AW G mL n nc ns mu ro sg pc L st) {off : Int} (hd : dk cc pc = some (.goto off)) (h : vcI K Rt o d n mu ro pc L st sg (.goto off)) : AW G mL n nc ns mu ro sg pc L st := by
  obtain ⟨⟨p, l, e, R, s, m⟩, ⟨args, below, meth, c⟩, ⟨D, dA, B⟩, Q⟩ := G
  obtain ⟨hx, hb, hml, hown, hts, hlk, hk, hz, h0, hf, hlo⟩ := hC
  intro H locs ls hP hS hl
  have hdd := dk_1 hd rfl
  simp only [vcI] at h
  exact lv_goto hx hb hdd (jmp_ok h.1) (hK _ _ _ _ hL h.2 H locs ls hP hS hl)

theorem sv_if_eq (hC : Cx G mL d n0 o cc) (hL : L.length ≤ mL) (hK : ∀ pc L st sg, L.length ≤ mL → K pc L st sg → AW G mL n nc ns mu ro sg pc L st) {off : Int} (hd : dk cc pc = some (.ifCond .eq off)) (h : vcI K Rt o d n mu ro pc L st sg (.ifCond .eq off)) : AW G mL n nc ns mu ro sg pc L st := by
  obtain ⟨⟨p, l, e, R, s, m⟩, ⟨args, below, meth, c⟩, ⟨D, dA, B⟩, Q⟩ := G
  obtain ⟨hx, hb, hml, hown, hts, hlk, hk, hz, h0, hf, hlo⟩ := hC
  intro H locs ls hP hS hl
  have hdd := dk_1 hd rfl
  simp only [vcI] at h
  split at h
  · exact lv_if_eq hx hb hdd (jmp_ok h.1) (fun q => hK _ _ _ _ hL (h.2.1 q) H locs ls hP hS hl) (fun q => hK _ _ _ _ hL (h.2.2 q) H locs ls hP hS hl)
  · exact h.elim

theorem sv_icmp_eq (hC : Cx G mL d n0 o cc) (hL : L.length ≤ mL) (hK : ∀ pc L st sg, L.length ≤ mL → K pc L st sg → AW G mL n nc ns mu ro sg pc L st) {off : Int} (hd : dk cc pc = some (.if_icmp .eq off)) (h : vcI K Rt o d n mu ro pc L st sg (.if_icmp .eq off)) : AW G mL n nc ns mu ro sg pc L st := by
  obtain ⟨⟨p, l, e, R, s, m⟩, ⟨args, below, meth, c⟩, ⟨D, dA, B⟩, Q⟩ := G
  obtain ⟨hx, hb, hml, hown, hts, hlk, hk, hz, h0, hf, hlo⟩ := hC
  intro H locs ls hP hS hl
  have hdd := dk_1 hd rfl
  simp only [vcI] at h
  split at h
  · exact lv_icmp_eq hx hb hdd (jmp_ok h.1) (fun q => hK _ _ _ _ hL (h.2.1 q) H locs ls hP hS hl) (fun q => hK _ _ _ _ hL (h.2.2 q) H locs ls hP hS hl)
  · exact h.elim

theorem sv_if_ne (hC : Cx G mL d n0 o cc) (hL : L.length ≤ mL) (hK : ∀ pc L st sg, L.length ≤ mL → K pc L st sg → AW G mL n nc ns mu ro sg pc L st) {off : Int} (hd : dk cc pc = some (.ifCond .ne off)) (h : vcI K Rt o d n mu ro pc L st sg (.ifCond .ne off)) : AW G mL n nc ns mu ro sg pc L st := by
  obtain ⟨⟨p, l, e, R, s, m⟩, ⟨args, below, meth, c⟩, ⟨D, dA, B⟩, Q⟩ := G
  obtain ⟨hx, hb, hml, hown, hts, hlk, hk, hz, h0, hf, hlo⟩ := hC
  intro H locs ls hP hS hl
  have hdd := dk_1 hd rfl
  simp only [vcI] at h
  split at h
  · exact lv_if_ne hx hb hdd (jmp_ok h.1) (fun q => hK _ _ _ _ hL (h.2.1 q) H locs ls hP hS hl) (fun q => hK _ _ _ _ hL (h.2.2 q) H locs ls hP hS hl)
  · exact h.elim

theorem sv_icmp_ne (hC : Cx G mL d n0 o cc) (hL : L.length ≤ mL) (hK : ∀ pc L st sg, L.length ≤ mL → K pc L st sg → AW G mL n nc ns mu ro sg pc L st) {off : Int} (hd : dk cc pc = some (.if_icmp .ne off)) (h : vcI K Rt o d n mu ro pc L st sg (.if_icmp .ne off)) : AW G mL n nc ns mu ro sg pc L st := by
  obtain ⟨⟨p, l, e, R, s, m⟩, ⟨args, below, meth, c⟩, ⟨D, dA, B⟩, Q⟩ := G
  obtain ⟨hx, hb, hml, hown, hts, hlk, hk, hz, h0, hf, hlo⟩ := hC
  intro H locs ls hP hS hl
  have hdd := dk_1 hd rfl
  simp only [vcI] at h
  split at h
  · exact lv_icmp_ne hx hb hdd (jmp_ok h.1) (fun q => hK _ _ _ _ hL (h.2.1 q) H locs ls hP hS hl) (fun q => hK _ _ _ _ hL (h.2.2 q) H locs ls hP hS hl)
  · exact h.elim

theorem sv_if_lt (hC : Cx G mL d n0 o cc) (hL : L.length ≤ mL) (hK : ∀ pc L st sg, L.length ≤ mL → K pc L st sg → AW G mL n nc ns mu ro sg pc L st) {off : Int} (hd : dk cc pc = some (.ifCond .lt off)) (h : vcI K Rt o d n mu ro pc L st sg (.ifCond .lt off)) : AW G mL n nc ns mu ro sg pc L st := by
  obtain ⟨⟨p, l, e, R, s, m⟩, ⟨args, below, meth, c⟩, ⟨D, dA, B⟩, Q⟩ := G
  obtain ⟨hx, hb, hml, hown, hts, hlk, hk, hz, h0, hf, hlo⟩ := hC
  intro H locs ls hP hS hl
  have hdd := dk_1 hd rfl
  simp only [vcI] at h
  split at h
  · exact lv_if_lt hx hb hdd (jmp_ok h.1) (fun q => hK _ _ _ _ hL (h.2.1 q) H locs ls hP hS hl) (fun q => hK _ _ _ _ hL (h.2.2 q) H locs ls hP hS hl)
  · exact h.elim

theorem sv_icmp_lt (hC : Cx G mL d n0 o cc) (hL : L.length ≤ mL) (hK : ∀ pc L st sg, L.length ≤ mL → K pc L st sg → AW G mL n nc ns mu ro sg pc L st) {off : Int} (hd : dk cc pc = some (.if_icmp .lt off)) (h : vcI K Rt o d n mu ro pc L st sg (.if_icmp .lt off)) : AW G mL n nc ns mu ro sg pc L st := by
  obtain ⟨⟨p, l, e, R, s, m⟩, ⟨args, below, meth, c⟩, ⟨D, dA, B⟩, Q⟩ := G
  obtain ⟨hx, hb, hml, hown, hts, hlk, hk, hz, h0, hf, hlo⟩ := hC
  intro H locs ls hP hS hl
  have hdd := dk_1 hd rfl
  simp only [vcI] at h
  split at h
  · exact lv_icmp_lt hx hb hdd (jmp_ok h.1) (fun q => hK _ _ _ _ hL (h.2.1 q) H locs ls hP hS hl) (fun q => hK _ _ _ _ hL (h.2.2 q) H locs ls hP hS hl)
  · exact h.elim

theorem sv_if_ge (hC : Cx G mL d n0 o cc) (hL : L.length ≤ mL) (hK : ∀ pc L st sg, L.length ≤ mL → K pc L st sg → AW G mL n nc ns mu ro sg pc L st) {off : Int} (hd : dk cc pc = some (.ifCond .ge off)) (h : vcI K Rt o d n mu ro pc L st sg (.ifCond .ge off)) : AW G mL n nc ns mu ro sg pc L st := by
  obtain ⟨⟨p, l, e, R, s, m⟩, ⟨args, below, meth, c⟩, ⟨D, dA, B⟩, Q⟩ := G
  obtain ⟨hx, hb, hml, hown, hts, hlk, hk, hz, h0, hf, hlo⟩ := hC
  intro H locs ls hP hS hl
  have hdd := dk_1 hd rfl
  simp only [vcI] at h
  split at h
  · exact lv_if_ge hx hb hdd (jmp_ok h.1) (fun q => hK _ _ _ _ hL (h.2.1 q) H locs ls hP hS hl) (fun q => hK _ _ _ _ hL (h.2.2 q) H locs ls hP hS hl)
  · exact h.elim

theorem sv_icmp_ge (hC : Cx G mL d n0 o cc) (hL : L.length ≤ mL) (hK : ∀ pc L st sg, L.length ≤ mL → K pc L st sg → AW G mL n nc ns mu ro sg pc L st) {off : Int} (hd : dk cc pc = some (.if_icmp .ge off)) (h : vcI K Rt o d n mu ro pc L st sg (.if_icmp .ge off)) : AW G mL n nc ns mu ro sg pc L st := by
  obtain ⟨⟨p, l, e, R, s, m⟩, ⟨args, below, meth, c⟩, ⟨D, dA, B⟩, Q⟩ := G
  obtain ⟨hx, hb, hml, hown, hts, hlk, hk, hz, h0, hf, hlo⟩ := hC
  intro H locs ls hP hS hl
  have hdd := dk_1 hd rfl
  simp only [vcI] at h
  split at h
  · exact lv_icmp_ge hx hb hdd (jmp_ok h.1) (fun q => hK _ _ _ _ hL (h.2.1 q) H locs ls hP hS hl) (fun q => hK _ _ _ _ hL (h.2.2 q) H locs ls hP hS hl)
  · exact h.elim

theorem sv_if_gt (hC : Cx G mL d n0 o cc) (hL : L.length ≤ mL) (hK : ∀ pc L st sg, L.length ≤ mL → K pc L st sg → AW G mL n nc ns mu ro sg pc L st) {off : Int} (hd : dk cc pc = some (.ifCond .gt off)) (h : vcI K Rt o d n mu ro pc L st sg (.ifCond .gt off)) : AW G mL n nc ns mu ro sg pc L st := by
  obtain ⟨⟨p, l, e, R, s, m⟩, ⟨args, below, meth, c⟩, ⟨D, dA, B⟩, Q⟩ := G
  obtain ⟨hx, hb, hml, hown, hts, hlk, hk, hz, h0, hf, hlo⟩ := hC
  intro H locs ls hP hS hl
  have hdd := dk_1 hd rfl
  simp only [vcI] at h
  split at h
  · exact lv_if_gt hx hb hdd (jmp_ok h.1) (fun q => hK _ _ _ _ hL (h.2.1 q) H locs ls hP hS hl) (fun q => hK _ _ _ _ hL (h.2.2 q) H locs ls hP hS hl)
  · exact h.elim

theorem sv_icmp_gt (hC : Cx G mL d n0 o cc) (hL : L.length ≤ mL) (hK : ∀ pc L st sg, L.length ≤ mL → K pc L st sg → AW G mL n nc ns mu ro sg pc L st) {off : Int} (hd : dk cc pc = some (.if_icmp .gt off)) (h : vcI K Rt o d n mu ro pc L st sg (.if_icmp .gt off)) : AW G mL n nc ns mu ro sg pc L st := by
  obtain ⟨⟨p, l, e, R, s, m⟩, ⟨args, below, meth, c⟩, ⟨D, dA, B⟩, Q⟩ := G
  obtain ⟨hx, hb, hml, hown, hts, hlk, hk, hz, h0, hf, hlo⟩ := hC
  intro H locs ls hP hS hl
  have hdd := dk_1 hd rfl
  simp only [vcI] at h
  split at h
  · exact lv_icmp_gt hx hb hdd (jmp_ok h.1) (fun q => hK _ _ _ _ hL (h.2.1 q) H locs ls hP hS hl) (fun q => hK _ _ _ _ hL (h.2.2 q) H locs ls hP hS hl)
  · exact h.elim

theorem sv_if_le (hC : Cx G mL d n0 o cc) (hL : L.length ≤ mL) (hK : ∀ pc L st sg, L.length ≤ mL → K pc L st sg → AW G mL n nc ns mu ro sg pc L st) {off : Int} (hd : dk cc pc = some (.ifCond .le off)) (h : vcI K Rt o d n mu ro pc L st sg (.ifCond .le off)) : AW G mL n nc ns mu ro sg pc L st := by
  obtain ⟨⟨p, l, e, R, s, m⟩, ⟨args, below, meth, c⟩, ⟨D, dA, B⟩, Q⟩ := G
  obtain ⟨hx, hb, hml, hown, hts, hlk, hk, hz, h0, hf, hlo⟩ := hC
  intro H locs ls hP hS hl
  have hdd := dk_1 hd rfl
  simp only [vcI] at h
  split at h
  · exact lv_if_le hx hb hdd (jmp_ok h.1) (fun q => hK _ _ _ _ hL (h.2.1 q) H locs ls hP hS hl) (fun q => hK _ _ _ _ hL (h.2.2 q) H locs ls hP hS hl)
  · exact h.elim

theorem sv_icmp_le (hC : Cx G mL d n0 o cc) (hL : L.length ≤ mL) (hK : ∀ pc L st sg, L.length ≤ mL → K pc L st sg → AW G mL n nc ns mu ro sg pc L st) {off : Int} (hd : dk cc pc = some (.if_icmp .le off)) (h : vcI K Rt o d n mu ro pc L st sg (.if_icmp .le off)) : AW G mL n nc ns mu ro sg pc L st := by
  obtain ⟨⟨p, l, e, R, s, m⟩, ⟨args, below, meth, c⟩, ⟨D, dA, B⟩, Q⟩ := G
  obtain ⟨hx, hb, hml, hown, hts, hlk, hk, hz, h0, hf, hlo⟩ := hC
  intro H locs ls hP hS hl
  have hdd := dk_1 hd rfl
  simp only [vcI] at h
  split at h
  · exact lv_icmp_le hx hb hdd (jmp_ok h.1) (fun q => hK _ _ _ _ hL (h.2.1 q) H locs ls hP hS hl) (fun q => hK _ _ _ _ hL (h.2.2 q) H locs ls hP hS hl)
  · exact h.elim

theorem sv_ifnull (hC : Cx G mL d n0 o cc) (hL : L.length ≤ mL) (hK : ∀ pc L st sg, L.length ≤ mL → K pc L st sg → AW G mL n nc ns mu ro sg pc L st) {off : Int} (hd : dk cc pc = some (.ifnull off)) (h : vcI K Rt o d n mu ro pc L st sg (.ifnull off)) : AW G mL n nc ns mu ro sg pc L st := by
  obtain ⟨⟨p, l, e, R, s, m⟩, ⟨args, below, meth, c⟩, ⟨D, dA, B⟩, Q⟩ := G
  obtain ⟨hx, hb, hml, hown, hts, hlk, hk, hz, h0, hf, hlo⟩ := hC
  intro H locs ls hP hS hl
  have hdd := dk_1 hd rfl
  simp only [vcI] at h
  split at h
  · exact lv_ifnull hx hb hdd (hK _ _ _ _ hL h H locs ls hP hS hl)
  · exact lv_ifnullN hx hb hdd (jmp_ok h.1) (hK _ _ _ _ hL h.2 H locs ls hP hS hl)
  · exact h.elim

theorem sv_ifnonnull (hC : Cx G mL d n0 o cc) (hL : L.length ≤ mL) (hK : ∀ pc L st sg, L.length ≤ mL → K pc L st sg → AW G mL n nc ns mu ro sg pc L st) {off : Int} (hd : dk cc pc = some (.ifnonnull off)) (h : vcI K Rt o d n mu ro pc L st sg (.ifnonnull off)) : AW G mL n nc ns mu ro sg pc L st := by
  obtain ⟨⟨p, l, e, R, s, m⟩, ⟨args, below, meth, c⟩, ⟨D, dA, B⟩, Q⟩ := G
  obtain ⟨hx, hb, hml, hown, hts, hlk, hk, hz, h0, hf, hlo⟩ := hC
  intro H locs ls hP hS hl
  have hdd := dk_1 hd rfl
  simp only [vcI] at h
  split at h
  · exact lv_ifnonnull hx hb hdd (jmp_ok h.1) (hK _ _ _ _ hL h.2 H locs ls hP hS hl)
  · exact lv_ifnonnullN hx hb hdd (hK _ _ _ _ hL h H locs ls hP hS hl)
  · exact h.elim

theorem sv_getfield (hC : Cx G mL d n0 o cc) (hL : L.length ≤ mL) (hK : ∀ pc L st sg, L.length ≤ mL → K pc L st sg → AW G mL n nc ns mu ro sg pc L st) {i : Nat} (hd : dk cc pc = some (.getfield i)) (h : vcI K Rt o d n mu ro pc L st sg (.getfield i)) : AW G mL n nc ns mu ro sg pc L st := by
  obtain ⟨⟨p, l, e, R, s, m⟩, ⟨args, below, meth, c⟩, ⟨D, dA, B⟩, Q⟩ := G
  obtain ⟨hx, hb, hml, hown, hts, hlk, hk, hz, h0, hf, hlo⟩ := hC
  intro H locs ls hP hS hl
  have hdd := dk_1 hd rfl
  simp only [vcI] at h
  split at h
  · next a st1 =>
    obtain ⟨ci, k, kd, bf, hq, hmu, h1⟩ := gtF_spec h
    obtain ⟨g1, g2, g3, g4, g5, g6⟩ := fres_ok hq
    have ha : a < n := hP.lt (by rw [hmu]; omega)
    have he := aW_at (dA := dA) (B := B) (mu := mu) (ro := ro) (sg := sg) ha
    rw [aE_obj (N := 0) hmu] at he
    refine va_get (D := D) (v := fvl B (kdT (tyN ci k)) k (ro a) (sg a)) hx hb hts (inT ci g2) hown hk.1 hP.1 a he (vwCl_at ci g2) k g3 (hts _ g1) (fun _ h9 => h9) (aF_at g3) hdd ?_
    rw [g4]
    rcases h1 with ⟨rfl, h1⟩ | ⟨rfl, h1⟩ | ⟨rfl, h1⟩
    · exact hK _ _ _ _ hL h1 H locs ls hP hS hl
    · have h2 := hK _ _ _ _ hL h1 H locs ls hP hS hl
      simp only [List.map_cons, cv_rf] at h2
      exact h2
    · exact hK _ _ _ _ hL h1 H locs ls hP hS hl
  · exact h.elim

theorem sv_putfield (hC : Cx G mL d n0 o cc) (hL : L.length ≤ mL) (hK : ∀ pc L st sg, L.length ≤ mL → K pc L st sg → AW G mL n nc ns mu ro sg pc L st) {i : Nat} (hd : dk cc pc = some (.putfield i)) (h : vcI K Rt o d n mu ro pc L st sg (.putfield i)) : AW G mL n nc ns mu ro sg pc L st := by
  obtain ⟨⟨p, l, e, R, s, m⟩, ⟨args, below, meth, c⟩, ⟨D, dA, B⟩, Q⟩ := G
  obtain ⟨hx, hb, hml, hown, hts, hlk, hk, hz, h0, hf, hlo⟩ := hC
  intro H locs ls hP hS hl
  have hdd := dk_1 hd rfl
  simp only [vcI] at h
  split at h
  · next x a st1 =>
    obtain ⟨ci, k, hq, hmu, hbo, h1⟩ := ptF_spec h
    obtain ⟨g1, g2, g3, g4, g5, g6⟩ := fres_ok hq
    have ha : a < n := hP.lt (by rw [hmu]; omega)
    have he := aW_at (dA := dA) (B := B) (mu := mu) (ro := ro) (sg := sg) ha
    rw [aE_obj (N := 0) hmu] at he
    obtain ⟨nr, ft⟩ := narrow_I g4 hbo
    refine va_put (D := D) (v := .int x) (ty := tyN ci k) hx hb hts (inT ci g2) (tyN ci) (tyN_ok ci g2) (nmN_ok ci g2) hown hk.1 hP.1 (aD dA B n mu ro sg) hS a he (vwCl_at ci g2) k g3 (hts _ g1) (fun _ h9 => h9) g5 (tyN_ok ci g2 k g3) nr ft (by rw [aF_len]; exact g3) hdd (fun H1 locs1 hP1 _ hS1 => ?_)
    refine hK _ _ _ _ hL h1 H1 locs1 ls (hP.set ha (fun b hb => s2_ne hb) (fun _ _ => rfl) ?_) hS1 hl
    rw [aE_obj (N := 0) hmu, s2_eq, ← aF_set g2 g3 g4]
    exact hP1
  · next x a st1 =>
    obtain ⟨ci, k, hq, hmu, h1⟩ := ptL_spec h
    obtain ⟨g1, g2, g3, g4, g5, g6⟩ := fres_ok hq
    have ha : a < n := hP.lt (by rw [hmu]; omega)
    have he := aW_at (dA := dA) (B := B) (mu := mu) (ro := ro) (sg := sg) ha
    rw [aE_obj (N := 0) hmu] at he
    have hty : tyN ci k = .long := by
      cases hq9 : tyN ci k <;> rw [hq9] at g4 <;> first | rfl | (simp [kdT] at g4)
    refine va_put (D := D) (v := .long x) (ty := tyN ci k) hx hb hts (inT ci g2) (tyN ci) (tyN_ok ci g2) (nmN_ok ci g2) hown hk.1 hP.1 (aD dA B n mu ro sg) hS a he (vwCl_at ci g2) k g3 (hts _ g1) (fun _ h9 => h9) g5 (tyN_ok ci g2 k g3) (by rw [hty]; rfl) (by rw [hty]; rfl) (by rw [aF_len]; exact g3) hdd (fun H1 locs1 hP1 _ hS1 => ?_)
    refine hK _ _ _ _ hL h1 H1 locs1 ls (hP.set ha (fun b hb => s2l_ne hb) (fun _ _ => rfl) ?_) hS1 hl
    rw [aE_obj (N := 0) hmu, s2l_eq, ← aF_setl g2 g3 g4]
    exact hP1
  · exact h.elim

theorem sv_iaload (hC : Cx G mL d n0 o cc) (hL : L.length ≤ mL) (hK : ∀ pc L st sg, L.length ≤ mL → K pc L st sg → AW G mL n nc ns mu ro sg pc L st) (hd : dk cc pc = some (.iaload)) (h : vcI K Rt o d n mu ro pc L st sg (.iaload)) : AW G mL n nc ns mu ro sg pc L st := by
  obtain ⟨⟨p, l, e, R, s, m⟩, ⟨args, below, meth, c⟩, ⟨D, dA, B⟩, Q⟩ := G
  obtain ⟨hx, hb, hml, hown, hts, hlk, hk, hz, h0, hf, hlo⟩ := hC
  intro H locs ls hP hS hl
  have hdd := dk_1 hd rfl
  simp only [vcI] at h
  split at h
  · next i a st1 =>
    obtain ⟨hmu, hin, h1⟩ := h
    have ha : a < n := hP.lt (by rw [hmu]; omega)
    have he := aW_at (dA := dA) (B := B) (mu := mu) (ro := ro) (sg := sg) ha
    rw [aE_int hmu] at he
    exact va_iald hx hb hk.1 hP.1 a 0 he rfl hin hdd (hK _ _ _ _ hL h1 H locs ls hP hS hl)
  · exact h.elim

theorem sv_baload (hC : Cx G mL d n0 o cc) (hL : L.length ≤ mL) (hK : ∀ pc L st sg, L.length ≤ mL → K pc L st sg → AW G mL n nc ns mu ro sg pc L st) (hd : dk cc pc = some (.baload)) (h : vcI K Rt o d n mu ro pc L st sg (.baload)) : AW G mL n nc ns mu ro sg pc L st := by
  obtain ⟨⟨p, l, e, R, s, m⟩, ⟨args, below, meth, c⟩, ⟨D, dA, B⟩, Q⟩ := G
  obtain ⟨hx, hb, hml, hown, hts, hlk, hk, hz, h0, hf, hlo⟩ := hC
  intro H locs ls hP hS hl
  have hdd := dk_1 hd rfl
  simp only [vcI] at h
  split at h
  · next i a st1 =>
    obtain ⟨hmu, hin, h1⟩ := h
    have ha : a < n := hP.lt (by rw [hmu]; omega)
    have he := aW_at (dA := dA) (B := B) (mu := mu) (ro := ro) (sg := sg) ha
    rw [aE_boo hmu] at he
    exact va_zald hx hb hk.1 hP.1 a 1 he rfl hin hdd (hK _ _ _ _ hL h1 H locs ls hP hS hl)
  · exact h.elim

theorem sv_iastore (hC : Cx G mL d n0 o cc) (hL : L.length ≤ mL) (hK : ∀ pc L st sg, L.length ≤ mL → K pc L st sg → AW G mL n nc ns mu ro sg pc L st) (hd : dk cc pc = some (.iastore)) (h : vcI K Rt o d n mu ro pc L st sg (.iastore)) : AW G mL n nc ns mu ro sg pc L st := by
  obtain ⟨⟨p, l, e, R, s, m⟩, ⟨args, below, meth, c⟩, ⟨D, dA, B⟩, Q⟩ := G
  obtain ⟨hx, hb, hml, hown, hts, hlk, hk, hz, h0, hf, hlo⟩ := hC
  intro H locs ls hP hS hl
  have hdd := dk_1 hd rfl
  simp only [vcI] at h
  split at h
  · next x i a st1 =>
    obtain ⟨hmu, hin, h1⟩ := h
    have ha : a < n := hP.lt (by rw [hmu]; omega)
    have he := aW_at (dA := dA) (B := B) (mu := mu) (ro := ro) (sg := sg) ha
    rw [aE_int hmu] at he
    refine va_iast hx hb hk.1 hP.1 (aD dA B n mu ro sg) hS a 0 he rfl hin hdd (fun H1 locs1 hP1 _ hS1 => ?_)
    refine hK _ _ _ _ hL h1 H1 locs1 ls (hP.set ha (fun b hb => s2_ne hb) (fun _ _ => rfl) ?_) hS1 hl
    rw [aE_int hmu, s2_eq]
    exact hP1
  · exact h.elim

theorem sv_bastore (hC : Cx G mL d n0 o cc) (hL : L.length ≤ mL) (hK : ∀ pc L st sg, L.length ≤ mL → K pc L st sg → AW G mL n nc ns mu ro sg pc L st) (hd : dk cc pc = some (.bastore)) (h : vcI K Rt o d n mu ro pc L st sg (.bastore)) : AW G mL n nc ns mu ro sg pc L st := by
  obtain ⟨⟨p, l, e, R, s, m⟩, ⟨args, below, meth, c⟩, ⟨D, dA, B⟩, Q⟩ := G
  obtain ⟨hx, hb, hml, hown, hts, hlk, hk, hz, h0, hf, hlo⟩ := hC
  intro H locs ls hP hS hl
  have hdd := dk_1 hd rfl
  simp only [vcI] at h
  split at h
  · next x i a st1 =>
    obtain ⟨hmu, hin, hx01, h1⟩ := h
    have ha : a < n := hP.lt (by rw [hmu]; omega)
    have he := aW_at (dA := dA) (B := B) (mu := mu) (ro := ro) (sg := sg) ha
    rw [aE_boo hmu] at he
    have hnr : vp_nar .boolean x = x := by rcases hx01 with rfl | rfl <;> decide
    refine va_zast hx hb hk.1 hP.1 (aD dA B n mu ro sg) hS a 1 he rfl hin hdd (fun H1 locs1 hP1 _ hS1 => ?_)
    rw [hnr] at hP1
    refine hK _ _ _ _ hL h1 H1 locs1 ls (hP.set ha (fun b hb => s2_ne hb) (fun _ _ => rfl) ?_) hS1 hl
    rw [aE_boo hmu, s2_eq]
    exact hP1
  · exact h.elim

theorem sv_aaload (hC : Cx G mL d n0 o cc) (hL : L.length ≤ mL) (hK : ∀ pc L st sg, L.length ≤ mL → K pc L st sg → AW G mL n nc ns mu ro sg pc L st) (hd : dk cc pc = some (.aaload)) (h : vcI K Rt o d n mu ro pc L st sg (.aaload)) : AW G mL n nc ns mu ro sg pc L st := by
  obtain ⟨⟨p, l, e, R, s, m⟩, ⟨args, below, meth, c⟩, ⟨D, dA, B⟩, Q⟩ := G
  obtain ⟨hx, hb, hml, hown, hts, hlk, hk, hz, h0, hf, hlo⟩ := hC
  intro H locs ls hP hS hl
  have hdd := dk_1 hd rfl
  simp only [vcI] at h
  split at h
  · next i a st1 =>
    obtain ⟨hm3, hm5, hin, h1⟩ := h
    have ha : a < n := hP.lt (by omega)
    have he := aW_at (dA := dA) (B := B) (mu := mu) (ro := ro) (sg := sg) ha
    rw [aE_ref hm3 hm5] at he
    have h2 := hK _ _ _ _ hL h1 H locs ls hP hS hl
    simp only [List.map_cons, cv_rf] at h2
    rcases (show (mu a).1 = 3 ∨ (mu a).1 = 4 ∨ (mu a).1 = 5 by omega) with q | q | q
    · rw [q] at he
      exact va_aldq hx hb hk.1 hP.1 a 2 he rfl hin hdd h2
    · rw [q] at he
      exact va_aldq hx hb hk.1 hP.1 a 3 he rfl hin hdd h2
    · rw [q] at he
      exact va_aldq hx hb hk.1 hP.1 a 4 he rfl hin hdd h2
  · exact h.elim

theorem sv_alen (hC : Cx G mL d n0 o cc) (hL : L.length ≤ mL) (hK : ∀ pc L st sg, L.length ≤ mL → K pc L st sg → AW G mL n nc ns mu ro sg pc L st) (hd : dk cc pc = some (.arraylength)) (h : vcI K Rt o d n mu ro pc L st sg (.arraylength)) : AW G mL n nc ns mu ro sg pc L st := by
  obtain ⟨⟨p, l, e, R, s, m⟩, ⟨args, below, meth, c⟩, ⟨D, dA, B⟩, Q⟩ := G
  obtain ⟨hx, hb, hml, hown, hts, hlk, hk, hz, h0, hf, hlo⟩ := hC
  intro H locs ls hP hS hl
  have hdd := dk_1 hd rfl
  simp only [vcI] at h
  split at h
  · next a st1 =>
    obtain ⟨hmu, h1⟩ := h
    have ha : a < n := hP.lt (by rw [hmu]; omega)
    have he := aW_at (dA := dA) (B := B) (mu := mu) (ro := ro) (sg := sg) ha
    rw [aE_int hmu] at he
    exact va_alen hx hb hk.1 hP.1 a 0 he rfl rfl hdd (hK _ _ _ _ hL h1 H locs ls hP hS hl)
  · exact h.elim

end SND
