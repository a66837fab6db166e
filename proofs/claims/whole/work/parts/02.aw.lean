/-! part 02: the abstract memory (kinds, references, ints), how a heap holds it, and the judgement AW over the kit's W -/
abbrev aM : Type := Nat → Nat × Nat
abbrev aR : Type := Nat → Nat → Option Nat
abbrev aS : Type := Nat → Nat → Int32
def cv (B : Nat) : Value → Value
  | .ref a => .ref (B + a)
  | v => v
def rb (B : Nat) (r : Option Nat) : Option Nat := r.map (fun a => B + a)
theorem cv_rf (B : Nat) (r : Option Nat) : cv B (va_rf r) = va_rf (rb B r) := by cases r <;> rfl
theorem cv_cat (B : Nat) (v : Value) : (cv B v).category = v.category := by cases v <;> rfl
/-- a long as two ints -/
def jlo (x : Int64) : Int32 := Int32.ofInt (x.toInt % 4294967296)
def jhi (x : Int64) : Int32 := Int32.ofInt (x.toInt / 4294967296)
def jl (l h : Int32) : Int64 := Int64.ofInt (h.toInt * 4294967296 + l.toInt % 4294967296)
theorem jl_eq (x : Int64) : jl (jlo x) (jhi x) = x := by
  have h1 : -9223372036854775808 ≤ x.toInt := Int64.minValue_le_toInt x
  have h2 : x.toInt ≤ 9223372036854775807 := Int64.toInt_le x
  have e1 : (jlo x).toInt % 4294967296 = x.toInt % 4294967296 := by
    unfold jlo
    rw [Int32.toInt_ofInt]
    simp only [Int32.size, Int.bmod_def]
    omega
  have e2 : (jhi x).toInt = x.toInt / 4294967296 := by
    unfold jhi
    rw [Int32.toInt_ofInt]
    simp only [Int32.size, Int.bmod_def]
    omega
  unfold jl
  rw [e1, e2, show x.toInt / 4294967296 * 4294967296 + x.toInt % 4294967296 = x.toInt by omega]
  exact Int64.ofInt_toInt x
theorem jl_00 : jl 0 0 = 0 := by decide
theorem nN_le : ∀ ci, ci < 13 → nN ci ≤ 60 := by decide
/-- the fields of an object, in the order of its table -/
def fvl (B kd k : Nat) (ra : Nat → Option Nat) (sa : Nat → Int32) : Value := match kd with
  | 1 => .int (sa k)
  | 2 => .long (jl (sa (100 + k)) (sa (200 + k)))
  | _ => va_rf (rb B (ra k))
def aF (B ci : Nat) (ra : Nat → Option Nat) (sa : Nat → Int32) : List Value := (List.range (nN ci)).map (fun k => fvl B (kdT (tyN ci k)) k ra sa)
/-- a cell: kinds 1 int[], 2 boolean[], 3 Row[], 4 Sheet[], 5 Talk[], 10 and the class's number an object -/
def aE (dA : Nat → ClassId) (B : Nat) (q : Nat × Nat) (ra : Nat → Option Nat) (sa : Nat → Int32) : va_E :=
  if 10 ≤ q.1 then .inr (q.1 - 10, aF B (q.1 - 10) ra sa)
  else if 3 ≤ q.1 then .inl (dA q.1, q.2, .inr (.inr (.inr (.inr (fun i => rb B (ra i))))))
  else .inl (dA q.1, q.2, .inl sa)
def aW (dA : Nat → ClassId) (B n : Nat) (mu : aM) (ro : aR) (sg : aS) : va_W := (List.range n).map (fun a => (B + a, aE dA B (mu a) (ro a) (sg a)))
theorem aW_at {dA : Nat → ClassId} {B n : Nat} {mu : aM} {ro : aR} {sg : aS} {a : Nat} (h : a < n) : (aW dA B n mu ro sg)[a]? = some (B + a, aE dA B (mu a) (ro a) (sg a)) := by
  simp [aW, h]
theorem aW_in {dA : Nat → ClassId} {B n : Nat} {mu : aM} {ro : aR} {sg : aS} {k : Nat} {q : Nat × va_E} (h : (aW dA B n mu ro sg)[k]? = some q) : k < n ∧ q = (B + k, aE dA B (mu k) (ro k) (sg k)) := by
  have hk : k < n := by
    have := (List.getElem?_eq_some_iff.mp h).1
    simpa [aW] using this
  exact ⟨hk, (Option.some.inj ((aW_at hk).symm.trans h)).symm⟩
def aTy (dA : Nat → ClassId) : List (ClassId × FieldType) := [(dA 1, .int), (dA 2, .boolean), (dA 3, .object RX5), (dA 4, .object RX6), (dA 5, .object RX8)]
/-- a heap holds the memory -/
def aP (D : va_G) (dA : Nat → ClassId) (B n : Nat) (mu : aM) (ro : aR) (sg : aS) (H : Heap) : Prop := va_P D vwCl (aW dA B n mu ro sg) H ∧ ∀ a, n ≤ a → (mu a).1 = 0
theorem aP.lt {D : va_G} {dA : Nat → ClassId} {B n : Nat} {mu : aM} {ro : aR} {sg : aS} {H : Heap} (h : aP D dA B n mu ro sg H) {a : Nat} (ha : (mu a).1 ≠ 0) : a < n := by
  rcases Nat.lt_or_ge a n with q | q
  · exact q
  · exact absurd (h.2 a q) ha
theorem aD (dA : Nat → ClassId) (B n : Nat) (mu : aM) (ro : aR) (sg : aS) : va_D (fun q => B ≤ q) (aW dA B n mu ro sg) := by
  refine ⟨fun i j x y hi hj hxy => ?_, fun k q hk => ?_⟩
  · obtain ⟨-, rfl⟩ := aW_in hi
    obtain ⟨-, rfl⟩ := aW_in hj
    simp only at hxy
    omega
  · obtain ⟨-, rfl⟩ := aW_in hk
    exact Nat.le_add_right B k
/-- a cell is set -/
theorem aP.set {D : va_G} {dA : Nat → ClassId} {B n : Nat} {mu : aM} {ro ro' : aR} {sg sg' : aS} {H H1 : Heap} (h : aP D dA B n mu ro sg H) {a : Nat} (ha : a < n) (hs : ∀ b, b ≠ a → sg' b = sg b) (hr : ∀ b, b ≠ a → ro' b = ro b)
    (hP : va_P D vwCl ((aW dA B n mu ro sg).set a (B + a, aE dA B (mu a) (ro' a) (sg' a))) H1) : aP D dA B n mu ro' sg' H1 := by
  refine ⟨fun k q hk => ?_, h.2⟩
  obtain ⟨hkn, rfl⟩ := aW_in hk
  refine hP k _ ?_
  by_cases hka : k = a
  · subst hka
    rw [List.getElem?_set_self (by simpa [aW] using hkn)]
  · rw [List.getElem?_set_ne (Ne.symm hka), aW_at hkn, hs k hka, hr k hka]
/-- a cell comes -/
theorem aP.push {D : va_G} {dA : Nat → ClassId} {B n : Nat} {mu mu' : aM} {ro ro' : aR} {sg sg' : aS} {H1 : Heap} (h2 : ∀ a, n ≤ a → (mu a).1 = 0) (hm : ∀ b, b ≠ n → mu' b = mu b) (hs : ∀ b, b ≠ n → sg' b = sg b) (hr : ∀ b, b ≠ n → ro' b = ro b)
    (hP : va_P D vwCl (aW dA B n mu ro sg ++ [(B + n, aE dA B (mu' n) (ro' n) (sg' n))]) H1) : aP D dA B (n + 1) mu' ro' sg' H1 := by
  refine ⟨fun k q hk => ?_, fun a ha => by rw [hm a (by omega)]; exact h2 a (by omega)⟩
  obtain ⟨hkn, rfl⟩ := aW_in hk
  refine hP k _ ?_
  by_cases hka : k = n
  · subst hka
    rw [List.getElem?_append_right (by simp [aW])]
    simp [aW]
  · rw [List.getElem?_append_left (by simp [aW]; omega), aW_at (by omega), hs k hka, hr k hka, hm k hka]
theorem aE_obj {dA : Nat → ClassId} {B ci N : Nat} {q : Nat × Nat} {ra : Nat → Option Nat} {sa : Nat → Int32} (h : q.1 = 10 + ci) : aE dA B q ra sa = .inr (ci, aF B ci ra sa) := by
  simp [aE, h]
theorem aE_int {dA : Nat → ClassId} {B : Nat} {q : Nat × Nat} {ra : Nat → Option Nat} {sa : Nat → Int32} (h : q.1 = 1) : aE dA B q ra sa = .inl (dA 1, q.2, .inl sa) := by
  simp [aE, h]
theorem aE_boo {dA : Nat → ClassId} {B : Nat} {q : Nat × Nat} {ra : Nat → Option Nat} {sa : Nat → Int32} (h : q.1 = 2) : aE dA B q ra sa = .inl (dA 2, q.2, .inl sa) := by
  simp [aE, h]
theorem aE_ref {dA : Nat → ClassId} {B : Nat} {q : Nat × Nat} {ra : Nat → Option Nat} {sa : Nat → Int32} (h : 3 ≤ q.1) (h2 : q.1 ≤ 5) : aE dA B q ra sa = .inl (dA q.1, q.2, .inr (.inr (.inr (.inr (fun i => rb B (ra i)))))) := by
  have : ¬ 10 ≤ q.1 := by omega
  simp [aE, h, this]
theorem aF_len {B ci : Nat} {ra : Nat → Option Nat} {sa : Nat → Int32} : (aF B ci ra sa).length = nN ci := by simp [aF]
theorem aF_at {B ci k : Nat} {ra : Nat → Option Nat} {sa : Nat → Int32} (h : k < nN ci) : (aF B ci ra sa)[k]? = some (fvl B (kdT (tyN ci k)) k ra sa) := by simp [aF, h]
def s2 (sg : aS) (a k : Nat) (x : Int32) : aS := va_up sg a (upd (sg a) k x)
theorem s2_ne {sg : aS} {a k b : Nat} {x : Int32} (h : b ≠ a) : s2 sg a k x b = sg b := by simp [s2, va_up, h]
theorem s2_eq {sg : aS} {a k : Nat} {x : Int32} : s2 sg a k x a = upd (sg a) k x := by simp [s2, va_up]
def r2 (ro : aR) (a k : Nat) (x : Option Nat) : aR := va_up ro a (va_up (ro a) k x)
theorem r2_ne {ro : aR} {a k b : Nat} {x : Option Nat} (h : b ≠ a) : r2 ro a k x b = ro b := by simp [r2, va_up, h]
theorem r2_eq {ro : aR} {a k : Nat} {x : Option Nat} : r2 ro a k x a = va_up (ro a) k x := by simp [r2, va_up]
def s2l (sg : aS) (a k : Nat) (x : Int64) : aS := va_up sg a (upd (upd (sg a) (100 + k) (jlo x)) (200 + k) (jhi x))
theorem s2l_ne {sg : aS} {a k b : Nat} {x : Int64} (h : b ≠ a) : s2l sg a k x b = sg b := by simp [s2l, va_up, h]
theorem s2l_eq {sg : aS} {a k : Nat} {x : Int64} : s2l sg a k x a = upd (upd (sg a) (100 + k) (jlo x)) (200 + k) (jhi x) := by simp [s2l, va_up]
theorem aF_ext {B ci k : Nat} {ra ra' : Nat → Option Nat} {sa sa' : Nat → Int32} {v : Value} (h : k < nN ci) (hv : fvl B (kdT (tyN ci k)) k ra' sa' = v) (ho : ∀ j kd, j < nN ci → j ≠ k → fvl B kd j ra' sa' = fvl B kd j ra sa) : (aF B ci ra sa).set k v = aF B ci ra' sa' := by
  apply List.ext_getElem?
  intro j
  by_cases hj : j = k
  · subst hj
    rw [List.getElem?_set_self (by rw [aF_len]; exact h), aF_at h, hv]
  · rw [List.getElem?_set_ne (Ne.symm hj)]
    by_cases hl : j < nN ci
    · rw [aF_at hl, aF_at hl, ho j _ hl hj]
    · rw [List.getElem?_eq_none (by rw [aF_len]; omega), List.getElem?_eq_none (by rw [aF_len]; omega)]
theorem aF_set {B ci k : Nat} {ra : Nat → Option Nat} {sa : Nat → Int32} {x : Int32} (hci : ci < 13) (h : k < nN ci) (hi : kdT (tyN ci k) = 1) : (aF B ci ra sa).set k (.int x) = aF B ci ra (upd sa k x) := by
  have hN := nN_le ci hci
  refine aF_ext h (by rw [hi]; simp [fvl, upd]) (fun j kd hj hjk => ?_)
  unfold fvl
  have e1 : ¬ 100 + j = k := by omega
  have e2 : ¬ 200 + j = k := by omega
  split <;> simp [upd, hjk, e1, e2]
theorem aF_setl {B ci k : Nat} {ra : Nat → Option Nat} {sa : Nat → Int32} {x : Int64} (hci : ci < 13) (h : k < nN ci) (hi : kdT (tyN ci k) = 2) : (aF B ci ra sa).set k (.long x) = aF B ci ra (upd (upd sa (100 + k) (jlo x)) (200 + k) (jhi x)) := by
  have hN := nN_le ci hci
  refine aF_ext h ?_ (fun j kd hj hjk => ?_)
  · rw [hi]
    have e1 : ¬ 100 + k = 200 + k := by omega
    simp [fvl, upd, e1, jl_eq]
  · unfold fvl
    have e1 : ¬ j = 100 + k := by omega
    have e2 : ¬ j = 200 + k := by omega
    have e3 : ¬ 100 + j = 200 + k := by omega
    have e4 : ¬ 200 + j = 100 + k := by omega
    split <;> simp [upd, hjk, e1, e2, e3, e4]
theorem aF_setr {B ci k : Nat} {ra : Nat → Option Nat} {sa : Nat → Int32} {x : Option Nat} (h : k < nN ci) (hi : kdT (tyN ci k) = 0) : (aF B ci ra sa).set k (va_rf (rb B x)) = aF B ci (va_up ra k x) sa := by
  refine aF_ext h (by rw [hi]; simp [fvl, va_up]) (fun j kd hj hjk => ?_)
  unfold fvl
  split <;> simp [va_up, hjk]
/-! the locals: a list of values by place; .float stands for 'nothing is known' -/
def nf : Value → Bool
  | .float _ => false
  | _ => true
def nl : Value → Bool
  | .long _ => false
  | .double _ => false
  | _ => true
def aLf (B : Nat) (L : List Value) : List (Nat × Value) := L.zipIdx.filterMap (fun q => if nf q.1 = true then some (q.2, cv B q.1) else none)
theorem aLf_mem {B : Nat} {L : List Value} {q : Nat × Value} : q ∈ aLf B L ↔ ∃ (i : Nat) (v : Value), L[i]? = some v ∧ nf v = true ∧ q = (i, cv B v) := by
  constructor
  · intro h
    obtain ⟨⟨v, i⟩, h1, h2⟩ := List.mem_filterMap.mp h
    have h3 := List.mem_zipIdx_iff_getElem?.mp h1
    by_cases hv : nf v = true
    · simp only [hv, if_true] at h2
      exact ⟨i, v, h3, hv, (Option.some.inj h2).symm⟩
    · simp [hv] at h2
  · rintro ⟨i, v, h1, h2, rfl⟩
    exact List.mem_filterMap.mpr ⟨(v, i), List.mem_zipIdx_iff_getElem?.mpr h1, by simp [h2]⟩
/-- a value is put at a place -/
theorem aLf_set {B mL i : Nat} {L : List Value} {v : Value} {ls : Array Slot} (hi : i < L.length) (hp : ∀ j w, j + 1 = i → L[j]? = some w → nl w = true)
    (h : lv_has ls mL ((i, cv B v) :: (aLf B L).filter (fun q => !(q.1 == i) && !(q.1 + 1 == i && q.2.category == 2)))) : lv_has ls mL (aLf B (L.set i v)) := by
  refine ⟨h.1, h.2.1, fun q hq => ?_⟩
  obtain ⟨j, w, h1, h2, rfl⟩ := aLf_mem.mp hq
  by_cases hj : j = i
  · subst hj
    rw [List.getElem?_set_self hi] at h1
    cases h1
    exact h.2.2 _ List.mem_cons_self
  · rw [List.getElem?_set_ne (Ne.symm hj)] at h1
    refine h.2.2 (j, cv B w) (List.mem_cons_of_mem _ (List.mem_filter.mpr ⟨aLf_mem.mpr ⟨j, w, h1, h2, rfl⟩, ?_⟩))
    by_cases hji : j + 1 = i
    · have := hp j w hji h1
      rw [cv_cat]
      cases w <;> simp_all [Value.category, nl]
    · simp [hj, hji]
/-- a long is put at a place -/
theorem aLf_set2 {B mL i : Nat} {L : List Value} {x : Int64} {u : UInt32} {ls : Array Slot} (hi : i < L.length) (hp : ∀ j w, j + 1 = i → L[j]? = some w → nl w = true)
    (h : lv_has ls mL ((i, .long x) :: (aLf B L).filter (fun q => !(q.1 == i) && (!(q.1 == i + 1) && !(q.1 + 1 == i && q.2.category == 2))))) : lv_has ls mL (aLf B ((L.set i (.long x)).set (i + 1) (.float u))) := by
  refine ⟨h.1, h.2.1, fun q hq => ?_⟩
  obtain ⟨j, w, h1, h2, rfl⟩ := aLf_mem.mp hq
  by_cases hj1 : j = i + 1
  · subst hj1
    by_cases hl : i + 1 < L.length
    · rw [List.getElem?_set_self (by simpa using hl)] at h1
      cases h1
      simp [nf] at h2
    · rw [List.getElem?_eq_none (by simp; omega)] at h1
      cases h1
  · rw [List.getElem?_set_ne (Ne.symm hj1)] at h1
    by_cases hj : j = i
    · subst hj
      rw [List.getElem?_set_self hi] at h1
      cases h1
      exact h.2.2 _ List.mem_cons_self
    · rw [List.getElem?_set_ne (Ne.symm hj)] at h1
      refine h.2.2 (j, cv B w) (List.mem_cons_of_mem _ (List.mem_filter.mpr ⟨aLf_mem.mpr ⟨j, w, h1, h2, rfl⟩, ?_⟩))
      by_cases hji : j + 1 = i
      · have := hp j w hji h1
        rw [cv_cat]
        cases w <;> simp_all [Value.category, nl]
      · simp [hj, hji, hj1]
/-- the locals with which a method begins -/
def exL : List Value → List Value
  | [] => []
  | .long x :: r => .long x :: .float 0 :: exL r
  | .double x :: r => .double x :: .float 0 :: exL r
  | v :: r => v :: exL r
theorem exL_args (B : Nat) : ∀ (av : List Value) (i j : Nat) (v : Value), (exL av)[j]? = some v → nf v = true → (i + j, cv B v) ∈ lv_args i (av.map (cv B))
  | [], i, j, v, h, _ => by simp [exL] at h
  | a :: r, i, j, v, h, hv => by
    have one : ∀ (w : Value), (cv B w).category = 1 → exL (w :: r) = w :: exL r → (exL (w :: r))[j]? = some v → (i + j, cv B v) ∈ lv_args i ((w :: r).map (cv B)) := by
      intro w hw he h
      rw [he] at h
      simp only [List.map_cons, lv_args, hw]
      cases j with
      | zero => simp at h; subst h; exact List.mem_cons_self
      | succ j =>
        simp at h
        have := exL_args B r (i + 1) j v h hv
        rw [show i + 1 + j = i + (j + 1) by omega] at this
        exact List.mem_cons_of_mem _ (by simpa using this)
    have two : ∀ (w : Value), (cv B w).category = 2 → exL (w :: r) = w :: .float 0 :: exL r → (exL (w :: r))[j]? = some v → (i + j, cv B v) ∈ lv_args i ((w :: r).map (cv B)) := by
      intro w hw he h
      rw [he] at h
      simp only [List.map_cons, lv_args, hw]
      match j, h with
      | 0, h => simp at h; subst h; exact List.mem_cons_self
      | 1, h => simp at h; subst h; simp [nf] at hv
      | j + 2, h =>
        simp at h
        have := exL_args B r (i + 2) j v h hv
        rw [show i + 2 + j = i + (j + 2) by omega] at this
        exact List.mem_cons_of_mem _ (by simpa using this)
    cases a with
    | long x => exact two _ rfl rfl h
    | double x => exact two _ rfl rfl h
    | _ => exact one _ rfl rfl h
theorem aLf_entry {B mL : Nat} {av : List Value} {ls : Array Slot} {t : Nat} (h : lv_has ls mL (lv_args 0 (av.map (cv B)))) : lv_has ls mL (aLf B (exL av ++ List.replicate t (.float 0))) := by
  refine ⟨h.1, h.2.1, fun q hq => ?_⟩
  obtain ⟨j, w, h1, h2, rfl⟩ := aLf_mem.mp hq
  by_cases hl : j < (exL av).length
  · rw [List.getElem?_append_left hl] at h1
    have := exL_args B av 0 j w h1 h2
    rw [Nat.zero_add] at this
    exact h.2.2 _ this
  · rw [List.getElem?_append_right (by omega)] at h1
    have := List.eq_of_mem_replicate (List.mem_of_getElem? h1)
    subst this
    simp [nf] at h2
/-! what is known of the tables, and of the static rows, at a state -/
def aK (D : va_G) (dA : Nat → ClassId) (U : State) : Prop := va_K D vwCl (aTy dA) U ∧ (∀ w ∈ nestQ, va_Nw (.methodLinkNest w.1 w.2.1 w.2.2.1 w.2.2.2) U) ∧ (va_AO RX5 U ∧ va_AO RX6 U ∧ va_AO RX8 U)
theorem aK.warm {D : va_G} {dA : Nat → ClassId} {s U : State} (hW : s.WarmedH U.vm) (h : aK D dA s) : aK D dA U := ⟨h.1.moved hW.alike, fun w hw => (h.2.1 w hw).warmM hW, h.2.2.1.moved hW.alike, h.2.2.2.1.moved hW.alike, h.2.2.2.2.moved hW.alike⟩
theorem aK.same {D : va_G} {dA : Nat → ClassId} {s U : State} (hv : s.vm = U.vm) (h : aK D dA s) : aK D dA U := ⟨h.1.moved (hv ▸ Vm.Alike.refl s.vm), fun w hw => (h.2.1 w hw).same rfl hv, h.2.2.1.moved (hv ▸ Vm.Alike.refl s.vm), h.2.2.2.1.moved (hv ▸ Vm.Alike.refl s.vm), h.2.2.2.2.moved (hv ▸ Vm.Alike.refl s.vm)⟩
def z_sets : Nat → Int32 := fun j => ([1, 14, 91, 364, 1001, 2002, 3003, 3432, 3003, 2002, 1001, 364, 91, 14, 1] : List Int32).getD j 0
def z_A : Nat → Int32 := fun j => ([31, 57, 83] : List Int32).getD j 0
def z_B : Nat → Int32 := fun j => ([7, 19, 5] : List Int32).getD j 0
def aZ1 (C f : String) (N : Nat) (g : Nat → Int32) (B : Nat) (U : State) : Prop := ∃ t : Nat, va_Z C f "[I" (.ref t) (fun q => B ≤ q) U U.heap ∧ va_T .int t N (fun j => .int (g j)) (fun q => B ≤ q) U U.heap
def aZ (B : Nat) (U : State) : Prop := aZ1 RX2 "SETS_BY_SIZE" 15 z_sets B U ∧ aZ1 RX7 "A" 3 z_A B U ∧ aZ1 RX7 "B" 3 z_B B U
theorem aZ1.to {C f : String} {N : Nat} {g : Nat → Int32} {B : Nat} {s U : State} {locs : List Loc} (h : aZ1 C f N g B s) (hvm : s.vm.Alike U.vm) (hS : va_S (fun q => B ≤ q) s.heap U.heap locs) : aZ1 C f N g B U := by
  obtain ⟨t, h1, h2⟩ := h
  exact ⟨t, (h1.kept hS.2.1).moved hvm, (h2.kept hS.2.1).moved hvm⟩
theorem aZ.to {B : Nat} {s U : State} {locs : List Loc} (h : aZ B s) (hvm : s.vm.Alike U.vm) (hS : va_S (fun q => B ≤ q) s.heap U.heap locs) : aZ B U := ⟨h.1.to hvm hS, h.2.1.to hvm hS, h.2.2.to hvm hS⟩
/-! the judgement -/
abbrev aG : Type := (Program × Launch × Env × Room × State × MethodId) × (Array Value × List Frame × Method × Code) × (va_G × (Nat → ClassId) × Nat) × (State → Prop)
/-- the machine at pc with these locals, this stack, the memory: it comes to a state with Q -/
def AW (G : aG) (mL n nc ns : Nat) (mu : aM) (ro : aR) (sg : aS) (pc : Nat) (L st : List Value) : Prop :=
  match G with
  | ((p, l, e, R, s, m), (args, below, meth, c), (D, dA, B), Q) => ∀ (H : Heap) (locs : List Loc) (ls : Array Slot), aP D dA B n mu ro sg H → va_S (fun q => B ≤ q) s.heap H locs → lv_has ls mL (aLf B L) → W p l e R s m args below meth c H locs nc ns Q (F0 m pc ls (st.map (cv B)))
/-- the frame's own facts: code, tables, room, where its heap began -/
def Cx (G : aG) (mL d n0 o : Nat) (cc : ByteArray) : Prop :=
  match G with
  | ((p, _, _, R, s, m), (args, _, meth, c), (D, dA, B), _) => p.tables.exec = Jvm.exec ∧ c.code = cc ∧ c.maxLocals = mL ∧ s.vm.findClass (RN o) = some m.cls ∧ (∀ w ∈ tgw, w.before args s = true) ∧ meth.locks = false ∧ aK D dA s ∧ aZ B s ∧ s.heap.size = B + n0 ∧ d ≤ R.frames ∧ 64 * d ≤ R.locals
theorem W.sized {p : Program} {l : Launch} {e : Env} {R : Room} {s : State} {m : MethodId} {args : Array Value} {below : List Frame} {meth : Method} {c : Code} {H : Heap} {locs : List Loc} {cells slots : Nat} {Q : State → Prop} {g : JFrame} (h : H.size ≤ s.heap.size + cells → W p l e R s m args below meth c H locs cells slots Q g) : W p l e R s m args below meth c H locs cells slots Q g := by
  intro T hT X
  have h1 : T.heap.size ≤ s.heap.size + cells := X.same.2.2.1
  rw [hT] at h1
  exact h h1 T hT X
theorem aP.size {D : va_G} {dA : Nat → ClassId} {B n n0 nc : Nat} {mu : aM} {ro : aR} {sg : aS} {H H0 : Heap} {locs : List Loc} (h : aP D dA B n mu ro sg H) (hS : va_S (fun q => B ≤ q) H0 H locs) (h0 : H0.size = B + n0) (hn : n = n0 + nc) (hz : H.size ≤ H0.size + nc) : H.size = B + n := by
  have h1 := hS.1
  cases n with
  | zero => omega
  | succ k =>
    have := (h.1 k _ (aW_at (Nat.lt_succ_self k))).lt
    simp only at this
    omega
