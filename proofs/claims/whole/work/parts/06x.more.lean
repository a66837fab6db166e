/-! part 06x: the instructions that vcI has not: Math, static rows, System.arraycopy -/
theorem cw_nat : Cond.native arraycopyName ∈ tgw := tgw_at (i := 609) (by decide +kernel) rfl
theorem cw_sta : Cond.static arraycopyName ∈ tgw := tgw_at (i := 608) (by decide +kernel) rfl
theorem cw_ini : Cond.initialized "java/lang/System" ∈ tgw := tgw_at (i := 75) (by decide +kernel) rfl
section MORE
variable {G : aG} {mL d n0 o n nc ns pc : Nat} {cc : ByteArray} {mu : aM} {ro : aR} {sg : aS} {L st : List Value}
theorem mw_max : Cond.code Lib.Math.max.name Lib.Math.max.code 2 (some .int) ∈ tgw := mcode 252 (by decide)
theorem mw_min : Cond.code Lib.Math.min.name Lib.Math.min.code 2 (some .int) ∈ tgw := mcode 253 (by decide)
theorem av_max {i : Nat} {x y : Int32} (hC : Cx G mL d n0 o cc) (hRm : Rm G nc ns) (hd : dk cc pc = some (.invokestatic i)) (hk : cres o i = some 252) (hr8 : cs st ≤ 8) (hd1 : 1 ≤ d) (h : AW G mL n nc ns mu ro sg (pc + 3) L (.int (if x < y then y else x) :: st)) : AW G mL n nc ns mu ro sg pc L (.int y :: .int x :: st) := by
  obtain ⟨⟨p, l, e, R, s, m⟩, ⟨args, below, meth, c⟩, ⟨D, dA, B⟩, Q⟩ := G
  obtain ⟨hx, hb, hml, hown, hts, hlk, hkk, hz, h0, hf, hlo⟩ := hC
  obtain ⟨k1, k2⟩ := cres_ok hk
  obtain ⟨o1, o2, o3, o4, o5, o6, o7, o8⟩ := okM_spec k1
  intro H locs ls hP hS hl
  rcases k2 with k2 | k2
  · exact va_mmax hx hb (hml.trans hl.1.symm) hown (hts _ k2) (hts _ (o1 (by decide +kernel))) (hts _ o3) (hts _ mw_max) (by omega) (by rw [cs_map]; omega) hRm.1 hRm.2 (dk_1 hd rfl) (h H locs ls hP hS hl)
  · exact absurd rfl ((show ∀ w ∈ nestQ, w.2.2.1 ≠ yM 252 by decide +kernel) _ k2)
theorem av_min {i : Nat} {x y : Int32} (hC : Cx G mL d n0 o cc) (hRm : Rm G nc ns) (hd : dk cc pc = some (.invokestatic i)) (hk : cres o i = some 253) (hr8 : cs st ≤ 8) (hd1 : 1 ≤ d) (h : AW G mL n nc ns mu ro sg (pc + 3) L (.int (if y < x then y else x) :: st)) : AW G mL n nc ns mu ro sg pc L (.int y :: .int x :: st) := by
  obtain ⟨⟨p, l, e, R, s, m⟩, ⟨args, below, meth, c⟩, ⟨D, dA, B⟩, Q⟩ := G
  obtain ⟨hx, hb, hml, hown, hts, hlk, hkk, hz, h0, hf, hlo⟩ := hC
  obtain ⟨k1, k2⟩ := cres_ok hk
  obtain ⟨o1, o2, o3, o4, o5, o6, o7, o8⟩ := okM_spec k1
  intro H locs ls hP hS hl
  rcases k2 with k2 | k2
  · exact va_mmin hx hb (hml.trans hl.1.symm) hown (hts _ k2) (hts _ (o1 (by decide +kernel))) (hts _ o3) (hts _ mw_min) (by omega) (by rw [cs_map]; omega) hRm.1 hRm.2 (dk_1 hd rfl) (h H locs ls hP hS hl)
  · exact absurd rfl ((show ∀ w ∈ nestQ, w.2.2.1 ≠ yM 253 by decide +kernel) _ k2)
/-- a static row is read: getstatic, iload, iaload -/
theorem av_tab {i N : Nat} {j : Fin 4} {C f : String} {g : Nat → Int32} {x : Int32} (hC : Cx G mL d n0 o cc) (hZ : ∀ B U, aZ B U → aZ1 C f N g B U) (hd : dk cc pc = some (.getstatic i)) (hw : Cond.fieldLink (RN o) i C f "[I" ∈ tgw) (hd2 : dk cc (pc + 3) = some (.iload_n j)) (hx9 : lg L (j : Nat) = .int x) (hd3 : dk cc (pc + 4) = some .iaload) (hin : vp_in x N)
    (h : AW G mL n nc ns mu ro sg (pc + 5) L (.int (g x.toNatClampNeg) :: st)) : AW G mL n nc ns mu ro sg pc L st := by
  obtain ⟨⟨p, l, e, R, s, m⟩, ⟨args, below, meth, c⟩, ⟨D, dA, B⟩, Q⟩ := G
  obtain ⟨hx, hb, hml, hown, hts, hlk, hkk, hz, h0, hf, hlo⟩ := hC
  obtain ⟨t, z1, z2⟩ := hZ B s hz
  intro H locs ls hP hS hl
  refine va_gets hx hb z1 hS hown (hts _ hw) (fun _ h9 => h9) (dk_1 hd rfl) ?_
  refine lv_iload_n hx hb (dk_1 hd2 rfl) rfl (lg_has hl hx9 rfl) ?_
  exact va_ti hx hb z2 hS hin rfl (dk_1 hd3 rfl) (h H locs ls hP hS hl)
/-- System.arraycopy of ints -/
theorem av_copy {i a b : Nat} {sp dp w : Int32} (hC : Cx G mL d n0 o cc) (hd : dk cc pc = some (.invokestatic i)) (hw : Cond.methodLink (RN o) i arraycopyName ∈ tgw) (hr8 : cs st ≤ 8) (hd1 : 1 ≤ d) (ha : (mu a).1 = 1) (hb1 : (mu b).1 = 1) (h1 : ¬ sp < 0) (h2 : ¬ dp < 0) (h3 : ¬ w < 0) (h4 : sp.toNatClampNeg + w.toNatClampNeg ≤ (mu a).2) (h5 : dp.toNatClampNeg + w.toNatClampNeg ≤ (mu b).2)
    (h : AW G mL n nc ns mu ro (va_up sg b (va_cpy (sg a) (sg b) sp.toNatClampNeg dp.toNatClampNeg w.toNatClampNeg)) (pc + 3) L st) : AW G mL n nc ns mu ro sg pc L (.int w :: .int dp :: .ref b :: .int sp :: .ref a :: st) := by
  obtain ⟨⟨p, l, e, R, s, m⟩, ⟨args, below, meth, c⟩, ⟨D, dA, B⟩, Q⟩ := G
  obtain ⟨hx, hb, hml, hown, hts, hlk, hkk, hz, h0, hf, hlo⟩ := hC
  intro H locs ls hP hS hl
  have han : a < n := hP.lt (by rw [ha]; omega)
  have hbn : b < n := hP.lt (by rw [hb1]; omega)
  have hea := aW_at (dA := dA) (B := B) (mu := mu) (ro := ro) (sg := sg) han
  have heb := aW_at (dA := dA) (B := B) (mu := mu) (ro := ro) (sg := sg) hbn
  rw [aE_int ha] at hea
  rw [aE_int hb1] at heb
  refine va_copyi hx hb (hml.trans hl.1.symm) hown (hts _ hw) (hts _ cw_nat) (hts _ cw_sta) (hts _ cw_ini) hkk.1 hP.1 (aD dA B n mu ro sg) hS a b 0 0 hea heb rfl rfl rfl h1 h2 h3 h4 h5 (fun _ _ => rfl) (by omega) ?_ (dk_1 hd rfl) (fun H1 locs1 hP1 _ hS1 => ?_)
  · have e1 : nativeFrameWords "java/lang/System" "arraycopy" 5 ≤ 40 := by decide +kernel
    rw [cs_map]
    omega
  · refine h H1 locs1 ls (hP.set hbn (fun c hc => va_up_ne _ _ hc) (fun _ _ => rfl) ?_) hS1 hl
    rw [aE_int hb1, va_up_self]
    exact hP1
end MORE
