/-! part 06y: what makes objects and rows; constructors; contracts that make something -/
theorem ow_ins : Cond.instanceMethod objectInit ∈ tgw := tgw_at (i := 83) (by decide +kernel) rfl
theorem ow_cod : Cond.code objectInit ⟨#[0xb1]⟩ 1 none ∈ tgw := tgw_at (i := 84) (by decide +kernel) rfl
theorem aw_int : Cond.arrayClass .int ∈ tgw := tgw_at (i := 130) (by decide +kernel) rfl
theorem aw_boo : Cond.arrayClass .boolean ∈ tgw := tgw_at (i := 1173) (by decide +kernel) rfl
theorem dfN : ∀ ci, ci < 13 → ∀ j, j < nN ci → defaultValue (tyN ci j) = (if kdT (tyN ci j) = 1 then .int 0 else if kdT (tyN ci j) = 2 then .long 0 else .null) ∧ kdT (tyN ci j) ≤ 2 := by decide +kernel
def Mn (G : aG) : Prop := match G with
  | ((_, _, _, _, _, _), (_, _, meth, _), _, _) => meth.name = "<init>"
/-- where the new cell lies -/
theorem new_at {D : va_G} {dA : Nat → ClassId} {B n q : Nat} {mu : aM} {ro : aR} {sg : aS} {H1 : Heap} {e : va_E} (hP : va_P D vwCl (aW dA B n mu ro sg ++ [(q, e)]) H1) (hD : va_D (fun q => B ≤ q) (aW dA B n mu ro sg ++ [(q, e)])) (hz : H1.size ≤ B + n + 1) : q = B + n := by
  have hlen : (aW dA B n mu ro sg).length = n := by simp [aW]
  have h1 : (aW dA B n mu ro sg ++ [(q, e)])[n]? = some (q, e) := by
    rw [List.getElem?_append_right (by omega), hlen]
    simp
  have h2 := (hP n _ h1).lt
  have h3 := hD.2 n _ h1
  simp only at h2 h3
  rcases Nat.lt_or_ge q (B + n) with hq | hq
  · have h4 : (aW dA B n mu ro sg ++ [(q, e)])[q - B]? = some (B + (q - B), aE dA B (mu (q - B)) (ro (q - B)) (sg (q - B))) := by
      rw [List.getElem?_append_left (by omega)]
      exact aW_at (by omega)
    have := hD.1 (q - B) n _ _ h4 h1 (by show B + (q - B) = q; omega)
    omega
  · omega
section ALC
variable {G : aG} {mL d n0 o n nc ns pc mc ms : Nat} {cc : ByteArray} {mu : aM} {ro : aR} {sg : aS} {L st : List Value}
theorem av_objInit {i a : Nat} (hC : Cx G mL d n0 o cc) (hd : dk cc pc = some (.invokespecial i)) (hw : Cond.methodLink (RN o) i objectInit ∈ tgw) (hr8 : cs st ≤ 8) (hd1 : 1 ≤ d) (h : AW G mL n nc ns mu ro sg (pc + 3) L st) : AW G mL n nc ns mu ro sg pc L (.ref a :: st) := by
  obtain ⟨⟨p, l, e, R, s, m⟩, ⟨args, below, meth, c⟩, ⟨D, dA, B⟩, Q⟩ := G
  obtain ⟨hx, hb, hml, hown, hts, hlk, hkk, hz, h0, hf, hlo⟩ := hC
  intro H locs ls hP hS hl
  refine W.objInit hx hb hown (hts _ hw) (hts _ ow_ins) (hts _ ow_cod) rfl (by rw [hml]; exact hl.1) rfl (dk_1 hd rfl) (by omega) ?_ (h H locs ls hP hS hl)
  have : ((st.map (cv B)).map fun v => v.category).sum = cs st := cs_map B st
  show 2 * 0 + ((st.map (cv B)).map fun v => v.category).sum + 12 ≤ R.locals
  omega
theorem av_new {i ci : Nat} (hC : Cx G mL d n0 o cc) (hn : n = n0 + nc) (hRm : Rm G (nc + 1) (ns + nN ci)) (hd : dk cc pc = some (.new i)) (hci : ci < 13) (hw1 : Cond.classLink (RN o) i (RN ci) ∈ tgw) (hw2 : Cond.instantiable (RN ci) (nN ci) ∈ tgw) (hw3 : Cond.initialized (RN ci) ∈ tgw)
    (h : AW G mL (n + 1) (nc + 1) (ns + nN ci) (va_up mu n (10 + ci, nN ci)) (va_up ro n (fun _ => none)) (va_up sg n (fun _ => 0)) (pc + 3) L (.ref n :: st)) : AW G mL n nc ns mu ro sg pc L st := by
  obtain ⟨⟨p, l, e, R, s, m⟩, ⟨args, below, meth, c⟩, ⟨D, dA, B⟩, Q⟩ := G
  obtain ⟨hx, hb, hml, hown, hts, hlk, hkk, hz, h0, hf, hlo⟩ := hC
  intro H locs ls hP hS hl
  refine va_new (D := D) (fs := aF B ci (fun _ => none) (fun _ => 0)) hx hb hts (inT ci hci) (tyN ci) (tyN_ok ci hci) hown (hts _ hw1) (hts _ hw2) (hts _ hw3) hkk.1 hP.1 (aD dA B n mu ro sg) hS (fun q hq => by show B ≤ q; omega) (vwCl_at ci hci) (fun j hj => ?_) hRm.1 hRm.2 (dk_1 hd rfl) (fun q H1 hP1 hD1 hS1 => W.sized (fun hsz => ?_))
  · rw [vp_V, List.getD_eq_getElem?_getD, aF_at hj, (dfN ci hci j hj).1]
    have h2 := (dfN ci hci j hj).2
    rcases (show kdT (tyN ci j) = 0 ∨ kdT (tyN ci j) = 1 ∨ kdT (tyN ci j) = 2 by omega) with q | q | q
    · rw [q]; rfl
    · rw [q]; rfl
    · rw [q]
      show Value.long 0 = Value.long (jl 0 0)
      rw [jl_00]
  · have hq := new_at hP1 hD1 (by omega)
    subst hq
    refine h H1 locs ls (aP.push hP.2 (fun b hb => va_up_ne _ _ hb) (fun b hb => va_up_ne _ _ hb) (fun b hb => va_up_ne _ _ hb) ?_) hS1 hl
    rw [va_up_self, va_up_self, va_up_self, aE_obj (N := 0) (ci := ci) rfl]
    exact hP1
theorem cls_same {D : va_G} {dA : Nat → ClassId} {s : State} {cA : ClassId} {ty : FieldType} (k : Nat) (hk : (aTy dA)[k]? = some (dA (k + 1), ty)) (h : va_K D vwCl (aTy dA ++ [(cA, ty)]) s) : cA = dA (k + 1) := by
  have h1 := (h.2 k (dA (k + 1), ty) (by rw [List.getElem?_append_left (List.getElem?_eq_some_iff.mp hk).1]; exact hk)).2
  have h2 := (h.2 5 (cA, ty) (by simp [aTy])).2
  cases ty with
  | object C =>
    obtain ⟨_, _, _, _, _, e1⟩ := h1
    obtain ⟨_, _, _, _, _, e2⟩ := h2
    exact Option.some.inj (e2.symm.trans e1)
  | _ => exact Option.some.inj (Eq.trans (Eq.symm h2) h1)
theorem av_newI {w : Int32} {N : Nat} (hC : Cx G mL d n0 o cc) (hn : n = n0 + nc) (hRm : Rm G (nc + 1) (ns + N)) (hd : dk cc pc = some (.newarray .int)) (hw : ¬ w < 0) (hN : w.toNatClampNeg = N) (hN2 : N ≤ 100000)
    (h : AW G mL (n + 1) (nc + 1) (ns + N) (va_up mu n (1, N)) (va_up ro n (fun _ => none)) (va_up sg n (fun _ => 0)) (pc + 2) L (.ref n :: st)) : AW G mL n nc ns mu ro sg pc L (.int w :: st) := by
  obtain ⟨⟨p, l, e, R, s, m⟩, ⟨args, below, meth, c⟩, ⟨D, dA, B⟩, Q⟩ := G
  obtain ⟨hx, hb, hml, hown, hts, hlk, hkk, hz, h0, hf, hlo⟩ := hC
  intro H locs ls hP hS hl
  refine va_newa (atype := .int) (ty := .int) (a0 := (N, .inl (fun _ => 0))) hx hb (hts _ aw_int) rfl hkk.1 hP.1 (aD dA B n mu ro sg) hS (fun q hq => by show B ≤ q; omega) (fun _ => rfl) hw hN (by show N * 4 ≤ _; omega) hRm.1 hRm.2 (dk_1 hd rfl) (fun q cA H1 hK1 hP1 hD1 hS1 => W.sized (fun hsz => ?_))
  have hq := new_at hP1 hD1 (by omega)
  subst hq
  have hcA := cls_same 0 rfl hK1
  subst hcA
  refine h H1 locs ls (aP.push hP.2 (fun b hb => va_up_ne _ _ hb) (fun b hb => va_up_ne _ _ hb) (fun b hb => va_up_ne _ _ hb) ?_) hS1 hl
  rw [va_up_self, va_up_self, va_up_self, aE_int rfl]
  exact hP1
theorem av_newZ {w : Int32} {N : Nat} (hC : Cx G mL d n0 o cc) (hn : n = n0 + nc) (hRm : Rm G (nc + 1) (ns + N)) (hd : dk cc pc = some (.newarray .boolean)) (hw : ¬ w < 0) (hN : w.toNatClampNeg = N) (hN2 : N ≤ 100000)
    (h : AW G mL (n + 1) (nc + 1) (ns + N) (va_up mu n (2, N)) (va_up ro n (fun _ => none)) (va_up sg n (fun _ => 0)) (pc + 2) L (.ref n :: st)) : AW G mL n nc ns mu ro sg pc L (.int w :: st) := by
  obtain ⟨⟨p, l, e, R, s, m⟩, ⟨args, below, meth, c⟩, ⟨D, dA, B⟩, Q⟩ := G
  obtain ⟨hx, hb, hml, hown, hts, hlk, hkk, hz, h0, hf, hlo⟩ := hC
  intro H locs ls hP hS hl
  refine va_newa (atype := .boolean) (ty := .boolean) (a0 := (N, .inl (fun _ => 0))) hx hb (hts _ aw_boo) rfl hkk.1 hP.1 (aD dA B n mu ro sg) hS (fun q hq => by show B ≤ q; omega) (fun _ => rfl) hw hN (by show N * 1 ≤ _; omega) hRm.1 hRm.2 (dk_1 hd rfl) (fun q cA H1 hK1 hP1 hD1 hS1 => W.sized (fun hsz => ?_))
  have hq := new_at hP1 hD1 (by omega)
  subst hq
  have hcA := cls_same 1 rfl hK1
  subst hcA
  refine h H1 locs ls (aP.push hP.2 (fun b hb => va_up_ne _ _ hb) (fun b hb => va_up_ne _ _ hb) (fun b hb => va_up_ne _ _ hb) ?_) hS1 hl
  rw [va_up_self, va_up_self, va_up_self, aE_boo rfl]
  exact hP1
theorem av_newQ {i N kd : Nat} {w : Int32} {C : String} (hC : Cx G mL d n0 o cc) (hn : n = n0 + nc) (hRm : Rm G (nc + 1) (ns + N)) (hd : dk cc pc = some (.anewarray i)) (hw : ¬ w < 0) (hN : w.toNatClampNeg = N) (hN2 : N ≤ 100000) (hw1 : Cond.classLink (RN o) i C ∈ tgw) (hkd : (kd = 3 ∧ C = RX5) ∨ (kd = 4 ∧ C = RX6) ∨ (kd = 5 ∧ C = RX8))
    (h : AW G mL (n + 1) (nc + 1) (ns + N) (va_up mu n (kd, N)) (va_up ro n (fun _ => none)) (va_up sg n (fun _ => 0)) (pc + 3) L (.ref n :: st)) : AW G mL n nc ns mu ro sg pc L (.int w :: st) := by
  obtain ⟨⟨p, l, e, R, s, m⟩, ⟨args, below, meth, c⟩, ⟨D, dA, B⟩, Q⟩ := G
  obtain ⟨hx, hb, hml, hown, hts, hlk, hkk, hz, h0, hf, hlo⟩ := hC
  intro H locs ls hP hS hl
  have hov : va_AO C s := by
    rcases hkd with ⟨-, rfl⟩ | ⟨-, rfl⟩ | ⟨-, rfl⟩
    · exact hkk.2.2.1
    · exact hkk.2.2.2.1
    · exact hkk.2.2.2.2
  refine va_newq hx hb hown (hts _ hw1) hov hkk.1 hP.1 (aD dA B n mu ro sg) hS (fun q hq => by show B ≤ q; omega) hw hN (by omega) hRm.1 hRm.2 (dk_1 hd rfl) (fun q cA H1 hK1 hP1 hD1 hS1 => W.sized (fun hsz => ?_))
  have hq := new_at hP1 hD1 (by omega)
  subst hq
  have hcA : cA = dA kd := by
    rcases hkd with ⟨rfl, rfl⟩ | ⟨rfl, rfl⟩ | ⟨rfl, rfl⟩
    · exact cls_same 2 rfl hK1
    · exact cls_same 3 rfl hK1
    · exact cls_same 4 rfl hK1
  subst hcA
  refine h H1 locs ls (aP.push hP.2 (fun b hb => va_up_ne _ _ hb) (fun b hb => va_up_ne _ _ hb) (fun b hb => va_up_ne _ _ hb) ?_) hS1 hl
  rw [va_up_self, va_up_self, va_up_self, aE_ref (q := (kd, N)) (by show 3 ≤ kd; omega) (by show kd ≤ 5; omega)]
  exact hP1
/-- a final int field is set, in a constructor -/
theorem av_putI {i a ci k : Nat} {x : Int32} (hC : Cx G mL d n0 o cc) (hM : Mn G) (hd : dk cc pc = some (.putfield i)) (hf9 : fres o i = some (ci, k, 1, true)) (hoc : o = ci) (hbo : isBo (tyN ci k) = false) (ha : (mu a).1 = 10 + ci)
    (h : AW G mL n nc ns mu ro (s2 sg a k x) (pc + 3) L st) : AW G mL n nc ns mu ro sg pc L (.int x :: .ref a :: st) := by
  obtain ⟨⟨p, l, e, R, s, m⟩, ⟨args, below, meth, c⟩, ⟨D, dA, B⟩, Q⟩ := G
  obtain ⟨hx, hb, hml, hown, hts, hlk, hkk, hz, h0, hf, hlo⟩ := hC
  intro H locs ls hP hS hl
  obtain ⟨g1, g2, g3, g4, g5, g6⟩ := fres_ok hf9
  have han : a < n := hP.lt (by rw [ha]; omega)
  have he := aW_at (dA := dA) (B := B) (mu := mu) (ro := ro) (sg := sg) han
  rw [aE_obj (N := 0) ha] at he
  obtain ⟨nr, ft⟩ := narrow_I (x := x) g4 (fun q => by rw [hbo] at q; cases q)
  refine va_putF (D := D) (v := .int x) (ty := tyN ci k) hx hb hts (inT ci g2) (tyN ci) (tyN_ok ci g2) (nmN_ok ci g2) hown hkk.1 hP.1 (aD dA B n mu ro sg) hS a he (vwCl_at ci g2) k g3 (hts _ g1) (fun _ h9 => h9) g5 hM (by rw [g6, hoc]) (tyN_ok ci g2 k g3) nr ft (by rw [aF_len]; exact g3) (dk_1 hd rfl) (fun H1 locs1 hP1 _ hS1 => ?_)
  refine h H1 locs1 ls (hP.set han (fun b hb => s2_ne hb) (fun _ _ => rfl) ?_) hS1 hl
  rw [aE_obj (N := 0) ha, s2_eq, ← aF_set g2 g3 g4]
  exact hP1
/-- a final field gets a reference, in a constructor -/
theorem av_putR {i a ci k b : Nat} (hC : Cx G mL d n0 o cc) (hM : Mn G) (hd : dk cc pc = some (.putfield i)) (hf9 : fres o i = some (ci, k, 0, true)) (hoc : o = ci) (ha : (mu a).1 = 10 + ci) (hty : ∀ v, narrow (tyN ci k) (.ref v) = .ref v ∧ fits (tyN ci k) (.ref v) = true)
    (h : AW G mL n nc ns mu (r2 ro a k (some b)) sg (pc + 3) L st) : AW G mL n nc ns mu ro sg pc L (.ref b :: .ref a :: st) := by
  obtain ⟨⟨p, l, e, R, s, m⟩, ⟨args, below, meth, c⟩, ⟨D, dA, B⟩, Q⟩ := G
  obtain ⟨hx, hb, hml, hown, hts, hlk, hkk, hz, h0, hf, hlo⟩ := hC
  intro H locs ls hP hS hl
  obtain ⟨g1, g2, g3, g4, g5, g6⟩ := fres_ok hf9
  have han : a < n := hP.lt (by rw [ha]; omega)
  have he := aW_at (dA := dA) (B := B) (mu := mu) (ro := ro) (sg := sg) han
  rw [aE_obj (N := 0) ha] at he
  refine va_putF (D := D) (v := .ref (B + b)) (ty := tyN ci k) hx hb hts (inT ci g2) (tyN ci) (tyN_ok ci g2) (nmN_ok ci g2) hown hkk.1 hP.1 (aD dA B n mu ro sg) hS a he (vwCl_at ci g2) k g3 (hts _ g1) (fun _ h9 => h9) g5 hM (by rw [g6, hoc]) (tyN_ok ci g2 k g3) (hty _).1 (hty _).2 (by rw [aF_len]; exact g3) (dk_1 hd rfl) (fun H1 locs1 hP1 _ hS1 => ?_)
  refine h H1 locs1 ls (hP.set han (fun _ _ => rfl) (fun b hb => r2_ne hb) ?_) hS1 hl
  rw [aE_obj (N := 0) ha, r2_eq, ← aF_setr g3 g4]
  exact hP1
/-- an object comes into a row of references -/
theorem av_aast {a b ci : Nat} {i : Int32} (hC : Cx G mL d n0 o cc) (hd : dk cc pc = some .aastore) (hk : ((mu a).1 = 3 ∧ ci = 5) ∨ ((mu a).1 = 4 ∧ ci = 6) ∨ ((mu a).1 = 5 ∧ ci = 8)) (hb9 : (mu b).1 = 10 + ci) (hin : vp_in i (mu a).2)
    (h : AW G mL n nc ns mu (r2 ro a i.toNatClampNeg (some b)) sg (pc + 1) L st) : AW G mL n nc ns mu ro sg pc L (.ref b :: .int i :: .ref a :: st) := by
  obtain ⟨⟨p, l, e, R, s, m⟩, ⟨args, below, meth, c⟩, ⟨D, dA, B⟩, Q⟩ := G
  obtain ⟨hx, hb, hml, hown, hts, hlk, hkk, hz, h0, hf, hlo⟩ := hC
  intro H locs ls hP hS hl
  have hm3 : 3 ≤ (mu a).1 ∧ (mu a).1 ≤ 5 := by omega
  have han : a < n := hP.lt (by omega)
  have hbn : b < n := hP.lt (by rw [hb9]; omega)
  have he := aW_at (dA := dA) (B := B) (mu := mu) (ro := ro) (sg := sg) han
  have he2 := aW_at (dA := dA) (B := B) (mu := mu) (ro := ro) (sg := sg) hbn
  rw [aE_ref hm3.1 hm3.2] at he
  rw [aE_obj (N := 0) hb9] at he2
  have hci : ci < 13 := by omega
  have fin : ∀ (H1 : Heap) (locs1 : List Loc), va_P D vwCl ((aW dA B n mu ro sg).set a (B + a, .inl (dA (mu a).1, (mu a).2, .inr (.inr (.inr (.inr (va_up (fun i => rb B (ro a i)) i.toNatClampNeg (some (B + b))))))))) H1 → va_S (fun q => B ≤ q) s.heap H1 locs1 → W p l e R s m args below meth c H1 locs1 nc ns Q (F0 m (pc + 1) ls (st.map (cv B))) := by
    intro H1 locs1 hP1 hS1
    refine h H1 locs1 ls (hP.set han (fun _ _ => rfl) (fun b hb => r2_ne hb) ?_) hS1 hl
    rw [aE_ref hm3.1 hm3.2, r2_eq]
    have : (fun j => rb B (va_up (ro a) i.toNatClampNeg (some b) j)) = va_up (fun i => rb B (ro a i)) i.toNatClampNeg (some (B + b)) := by
      funext j
      by_cases hj : j = i.toNatClampNeg <;> simp [va_up, hj, rb]
    rw [this]
    exact hP1
  rcases hk with ⟨q, rfl⟩ | ⟨q, rfl⟩ | ⟨q, rfl⟩
  · rw [q] at he fin
    exact va_astq hx hb hkk.1 hP.1 (aD dA B n mu ro sg) hS a 2 b 5 (r := (RN 5, TN 5, nN 5)) he rfl he2 rfl hin (dk_1 hd rfl) (fun H1 locs1 hP1 _ hS1 => fin H1 locs1 hP1 hS1)
  · rw [q] at he fin
    exact va_astq hx hb hkk.1 hP.1 (aD dA B n mu ro sg) hS a 3 b 6 (r := (RN 6, TN 6, nN 6)) he rfl he2 rfl hin (dk_1 hd rfl) (fun H1 locs1 hP1 _ hS1 => fin H1 locs1 hP1 hS1)
  · rw [q] at he fin
    exact va_astq hx hb hkk.1 hP.1 (aD dA B n mu ro sg) hS a 4 b 8 (r := (RN 8, TN 8, nN 8)) he rfl he2 rfl hin (dk_1 hd rfl) (fun H1 locs1 hP1 _ hS1 => fin H1 locs1 hP1 hS1)
/-- a constructor is called -/
theorem av_special {k i b : Nat} {av rest : List Value} {KA : Option Value → Nat → aM → aR → aS → Prop} (hC : Cx G mL d n0 o cc) (hn : n = n0 + nc) (hRm : Rm G (nc + mc) (ns + ms)) (hd : dk cc pc = some (.invokespecial i)) (hk : cres o i = some k) (hst : sM k = false) (hin : (yM k).name = "<init>") (hret : rM k = none) (hr8 : cs rest ≤ 8) (hd1 : 1 ≤ d) (ht : takeA (pM k + 1) [] st = some (.ref b :: av, rest))
    (hM : aCallA mc ms (d - 1) k (.ref b :: av) n mu ro sg KA) (hK : ∀ r n' mu' ro' sg', KA r n' mu' ro' sg' → AW G mL n' (nc + mc) (ns + ms) mu' ro' sg' (pc + 3) L (r.toList ++ rest)) : AW G mL n nc ns mu ro sg pc L st := by
  obtain ⟨⟨p, l, e, R, s, m⟩, ⟨args, below, meth, c⟩, ⟨D, dA, B⟩, Q⟩ := G
  obtain ⟨hx, hb, hml, hown, hts, hlk, hkk, hz, h0, hf, hlo⟩ := hC
  obtain ⟨k1, k2⟩ := cres_ok hk
  obtain ⟨o1, o2, o3, o4, o5, o6, o7, o8⟩ := okM_spec k1
  obtain ⟨t, t1, t2, t3⟩ := takeA_ok _ _ _ _ _ ht
  intro H locs ls hP hS hl
  refine W.sized (fun hsz => ?_)
  have hsz2 := hP.size hS h0 hn hsz
  have hdd := dk_1 hd rfl
  have ht2 : t = av.reverse ++ [.ref b] := by
    have : t.reverse = .ref b :: av := by simpa using t2.symm
    have := congrArg List.reverse this
    simpa using this
  have hstack : st.map (cv B) = (av.map (cv B)).reverse ++ .ref (B + b) :: rest.map (cv B) := by rw [t1, ht2]; simp [cv]
  have hlen : (av.map (cv B)).length = pM k := by
    rw [ht2] at t3
    simpa using t3
  have hroom : 2 * (F0 m pc ls (st.map (cv B))).monitorRoom + ((rest.map (cv B)).map fun v => v.category).sum ≤ 8 := lv_room (by rw [cs_map]; exact hr8)
  have hRR : (d - 1) + 1 ≤ R.frames ∧ 8 + (lM k + 11) + 64 * (d - 1) ≤ R.locals := by omega
  have hgk := good_k k1
  have hMM := hM l D dA B
  rw [hret] at hgk hMM
  have hpre : PreS s H (va_Pc ((Value.ref b :: av).map (cv B)) (aPre D dA B n mu ro sg)) (.ref (B + b) :: av.map (cv B)) := ⟨aPre_blind, fun U hU hW => ⟨rfl, by rw [hU]; exact hP, hkk.warm hW, hz.to (locs := locs) hW.alike (by rw [hU]; exact hS), by rw [hU]; exact hsz2⟩⟩
  have hrun : va_Run p l e R s m args below meth c H locs nc ns mc ms (F0 m pc ls (st.map (cv B))) (rest.map (cv B)) (aQ D dA B (fun r n' mu' ro' sg' => rtOk none r ∧ KA r n' mu' ro' sg') (Value.ref (B + b) :: av.map (cv B)).toArray) (fun q => B ≤ q) := by
    rcases k2 with k2 | k2
    · exact va_runI ⟨hx, hb, hml, hown, hts⟩ hMM ⟨callB_of (pM k) hts hgk rfl rfl rfl (hts _ o3) (hts _ k2) o6 hRR, hin, hts _ (o2 hst)⟩ hpre rfl hlen hl.1 hstack hroom hdd hRm
    · exact va_runIN ⟨hx, hb, hml, hown, hts⟩ hMM ⟨va_cnB (pM k) hts hgk rfl rfl rfl (hkk.2.1 _ k2) (hts _ o3) o6 hRR, hin, hts _ (o2 hst)⟩ hpre rfl hlen hl.1 hstack hroom hdd hRm
  refine aw_call hrun hS (fun r n' mu' ro' sg' H1 locs1 hKA hP1 _ hS1 => ?_)
  have := hK r n' mu' ro' sg' hKA.2 H1 locs1 ls hP1 hS1 hl
  rw [map_app] at this
  exact this
end ALC
/-- a contract begins: what may make something -/
theorem aCallA_start {k d n mL o mc ms : Nat} {cc : ByteArray} {ret : Option FieldType} {nm : String} {av : List Value} {mu : aM} {ro : aR} {sg : aS} {K : Option Value → Nat → aM → aR → aS → Prop} (t : Nat) (hk : k < 255) (hpl : plainName (yM k).cls = true) (hm : lM k = mL) (hc : cM k = cc) (ho : oM k = o) (hr : rM k = ret) (hnm : (yM k).name = nm) (hl : (exL av).length ≤ mL)
    (h : ∀ G : aG, Cx G mL d n o cc → (nm = "<init>" → Mn G) → (∀ nc ns, nc ≤ mc → ns ≤ ms → Rm G nc ns) → (∀ n' nc ns mu' ro', n' = n + nc → nc ≤ mc → ns ≤ ms → RP G mL nc ns cc o d n' mu' ro' (fun r sg' => rtOk ret r ∧ K r n' mu' ro' sg')) → AW G mL n 0 0 mu ro sg 0 (exL av ++ List.replicate t (.float 0)) []) : aCallA mc ms d k av n mu ro sg K := by
  intro l D dA B
  subst hm; subst hc; subst ho; subst hr; subst hnm
  refine Met.ofW (cc := cM k) (maxL := lM k) (ret := rM k) hpl rfl ?_
  intro p e s m args below meth c s₁ BB hml hv
  obtain ⟨rfl, hP, hK, hZ, hsz⟩ := hv
  refine fent (t := t) hl hP ?_
  have hC : Cx ((p, l, e, (headSpec (Cond.code (yM k) (cM k) (lM k) (rM k) :: tgw) { frames := d, cells := mc, slots := ms, locals := 64 * d }).room, s, m), ((av.map (cv B)).toArray, below, meth, c), (D, dA, B), MQ below (aQ D dA B (fun r n' mu' ro' sg' => rtOk (rM k) r ∧ K r n' mu' ro' sg')) (av.map (cv B)).toArray s mc ms (fun q => B ≤ q)) (lM k) d n (oM k) (cM k) := by
    refine ⟨BB.exec, BB.bytes, hml, ?_, fun w hw => atoms_spec (ws := Cond.code (yM k) (cM k) (lM k) (rM k) :: tgw) BB.pre w (List.mem_cons_of_mem _ hw), BB.notSynchronized, hK, hZ, hsz, Nat.le_refl _, Nat.le_refl _⟩
    rw [← (okM_spec hk).2.2.2.2.1]
    exact findClass_of_methodNamed BB.named
  refine h _ hC (fun hq => (name_of_methodNamed BB.named BB.method).1.trans hq) (fun nc ns h1 h2 => ⟨h1, h2⟩) (fun n' nc ns mu' ro' hn' hnc hns => RP_of hC hn' ⟨hnc, hns⟩ ?_)
  have hlk := BB.notSynchronized
  have hbk : ∀ (r : Option Value) (sg' : aS) (H : Heap) (locs : List Loc), rtOk (rM k) r → K r n' mu' ro' sg' → aP D dA B n' mu' ro' sg' H → va_S (fun q => B ≤ q) s.heap H locs → H.size ≤ s.heap.size + nc → ∀ t : State, t.heap = H → s.WarmedH t.vm → aQ D dA B (fun r n' mu' ro' sg' => rtOk (rM k) r ∧ K r n' mu' ro' sg') (av.map (cv B)).toArray s (.returned (r.map (cv B))) t := by
    intro r sg' H locs hk0 hk1 hp1 hs1 hz1 t ht _
    exact ⟨⟨r, n', mu', ro', sg', rfl, ⟨hk0, hk1⟩, by rw [ht]; exact hp1, by rw [ht]; exact hp1.size hs1 hsz hn' hz1⟩, hs1.F ht⟩
  refine ⟨fun x sg' pc L hdg hq H locs ls hP1 hS1 hl1 => W.sized fun hz1 => W.widen hnc hns ?_, fun x sg' pc L hdg hq H locs ls hP1 hS1 hl1 => W.sized fun hz1 => W.widen hnc hns ?_, fun x sg' pc L hdg hq H locs ls hP1 hS1 hl1 => W.sized fun hz1 => W.widen hnc hns ?_, fun sg' pc L hdg hq H locs ls hP1 hS1 hl1 => W.sized fun hz1 => W.widen hnc hns ?_, fun sg' pc L hdg hq H locs ls hP1 hS1 hl1 => W.sized fun hz1 => W.widen hnc hns ?_⟩
  · obtain ⟨q1, q2⟩ := hq
    have hq9 := hbk _ _ H locs q1 q2 hP1 hS1 hz1
    have hr := BB.returns
    generalize rM k = rt at hr q1 hq9 ⊢
    match rt, q1 with
    | some .int, _ => exact W.iret BB.exec BB.bytes hr hq9 hS1.2.2 hdg
    | some .boolean, q1 =>
      refine W.zret BB.exec BB.bytes hr ?_ hq9 hS1.2.2 hdg
      rcases q1 with rfl | rfl <;> decide
  · obtain ⟨q1, q2⟩ := hq
    have hq9 := hbk _ _ H locs q1 q2 hP1 hS1 hz1
    have hr := BB.returns
    generalize rM k = rt at hr q1 hq9 ⊢
    match rt, q1 with
    | some .long, _ => exact W.lret BB.exec BB.bytes hr hq9 hS1.2.2 hdg
  · obtain ⟨q1, q2⟩ := hq
    have hq9 := hbk _ _ H locs q1 q2 hP1 hS1 hz1
    have hr := BB.returns
    generalize rM k = rt at hr q1 hq9 ⊢
    match rt, q1 with
    | some (.object nn), _ => exact W.aret BB.exec BB.bytes hr (Or.inl ⟨nn, rfl⟩) (Or.inr ⟨_, rfl⟩) hq9 hS1.2.2 hdg
  · obtain ⟨q1, q2⟩ := hq
    have hq9 := hbk _ _ H locs q1 q2 hP1 hS1 hz1
    have hr := BB.returns
    generalize rM k = rt at hr q1 hq9 ⊢
    match rt, q1 with
    | some (.object nn), _ => exact W.aret BB.exec BB.bytes hr (Or.inl ⟨nn, rfl⟩) (Or.inl rfl) hq9 hS1.2.2 hdg
  · obtain ⟨q1, q2⟩ := hq
    have hq9 := hbk _ _ H locs q1 q2 hP1 hS1 hz1
    have hr := BB.returns
    generalize rM k = rt at hr q1 hq9 ⊢
    match rt, q1 with
    | none, _ => exact W.vret BB.exec BB.bytes hr hq9 hS1.2.2 hdg
    | some ft, q1 => cases ft <;> exact q1.elim
