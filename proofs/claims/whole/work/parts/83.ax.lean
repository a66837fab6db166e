/-! part 83: the law's own frame: rules at fixed locals -/
section H83
variable {G : aG} {ls : Array Slot} {d n nc ns pc b L i : Nat} {mu : aM} {ro : aR} {sg : aS} {st : List Value} {xs : Nat → Int32}
def AX (G : aG) (ls : Array Slot) (n nc ns : Nat) (mu : aM) (ro : aR) (sg : aS) (pc : Nat) (st : List Value) : Prop :=
  match G with
  | ((p, l, e, R, s, m), (args, below, meth, c), (D, dA, B), Q) => ∀ (H : Heap) (locs : List Loc), aP D dA B n mu ro sg H → va_S (fun q => B ≤ q) s.heap H locs → H.size = B + n → W p l e R s m args below meth c H locs nc ns Q (F0 m pc ls (st.map (cv B)))
/-- what holds at the law's frame: code, tables, room, the script -/
def LY (G : aG) (d b L : Nat) (xs : Nat → Int32) : Prop := Cx G 4 d 0 13 code ∧ (match G with
  | ((_, _, _, R, s, _), _, (_, _, B), _) => va_X b L xs s s.heap ∧ b < s.heap.size ∧ B = s.heap.size ∧ 600000 ≤ R.cells ∧ 7302250 ≤ R.slots) ∧ 19 ≤ d ∧ L ≤ 4096
def LX (G : aG) (ls : Array Slot) (d b L i : Nat) (xs : Nat → Int32) : Prop := LY G d b L xs ∧ (match G with
  | (_, _, (_, _, B), _) => lv_has ls 4 [(0, .ref b), (1, .ref (B + 0)), (2, .ref (B + 48)), (3, .int (nI i))]) ∧ i + 8 ≤ L
theorem ax_1 (h : LX G ls d b L i xs) (hd : dk code pc = some (.aload_n 1)) (k : AX G ls n nc ns mu ro sg (pc + 1) (.ref 0 :: st)) : AX G ls n nc ns mu ro sg pc st := by
  obtain ⟨⟨p, l, e, R, s, m⟩, ⟨args, below, meth, c⟩, ⟨D, dA, B⟩, Q⟩ := G
  obtain ⟨⟨⟨hx, hb, hml, hown, hts, hlk, hkk, hz, h0, hf, hlo⟩, ⟨hX, hbl, hB, hrc, hrs⟩, h19, hL⟩, hl, hi⟩ := h
  intro H locs hP hS hsz
  exact lv_aload_n hx hb (dk_1 hd rfl) rfl (lv_at hl 1 rfl) (k H locs hP hS hsz)
theorem ax_2 (h : LX G ls d b L i xs) (hd : dk code pc = some (.aload_n 2)) (k : AX G ls n nc ns mu ro sg (pc + 1) (.ref 48 :: st)) : AX G ls n nc ns mu ro sg pc st := by
  obtain ⟨⟨p, l, e, R, s, m⟩, ⟨args, below, meth, c⟩, ⟨D, dA, B⟩, Q⟩ := G
  obtain ⟨⟨⟨hx, hb, hml, hown, hts, hlk, hkk, hz, h0, hf, hlo⟩, ⟨hX, hbl, hB, hrc, hrs⟩, h19, hL⟩, hl, hi⟩ := h
  intro H locs hP hS hsz
  exact lv_aload_n hx hb (dk_1 hd rfl) rfl (lv_at hl 2 rfl) (k H locs hP hS hsz)
theorem ax_a {j : Int} {jn : Nat} (h : LX G ls d b L i xs) (h1 : dk code pc = some (.aload_n 0)) (h2 : dk code (pc + 1) = some (.iload_n 3)) (h3 : dk code (pc + 1 + 1) = some (.iconst j)) (h4 : dk code (pc + 1 + 1 + 1) = some .iadd) (h5 : dk code (pc + 1 + 1 + 1 + 1) = some .iaload) (hj : Int32.ofInt j = nI jn) (hj8 : jn < 8) (k : AX G ls n nc ns mu ro sg (pc + 1 + 1 + 1 + 1 + 1) (.int (xs (i + jn)) :: st)) : AX G ls n nc ns mu ro sg pc st := by
  obtain ⟨⟨p, l, e, R, s, m⟩, ⟨args, below, meth, c⟩, ⟨D, dA, B⟩, Q⟩ := G
  obtain ⟨⟨⟨hx, hb, hml, hown, hts, hlk, hkk, hz, h0, hf, hlo⟩, ⟨hX, hbl, hB, hrc, hrs⟩, h19, hL⟩, hl, hi⟩ := h
  intro H locs hP hS hsz
  have e2 : (nI (i + jn)).toNatClampNeg = i + jn := nI_clamp (by omega)
  refine lv_aload_n hx hb (dk_1 h1 rfl) rfl (lv_at hl 0 rfl) ?_
  refine lv_iload_n hx hb (dk_1 h2 rfl) rfl (lv_at hl 3 rfl) ?_
  refine lv_iconst hx hb (dk_1 h3 rfl) hj ?_
  refine lv_iadd hx hb (dk_1 h4 rfl) ?_
  rw [nI_add]
  refine va_sld hx hb hX hbl (A := fun q => B ≤ q) (by omega) hS (vp_in_nI (by omega) (by omega)) (dk_1 h5 rfl) ?_
  rw [e2]
  exact k H locs hP hS hsz
theorem ax_b {j : Int} {jn : Nat} (h : LX G ls d b L i xs) (h1 : dk code pc = some (.aload_n 0)) (h2 : dk code (pc + 1) = some (.iload_n 3)) (h3 : dk code (pc + 1 + 1) = some (.bipush j)) (h4 : dk code (pc + 1 + 1 + 2) = some .iadd) (h5 : dk code (pc + 1 + 1 + 2 + 1) = some .iaload) (hj : (Int8.ofInt j).toInt32 = nI jn) (hj8 : jn < 8) (k : AX G ls n nc ns mu ro sg (pc + 1 + 1 + 2 + 1 + 1) (.int (xs (i + jn)) :: st)) : AX G ls n nc ns mu ro sg pc st := by
  obtain ⟨⟨p, l, e, R, s, m⟩, ⟨args, below, meth, c⟩, ⟨D, dA, B⟩, Q⟩ := G
  obtain ⟨⟨⟨hx, hb, hml, hown, hts, hlk, hkk, hz, h0, hf, hlo⟩, ⟨hX, hbl, hB, hrc, hrs⟩, h19, hL⟩, hl, hi⟩ := h
  intro H locs hP hS hsz
  have e2 : (nI (i + jn)).toNatClampNeg = i + jn := nI_clamp (by omega)
  refine lv_aload_n hx hb (dk_1 h1 rfl) rfl (lv_at hl 0 rfl) ?_
  refine lv_iload_n hx hb (dk_1 h2 rfl) rfl (lv_at hl 3 rfl) ?_
  refine lv_bipush hx hb (dk_1 h3 rfl) hj ?_
  refine lv_iadd hx hb (dk_1 h4 rfl) ?_
  rw [nI_add]
  refine va_sld hx hb hX hbl (A := fun q => B ≤ q) (by omega) hS (vp_in_nI (by omega) (by omega)) (dk_1 h5 rfl) ?_
  rw [e2]
  exact k H locs hP hS hsz
theorem ax_z {x : Int32} (h : LX G ls d b L i xs) (h1 : dk code pc = some (.ifCond .eq 7)) (h2 : dk code (pc + 3) = some (.iconst 1)) (h3 : dk code (pc + 3 + 1) = some (.goto 4)) (h4 : dk code (pc + 7) = some (.iconst 0)) (k : AX G ls n nc ns mu ro sg (pc + 7 + 1) (.int (if ¬ x = 0 then 1 else 0) :: st)) : AX G ls n nc ns mu ro sg pc (.int x :: st) := by
  obtain ⟨⟨p, l, e, R, s, m⟩, ⟨args, below, meth, c⟩, ⟨D, dA, B⟩, Q⟩ := G
  obtain ⟨⟨⟨hx, hb, hml, hown, hts, hlk, hkk, hz, h0, hf, hlo⟩, ⟨hX, hbl, hB, hrc, hrs⟩, h19, hL⟩, hl, hi⟩ := h
  intro H locs hP hS hsz
  refine lv_if_eq (tgt := pc + 7) hx hb (dk_1 h1 rfl) (by omega) (fun q => ?_) (fun q => ?_)
  · rw [if_neg (not_not_intro q)] at k
    exact lv_iconst hx hb (dk_1 h4 rfl) (by decide) (k H locs hP hS hsz)
  · rw [if_pos q] at k
    refine lv_iconst (v := 1) hx hb (dk_1 h2 rfl) (by decide) ?_
    exact lv_goto (tgt := pc + 7 + 1) hx hb (dk_1 h3 rfl) (by omega) (k H locs hP hS hsz)
theorem ax_eq {x : Int32} {off : Int} {tgt : Nat} (h : LX G ls d b L i xs) (hd : dk code pc = some (.if_icmp .eq off)) (ht : (pc : Int) + off = (tgt : Int)) (k : AX G ls n nc ns mu ro sg tgt st) : AX G ls n nc ns mu ro sg pc (.int x :: .int x :: st) := by
  obtain ⟨⟨p, l, e, R, s, m⟩, ⟨args, below, meth, c⟩, ⟨D, dA, B⟩, Q⟩ := G
  obtain ⟨⟨⟨hx, hb, hml, hown, hts, hlk, hkk, hz, h0, hf, hlo⟩, ⟨hX, hbl, hB, hrc, hrs⟩, h19, hL⟩, hl, hi⟩ := h
  intro H locs hP hS hsz
  exact lv_icmp_eq hx hb (dk_1 hd rfl) ht (fun _ => k H locs hP hS hsz) (fun q => absurd rfl q)
theorem ax_eql {x : Int64} {off : Int} {tgt : Nat} (h : LX G ls d b L i xs) (hd : dk code pc = some .lcmp) (hd2 : dk code (pc + 1) = some (.ifCond .eq off)) (ht : ((pc + 1 : Nat) : Int) + off = (tgt : Int)) (k : AX G ls n nc ns mu ro sg tgt st) : AX G ls n nc ns mu ro sg pc (.long x :: .long x :: st) := by
  obtain ⟨⟨p, l, e, R, s, m⟩, ⟨args, below, meth, c⟩, ⟨D, dA, B⟩, Q⟩ := G
  obtain ⟨⟨⟨hx, hb, hml, hown, hts, hlk, hkk, hz, h0, hf, hlo⟩, ⟨hX, hbl, hB, hrc, hrs⟩, h19, hL⟩, hl, hi⟩ := h
  intro H locs hP hS hsz
  refine W.lcmp hx hb (dk_1 hd rfl) ?_
  exact lv_if_eq hx hb (dk_1 hd2 rfl) ht (fun _ => k H locs hP hS hsz) (fun q => absurd (by simp only [lg_cmp_eq]) q)
/-- a method of the class or of the reference is called -/
theorem ax_call {k9 j b9 oc np mc ms : Nat} {av rest : List Value} {KA : Option Value → Nat → aM → aR → aS → Prop} (h : LX G ls d b L i xs) (hc : nc + mc ≤ 600000) (hs : ns + ms ≤ 7302250) (hd : dk code pc = some (.invokevirtual j)) (hk : cres 13 j = some k9 ∧ sM k9 = false ∧ (yM k9).name ≠ "<init>" ∧ oM k9 = oc ∧ pM k9 = np) (hr8 : cs rest ≤ 8) (hmb : (mu b9).1 = 10 + oc) (ht : takeA (np + 1) [] st = some (.ref b9 :: av, rest))
    (hM : aCallA mc ms (d - 1) k9 (.ref b9 :: av) n mu ro sg KA) (hK : ∀ r n' mu' ro' sg', rtOk (rM k9) r → KA r n' mu' ro' sg' → AX G ls n' (nc + mc) (ns + ms) mu' ro' sg' (pc + 3) (r.toList ++ rest)) : AX G ls n nc ns mu ro sg pc st := by
  obtain ⟨⟨p, l, e, R, s, m⟩, ⟨args, below, meth, c⟩, ⟨D, dA, B⟩, Q⟩ := G
  obtain ⟨⟨⟨hx, hb, hml, hown, hts, hlk, hkk, hz, h0, hf, hlo⟩, ⟨hX, hbl, hB, hrc, hrs⟩, h19, hL⟩, hl, hi⟩ := h
  obtain ⟨hk0, hst, hin, rfl, rfl⟩ := hk
  obtain ⟨k1, k2⟩ := cres_ok hk0
  obtain ⟨o1, o2, o3, o4, o5, o6, o7, o8⟩ := okM_spec k1
  obtain ⟨t, t1, t2, t3⟩ := takeA_ok _ _ _ _ _ ht
  intro H locs hP hS hsz2
  have hdd := dk_1 hd rfl
  have ht2 : t = av.reverse ++ [.ref b9] := by
    have : t.reverse = .ref b9 :: av := by simpa using t2.symm
    have := congrArg List.reverse this
    simpa using this
  have hstack : st.map (cv B) = (av.map (cv B)).reverse ++ .ref (B + b9) :: rest.map (cv B) := by rw [t1, ht2]; simp [cv]
  have hlen : (av.map (cv B)).length = pM k9 := by
    rw [ht2] at t3
    simpa using t3
  have hroom : 2 * (F0 m pc ls (st.map (cv B))).monitorRoom + ((rest.map (cv B)).map fun v => v.category).sum ≤ 8 := lv_room (by rw [cs_map]; exact hr8)
  have hRR : (d - 1) + 1 ≤ R.frames ∧ 8 + (lM k9 + 11) + 64 * (d - 1) ≤ R.locals := by omega
  have hRm : nc + mc ≤ R.cells ∧ ns + ms ≤ R.slots := by omega
  have hbn : b9 < n := hP.lt (by rw [hmb]; omega)
  have he := aW_at (dA := dA) (B := B) (mu := mu) (ro := ro) (sg := sg) hbn
  rw [aE_obj (N := 0) hmb] at he
  have hpre : PreV s H (RN (oM k9)) (B + b9) (va_Pc ((Value.ref b9 :: av).map (cv B)) (aPre D dA B n mu ro sg)) (av.map (cv B)) := ⟨aPre_blind, va_recv hkk.1 hP.1 (vwCl_at _ (o8 hst)) he, fun U hU hW => ⟨rfl, by rw [hU]; exact hP, hkk.warm hW, hz.to (locs := locs) hW.alike (by rw [hU]; exact hS), by rw [hU]; exact hsz2⟩⟩
  have hrun : va_Run p l e R s m args below meth c H locs nc ns mc ms (F0 m pc ls (st.map (cv B))) (rest.map (cv B)) (aQ D dA B (fun r n' mu' ro' sg' => rtOk (rM k9) r ∧ KA r n' mu' ro' sg') (Value.ref (B + b9) :: av.map (cv B)).toArray) (fun q => B ≤ q) := by
    rcases k2 with k2 | k2
    · exact va_runV ⟨hx, hb, hml, hown, hts⟩ (hM l D dA B) ⟨callB_of (pM k9) hts (good_k k1) rfl rfl rfl (hts _ o3) (hts _ k2) o6 hRR, hts _ (o2 hst), hts _ (o4 hst hin)⟩ hpre rfl hlen hl.1 hstack hroom hdd hRm
    · exact va_runVN ⟨hx, hb, hml, hown, hts⟩ (hM l D dA B) ⟨va_cnB (pM k9) hts (good_k k1) rfl rfl rfl (hkk.2.1 _ k2) (hts _ o3) o6 hRR, hts _ (o2 hst), hts _ (o4 hst hin)⟩ hpre rfl hlen hl.1 hstack hroom hdd hRm
  refine aw_call hrun hS (fun r n' mu' ro' sg' H1 locs1 hKA hP1 hs1 hS1 => ?_)
  have := hK r n' mu' ro' sg' hKA.1 hKA.2 H1 locs1 hP1 hS1 hs1
  rw [map_app] at this
  exact this
theorem ax_calli {k9 j b9 oc np mc ms : Nat} {av rest : List Value} {KA : Option Value → Nat → aM → aR → aS → Prop} (h : LX G ls d b L i xs) (hc : nc + mc ≤ 600000) (hs : ns + ms ≤ 7302250) (hd : dk code pc = some (.invokevirtual j)) (hk : (cres 13 j = some k9 ∧ sM k9 = false ∧ (yM k9).name ≠ "<init>" ∧ oM k9 = oc ∧ pM k9 = np) ∧ rM k9 = some .int) (hr8 : cs rest ≤ 8) (hmb : (mu b9).1 = 10 + oc) (ht : takeA (np + 1) [] st = some (.ref b9 :: av, rest))
    (hM : aCallA mc ms (d - 1) k9 (.ref b9 :: av) n mu ro sg KA) (hK : ∀ v n' mu' ro' sg', KA (some (.int v)) n' mu' ro' sg' → AX G ls n' (nc + mc) (ns + ms) mu' ro' sg' (pc + 3) (.int v :: rest)) : AX G ls n nc ns mu ro sg pc st := by
  refine ax_call h hc hs hd hk.1 hr8 hmb ht hM (fun r n' mu' ro' sg' hr hq => ?_)
  rw [hk.2] at hr
  match r, hr, hq with
  | some (.int v), _, hq => exact hK v n' mu' ro' sg' hq
theorem ax_calll {k9 j b9 oc np mc ms : Nat} {av rest : List Value} {KA : Option Value → Nat → aM → aR → aS → Prop} (h : LX G ls d b L i xs) (hc : nc + mc ≤ 600000) (hs : ns + ms ≤ 7302250) (hd : dk code pc = some (.invokevirtual j)) (hk : (cres 13 j = some k9 ∧ sM k9 = false ∧ (yM k9).name ≠ "<init>" ∧ oM k9 = oc ∧ pM k9 = np) ∧ rM k9 = some .long) (hr8 : cs rest ≤ 8) (hmb : (mu b9).1 = 10 + oc) (ht : takeA (np + 1) [] st = some (.ref b9 :: av, rest))
    (hM : aCallA mc ms (d - 1) k9 (.ref b9 :: av) n mu ro sg KA) (hK : ∀ v n' mu' ro' sg', KA (some (.long v)) n' mu' ro' sg' → AX G ls n' (nc + mc) (ns + ms) mu' ro' sg' (pc + 3) (.long v :: rest)) : AX G ls n nc ns mu ro sg pc st := by
  refine ax_call h hc hs hd hk.1 hr8 hmb ht hM (fun r n' mu' ro' sg' hr hq => ?_)
  rw [hk.2] at hr
  match r, hr, hq with
  | some (.long v), _, hq => exact hK v n' mu' ro' sg' hq
theorem ax_dup {x : Nat} (h : LY G d b L xs) (hd : dk code pc = some .dup) (k : AX G ls n nc ns mu ro sg (pc + 1) (.ref x :: .ref x :: st)) : AX G ls n nc ns mu ro sg pc (.ref x :: st) := by
  obtain ⟨⟨p, l, e, R, s, m⟩, ⟨args, below, meth, c⟩, ⟨D, dA, B⟩, Q⟩ := G
  obtain ⟨⟨hx, hb, hml, hown, hts, hlk, hkk, hz, h0, hf, hlo⟩, -⟩ := h
  intro H locs hP hS hsz
  exact lv_dup hx hb (dk_1 hd rfl) rfl (k H locs hP hS hsz)
theorem ax_newP {i ci : Nat} {r : List (List (Option Nat))} (h : LY G d b L xs) (hc : nc + 1 ≤ 600000) (hs : ns + nN ci ≤ 7302250) (hn : nc = n) (hd : dk code pc = some (.new i)) (hci : ci < 13) (hw1 : Cond.classLink (RN 13) i (RN ci) ∈ tgw) (hw2 : Cond.instantiable (RN ci) (nN ci) ∈ tgw) (hw3 : Cond.initialized (RN ci) ∈ tgw) (hq : muS.getD n (0, 0) = (10 + ci, nN ci)) (hr : r.length ≤ n) (hz9 : Zr n sg)
    (k : AX G ls (n + 1) (nc + 1) (ns + nN ci) (muP (n + 1)) (mkR r) sg (pc + 3) (.ref n :: st)) : AX G ls n nc ns (muP n) (mkR r) sg pc st := by
  obtain ⟨⟨p, l, e, R, s, m⟩, ⟨args, below, meth, c⟩, ⟨D, dA, B⟩, Q⟩ := G
  obtain ⟨⟨hx, hb, hml, hown, hts, hlk, hkk, hz, h0, hf, hlo⟩, ⟨hX, hbl, hB, hrc, hrs⟩, h19, hL⟩ := h
  subst hn
  intro H locs hP hS hsz0
  refine va_new (D := D) (fs := aF B ci (fun _ => none) (fun _ => 0)) hx hb hts (inT ci hci) (tyN ci) (tyN_ok ci hci) hown (hts _ hw1) (hts _ hw2) (hts _ hw3) hkk.1 hP.1 (aD dA B nc (muP nc) (mkR r) sg) hS (fun q hq => by show B ≤ q; omega) (vwCl_at ci hci) (fun j hj => ?_) (Nat.le_trans hc hrc) (Nat.le_trans hs hrs) (dk_1 hd rfl) (fun q H1 hP1 hD1 hS1 => W.sized (fun hsz => ?_))
  · rw [vp_V, List.getD_eq_getElem?_getD, aF_at hj, (dfN ci hci j hj).1]
    have h2 := (dfN ci hci j hj).2
    rcases (show kdT (tyN ci j) = 0 ∨ kdT (tyN ci j) = 1 ∨ kdT (tyN ci j) = 2 by omega) with q | q | q
    · rw [q]; rfl
    · rw [q]; rfl
    · rw [q]
      show Value.long 0 = Value.long (jl 0 0)
      rw [jl_00]
  · have hq9 := new_at hP1 hD1 (by omega)
    subst hq9
    have hP2 : aP D dA B (nc + 1) (va_up (muP nc) nc (10 + ci, nN ci)) (va_up (mkR r) nc (fun _ => none)) (va_up sg nc (fun _ => 0)) H1 := by
      refine aP.push hP.2 (fun b hb => va_up_ne _ _ hb) (fun b hb => va_up_ne _ _ hb) (fun b hb => va_up_ne _ _ hb) ?_
      rw [va_up_self, va_up_self, va_up_self, aE_obj (N := 0) (ci := ci) rfl]
      exact hP1
    rw [mp_up hq, mr_up hr, zs_up hz9] at hP2
    exact k H1 locs hP2 hS1 (hP2.size hS1 h0 (by omega) hsz)
theorem ax_special {k9 j b9 mc ms : Nat} {av rest : List Value} {KA : Option Value → Nat → aM → aR → aS → Prop} (h : LY G d b L xs) (hls : ls.size = 4) (hc : nc + mc ≤ 600000) (hs : ns + ms ≤ 7302250) (hd : dk code pc = some (.invokespecial j)) (hk : cres 13 j = some k9) (hst : sM k9 = false) (hin : (yM k9).name = "<init>") (hret : rM k9 = none) (hr8 : cs rest ≤ 8) (ht : takeA (pM k9 + 1) [] st = some (.ref b9 :: av, rest))
    (hM : aCallA mc ms (d - 1) k9 (.ref b9 :: av) n mu ro sg KA) (hK : ∀ r n' mu' ro' sg', KA r n' mu' ro' sg' → AX G ls n' (nc + mc) (ns + ms) mu' ro' sg' (pc + 3) (r.toList ++ rest)) : AX G ls n nc ns mu ro sg pc st := by
  obtain ⟨⟨p, l, e, R, s, m⟩, ⟨args, below, meth, c⟩, ⟨D, dA, B⟩, Q⟩ := G
  obtain ⟨⟨hx, hb, hml, hown, hts, hlk, hkk, hz, h0, hf, hlo⟩, ⟨hX, hbl, hB, hrc, hrs⟩, h19, hL⟩ := h
  obtain ⟨k1, k2⟩ := cres_ok hk
  obtain ⟨o1, o2, o3, o4, o5, o6, o7, o8⟩ := okM_spec k1
  obtain ⟨t, t1, t2, t3⟩ := takeA_ok _ _ _ _ _ ht
  intro H locs hP hS hsz2
  have hdd := dk_1 hd rfl
  have ht2 : t = av.reverse ++ [.ref b9] := by
    have : t.reverse = .ref b9 :: av := by simpa using t2.symm
    have := congrArg List.reverse this
    simpa using this
  have hstack : st.map (cv B) = (av.map (cv B)).reverse ++ .ref (B + b9) :: rest.map (cv B) := by rw [t1, ht2]; simp [cv]
  have hlen : (av.map (cv B)).length = pM k9 := by
    rw [ht2] at t3
    simpa using t3
  have hroom : 2 * (F0 m pc ls (st.map (cv B))).monitorRoom + ((rest.map (cv B)).map fun v => v.category).sum ≤ 8 := lv_room (by rw [cs_map]; exact hr8)
  have hRR : (d - 1) + 1 ≤ R.frames ∧ 8 + (lM k9 + 11) + 64 * (d - 1) ≤ R.locals := by omega
  have hRm : nc + mc ≤ R.cells ∧ ns + ms ≤ R.slots := by omega
  have hgk := good_k k1
  have hMM := hM l D dA B
  rw [hret] at hgk hMM
  have hpre : PreS s H (va_Pc ((Value.ref b9 :: av).map (cv B)) (aPre D dA B n mu ro sg)) (.ref (B + b9) :: av.map (cv B)) := ⟨aPre_blind, fun U hU hW => ⟨rfl, by rw [hU]; exact hP, hkk.warm hW, hz.to (locs := locs) hW.alike (by rw [hU]; exact hS), by rw [hU]; exact hsz2⟩⟩
  have hrun : va_Run p l e R s m args below meth c H locs nc ns mc ms (F0 m pc ls (st.map (cv B))) (rest.map (cv B)) (aQ D dA B (fun r n' mu' ro' sg' => rtOk none r ∧ KA r n' mu' ro' sg') (Value.ref (B + b9) :: av.map (cv B)).toArray) (fun q => B ≤ q) := by
    rcases k2 with k2 | k2
    · exact va_runI ⟨hx, hb, hml, hown, hts⟩ hMM ⟨callB_of (pM k9) hts hgk rfl rfl rfl (hts _ o3) (hts _ k2) o6 hRR, hin, hts _ (o2 hst)⟩ hpre rfl hlen hls hstack hroom hdd hRm
    · exact va_runIN ⟨hx, hb, hml, hown, hts⟩ hMM ⟨va_cnB (pM k9) hts hgk rfl rfl rfl (hkk.2.1 _ k2) (hts _ o3) o6 hRR, hin, hts _ (o2 hst)⟩ hpre rfl hlen hls hstack hroom hdd hRm
  refine aw_call hrun hS (fun r n' mu' ro' sg' H1 locs1 hKA hP1 hs1 hS1 => ?_)
  have := hK r n' mu' ro' sg' hKA.2 H1 locs1 hP1 hS1 hs1
  rw [map_app] at this
  exact this
theorem J9.m (h : J9 n mu ro sg) : mu 0 = (21, 15) ∧ mu 48 = (22, 55) := by
  obtain ⟨T, Q, F, tb, rb, N1, N2, N3, N4, ⟨hS, -⟩, -⟩ := h
  simp only [SHm hS, and_self]
end H83
