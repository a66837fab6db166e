/-! part 87: the switch, the loop, the law's walk -/
section H87
variable {G : aG} {ls : Array Slot} {d n nc ns b L i : Nat} {mu : aM} {ro : aR} {sg : aS} {xs : Nat → Int32}
set_option maxHeartbeats 4000000 in
set_option maxRecDepth 100000 in
theorem c_sw (h : LX G ls d b L i xs) (hJ : J9 n mu ro sg) (hc : nc + 3 ≤ 600000) (hs : ns + 168 ≤ 7302250) (hN : ∀ n' nc' ns' mu' ro' sg', nc' ≤ nc + 3 → ns' ≤ ns + 168 → J9 n' mu' ro' sg' → AX G ls n' nc' ns' mu' ro' sg' 2115 []) {k : Nat} (hk : k < 64) (hx9 : xs i &&& 63 = nI k) : AX G ls n nc ns mu ro sg 33 [.int (xs i &&& 63)] := by
  obtain ⟨len, hdd, -⟩ := dk_ok dl_33
  have tk : (xs i &&& 63).toInt = (k : Int) := by rw [hx9]; exact nI_toInt (by omega)
  have go : ∀ (off : Int) (tgt : Nat), k < 48 → (#[207, 266, 325, 358, 407, 450, 483, 526, 613, 646, 689, 742, 795, 818, 851, 884, 918, 971, 1014, 1058, 1091, 1124, 1157, 1190, 1203, 1262, 1315, 1368, 1401, 1434, 1457, 1500, 1533, 1576, 1619, 1662, 1705, 1738, 1781, 1804, 1847, 1891, 1954, 1977, 2000, 2033, 2046, 2059] : Array Int)[k]? = some off → (33 : Int) + off = (tgt : Int) → AX G ls n nc ns mu ro sg tgt [] → AX G ls n nc ns mu ro sg 33 [.int (xs i &&& 63)] := by
    intro off tgt h48 ho ht hA
    obtain ⟨⟨p, l, e, R, s, m⟩, ⟨args, below, meth, c⟩, ⟨D, dA, B⟩, Q⟩ := G
    obtain ⟨⟨⟨hx, hb, hml, hown, hts, hlk, hkk, hz, h0, hf, hlo⟩, -⟩, -⟩ := h
    intro H locs hP hS hsz
    exact lv_tableIn (off := off) (tgt := tgt) hx hb hdd (by omega) (by omega) (by rw [tk, Int.sub_zero, Int.toNat_natCast]; exact ho) ht (hA H locs hP hS hsz)
  rcases Nat.lt_or_ge k 48 with h48 | h48
  · match k, h48, go with
    | 0, _, go => exact go 207 240 (by decide) rfl (by decide) (lc_0 h hJ hc hs hN)
    | 1, _, go => exact go 266 299 (by decide) rfl (by decide) (lc_1 h hJ hc hs hN)
    | 2, _, go => exact go 325 358 (by decide) rfl (by decide) (lc_2 h hJ hc hs hN)
    | 3, _, go => exact go 358 391 (by decide) rfl (by decide) (lc_3 h hJ hc hs hN)
    | 4, _, go => exact go 407 440 (by decide) rfl (by decide) (lc_4 h hJ hc hs hN)
    | 5, _, go => exact go 450 483 (by decide) rfl (by decide) (lc_5 h hJ hc hs hN)
    | 6, _, go => exact go 483 516 (by decide) rfl (by decide) (lc_6 h hJ hc hs hN)
    | 7, _, go => exact go 526 559 (by decide) rfl (by decide) (lc_7 h hJ hc hs hN)
    | 8, _, go => exact go 613 646 (by decide) rfl (by decide) (lc_8 h hJ hc hs hN)
    | 9, _, go => exact go 646 679 (by decide) rfl (by decide) (lc_9 h hJ hc hs hN)
    | 10, _, go => exact go 689 722 (by decide) rfl (by decide) (lc_10 h hJ hc hs hN)
    | 11, _, go => exact go 742 775 (by decide) rfl (by decide) (lc_11 h hJ hc hs hN)
    | 12, _, go => exact go 795 828 (by decide) rfl (by decide) (lc_12 h hJ hc hs hN)
    | 13, _, go => exact go 818 851 (by decide) rfl (by decide) (lc_13 h hJ hc hs hN)
    | 14, _, go => exact go 851 884 (by decide) rfl (by decide) (lc_14 h hJ hc hs hN)
    | 15, _, go => exact go 884 917 (by decide) rfl (by decide) (lc_15 h hJ hc hs hN)
    | 16, _, go => exact go 918 951 (by decide) rfl (by decide) (lc_16 h hJ hc hs hN)
    | 17, _, go => exact go 971 1004 (by decide) rfl (by decide) (lc_17 h hJ hc hs hN)
    | 18, _, go => exact go 1014 1047 (by decide) rfl (by decide) (lc_18 h hJ hc hs hN)
    | 19, _, go => exact go 1058 1091 (by decide) rfl (by decide) (lc_19 h hJ hc hs hN)
    | 20, _, go => exact go 1091 1124 (by decide) rfl (by decide) (lc_20 h hJ hc hs hN)
    | 21, _, go => exact go 1124 1157 (by decide) rfl (by decide) (lc_21 h hJ hc hs hN)
    | 22, _, go => exact go 1157 1190 (by decide) rfl (by decide) (lc_22 h hJ hc hs hN)
    | 23, _, go => exact go 1190 1223 (by decide) rfl (by decide) (lc_23 h hJ hc hs hN)
    | 24, _, go => exact go 1203 1236 (by decide) rfl (by decide) (lc_24 h hJ hc hs hN)
    | 25, _, go => exact go 1262 1295 (by decide) rfl (by decide) (lc_25 h hJ hc hs hN)
    | 26, _, go => exact go 1315 1348 (by decide) rfl (by decide) (lc_26 h hJ hc hs hN)
    | 27, _, go => exact go 1368 1401 (by decide) rfl (by decide) (lc_27 h hJ hc hs hN)
    | 28, _, go => exact go 1401 1434 (by decide) rfl (by decide) (lc_28 h hJ hc hs hN)
    | 29, _, go => exact go 1434 1467 (by decide) rfl (by decide) (lc_29 h hJ hc hs hN)
    | 30, _, go => exact go 1457 1490 (by decide) rfl (by decide) (lc_30 h hJ hc hs hN)
    | 31, _, go => exact go 1500 1533 (by decide) rfl (by decide) (lc_31 h hJ hc hs hN)
    | 32, _, go => exact go 1533 1566 (by decide) rfl (by decide) (lc_32 h hJ hc hs hN)
    | 33, _, go => exact go 1576 1609 (by decide) rfl (by decide) (lc_33 h hJ hc hs hN)
    | 34, _, go => exact go 1619 1652 (by decide) rfl (by decide) (lc_34 h hJ hc hs hN)
    | 35, _, go => exact go 1662 1695 (by decide) rfl (by decide) (lc_35 h hJ hc hs hN)
    | 36, _, go => exact go 1705 1738 (by decide) rfl (by decide) (lc_36 h hJ hc hs hN)
    | 37, _, go => exact go 1738 1771 (by decide) rfl (by decide) (lc_37 h hJ hc hs hN)
    | 38, _, go => exact go 1781 1814 (by decide) rfl (by decide) (lc_38 h hJ hc hs hN)
    | 39, _, go => exact go 1804 1837 (by decide) rfl (by decide) (lc_39 h hJ hc hs hN)
    | 40, _, go => exact go 1847 1880 (by decide) rfl (by decide) (lc_40 h hJ hc hs hN)
    | 41, _, go => exact go 1891 1924 (by decide) rfl (by decide) (lc_41 h hJ hc hs hN)
    | 42, _, go => exact go 1954 1987 (by decide) rfl (by decide) (lc_42 h hJ hc hs hN)
    | 43, _, go => exact go 1977 2010 (by decide) rfl (by decide) (lc_43 h hJ hc hs hN)
    | 44, _, go => exact go 2000 2033 (by decide) rfl (by decide) (lc_44 h hJ hc hs hN)
    | 45, _, go => exact go 2033 2066 (by decide) rfl (by decide) (lc_45 h hJ hc hs hN)
    | 46, _, go => exact go 2046 2079 (by decide) rfl (by decide) (lc_46 h hJ hc hs hN)
    | 47, _, go => exact go 2059 2092 (by decide) rfl (by decide) (lc_47 h hJ hc hs hN)
    | k + 48, h48, _ => exact absurd h48 (by omega)
  · have hA := hN n nc ns mu ro sg (by omega) (by omega) hJ
    obtain ⟨⟨p, l, e, R, s, m⟩, ⟨args, below, meth, c⟩, ⟨D, dA, B⟩, Q⟩ := G
    obtain ⟨⟨⟨hx, hb, hml, hown, hts, hlk, hkk, hz, h0, hf, hlo⟩, -⟩, -⟩ := h
    intro H locs hP hS hsz
    exact lv_tableOut (tgt := 2115) hx hb hdd (Or.inr (by omega)) (by decide) (hA H locs hP hS hsz)
end H87
section H87b
variable {p : Program} {l : Launch} {e : Env} {s : State} {m : MethodId} {below : List Frame} {meth : Method} {c : Code} {D : va_G} {dA : Nat → ClassId} {d n nc ns b L i : Nat} {mu : aM} {ro : aR} {sg : aS} {xs : Nat → Int32} {ls : Array Slot}
/-- the law's frame -/
def lG (p : Program) (l : Launch) (e : Env) (s : State) (m : MethodId) (below : List Frame) (meth : Method) (c : Code) (D : va_G) (dA : Nat → ClassId) (b : Nat) : aG := ((p, l, e, room_1, s, m), (#[Value.ref b], below, meth, c), (D, dA, s.heap.size), lw_Z below #[Value.ref b] s)
-- the loop's head
set_option maxHeartbeats 4000000 in
set_option maxRecDepth 100000 in
theorem c_head (hY : LY (lG p l e s m below meth c D dA b) d b L xs) (hr : meth.sig.returnType = ret) (hl : lv_has ls 4 [(0, .ref b), (1, .ref (s.heap.size + 0)), (2, .ref (s.heap.size + 48)), (3, .int (nI i))]) (hi : i ≤ L + 8) (hc : nc ≤ 600000) (hs : ns ≤ 7302250) (k : i + 8 ≤ L → AX (lG p l e s m below meth c D dA b) ls n nc ns mu ro sg 33 [.int (xs i &&& 63)]) : AX (lG p l e s m below meth c D dA b) ls n nc ns mu ro sg 18 [] := by
  obtain ⟨⟨hx, hb, hml, hown, hts, hlk, hkk, hz, h0, hf, hlo⟩, ⟨hX, hbl, hB, hrc, hrs⟩, h19, hL⟩ := hY
  intro H locs hP hS hsz
  have hbA : ¬ (fun q : Nat => s.heap.size ≤ q) b := Nat.not_le.mpr hbl
  have ti : (nI i).toInt = i := nI_toInt (by omega)
  have tL : (Int32.ofNat L).toInt = L := nI_toInt (by omega)
  have t8 : (8 : Int32).toInt = 8 := by decide
  have tm : (Int32.ofNat L - 8).toInt = (L : Int) - 8 := by rw [i_sub (by omega) (by omega), tL, t8]
  refine lv_iload_n hx hb (dk_1 dl_18 rfl) rfl (lv_at hl 3 rfl) ?_
  refine lv_aload_n hx hb (dk_1 dl_19 rfl) rfl (lv_at hl 0 rfl) ?_
  refine va_slen hx hb hX hbl hbA hS (dk_1 dl_20 rfl) ?_
  refine lv_bipush (v := 8) hx hb (dk_1 dl_21 rfl) (by decide) ?_
  refine lv_isub hx hb (dk_1 dl_23 rfl) ?_
  refine lv_icmp_gt (tgt := 2121) hx hb (dk_1 dl_24 rfl) (by decide) (fun q => ?_) (fun q => ?_)
  · refine lv_iconst (v := 1) hx hb (dk_1 dl_2121 rfl) (by decide) ?_
    refine va_forget (fun q hq => hS.2.2 q hq) ?_
    refine W.widen hc hs ?_
    exact lw_ret hx hb hr hlk (dk_1 dl_2122 rfl)
  · have hi8 : i + 8 ≤ L := by
      have := mt (i_lt (a := Int32.ofNat L - 8) (b := nI i)).mpr q
      omega
    refine lv_aload_n hx hb (dk_1 dl_27 rfl) rfl (lv_at hl 0 rfl) ?_
    refine lv_iload_n hx hb (dk_1 dl_28 rfl) rfl (lv_at hl 3 rfl) ?_
    refine va_sld hx hb hX hbl hbA hS (vp_in_nI (by omega) (by omega)) (dk_1 dl_29 rfl) ?_
    refine lv_bipush (v := 63) hx hb (dk_1 dl_30 rfl) (by decide) ?_
    refine lv_iand hx hb (dk_1 dl_32 rfl) ?_
    rw [nI_clamp (by omega)]
    exact k hi8 H locs hP hS hsz
-- behind a call: the next
set_option maxHeartbeats 4000000 in
set_option maxRecDepth 100000 in
theorem c_nx (hY : LY (lG p l e s m below meth c D dA b) d b L xs) (hl : lv_has ls 4 [(0, .ref b), (1, .ref (s.heap.size + 0)), (2, .ref (s.heap.size + 48)), (3, .int (nI i))]) (k : ∀ ls' : Array Slot, lv_has ls' 4 [(0, .ref b), (1, .ref (s.heap.size + 0)), (2, .ref (s.heap.size + 48)), (3, .int (nI (i + 8)))] → AX (lG p l e s m below meth c D dA b) ls' n nc ns mu ro sg 18 []) : AX (lG p l e s m below meth c D dA b) ls n nc ns mu ro sg 2115 [] := by
  obtain ⟨⟨hx, hb, hml, hown, hts, hlk, hkk, hz, h0, hf, hlo⟩, ⟨hX, hbl, hB, hrc, hrs⟩, h19, hL⟩ := hY
  intro H locs hP hS hsz
  refine lv_iinc (v := nI (i + 8)) (lv' := [(3, .int (nI (i + 8))), (0, .ref b), (1, .ref (s.heap.size + 0)), (2, .ref (s.heap.size + 48))]) hx hb (dk_1 dl_2115 rfl) hl (k := 3) rfl (by rw [show Int32.ofInt 8 = nI 8 from by decide, nI_add]) (by decide) rfl (fun ls1 hl1 => ?_)
  refine lv_goto (tgt := 18) hx hb (dk_1 dl_2118 rfl) (by decide) ?_
  exact k ls1 (lv_sub hl1 [1, 2, 3, 0] rfl) H locs hP hS hsz
set_option maxHeartbeats 4000000 in
set_option maxRecDepth 100000 in
theorem c_loop (hY : LY (lG p l e s m below meth c D dA b) d b L xs) (hr : meth.sig.returnType = ret) : ∀ (mm i : Nat) (ls : Array Slot) (n nc ns : Nat) (mu : aM) (ro : aR) (sg : aS), L ≤ i + 8 * mm + 7 → i ≤ L + 8 → nc + 3 * mm ≤ 600000 → ns + 168 * mm ≤ 7302250 → J9 n mu ro sg → lv_has ls 4 [(0, .ref b), (1, .ref (s.heap.size + 0)), (2, .ref (s.heap.size + 48)), (3, .int (nI i))] → AX (lG p l e s m below meth c D dA b) ls n nc ns mu ro sg 18 [] := by
  intro mm
  induction mm with
  | zero =>
    intro i ls n nc ns mu ro sg h1 h2 h3 h4 hJ hl
    exact c_head hY hr hl h2 (by omega) (by omega) (fun h8 => absurd h8 (by omega))
  | succ mm ih =>
    intro i ls n nc ns mu ro sg h1 h2 h3 h4 hJ hl
    refine c_head hY hr hl h2 (by omega) (by omega) (fun h8 => ?_)
    obtain ⟨j, hj, he⟩ := pk_andE (xs i) (m := 63) 6 (by decide)
    refine c_sw ⟨hY, hl, h8⟩ hJ (by omega) (by omega) (fun n' nc' ns' mu' ro' sg' q1 q2 hJ' => ?_) (k := j) (by omega) he
    exact c_nx hY hl (fun ls' hl' => ih (i + 8) ls' n' nc' ns' mu' ro' sg' (by omega) (by omega) (by omega) (by omega) hJ' hl')
end H87b
