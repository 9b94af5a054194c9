/-! L3: the loop -/
set_option maxRecDepth 20000 in
theorem dW_23 : decode cL_law 23 = .ok (.iload 4, 2) := by decide +kernel
set_option maxRecDepth 20000 in
theorem dW_25 : decode cL_law 25 = .ok (.aload_n 0, 1) := by decide +kernel
set_option maxRecDepth 20000 in
theorem dW_26 : decode cL_law 26 = .ok (.arraylength, 1) := by decide +kernel
set_option maxRecDepth 20000 in
theorem dW_27 : decode cL_law 27 = .ok (.bipush 6, 2) := by decide +kernel
set_option maxRecDepth 20000 in
theorem dW_29 : decode cL_law 29 = .ok (.isub, 1) := by decide +kernel
set_option maxRecDepth 20000 in
theorem dW_30 : decode cL_law 30 = .ok (.if_icmp .gt 1577, 3) := by decide +kernel
set_option maxRecDepth 20000 in
theorem dW_33 : decode cL_law 33 = .ok (.aload_n 0, 1) := by decide +kernel
set_option maxRecDepth 20000 in
theorem dW_34 : decode cL_law 34 = .ok (.iload 4, 2) := by decide +kernel
set_option maxRecDepth 20000 in
theorem dW_36 : decode cL_law 36 = .ok (.iaload, 1) := by decide +kernel
set_option maxRecDepth 20000 in
theorem dW_37 : decode cL_law 37 = .ok (.bipush 63, 2) := by decide +kernel
set_option maxRecDepth 20000 in
theorem dW_39 : decode cL_law 39 = .ok (.iand, 1) := by decide +kernel
set_option maxRecDepth 20000 in
theorem dW_40 : decode cL_law 40 = .ok (.tableswitch 1561 0 41 #[184, 257, 282, 307, 332, 369, 406, 446, 471, 496, 509, 534, 559, 596, 621, 646, 715, 728, 765, 802, 839, 876, 913, 950, 975, 1012, 1065, 1090, 1103, 1128, 1165, 1202, 1227, 1252, 1325, 1374, 1411, 1448, 1473, 1510, 1523, 1536], 184) := by decide +kernel
set_option maxRecDepth 20000 in
theorem dW_1601 : decode cL_law 1601 = .ok (.iinc 4 6, 3) := by decide +kernel
set_option maxRecDepth 20000 in
theorem dW_1604 : decode cL_law 1604 = .ok (.goto (-1581), 3) := by decide +kernel
set_option maxRecDepth 20000 in
theorem dW_1607 : decode cL_law 1607 = .ok (.iconst 1, 1) := by decide +kernel
set_option maxRecDepth 20000 in
theorem dW_1608 : decode cL_law 1608 = .ok (.ireturn, 1) := by decide +kernel
section CASES
variable {p : Program} {l : Launch} {e : Env} {s : State} {mid : MethodId} {below : List Frame} {meth : Method} {c : Code} {b L : Nat} {xs : Nat → Int32}
variable {dC : Nat → ClassId} {dI : Nat → Nat → Nat} {cA : Nat → ClassId} {q sv : Nat → Nat} {qo : Nat} {cells slots : Nat} {Q : State → Prop} {ls : Array Slot} {H : Heap} {locs : List Loc} {x : xM} {i : Nat}
def case6 (p : Program) (l : Launch) (e : Env) (s : State) (mid : MethodId) (below : List Frame) (meth : Method) (c : Code) (b L : Nat) (xs : Nat → Int32) (dC : Nat → ClassId) (dI : Nat → Nat → Nat) (cA : Nat → ClassId) (q : Nat → Nat) (qo : Nat) (Q : State → Prop) : Prop := ∀ (cells slots : Nat) (ls : Array Slot) (H : Heap) (locs : List Loc) (x : xM) (i : Nat), i + 6 ≤ L → lv_has ls 7 (lvL b q qo i) → lSt s dC dI cA q qo x H locs → Inv x → cells ≤ 10000 ∧ slots ≤ 100000 → (∀ (x' : xM) (H1 : Heap) (locs1 : List Loc) (ls1 : Array Slot), Inv x' → lSt s dC dI cA q qo x' H1 locs1 → lv_has ls1 7 (lvL b q qo i) → W p l e room_1 s mid #[Value.ref b] below meth c H1 locs1 (cells + 6) (slots + 60) Q (F0 mid 1601 ls1 [])) → W p l e room_1 s mid #[Value.ref b] below meth c H locs cells slots Q (F0 mid 446 ls [])
set_option maxHeartbeats 4000000 in
theorem w_loop (C : lCx p l s mid meth c b L xs dC dI cA q sv qo) (hL : L ≤ 3072) (h6 : case6 p l e s mid below meth c b L xs dC dI cA q qo (lw_Z below #[Value.ref b] s)) : ∀ k i : Nat, L ≤ i + k → i ≤ 3072 → ∀ (x : xM) (H : Heap) (locs : List Loc) (ls : Array Slot), Inv x → lSt s dC dI cA q qo x H locs → lv_has ls 7 (lvL b q qo i) → W p l e room_1 s mid #[Value.ref b] below meth c H locs (1000 + i) (34000 + 10 * i) (lw_Z below #[Value.ref b] s) (F0 mid 23 ls []) := by
  obtain ⟨hx, hb, hr, hml, hown, hts, hX, hbl, hlocks, hgv⟩ := id C.1
  intro k
  induction k using Nat.strongRecOn with
  | ind k ih =>
    intro i hk hi x H locs ls hv hst hls
    refine lv_iload hx hb dW_23 (lv_at hls 4 rfl) ?_
    refine lv_aload_n hx hb dW_25 rfl (lv_at hls 0 rfl) ?_
    refine va_slen hx hb hX hbl (Nat.not_le.mpr hbl) hst.2 dW_26 ?_
    refine lv_bipush (v := 6) hx hb dW_27 (by decide) ?_
    refine lv_isub hx hb dW_29 ?_
    have hsub : (Int32.ofNat L - 6).toInt = (L : Int) - 6 := by
      rw [Int32.toInt_sub, show (Int32.ofNat L).toInt = (L : Int) from nI_toInt (by omega), show (6 : Int32).toInt = 6 by decide]
      exact Int.bmod_eq_of_le (by omega) (by omega)
    have hni : (nI i).toInt = (i : Int) := nI_toInt (by omega)
    refine lv_icmp_gt (tgt := 1607) hx hb dW_30 (by decide) (fun c9 => ?_) (fun c9 => ?_)
    · refine lv_iconst (v := 1) hx hb dW_1607 (by decide) ?_
      refine va_forget (fun q hq => hst.2.2.2 q hq) ?_
      refine W.widen (k := 601024) (n := 7293033) (by omega) (by omega) ?_
      exact lw_ret hx hb hr hlocks dW_1608
    have hi6 : i + 6 ≤ L := by
      have h1 : ¬ (Int32.ofNat L - 6).toInt < (nI i).toInt := fun h => c9 (Int32.lt_iff_toInt_lt.mpr h)
      omega
    refine lv_aload_n hx hb dW_33 rfl (lv_at hls 0 rfl) ?_
    refine lv_iload hx hb dW_34 (lv_at hls 4 rfl) ?_
    have hin : vp_in (nI i) L := by
      unfold vp_in
      rw [nI_clamp (by omega)]
      rintro (h1 | h1)
      · exact nI_pos (by omega) h1
      · omega
    refine va_sld hx hb hX hbl (Nat.not_le.mpr hbl) hst.2 (i := nI i) hin dW_36 ?_
    rw [nI_clamp (by omega)]
    refine lv_bipush (v := 63) hx hb dW_37 (by decide) ?_
    refine lv_iand hx hb dW_39 ?_
    obtain ⟨j, hj, ej⟩ := pk_andE (xs i) (m := 63) 6 (by decide)
    rw [ej]
    -- the end of a round
    have fin : ∀ (x' : xM) (H1 : Heap) (locs1 : List Loc) (ls1 : Array Slot), Inv x' → lSt s dC dI cA q qo x' H1 locs1 → lv_has ls1 7 (lvL b q qo i) → W p l e room_1 s mid #[Value.ref b] below meth c H1 locs1 (1000 + i + 6) (34000 + 10 * i + 60) (lw_Z below #[Value.ref b] s) (F0 mid 1601 ls1 []) := by
      intro x' H1 locs1 ls1 hv' hst' hls'
      refine lv_iinc (v := nI (i + 6)) (k := 4) hx hb dW_1601 hls' rfl (by rw [show Int32.ofInt 6 = nI 6 by decide, r_ad]) (by decide) rfl (fun ls2 hl2 => ?_)
      refine lv_goto (tgt := 23) hx hb dW_1604 (by decide) ?_
      have hz := ih (k - 6) (by omega) (i + 6) (by omega) (by omega) x' H1 locs1 ls2 hv' hst' (lv_sub hl2 [1, 2, 3, 4, 0] rfl)
      rw [show 1000 + (i + 6) = 1000 + i + 6 by omega, show 34000 + 10 * (i + 6) = 34000 + 10 * i + 60 by omega] at hz
      exact hz
    have fin0 : ∀ (x' : xM) (H1 : Heap) (locs1 : List Loc), Inv x' → lSt s dC dI cA q qo x' H1 locs1 → W p l e room_1 s mid #[Value.ref b] below meth c H1 locs1 (1000 + i) (34000 + 10 * i) (lw_Z below #[Value.ref b] s) (F0 mid 1601 ls []) := fun x' H1 locs1 hv' hst' => W.widen (k := 1000 + i + 6) (n := 34000 + 10 * i + 60) (by omega) (by omega) (fin x' H1 locs1 ls hv' hst' hls)
    have hcs : 1000 + i ≤ 601024 ∧ 34000 + 10 * i ≤ 7293033 := by omega
    have key : ∀ a : Nat, a < 42 → W p l e room_1 s mid #[Value.ref b] below meth c H locs (1000 + i) (34000 + 10 * i) (lw_Z below #[Value.ref b] s) (F0 mid 40 ls [.int (nI a)]) := by
      intro a ha
      match a, ha with
      | 0, _ => exact lv_tableIn (off := 184) (tgt := 224) hx hb dW_40 (by decide) (by decide) rfl (by decide) (lk_0 C hL hi6 hls hst hv hcs fin0)
      | 1, _ => exact lv_tableIn (off := 257) (tgt := 297) hx hb dW_40 (by decide) (by decide) rfl (by decide) (lk_1 C hL hi6 hls hst hv hcs fin0)
      | 2, _ => exact lv_tableIn (off := 282) (tgt := 322) hx hb dW_40 (by decide) (by decide) rfl (by decide) (lk_2 C hL hi6 hls hst hv hcs fin0)
      | 3, _ => exact lv_tableIn (off := 307) (tgt := 347) hx hb dW_40 (by decide) (by decide) rfl (by decide) (lk_3 C hL hi6 hls hst hv hcs fin0)
      | 4, _ => exact lv_tableIn (off := 332) (tgt := 372) hx hb dW_40 (by decide) (by decide) rfl (by decide) (lk_4 C hL hi6 hls hst hv hcs fin0)
      | 5, _ => exact lv_tableIn (off := 369) (tgt := 409) hx hb dW_40 (by decide) (by decide) rfl (by decide) (lk_5 C hL hi6 hls hst hv hcs fin0)
      | 6, _ => exact lv_tableIn (off := 406) (tgt := 446) hx hb dW_40 (by decide) (by decide) rfl (by decide) (h6 (1000 + i) (34000 + 10 * i) ls H locs x i hi6 hls hst hv (by omega) fin)
      | 7, _ => exact lv_tableIn (off := 446) (tgt := 486) hx hb dW_40 (by decide) (by decide) rfl (by decide) (lk_7 C hL hi6 hls hst hv hcs fin0)
      | 8, _ => exact lv_tableIn (off := 471) (tgt := 511) hx hb dW_40 (by decide) (by decide) rfl (by decide) (lk_8 C hL hi6 hls hst hv hcs fin0)
      | 9, _ => exact lv_tableIn (off := 496) (tgt := 536) hx hb dW_40 (by decide) (by decide) rfl (by decide) (lk_9 C hL hi6 hls hst hv hcs fin0)
      | 10, _ => exact lv_tableIn (off := 509) (tgt := 549) hx hb dW_40 (by decide) (by decide) rfl (by decide) (lk_10 C hL hi6 hls hst hv hcs fin0)
      | 11, _ => exact lv_tableIn (off := 534) (tgt := 574) hx hb dW_40 (by decide) (by decide) rfl (by decide) (lk_11 C hL hi6 hls hst hv hcs fin0)
      | 12, _ => exact lv_tableIn (off := 559) (tgt := 599) hx hb dW_40 (by decide) (by decide) rfl (by decide) (lk_12 C hL hi6 hls hst hv hcs fin0)
      | 13, _ => exact lv_tableIn (off := 596) (tgt := 636) hx hb dW_40 (by decide) (by decide) rfl (by decide) (lk_13 C hL hi6 hls hst hv hcs fin0)
      | 14, _ => exact lv_tableIn (off := 621) (tgt := 661) hx hb dW_40 (by decide) (by decide) rfl (by decide) (lk_14 C hL hi6 hls hst hv hcs fin0)
      | 15, _ => exact lv_tableIn (off := 646) (tgt := 686) hx hb dW_40 (by decide) (by decide) rfl (by decide) (lk_15 C hL hi6 hls hst hv hcs fin0)
      | 16, _ => exact lv_tableIn (off := 715) (tgt := 755) hx hb dW_40 (by decide) (by decide) rfl (by decide) (lk_16 C hL hi6 hls hst hv hcs fin0)
      | 17, _ => exact lv_tableIn (off := 728) (tgt := 768) hx hb dW_40 (by decide) (by decide) rfl (by decide) (lk_17 C hL hi6 hls hst hv hcs fin0)
      | 18, _ => exact lv_tableIn (off := 765) (tgt := 805) hx hb dW_40 (by decide) (by decide) rfl (by decide) (lk_18 C hL hi6 hls hst hv hcs fin0)
      | 19, _ => exact lv_tableIn (off := 802) (tgt := 842) hx hb dW_40 (by decide) (by decide) rfl (by decide) (lk_19 C hL hi6 hls hst hv hcs fin0)
      | 20, _ => exact lv_tableIn (off := 839) (tgt := 879) hx hb dW_40 (by decide) (by decide) rfl (by decide) (lk_20 C hL hi6 hls hst hv hcs fin0)
      | 21, _ => exact lv_tableIn (off := 876) (tgt := 916) hx hb dW_40 (by decide) (by decide) rfl (by decide) (lk_21 C hL hi6 hls hst hv hcs fin0)
      | 22, _ => exact lv_tableIn (off := 913) (tgt := 953) hx hb dW_40 (by decide) (by decide) rfl (by decide) (lk_22 C hL hi6 hls hst hv hcs fin0)
      | 23, _ => exact lv_tableIn (off := 950) (tgt := 990) hx hb dW_40 (by decide) (by decide) rfl (by decide) (lk_23 C hL hi6 hls hst hv hcs fin0)
      | 24, _ => exact lv_tableIn (off := 975) (tgt := 1015) hx hb dW_40 (by decide) (by decide) rfl (by decide) (lk_24 C hL hi6 hls hst hv hcs fin0)
      | 25, _ => exact lv_tableIn (off := 1012) (tgt := 1052) hx hb dW_40 (by decide) (by decide) rfl (by decide) (lk_25 C hL hi6 hls hst hv hcs fin0)
      | 26, _ => exact lv_tableIn (off := 1065) (tgt := 1105) hx hb dW_40 (by decide) (by decide) rfl (by decide) (lk_26 C hL hi6 hls hst hv hcs fin0)
      | 27, _ => exact lv_tableIn (off := 1090) (tgt := 1130) hx hb dW_40 (by decide) (by decide) rfl (by decide) (lk_27 C hL hi6 hls hst hv hcs fin0)
      | 28, _ => exact lv_tableIn (off := 1103) (tgt := 1143) hx hb dW_40 (by decide) (by decide) rfl (by decide) (lk_28 C hL hi6 hls hst hv hcs fin0)
      | 29, _ => exact lv_tableIn (off := 1128) (tgt := 1168) hx hb dW_40 (by decide) (by decide) rfl (by decide) (lk_29 C hL hi6 hls hst hv hcs fin0)
      | 30, _ => exact lv_tableIn (off := 1165) (tgt := 1205) hx hb dW_40 (by decide) (by decide) rfl (by decide) (lk_30 C hL hi6 hls hst hv hcs fin0)
      | 31, _ => exact lv_tableIn (off := 1202) (tgt := 1242) hx hb dW_40 (by decide) (by decide) rfl (by decide) (lk_31 C hL hi6 hls hst hv hcs fin0)
      | 32, _ => exact lv_tableIn (off := 1227) (tgt := 1267) hx hb dW_40 (by decide) (by decide) rfl (by decide) (lk_32 C hL hi6 hls hst hv hcs fin0)
      | 33, _ => exact lv_tableIn (off := 1252) (tgt := 1292) hx hb dW_40 (by decide) (by decide) rfl (by decide) (lk_33 C hL hi6 hls hst hv hcs fin0)
      | 34, _ => exact lv_tableIn (off := 1325) (tgt := 1365) hx hb dW_40 (by decide) (by decide) rfl (by decide) (lk_34 C hL hi6 hls hst hv hcs fin0)
      | 35, _ => exact lv_tableIn (off := 1374) (tgt := 1414) hx hb dW_40 (by decide) (by decide) rfl (by decide) (lk_35 C hL hi6 hls hst hv hcs fin0)
      | 36, _ => exact lv_tableIn (off := 1411) (tgt := 1451) hx hb dW_40 (by decide) (by decide) rfl (by decide) (lk_36 C hL hi6 hls hst hv hcs fin0)
      | 37, _ => exact lv_tableIn (off := 1448) (tgt := 1488) hx hb dW_40 (by decide) (by decide) rfl (by decide) (lk_37 C hL hi6 hls hst hv hcs fin0)
      | 38, _ => exact lv_tableIn (off := 1473) (tgt := 1513) hx hb dW_40 (by decide) (by decide) rfl (by decide) (lk_38 C hL hi6 hls hst hv hcs fin0)
      | 39, _ => exact lv_tableIn (off := 1510) (tgt := 1550) hx hb dW_40 (by decide) (by decide) rfl (by decide) (lk_39 C hL hi6 hls hst hv hcs fin0)
      | 40, _ => exact lv_tableIn (off := 1523) (tgt := 1563) hx hb dW_40 (by decide) (by decide) rfl (by decide) (lk_40 C hL hi6 hls hst hv hcs fin0)
      | 41, _ => exact lv_tableIn (off := 1536) (tgt := 1576) hx hb dW_40 (by decide) (by decide) rfl (by decide) (lk_41 C hL hi6 hls hst hv hcs fin0)
      | a + 42, h => exact absurd h (by omega)
    rcases Nat.lt_or_ge j 42 with hj2 | hj2
    · exact key j hj2
    · refine lv_tableOut (tgt := 1601) hx hb dW_40 (Or.inr (by rw [nI_toInt (by omega)]; omega)) (by decide) ?_
      exact fin0 x H locs hv hst
end CASES
