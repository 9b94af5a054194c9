/-! L3: the loop -/
set_option maxRecDepth 20000 in
theorem dW_23 : decode cL_law 23 = .ok (.iload 4, 2) := by decide +kernel
set_option maxRecDepth 20000 in
theorem dW_25 : decode cL_law 25 = .ok (.aload_n 0, 1) := by decide +kernel
set_option maxRecDepth 20000 in
theorem dW_26 : decode cL_law 26 = .ok (.arraylength, 1) := by decide +kernel
set_option maxRecDepth 20000 in
theorem dW_27 : decode cL_law 27 = .ok (.bipush 6, 2) := by decide +kernel
set_option maxRecDepth 20000 in
theorem dW_29 : decode cL_law 29 = .ok (.isub, 1) := by decide +kernel
set_option maxRecDepth 20000 in
theorem dW_30 : decode cL_law 30 = .ok (.if_icmp .gt 1605, 3) := by decide +kernel
set_option maxRecDepth 20000 in
theorem dW_33 : decode cL_law 33 = .ok (.aload_n 0, 1) := by decide +kernel
set_option maxRecDepth 20000 in
theorem dW_34 : decode cL_law 34 = .ok (.iload 4, 2) := by decide +kernel
set_option maxRecDepth 20000 in
theorem dW_36 : decode cL_law 36 = .ok (.iaload, 1) := by decide +kernel
set_option maxRecDepth 20000 in
theorem dW_37 : decode cL_law 37 = .ok (.bipush 63, 2) := by decide +kernel
set_option maxRecDepth 20000 in
theorem dW_39 : decode cL_law 39 = .ok (.iand, 1) := by decide +kernel
set_option maxRecDepth 20000 in
theorem dW_40 : decode cL_law 40 = .ok (.tableswitch 1589 0 41 #[184, 257, 282, 307, 332, 369, 406, 474, 499, 524, 537, 562, 587, 624, 649, 674, 743, 756, 793, 830, 867, 904, 941, 978, 1003, 1040, 1093, 1118, 1131, 1156, 1193, 1230, 1255, 1280, 1353, 1402, 1439, 1476, 1501, 1538, 1551, 1564], 184) := by decide +kernel
set_option maxRecDepth 20000 in
theorem dW_1629 : decode cL_law 1629 = .ok (.iinc 4 6, 3) := by decide +kernel
set_option maxRecDepth 20000 in
theorem dW_1632 : decode cL_law 1632 = .ok (.goto (-1609), 3) := by decide +kernel
set_option maxRecDepth 20000 in
theorem dW_1635 : decode cL_law 1635 = .ok (.iconst 1, 1) := by decide +kernel
set_option maxRecDepth 20000 in
theorem dW_1636 : decode cL_law 1636 = .ok (.ireturn, 1) := by decide +kernel
section CASES
variable {p : Program} {l : Launch} {e : Env} {s : State} {mid : MethodId} {below : List Frame} {meth : Method} {c : Code} {b L : Nat} {xs : Nat → Int32}
variable {dC : Nat → ClassId} {dI : Nat → Nat → Nat} {cA : Nat → ClassId} {q sv : Nat → Nat} {qo : Nat} {cells slots : Nat} {Q : State → Prop} {ls : Array Slot} {H : Heap} {locs : List Loc} {x : xM} {i : Nat}
def case6 (p : Program) (l : Launch) (e : Env) (s : State) (mid : MethodId) (below : List Frame) (meth : Method) (c : Code) (b L : Nat) (xs : Nat → Int32) (dC : Nat → ClassId) (dI : Nat → Nat → Nat) (cA : Nat → ClassId) (q : Nat → Nat) (qo : Nat) (Q : State → Prop) : Prop := ∀ (cells slots : Nat) (ls : Array Slot) (H : Heap) (locs : List Loc) (x : xM) (i : Nat), i + 6 ≤ L → lv_has ls 7 (lvL b q qo i) → lSt s dC dI cA q qo x H locs → Inv x → cells ≤ 10000 ∧ slots ≤ 100000 → (∀ (x' : xM) (H1 : Heap) (locs1 : List Loc) (ls1 : Array Slot), Inv x' → lSt s dC dI cA q qo x' H1 locs1 → lv_has ls1 7 (lvL b q qo i) → W p l e room_1 s mid #[Value.ref b] below meth c H1 locs1 (cells + 6) (slots + 60) Q (F0 mid 1629 ls1 [])) → W p l e room_1 s mid #[Value.ref b] below meth c H locs cells slots Q (F0 mid 446 ls [])
set_option maxHeartbeats 4000000 in
theorem w_loop (C : lCx p l s mid meth c b L xs dC dI cA q sv qo) (hL : L ≤ 3072) (h6 : case6 p l e s mid below meth c b L xs dC dI cA q qo (lw_Z below #[Value.ref b] s)) : ∀ k i : Nat, L ≤ i + k → i ≤ 3072 → ∀ (x : xM) (H : Heap) (locs : List Loc) (ls : Array Slot), Inv x → lSt s dC dI cA q qo x H locs → lv_has ls 7 (lvL b q qo i) → W p l e room_1 s mid #[Value.ref b] below meth c H locs (1000 + i) (34000 + 10 * i) (lw_Z below #[Value.ref b] s) (F0 mid 23 ls []) := by
  obtain ⟨hx, hb, hr, hml, hown, hts, hX, hbl, hlocks, hgv⟩ := id C.1
  intro k
  induction k using Nat.strongRecOn with
  | ind k ih =>
    intro i hk hi x H locs ls hv hst hls
    refine lv_iload hx hb dW_23 (lv_at hls 4 rfl) ?_
    refine lv_aload_n hx hb dW_25 rfl (lv_at hls 0 rfl) ?_
    refine va_slen hx hb hX hbl (Nat.not_le.mpr hbl) hst.2 dW_26 ?_
    refine lv_bipush (v := 6) hx hb dW_27 (by decide) ?_
    refine lv_isub hx hb dW_29 ?_
    have hsub : (Int32.ofNat L - 6).toInt = (L : Int) - 6 := by
      rw [Int32.toInt_sub, show (Int32.ofNat L).toInt = (L : Int) from nI_toInt (by omega), show (6 : Int32).toInt = 6 by decide]
      exact Int.bmod_eq_of_le (by omega) (by omega)
    have hni : (nI i).toInt = (i : Int) := nI_toInt (by omega)
    refine lv_icmp_gt (tgt := 1635) hx hb dW_30 (by decide) (fun c9 => ?_) (fun c9 => ?_)
    · refine lv_iconst (v := 1) hx hb dW_1635 (by decide) ?_
      refine va_forget (fun q hq => hst.2.2.2 q hq) ?_
      refine W.widen (k := 601024) (n := 7293033) (by omega) (by omega) ?_
      exact lw_ret hx hb hr hlocks dW_1636
    have hi6 : i + 6 ≤ L := by
      have h1 : ¬ (Int32.ofNat L - 6).toInt < (nI i).toInt := fun h => c9 (Int32.lt_iff_toInt_lt.mpr h)
      omega
    refine lv_aload_n hx hb dW_33 rfl (lv_at hls 0 rfl) ?_
    refine lv_iload hx hb dW_34 (lv_at hls 4 rfl) ?_
    have hin : vp_in (nI i) L := by
      unfold vp_in
      rw [nI_clamp (by omega)]
      rintro (h1 | h1)
      · exact nI_pos (by omega) h1
      · omega
    refine va_sld hx hb hX hbl (Nat.not_le.mpr hbl) hst.2 (i := nI i) hin dW_36 ?_
    rw [nI_clamp (by omega)]
    refine lv_bipush (v := 63) hx hb dW_37 (by decide) ?_
    refine lv_iand hx hb dW_39 ?_
    obtain ⟨j, hj, ej⟩ := pk_andE (xs i) (m := 63) 6 (by decide)
    rw [ej]
    -- the end of a round
    have fin : ∀ (x' : xM) (H1 : Heap) (locs1 : List Loc) (ls1 : Array Slot), Inv x' → lSt s dC dI cA q qo x' H1 locs1 → lv_has ls1 7 (lvL b q qo i) → W p l e room_1 s mid #[Value.ref b] below meth c H1 locs1 (1000 + i + 6) (34000 + 10 * i + 60) (lw_Z below #[Value.ref b] s) (F0 mid 1629 ls1 []) := by
      intro x' H1 locs1 ls1 hv' hst' hls'
      refine lv_iinc (v := nI (i + 6)) (k := 4) hx hb dW_1629 hls' rfl (by rw [show Int32.ofInt 6 = nI 6 by decide, r_ad]) (by decide) rfl (fun ls2 hl2 => ?_)
      refine lv_goto (tgt := 23) hx hb dW_1632 (by decide) ?_
      have hz := ih (k - 6) (by omega) (i + 6) (by omega) (by omega) x' H1 locs1 ls2 hv' hst' (lv_sub hl2 [1, 2, 3, 4, 0] rfl)
      rw [show 1000 + (i + 6) = 1000 + i + 6 by omega, show 34000 + 10 * (i + 6) = 34000 + 10 * i + 60 by omega] at hz
      exact hz
    have fin0 : ∀ (x' : xM) (H1 : Heap) (locs1 : List Loc), Inv x' → lSt s dC dI cA q qo x' H1 locs1 → W p l e room_1 s mid #[Value.ref b] below meth c H1 locs1 (1000 + i) (34000 + 10 * i) (lw_Z below #[Value.ref b] s) (F0 mid 1629 ls []) := fun x' H1 locs1 hv' hst' => W.widen (k := 1000 + i + 6) (n := 34000 + 10 * i + 60) (by omega) (by omega) (fin x' H1 locs1 ls hv' hst' hls)
    have hcs : 1000 + i ≤ 601024 ∧ 34000 + 10 * i ≤ 7293033 := by omega
    have key : ∀ a : Nat, a < 42 → W p l e room_1 s mid #[Value.ref b] below meth c H locs (1000 + i) (34000 + 10 * i) (lw_Z below #[Value.ref b] s) (F0 mid 40 ls [.int (nI a)]) := by
      intro a ha
      match a, ha with
      | 0, _ => exact lv_tableIn (off := 184) (tgt := 224) hx hb dW_40 (by decide) (by decide) rfl (by decide) (lk_0 C hL hi6 hls hst hv hcs fin0)
      | 1, _ => exact lv_tableIn (off := 257) (tgt := 297) hx hb dW_40 (by decide) (by decide) rfl (by decide) (lk_1 C hL hi6 hls hst hv hcs fin0)
      | 2, _ => exact lv_tableIn (off := 282) (tgt := 322) hx hb dW_40 (by decide) (by decide) rfl (by decide) (lk_2 C hL hi6 hls hst hv hcs fin0)
      | 3, _ => exact lv_tableIn (off := 307) (tgt := 347) hx hb dW_40 (by decide) (by decide) rfl (by decide) (lk_3 C hL hi6 hls hst hv hcs fin0)
      | 4, _ => exact lv_tableIn (off := 332) (tgt := 372) hx hb dW_40 (by decide) (by decide) rfl (by decide) (lk_4 C hL hi6 hls hst hv hcs fin0)
      | 5, _ => exact lv_tableIn (off := 369) (tgt := 409) hx hb dW_40 (by decide) (by decide) rfl (by decide) (lk_5 C hL hi6 hls hst hv hcs fin0)
      | 6, _ => exact lv_tableIn (off := 406) (tgt := 446) hx hb dW_40 (by decide) (by decide) rfl (by decide) (h6 (1000 + i) (34000 + 10 * i) ls H locs x i hi6 hls hst hv (by omega) fin)
      | 7, _ => exact lv_tableIn (off := 474) (tgt := 514) hx hb dW_40 (by decide) (by decide) rfl (by decide) (lk_7 C hL hi6 hls hst hv hcs fin0)
      | 8, _ => exact lv_tableIn (off := 499) (tgt := 539) hx hb dW_40 (by decide) (by decide) rfl (by decide) (lk_8 C hL hi6 hls hst hv hcs fin0)
      | 9, _ => exact lv_tableIn (off := 524) (tgt := 564) hx hb dW_40 (by decide) (by decide) rfl (by decide) (lk_9 C hL hi6 hls hst hv hcs fin0)
      | 10, _ => exact lv_tableIn (off := 537) (tgt := 577) hx hb dW_40 (by decide) (by decide) rfl (by decide) (lk_10 C hL hi6 hls hst hv hcs fin0)
      | 11, _ => exact lv_tableIn (off := 562) (tgt := 602) hx hb dW_40 (by decide) (by decide) rfl (by decide) (lk_11 C hL hi6 hls hst hv hcs fin0)
      | 12, _ => exact lv_tableIn (off := 587) (tgt := 627) hx hb dW_40 (by decide) (by decide) rfl (by decide) (lk_12 C hL hi6 hls hst hv hcs fin0)
      | 13, _ => exact lv_tableIn (off := 624) (tgt := 664) hx hb dW_40 (by decide) (by decide) rfl (by decide) (lk_13 C hL hi6 hls hst hv hcs fin0)
      | 14, _ => exact lv_tableIn (off := 649) (tgt := 689) hx hb dW_40 (by decide) (by decide) rfl (by decide) (lk_14 C hL hi6 hls hst hv hcs fin0)
      | 15, _ => exact lv_tableIn (off := 674) (tgt := 714) hx hb dW_40 (by decide) (by decide) rfl (by decide) (lk_15 C hL hi6 hls hst hv hcs fin0)
      | 16, _ => exact lv_tableIn (off := 743) (tgt := 783) hx hb dW_40 (by decide) (by decide) rfl (by decide) (lk_16 C hL hi6 hls hst hv hcs fin0)
      | 17, _ => exact lv_tableIn (off := 756) (tgt := 796) hx hb dW_40 (by decide) (by decide) rfl (by decide) (lk_17 C hL hi6 hls hst hv hcs fin0)
      | 18, _ => exact lv_tableIn (off := 793) (tgt := 833) hx hb dW_40 (by decide) (by decide) rfl (by decide) (lk_18 C hL hi6 hls hst hv hcs fin0)
      | 19, _ => exact lv_tableIn (off := 830) (tgt := 870) hx hb dW_40 (by decide) (by decide) rfl (by decide) (lk_19 C hL hi6 hls hst hv hcs fin0)
      | 20, _ => exact lv_tableIn (off := 867) (tgt := 907) hx hb dW_40 (by decide) (by decide) rfl (by decide) (lk_20 C hL hi6 hls hst hv hcs fin0)
      | 21, _ => exact lv_tableIn (off := 904) (tgt := 944) hx hb dW_40 (by decide) (by decide) rfl (by decide) (lk_21 C hL hi6 hls hst hv hcs fin0)
      | 22, _ => exact lv_tableIn (off := 941) (tgt := 981) hx hb dW_40 (by decide) (by decide) rfl (by decide) (lk_22 C hL hi6 hls hst hv hcs fin0)
      | 23, _ => exact lv_tableIn (off := 978) (tgt := 1018) hx hb dW_40 (by decide) (by decide) rfl (by decide) (lk_23 C hL hi6 hls hst hv hcs fin0)
      | 24, _ => exact lv_tableIn (off := 1003) (tgt := 1043) hx hb dW_40 (by decide) (by decide) rfl (by decide) (lk_24 C hL hi6 hls hst hv hcs fin0)
      | 25, _ => exact lv_tableIn (off := 1040) (tgt := 1080) hx hb dW_40 (by decide) (by decide) rfl (by decide) (lk_25 C hL hi6 hls hst hv hcs fin0)
      | 26, _ => exact lv_tableIn (off := 1093) (tgt := 1133) hx hb dW_40 (by decide) (by decide) rfl (by decide) (lk_26 C hL hi6 hls hst hv hcs fin0)
      | 27, _ => exact lv_tableIn (off := 1118) (tgt := 1158) hx hb dW_40 (by decide) (by decide) rfl (by decide) (lk_27 C hL hi6 hls hst hv hcs fin0)
      | 28, _ => exact lv_tableIn (off := 1131) (tgt := 1171) hx hb dW_40 (by decide) (by decide) rfl (by decide) (lk_28 C hL hi6 hls hst hv hcs fin0)
      | 29, _ => exact lv_tableIn (off := 1156) (tgt := 1196) hx hb dW_40 (by decide) (by decide) rfl (by decide) (lk_29 C hL hi6 hls hst hv hcs fin0)
      | 30, _ => exact lv_tableIn (off := 1193) (tgt := 1233) hx hb dW_40 (by decide) (by decide) rfl (by decide) (lk_30 C hL hi6 hls hst hv hcs fin0)
      | 31, _ => exact lv_tableIn (off := 1230) (tgt := 1270) hx hb dW_40 (by decide) (by decide) rfl (by decide) (lk_31 C hL hi6 hls hst hv hcs fin0)
      | 32, _ => exact lv_tableIn (off := 1255) (tgt := 1295) hx hb dW_40 (by decide) (by decide) rfl (by decide) (lk_32 C hL hi6 hls hst hv hcs fin0)
      | 33, _ => exact lv_tableIn (off := 1280) (tgt := 1320) hx hb dW_40 (by decide) (by decide) rfl (by decide) (lk_33 C hL hi6 hls hst hv hcs fin0)
      | 34, _ => exact lv_tableIn (off := 1353) (tgt := 1393) hx hb dW_40 (by decide) (by decide) rfl (by decide) (lk_34 C hL hi6 hls hst hv hcs fin0)
      | 35, _ => exact lv_tableIn (off := 1402) (tgt := 1442) hx hb dW_40 (by decide) (by decide) rfl (by decide) (lk_35 C hL hi6 hls hst hv hcs fin0)
      | 36, _ => exact lv_tableIn (off := 1439) (tgt := 1479) hx hb dW_40 (by decide) (by decide) rfl (by decide) (lk_36 C hL hi6 hls hst hv hcs fin0)
      | 37, _ => exact lv_tableIn (off := 1476) (tgt := 1516) hx hb dW_40 (by decide) (by decide) rfl (by decide) (lk_37 C hL hi6 hls hst hv hcs fin0)
      | 38, _ => exact lv_tableIn (off := 1501) (tgt := 1541) hx hb dW_40 (by decide) (by decide) rfl (by decide) (lk_38 C hL hi6 hls hst hv hcs fin0)
      | 39, _ => exact lv_tableIn (off := 1538) (tgt := 1578) hx hb dW_40 (by decide) (by decide) rfl (by decide) (lk_39 C hL hi6 hls hst hv hcs fin0)
      | 40, _ => exact lv_tableIn (off := 1551) (tgt := 1591) hx hb dW_40 (by decide) (by decide) rfl (by decide) (lk_40 C hL hi6 hls hst hv hcs fin0)
      | 41, _ => exact lv_tableIn (off := 1564) (tgt := 1604) hx hb dW_40 (by decide) (by decide) rfl (by decide) (lk_41 C hL hi6 hls hst hv hcs fin0)
      | a + 42, h => exact absurd h (by omega)
    rcases Nat.lt_or_ge j 42 with hj2 | hj2
    · exact key j hj2
    · refine lv_tableOut (tgt := 1629) hx hb dW_40 (Or.inr (by rw [nI_toInt (by omega)]; omega)) (by decide) ?_
      exact fin0 x H locs hv hst
end CASES
