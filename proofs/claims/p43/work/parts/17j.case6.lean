set_option maxRecDepth 20000 in
set_option maxHeartbeats 4000000 in
theorem st_tp {s : State} {b : Nat} (hts : ∀ w ∈ lw_tbl, w.before #[Value.ref b] s = true) (hgv : (Jvm.Cond.and given_1 narrow_1).before #[Value.ref b] s = true) : ∃ s3 : Nat, tP s3 (fun q : Nat => s.heap.size ≤ q) s s.heap := by
  have hs := flat_of_before _ hgv
  have hA : ∀ a : Nat, a < s.heap.size → ¬ (fun q : Nat => s.heap.size ≤ q) a := fun a h => Nat.not_le.mpr h
  obtain ⟨a3, -, -, -, q3, -⟩ := Cond.exactly_spec (args := #[Value.ref b]) (first := s) (o := none) (s := s) (idx := []) (t := Term.string "WallChapels" 201) (cls := "java/lang/String") (hs _ (by decide +kernel))
  refine ⟨a3, ⟨vx_Zqof (hts (.laysStatic "java/lang/Throwable" "UNASSIGNED_STACK" "[Ljava/lang/StackTraceElement;") (lwA_in (i := 1241) (by decide +kernel))) (hts (.initialized "java/lang/Throwable") (lwA_in (i := 168) (by decide +kernel))) (hs _ (by decide +kernel)) hA, vx_Zqof (hts (.laysStatic "java/lang/Throwable" "SUPPRESSED_SENTINEL" "Ljava/util/List;") (lwA_in (i := 1243) (by decide +kernel))) (hts (.initialized "java/lang/Throwable") (lwA_in (i := 168) (by decide +kernel))) (hs _ (by decide +kernel)) hA⟩, vk_R.of (hts (.stringRef RX11 201 "no such walker, or nothing of him by that number") (lwA_in (i := 1253) (by decide +kernel))) q3, va_Nw.of rfl (hts (.castable "java/util/NoSuchElementException" "java/util/NoSuchElementException") (lwA_in (i := 1216) (by decide +kernel))), va_Nw.of rfl (hts (.declares ⟨"java/lang/RuntimeException", "<init>", "(Ljava/lang/String;)V"⟩) (lwA_in (i := 1218) (by decide +kernel))), va_Nw.of rfl (hts (.declares ⟨"java/lang/Exception", "<init>", "(Ljava/lang/String;)V"⟩) (lwA_in (i := 1220) (by decide +kernel))), va_Nw.of rfl (hts (.declares ⟨"java/lang/Throwable", "<init>", "(Ljava/lang/String;)V"⟩) (lwA_in (i := 1222) (by decide +kernel)))⟩
theorem jM_eq {x u : xM} (h : u.1 = x.1) (hi : jM x) : jM u := jM_st (c := (0, [], [], [], [])) (by decide) x u (fun a i _ => by rw [h]) hi
theorem inv_wk {x u : xM} (hi : Inv x) (h : wkU x u) : Inv u := ⟨h.1, jM_eq h.2 hi.2.1, rel_ag hi.2.2.1 (fun a i _ => by rw [h.2]), relS_ag hi.2.2.2.1 (fun a i _ => by rw [h.2]), P_wk hi.2.2.2.2 h.2⟩
theorem lw_wW : GoodIn lw_tbl wW := by
  intro w hw
  rcases List.mem_cons.mp hw with e | hw
  · rw [e]
    exact ⟨by decide +kernel, Or.inl (by decide +kernel)⟩
  · exact ⟨(List.mem_filter.mp hw).1, good_of_word (good_al hw)⟩
section W6
variable {p : Program} {l : Launch} {e : Env} {s : State} {mid : MethodId} {below : List Frame} {meth : Method} {c : Code} {b L : Nat} {xs : Nat → Int32}
variable {dC : Nat → ClassId} {dI : Nat → Nat → Nat} {cA : Nat → ClassId} {q sv : Nat → Nat} {qo : Nat} {Q : State → Prop}
set_option maxHeartbeats 4000000 in
theorem case6_ok (C : lCx p l s mid meth c b L xs dC dI cA q sv qo) (hL : L ≤ 3072) : case6 p l e s mid below meth c b L xs dC dI cA q qo Q := by
  intro cells slots ls H locs x i hi6 hls hst hv hcs kk
  have C' := C
  obtain ⟨⟨hx, hb, hr, hml, hown, hts, hX, hbl, hlocks, hgv⟩, hK, hG, hE, hqA, hqi, hqo, hlt⟩ := C
  obtain ⟨s3, hT⟩ := st_tp hts hgv
  refine l_a1 C' dW_446 hls ?_
  refine l_arg C' (k := 1) dW_447 dW_448 dW_450 dW_451 dW_452 (by decide) (by omega) hL hls hst ?_
  refine l_arg C' (k := 2) dW_453 dW_454 dW_456 dW_457 dW_458 (by decide) (by omega) hL hls hst ?_
  refine lv_aload_n hx hb dW_459 rfl (lv_at hls 3 rfl) ?_
  subst hqo
  obtain ⟨hP, hS⟩ := hst
  have hA : ∀ a, s.heap.size ≤ a → (fun a => s.heap.size ≤ a) a := fun _ h => h
  have hf : ∀ a, xA q H.size a → (fun a => s.heap.size ≤ a) a := x_free hqA hS hA
  refine vx_calli (vx_runSX (hh := [(0, 10, 13, 13)]) (As := [.ref (q 0), .int (xs (i + 1)), .int (xs (i + 2)), .ref (q 334)]) (rest := []) ⟨hx, hb, hml, hown, hts⟩ (f_Lw l hlt dC dI cA q sv x H.size s3 (xs (i + 1)) (xs (i + 2)) hv.1)
    (vx_cwSW 4 hts (goodIn_app (a := [.methodLink RL 46 yL_walker, .static yL_walker, .initialized yL_walker.cls]) (fun w hw => ⟨by revert w; decide +kernel, good_of_word (by revert w; decide +kernel)⟩) lw_wW) rfl rfl rfl (by decide +kernel) ⟨Nat.le_of_ble_eq_true rfl, Nat.le_of_ble_eq_true rfl⟩)
    ⟨xPt_blind, fun U hU hW => ⟨rfl, xP_use hU hW hP hK hqi hG hS hf hE, tP_use hT hS hf hU hW⟩⟩ rfl rfl hls.1 rfl (lv_room (Nat.le_of_ble_eq_true rfl)) dW_460 ⟨by show cells + 1 ≤ 601024; omega, by show slots + 6 ≤ 7293033; omega⟩) hS (fun q _ h => hf q h) hf (fun q _ h => hf q h)
    (fun E ce q9 u t H1 locs ht hvm hbad hw hz1 hk1 hS hce hcv hcl => hbad.elim) (fun r u t H1 locs ht hvm hu hB hz1 hk1 hS => ?_)
  have hP1 : va_P (dC, dI) vwCl (wd q cA u) H1 := by rw [← ht]; exact hB
  have hv1 : Inv u := inv_wk hv hu
  refine lv_istore (lv' := (5, .int r) :: lvL b q (q 334) i) hx hb dW_463 hls (by decide) rfl (fun ls hl => ?_)
  have hls : lv_has ls 7 (lvL b q (q 334) i) := lv_sub hl [1, 2, 3, 4, 5] rfl
  refine l_a2 C' dW_465 hls ?_
  refine l_arg C' (k := 1) dW_466 dW_467 dW_469 dW_470 dW_471 (by decide) (by omega) hL hls ⟨hP1, hS⟩ ?_
  refine l_arg C' (k := 2) dW_472 dW_473 dW_475 dW_476 dW_477 (by decide) (by omega) hL hls ⟨hP1, hS⟩ ?_
  refine l_call1 C' (j := 207) (a := 314) (w := 1672) (n := 2) (d := 1200) (as := [.int (xs (i + 1)), .int (xs (i + 2))]) (rest := []) (post := fun rv x' => (∃ z : Int32, rv = some (.int z)) ∧ Inv x') dW_478 (by decide +kernel) rfl (by decide) (Nat.le_refl _) (r21 1200 (by decide) u [.ref 314, .int (xs (i + 1)), .int (xs (i + 2))] _ hv1.1 hv1.2.1 ⟨Or.inl ⟨rfl, 314, rfl, List.mem_cons_self⟩, aI_any _, aI_any _, trivial⟩ gF_nil (fun rv x' hp => ⟨oInt_ok (O := r21c.2.2.2.1) (by decide) (cPo_r hp), inv_st (c := r21c) (by decide) hv1 hp⟩)) hls ⟨hP1, hS⟩ ⟨by omega, by omega⟩ (fun rv x' H2 locs2 hp hst2 => ?_)
  obtain ⟨⟨z, rfl⟩, hv2⟩ := hp
  refine lv_istore (lv' := (6, .int z) :: lvL b q (q 334) i) hx hb dW_481 hls (by decide) rfl (fun ls hl => ?_)
  have hls : lv_has ls 7 (lvL b q (q 334) i) := lv_sub hl [1, 2, 3, 4, 5] rfl
  refine l_go C' dW_483 (by decide) ?_
  refine W.widen (k := cells + 6) (n := slots + 60) (by omega) (by omega) ?_
  exact kk x' H2 locs2 ls hv2 hst2 hls
end W6
