/-! L3: arguments, a case's calls -/
noncomputable def lcB (a j idx w n : Nat) : Bool := Nat.blt j 273 && (decide (lwA w = some (.methodLink RL idx (kY j))) && (!(kst j) && (!(Nat.beq (mwL.getD j (false, 0, 0, 0)).2.2.1 9999) && (decide ((kY j).cls = cln (kcl j)) && (Nat.blt (kcl j) 13 && (decide (lay a = (3, kcl j, kNf (kcl j))) && Nat.beq n (knp j)))))))
section MAC2
variable {p : Program} {l : Launch} {e : Env} {s : State} {mid : MethodId} {below : List Frame} {meth : Method} {c : Code} {b L : Nat} {xs : Nat → Int32}
variable {dC : Nat → ClassId} {dI : Nat → Nat → Nat} {cA : Nat → ClassId} {q sv : Nat → Nat} {qo : Nat} {cells slots : Nat} {Q : State → Prop} {ls : Array Slot} {H : Heap} {locs : List Loc} {x : xM} {i : Nat}
def lvL (b : Nat) (q : Nat → Nat) (qo i : Nat) : List (Nat × Value) := [(0, .ref b), (1, .ref (q 0)), (2, .ref (q 314)), (3, .ref qo), (4, .int (nI i))]
theorem l_call1 (C : lCx p l s mid meth c b L xs dC dI cA q sv qo) {j a pc idx w n d : Nat} {as : List Value} {post : Option Value → xM → Prop} (hd : decode cL_law pc = .ok (.invokevirtual idx, 3)) (hb9 : lcB a j idx w n = true) (hn : as.length = n) {rest : List Value} (h2 : (rest.map fun v => v.category).sum ≤ 8) (hd2 : d ≤ 1200) (h : xw d j (.ref a :: as) x post) (hls : lv_has ls 7 (lvL b q qo i)) (hst : lSt s dC dI cA q qo x H locs) (hcs : cells ≤ 601024 ∧ slots ≤ 7293033)
    (kk : ∀ (rv : Option Value) (x' : xM) (H1 : Heap) (locs1 : List Loc), post rv x' → lSt s dC dI cA q qo x' H1 locs1 → W p l e room_1 s mid #[Value.ref b] below meth c H1 locs1 cells slots Q (F0 mid (pc + 3) ls ((rv.map (xq q)).toList ++ rest))) : W p l e room_1 s mid #[Value.ref b] below meth c H locs cells slots Q (F0 mid pc ls ((as.map (xq q)).reverse ++ .ref (q a) :: rest)) := by
  unfold lcB at hb9
  simp only [Bool.and_eq_true, Bool.not_eq_true', bltN, beqN, decide_eq_true_eq] at hb9
  obtain ⟨g1, g2, g3, g4, g5, g6, g7, g8⟩ := hb9
  exact l_call C hd g1 (lwA_in g2) g3 (beqF.mp g4) g5 g6 g7 (by rw [hn]; exact g8) h2 hd2 h hls hst kk hcs
/-- a call by its contract, and its answer let go -/
theorem l_cp (C : lCx p l s mid meth c b L xs dC dI cA q sv qo) {J : xM → Prop} {j a pc idx w n D : Nat} {as : List aV} {O : List (Option aV × List (Int × Int) × aFs)} {md : List (Nat × Nat × Nat)} {vs : List Value} (hc : vC tS tR J D (j, aR [a] :: as, [], O, md)) (hD : D ≤ 1200) (hd : decode cL_law pc = .ok (.invokevirtual idx, 3)) (hdp : decode cL_law (pc + 3) = .ok (.pop, 1)) (hb9 : lcB a j idx w n = true) (hn : vs.length = n) (hO : oInt O = true) (hmd : mdOk md = true) (hJ : Inv x → J x) (hv : aMt vs as) (hi : Inv x) (hls : lv_has ls 7 (lvL b q qo i)) (hst : lSt s dC dI cA q qo x H locs) (hcs : cells ≤ 601024 ∧ slots ≤ 7293033)
    (kk : ∀ (x' : xM) (H1 : Heap) (locs1 : List Loc), Inv x' → lSt s dC dI cA q qo x' H1 locs1 → W p l e room_1 s mid #[Value.ref b] below meth c H1 locs1 cells slots Q (F0 mid (pc + 3 + 1) ls [])) : W p l e room_1 s mid #[Value.ref b] below meth c H locs cells slots Q (F0 mid pc ls ((vs.map (xq q)).reverse ++ .ref (q a) :: [])) := by
  have hx := C.1.1
  have hb := C.1.2.1
  refine l_call1 C (d := 1200) (post := fun rv x' => (∃ o ∈ O, rvM rv o.1) ∧ Inv x') hd hb9 hn (by decide) (Nat.le_refl _) (hc 1200 hD x (.ref a :: vs) _ hi.1 (hJ hi) ⟨Or.inl ⟨rfl, a, rfl, List.mem_cons_self⟩, hv⟩ gF_nil (fun rv x' hp => ⟨by obtain ⟨o, ho, h9, -⟩ := hp.2.2; exact ⟨o, ho, h9⟩, inv_st (c := (j, aR [a] :: as, [], O, md)) hmd hi hp⟩)) hls hst hcs (fun rv x' H1 locs1 hp hst1 => ?_)
  obtain ⟨z, rfl⟩ := oInt_ok hO hp.1
  exact lv_pop hx hb hdp rfl (kk x' H1 locs1 hp.2 hst1)
theorem l_arg (C : lCx p l s mid meth c b L xs dC dI cA q sv qo) {pc k : Nat} {rest : List Value} (hd0 : decode cL_law pc = .ok (.aload_n 0, 1)) (hd1 : decode cL_law (pc + 1) = .ok (.iload 4, 2)) (hd2 : decode cL_law (pc + 3) = .ok (.iconst (k : Int), 1)) (hd3 : decode cL_law (pc + 4) = .ok (.iadd, 1)) (hd4 : decode cL_law (pc + 5) = .ok (.iaload, 1)) (hk : Int32.ofInt (k : Int) = nI k) (hi : i + k < L) (hL : L ≤ 3072) (hls : lv_has ls 7 (lvL b q qo i)) (hst : lSt s dC dI cA q qo x H locs) (kk : W p l e room_1 s mid #[Value.ref b] below meth c H locs cells slots Q (F0 mid (pc + 6) ls (.int (xs (i + k)) :: rest))) : W p l e room_1 s mid #[Value.ref b] below meth c H locs cells slots Q (F0 mid pc ls rest) := by
  obtain ⟨⟨hx, hb, hr, hml, hown, hts, hX, hbl, hlocks, hgv⟩, -⟩ := C
  refine lv_aload_n hx hb hd0 rfl (lv_at hls 0 rfl) ?_
  refine lv_iload hx hb hd1 (lv_at hls 4 rfl) ?_
  refine lv_iconst (v := nI k) hx hb hd2 hk ?_
  refine lv_iadd hx hb hd3 ?_
  rw [show nI i + nI k = nI (i + k) from (Int32.ofNat_add i k).symm]
  have hin : vp_in (nI (i + k)) L := by
    unfold vp_in
    rw [nI_clamp (by omega)]
    rintro (h1 | h1)
    · exact nI_pos (by omega) h1
    · omega
  refine va_sld hx hb hX hbl (Nat.not_le.mpr hbl) hst.2 (i := nI (i + k)) hin hd4 ?_
  rw [nI_clamp (by omega)]
  exact kk
theorem l_a1 (C : lCx p l s mid meth c b L xs dC dI cA q sv qo) {pc : Nat} {rest : List Value} (hd : decode cL_law pc = .ok (.aload_n 1, 1)) (hls : lv_has ls 7 (lvL b q qo i)) (kk : W p l e room_1 s mid #[Value.ref b] below meth c H locs cells slots Q (F0 mid (pc + 1) ls (.ref (q 0) :: rest))) : W p l e room_1 s mid #[Value.ref b] below meth c H locs cells slots Q (F0 mid pc ls rest) := lv_aload_n C.1.1 C.1.2.1 hd rfl (lv_at hls 1 rfl) kk
theorem l_a2 (C : lCx p l s mid meth c b L xs dC dI cA q sv qo) {pc : Nat} {rest : List Value} (hd : decode cL_law pc = .ok (.aload_n 2, 1)) (hls : lv_has ls 7 (lvL b q qo i)) (kk : W p l e room_1 s mid #[Value.ref b] below meth c H locs cells slots Q (F0 mid (pc + 1) ls (.ref (q 314) :: rest))) : W p l e room_1 s mid #[Value.ref b] below meth c H locs cells slots Q (F0 mid pc ls rest) := lv_aload_n C.1.1 C.1.2.1 hd rfl (lv_at hls 2 rfl) kk
theorem l_go (C : lCx p l s mid meth c b L xs dC dI cA q sv qo) {pc : Nat} {off : Int} {rest : List Value} (hd : decode cL_law pc = .ok (.goto off, 3)) (ht : (pc : Int) + off = 1601) (kk : W p l e room_1 s mid #[Value.ref b] below meth c H locs cells slots Q (F0 mid 1601 ls rest)) : W p l e room_1 s mid #[Value.ref b] below meth c H locs cells slots Q (F0 mid pc ls rest) := lv_goto C.1.1 C.1.2.1 hd ht kk
theorem lv_tern {R : Room} {args : Array Value} {cc : ByteArray} {pc : Nat} {rest : List Value} (hx : p.tables.exec = Jvm.exec) (hb : c.code = cc) {x a b : Int32} {off off2 na nb : Int} {t1 t2 : Nat} (d0 : decode cc pc = .ok (.ifCond .eq off, 3)) (e0 : (pc : Int) + off = (t1 : Int)) (d1 : decode cc (pc + 3) = .ok (.iconst na, 1)) (ea : Int32.ofInt na = a) (d2 : decode cc (pc + 3 + 1) = .ok (.goto off2, 3)) (e2 : ((pc + 3 + 1 : Nat) : Int) + off2 = (t2 : Int)) (d3 : decode cc t1 = .ok (.iconst nb, 1)) (eb : Int32.ofInt nb = b) (e3 : t1 + 1 = t2)
    (kk : ∀ y : Int32, y = (if x = 0 then b else a) → W p l e R s mid args below meth c H locs cells slots Q (F0 mid t2 ls (.int y :: rest))) : W p l e R s mid args below meth c H locs cells slots Q (F0 mid pc ls (.int x :: rest)) := by
  refine lv_if_eq (tgt := t1) hx hb d0 e0 (fun h => ?_) (fun h => ?_)
  · refine lv_iconst hx hb d3 eb ?_
    rw [e3]
    exact kk b (by rw [if_pos h])
  · refine lv_iconst hx hb d1 ea ?_
    refine lv_goto (tgt := t2) hx hb d2 e2 ?_
    exact kk a (by rw [if_neg h])
theorem bo_t {y z : Int32} (h : y = if z = 0 then 0 else 1) : y = 0 ∨ y = 1 := by
  by_cases hz : z = 0
  · exact Or.inl (by rw [h, if_pos hz])
  · exact Or.inr (by rw [h, if_neg hz])
theorem aI_any (z : Int32) : aH (fun _ => 0) (.int z) aIt := Or.inr (Or.inl ⟨rfl, z, rfl, i32_rng z, trivial⟩)
theorem aL_any (z : Int64) : aH (fun _ => 0) (.long z) aLt := Or.inr (Or.inr ⟨Or.inl rfl, z, rfl, i64_rng z, fun h => by cases h⟩)
end MAC2
