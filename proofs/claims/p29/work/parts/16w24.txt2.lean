theorem nI_tn {v : Int32} (h : 0 ≤ v.toInt) : v = nI v.toInt.toNat := by
  refine Int32.toInt_inj.mp ?_
  have := Int32.toInt_lt v
  rw [nI_toInt (by omega)]
  omega
theorem ls_v : (lsT 0 0).toInt = 2 ∧ (msT 0 0).toInt = 8 ∧ 0 ≤ (lsT 0 1).toInt ∧ (msT 0 1).toInt ≤ 999 ∧ (lsT 1 0).toInt = 0 ∧ (msT 1 0).toInt = 7 ∧ (lsT 1 1).toInt = 0 ∧ (msT 1 1).toInt = 7 ∧ (lsT 1 2).toInt = 1 ∧ (msT 1 2).toInt = 40 ∧ (lsT 2 0).toInt = 0 ∧ (msT 2 0).toInt = 7 ∧ (lsT 2 1).toInt = 0 ∧ (msT 2 1).toInt = 9 := by decide +kernel
theorem relT_text {x : xM} {S : tST} {b x0 : Nat} (hok : tST_ok S) (hs : snd S) (hb : tS2 S) (hX : xtO S x) (hM : ntO S x) (h1 : x.1 0 16 = nI b) (h2 : x.1 314 35 = nI b) (hb9 : b ≤ 9) (h3 : x.1 99 1 = nI x0) (hx0 : x0 < 40) : relS x := by
  obtain ⟨v1, v2, v3, v4, v5, v6, v7, v8, v9, v10, v11, v12, v13, v14⟩ := ls_v
  obtain ⟨r0, r1, r2⟩ := hok
  obtain ⟨n1, n2, n3, n4⟩ := hs
  obtain ⟨b1, b2⟩ := hb
  have k0 := r0 0 (by decide)
  have k1 := r0 1 (by decide)
  have eC := nI_tn (v := S.2.2.2 0 0 0) (by omega)
  have eK := nI_tn (v := S.2.2.2 0 0 1) (by omega)
  have st : ∀ s, s < S.1 → S.2.2.2 1 s 0 = nI (S.2.2.2 1 s 0).toInt.toNat ∧ S.2.2.2 1 s 1 = nI (S.2.2.2 1 s 1).toInt.toNat ∧ S.2.2.2 1 s 2 = nI (S.2.2.2 1 s 2).toInt.toNat ∧ (S.2.2.2 1 s 0).toInt.toNat < (S.2.2.2 0 0 0).toInt.toNat ∧ (S.2.2.2 1 s 1).toInt.toNat < (S.2.2.2 0 0 0).toInt.toNat ∧ (S.2.2.2 1 s 0).toInt.toNat ≠ (S.2.2.2 1 s 1).toInt.toNat ∧ 1 ≤ (S.2.2.2 1 s 2).toInt.toNat ∧ (S.2.2.2 1 s 2).toInt.toNat ≤ 40 := by
    intro s hs
    obtain ⟨c1, c2, c3⟩ := n3 s hs
    rw [Int32.lt_iff_toInt_lt] at c1 c2
    have a0 := r1 s hs 0 (by decide)
    have a1 := r1 s hs 1 (by decide)
    have a2 := r1 s hs 2 (by decide)
    have c4 : (S.2.2.2 1 s 0).toInt ≠ (S.2.2.2 1 s 1).toInt := fun q => c3 (Int32.toInt_inj.mp q)
    exact ⟨nI_tn (by omega), nI_tn (by omega), nI_tn (by omega), by omega, by omega, by omega, by omega, by omega⟩
  have wk : ∀ p, p < S.2.1 → S.2.2.2 2 p 0 = nI (S.2.2.2 2 p 0).toInt.toNat ∧ S.2.2.2 2 p 1 = nI (S.2.2.2 2 p 1).toInt.toNat ∧ (S.2.2.2 2 p 0).toInt.toNat < (S.2.2.2 0 0 0).toInt.toNat ∧ (S.2.2.2 2 p 1).toInt.toNat ≤ 9 := by
    intro p hp
    have c1 := n4 p hp
    rw [Int32.lt_iff_toInt_lt] at c1
    have a0 := r2 p hp 0 (by decide)
    have a1 := r2 p hp 1 (by decide)
    exact ⟨nI_tn (by omega), nI_tn (by omega), by omega, by omega⟩
  have hw : wlT (tD S) S.1 < 2 ^ S.1 := wlT_lt _ (fun k hk => (tD_ok ⟨r0, r1, r2⟩ hk).2)
  obtain ⟨x1, x2, x3, x4, x5, x6, x7, x8, x9, x10, x11, x12, x13⟩ := hX
  obtain ⟨m1, m2, m3, m4, m5, m6, m7, m8, m9, m10, m11, m12, m13⟩ := hM
  refine ⟨(S.2.2.2 0 0 0).toInt.toNat, S.1, S.2.1, b, 0, fun s => (S.2.2.2 1 s 0).toInt.toNat, fun s => (S.2.2.2 1 s 1).toInt.toNat, fun s => (S.2.2.2 1 s 2).toInt.toNat, ((wlT (tD S) S.1, (S.2.2.2 0 0 1).toInt.toNat, 0, (fun p => (S.2.2.2 2 p 0).toInt.toNat), (fun p => (S.2.2.2 2 p 1).toInt.toNat), fun _ => 0), [], none), ⟨x1.trans eC, x2, by omega, b1, fun s hs => ?_, fun c hc => ?_⟩, ⟨m1.trans eC, m2, by omega, b1, fun s hs => ?_⟩, ⟨fun q => by omega, fun q => absurd q n1⟩, x3, m3, b2, fun _ => by omega, ⟨⟨hw, by show (S.2.2.2 0 0 1).toInt.toNat ≤ 999; omega, by show 0 ≤ 999; omega, fun p hp => ⟨(wk p hp).2.2.1, (wk p hp).2.2.2⟩, fun e he => Nat.zero_le _⟩, fun t ht => (by cases ht), fun t ht => (by cases ht)⟩, ⟨⟨x9, x10.trans eK, x11, fun p hp => ⟨?_, ?_⟩, fun e he => (x12 e he).2, fun e he => ⟨0, (x12 e he).1, Nat.zero_le _⟩⟩, ⟨x0, hx0, h3, x8, Nat.zero_le _, fun j s e => (by cases e)⟩, x6⟩, ⟨⟨m8, m9.trans eK, m10, m11, fun p hp => ⟨?_, ?_⟩, fun e he => ?_⟩, ⟨m5, Nat.zero_le _, fun j s e => (by cases e)⟩, m7⟩, h1, h2, hb9, x7, m6, Nat.zero_le _⟩
  · obtain ⟨a1, a2, a3, a4, a5, a6, a7, a8⟩ := st s hs
    exact ⟨(x4 s 0 hs (by omega)).trans a1, (x4 s 1 hs (by omega)).trans a2, (x4 s 2 hs (by omega)).trans a3, a4, a5, a6, a7, a8⟩
  · rw [x5 c hc]
    exact tchF_n b1 (fun s hs => ⟨(st s hs).1, (st s hs).2.1, by have := (st s hs).2.2.2.1; omega, by have := (st s hs).2.2.2.2.1; omega⟩) S.1 (Nat.le_refl _)
  · obtain ⟨a1, a2, a3, a4, a5, a6, a7, a8⟩ := st s hs
    exact ⟨(m4 s 0 hs (by omega)).trans a1, (m4 s 1 hs (by omega)).trans a2, (m4 s 2 hs (by omega)).trans a3, a4, a5, a6, a7, a8⟩
  · exact (x13 p (by omega)).1.trans (by rw [if_pos hp]; exact (wk p hp).1)
  · exact (x13 p (by omega)).2.trans (by rw [if_pos hp]; exact (wk p hp).2.1)
  · rw [Nat.zero_add]
    exact (m13 p (by omega)).1.trans (by rw [if_pos hp]; exact (wk p hp).1)
  · rw [Nat.zero_add]
    exact (m13 p (by omega)).2.trans (by rw [if_pos hp]; exact (wk p hp).2.1)
  · rw [Nat.zero_add]
    exact m12 _ (by omega)
