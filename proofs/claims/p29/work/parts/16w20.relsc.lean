/-! the relation of the scenes: the towns alike, what is kept alike, council and sights alike; marks and visits left out -/
def relSK (a i : Nat) : Prop := (a = 0 ∧ 15 ≤ i ∧ i < 17) ∨ a = 3 ∨ (6 ≤ a ∧ a ≤ 23) ∨ (a = 84 ∧ i = 4) ∨ (89 ≤ a ∧ a ≤ 93) ∨ (99 ≤ a ∧ a ≤ 300) ∨ (305 ≤ a ∧ a ≤ 309) ∨ (a = 314 ∧ ((25 ≤ i ∧ i < 28) ∨ i = 35 ∨ i = 42 ∨ i = 51 ∨ i = 53)) ∨ a = 320 ∨ a = 326 ∨ a = 331 ∨ a = 333
def relT (x : xM) (C S W b k : Nat) (A B Y : Nat → Nat) (w : Wd) : Prop := xT x C S A B Y ∧ mT x C S A B Y ∧ (C = 0 ↔ S = 0) ∧ x.1 3 2 = nI W ∧ x.1 314 27 = nI W ∧ W ≤ 4 ∧ (0 < C → 0 < W) ∧ wdV C S W w ∧ WX x W w ∧ WM x W w ∧ x.1 0 16 = nI b ∧ x.1 314 35 = nI b ∧ b ≤ 9 ∧ x.1 84 4 = nI k ∧ x.1 314 51 = nI k ∧ k ≤ 10
def relS (x : xM) : Prop := ∃ C S W b k A B Y w, relT x C S W b k A B Y w
theorem xT_3 {m m2 : xM} {C S : Nat} {A B Y : Nat → Nat} (hT : xT m C S A B Y) (h : ∀ a i, a = 3 ∨ (6 ≤ a ∧ a ≤ 23) → m2.1 a i = m.1 a i) : xT m2 C S A B Y := by
  obtain ⟨t1, t2, t3, t4, t5, t6⟩ := hT
  exact ⟨by rw [h _ _ (by omega)]; exact t1, by rw [h _ _ (by omega)]; exact t2, t3, t4, fun s hs => by rw [h _ _ (by omega), h _ _ (by omega), h _ _ (by omega)]; exact t5 s hs, fun c hc => by rw [h _ _ (by omega)]; exact t6 c hc⟩
theorem relT_ag {x x2 : xM} {C S W b k : Nat} {A B Y : Nat → Nat} {w : Wd} (hr : relT x C S W b k A B Y w) (h : ∀ a i, relSK a i → x2.1 a i = x.1 a i) : relT x2 C S W b k A B Y w := by
  unfold relSK at h
  obtain ⟨h1, h2, h3, h4, h5, h6, h7, h8, h9, h10, h11, h12, h13, h14, h15, h16⟩ := hr
  exact ⟨xT_3 h1 (fun a i z => h a i (by omega)), mT_f h2 (fun i => ⟨⟨h _ _ (by omega), h _ _ (by omega)⟩, h _ _ (by omega)⟩), h3, by rw [h _ _ (by omega)]; exact h4, by rw [h _ _ (by omega)]; exact h5, h6, h7, h8, WX_f h9 (fun a i z => h a i (by omega)), WM_f h6 h10 (fun a i z => h a i (by omega)), by rw [h _ _ (by omega)]; exact h11, by rw [h _ _ (by omega)]; exact h12, h13, by rw [h _ _ (by omega)]; exact h14, by rw [h _ _ (by omega)]; exact h15, h16⟩
theorem relS_ag {x x2 : xM} (hr : relS x) (h : ∀ a i, relSK a i → x2.1 a i = x.1 a i) : relS x2 := by
  obtain ⟨C, S, W, b, k, A, B, Y, w, hr⟩ := hr
  exact ⟨C, S, W, b, k, A, B, Y, w, relT_ag hr h⟩
def offB (lo hi : Nat) (q : Nat × Nat × Nat) : Bool := Nat.ble q.2.2 lo || Nat.ble hi q.2.1
def mdSq (q : Nat × Nat × Nat) : Bool := (!(Nat.beq q.1 0) || offB 15 17 q) && (!(Nat.beq q.1 3) && ((Nat.blt q.1 6 || Nat.blt 23 q.1) && ((!(Nat.beq q.1 84) || offB 4 5 q) && ((Nat.blt q.1 89 || Nat.blt 93 q.1) && ((Nat.blt q.1 99 || Nat.blt 300 q.1) && ((Nat.blt q.1 305 || Nat.blt 309 q.1) && ((!(Nat.beq q.1 314) || (offB 25 28 q && (offB 35 36 q && (offB 42 43 q && (offB 51 52 q && offB 53 54 q))))) && (!(Nat.beq q.1 320) && (!(Nat.beq q.1 326) && (!(Nat.beq q.1 331) && !(Nat.beq q.1 333)))))))))))
theorem offB_n {lo hi i : Nat} {q : Nat × Nat × Nat} (h : offB lo hi q = true) (h1 : q.2.1 ≤ i) (h2 : i < q.2.2) (h3 : lo ≤ i) : hi ≤ i := by
  unfold offB at h
  rw [Bool.or_eq_true, bleN, bleN] at h
  omega
theorem mdSq_ok {q : Nat × Nat × Nat} (h : mdSq q = true) : ∀ a i, relSK a i → ¬ (q.1 = a ∧ q.2.1 ≤ i ∧ i < q.2.2) := by
  unfold mdSq at h
  simp only [Bool.and_eq_true, Bool.or_eq_true, Bool.not_eq_true', beqF, bltN] at h
  obtain ⟨h1, h2, h3, h4, h5, h6, h7, h8, h9, h10, h11, h12⟩ := h
  intro a i hk
  unfold relSK at hk
  rintro ⟨e1, e2, e3⟩
  subst e1
  rcases hk with c | c | c | c | c | c | c | c | c | c | c | c
  · rcases h1 with z | z
    · exact z c.1
    · have := offB_n z e2 e3 c.2.1; omega
  · exact h2 c
  · omega
  · rcases h4 with z | z
    · exact z c.1
    · have := offB_n z e2 e3 (by omega); omega
  · omega
  · omega
  · omega
  · rcases h8 with z | ⟨z1, z2, z3, z4, z5⟩
    · exact z c.1
    · rcases c.2 with c | c | c | c | c
      · have := offB_n z1 e2 e3 c.1; omega
      · have := offB_n z2 e2 e3 (by omega); omega
      · have := offB_n z3 e2 e3 (by omega); omega
      · have := offB_n z4 e2 e3 (by omega); omega
      · have := offB_n z5 e2 e3 (by omega); omega
  · exact h9 c
  · exact h10 c
  · exact h11 c
  · exact h12 c
