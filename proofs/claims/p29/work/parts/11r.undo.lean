/-! L2: the rows of the reference that are kept one behind another -/
def rowS : List (Nat × Int × Int) := [(1, 0, 999), (2, 0, 3), (3, 0, 999), (4, 0, 3), (5, 0, 999), (6, 0, 3), (7, 0, 999), (8, 0, 3), (9, 0, 999), (10, 0, 3), (11, 0, 999), (12, 0, 3), (13, 0, 999), (14, 0, 3), (15, 0, 999), (16, 0, 3), (17, 0, 7), (18, 0, 9), (19, 0, 7), (20, 0, 9), (21, 0, 7), (22, 0, 9), (23, 0, 7), (24, 0, 9), (25, iLo, iHi), (27, iLo, iHi), (28, 0, 60), (208, iLo, iHi)]
def shS (b : Nat) (l : List (Nat × Int × Int)) : List (Nat × Int × Int) := l.map (fun q => (q.1 + b, q.2))
def uSeg : Nat → Nat → List (Nat × Int × Int)
  | 0, _ => []
  | n + 1, b => shS b rowS ++ uSeg n (b + 208)
theorem gseg_sh {b i : Nat} : ∀ {l : List (Nat × Int × Int)}, gseg (b + i) (shS b l) = gseg i l
  | [] => rfl
  | (u, lo, hi) :: t => by
    show (bif Nat.blt (b + i) (u + b) then (lo, hi) else gseg (b + i) (shS b t)) = (bif Nat.blt i u then (lo, hi) else gseg i t)
    rw [gseg_sh (l := t)]
    have e : Nat.blt (b + i) (u + b) = Nat.blt i u := by
      cases e1 : Nat.blt i u with
      | true => exact bltN.mpr (by have := bltN.mp e1; omega)
      | false =>
        cases e2 : Nat.blt (b + i) (u + b) with
        | false => rfl
        | true =>
          have := bltN.mp e2
          rw [bltN.mpr (show i < u by omega)] at e1
          cases e1
    rw [e]
theorem gseg_l {i : Nat} {l2 : List (Nat × Int × Int)} : ∀ {l1 : List (Nat × Int × Int)}, (∃ q ∈ l1, i < q.1) → gseg i (l1 ++ l2) = gseg i l1
  | [], ⟨_, h, _⟩ => by cases h
  | (u, lo, hi) :: t, ⟨q, hq, h⟩ => by
    show (bif Nat.blt i u then (lo, hi) else gseg i (t ++ l2)) = (bif Nat.blt i u then (lo, hi) else gseg i t)
    cases e : Nat.blt i u with
    | true => rfl
    | false =>
      rcases List.mem_cons.mp hq with c | c
      · subst c
        rw [bltN.mpr h] at e
        cases e
      · exact gseg_l ⟨q, c, h⟩
theorem gseg_r {i : Nat} {l2 : List (Nat × Int × Int)} : ∀ {l1 : List (Nat × Int × Int)}, (∀ q ∈ l1, q.1 ≤ i) → gseg i (l1 ++ l2) = gseg i l2
  | [], _ => rfl
  | (u, lo, hi) :: t, h => by
    show (bif Nat.blt i u then (lo, hi) else gseg i (t ++ l2)) = gseg i l2
    cases e : Nat.blt i u with
    | true =>
      have h1 := bltN.mp e
      have h2 := h _ List.mem_cons_self
      have h2 : u ≤ i := h2
      omega
    | false => exact gseg_r (fun q hq => h q (List.mem_cons_of_mem _ hq))
theorem rowS_le : ∀ q ∈ rowS, q.1 ≤ 208 := by decide +kernel
theorem rowS_208 : (208, iLo, iHi) ∈ rowS := by decide +kernel
theorem gseg_u {k : Nat} (hk : k < 208) : ∀ {n a b : Nat}, a < n → gseg (b + (208 * a + k)) (uSeg n b) = gseg k rowS
  | 0, _, _, h => by omega
  | n + 1, 0, b, _ => by
    show gseg (b + (208 * 0 + k)) (shS b rowS ++ uSeg n (b + 208)) = _
    rw [show b + (208 * 0 + k) = b + k by omega, gseg_l (l1 := shS b rowS) ⟨(208 + b, iLo, iHi), List.mem_map.mpr ⟨_, rowS_208, rfl⟩, by show b + k < 208 + b; omega⟩]
    exact gseg_sh
  | n + 1, a + 1, b, h => by
    show gseg (b + (208 * (a + 1) + k)) (shS b rowS ++ uSeg n (b + 208)) = _
    rw [gseg_r (fun q hq => by
      obtain ⟨p, hp, rfl⟩ := List.mem_map.mp hq
      have := rowS_le p hp
      show p.1 + b ≤ _
      omega), show b + (208 * (a + 1) + k) = b + 208 + (208 * a + k) by omega]
    exact gseg_u hk (by omega)
