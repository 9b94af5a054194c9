/-! bits: pasted from the kit's laws (BITS); then what is mine: a byte of a word by either shift, counts, two rows of branches -/
def bt (x : Int32) (i : Nat) : Bool := x.toBitVec.getLsbD i
theorem b_ext {x y : Int32} (h : ∀ i, i < 32 → bt x i = bt y i) : x = y := Int32.toBitVec_inj.mp (BitVec.eq_of_getLsbD_eq (fun i hi => h i hi))
theorem b_or (x y : Int32) (i : Nat) : bt (x ||| y) i = (bt x i || bt y i) := by unfold bt; rw [Int32.toBitVec_or, BitVec.getLsbD_or]
theorem b_and (x y : Int32) (i : Nat) : bt (x &&& y) i = (bt x i && bt y i) := by unfold bt; rw [Int32.toBitVec_and, BitVec.getLsbD_and]
theorem b_xor (x y : Int32) (i : Nat) : bt (x ^^^ y) i = (bt x i ^^ bt y i) := by unfold bt; rw [Int32.toBitVec_xor, BitVec.getLsbD_xor]
theorem b_big {x : Int32} {i : Nat} (h : 32 ≤ i) : bt x i = false := BitVec.getLsbD_of_ge _ _ h
theorem b_255 (i : Nat) : bt 255 i = decide (i < 8) := by
  rcases Nat.lt_or_ge i 32 with h | h
  · exact (by decide +kernel : ∀ i, i < 32 → bt 255 i = decide (i < 8)) i h
  · rw [b_big h, decide_eq_false (by omega)]
theorem b_65535 (i : Nat) : bt 65535 i = decide (i < 16) := by
  rcases Nat.lt_or_ge i 32 with h | h
  · exact (by decide +kernel : ∀ i, i < 32 → bt 65535 i = decide (i < 16)) i h
  · rw [b_big h, decide_eq_false (by omega)]
theorem b_m1 : ∀ i, i < 32 → bt (-1) i = true := by decide +kernel
theorem b_0 (i : Nat) : bt 0 i = false := BitVec.getLsbD_zero
theorem s_l : ∀ n, n < 32 → ((nI n &&& 31).toBitVec.smod 32).toNat = n := by decide +kernel
theorem s_u : ∀ n, n < 32 → (((nI n).toUInt32 &&& Int32.toUInt32 31).toBitVec % 32).toNat = n := by decide +kernel
theorem b_shl (n : Nat) (hn : n < 32) (x : Int32) {i : Nat} (hi : i < 32) : bt (x <<< (nI n &&& 31)) i = (decide (n ≤ i) && bt x (i - n)) := by
  unfold bt
  rw [Int32.toBitVec_shiftLeft]
  show (x.toBitVec <<< ((nI n &&& 31).toBitVec.smod 32).toNat).getLsbD i = _
  rw [s_l n hn, BitVec.getLsbD_shiftLeft]
  rcases Nat.lt_or_ge i n with h | h
  · simp [h, Nat.not_le.mpr h]
  · simp [hi, h, Nat.not_lt.mpr h]
theorem b_ushr (n : Nat) (hn : n < 32) (x : Int32) (i : Nat) : bt ((x.toUInt32 >>> ((nI n).toUInt32 &&& Int32.toUInt32 31)).toInt32) i = bt x (n + i) := by
  show (x.toUInt32 >>> ((nI n).toUInt32 &&& Int32.toUInt32 31)).toBitVec.getLsbD i = x.toUInt32.toBitVec.getLsbD (n + i)
  rw [UInt32.toBitVec_shiftRight]
  show (x.toUInt32.toBitVec >>> (((nI n).toUInt32 &&& Int32.toUInt32 31).toBitVec % 32).toNat).getLsbD i = _
  rw [s_u n hn, BitVec.getLsbD_ushiftRight]
theorem b_sshr (n : Nat) (hn : n < 32) (x : Int32) {i : Nat} (hi : i < 32) : bt (x >>> (nI n &&& 31)) i = if n + i < 32 then bt x (n + i) else bt x 31 := by
  unfold bt
  rw [Int32.toBitVec_shiftRight]
  show (x.toBitVec.sshiftRight ((nI n &&& 31).toBitVec.smod 32).toNat).getLsbD i = _
  rw [s_l n hn, BitVec.getLsbD_sshiftRight, BitVec.msb_eq_getLsbD_last]
  simp [hi]
theorem b_shl8 (x : Int32) {i : Nat} (hi : i < 32) : bt (x <<< ((8 : Int32) &&& 31)) i = (decide (8 ≤ i) && bt x (i - 8)) := b_shl 8 (by omega) x hi
theorem b_shl16 (x : Int32) {i : Nat} (hi : i < 32) : bt (x <<< ((16 : Int32) &&& 31)) i = (decide (16 ≤ i) && bt x (i - 16)) := b_shl 16 (by omega) x hi
theorem b_shl24 (x : Int32) {i : Nat} (hi : i < 32) : bt (x <<< ((24 : Int32) &&& 31)) i = (decide (24 ≤ i) && bt x (i - 24)) := b_shl 24 (by omega) x hi
theorem b_sshr8 (x : Int32) {i : Nat} (hi : i < 32) : bt (x >>> ((8 : Int32) &&& 31)) i = if 8 + i < 32 then bt x (8 + i) else bt x 31 := b_sshr 8 (by omega) x hi
def uA (w k : Int32) : Int32 := (w.toUInt32 >>> (k.toUInt32 &&& Int32.toUInt32 31)).toInt32 &&& 255
def sA (w k : Int32) : Int32 := (w >>> (k &&& 31)) &&& 255
theorem uA_sA (w : Int32) (n : Nat) (hn : n ≤ 24) : sA w (nI n) = uA w (nI n) := by
  unfold uA sA
  refine b_ext (fun i hi => ?_)
  rw [b_and, b_and, b_255, b_sshr n (by omega) w hi, b_ushr n (by omega) w i]
  by_cases h : i < 8
  · rw [if_pos (by omega)]
  · rw [decide_eq_false h, Bool.and_false, Bool.and_false]
def bz (w k : Int32) : Nat := if uA w k = 0 then 0 else 1
def cA (w : Int32) : Nat := bz w 24 + bz w 16 + bz w 8 + bz w 0
theorem bz_le (w k : Int32) : bz w k ≤ 1 := by unfold bz; split <;> omega
theorem cA_le (w : Int32) : cA w ≤ 4 := by
  have a := bz_le w 24; have b := bz_le w 16; have c := bz_le w 8; have d := bz_le w 0
  unfold cA; omega
theorem bz0 {w k x : Int32} (hx : x = uA w k) (h : x = 0) : bz w k = 0 := by unfold bz; rw [if_pos (by rw [← hx]; exact h)]
theorem bz1 {w k x : Int32} (hx : x = uA w k) (h : ¬ x = 0) : bz w k = 1 := by unfold bz; rw [if_neg (by rw [← hx]; exact h)]
theorem sA_u {w k x : Int32} (n : Nat) (hk : k = nI n) (hn : n ≤ 24) (hx : x = sA w k) : x = uA w k := by rw [hx, hk]; exact uA_sA w n hn
theorem nI_nlt9 {a b : Nat} (h : a ≤ b) (hb : b < 2 ^ 31) : ¬ nI b < nI a := nI_nlt h hb
section BR
variable {p : Program} {l : Launch} {e : Env} {R : Room} {s : State} {m : MethodId} {args : Array Value} {below : List Frame} {meth : Method} {c : Code} {H : Heap} {locs : List Loc} {cells slots : Nat} {Q : State → Prop}
variable {cc : ByteArray} {pc : Nat} {ls : Array Slot} {rest : List Value}
/-- 'x == 0 ? b : a' as javac lays it -/
theorem lv_tern (hx : p.tables.exec = Jvm.exec) (hb : c.code = cc) {x a b : Int32} {off off2 na nb : Int} {t1 t2 : Nat} (d0 : decode cc pc = .ok (.ifCond .eq off, 3)) (e0 : (pc : Int) + off = (t1 : Int)) (d1 : decode cc (pc + 3) = .ok (.iconst na, 1)) (ea : Int32.ofInt na = a) (d2 : decode cc (pc + 3 + 1) = .ok (.goto off2, 3)) (e2 : ((pc + 3 + 1 : Nat) : Int) + off2 = (t2 : Int)) (d3 : decode cc t1 = .ok (.iconst nb, 1)) (eb : Int32.ofInt nb = b) (e3 : t1 + 1 = t2)
    (kk : ∀ y : Int32, y = (if x = 0 then b else a) → W p l e R s m args below meth c H locs cells slots Q (F0 m t2 ls (.int y :: rest))) : W p l e R s m args below meth c H locs cells slots Q (F0 m pc ls (.int x :: rest)) := by
  refine lv_if_eq (tgt := t1) hx hb d0 e0 (fun h => ?_) (fun h => ?_)
  · refine lv_iconst hx hb d3 eb ?_
    rw [e3]
    exact kk b (by rw [if_pos h])
  · refine lv_iconst hx hb d1 ea ?_
    refine lv_goto (tgt := t2) hx hb d2 e2 ?_
    exact kk a (by rw [if_neg h])
/-- 'if (x != 0) i++' -/
theorem lv_ifinc (hx : p.tables.exec = Jvm.exec) (hb : c.code = cc) {x v0 : Int32} {off : Int} {t1 i nL k : Nat} {lv : List (Nat × Value)} (d0 : decode cc pc = .ok (.ifCond .eq off, 3)) (e0 : (pc : Int) + off = (t1 : Int)) (d1 : decode cc (pc + 3) = .ok (.iinc i 1, 3)) (e1 : pc + 3 + 3 = t1) (h : lv_has ls nL lv) (hk : lv[k]? = some (i, .int v0)) (hn : i < nL)
    (kk : ∀ (y : Int32) (ls' : Array Slot), y = (if x = 0 then v0 else v0 + 1) → lv_has ls' nL ((i, .int y) :: lv.filter (fun q => !(q.1 == i) && !(q.1 + 1 == i && q.2.category == 2))) → W p l e R s m args below meth c H locs cells slots Q (F0 m t1 ls' rest)) : W p l e R s m args below meth c H locs cells slots Q (F0 m pc ls (.int x :: rest)) := by
  refine lv_if_eq (tgt := t1) hx hb d0 e0 (fun z => ?_) (fun z => ?_)
  · refine kk v0 ls (by rw [if_pos z]) ⟨h.1, h.2.1, fun q hq => ?_⟩
    rcases List.mem_cons.mp hq with rfl | hq
    · exact h.2.2 _ (List.mem_of_getElem? hk)
    · exact h.2.2 _ (List.mem_filter.mp hq).1
  · refine lv_iinc (v := v0 + 1) hx hb d1 h hk rfl hn rfl (fun ls' hl' => ?_)
    rw [e1]
    exact kk _ ls' (by rw [if_neg z]) hl'
end BR
