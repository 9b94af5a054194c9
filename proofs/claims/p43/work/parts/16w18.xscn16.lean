theorem k106_0 : lkc 0 (kcode 106) = some (.iload_n 1) := by decide +kernel
theorem k106_68 : lkc 68 (kcode 106) = some (.aload_n 0) := by decide +kernel
theorem k106_69 : lkc 69 (kcode 106) = some (.getfield 19) := by decide +kernel
theorem k106_72 : lkc 72 (kcode 106) = some (.getfield 216) := by decide +kernel
theorem k106_75 : lkc 75 (kcode 106) = some (.ireturn) := by decide +kernel
theorem k106_76 : lkc 76 (kcode 106) = some (.aload_n 0) := by decide +kernel
theorem k106_77 : lkc 77 (kcode 106) = some (.getfield 19) := by decide +kernel
theorem k106_80 : lkc 80 (kcode 106) = some (.getfield 156) := by decide +kernel
theorem k106_83 : lkc 83 (kcode 106) = some (.ireturn) := by decide +kernel
theorem k106_84 : lkc 84 (kcode 106) = some (.aload_n 0) := by decide +kernel
theorem k106_85 : lkc 85 (kcode 106) = some (.getfield 19) := by decide +kernel
theorem k106_88 : lkc 88 (kcode 106) = some (.getfield 219) := by decide +kernel
theorem k106_91 : lkc 91 (kcode 106) = some (.ireturn) := by decide +kernel
theorem k106_92 : lkc 92 (kcode 106) = some (.aload_n 0) := by decide +kernel
theorem k106_93 : lkc 93 (kcode 106) = some (.getfield 38) := by decide +kernel
theorem k106_96 : lkc 96 (kcode 106) = some (.getfield 212) := by decide +kernel
theorem k106_99 : lkc 99 (kcode 106) = some (.ireturn) := by decide +kernel
theorem k106_100 : lkc 100 (kcode 106) = some (.aload_n 0) := by decide +kernel
theorem k106_101 : lkc 101 (kcode 106) = some (.getfield 45) := by decide +kernel
theorem k106_104 : lkc 104 (kcode 106) = some (.getfield 222) := by decide +kernel
theorem k106_107 : lkc 107 (kcode 106) = some (.ireturn) := by decide +kernel
theorem k106_108 : lkc 108 (kcode 106) = some (.aload_n 0) := by decide +kernel
theorem k106_109 : lkc 109 (kcode 106) = some (.getfield 10) := by decide +kernel
theorem k106_112 : lkc 112 (kcode 106) = some (.getfield 110) := by decide +kernel
theorem k106_115 : lkc 115 (kcode 106) = some (.ireturn) := by decide +kernel
theorem k106_116 : lkc 116 (kcode 106) = some (.aload_n 0) := by decide +kernel
theorem k106_117 : lkc 117 (kcode 106) = some (.getfield 38) := by decide +kernel
theorem k106_120 : lkc 120 (kcode 106) = some (.getfield 213) := by decide +kernel
theorem k106_123 : lkc 123 (kcode 106) = some (.ireturn) := by decide +kernel
theorem k106_124 : lkc 124 (kcode 106) = some (.aload_n 0) := by decide +kernel
theorem k106_125 : lkc 125 (kcode 106) = some (.getfield 75) := by decide +kernel
theorem k106_128 : lkc 128 (kcode 106) = some (.getfield 223) := by decide +kernel
theorem k106_131 : lkc 131 (kcode 106) = some (.ireturn) := by decide +kernel
theorem k106_132 : lkc 132 (kcode 106) = some (.aload_n 0) := by decide +kernel
theorem k106_133 : lkc 133 (kcode 106) = some (.getfield 75) := by decide +kernel
theorem k106_136 : lkc 136 (kcode 106) = some (.getfield 226) := by decide +kernel
theorem k106_139 : lkc 139 (kcode 106) = some (.ireturn) := by decide +kernel
theorem k106_140 : lkc 140 (kcode 106) = some (.aload_n 0) := by decide +kernel
theorem k106_141 : lkc 141 (kcode 106) = some (.getfield 102) := by decide +kernel
theorem k106_144 : lkc 144 (kcode 106) = some (.ireturn) := by decide +kernel
theorem k106_145 : lkc 145 (kcode 106) = some (.aload_n 0) := by decide +kernel
theorem k106_146 : lkc 146 (kcode 106) = some (.getfield 68) := by decide +kernel
theorem k106_149 : lkc 149 (kcode 106) = some (.getfield 146) := by decide +kernel
theorem k106_152 : lkc 152 (kcode 106) = some (.ireturn) := by decide +kernel
theorem k106_153 : lkc 153 (kcode 106) = some (.aload_n 0) := by decide +kernel
theorem k106_154 : lkc 154 (kcode 106) = some (.invokevirtual 229) := by decide +kernel
theorem k106_157 : lkc 157 (kcode 106) = some (.ireturn) := by decide +kernel
theorem k106_158 : lkc 158 (kcode 106) = some (.aload_n 0) := by decide +kernel
theorem k106_159 : lkc 159 (kcode 106) = some (.getfield 85) := by decide +kernel
theorem k106_162 : lkc 162 (kcode 106) = some (.getfield 232) := by decide +kernel
theorem k106_165 : lkc 165 (kcode 106) = some (.ireturn) := by decide +kernel
theorem k106_166 : lkc 166 (kcode 106) = some (.ldc 235) := by decide +kernel
theorem k106_168 : lkc 168 (kcode 106) = some (.ireturn) := by decide +kernel
theorem k125_0 : lkc 0 (kcode 125) = some (.bipush 60) := by decide +kernel
theorem k125_2 : lkc 2 (kcode 125) = some (.aload_n 0) := by decide +kernel
theorem k125_3 : lkc 3 (kcode 125) = some (.getfield 75) := by decide +kernel
theorem k125_6 : lkc 6 (kcode 125) = some (.getfield 223) := by decide +kernel
theorem k125_9 : lkc 9 (kcode 125) = some (.invokestatic 289) := by decide +kernel
theorem k125_12 : lkc 12 (kcode 125) = some (.ireturn) := by decide +kernel
theorem k263_0 : lkc 0 (kcode 263) = some (.aload_n 0) := by decide +kernel
theorem k263_1 : lkc 1 (kcode 263) = some (.iconst 0) := by decide +kernel
theorem k263_2 : lkc 2 (kcode 263) = some (.putfield 90) := by decide +kernel
theorem k263_5 : lkc 5 (kcode 263) = some (.iload_n 1) := by decide +kernel
theorem k263_72 : lkc 72 (kcode 263) = some (.aload_n 0) := by decide +kernel
theorem k263_73 : lkc 73 (kcode 263) = some (.getfield 280) := by decide +kernel
theorem k263_76 : lkc 76 (kcode 263) = some (.ireturn) := by decide +kernel
theorem k263_77 : lkc 77 (kcode 263) = some (.aload_n 0) := by decide +kernel
theorem k263_78 : lkc 78 (kcode 263) = some (.getfield 283) := by decide +kernel
theorem k263_81 : lkc 81 (kcode 263) = some (.ireturn) := by decide +kernel
theorem k263_82 : lkc 82 (kcode 263) = some (.aload_n 0) := by decide +kernel
theorem k263_83 : lkc 83 (kcode 263) = some (.getfield 286) := by decide +kernel
theorem k263_86 : lkc 86 (kcode 263) = some (.ireturn) := by decide +kernel
theorem k263_87 : lkc 87 (kcode 263) = some (.aload_n 0) := by decide +kernel
theorem k263_88 : lkc 88 (kcode 263) = some (.getfield 272) := by decide +kernel
theorem k263_91 : lkc 91 (kcode 263) = some (.ireturn) := by decide +kernel
theorem k263_92 : lkc 92 (kcode 263) = some (.aload_n 0) := by decide +kernel
theorem k263_93 : lkc 93 (kcode 263) = some (.getfield 275) := by decide +kernel
theorem k263_96 : lkc 96 (kcode 263) = some (.ireturn) := by decide +kernel
theorem k263_97 : lkc 97 (kcode 263) = some (.aload_n 0) := by decide +kernel
theorem k263_98 : lkc 98 (kcode 263) = some (.getfield 103) := by decide +kernel
theorem k263_101 : lkc 101 (kcode 263) = some (.ireturn) := by decide +kernel
theorem k263_102 : lkc 102 (kcode 263) = some (.aload_n 0) := by decide +kernel
theorem k263_103 : lkc 103 (kcode 263) = some (.getfield 64) := by decide +kernel
theorem k263_106 : lkc 106 (kcode 263) = some (.ireturn) := by decide +kernel
theorem k263_107 : lkc 107 (kcode 263) = some (.aload_n 0) := by decide +kernel
theorem k263_108 : lkc 108 (kcode 263) = some (.getfield 58) := by decide +kernel
theorem k263_111 : lkc 111 (kcode 263) = some (.bipush 26) := by decide +kernel
theorem k263_113 : lkc 113 (kcode 263) = some (.iaload) := by decide +kernel
theorem k263_114 : lkc 114 (kcode 263) = some (.ireturn) := by decide +kernel
theorem k263_115 : lkc 115 (kcode 263) = some (.aload_n 0) := by decide +kernel
theorem k263_116 : lkc 116 (kcode 263) = some (.getfield 58) := by decide +kernel
theorem k263_119 : lkc 119 (kcode 263) = some (.bipush 25) := by decide +kernel
theorem k263_121 : lkc 121 (kcode 263) = some (.iaload) := by decide +kernel
theorem k263_122 : lkc 122 (kcode 263) = some (.ireturn) := by decide +kernel
theorem k263_123 : lkc 123 (kcode 263) = some (.aload_n 0) := by decide +kernel
theorem k263_124 : lkc 124 (kcode 263) = some (.getfield 68) := by decide +kernel
theorem k263_127 : lkc 127 (kcode 263) = some (.ireturn) := by decide +kernel
theorem k263_128 : lkc 128 (kcode 263) = some (.aload_n 0) := by decide +kernel
theorem k263_129 : lkc 129 (kcode 263) = some (.getfield 289) := by decide +kernel
theorem k263_132 : lkc 132 (kcode 263) = some (.ireturn) := by decide +kernel
theorem k263_133 : lkc 133 (kcode 263) = some (.aload_n 0) := by decide +kernel
theorem k263_134 : lkc 134 (kcode 263) = some (.getfield 58) := by decide +kernel
theorem k263_137 : lkc 137 (kcode 263) = some (.bipush 27) := by decide +kernel
theorem k263_139 : lkc 139 (kcode 263) = some (.iaload) := by decide +kernel
theorem k263_140 : lkc 140 (kcode 263) = some (.ireturn) := by decide +kernel
theorem k263_141 : lkc 141 (kcode 263) = some (.aload_n 0) := by decide +kernel
theorem k263_142 : lkc 142 (kcode 263) = some (.getfield 292) := by decide +kernel
theorem k263_145 : lkc 145 (kcode 263) = some (.ireturn) := by decide +kernel
theorem k263_146 : lkc 146 (kcode 263) = some (.ldc_w 325) := by decide +kernel
theorem k263_149 : lkc 149 (kcode 263) = some (.ireturn) := by decide +kernel
/-! forward: count (both sides) -/
def ctV (f : Nat → Int32) (z v : Int32) : Prop := (∃ k, k < 13 ∧ z = nI k ∧ v = f k) ∨ ((∀ k, k < 13 → z ≠ nI k) ∧ v = -1000000)
theorem ctV_1 {f g : Nat → Int32} {z v u : Int32} (h : ctV f z v) (q : ctV g z u) (e : ∀ k, k < 13 → f k = g k) : v = u := by
  rcases h with ⟨k, h1, h2, h3⟩ | ⟨h1, h2⟩
  · rcases q with ⟨j, q1, q2, q3⟩ | ⟨q1, q2⟩
    · have : k = j := by
        rw [h2] at q2
        exact (nI_inj (by omega) (by omega)).mp q2
      subst this
      rw [h3, q3, e k h1]
    · exact absurd h2 (q1 k h1)
  · rcases q with ⟨j, q1, q2, q3⟩ | ⟨q1, q2⟩
    · exact absurd q2 (h1 j q1)
    · rw [h2, q2]
theorem ct_k {z : Int32} (c1 : ¬ z.toInt < 0) (c2 : ¬ 12 < z.toInt) : ∃ k, k < 13 ∧ z = nI k ∧ (z.toInt - 0).toNat = k := by
  obtain ⟨n, h1, h2⟩ := i_rng (x := z) (L := 12) (by omega) (by omega) (by decide)
  exact ⟨n, by omega, h2, by rw [h2, nI_toInt (by omega)]; omega⟩
theorem ct_no {z : Int32} (c : z.toInt < 0 ∨ 12 < z.toInt) : ∀ k, k < 13 → z ≠ nI k := fun k hk e => by
  rw [e, nI_toInt (by omega)] at c
  omega
def xcF (m : xM) (dd : Nat) : Nat → Int32
  | 0 => m.1 3 0
  | 1 => m.1 3 1
  | 2 => m.1 3 2
  | 3 => m.1 47 4
  | 4 => m.1 55 4
  | 5 => m.1 1 1
  | 6 => m.1 47 5
  | 7 => m.1 89 2
  | 8 => m.1 89 1
  | 9 => m.1 0 16
  | 10 => m.1 84 4
  | 11 => nI (min 60 dd)
  | 12 => m.1 99 2
  | _ => 0
def mcF (m : xM) : Nat → Int32
  | 0 => m.1 314 25
  | 1 => m.1 314 26
  | 2 => m.1 314 27
  | 3 => m.1 314 7
  | 4 => m.1 314 30
  | 5 => m.1 314 6
  | 6 => m.1 314 34
  | 7 => m.1 326 26
  | 8 => m.1 326 25
  | 9 => m.1 314 35
  | 10 => m.1 314 51
  | 11 => m.1 326 27
  | 12 => m.1 314 42
  | _ => 0
theorem c_logLen {m : xM} {dd : Nat} (hr : rS m) (hd : m.1 89 2 = nI dd) (hd9 : dd ≤ 1000) : fC 125 [.ref 0] m (fun rv m' => rv = some (.int (nI (min 60 dd))) ∧ m = m') := by
  refine fC_of (by decide) (fun d n P H => ?_)
  replace H := f_bipush H k125_0 (v := 60) (by decide)
  replace H := f_aload_n H k125_2 rfl
  replace H := f_gr H k125_3 (ci := 11) (f := 9) (x := 89) (by decide +kernel) (by decide) (hr 0 9 89 rfl)
  replace H := f_gi H k125_6 (ci := 6) (f := 2) (by decide +kernel) (by decide)
  rw [hd, show (60 : Int32) = nI 60 from rfl] at H
  obtain ⟨rv, m3, ⟨rfl, e3⟩, h9_9⟩ := f_ins H k125_9 (by decide +kernel) (as := [.int _, .int _]) (r := []) (by rfl) (c_minI (by omega) (by omega))
  replace H := h9_9
  replace H := f_iret H k125_12
  exact ⟨_, _, H, rfl, e3⟩
theorem k106_1 : lkc 1 (kcode 106) = some (.tableswitch 165 0 12 #[67, 75, 83, 91, 99, 107, 115, 123, 131, 139, 144, 152, 157]) := by decide +kernel
theorem k263_6 : lkc 6 (kcode 263) = some (.tableswitch 140 0 12 #[66, 71, 76, 81, 86, 91, 96, 101, 109, 117, 122, 127, 135]) := by decide +kernel
theorem c_count {m : xM} {dd : Nat} {z : Int32} (hr : rS m) (hd : m.1 89 2 = nI dd) (hd9 : dd ≤ 1000) : fC 106 [.ref 0, .int z] m (fun rv m' => ∃ v, rv = some (.int v) ∧ ctV (xcF m dd) z v ∧ m = m') := by
  refine fC_of (by decide) (fun d n P H => ?_)
  replace H := f_iload_n H k106_0 rfl
  rcases f_tsw H k106_1 with ⟨c, H⟩ | ⟨c1, c2, o, eo, H⟩
  · replace H : xF 106 (xw d) P n 166 [(0, .ref 0), (1, .int z)] [] m := H
    replace H := f_ldc_i H k106_166 (v := -1000000) (by decide +kernel)
    replace H := f_iret H k106_168
    exact ⟨_, _, H, _, rfl, Or.inr ⟨ct_no c, rfl⟩, rfl⟩
  · obtain ⟨k, hk, hzk, hi⟩ := ct_k c1 c2
    rw [hi] at eo
    rcases (by omega : k = 0 ∨ k = 1 ∨ k = 2 ∨ k = 3 ∨ k = 4 ∨ k = 5 ∨ k = 6 ∨ k = 7 ∨ k = 8 ∨ k = 9 ∨ k = 10 ∨ k = 11 ∨ k = 12) with rfl | rfl | rfl | rfl | rfl | rfl | rfl | rfl | rfl | rfl | rfl | rfl | rfl
    · have e4 : o = 67 := (Option.some.inj eo).symm
      subst e4
      replace H : xF 106 (xw d) P n 68 [(0, .ref 0), (1, .int z)] [] m := H
      replace H := f_aload_n H k106_68 rfl
      replace H := f_gr H k106_69 (ci := 11) (f := 1) (x := 3) (by decide +kernel) (by decide) (hr 0 1 3 rfl)
      replace H := f_gi H k106_72 (ci := 5) (f := 0) (by decide +kernel) (by decide)
      replace H := f_iret H k106_75
      exact ⟨_, _, H, _, rfl, Or.inl ⟨0, hk, hzk, rfl⟩, rfl⟩
    · have e4 : o = 75 := (Option.some.inj eo).symm
      subst e4
      replace H : xF 106 (xw d) P n 76 [(0, .ref 0), (1, .int z)] [] m := H
      replace H := f_aload_n H k106_76 rfl
      replace H := f_gr H k106_77 (ci := 11) (f := 1) (x := 3) (by decide +kernel) (by decide) (hr 0 1 3 rfl)
      replace H := f_gi H k106_80 (ci := 5) (f := 1) (by decide +kernel) (by decide)
      replace H := f_iret H k106_83
      exact ⟨_, _, H, _, rfl, Or.inl ⟨1, hk, hzk, rfl⟩, rfl⟩
    · have e4 : o = 83 := (Option.some.inj eo).symm
      subst e4
      replace H : xF 106 (xw d) P n 84 [(0, .ref 0), (1, .int z)] [] m := H
      replace H := f_aload_n H k106_84 rfl
      replace H := f_gr H k106_85 (ci := 11) (f := 1) (x := 3) (by decide +kernel) (by decide) (hr 0 1 3 rfl)
      replace H := f_gi H k106_88 (ci := 5) (f := 2) (by decide +kernel) (by decide)
      replace H := f_iret H k106_91
      exact ⟨_, _, H, _, rfl, Or.inl ⟨2, hk, hzk, rfl⟩, rfl⟩
    · have e4 : o = 91 := (Option.some.inj eo).symm
      subst e4
      replace H : xF 106 (xw d) P n 92 [(0, .ref 0), (1, .int z)] [] m := H
      replace H := f_aload_n H k106_92 rfl
      replace H := f_gr H k106_93 (ci := 11) (f := 4) (x := 47) (by decide +kernel) (by decide) (hr 0 4 47 rfl)
      replace H := f_gi H k106_96 (ci := 3) (f := 4) (by decide +kernel) (by decide)
      replace H := f_iret H k106_99
      exact ⟨_, _, H, _, rfl, Or.inl ⟨3, hk, hzk, rfl⟩, rfl⟩
    · have e4 : o = 99 := (Option.some.inj eo).symm
      subst e4
      replace H : xF 106 (xw d) P n 100 [(0, .ref 0), (1, .int z)] [] m := H
      replace H := f_aload_n H k106_100 rfl
      replace H := f_gr H k106_101 (ci := 11) (f := 5) (x := 55) (by decide +kernel) (by decide) (hr 0 5 55 rfl)
      replace H := f_gi H k106_104 (ci := 9) (f := 4) (by decide +kernel) (by decide)
      replace H := f_iret H k106_107
      exact ⟨_, _, H, _, rfl, Or.inl ⟨4, hk, hzk, rfl⟩, rfl⟩
    · have e4 : o = 107 := (Option.some.inj eo).symm
      subst e4
      replace H : xF 106 (xw d) P n 108 [(0, .ref 0), (1, .int z)] [] m := H
      replace H := f_aload_n H k106_108 rfl
      replace H := f_gr H k106_109 (ci := 11) (f := 0) (x := 1) (by decide +kernel) (by decide) (hr 0 0 1 rfl)
      replace H := f_gi H k106_112 (ci := 8) (f := 1) (by decide +kernel) (by decide)
      replace H := f_iret H k106_115
      exact ⟨_, _, H, _, rfl, Or.inl ⟨5, hk, hzk, rfl⟩, rfl⟩
    · have e4 : o = 115 := (Option.some.inj eo).symm
      subst e4
      replace H : xF 106 (xw d) P n 116 [(0, .ref 0), (1, .int z)] [] m := H
      replace H := f_aload_n H k106_116 rfl
      replace H := f_gr H k106_117 (ci := 11) (f := 4) (x := 47) (by decide +kernel) (by decide) (hr 0 4 47 rfl)
      replace H := f_gi H k106_120 (ci := 3) (f := 5) (by decide +kernel) (by decide)
      replace H := f_iret H k106_123
      exact ⟨_, _, H, _, rfl, Or.inl ⟨6, hk, hzk, rfl⟩, rfl⟩
    · have e4 : o = 123 := (Option.some.inj eo).symm
      subst e4
      replace H : xF 106 (xw d) P n 124 [(0, .ref 0), (1, .int z)] [] m := H
      replace H := f_aload_n H k106_124 rfl
      replace H := f_gr H k106_125 (ci := 11) (f := 9) (x := 89) (by decide +kernel) (by decide) (hr 0 9 89 rfl)
      replace H := f_gi H k106_128 (ci := 6) (f := 2) (by decide +kernel) (by decide)
      replace H := f_iret H k106_131
      exact ⟨_, _, H, _, rfl, Or.inl ⟨7, hk, hzk, rfl⟩, rfl⟩
    · have e4 : o = 131 := (Option.some.inj eo).symm
      subst e4
      replace H : xF 106 (xw d) P n 132 [(0, .ref 0), (1, .int z)] [] m := H
      replace H := f_aload_n H k106_132 rfl
      replace H := f_gr H k106_133 (ci := 11) (f := 9) (x := 89) (by decide +kernel) (by decide) (hr 0 9 89 rfl)
      replace H := f_gi H k106_136 (ci := 6) (f := 1) (by decide +kernel) (by decide)
      replace H := f_iret H k106_139
      exact ⟨_, _, H, _, rfl, Or.inl ⟨8, hk, hzk, rfl⟩, rfl⟩
    · have e4 : o = 139 := (Option.some.inj eo).symm
      subst e4
      replace H : xF 106 (xw d) P n 140 [(0, .ref 0), (1, .int z)] [] m := H
      replace H := f_aload_n H k106_140 rfl
      replace H := f_gi H k106_141 (ci := 11) (f := 16) (by decide +kernel) (by decide)
      replace H := f_iret H k106_144
      exact ⟨_, _, H, _, rfl, Or.inl ⟨9, hk, hzk, rfl⟩, rfl⟩
    · have e4 : o = 144 := (Option.some.inj eo).symm
      subst e4
      replace H : xF 106 (xw d) P n 145 [(0, .ref 0), (1, .int z)] [] m := H
      replace H := f_aload_n H k106_145 rfl
      replace H := f_gr H k106_146 (ci := 11) (f := 8) (x := 84) (by decide +kernel) (by decide) (hr 0 8 84 rfl)
      replace H := f_gi H k106_149 (ci := 7) (f := 4) (by decide +kernel) (by decide)
      replace H := f_iret H k106_152
      exact ⟨_, _, H, _, rfl, Or.inl ⟨10, hk, hzk, rfl⟩, rfl⟩
    · have e4 : o = 152 := (Option.some.inj eo).symm
      subst e4
      replace H : xF 106 (xw d) P n 153 [(0, .ref 0), (1, .int z)] [] m := H
      replace H := f_aload_n H k106_153 rfl
      obtain ⟨rv, m3, ⟨rfl, e3⟩, h9_154⟩ := f_inv H k106_154 (by decide +kernel) (as := []) (b := 0) (r := []) (by rfl) (c_logLen hr hd hd9)
      replace H := h9_154
      replace H := f_iret H k106_157
      exact ⟨_, _, H, _, rfl, Or.inl ⟨11, hk, hzk, rfl⟩, e3⟩
    · have e4 : o = 157 := (Option.some.inj eo).symm
      subst e4
      replace H : xF 106 (xw d) P n 158 [(0, .ref 0), (1, .int z)] [] m := H
      replace H := f_aload_n H k106_158 rfl
      replace H := f_gr H k106_159 (ci := 11) (f := 11) (x := 99) (by decide +kernel) (by decide) (hr 0 11 99 rfl)
      replace H := f_gi H k106_162 (ci := 0) (f := 2) (by decide +kernel) (by decide)
      replace H := f_iret H k106_165
      exact ⟨_, _, H, _, rfl, Or.inl ⟨12, hk, hzk, rfl⟩, rfl⟩
theorem c_mcount {m : xM} {z : Int32} (hr : rS m) : fC 263 [.ref 314, .int z] m (fun rv m' => ∃ v, rv = some (.int v) ∧ ctV (mcF m) z v ∧ m' = mI m 314 0 0) := by
  refine fC_of (by decide) (fun d n P H => ?_)
  have c24 : (25 : Int32).toNatClampNeg = 25 := by decide
  have c26 : (26 : Int32).toNatClampNeg = 26 := by decide
  have c27 : (27 : Int32).toNatClampNeg = 27 := by decide
  replace H := f_aload_n H k263_0 rfl
  replace H := f_iconst H k263_1 (v := 0) (by decide)
  replace H := f_put_i H k263_2 (ci := 12) (f := 0) (by decide +kernel) (by decide)
  replace H := f_iload_n H k263_5 rfl
  have e0 : ∀ a i, ¬ (a = 314 ∧ i = 0) → (mI m 314 0 0).1 a i = m.1 a i := fun a i h => mI_ne h
  replace hr : rS (mI m 314 0 0) := hr
  generalize mI m 314 0 0 = m2 at *
  rcases f_tsw H k263_6 with ⟨c, H⟩ | ⟨c1, c2, o, eo, H⟩
  · replace H : xF 263 (xw d) P n 146 [(0, .ref 314), (1, .int z)] [] m2 := H
    replace H := f_ldc_w H k263_146 (v := -1000000) (by decide +kernel)
    replace H := f_iret H k263_149
    exact ⟨_, _, H, _, rfl, Or.inr ⟨ct_no c, rfl⟩, rfl⟩
  · obtain ⟨k, hk, hzk, hi⟩ := ct_k c1 c2
    rw [hi] at eo
    rcases (by omega : k = 0 ∨ k = 1 ∨ k = 2 ∨ k = 3 ∨ k = 4 ∨ k = 5 ∨ k = 6 ∨ k = 7 ∨ k = 8 ∨ k = 9 ∨ k = 10 ∨ k = 11 ∨ k = 12) with rfl | rfl | rfl | rfl | rfl | rfl | rfl | rfl | rfl | rfl | rfl | rfl | rfl
    · have e4 : o = 66 := (Option.some.inj eo).symm
      subst e4
      replace H : xF 263 (xw d) P n 72 [(0, .ref 314), (1, .int z)] [] m2 := H
      replace H := f_aload_n H k263_72 rfl
      replace H := f_gi H k263_73 (ci := 12) (f := 25) (by decide +kernel) (by decide)
      rw [e0 _ _ (by omega)] at H
      replace H := f_iret H k263_76
      exact ⟨_, _, H, _, rfl, Or.inl ⟨0, hk, hzk, rfl⟩, rfl⟩
    · have e4 : o = 71 := (Option.some.inj eo).symm
      subst e4
      replace H : xF 263 (xw d) P n 77 [(0, .ref 314), (1, .int z)] [] m2 := H
      replace H := f_aload_n H k263_77 rfl
      replace H := f_gi H k263_78 (ci := 12) (f := 26) (by decide +kernel) (by decide)
      rw [e0 _ _ (by omega)] at H
      replace H := f_iret H k263_81
      exact ⟨_, _, H, _, rfl, Or.inl ⟨1, hk, hzk, rfl⟩, rfl⟩
    · have e4 : o = 76 := (Option.some.inj eo).symm
      subst e4
      replace H : xF 263 (xw d) P n 82 [(0, .ref 314), (1, .int z)] [] m2 := H
      replace H := f_aload_n H k263_82 rfl
      replace H := f_gi H k263_83 (ci := 12) (f := 27) (by decide +kernel) (by decide)
      rw [e0 _ _ (by omega)] at H
      replace H := f_iret H k263_86
      exact ⟨_, _, H, _, rfl, Or.inl ⟨2, hk, hzk, rfl⟩, rfl⟩
    · have e4 : o = 81 := (Option.some.inj eo).symm
      subst e4
      replace H : xF 263 (xw d) P n 87 [(0, .ref 314), (1, .int z)] [] m2 := H
      replace H := f_aload_n H k263_87 rfl
      replace H := f_gi H k263_88 (ci := 12) (f := 7) (by decide +kernel) (by decide)
      rw [e0 _ _ (by omega)] at H
      replace H := f_iret H k263_91
      exact ⟨_, _, H, _, rfl, Or.inl ⟨3, hk, hzk, rfl⟩, rfl⟩
    · have e4 : o = 86 := (Option.some.inj eo).symm
      subst e4
      replace H : xF 263 (xw d) P n 92 [(0, .ref 314), (1, .int z)] [] m2 := H
      replace H := f_aload_n H k263_92 rfl
      replace H := f_gi H k263_93 (ci := 12) (f := 30) (by decide +kernel) (by decide)
      rw [e0 _ _ (by omega)] at H
      replace H := f_iret H k263_96
      exact ⟨_, _, H, _, rfl, Or.inl ⟨4, hk, hzk, rfl⟩, rfl⟩
    · have e4 : o = 91 := (Option.some.inj eo).symm
      subst e4
      replace H : xF 263 (xw d) P n 97 [(0, .ref 314), (1, .int z)] [] m2 := H
      replace H := f_aload_n H k263_97 rfl
      replace H := f_gi H k263_98 (ci := 12) (f := 6) (by decide +kernel) (by decide)
      rw [e0 _ _ (by omega)] at H
      replace H := f_iret H k263_101
      exact ⟨_, _, H, _, rfl, Or.inl ⟨5, hk, hzk, rfl⟩, rfl⟩
    · have e4 : o = 96 := (Option.some.inj eo).symm
      subst e4
      replace H : xF 263 (xw d) P n 102 [(0, .ref 314), (1, .int z)] [] m2 := H
      replace H := f_aload_n H k263_102 rfl
      replace H := f_gi H k263_103 (ci := 12) (f := 34) (by decide +kernel) (by decide)
      rw [e0 _ _ (by omega)] at H
      replace H := f_iret H k263_106
      exact ⟨_, _, H, _, rfl, Or.inl ⟨6, hk, hzk, rfl⟩, rfl⟩
    · have e4 : o = 101 := (Option.some.inj eo).symm
      subst e4
      replace H : xF 263 (xw d) P n 107 [(0, .ref 314), (1, .int z)] [] m2 := H
      replace H := f_aload_n H k263_107 rfl
      replace H := f_gr H k263_108 (ci := 12) (f := 32) (x := 326) (by decide +kernel) (by decide) (hr 314 32 326 rfl)
      replace H := f_bipush H k263_111 (v := 26) (by decide)
      have Hob := f_iald H k263_113 (c := 208) (by decide)
      clear H
      obtain ⟨hb113, H⟩ := Hob
      rw [c26, e0 _ _ (by omega)] at H
      replace H := f_iret H k263_114
      exact ⟨_, _, H, _, rfl, Or.inl ⟨7, hk, hzk, rfl⟩, rfl⟩
    · have e4 : o = 109 := (Option.some.inj eo).symm
      subst e4
      replace H : xF 263 (xw d) P n 115 [(0, .ref 314), (1, .int z)] [] m2 := H
      replace H := f_aload_n H k263_115 rfl
      replace H := f_gr H k263_116 (ci := 12) (f := 32) (x := 326) (by decide +kernel) (by decide) (hr 314 32 326 rfl)
      replace H := f_bipush H k263_119 (v := 25) (by decide)
      have Hob := f_iald H k263_121 (c := 208) (by decide)
      clear H
      obtain ⟨hb121, H⟩ := Hob
      rw [c24, e0 _ _ (by omega)] at H
      replace H := f_iret H k263_122
      exact ⟨_, _, H, _, rfl, Or.inl ⟨8, hk, hzk, rfl⟩, rfl⟩
    · have e4 : o = 117 := (Option.some.inj eo).symm
      subst e4
      replace H : xF 263 (xw d) P n 123 [(0, .ref 314), (1, .int z)] [] m2 := H
      replace H := f_aload_n H k263_123 rfl
      replace H := f_gi H k263_124 (ci := 12) (f := 35) (by decide +kernel) (by decide)
      rw [e0 _ _ (by omega)] at H
      replace H := f_iret H k263_127
      exact ⟨_, _, H, _, rfl, Or.inl ⟨9, hk, hzk, rfl⟩, rfl⟩
    · have e4 : o = 122 := (Option.some.inj eo).symm
      subst e4
      replace H : xF 263 (xw d) P n 128 [(0, .ref 314), (1, .int z)] [] m2 := H
      replace H := f_aload_n H k263_128 rfl
      replace H := f_gi H k263_129 (ci := 12) (f := 51) (by decide +kernel) (by decide)
      rw [e0 _ _ (by omega)] at H
      replace H := f_iret H k263_132
      exact ⟨_, _, H, _, rfl, Or.inl ⟨10, hk, hzk, rfl⟩, rfl⟩
    · have e4 : o = 127 := (Option.some.inj eo).symm
      subst e4
      replace H : xF 263 (xw d) P n 133 [(0, .ref 314), (1, .int z)] [] m2 := H
      replace H := f_aload_n H k263_133 rfl
      replace H := f_gr H k263_134 (ci := 12) (f := 32) (x := 326) (by decide +kernel) (by decide) (hr 314 32 326 rfl)
      replace H := f_bipush H k263_137 (v := 27) (by decide)
      have Hob := f_iald H k263_139 (c := 208) (by decide)
      clear H
      obtain ⟨hb139, H⟩ := Hob
      rw [c27, e0 _ _ (by omega)] at H
      replace H := f_iret H k263_140
      exact ⟨_, _, H, _, rfl, Or.inl ⟨11, hk, hzk, rfl⟩, rfl⟩
    · have e4 : o = 135 := (Option.some.inj eo).symm
      subst e4
      replace H : xF 263 (xw d) P n 141 [(0, .ref 314), (1, .int z)] [] m2 := H
      replace H := f_aload_n H k263_141 rfl
      replace H := f_gi H k263_142 (ci := 12) (f := 42) (by decide +kernel) (by decide)
      rw [e0 _ _ (by omega)] at H
      replace H := f_iret H k263_145
      exact ⟨_, _, H, _, rfl, Or.inl ⟨12, hk, hzk, rfl⟩, rfl⟩
