theorem k129_0 : lkc 0 (kcode 129) = some (.aload_n 0) := by decide +kernel
theorem k129_1 : lkc 1 (kcode 129) = some (.invokevirtual 239) := by decide +kernel
theorem k129_4 : lkc 4 (kcode 129) = some (.ifCond .eq 27) := by decide +kernel
theorem k129_7 : lkc 7 (kcode 129) = some (.iload_n 1) := by decide +kernel
theorem k129_8 : lkc 8 (kcode 129) = some (.ifCond .lt 23) := by decide +kernel
theorem k129_11 : lkc 11 (kcode 129) = some (.iload_n 1) := by decide +kernel
theorem k129_12 : lkc 12 (kcode 129) = some (.aload_n 0) := by decide +kernel
theorem k129_13 : lkc 13 (kcode 129) = some (.getfield 45) := by decide +kernel
theorem k129_16 : lkc 16 (kcode 129) = some (.getfield 222) := by decide +kernel
theorem k129_19 : lkc 19 (kcode 129) = some (.if_icmp .ge 12) := by decide +kernel
theorem k129_22 : lkc 22 (kcode 129) = some (.iload_n 2) := by decide +kernel
theorem k129_23 : lkc 23 (kcode 129) = some (.ifCond .lt 8) := by decide +kernel
theorem k129_26 : lkc 26 (kcode 129) = some (.iload_n 2) := by decide +kernel
theorem k129_27 : lkc 27 (kcode 129) = some (.iconst 2) := by decide +kernel
theorem k129_28 : lkc 28 (kcode 129) = some (.if_icmp .le 6) := by decide +kernel
theorem k129_31 : lkc 31 (kcode 129) = some (.ldc 235) := by decide +kernel
theorem k129_33 : lkc 33 (kcode 129) = some (.ireturn) := by decide +kernel
theorem k129_34 : lkc 34 (kcode 129) = some (.aload_n 0) := by decide +kernel
theorem k129_35 : lkc 35 (kcode 129) = some (.getfield 61) := by decide +kernel
theorem k129_38 : lkc 38 (kcode 129) = some (.aload_n 0) := by decide +kernel
theorem k129_39 : lkc 39 (kcode 129) = some (.getfield 75) := by decide +kernel
theorem k129_42 : lkc 42 (kcode 129) = some (.invokevirtual 253) := by decide +kernel
theorem k129_45 : lkc 45 (kcode 129) = some (.aload_n 0) := by decide +kernel
theorem k129_46 : lkc 46 (kcode 129) = some (.getfield 45) := by decide +kernel
theorem k129_49 : lkc 49 (kcode 129) = some (.getfield 299) := by decide +kernel
theorem k129_52 : lkc 52 (kcode 129) = some (.iload_n 1) := by decide +kernel
theorem k129_53 : lkc 53 (kcode 129) = some (.iaload) := by decide +kernel
theorem k129_54 : lkc 54 (kcode 129) = some (.istore_n 3) := by decide +kernel
theorem k129_55 : lkc 55 (kcode 129) = some (.iconst 0) := by decide +kernel
theorem k129_56 : lkc 56 (kcode 129) = some (.istore 4) := by decide +kernel
theorem k129_58 : lkc 58 (kcode 129) = some (.iconst 0) := by decide +kernel
theorem k129_59 : lkc 59 (kcode 129) = some (.istore 5) := by decide +kernel
theorem k129_61 : lkc 61 (kcode 129) = some (.iconst 0) := by decide +kernel
theorem k129_62 : lkc 62 (kcode 129) = some (.istore 6) := by decide +kernel
theorem k129_64 : lkc 64 (kcode 129) = some (.iconst 0) := by decide +kernel
theorem k129_65 : lkc 65 (kcode 129) = some (.istore 7) := by decide +kernel
theorem k129_67 : lkc 67 (kcode 129) = some (.iload 7) := by decide +kernel
theorem k129_69 : lkc 69 (kcode 129) = some (.iload_n 3) := by decide +kernel
theorem k129_70 : lkc 70 (kcode 129) = some (.if_icmp .ge 94) := by decide +kernel
theorem k129_73 : lkc 73 (kcode 129) = some (.aload_n 0) := by decide +kernel
theorem k129_74 : lkc 74 (kcode 129) = some (.getfield 45) := by decide +kernel
theorem k129_77 : lkc 77 (kcode 129) = some (.getfield 302) := by decide +kernel
theorem k129_80 : lkc 80 (kcode 129) = some (.iload_n 1) := by decide +kernel
theorem k129_81 : lkc 81 (kcode 129) = some (.aaload) := by decide +kernel
theorem k129_82 : lkc 82 (kcode 129) = some (.iload 7) := by decide +kernel
theorem k129_84 : lkc 84 (kcode 129) = some (.iaload) := by decide +kernel
theorem k129_85 : lkc 85 (kcode 129) = some (.istore 8) := by decide +kernel
theorem k129_87 : lkc 87 (kcode 129) = some (.iload 7) := by decide +kernel
theorem k129_89 : lkc 89 (kcode 129) = some (.ifCond .ne 7) := by decide +kernel
theorem k129_92 : lkc 92 (kcode 129) = some (.iconst 0) := by decide +kernel
theorem k129_93 : lkc 93 (kcode 129) = some (.goto 26) := by decide +kernel
theorem k129_96 : lkc 96 (kcode 129) = some (.aload_n 0) := by decide +kernel
theorem k129_97 : lkc 97 (kcode 129) = some (.getfield 52) := by decide +kernel
theorem k129_100 : lkc 100 (kcode 129) = some (.aload_n 0) := by decide +kernel
theorem k129_101 : lkc 101 (kcode 129) = some (.getfield 45) := by decide +kernel
theorem k129_104 : lkc 104 (kcode 129) = some (.getfield 302) := by decide +kernel
theorem k129_107 : lkc 107 (kcode 129) = some (.iload_n 1) := by decide +kernel
theorem k129_108 : lkc 108 (kcode 129) = some (.aaload) := by decide +kernel
theorem k129_109 : lkc 109 (kcode 129) = some (.iload 7) := by decide +kernel
theorem k129_111 : lkc 111 (kcode 129) = some (.iconst 1) := by decide +kernel
theorem k129_112 : lkc 112 (kcode 129) = some (.isub) := by decide +kernel
theorem k129_113 : lkc 113 (kcode 129) = some (.iaload) := by decide +kernel
theorem k129_114 : lkc 114 (kcode 129) = some (.iload 8) := by decide +kernel
theorem k129_116 : lkc 116 (kcode 129) = some (.invokevirtual 306) := by decide +kernel
theorem k129_119 : lkc 119 (kcode 129) = some (.istore 9) := by decide +kernel
theorem k129_121 : lkc 121 (kcode 129) = some (.aload_n 0) := by decide +kernel
theorem k129_122 : lkc 122 (kcode 129) = some (.iload 8) := by decide +kernel
theorem k129_124 : lkc 124 (kcode 129) = some (.invokevirtual 159) := by decide +kernel
theorem k129_127 : lkc 127 (kcode 129) = some (.ifCond .eq 37) := by decide +kernel
theorem k129_130 : lkc 130 (kcode 129) = some (.iload 9) := by decide +kernel
theorem k129_132 : lkc 132 (kcode 129) = some (.iconst (-1)) := by decide +kernel
theorem k129_133 : lkc 133 (kcode 129) = some (.if_icmp .ne 6) := by decide +kernel
theorem k129_136 : lkc 136 (kcode 129) = some (.goto 28) := by decide +kernel
theorem k129_139 : lkc 139 (kcode 129) = some (.iload 5) := by decide +kernel
theorem k129_141 : lkc 141 (kcode 129) = some (.iload 9) := by decide +kernel
theorem k129_143 : lkc 143 (kcode 129) = some (.iadd) := by decide +kernel
theorem k129_144 : lkc 144 (kcode 129) = some (.istore 5) := by decide +kernel
theorem k129_146 : lkc 146 (kcode 129) = some (.iload 6) := by decide +kernel
theorem k129_148 : lkc 148 (kcode 129) = some (.iconst 1) := by decide +kernel
theorem k129_149 : lkc 149 (kcode 129) = some (.iload 8) := by decide +kernel
theorem k129_151 : lkc 151 (kcode 129) = some (.ishl) := by decide +kernel
theorem k129_152 : lkc 152 (kcode 129) = some (.ior) := by decide +kernel
theorem k129_153 : lkc 153 (kcode 129) = some (.istore 6) := by decide +kernel
theorem k129_155 : lkc 155 (kcode 129) = some (.iinc 4 1) := by decide +kernel
theorem k129_158 : lkc 158 (kcode 129) = some (.iinc 7 1) := by decide +kernel
theorem k129_161 : lkc 161 (kcode 129) = some (.goto (-94)) := by decide +kernel
theorem k129_164 : lkc 164 (kcode 129) = some (.iload_n 2) := by decide +kernel
theorem k129_165 : lkc 165 (kcode 129) = some (.ifCond .ne 16) := by decide +kernel
theorem k129_168 : lkc 168 (kcode 129) = some (.iload 4) := by decide +kernel
theorem k129_170 : lkc 170 (kcode 129) = some (.iload_n 3) := by decide +kernel
theorem k129_171 : lkc 171 (kcode 129) = some (.if_icmp .ne 7) := by decide +kernel
theorem k129_174 : lkc 174 (kcode 129) = some (.iconst (-1)) := by decide +kernel
theorem k129_175 : lkc 175 (kcode 129) = some (.goto 5) := by decide +kernel
theorem k129_178 : lkc 178 (kcode 129) = some (.iload 4) := by decide +kernel
theorem k129_180 : lkc 180 (kcode 129) = some (.ireturn) := by decide +kernel
theorem k129_181 : lkc 181 (kcode 129) = some (.iload_n 2) := by decide +kernel
theorem k129_182 : lkc 182 (kcode 129) = some (.iconst 1) := by decide +kernel
theorem k129_183 : lkc 183 (kcode 129) = some (.if_icmp .ne 8) := by decide +kernel
theorem k129_186 : lkc 186 (kcode 129) = some (.iload 5) := by decide +kernel
theorem k129_188 : lkc 188 (kcode 129) = some (.goto 13) := by decide +kernel
theorem k129_191 : lkc 191 (kcode 129) = some (.iload 6) := by decide +kernel
theorem k129_193 : lkc 193 (kcode 129) = some (.aload_n 0) := by decide +kernel
theorem k129_194 : lkc 194 (kcode 129) = some (.getfield 61) := by decide +kernel
theorem k129_197 : lkc 197 (kcode 129) = some (.getfield 309) := by decide +kernel
theorem k129_200 : lkc 200 (kcode 129) = some (.iand) := by decide +kernel
theorem k129_201 : lkc 201 (kcode 129) = some (.ireturn) := by decide +kernel
theorem k225_0 : lkc 0 (kcode 225) = some (.aload_n 0) := by decide +kernel
theorem k225_1 : lkc 1 (kcode 225) = some (.iconst 0) := by decide +kernel
theorem k225_2 : lkc 2 (kcode 225) = some (.putfield 90) := by decide +kernel
theorem k225_5 : lkc 5 (kcode 225) = some (.aload_n 0) := by decide +kernel
theorem k225_6 : lkc 6 (kcode 225) = some (.iload_n 1) := by decide +kernel
theorem k225_7 : lkc 7 (kcode 225) = some (.invokevirtual 392) := by decide +kernel
theorem k225_10 : lkc 10 (kcode 225) = some (.ifCond .eq 22) := by decide +kernel
theorem k225_13 : lkc 13 (kcode 225) = some (.aload_n 0) := by decide +kernel
theorem k225_14 : lkc 14 (kcode 225) = some (.getfield 283) := by decide +kernel
theorem k225_17 : lkc 17 (kcode 225) = some (.ifCond .eq 15) := by decide +kernel
theorem k225_20 : lkc 20 (kcode 225) = some (.iload_n 2) := by decide +kernel
theorem k225_21 : lkc 21 (kcode 225) = some (.i2l) := by decide +kernel
theorem k225_22 : lkc 22 (kcode 225) = some (.lconst 0) := by decide +kernel
theorem k225_23 : lkc 23 (kcode 225) = some (.ldc2_w 261) := by decide +kernel
theorem k225_26 : lkc 26 (kcode 225) = some (.invokestatic 211) := by decide +kernel
theorem k225_29 : lkc 29 (kcode 225) = some (.ifCond .ne 7) := by decide +kernel
theorem k225_32 : lkc 32 (kcode 225) = some (.ldc_w 325) := by decide +kernel
theorem k225_35 : lkc 35 (kcode 225) = some (.ireturn) := by decide +kernel
theorem k225_36 : lkc 36 (kcode 225) = some (.bipush 16) := by decide +kernel
theorem k225_38 : lkc 38 (kcode 225) = some (.iload_n 1) := by decide +kernel
theorem k225_39 : lkc 39 (kcode 225) = some (.imul) := by decide +kernel
theorem k225_40 : lkc 40 (kcode 225) = some (.istore_n 3) := by decide +kernel
theorem k225_41 : lkc 41 (kcode 225) = some (.aload_n 0) := by decide +kernel
theorem k225_42 : lkc 42 (kcode 225) = some (.aload_n 0) := by decide +kernel
theorem k225_43 : lkc 43 (kcode 225) = some (.getfield 52) := by decide +kernel
theorem k225_46 : lkc 46 (kcode 225) = some (.iload_n 3) := by decide +kernel
theorem k225_47 : lkc 47 (kcode 225) = some (.iaload) := by decide +kernel
theorem k225_48 : lkc 48 (kcode 225) = some (.invokevirtual 354) := by decide +kernel
theorem k225_51 : lkc 51 (kcode 225) = some (.ifCond .ne 5) := by decide +kernel
theorem k225_54 : lkc 54 (kcode 225) = some (.iconst 0) := by decide +kernel
theorem k225_55 : lkc 55 (kcode 225) = some (.ireturn) := by decide +kernel
theorem k225_56 : lkc 56 (kcode 225) = some (.iconst 1) := by decide +kernel
theorem k225_57 : lkc 57 (kcode 225) = some (.istore 4) := by decide +kernel
theorem k225_59 : lkc 59 (kcode 225) = some (.iconst 0) := by decide +kernel
theorem k225_60 : lkc 60 (kcode 225) = some (.istore 5) := by decide +kernel
theorem k225_62 : lkc 62 (kcode 225) = some (.iconst 1) := by decide +kernel
theorem k225_63 : lkc 63 (kcode 225) = some (.aload_n 0) := by decide +kernel
theorem k225_64 : lkc 64 (kcode 225) = some (.getfield 52) := by decide +kernel
theorem k225_67 : lkc 67 (kcode 225) = some (.iload_n 3) := by decide +kernel
theorem k225_68 : lkc 68 (kcode 225) = some (.iaload) := by decide +kernel
theorem k225_69 : lkc 69 (kcode 225) = some (.ishl) := by decide +kernel
theorem k225_70 : lkc 70 (kcode 225) = some (.istore 6) := by decide +kernel
theorem k225_72 : lkc 72 (kcode 225) = some (.iconst 1) := by decide +kernel
theorem k225_73 : lkc 73 (kcode 225) = some (.istore 7) := by decide +kernel
theorem k225_75 : lkc 75 (kcode 225) = some (.iload 4) := by decide +kernel
theorem k225_77 : lkc 77 (kcode 225) = some (.aload_n 0) := by decide +kernel
theorem k225_78 : lkc 78 (kcode 225) = some (.getfield 55) := by decide +kernel
theorem k225_81 : lkc 81 (kcode 225) = some (.iload_n 1) := by decide +kernel
theorem k225_82 : lkc 82 (kcode 225) = some (.iaload) := by decide +kernel
theorem k225_83 : lkc 83 (kcode 225) = some (.if_icmp .ge 94) := by decide +kernel
theorem k225_86 : lkc 86 (kcode 225) = some (.iload 7) := by decide +kernel
theorem k225_88 : lkc 88 (kcode 225) = some (.ifCond .eq 89) := by decide +kernel
theorem k225_91 : lkc 91 (kcode 225) = some (.aload_n 0) := by decide +kernel
theorem k225_92 : lkc 92 (kcode 225) = some (.getfield 52) := by decide +kernel
theorem k225_95 : lkc 95 (kcode 225) = some (.iload_n 3) := by decide +kernel
theorem k225_96 : lkc 96 (kcode 225) = some (.iload 4) := by decide +kernel
theorem k225_98 : lkc 98 (kcode 225) = some (.iadd) := by decide +kernel
theorem k225_99 : lkc 99 (kcode 225) = some (.iaload) := by decide +kernel
theorem k225_100 : lkc 100 (kcode 225) = some (.istore 8) := by decide +kernel
theorem k225_102 : lkc 102 (kcode 225) = some (.aload_n 0) := by decide +kernel
theorem k225_103 : lkc 103 (kcode 225) = some (.iload 8) := by decide +kernel
theorem k225_105 : lkc 105 (kcode 225) = some (.invokevirtual 354) := by decide +kernel
theorem k225_108 : lkc 108 (kcode 225) = some (.ifCond .eq 23) := by decide +kernel
theorem k225_111 : lkc 111 (kcode 225) = some (.aload_n 0) := by decide +kernel
theorem k225_112 : lkc 112 (kcode 225) = some (.aload_n 0) := by decide +kernel
theorem k225_113 : lkc 113 (kcode 225) = some (.getfield 52) := by decide +kernel
theorem k225_116 : lkc 116 (kcode 225) = some (.iload_n 3) := by decide +kernel
theorem k225_117 : lkc 117 (kcode 225) = some (.iload 4) := by decide +kernel
theorem k225_119 : lkc 119 (kcode 225) = some (.iadd) := by decide +kernel
theorem k225_120 : lkc 120 (kcode 225) = some (.iconst 1) := by decide +kernel
theorem k225_121 : lkc 121 (kcode 225) = some (.isub) := by decide +kernel
theorem k225_122 : lkc 122 (kcode 225) = some (.iaload) := by decide +kernel
theorem k225_123 : lkc 123 (kcode 225) = some (.iload 8) := by decide +kernel
theorem k225_125 : lkc 125 (kcode 225) = some (.invokevirtual 397) := by decide +kernel
theorem k225_128 : lkc 128 (kcode 225) = some (.goto 4) := by decide +kernel
theorem k225_131 : lkc 131 (kcode 225) = some (.iconst (-1)) := by decide +kernel
theorem k225_132 : lkc 132 (kcode 225) = some (.istore 9) := by decide +kernel
theorem k225_134 : lkc 134 (kcode 225) = some (.iload 9) := by decide +kernel
theorem k225_136 : lkc 136 (kcode 225) = some (.iconst (-1)) := by decide +kernel
theorem k225_137 : lkc 137 (kcode 225) = some (.if_icmp .eq 7) := by decide +kernel
theorem k225_140 : lkc 140 (kcode 225) = some (.iconst 1) := by decide +kernel
theorem k225_141 : lkc 141 (kcode 225) = some (.goto 4) := by decide +kernel
theorem k225_144 : lkc 144 (kcode 225) = some (.iconst 0) := by decide +kernel
theorem k225_145 : lkc 145 (kcode 225) = some (.istore 7) := by decide +kernel
theorem k225_147 : lkc 147 (kcode 225) = some (.iload 7) := by decide +kernel
theorem k225_149 : lkc 149 (kcode 225) = some (.ifCond .ne 6) := by decide +kernel
theorem k225_152 : lkc 152 (kcode 225) = some (.goto (-77)) := by decide +kernel
theorem k225_155 : lkc 155 (kcode 225) = some (.iload 5) := by decide +kernel
theorem k225_157 : lkc 157 (kcode 225) = some (.iload 9) := by decide +kernel
theorem k225_159 : lkc 159 (kcode 225) = some (.iadd) := by decide +kernel
theorem k225_160 : lkc 160 (kcode 225) = some (.istore 5) := by decide +kernel
theorem k225_162 : lkc 162 (kcode 225) = some (.iload 6) := by decide +kernel
theorem k225_164 : lkc 164 (kcode 225) = some (.iconst 1) := by decide +kernel
theorem k225_165 : lkc 165 (kcode 225) = some (.iload 8) := by decide +kernel
theorem k225_167 : lkc 167 (kcode 225) = some (.ishl) := by decide +kernel
theorem k225_168 : lkc 168 (kcode 225) = some (.ior) := by decide +kernel
theorem k225_169 : lkc 169 (kcode 225) = some (.istore 6) := by decide +kernel
theorem k225_171 : lkc 171 (kcode 225) = some (.iinc 4 1) := by decide +kernel
theorem k225_174 : lkc 174 (kcode 225) = some (.goto (-99)) := by decide +kernel
theorem k225_177 : lkc 177 (kcode 225) = some (.iload_n 2) := by decide +kernel
theorem k225_178 : lkc 178 (kcode 225) = some (.ifCond .ne 15) := by decide +kernel
theorem k225_181 : lkc 181 (kcode 225) = some (.iload 7) := by decide +kernel
theorem k225_183 : lkc 183 (kcode 225) = some (.ifCond .eq 7) := by decide +kernel
theorem k225_186 : lkc 186 (kcode 225) = some (.iconst (-1)) := by decide +kernel
theorem k225_187 : lkc 187 (kcode 225) = some (.goto 5) := by decide +kernel
theorem k225_190 : lkc 190 (kcode 225) = some (.iload 4) := by decide +kernel
theorem k225_192 : lkc 192 (kcode 225) = some (.ireturn) := by decide +kernel
theorem k225_193 : lkc 193 (kcode 225) = some (.iload_n 2) := by decide +kernel
theorem k225_194 : lkc 194 (kcode 225) = some (.iconst 1) := by decide +kernel
theorem k225_195 : lkc 195 (kcode 225) = some (.if_icmp .ne 8) := by decide +kernel
theorem k225_198 : lkc 198 (kcode 225) = some (.iload 5) := by decide +kernel
theorem k225_200 : lkc 200 (kcode 225) = some (.goto 17) := by decide +kernel
theorem k225_203 : lkc 203 (kcode 225) = some (.iload 6) := by decide +kernel
theorem k225_205 : lkc 205 (kcode 225) = some (.aload_n 0) := by decide +kernel
theorem k225_206 : lkc 206 (kcode 225) = some (.aload_n 0) := by decide +kernel
theorem k225_207 : lkc 207 (kcode 225) = some (.getfield 58) := by decide +kernel
theorem k225_210 : lkc 210 (kcode 225) = some (.bipush 24) := by decide +kernel
theorem k225_212 : lkc 212 (kcode 225) = some (.iaload) := by decide +kernel
theorem k225_213 : lkc 213 (kcode 225) = some (.invokevirtual 319) := by decide +kernel
theorem k225_216 : lkc 216 (kcode 225) = some (.iand) := by decide +kernel
theorem k225_217 : lkc 217 (kcode 225) = some (.ireturn) := by decide +kernel
/-! forward: check, both sides -/
def ckN9 (v : Int32) : Nat := v.toInt.toNat
theorem ckN9_n {c : Nat} (h : c < 2147483648) : ckN9 (nI c) = c := by
  unfold ckN9
  rw [nI_toInt h]
  rfl
/-- the i-th corner of a walk can be come to from the one ahead -/
def ckO (C : Nat) (T : Mt) (st : Nat → Int32) (i : Nat) : Prop := (∃ c, c < C ∧ st i = nI c) ∧ (i = 0 ∨ T (ckN9 (st (i - 1))) (ckN9 (st i)) ≠ 0)
def ckS (T : Mt) (st : Nat → Int32) : Nat → Nat
  | 0 => 0
  | i + 1 => ckS T st i + (if i = 0 then 0 else T (ckN9 (st (i - 1))) (ckN9 (st i)))
def ckBt (st : Nat → Int32) : Nat → Nat
  | 0 => 0
  | i + 1 => ckBt st i ||| 2 ^ ckN9 (st i)
theorem ckS_le {T : Mt} {st : Nat → Int32} (h : mle 40 T) : ∀ i, ckS T st i ≤ 40 * i
  | 0 => Nat.le_refl _
  | i + 1 => by
    have ih := ckS_le (st := st) h i
    have := h (ckN9 (st (i - 1))) (ckN9 (st i))
    show ckS T st i + (if i = 0 then 0 else T (ckN9 (st (i - 1))) (ckN9 (st i))) ≤ 40 * (i + 1)
    split <;> omega
/-- the walk goes up to its j-th corner -/
def ckE (C : Nat) (T : Mt) (st : Nat → Int32) (n j : Nat) : Prop := j ≤ n ∧ (∀ i, i < j → ckO C T st i) ∧ (j = n ∨ ¬ ckO C T st j)
theorem ckE_1 {C : Nat} {T : Mt} {st : Nat → Int32} {n j k : Nat} (h : ckE C T st n j) (g : ckE C T st n k) : j = k := by
  obtain ⟨h1, h2, h3⟩ := h
  obtain ⟨g1, g2, g3⟩ := g
  rcases Nat.lt_trichotomy j k with c | c | c
  · rcases h3 with z | z
    · omega
    · exact absurd (g2 j c) z
  · exact c
  · rcases g3 with z | z
    · omega
    · exact absurd (h2 k c) z
def ckR (T : Mt) (st : Nat → Int32) (n ch q j : Nat) : Int32 := if q = 0 then (if j = n then -1 else nI j) else if q = 1 then nI (ckS T st j) else nI (ckBt st j &&& ch)
def ckV (C K : Nat) (T : Mt) (st : Nat → Nat → Int32) (len : Nat → Int32) (ch : Nat) (z y v : Int32) : Prop := (0 < C ∧ ∃ k q n j, k < K ∧ q < 3 ∧ z = nI k ∧ y = nI q ∧ n ≤ 16 ∧ len k = nI n ∧ ckE C T (st k) n j ∧ v = ckR T (st k) n ch q j) ∨ (¬ (0 < C ∧ (∃ k, k < K ∧ z = nI k) ∧ ∃ q, q < 3 ∧ y = nI q) ∧ v = -1000000)
theorem ckV_1 {C K : Nat} {T : Mt} {st : Nat → Nat → Int32} {len : Nat → Int32} {ch : Nat} {z y v u : Int32} (hK : K ≤ 4) (h : ckV C K T st len ch z y v) (g : ckV C K T st len ch z y u) : v = u := by
  rcases h with ⟨c0, k, q, n, j, h1, h2, h3, h4, h5, h6, h7, h8⟩ | ⟨h1, h2⟩
  · rcases g with ⟨-, k', q', n', j', g1, g2, g3, g4, g5, g6, g7, g8⟩ | ⟨g1, g2⟩
    · have ek : k = k' := (nI_inj (by omega) (by omega)).mp (h3.symm.trans g3)
      have eq : q = q' := (nI_inj (by omega) (by omega)).mp (h4.symm.trans g4)
      subst ek eq
      have en : n = n' := (nI_inj (by omega) (by omega)).mp (h6.symm.trans g6)
      subst en
      have ej := ckE_1 h7 g7
      subst ej
      exact h8.trans g8.symm
    · exact absurd ⟨c0, ⟨k, h1, h3⟩, q, h2, h4⟩ g1
  · rcases g with ⟨c0, k, q, n, j, g1, g2, g3, g4, -⟩ | ⟨g1, g2⟩
    · exact absurd ⟨c0, ⟨k, g1, g3⟩, q, g2, g4⟩ h1
    · exact h2.trans g2.symm
/-- walks alike as far as they go answer alike -/
theorem ckO_g {C : Nat} {T : Mt} {s t : Nat → Int32} {n : Nat} (h : ∀ i, i < n → s i = t i) {i : Nat} (hi : i < n) : ckO C T s i ↔ ckO C T t i := by
  unfold ckO
  rw [h i hi]
  by_cases e : i = 0
  · rw [e]
    exact ⟨fun q => ⟨q.1, Or.inl rfl⟩, fun q => ⟨q.1, Or.inl rfl⟩⟩
  · rw [h (i - 1) (by omega)]
theorem ckS_g {T : Mt} {s t : Nat → Int32} {n : Nat} (h : ∀ i, i < n → s i = t i) : ∀ j, j ≤ n → ckS T s j = ckS T t j
  | 0, _ => rfl
  | j + 1, hj => by
    show ckS T s j + (if j = 0 then 0 else T (ckN9 (s (j - 1))) (ckN9 (s j))) = ckS T t j + (if j = 0 then 0 else T (ckN9 (t (j - 1))) (ckN9 (t j)))
    rw [ckS_g h j (by omega), h j (by omega)]
    by_cases e : j = 0
    · rw [if_pos e, if_pos e]
    · rw [h (j - 1) (by omega)]
theorem ckBt_g {s t : Nat → Int32} {n : Nat} (h : ∀ i, i < n → s i = t i) : ∀ j, j ≤ n → ckBt s j = ckBt t j
  | 0, _ => rfl
  | j + 1, hj => by
    show ckBt s j ||| 2 ^ ckN9 (s j) = ckBt t j ||| 2 ^ ckN9 (t j)
    rw [ckBt_g h j (by omega), h j (by omega)]
theorem ckV_g {C K : Nat} {T : Mt} {s t : Nat → Nat → Int32} {l1 l2 : Nat → Int32} {ch : Nat} {z y v : Int32} (h : ∀ k, k < K → l1 k = l2 k ∧ ∀ n, n ≤ 16 → l1 k = nI n → ∀ i, i < n → s k i = t k i) (g : ckV C K T s l1 ch z y v) : ckV C K T t l2 ch z y v := by
  rcases g with ⟨c0, k, q, n, j, h1, h2, h3, h4, h5, h6, ⟨e1, e2, e3⟩, h8⟩ | g
  · obtain ⟨a1, a2⟩ := h k h1
    have a3 := a2 n h5 h6
    refine Or.inl ⟨c0, k, q, n, j, h1, h2, h3, h4, h5, by rw [← a1]; exact h6, ⟨e1, fun i hi => (ckO_g a3 (by omega)).mp (e2 i hi), ?_⟩, ?_⟩
    · rcases Nat.lt_or_ge j n with c | c
      · rcases e3 with z | z
        · exact Or.inl z
        · exact Or.inr (fun w => z ((ckO_g a3 c).mpr w))
      · exact Or.inl (by omega)
    · rw [h8]
      unfold ckR
      rw [ckS_g a3 j e1, ckBt_g a3 j e1]
  · exact Or.inr g
set_option maxHeartbeats 4000000 in
theorem c_check {m : xM} {C S w K : Nat} {A B Y : Nat → Nat} {z y : Int32} (hI : gI tS tR m) (hT : xT m C S A B Y) (hw : m.1 89 0 = nI w) (hw2 : w < 65536) (hK : m.1 55 4 = nI K) (hK4 : K ≤ 4) (hn : ∀ k, k < K → ∃ n, n ≤ 16 ∧ m.1 61 k = nI n) : fC 129 [.ref 0, .int z, .int y] m (fun rv m' => ∃ v, rv = some (.int v) ∧ ckV C K (wsX A B Y w S).1 (fun k i => m.1 (57 + k) i) (m.1 61) (chp A B S w C) z y v) := by
  refine fC_of (by decide) (fun d n P H => ?_)
  have hr : rS m := hI.2
  have hC8 : C ≤ 8 := hT.2.2.1
  have hSt := xT_st hT
  have neg : ∀ n, ¬ (0 < C ∧ (∃ k, k < K ∧ z = nI k) ∧ ∃ q, q < 3 ∧ y = nI q) → xF 129 (xw d) P n 31 [(0, .ref 0), (1, .int z), (2, .int y)] [] m → ∃ rv m', P rv m' ∧ ∃ v, rv = some (.int v) ∧ ckV C K (wsX A B Y w S).1 (fun k i => m.1 (57 + k) i) (m.1 61) (chp A B S w C) z y v := by
    intro n hn H
    replace H := f_ldc_i H k129_31 (v := -1000000) (by decide +kernel)
    replace H := f_iret H k129_33
    exact ⟨_, _, H, _, rfl, Or.inr ⟨hn, rfl⟩⟩
  replace H := f_aload_n H k129_0 rfl
  obtain ⟨rv, m3, ⟨ho, e3⟩, h9_1⟩ := f_inv H k129_1 (by decide +kernel) (as := []) (b := 0) (r := []) (by rfl) (c_hasTown hr hT.1 (by omega))
  replace H := h9_1
  rw [← e3] at H
  clear e3
  rcases ho with ⟨c0, rfl⟩ | ⟨c0, rfl⟩
  · replace H := f_if_eq_f H k129_4 (by decide)
    replace H := f_iload_n H k129_7 rfl
    have Hbr := f_if_lt H k129_8 (t := 31) (by decide)
    clear H
    rcases Hbr with ⟨a1, H⟩ | ⟨a1, H⟩
    · rw [Int32.lt_iff_toInt_lt, show (0 : Int32).toInt = 0 by decide] at a1
      exact neg _ (fun ⟨_, ⟨k, hk, e⟩, _⟩ => by rw [e, nI_toInt (by omega)] at a1; omega) H
    · rw [Int32.lt_iff_toInt_lt, show (0 : Int32).toInt = 0 by decide] at a1
      replace H := f_iload_n H k129_11 rfl
      replace H := f_aload_n H k129_12 rfl
      replace H := f_gr H k129_13 (ci := 11) (f := 5) (x := 55) (by decide +kernel) (by decide) (hr 0 5 55 rfl)
      replace H := f_gi H k129_16 (ci := 9) (f := 4) (by decide +kernel) (by decide)
      rw [hK] at H
      have Hbr := f_icmp_ge H k129_19 (t := 31) (by decide)
      clear H
      rcases Hbr with ⟨a2, H⟩ | ⟨a2, H⟩
      · rw [Int32.le_iff_toInt_le, nI_toInt (by omega)] at a2
        exact neg _ (fun ⟨_, ⟨k, hk, e⟩, _⟩ => by rw [e, nI_toInt (by omega)] at a2; omega) H
      · rw [Int32.le_iff_toInt_le, nI_toInt (by omega)] at a2
        obtain ⟨k, hk4, rfl⟩ := i_rng (x := z) (L := 4) (by omega) (by omega) (by decide)
        rw [nI_toInt (by omega)] at a1 a2
        have hk : k < K := by omega
        replace H := f_iload_n H k129_22 rfl
        have Hbr := f_if_lt H k129_23 (t := 31) (by decide)
        clear H
        rcases Hbr with ⟨a3, H⟩ | ⟨a3, H⟩
        · rw [Int32.lt_iff_toInt_lt, show (0 : Int32).toInt = 0 by decide] at a3
          exact neg _ (fun ⟨_, _, q, hq, e⟩ => by rw [e, nI_toInt (by omega)] at a3; omega) H
        · rw [Int32.lt_iff_toInt_lt, show (0 : Int32).toInt = 0 by decide] at a3
          replace H := f_iload_n H k129_26 rfl
          replace H := f_iconst H k129_27 (v := 2) (by decide)
          have Hbr := f_icmp_le H k129_28 (t := 34) (by decide)
          clear H
          rcases Hbr with ⟨a4, H⟩ | ⟨a4, H⟩
          · rw [Int32.le_iff_toInt_le, show (2 : Int32).toInt = 2 by decide] at a4
            obtain ⟨q, hq, rfl⟩ := i_rng (x := y) (L := 2) (by omega) (by omega) (by decide)
            obtain ⟨n9, hn9, en⟩ := hn k hk
            replace H := f_aload_n H k129_34 rfl
            replace H := f_gr H k129_35 (ci := 11) (f := 7) (x := 83) (by decide +kernel) (by decide) (hr 0 7 83 rfl)
            replace H := f_aload_n H k129_38 rfl
            replace H := f_gr H k129_39 (ci := 11) (f := 9) (x := 89) (by decide +kernel) (by decide) (hr 0 9 89 rfl)
            obtain ⟨rv, m5, ⟨⟨rfl, f1, h3, hX⟩, hI5, -⟩, h9_42⟩ := f_inv H k129_42 (by decide +kernel) (as := [.ref 89]) (b := 83) (r := []) (by rfl) (fC_two (c_lookAt hr hT hw hw2) (fC_vC q171 hI jTok ⟨aR_a 83, aR_a 89, trivial⟩ gF_nil))
            replace H := h9_42
            have hr : rS m5 := hI5.2
            have K5 : ∀ a i, a < 63 ∨ 84 ≤ a → m5.1 a i = m.1 a i := fun a i q => f1 a i (by omega) (by omega) (by omega)
            have hc5 : m5.1 3 0 = nI C := by rw [K5 3 0 (by omega)]; exact hT.1
            have hl5 : m5.1 61 k = nI n9 := by rw [K5 61 k (by omega)]; exact en
            have hle : mle 40 (wsX A B Y w S).1 := fun a b => wsX_40 hSt
            have hch : chp A B S w C < 256 := Nat.lt_of_lt_of_le (chp_lt C) (p2_8 hC8)
            obtain ⟨T, hTT⟩ : ∃ T, T = (wsX A B Y w S).1 := ⟨_, rfl⟩
            rw [← hTT] at hX hle
            obtain ⟨st, hst⟩ : ∃ st, st = fun i => m.1 (57 + k) i := ⟨_, rfl⟩
            obtain ⟨-, -, y1, y2⟩ := rw_l4 ⟨k, by omega⟩
            replace y1 : lay (57 + k) = (0, 0, 16) := y1
            replace y2 : tR 56 k = some (57 + k) := y2
            obtain ⟨R, hR⟩ : ∃ R, R = 57 + k := ⟨_, rfl⟩
            have hs5 : ∀ i, m5.1 R i = st i := fun i => by rw [hst, hR]; exact K5 _ i (by omega)
            rw [← hR] at y1 y2
            have ex : ∀ n j v7 v8 v9, ckE C T st n9 j → xF 129 (xw d) P n 164 [(4, .int (nI j)), (5, .int (nI (ckS T st j))), (6, .int (nI (ckBt st j))), (7, .int v7), (8, .int v8), (9, .int v9), (3, .int (nI n9)), (0, .ref 0), (1, .int (nI k)), (2, .int (nI q))] [] m5 → ∃ rv m', P rv m' ∧ ∃ v, rv = some (.int v) ∧ ckV C K (wsX A B Y w S).1 (fun k i => m.1 (57 + k) i) (m.1 61) (chp A B S w C) (nI k) (nI q) v := by
              intro n j v7 v8 v9 hE H
              have hj := hE.1
              have hsl := ckS_le (st := st) hle j
              have wrap : ∀ v, v = ckR T st n9 (chp A B S w C) q j → ckV C K (wsX A B Y w S).1 (fun k i => m.1 (57 + k) i) (m.1 61) (chp A B S w C) (nI k) (nI q) v := fun v e => Or.inl ⟨c0, k, q, n9, j, hk, by omega, rfl, rfl, hn9, en, by rw [← hTT]; rw [hst] at hE; exact hE, by rw [e, hTT, hst]⟩
              replace H := f_iload_n H k129_164 rfl
              by_cases q0 : q = 0
              · subst q0
                replace H := f_if_ne_f H k129_165 rfl
                replace H := f_iload H k129_168 rfl
                replace H := f_iload_n H k129_170 rfl
                have Hbr := f_icmp_ne H k129_171 (t := 178) (by decide)
                clear H
                rcases Hbr with ⟨b1, H⟩ | ⟨b1, H⟩
                · rw [nI_inj (by omega) (by omega)] at b1
                  replace H := f_iload H k129_178 rfl
                  replace H := f_iret H k129_180
                  exact ⟨_, _, H, _, rfl, wrap _ (by unfold ckR; rw [if_pos rfl, if_neg b1])⟩
                · rw [nI_inj (by omega) (by omega)] at b1
                  replace H := f_iconst H k129_174 (v := -1) (by decide)
                  replace H := f_goto H k129_175 (t := 180) (by decide)
                  replace H := f_iret H k129_180
                  exact ⟨_, _, H, _, rfl, wrap _ (by unfold ckR; rw [if_pos rfl, if_pos b1])⟩
              · replace H := f_if_ne_t H k129_165 (by rw [show (0 : Int32) = nI 0 from rfl, nI_inj (by omega) (by omega)]; exact q0) (t := 181) (by decide)
                replace H := f_iload_n H k129_181 rfl
                replace H := f_iconst H k129_182 (v := 1) (by decide)
                rw [show (1 : Int32) = nI 1 from rfl] at H
                have Hbr := f_icmp_ne H k129_183 (t := 191) (by decide)
                clear H
                rcases Hbr with ⟨b2, H⟩ | ⟨b2, H⟩
                · rw [nI_inj (by omega) (by omega)] at b2
                  replace H := f_iload H k129_191 rfl
                  replace H := f_aload_n H k129_193 rfl
                  replace H := f_gr H k129_194 (ci := 11) (f := 7) (x := 83) (by decide +kernel) (by decide) (hr 0 7 83 rfl)
                  replace H := f_gi H k129_197 (ci := 1) (f := 3) (by decide +kernel) (by decide)
                  replace H := f_iand H k129_200
                  rw [h3, fa_and] at H
                  replace H := f_iret H k129_201
                  exact ⟨_, _, H, _, rfl, wrap _ (by unfold ckR; rw [if_neg q0, if_neg b2])⟩
                · rw [nI_inj (by omega) (by omega)] at b2
                  replace H := f_iload H k129_186 rfl
                  replace H := f_goto H k129_188 (t := 201) (by decide)
                  replace H := f_iret H k129_201
                  exact ⟨_, _, H, _, rfl, wrap _ (by unfold ckR; rw [if_neg q0, if_pos b2])⟩
            replace H := f_aload_n H k129_45 rfl
            replace H := f_gr H k129_46 (ci := 11) (f := 5) (x := 55) (by decide +kernel) (by decide) (hr 0 5 55 rfl)
            replace H := f_gr H k129_49 (ci := 9) (f := 1) (x := 61) (by decide +kernel) (by decide) (hr 55 1 61 rfl)
            replace H := f_iload_n H k129_52 rfl
            have Hob := f_iald H k129_53 (c := 4) (by decide)
            clear H
            obtain ⟨hb53, H⟩ := Hob
            rw [nI_clamp (by omega), hl5] at H
            replace H := f_istore_n H k129_54 (l2 := [(3, .int (nI n9)), (0, .ref 0), (1, .int (nI k)), (2, .int (nI q))]) rfl
            replace H := f_iconst H k129_55 (v := 0) (by decide)
            replace H := f_istore H k129_56 (l2 := [(4, .int 0), (3, .int (nI n9)), (0, .ref 0), (1, .int (nI k)), (2, .int (nI q))]) rfl
            replace H := f_iconst H k129_58 (v := 0) (by decide)
            replace H := f_istore H k129_59 (l2 := [(5, .int 0), (4, .int 0), (3, .int (nI n9)), (0, .ref 0), (1, .int (nI k)), (2, .int (nI q))]) rfl
            replace H := f_iconst H k129_61 (v := 0) (by decide)
            replace H := f_istore H k129_62 (l2 := [(6, .int 0), (5, .int 0), (4, .int 0), (3, .int (nI n9)), (0, .ref 0), (1, .int (nI k)), (2, .int (nI q))]) rfl
            replace H := f_iconst H k129_64 (v := 0) (by decide)
            replace H := f_istore H k129_65 (l2 := [(7, .int 0), (6, .int 0), (5, .int 0), (4, .int 0), (3, .int (nI n9)), (0, .ref 0), (1, .int (nI k)), (2, .int (nI q))]) rfl
            replace H := f_ext H (l' := [(7, .int (nI 0)), (6, .int (nI (ckBt st 0))), (5, .int (nI (ckS T st 0))), (4, .int (nI 0)), (8, .int 0), (9, .int 0), (3, .int (nI n9)), (0, .ref 0), (1, .int (nI k)), (2, .int (nI q))]) (lE_cons rfl (lE_cons rfl (lE_cons rfl (lE_cons rfl (lE_cons rfl (lE_cons rfl (lE_cons rfl (lE_cons rfl (lE_nil))))))))) rfl rfl
            have lp : ∀ n i v8 v9, i ≤ n9 → (∀ e, e < i → ckO C T st e) → xF 129 (xw d) P n 67 [(7, .int (nI i)), (6, .int (nI (ckBt st i))), (5, .int (nI (ckS T st i))), (4, .int (nI i)), (8, .int v8), (9, .int v9), (3, .int (nI n9)), (0, .ref 0), (1, .int (nI k)), (2, .int (nI q))] [] m5 → ∃ rv m', P rv m' ∧ ∃ v, rv = some (.int v) ∧ ckV C K (wsX A B Y w S).1 (fun k i => m.1 (57 + k) i) (m.1 61) (chp A B S w C) (nI k) (nI q) v := by
              intro n
              induction n with
              | zero => exact fun i v8 v9 _ _ H => (xF_0 H).elim
              | succ n ih =>
                intro i v8 v9 hi hok H
                have hsl := ckS_le (st := st) hle i
                replace H := f1_iload H k129_67 rfl
                replace H := f_iload_n H k129_69 rfl
                have Hbr := f_icmp_ge H k129_70 (t := 164) (by decide)
                clear H
                rcases Hbr with ⟨c1, H⟩ | ⟨c1, H⟩
                · rw [nxle (by omega) (by omega)] at c1
                  replace H := f_ext H (l' := [(4, .int (nI i)), (5, .int (nI (ckS T st i))), (6, .int (nI (ckBt st i))), (7, .int (nI i)), (8, .int v8), (9, .int v9), (3, .int (nI n9)), (0, .ref 0), (1, .int (nI k)), (2, .int (nI q))]) (lE_cons rfl (lE_cons rfl (lE_cons rfl (lE_cons rfl (lE_cons rfl (lE_cons rfl (lE_cons rfl (lE_cons rfl (lE_cons rfl (lE_cons rfl (lE_nil))))))))))) rfl rfl
                  exact ex _ i _ _ _ ⟨hi, hok, Or.inl (by omega)⟩ H
                · rw [nxle (by omega) (by omega)] at c1
                  have hi9 : i < n9 := by omega
                  obtain ⟨u, hu⟩ : ∃ u, u = st i := ⟨_, rfl⟩
                  have fin : ∀ s9 v9, ((i = 0 ∧ s9 = 0) ∨ (i ≠ 0 ∧ ∀ c, c < C → u = nI c → s9 = stp (T (ckN9 (st (i - 1))) c))) → xF 129 (xw d) P n 119 [(8, .int u), (7, .int (nI i)), (6, .int (nI (ckBt st i))), (5, .int (nI (ckS T st i))), (4, .int (nI i)), (9, .int v9), (3, .int (nI n9)), (0, .ref 0), (1, .int (nI k)), (2, .int (nI q))] [.int s9] m5 → ∃ rv m', P rv m' ∧ ∃ v, rv = some (.int v) ∧ ckV C K (wsX A B Y w S).1 (fun k i => m.1 (57 + k) i) (m.1 61) (chp A B S w C) (nI k) (nI q) v := by
                    intro s9 v9 hs9 H
                    replace H := f_istore H k129_119 (l2 := [(9, .int s9), (8, .int u), (7, .int (nI i)), (6, .int (nI (ckBt st i))), (5, .int (nI (ckS T st i))), (4, .int (nI i)), (3, .int (nI n9)), (0, .ref 0), (1, .int (nI k)), (2, .int (nI q))]) rfl
                    replace H := f_aload_n H k129_121 rfl
                    replace H := f_iload H k129_122 rfl
                    obtain ⟨rv, m6, ⟨ho, e3⟩, h9_124⟩ := f_inv H k129_124 (by decide +kernel) (as := [.int _]) (b := 0) (r := []) (by rfl) (c_isCornerN hr hc5 (by omega))
                    replace H := h9_124
                    rw [← e3] at H
                    clear e3
                    rcases ho with ⟨c, hc, huc, rfl⟩ | ⟨h0, rfl⟩
                    · have hcu : ckN9 u = c := by rw [huc, ckN9_n (by omega)]
                      have hs : s9 = if i = 0 then 0 else stp (T (ckN9 (st (i - 1))) c) := by
                        rcases hs9 with ⟨e, e2⟩ | ⟨e, e2⟩
                        · rw [if_pos e]; exact e2
                        · rw [if_neg e]; exact e2 c hc huc
                      have hT40 := hle (ckN9 (st (i - 1))) c
                      replace H := f_if_eq_f H k129_127 (by decide)
                      replace H := f_iload H k129_130 rfl
                      replace H := f_iconst H k129_132 (v := -1) (by decide)
                      by_cases hbad : i ≠ 0 ∧ T (ckN9 (st (i - 1))) c = 0
                      · replace H := f_icmp_ne_f H k129_133 (by rw [hs, if_neg hbad.1, hbad.2]; exact stp_0)
                        replace H := f_goto H k129_136 (t := 164) (by decide)
                        replace H := f_ext H (l' := [(4, .int (nI i)), (5, .int (nI (ckS T st i))), (6, .int (nI (ckBt st i))), (7, .int (nI i)), (8, .int u), (9, .int s9), (3, .int (nI n9)), (0, .ref 0), (1, .int (nI k)), (2, .int (nI q))]) (lE_cons rfl (lE_cons rfl (lE_cons rfl (lE_cons rfl (lE_cons rfl (lE_cons rfl (lE_cons rfl (lE_cons rfl (lE_cons rfl (lE_cons rfl (lE_nil))))))))))) rfl rfl
                        refine ex _ i _ _ _ ⟨hi, hok, Or.inr (fun w9 => ?_)⟩ H
                        rcases w9.2 with w9 | w9
                        · exact hbad.1 w9
                        · rw [← hu, hcu] at w9
                          exact w9 hbad.2
                      · obtain ⟨dv, hdv⟩ : ∃ dv, dv = if i = 0 then 0 else T (ckN9 (st (i - 1))) c := ⟨_, rfl⟩
                        have s9n : s9 = nI dv := by
                          rw [hs, hdv]
                          by_cases e : i = 0
                          · rw [if_pos e, if_pos e]; rfl
                          · rw [if_neg e, if_neg e, stp_p (fun z => hbad ⟨e, z⟩)]
                        have s9l : dv ≤ 40 := by
                          rw [hdv]
                          split <;> omega
                        have hok2 : ckO C T st i := ⟨⟨c, hc, by rw [← hu]; exact huc⟩, by
                          by_cases e : i = 0
                          · exact Or.inl e
                          · exact Or.inr (by rw [← hu, hcu]; exact fun z => hbad ⟨e, z⟩)⟩
                        have eS : ckS T st (i + 1) = ckS T st i + dv := by
                          show ckS T st i + (if i = 0 then 0 else T (ckN9 (st (i - 1))) (ckN9 (st i))) = _
                          rw [hdv, ← hu, hcu]
                        have eB : ckBt st (i + 1) = ckBt st i ||| 2 ^ c := by
                          show ckBt st i ||| 2 ^ ckN9 (st i) = _
                          rw [← hu, hcu]
                        replace H := f_icmp_ne_t H k129_133 (by rw [s9n]; exact nI_ne1 (by omega)) (t := 139) (by decide)
                        replace H := f_iload H k129_139 rfl
                        replace H := f_iload H k129_141 rfl
                        replace H := f_iadd H k129_143
                        rw [s9n, r_ad, ← eS] at H
                        replace H := f_istore H k129_144 (l2 := [(5, .int (nI (ckS T st (i + 1)))), (9, .int (nI dv)), (8, .int u), (7, .int (nI i)), (6, .int (nI (ckBt st i))), (4, .int (nI i)), (3, .int (nI n9)), (0, .ref 0), (1, .int (nI k)), (2, .int (nI q))]) rfl
                        replace H := f_iload H k129_146 rfl
                        replace H := f_iconst H k129_148 (v := 1) (by decide)
                        replace H := f_iload H k129_149 rfl
                        replace H := f_ishl H k129_151
                        replace H := f_ior H k129_152
                        rw [huc, shl_n (by omega), fa_or, ← eB, ← huc] at H
                        replace H := f_istore H k129_153 (l2 := [(6, .int (nI (ckBt st (i + 1)))), (5, .int (nI (ckS T st (i + 1)))), (9, .int (nI dv)), (8, .int u), (7, .int (nI i)), (4, .int (nI i)), (3, .int (nI n9)), (0, .ref 0), (1, .int (nI k)), (2, .int (nI q))]) rfl
                        replace H := f_iinc H k129_155 rfl (l2 := [(4, .int (nI i + 1)), (6, .int (nI (ckBt st (i + 1)))), (5, .int (nI (ckS T st (i + 1)))), (9, .int (nI dv)), (8, .int u), (7, .int (nI i)), (3, .int (nI n9)), (0, .ref 0), (1, .int (nI k)), (2, .int (nI q))]) rfl
                        replace H := f_iinc H k129_158 rfl (l2 := [(7, .int (nI i + 1)), (4, .int (nI i + 1)), (6, .int (nI (ckBt st (i + 1)))), (5, .int (nI (ckS T st (i + 1)))), (9, .int (nI dv)), (8, .int u), (3, .int (nI n9)), (0, .ref 0), (1, .int (nI k)), (2, .int (nI q))]) rfl
                        replace H := f_goto H k129_161 (t := 67) (by decide)
                        rw [nI_s] at H
                        replace H := f_ext H (l' := [(7, .int (nI (i + 1))), (6, .int (nI (ckBt st (i + 1)))), (5, .int (nI (ckS T st (i + 1)))), (4, .int (nI (i + 1))), (8, .int u), (9, .int (nI dv)), (3, .int (nI n9)), (0, .ref 0), (1, .int (nI k)), (2, .int (nI q))]) (lE_cons rfl (lE_cons rfl (lE_cons rfl (lE_cons rfl (lE_cons rfl (lE_cons rfl (lE_cons rfl (lE_cons rfl (lE_cons rfl (lE_cons rfl (lE_nil))))))))))) rfl rfl
                        exact ih (i + 1) _ _ (by omega) (fun e he => by
                          by_cases z : e = i
                          · rw [z]; exact hok2
                          · exact hok e (by omega)) H
                    · replace H := f_if_eq_t H k129_127 rfl (t := 164) (by decide)
                      replace H := f_ext H (l' := [(4, .int (nI i)), (5, .int (nI (ckS T st i))), (6, .int (nI (ckBt st i))), (7, .int (nI i)), (8, .int u), (9, .int s9), (3, .int (nI n9)), (0, .ref 0), (1, .int (nI k)), (2, .int (nI q))]) (lE_cons rfl (lE_cons rfl (lE_cons rfl (lE_cons rfl (lE_cons rfl (lE_cons rfl (lE_cons rfl (lE_cons rfl (lE_cons rfl (lE_cons rfl (lE_nil))))))))))) rfl rfl
                      refine ex _ i _ _ _ ⟨hi, hok, Or.inr (fun w9 => ?_)⟩ H
                      obtain ⟨⟨c, hc, e⟩, -⟩ := w9
                      exact h0 c hc (by rw [hu]; exact e)
                  replace H := f_aload_n H k129_73 rfl
                  replace H := f_gr H k129_74 (ci := 11) (f := 5) (x := 55) (by decide +kernel) (by decide) (hr 0 5 55 rfl)
                  replace H := f_gr H k129_77 (ci := 9) (f := 0) (x := 56) (by decide +kernel) (by decide) (hr 55 0 56 rfl)
                  replace H := f_iload_n H k129_80 rfl
                  have Hob := f_aald H k129_81 (x := 6) (c := 4) (v := .ref R) (by decide) ((by rw [nI_clamp (by omega), hr 56 k R y2]; rfl))
                  clear H
                  obtain ⟨hb81, H⟩ := Hob
                  replace H := f_iload H k129_82 rfl
                  have Hob := f_iald H k129_84 (c := 16) y1
                  clear H
                  obtain ⟨hb84, H⟩ := Hob
                  rw [nI_clamp (by omega), hs5, ← hu] at H
                  replace H := f_istore H k129_85 (l2 := [(8, .int u), (7, .int (nI i)), (6, .int (nI (ckBt st i))), (5, .int (nI (ckS T st i))), (4, .int (nI i)), (9, .int v9), (3, .int (nI n9)), (0, .ref 0), (1, .int (nI k)), (2, .int (nI q))]) rfl
                  replace H := f_iload H k129_87 rfl
                  by_cases i0 : i = 0
                  · replace H := f_if_ne_f H k129_89 (by rw [i0]; rfl)
                    replace H := f_iconst H k129_92 (v := 0) (by decide)
                    replace H := f_goto H k129_93 (t := 119) (by decide)
                    exact fin 0 _ (Or.inl ⟨i0, rfl⟩) H
                  · replace H := f_if_ne_t H k129_89 (by rw [show (0 : Int32) = nI 0 from rfl, nI_inj (by omega) (by omega)]; exact i0) (t := 96) (by decide)
                    replace H := f_aload_n H k129_96 rfl
                    replace H := f_gr H k129_97 (ci := 11) (f := 6) (x := 63) (by decide +kernel) (by decide) (hr 0 6 63 rfl)
                    replace H := f_aload_n H k129_100 rfl
                    replace H := f_gr H k129_101 (ci := 11) (f := 5) (x := 55) (by decide +kernel) (by decide) (hr 0 5 55 rfl)
                    replace H := f_gr H k129_104 (ci := 9) (f := 0) (x := 56) (by decide +kernel) (by decide) (hr 55 0 56 rfl)
                    replace H := f_iload_n H k129_107 rfl
                    have Hob := f_aald H k129_108 (x := 6) (c := 4) (v := .ref R) (by decide) ((by rw [nI_clamp (by omega), hr 56 k R y2]; rfl))
                    clear H
                    obtain ⟨hb108, H⟩ := Hob
                    replace H := f_iload H k129_109 rfl
                    replace H := f_iconst H k129_111 (v := 1) (by decide)
                    replace H := f_isub H k129_112
                    have Hob := f_iald H k129_113 (c := 16) y1
                    clear H
                    obtain ⟨hb113, H⟩ := Hob
                    replace H := f_iload H k129_114 rfl
                    rw [show (1 : Int32) = nI 1 from rfl, nI_sub (by omega) (by omega), nI_clamp (by omega), hs5] at H
                    obtain ⟨⟨p, hp, hps⟩, -⟩ := hok (i - 1) (by omega)
                    have hcp : ckN9 (st (i - 1)) = p := by rw [hps, ckN9_n (by omega)]
                    rw [hps] at H
                    obtain ⟨rv, m6, ⟨ho, e3⟩, h9_116⟩ := f_inv H k129_116 (by decide +kernel) (as := [.int _, .int _]) (b := 63) (r := []) (by rfl) (c_stepYards hr hC8 hX hp)
                    replace H := h9_116
                    rw [← e3] at H
                    clear e3
                    rcases ho with ⟨b, hb, hub, rfl⟩ | ⟨h0, rfl⟩
                    · exact fin _ _ (Or.inr ⟨i0, fun c hc huc => by
                        have e : b = c := (nI_inj (by omega) (by omega)).mp (hub.symm.trans huc)
                        rw [hcp, e]⟩) H
                    · exact fin _ _ (Or.inr ⟨i0, fun c hc huc => absurd huc (h0 c hc)⟩) H
            exact lp _ 0 _ _ (Nat.zero_le _) (fun e he => absurd he (Nat.not_lt_zero _)) H
          · rw [Int32.le_iff_toInt_le, show (2 : Int32).toInt = 2 by decide] at a4
            exact neg _ (fun ⟨_, _, q, hq, e⟩ => by rw [e, nI_toInt (by omega)] at a4; omega) H
  · replace H := f_if_eq_t H k129_4 rfl (t := 31) (by decide)
    exact neg _ (fun ⟨q, _⟩ => by omega) H
set_option maxHeartbeats 4000000 in
theorem c_mcheck {m : xM} {C S w K : Nat} {A B Y : Nat → Nat} {z y : Int32} (hr : rS m) (hT : mT m C S A B Y) (hCS : C = 0 ↔ S = 0) (hw : m.1 326 24 = nI w) (hw2 : w < 65536) (hK : m.1 314 30 = nI K) (hK4 : K ≤ 4) (hn : ∀ k, k < K → ∃ n, 1 ≤ n ∧ n ≤ 16 ∧ m.1 325 k = nI n) : fC 225 [.ref 314, .int z, .int y] m (fun rv m' => ∃ v, rv = some (.int v) ∧ ckV C K (wsX A B Y w S).1 (fun k i => m.1 324 (16 * k + i)) (m.1 325) (chp A B S w C) z y v) := by
  refine fC_of (by decide) (fun d n P H => ?_)
  have c24 : (24 : Int32).toNatClampNeg = 24 := by decide
  have e324 : ∀ i, (mI m 314 0 0).1 324 i = m.1 324 i := fun i => mI_ne (by omega)
  have e325 : ∀ i, (mI m 314 0 0).1 325 i = m.1 325 i := fun i => mI_ne (by omega)
  replace H := f_aload_n H k225_0 rfl
  replace H := f_iconst H k225_1 (v := 0) (by decide)
  replace H := f_put_i H k225_2 (ci := 12) (f := 0) (by decide +kernel) (by decide)
  have hr : rS (mI m 314 0 0) := hr
  have hT : mT (mI m 314 0 0) C S A B Y := mT_f hT (fun i => ⟨⟨mI_ne (by omega), mI_ne (by omega)⟩, mI_ne (by omega)⟩)
  have hw : (mI m 314 0 0).1 326 24 = nI w := by rw [mI_ne (by omega)]; exact hw
  have hK : (mI m 314 0 0).1 314 30 = nI K := by rw [mI_ne (by omega)]; exact hK
  generalize hm1 : mI m 314 0 0 = m1 at *
  have hC8 : C ≤ 8 := hT.2.2.1
  have hS12 : S ≤ 12 := hT.2.2.2.1
  have hSt := mT_st hT
  have neg : ∀ n, ¬ (0 < C ∧ (∃ k, k < K ∧ z = nI k) ∧ ∃ q, q < 3 ∧ y = nI q) → xF 225 (xw d) P n 32 [(0, .ref 314), (1, .int z), (2, .int y)] [] m1 → ∃ rv m', P rv m' ∧ ∃ v, rv = some (.int v) ∧ ckV C K (wsX A B Y w S).1 (fun k i => m.1 324 (16 * k + i)) (m.1 325) (chp A B S w C) z y v := by
    intro n hn H
    replace H := f_ldc_w H k225_32 (v := -1000000) (by decide +kernel)
    replace H := f_iret H k225_35
    exact ⟨_, _, H, _, rfl, Or.inr ⟨hn, rfl⟩⟩
  replace H := f_aload_n H k225_5 rfl
  replace H := f_iload_n H k225_6 rfl
  obtain ⟨rv, m2, ⟨ho, e3⟩, h9_7⟩ := f_inv H k225_7 (by decide +kernel) (as := [.int _]) (b := 314) (r := []) (by rfl) (c_isWalk hK)
  replace H := h9_7
  rw [← e3] at H
  clear e3
  rcases ho with ⟨⟨z0, z1⟩, rfl⟩ | ⟨z0, rfl⟩
  case inr =>
    replace H := f_if_eq_t H k225_10 rfl (t := 32) (by decide)
    exact neg _ (fun ⟨_, ⟨k, hk, e⟩, _⟩ => z0 (by
      rw [e]
      refine ⟨fun q => ?_, (nxlt (by omega) (by omega)).mpr hk⟩
      rw [Int32.lt_iff_toInt_lt, nI_toInt (by omega), show (0 : Int32).toInt = 0 by decide] at q
      omega)) H
  replace H := f_if_eq_f H k225_10 (by decide)
  obtain ⟨k, hk, rfl⟩ := z_nI (by omega) z0 z1
  replace H := f_aload_n H k225_13 rfl
  replace H := f_gi H k225_14 (ci := 12) (f := 26) (by decide +kernel) (by decide)
  rw [hT.2.1] at H
  have Hbr := f_if_eq H k225_17 (t := 32) (by decide)
  clear H
  rcases Hbr with ⟨a1, H⟩ | ⟨a1, H⟩
  · rw [show (0 : Int32) = nI 0 from rfl, nI_inj (by omega) (by omega)] at a1
    exact neg _ (fun ⟨q, _⟩ => by have := hCS.mpr a1; omega) H
  · rw [show (0 : Int32) = nI 0 from rfl, nI_inj (by omega) (by omega)] at a1
    have c0 : 0 < C := by
      rcases Nat.eq_zero_or_pos C with q | q
      · exact absurd (hCS.mp q) a1
      · exact q
    replace H := f_iload_n H k225_20 rfl
    replace H := f_i2l H k225_21
    replace H := f_lconst H k225_22 (v := 0) (by decide)
    replace H := f_ldc2 H k225_23 (v := 2) (by decide +kernel)
    obtain ⟨rv, m3, ⟨ho, e3⟩, h9_26⟩ := f_ins H k225_26 (by decide +kernel) (as := [.long _, .long _, .long _]) (r := []) (by rfl) (c_isInK (v := y) (l := 0) (mo := 2) (by decide) (by decide))
    replace H := h9_26
    rw [← e3] at H
    clear e3
    rcases ho with ⟨o1, o2, rfl⟩ | ⟨o1, rfl⟩
    case inr =>
      replace H := f_if_ne_f H k225_29 rfl
      rw [Int32.lt_iff_toInt_lt, Int32.lt_iff_toInt_lt, show (0 : Int32).toInt = 0 by decide, show (2 : Int32).toInt = 2 by decide] at o1
      exact neg _ (fun ⟨_, _, q, hq, e⟩ => by rw [e, nI_toInt (by omega)] at o1; omega) H
    rw [Int32.le_iff_toInt_le] at o1 o2
    rw [show (0 : Int32).toInt = 0 by decide] at o1
    rw [show (2 : Int32).toInt = 2 by decide] at o2
    obtain ⟨q, hq, rfl⟩ := i_rng (x := y) (L := 2) (by omega) (by omega) (by decide)
    obtain ⟨n9, hn1, hn9, en⟩ := hn k hk
    have hle : mle 40 (wsX A B Y w S).1 := fun a b => wsX_40 hSt
    have hch : chp A B S w C < 256 := Nat.lt_of_lt_of_le (chp_lt C) (p2_8 hC8)
    have hbt : ∀ a b, btN A B Y w a b S = (wsX A B Y w S).1 a b := fun a b => btN_X hSt S (Nat.le_refl _)
    obtain ⟨T, hTT⟩ : ∃ T, T = (wsX A B Y w S).1 := ⟨_, rfl⟩
    rw [← hTT] at hle hbt
    obtain ⟨st, hst⟩ : ∃ st, st = fun i => m.1 324 (16 * k + i) := ⟨_, rfl⟩
    have hs1 : ∀ i, m1.1 324 (16 * k + i) = st i := fun i => by rw [hst]; exact e324 _
    have hl1 : m1.1 325 k = nI n9 := by rw [e325]; exact en
    have wrap : ∀ j v, ckE C T st n9 j → v = ckR T st n9 (chp A B S w C) q j → ckV C K (wsX A B Y w S).1 (fun k i => m.1 324 (16 * k + i)) (m.1 325) (chp A B S w C) (nI k) (nI q) v := fun j v hE e => Or.inl ⟨c0, k, q, n9, j, hk, by omega, rfl, rfl, hn9, en, by rw [← hTT]; rw [hst] at hE; exact hE, by rw [e, hTT, hst]⟩
    replace H := f_if_ne_t H k225_29 (by decide) (t := 36) (by decide)
    replace H := f_bipush H k225_36 (v := 16) (by decide)
    replace H := f_iload_n H k225_38 rfl
    replace H := f_imul H k225_39
    rw [show (16 : Int32) = nI 16 from rfl, nI_mul] at H
    replace H := f_istore_n H k225_40 (l2 := [(3, .int (nI (16 * k))), (0, .ref 314), (1, .int (nI k)), (2, .int (nI q))]) rfl
    replace H := f_aload_n H k225_41 rfl
    replace H := f_aload_n H k225_42 rfl
    replace H := f_gr H k225_43 (ci := 12) (f := 23) (x := 324) (by decide +kernel) (by decide) (hr 314 23 324 rfl)
    replace H := f_iload_n H k225_46 rfl
    have Hob := f_iald H k225_47 (c := 80) (by decide)
    clear H
    obtain ⟨hb47, H⟩ := Hob
    have hs10 := hs1 0
    rw [Nat.add_zero] at hs10
    rw [nI_clamp (by omega), hs10] at H
    obtain ⟨rv, m4, ⟨ho, e3⟩, h9_48⟩ := f_inv H k225_48 (by decide +kernel) (as := [.int _]) (b := 314) (r := []) (by rfl) (c_misCornerN hr hT.1 (by omega))
    replace H := h9_48
    rw [← e3] at H
    clear e3
    rcases ho with ⟨f, hf, hsf, rfl⟩ | ⟨h0, rfl⟩
    case inr =>
      replace H := f_if_ne_f H k225_51 rfl
      replace H := f_iconst H k225_54 (v := 0) (by decide)
      replace H := f_iret H k225_55
      refine ⟨_, _, H, _, rfl, wrap 0 _ ⟨Nat.zero_le _, fun i hi => absurd hi (Nat.not_lt_zero _), Or.inr (fun w9 => ?_)⟩ ?_⟩
      · obtain ⟨⟨c, hc, e⟩, -⟩ := w9
        exact h0 c hc e
      · unfold ckR
        by_cases q0 : q = 0
        · rw [if_pos q0, if_neg (by omega)]; rfl
        · rw [if_neg q0]
          by_cases q1 : q = 1
          · rw [if_pos q1]; rfl
          · rw [if_neg q1]
            show (0 : Int32) = nI (0 &&& chp A B S w C)
            rw [Nat.zero_and]
            rfl
    have hcf : ckN9 (st 0) = f := by rw [hsf, ckN9_n (by omega)]
    have lp : ∀ n i mv v8 v9, 1 ≤ i → (∀ e, e < i → ckO C T st e) → ((mv = 1 ∧ i ≤ n9) ∨ (mv = 0 ∧ i < n9 ∧ ¬ ckO C T st i)) → xF 225 (xw d) P n 75 [(7, .int mv), (6, .int (nI (ckBt st i))), (5, .int (nI (ckS T st i))), (4, .int (nI i)), (8, .int v8), (9, .int v9), (3, .int (nI (16 * k))), (0, .ref 314), (1, .int (nI k)), (2, .int (nI q))] [] m1 → ∃ rv m', P rv m' ∧ ∃ v, rv = some (.int v) ∧ ckV C K (wsX A B Y w S).1 (fun k i => m.1 324 (16 * k + i)) (m.1 325) (chp A B S w C) (nI k) (nI q) v := by
      intro n
      induction n with
      | zero => exact fun i mv v8 v9 _ _ _ H => (xF_0 H).elim
      | succ n ih =>
        intro i mv v8 v9 hi1 hok hmv H
        have hin : i ≤ n9 := by rcases hmv with ⟨-, a⟩ | ⟨-, a, -⟩ <;> omega
        have hsl := ckS_le (st := st) hle i
        have ex : ∀ v8 v9, ckE C T st n9 i → ((mv = 1 ∧ i = n9) ∨ (mv = 0 ∧ i ≠ n9)) → xF 225 (xw d) P n 177 [(7, .int mv), (6, .int (nI (ckBt st i))), (5, .int (nI (ckS T st i))), (4, .int (nI i)), (8, .int v8), (9, .int v9), (3, .int (nI (16 * k))), (0, .ref 314), (1, .int (nI k)), (2, .int (nI q))] [] m1 → ∃ rv m', P rv m' ∧ ∃ v, rv = some (.int v) ∧ ckV C K (wsX A B Y w S).1 (fun k i => m.1 324 (16 * k + i)) (m.1 325) (chp A B S w C) (nI k) (nI q) v := by
          intro v8 v9 hE hme H
          replace H := f_iload_n H k225_177 rfl
          by_cases q0 : q = 0
          · replace H := f_if_ne_f H k225_178 (by rw [q0]; rfl)
            replace H := f_iload H k225_181 rfl
            rcases hme with ⟨rfl, e⟩ | ⟨rfl, e⟩
            · replace H := f_if_eq_f H k225_183 (by decide)
              replace H := f_iconst H k225_186 (v := -1) (by decide)
              replace H := f_goto H k225_187 (t := 192) (by decide)
              replace H := f_iret H k225_192
              exact ⟨_, _, H, _, rfl, wrap i _ hE (by unfold ckR; rw [if_pos q0, if_pos e])⟩
            · replace H := f_if_eq_t H k225_183 rfl (t := 190) (by decide)
              replace H := f_iload H k225_190 rfl
              replace H := f_iret H k225_192
              exact ⟨_, _, H, _, rfl, wrap i _ hE (by unfold ckR; rw [if_pos q0, if_neg e])⟩
          · replace H := f_if_ne_t H k225_178 (by rw [show (0 : Int32) = nI 0 from rfl, nI_inj (by omega) (by omega)]; exact q0) (t := 193) (by decide)
            replace H := f_iload_n H k225_193 rfl
            replace H := f_iconst H k225_194 (v := 1) (by decide)
            rw [show (1 : Int32) = nI 1 from rfl] at H
            have Hbr := f_icmp_ne H k225_195 (t := 203) (by decide)
            clear H
            rcases Hbr with ⟨b2, H⟩ | ⟨b2, H⟩
            · rw [nI_inj (by omega) (by omega)] at b2
              replace H := f_iload H k225_203 rfl
              replace H := f_aload_n H k225_205 rfl
              replace H := f_aload_n H k225_206 rfl
              replace H := f_gr H k225_207 (ci := 12) (f := 32) (x := 326) (by decide +kernel) (by decide) (hr 314 32 326 rfl)
              replace H := f_bipush H k225_210 (v := 24) (by decide)
              have Hob := f_iald H k225_212 (c := 208) (by decide)
              clear H
              obtain ⟨hb212, H⟩ := Hob
              rw [c24, hw] at H
              obtain ⟨rv, m7, ⟨rfl, e3⟩, h9_213⟩ := f_inv H k225_213 (by decide +kernel) (as := [.int _]) (b := 314) (r := [.int _]) (by rfl) (c_mchapels hr hT hw2)
              replace H := h9_213
              rw [← e3] at H
              clear e3
              replace H := f_iand H k225_216
              rw [fa_and] at H
              replace H := f_iret H k225_217
              exact ⟨_, _, H, _, rfl, wrap i _ hE (by unfold ckR; rw [if_neg q0, if_neg b2])⟩
            · rw [nI_inj (by omega) (by omega)] at b2
              replace H := f_iload H k225_198 rfl
              replace H := f_goto H k225_200 (t := 217) (by decide)
              replace H := f_iret H k225_217
              exact ⟨_, _, H, _, rfl, wrap i _ hE (by unfold ckR; rw [if_neg q0, if_pos b2])⟩
        replace H := f1_iload H k225_75 rfl
        replace H := f_aload_n H k225_77 rfl
        replace H := f_gr H k225_78 (ci := 12) (f := 24) (x := 325) (by decide +kernel) (by decide) (hr 314 24 325 rfl)
        replace H := f_iload_n H k225_81 rfl
        have Hob := f_iald H k225_82 (c := 5) (by decide)
        clear H
        obtain ⟨hb82, H⟩ := Hob
        rw [nI_clamp (by omega), hl1] at H
        have Hbr := f_icmp_ge H k225_83 (t := 177) (by decide)
        clear H
        rcases Hbr with ⟨c1, H⟩ | ⟨c1, H⟩
        · rw [nxle (by omega) (by omega)] at c1
          exact ex _ _ ⟨hin, hok, Or.inl (by omega)⟩ (by rcases hmv with ⟨a, -⟩ | ⟨-, a, -⟩; exact Or.inl ⟨a, by omega⟩; omega) H
        · rw [nxle (by omega) (by omega)] at c1
          replace H := f_iload H k225_86 rfl
          rcases hmv with ⟨rfl, hi9⟩ | ⟨rfl, hi9, hno⟩
          case inr =>
            replace H := f_if_eq_t H k225_88 rfl (t := 177) (by decide)
            exact ex _ _ ⟨hin, hok, Or.inr hno⟩ (Or.inr ⟨rfl, by omega⟩) H
          replace H := f_if_eq_f H k225_88 (by decide)
          obtain ⟨u, hu⟩ : ∃ u, u = st i := ⟨_, rfl⟩
          replace H := f_aload_n H k225_91 rfl
          replace H := f_gr H k225_92 (ci := 12) (f := 23) (x := 324) (by decide +kernel) (by decide) (hr 314 23 324 rfl)
          replace H := f_iload_n H k225_95 rfl
          replace H := f_iload H k225_96 rfl
          replace H := f_iadd H k225_98
          have Hob := f_iald H k225_99 (c := 80) (by decide)
          clear H
          obtain ⟨hb99, H⟩ := Hob
          rw [r_ad, nI_clamp (by omega), hs1, ← hu] at H
          replace H := f_istore H k225_100 (l2 := [(8, .int u), (7, .int 1), (6, .int (nI (ckBt st i))), (5, .int (nI (ckS T st i))), (4, .int (nI i)), (9, .int v9), (3, .int (nI (16 * k))), (0, .ref 314), (1, .int (nI k)), (2, .int (nI q))]) rfl
          replace H := f_aload_n H k225_102 rfl
          replace H := f_iload H k225_103 rfl
          have bad : ∀ v9, ¬ ckO C T st i → xF 225 (xw d) P n 132 [(8, .int u), (7, .int 1), (6, .int (nI (ckBt st i))), (5, .int (nI (ckS T st i))), (4, .int (nI i)), (9, .int v9), (3, .int (nI (16 * k))), (0, .ref 314), (1, .int (nI k)), (2, .int (nI q))] [.int (-1)] m1 → ∃ rv m', P rv m' ∧ ∃ v, rv = some (.int v) ∧ ckV C K (wsX A B Y w S).1 (fun k i => m.1 324 (16 * k + i)) (m.1 325) (chp A B S w C) (nI k) (nI q) v := by
            intro v9 hno H
            replace H := f_istore H k225_132 (l2 := [(9, .int (-1)), (8, .int u), (7, .int 1), (6, .int (nI (ckBt st i))), (5, .int (nI (ckS T st i))), (4, .int (nI i)), (3, .int (nI (16 * k))), (0, .ref 314), (1, .int (nI k)), (2, .int (nI q))]) rfl
            replace H := f_iload H k225_134 rfl
            replace H := f_iconst H k225_136 (v := -1) (by decide)
            replace H := f_icmp_eq_t H k225_137 rfl (t := 144) (by decide)
            replace H := f_iconst H k225_144 (v := 0) (by decide)
            replace H := f_istore H k225_145 (l2 := [(7, .int 0), (9, .int (-1)), (8, .int u), (6, .int (nI (ckBt st i))), (5, .int (nI (ckS T st i))), (4, .int (nI i)), (3, .int (nI (16 * k))), (0, .ref 314), (1, .int (nI k)), (2, .int (nI q))]) rfl
            replace H := f_iload H k225_147 rfl
            replace H := f_if_ne_f H k225_149 rfl
            replace H := f_goto H k225_152 (t := 75) (by decide)
            replace H := f_ext H (l' := [(7, .int 0), (6, .int (nI (ckBt st i))), (5, .int (nI (ckS T st i))), (4, .int (nI i)), (8, .int u), (9, .int (-1)), (3, .int (nI (16 * k))), (0, .ref 314), (1, .int (nI k)), (2, .int (nI q))]) (lE_cons rfl (lE_cons rfl (lE_cons rfl (lE_cons rfl (lE_cons rfl (lE_cons rfl (lE_cons rfl (lE_cons rfl (lE_cons rfl (lE_cons rfl (lE_nil))))))))))) rfl rfl
            exact ih i 0 _ _ hi1 hok (Or.inr ⟨rfl, by omega, hno⟩) H
          obtain ⟨rv, m6, ⟨ho, e3⟩, h9_105⟩ := f_inv H k225_105 (by decide +kernel) (as := [.int _]) (b := 314) (r := []) (by rfl) (c_misCornerN hr hT.1 (by omega))
          replace H := h9_105
          rw [← e3] at H
          clear e3
          rcases ho with ⟨c, hc, huc, rfl⟩ | ⟨h0, rfl⟩
          case inr =>
            replace H := f_if_eq_t H k225_108 rfl (t := 131) (by decide)
            replace H := f_iconst H k225_131 (v := -1) (by decide)
            exact bad _ (fun w9 => by obtain ⟨⟨c, hc, e⟩, -⟩ := w9; exact h0 c hc (by rw [hu]; exact e)) H
          have hcu : ckN9 u = c := by rw [huc, ckN9_n (by omega)]
          obtain ⟨⟨p, hp, hps⟩, -⟩ := hok (i - 1) (by omega)
          have hcp : ckN9 (st (i - 1)) = p := by rw [hps, ckN9_n (by omega)]
          have hT40 := hle p c
          replace H := f_if_eq_f H k225_108 (by decide)
          replace H := f_aload_n H k225_111 rfl
          replace H := f_aload_n H k225_112 rfl
          replace H := f_gr H k225_113 (ci := 12) (f := 23) (x := 324) (by decide +kernel) (by decide) (hr 314 23 324 rfl)
          replace H := f_iload_n H k225_116 rfl
          replace H := f_iload H k225_117 rfl
          replace H := f_iadd H k225_119
          replace H := f_iconst H k225_120 (v := 1) (by decide)
          replace H := f_isub H k225_121
          have Hob := f_iald H k225_122 (c := 80) (by decide)
          clear H
          obtain ⟨hb122, H⟩ := Hob
          replace H := f_iload H k225_123 rfl
          rw [r_ad, show (1 : Int32) = nI 1 from rfl, nI_sub (by omega) (by omega), nI_clamp (by omega), show 16 * k + i - 1 = 16 * k + (i - 1) by omega, hs1, hps, huc] at H
          obtain ⟨rv, m6, ⟨rfl, e3⟩, h9_125⟩ := f_inv H k225_125 (by decide +kernel) (as := [.int _, .int _]) (b := 314) (r := []) (by rfl) (c_between hr hT hw hw2 hp hc)
          replace H := h9_125
          rw [← e3, hbt, ← huc] at H
          clear e3
          by_cases hbad : T p c = 0
          · rw [hbad] at H
            replace H := f_goto H k225_128 (t := 132) (by decide)
            exact bad _ (fun w9 => by
              rcases w9.2 with w9 | w9
              · omega
              · rw [← hu, hcu, hcp] at w9
                exact w9 hbad) H
          · have hok2 : ckO C T st i := ⟨⟨c, hc, by rw [← hu]; exact huc⟩, Or.inr (by rw [← hu, hcu, hcp]; exact hbad)⟩
            have eS : ckS T st (i + 1) = ckS T st i + T p c := by
              show ckS T st i + (if i = 0 then 0 else T (ckN9 (st (i - 1))) (ckN9 (st i))) = _
              rw [if_neg (by omega), ← hu, hcu, hcp]
            have eB : ckBt st (i + 1) = ckBt st i ||| 2 ^ c := by
              show ckBt st i ||| 2 ^ ckN9 (st i) = _
              rw [← hu, hcu]
            rw [stp_p hbad] at H
            replace H := f_goto H k225_128 (t := 132) (by decide)
            replace H := f_istore H k225_132 (l2 := [(9, .int (nI (T p c))), (8, .int u), (7, .int 1), (6, .int (nI (ckBt st i))), (5, .int (nI (ckS T st i))), (4, .int (nI i)), (3, .int (nI (16 * k))), (0, .ref 314), (1, .int (nI k)), (2, .int (nI q))]) rfl
            replace H := f_iload H k225_134 rfl
            replace H := f_iconst H k225_136 (v := -1) (by decide)
            replace H := f_icmp_eq_f H k225_137 (nI_ne1 (by omega))
            replace H := f_iconst H k225_140 (v := 1) (by decide)
            replace H := f_goto H k225_141 (t := 145) (by decide)
            replace H := f_istore H k225_145 (l2 := [(7, .int 1), (9, .int (nI (T p c))), (8, .int u), (6, .int (nI (ckBt st i))), (5, .int (nI (ckS T st i))), (4, .int (nI i)), (3, .int (nI (16 * k))), (0, .ref 314), (1, .int (nI k)), (2, .int (nI q))]) rfl
            replace H := f_iload H k225_147 rfl
            replace H := f_if_ne_t H k225_149 (by decide) (t := 155) (by decide)
            replace H := f_iload H k225_155 rfl
            replace H := f_iload H k225_157 rfl
            replace H := f_iadd H k225_159
            rw [r_ad, ← eS] at H
            replace H := f_istore H k225_160 (l2 := [(5, .int (nI (ckS T st (i + 1)))), (7, .int 1), (9, .int (nI (T p c))), (8, .int u), (6, .int (nI (ckBt st i))), (4, .int (nI i)), (3, .int (nI (16 * k))), (0, .ref 314), (1, .int (nI k)), (2, .int (nI q))]) rfl
            replace H := f_iload H k225_162 rfl
            replace H := f_iconst H k225_164 (v := 1) (by decide)
            replace H := f_iload H k225_165 rfl
            replace H := f_ishl H k225_167
            replace H := f_ior H k225_168
            rw [huc, shl_n (by omega), fa_or, ← eB, ← huc] at H
            replace H := f_istore H k225_169 (l2 := [(6, .int (nI (ckBt st (i + 1)))), (5, .int (nI (ckS T st (i + 1)))), (7, .int 1), (9, .int (nI (T p c))), (8, .int u), (4, .int (nI i)), (3, .int (nI (16 * k))), (0, .ref 314), (1, .int (nI k)), (2, .int (nI q))]) rfl
            replace H := f_iinc H k225_171 rfl (l2 := [(4, .int (nI i + 1)), (6, .int (nI (ckBt st (i + 1)))), (5, .int (nI (ckS T st (i + 1)))), (7, .int 1), (9, .int (nI (T p c))), (8, .int u), (3, .int (nI (16 * k))), (0, .ref 314), (1, .int (nI k)), (2, .int (nI q))]) rfl
            replace H := f_goto H k225_174 (t := 75) (by decide)
            rw [nI_s] at H
            replace H := f_ext H (l' := [(7, .int 1), (6, .int (nI (ckBt st (i + 1)))), (5, .int (nI (ckS T st (i + 1)))), (4, .int (nI (i + 1))), (8, .int u), (9, .int (nI (T p c))), (3, .int (nI (16 * k))), (0, .ref 314), (1, .int (nI k)), (2, .int (nI q))]) (lE_cons rfl (lE_cons rfl (lE_cons rfl (lE_cons rfl (lE_cons rfl (lE_cons rfl (lE_cons rfl (lE_cons rfl (lE_cons rfl (lE_cons rfl (lE_nil))))))))))) rfl rfl
            exact ih (i + 1) 1 _ _ (by omega) (fun e he => by
              by_cases z : e = i
              · rw [z]; exact hok2
              · exact hok e (by omega)) (Or.inl ⟨rfl, by omega⟩) H
    replace H := f_if_ne_t H k225_51 (by decide) (t := 56) (by decide)
    replace H := f_iconst H k225_56 (v := 1) (by decide)
    replace H := f_istore H k225_57 (l2 := [(4, .int 1), (3, .int (nI (16 * k))), (0, .ref 314), (1, .int (nI k)), (2, .int (nI q))]) rfl
    replace H := f_iconst H k225_59 (v := 0) (by decide)
    replace H := f_istore H k225_60 (l2 := [(5, .int 0), (4, .int 1), (3, .int (nI (16 * k))), (0, .ref 314), (1, .int (nI k)), (2, .int (nI q))]) rfl
    replace H := f_iconst H k225_62 (v := 1) (by decide)
    replace H := f_aload_n H k225_63 rfl
    replace H := f_gr H k225_64 (ci := 12) (f := 23) (x := 324) (by decide +kernel) (by decide) (hr 314 23 324 rfl)
    replace H := f_iload_n H k225_67 rfl
    have Hob := f_iald H k225_68 (c := 80) (by decide)
    clear H
    obtain ⟨hb68, H⟩ := Hob
    replace H := f_ishl H k225_69
    rw [nI_clamp (by omega), hs10, hsf, shl_n (by omega)] at H
    have eB1 : ckBt st 1 = 2 ^ f := by
      show 0 ||| 2 ^ ckN9 (st 0) = _
      rw [hcf, Nat.zero_or]
    replace H := f_istore H k225_70 (l2 := [(6, .int (nI (2 ^ f))), (5, .int 0), (4, .int 1), (3, .int (nI (16 * k))), (0, .ref 314), (1, .int (nI k)), (2, .int (nI q))]) rfl
    replace H := f_iconst H k225_72 (v := 1) (by decide)
    replace H := f_istore H k225_73 (l2 := [(7, .int 1), (6, .int (nI (2 ^ f))), (5, .int 0), (4, .int 1), (3, .int (nI (16 * k))), (0, .ref 314), (1, .int (nI k)), (2, .int (nI q))]) rfl
    replace H := f_ext H (l' := [(7, .int 1), (6, .int (nI (2 ^ f))), (5, .int (nI (ckS T st 1))), (4, .int (nI 1)), (8, .int 0), (9, .int 0), (3, .int (nI (16 * k))), (0, .ref 314), (1, .int (nI k)), (2, .int (nI q))]) (lE_cons rfl (lE_cons rfl (lE_cons rfl (lE_cons rfl (lE_cons rfl (lE_cons rfl (lE_cons rfl (lE_cons rfl (lE_nil))))))))) rfl rfl
    rw [← eB1] at H
    exact lp _ 1 1 _ _ (Nat.le_refl _) (fun e he => by
      have e0 : e = 0 := by omega
      rw [e0]
      exact ⟨⟨f, hf, hsf⟩, Or.inl rfl⟩) (Or.inl ⟨rfl, hn1⟩) H
