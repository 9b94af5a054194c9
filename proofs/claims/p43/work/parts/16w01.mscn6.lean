theorem k204_0 : lkc 0 (kcode 204) = some (.aload_n 0) := by decide +kernel
theorem k204_1 : lkc 1 (kcode 204) = some (.aload_n 1) := by decide +kernel
theorem k204_2 : lkc 2 (kcode 204) = some (.bipush 24) := by decide +kernel
theorem k204_4 : lkc 4 (kcode 204) = some (.iaload) := by decide +kernel
theorem k204_5 : lkc 5 (kcode 204) = some (.invokevirtual 341) := by decide +kernel
theorem k204_8 : lkc 8 (kcode 204) = some (.iconst 0) := by decide +kernel
theorem k204_9 : lkc 9 (kcode 204) = some (.istore_n 2) := by decide +kernel
theorem k204_10 : lkc 10 (kcode 204) = some (.aload_n 0) := by decide +kernel
theorem k204_11 : lkc 11 (kcode 204) = some (.iconst 0) := by decide +kernel
theorem k204_12 : lkc 12 (kcode 204) = some (.putfield 344) := by decide +kernel
theorem k204_15 : lkc 15 (kcode 204) = some (.aload_n 0) := by decide +kernel
theorem k204_16 : lkc 16 (kcode 204) = some (.iconst 0) := by decide +kernel
theorem k204_17 : lkc 17 (kcode 204) = some (.putfield 347) := by decide +kernel
theorem k204_20 : lkc 20 (kcode 204) = some (.iconst 0) := by decide +kernel
theorem k204_21 : lkc 21 (kcode 204) = some (.istore_n 3) := by decide +kernel
theorem k204_22 : lkc 22 (kcode 204) = some (.iload_n 3) := by decide +kernel
theorem k204_23 : lkc 23 (kcode 204) = some (.aload_n 0) := by decide +kernel
theorem k204_24 : lkc 24 (kcode 204) = some (.getfield 286) := by decide +kernel
theorem k204_27 : lkc 27 (kcode 204) = some (.if_icmp .ge 120) := by decide +kernel
theorem k204_30 : lkc 30 (kcode 204) = some (.aload_n 0) := by decide +kernel
theorem k204_31 : lkc 31 (kcode 204) = some (.aload_n 1) := by decide +kernel
theorem k204_32 : lkc 32 (kcode 204) = some (.iload_n 3) := by decide +kernel
theorem k204_33 : lkc 33 (kcode 204) = some (.invokevirtual 350) := by decide +kernel
theorem k204_36 : lkc 36 (kcode 204) = some (.istore 4) := by decide +kernel
theorem k204_38 : lkc 38 (kcode 204) = some (.iload 4) := by decide +kernel
theorem k204_40 : lkc 40 (kcode 204) = some (.iconst (-1)) := by decide +kernel
theorem k204_41 : lkc 41 (kcode 204) = some (.if_icmp .ne 44) := by decide +kernel
theorem k204_44 : lkc 44 (kcode 204) = some (.aload_n 0) := by decide +kernel
theorem k204_45 : lkc 45 (kcode 204) = some (.dup) := by decide +kernel
theorem k204_46 : lkc 46 (kcode 204) = some (.getfield 344) := by decide +kernel
theorem k204_49 : lkc 49 (kcode 204) = some (.iconst 1) := by decide +kernel
theorem k204_50 : lkc 50 (kcode 204) = some (.iload_n 3) := by decide +kernel
theorem k204_51 : lkc 51 (kcode 204) = some (.ishl) := by decide +kernel
theorem k204_52 : lkc 52 (kcode 204) = some (.ior) := by decide +kernel
theorem k204_53 : lkc 53 (kcode 204) = some (.putfield 344) := by decide +kernel
theorem k204_56 : lkc 56 (kcode 204) = some (.aload_n 1) := by decide +kernel
theorem k204_57 : lkc 57 (kcode 204) = some (.bipush 16) := by decide +kernel
theorem k204_59 : lkc 59 (kcode 204) = some (.iconst 2) := by decide +kernel
theorem k204_60 : lkc 60 (kcode 204) = some (.iload_n 3) := by decide +kernel
theorem k204_61 : lkc 61 (kcode 204) = some (.imul) := by decide +kernel
theorem k204_62 : lkc 62 (kcode 204) = some (.iadd) := by decide +kernel
theorem k204_63 : lkc 63 (kcode 204) = some (.iconst 1) := by decide +kernel
theorem k204_64 : lkc 64 (kcode 204) = some (.iadd) := by decide +kernel
theorem k204_65 : lkc 65 (kcode 204) = some (.iconst 0) := by decide +kernel
theorem k204_66 : lkc 66 (kcode 204) = some (.aload_n 1) := by decide +kernel
theorem k204_67 : lkc 67 (kcode 204) = some (.bipush 16) := by decide +kernel
theorem k204_69 : lkc 69 (kcode 204) = some (.iconst 2) := by decide +kernel
theorem k204_70 : lkc 70 (kcode 204) = some (.iload_n 3) := by decide +kernel
theorem k204_71 : lkc 71 (kcode 204) = some (.imul) := by decide +kernel
theorem k204_72 : lkc 72 (kcode 204) = some (.iadd) := by decide +kernel
theorem k204_73 : lkc 73 (kcode 204) = some (.iconst 1) := by decide +kernel
theorem k204_74 : lkc 74 (kcode 204) = some (.iadd) := by decide +kernel
theorem k204_75 : lkc 75 (kcode 204) = some (.iaload) := by decide +kernel
theorem k204_76 : lkc 76 (kcode 204) = some (.iconst 1) := by decide +kernel
theorem k204_77 : lkc 77 (kcode 204) = some (.isub) := by decide +kernel
theorem k204_78 : lkc 78 (kcode 204) = some (.invokestatic 335) := by decide +kernel
theorem k204_81 : lkc 81 (kcode 204) = some (.iastore) := by decide +kernel
theorem k204_82 : lkc 82 (kcode 204) = some (.goto 59) := by decide +kernel
theorem k204_85 : lkc 85 (kcode 204) = some (.aload_n 0) := by decide +kernel
theorem k204_86 : lkc 86 (kcode 204) = some (.dup) := by decide +kernel
theorem k204_87 : lkc 87 (kcode 204) = some (.getfield 347) := by decide +kernel
theorem k204_90 : lkc 90 (kcode 204) = some (.iconst 1) := by decide +kernel
theorem k204_91 : lkc 91 (kcode 204) = some (.iload 4) := by decide +kernel
theorem k204_93 : lkc 93 (kcode 204) = some (.ishl) := by decide +kernel
theorem k204_94 : lkc 94 (kcode 204) = some (.ior) := by decide +kernel
theorem k204_95 : lkc 95 (kcode 204) = some (.putfield 347) := by decide +kernel
theorem k204_98 : lkc 98 (kcode 204) = some (.aload_n 1) := by decide +kernel
theorem k204_99 : lkc 99 (kcode 204) = some (.iconst 2) := by decide +kernel
theorem k204_100 : lkc 100 (kcode 204) = some (.iload 4) := by decide +kernel
theorem k204_102 : lkc 102 (kcode 204) = some (.imul) := by decide +kernel
theorem k204_103 : lkc 103 (kcode 204) = some (.iconst 0) := by decide +kernel
theorem k204_104 : lkc 104 (kcode 204) = some (.iadd) := by decide +kernel
theorem k204_105 : lkc 105 (kcode 204) = some (.sipush 999) := by decide +kernel
theorem k204_108 : lkc 108 (kcode 204) = some (.aload_n 1) := by decide +kernel
theorem k204_109 : lkc 109 (kcode 204) = some (.iconst 2) := by decide +kernel
theorem k204_110 : lkc 110 (kcode 204) = some (.iload 4) := by decide +kernel
theorem k204_112 : lkc 112 (kcode 204) = some (.imul) := by decide +kernel
theorem k204_113 : lkc 113 (kcode 204) = some (.iconst 0) := by decide +kernel
theorem k204_114 : lkc 114 (kcode 204) = some (.iadd) := by decide +kernel
theorem k204_115 : lkc 115 (kcode 204) = some (.iaload) := by decide +kernel
theorem k204_116 : lkc 116 (kcode 204) = some (.iconst 1) := by decide +kernel
theorem k204_117 : lkc 117 (kcode 204) = some (.iadd) := by decide +kernel
theorem k204_118 : lkc 118 (kcode 204) = some (.invokestatic 302) := by decide +kernel
theorem k204_121 : lkc 121 (kcode 204) = some (.iastore) := by decide +kernel
theorem k204_122 : lkc 122 (kcode 204) = some (.aload_n 1) := by decide +kernel
theorem k204_123 : lkc 123 (kcode 204) = some (.bipush 25) := by decide +kernel
theorem k204_125 : lkc 125 (kcode 204) = some (.sipush 999) := by decide +kernel
theorem k204_128 : lkc 128 (kcode 204) = some (.aload_n 1) := by decide +kernel
theorem k204_129 : lkc 129 (kcode 204) = some (.bipush 25) := by decide +kernel
theorem k204_131 : lkc 131 (kcode 204) = some (.iaload) := by decide +kernel
theorem k204_132 : lkc 132 (kcode 204) = some (.iconst 1) := by decide +kernel
theorem k204_133 : lkc 133 (kcode 204) = some (.iadd) := by decide +kernel
theorem k204_134 : lkc 134 (kcode 204) = some (.invokestatic 302) := by decide +kernel
theorem k204_137 : lkc 137 (kcode 204) = some (.iastore) := by decide +kernel
theorem k204_138 : lkc 138 (kcode 204) = some (.iinc 2 1) := by decide +kernel
theorem k204_141 : lkc 141 (kcode 204) = some (.iinc 3 1) := by decide +kernel
theorem k204_144 : lkc 144 (kcode 204) = some (.goto (-122)) := by decide +kernel
theorem k204_147 : lkc 147 (kcode 204) = some (.aload_n 1) := by decide +kernel
theorem k204_148 : lkc 148 (kcode 204) = some (.bipush 26) := by decide +kernel
theorem k204_150 : lkc 150 (kcode 204) = some (.dup2) := by decide +kernel
theorem k204_151 : lkc 151 (kcode 204) = some (.iaload) := by decide +kernel
theorem k204_152 : lkc 152 (kcode 204) = some (.iconst 1) := by decide +kernel
theorem k204_153 : lkc 153 (kcode 204) = some (.iadd) := by decide +kernel
theorem k204_154 : lkc 154 (kcode 204) = some (.iastore) := by decide +kernel
theorem k204_155 : lkc 155 (kcode 204) = some (.aload_n 1) := by decide +kernel
theorem k204_156 : lkc 156 (kcode 204) = some (.bipush 27) := by decide +kernel
theorem k204_158 : lkc 158 (kcode 204) = some (.iaload) := by decide +kernel
theorem k204_159 : lkc 159 (kcode 204) = some (.bipush 60) := by decide +kernel
theorem k204_161 : lkc 161 (kcode 204) = some (.if_icmp .ne 40) := by decide +kernel
theorem k204_164 : lkc 164 (kcode 204) = some (.iconst 1) := by decide +kernel
theorem k204_165 : lkc 165 (kcode 204) = some (.istore_n 3) := by decide +kernel
theorem k204_166 : lkc 166 (kcode 204) = some (.iload_n 3) := by decide +kernel
theorem k204_167 : lkc 167 (kcode 204) = some (.sipush 177) := by decide +kernel
theorem k204_170 : lkc 170 (kcode 204) = some (.if_icmp .gt 23) := by decide +kernel
theorem k204_173 : lkc 173 (kcode 204) = some (.aload_n 1) := by decide +kernel
theorem k204_174 : lkc 174 (kcode 204) = some (.bipush 27) := by decide +kernel
theorem k204_176 : lkc 176 (kcode 204) = some (.iload_n 3) := by decide +kernel
theorem k204_177 : lkc 177 (kcode 204) = some (.iadd) := by decide +kernel
theorem k204_178 : lkc 178 (kcode 204) = some (.aload_n 1) := by decide +kernel
theorem k204_179 : lkc 179 (kcode 204) = some (.bipush 27) := by decide +kernel
theorem k204_181 : lkc 181 (kcode 204) = some (.iload_n 3) := by decide +kernel
theorem k204_182 : lkc 182 (kcode 204) = some (.iadd) := by decide +kernel
theorem k204_183 : lkc 183 (kcode 204) = some (.iconst 3) := by decide +kernel
theorem k204_184 : lkc 184 (kcode 204) = some (.iadd) := by decide +kernel
theorem k204_185 : lkc 185 (kcode 204) = some (.iaload) := by decide +kernel
theorem k204_186 : lkc 186 (kcode 204) = some (.iastore) := by decide +kernel
theorem k204_187 : lkc 187 (kcode 204) = some (.iinc 3 1) := by decide +kernel
theorem k204_190 : lkc 190 (kcode 204) = some (.goto (-24)) := by decide +kernel
theorem k204_193 : lkc 193 (kcode 204) = some (.aload_n 1) := by decide +kernel
theorem k204_194 : lkc 194 (kcode 204) = some (.bipush 27) := by decide +kernel
theorem k204_196 : lkc 196 (kcode 204) = some (.dup2) := by decide +kernel
theorem k204_197 : lkc 197 (kcode 204) = some (.iaload) := by decide +kernel
theorem k204_198 : lkc 198 (kcode 204) = some (.iconst 1) := by decide +kernel
theorem k204_199 : lkc 199 (kcode 204) = some (.isub) := by decide +kernel
theorem k204_200 : lkc 200 (kcode 204) = some (.iastore) := by decide +kernel
theorem k204_201 : lkc 201 (kcode 204) = some (.bipush 28) := by decide +kernel
theorem k204_203 : lkc 203 (kcode 204) = some (.iconst 3) := by decide +kernel
theorem k204_204 : lkc 204 (kcode 204) = some (.aload_n 1) := by decide +kernel
theorem k204_205 : lkc 205 (kcode 204) = some (.bipush 27) := by decide +kernel
theorem k204_207 : lkc 207 (kcode 204) = some (.iaload) := by decide +kernel
theorem k204_208 : lkc 208 (kcode 204) = some (.imul) := by decide +kernel
theorem k204_209 : lkc 209 (kcode 204) = some (.iadd) := by decide +kernel
theorem k204_210 : lkc 210 (kcode 204) = some (.istore_n 3) := by decide +kernel
theorem k204_211 : lkc 211 (kcode 204) = some (.aload_n 1) := by decide +kernel
theorem k204_212 : lkc 212 (kcode 204) = some (.iload_n 3) := by decide +kernel
theorem k204_213 : lkc 213 (kcode 204) = some (.aload_n 0) := by decide +kernel
theorem k204_214 : lkc 214 (kcode 204) = some (.getfield 347) := by decide +kernel
theorem k204_217 : lkc 217 (kcode 204) = some (.iastore) := by decide +kernel
theorem k204_218 : lkc 218 (kcode 204) = some (.aload_n 1) := by decide +kernel
theorem k204_219 : lkc 219 (kcode 204) = some (.iload_n 3) := by decide +kernel
theorem k204_220 : lkc 220 (kcode 204) = some (.iconst 1) := by decide +kernel
theorem k204_221 : lkc 221 (kcode 204) = some (.iadd) := by decide +kernel
theorem k204_222 : lkc 222 (kcode 204) = some (.aload_n 0) := by decide +kernel
theorem k204_223 : lkc 223 (kcode 204) = some (.getfield 344) := by decide +kernel
theorem k204_226 : lkc 226 (kcode 204) = some (.iastore) := by decide +kernel
theorem k204_227 : lkc 227 (kcode 204) = some (.aload_n 1) := by decide +kernel
theorem k204_228 : lkc 228 (kcode 204) = some (.iload_n 3) := by decide +kernel
theorem k204_229 : lkc 229 (kcode 204) = some (.iconst 2) := by decide +kernel
theorem k204_230 : lkc 230 (kcode 204) = some (.iadd) := by decide +kernel
theorem k204_231 : lkc 231 (kcode 204) = some (.aload_n 1) := by decide +kernel
theorem k204_232 : lkc 232 (kcode 204) = some (.bipush 25) := by decide +kernel
theorem k204_234 : lkc 234 (kcode 204) = some (.iaload) := by decide +kernel
theorem k204_235 : lkc 235 (kcode 204) = some (.iastore) := by decide +kernel
theorem k204_236 : lkc 236 (kcode 204) = some (.aload_n 1) := by decide +kernel
theorem k204_237 : lkc 237 (kcode 204) = some (.bipush 27) := by decide +kernel
theorem k204_239 : lkc 239 (kcode 204) = some (.dup2) := by decide +kernel
theorem k204_240 : lkc 240 (kcode 204) = some (.iaload) := by decide +kernel
theorem k204_241 : lkc 241 (kcode 204) = some (.iconst 1) := by decide +kernel
theorem k204_242 : lkc 242 (kcode 204) = some (.iadd) := by decide +kernel
theorem k204_243 : lkc 243 (kcode 204) = some (.iastore) := by decide +kernel
theorem k204_244 : lkc 244 (kcode 204) = some (.iload_n 2) := by decide +kernel
theorem k204_245 : lkc 245 (kcode 204) = some (.ireturn) := by decide +kernel
/-! forward: a day passes, the reference -/
theorem sg_m : ∀ e : Fin 8, gseg (2 * e.val) (tS 326) = (0, 999) := by decide +kernel
theorem sg_f : ∀ e : Fin 4, gseg (17 + 2 * e.val) (tS 326) = (0, 9) := by decide +kernel
theorem sg_c : gseg 25 (tS 326) = (iLo, iHi) := by decide +kernel
theorem c_maxI {m : xM} {a b : Nat} (ha : a < 2147483648) (hb : b < 2147483648) : fC 267 [.int (nI a), .int (nI b)] m (fun rv m' => rv = some (.int (nI (max a b))) ∧ m = m') := by
  refine fC_of (by decide) (fun d n P H => ?_)
  replace H := f_iload_n H k267_0 rfl
  replace H := f_iload_n H k267_1 rfl
  have Hbr := f_icmp_lt H k267_2 (t := 9) (by decide)
  clear H
  rcases Hbr with ⟨c, H⟩ | ⟨c, H⟩
  · rw [nxlt ha hb] at c
    replace H := f_iload_n H k267_9 rfl
    replace H := f_iret H k267_10
    exact ⟨_, _, H, by rw [show max a b = b by omega], rfl⟩
  · rw [nxlt ha hb] at c
    replace H := f_iload_n H k267_5 rfl
    replace H := f_goto H k267_6 (t := 10) (by decide)
    replace H := f_iret H k267_10
    exact ⟨_, _, H, by rw [show max a b = a by omega], rfl⟩
theorem c_max0 {m : xM} {f : Nat} (hf : f < 1000) : fC 267 [.int 0, .int (nI f - 1)] m (fun rv m' => rv = some (.int (nI (f - 1))) ∧ m = m') := by
  have e : (nI f - 1).toInt = (f : Int) - 1 := by
    rw [Int32.toInt_sub, nI_toInt (by omega), show (1 : Int32).toInt = 1 by decide]
    exact Int.bmod_eq_of_le (by omega) (by omega)
  refine fC_of (by decide) (fun d n P H => ?_)
  replace H := f_iload_n H k267_0 rfl
  replace H := f_iload_n H k267_1 rfl
  have Hbr := f_icmp_lt H k267_2 (t := 9) (by decide)
  clear H
  rcases Hbr with ⟨c, H⟩ | ⟨c, H⟩
  · rw [Int32.lt_iff_toInt_lt, e, show (0 : Int32).toInt = 0 by decide] at c
    replace H := f_iload_n H k267_9 rfl
    replace H := f_iret H k267_10
    exact ⟨_, _, H, by rw [show nI f - 1 = nI (f - 1) from Int32.toInt_inj.mp (by rw [e, nI_toInt (by omega)]; omega)], rfl⟩
  · rw [Int32.lt_iff_toInt_lt, e, show (0 : Int32).toInt = 0 by decide] at c
    replace H := f_iload_n H k267_5 rfl
    replace H := f_goto H k267_6 (t := 10) (by decide)
    replace H := f_iret H k267_10
    exact ⟨_, _, H, by rw [show f - 1 = 0 by omega]; rfl, rfl⟩
/-- what a day leaves alone in the reference: all but marks, faith, coins, day, log -/
def frD (m m2 : xM) : Prop := ∀ a i, (a < 314 ∨ a = 315 ∨ a = 320 ∨ a = 322 ∨ a = 324 ∨ a = 325 ∨ (331 ≤ a ∧ a ≤ 333) ∨ (a = 314 ∧ ¬ (8 ≤ i ∧ i < 18) ∧ i ≠ 39 ∧ i ≠ 40) ∨ (a = 326 ∧ ((i < 16 ∧ i % 2 = 1) ∨ (16 ≤ i ∧ i < 24 ∧ i % 2 = 0) ∨ i = 24))) → m2.1 a i = m.1 a i
theorem frD_t {m m1 m2 : xM} (h : frD m m1) (g : frD m1 m2) : frD m m2 := fun a i q => (g a i q).trans (h a i q)
theorem frD_63 {m m2 : xM} (h : fr63 m m2) : frD m m2 := fun a i q => h a i (by omega)
theorem frD_s {m m2 : xM} {a i : Nat} {v : Int32} (h : frD m m2) (ha : (a = 314 ∧ (i = 39 ∨ i = 40)) ∨ (a = 326 ∧ ((i < 16 ∧ i % 2 = 0) ∨ (16 ≤ i ∧ i < 24 ∧ i % 2 = 1) ∨ 25 ≤ i)) ∨ a = 328) : frD m (mI m2 a i v) := fun b j q => by rw [mI_ne (by omega)]; exact h b j q
theorem mT_D {m m2 : xM} {C S : Nat} {A B Y : Nat → Nat} (hT : mT m C S A B Y) (h : frD m m2) : mT m2 C S A B Y := mT_f hT (fun i => ⟨⟨h _ _ (by omega), h _ _ (by omega)⟩, h _ _ (by omega)⟩)
set_option maxHeartbeats 4000000 in
theorem c_goDay {m : xM} {C S W w k d0 lg : Nat} {A B Y h f : Nat → Nat} (hI : gI tS tR m) (hj : jM m) (hT : mT m C S A B Y) (hW : m.1 314 27 = nI W) (hW4 : W ≤ 4) (hw : m.1 326 24 = nI w) (hw2 : w < 65536) (hh : ∀ p, p < W → m.1 326 (16 + 2 * p) = nI (h p) ∧ h p < C) (hf : ∀ p, p < W → m.1 326 (17 + 2 * p) = nI (f p) ∧ f p ≤ 9) (hk : m.1 326 25 = nI k) (hk9 : k ≤ 999) (hd : m.1 326 26 = nI d0) (hd9 : d0 ≤ 1000) (hl : m.1 326 27 = nI lg) (hl6 : lg ≤ 60) : fC 204 [.ref 314, .ref 326] m (fun rv m' => rv = some (.int (nI (gcn (fun p => anyG (chp A B S w C) (wyM C S A B Y w) 100000 (h p) C) W))) ∧ frD m m' ∧ (∀ p, p < W → m'.1 326 (17 + 2 * p) = nI (fth (fun p => anyG (chp A B S w C) (wyM C S A B Y w) 100000 (h p) C) f p)) ∧ m'.1 326 25 = nI (min 999 (k + gcn (fun p => anyG (chp A B S w C) (wyM C S A B Y w) 100000 (h p) C) W)) ∧ m'.1 326 26 = nI (d0 + 1) ∧ m'.1 326 27 = nI (min 60 (lg + 1))) := by
  refine fC_of (by decide) (fun d n P H => ?_)
  have hC8 : C ≤ 8 := hT.2.2.1
  have hS : ∀ s, s < S → A s ≠ B s ∧ 1 ≤ Y s ∧ Y s ≤ 40 := fun s hs => ⟨(hT.2.2.2.2 s hs).2.2.2.2.2.1, (hT.2.2.2.2 s hs).2.2.2.2.2.2.1, (hT.2.2.2.2 s hs).2.2.2.2.2.2.2⟩
  have hle : mle 100000 (wyM C S A B Y w) := fwO_le (wsM_le hS) C
  have c24 : (24 : Int32).toNatClampNeg = 24 := by decide
  have c25 : (25 : Int32).toNatClampNeg = 25 := by decide
  have c26 : (26 : Int32).toNatClampNeg = 26 := by decide
  have c27 : (27 : Int32).toNatClampNeg = 27 := by decide
  have k27 : (27 : Int32) = nI 27 := rfl
  have k999 : (999 : Int32) = nI 999 := rfl
  generalize hg : (fun p => anyG (chp A B S w C) (wyM C S A B Y w) 100000 (h p) C) = g
  have hgp : ∀ p, g p = anyG (chp A B S w C) (wyM C S A B Y w) 100000 (h p) C := fun p => by rw [← hg]
  -- behind the walkers
  have fin : ∀ n m2 z3 z4, rS m2 → frD m m2 → (∀ p, p < W → m2.1 326 (17 + 2 * p) = nI (fth g f p)) → m2.1 326 25 = nI (min 999 (k + gcn g W)) → m2.1 326 26 = nI d0 → m2.1 326 27 = nI lg → xF 204 (xw d) P n 147 [(3, .int z3), (2, .int (nI (gcn g W))), (4, .int z4), (0, .ref 314), (1, .ref 326)] [] m2 → ∃ rv m', P rv m' ∧ rv = some (.int (nI (gcn g W))) ∧ frD m m' ∧ (∀ p, p < W → m'.1 326 (17 + 2 * p) = nI (fth g f p)) ∧ m'.1 326 25 = nI (min 999 (k + gcn g W)) ∧ m'.1 326 26 = nI (d0 + 1) ∧ m'.1 326 27 = nI (min 60 (lg + 1)) := by
    intro n m2 z3 z4 hr hf2 e1 e2 e3 e4 H
    -- the entry of the log
    have ent : ∀ n m3 z3 l3, l3 < 60 → min 60 (lg + 1) = l3 + 1 → rS m3 → frD m m3 → (∀ p, p < W → m3.1 326 (17 + 2 * p) = nI (fth g f p)) → m3.1 326 25 = nI (min 999 (k + gcn g W)) → m3.1 326 26 = nI (d0 + 1) → m3.1 326 27 = nI l3 → xF 204 (xw d) P n 201 [(3, .int z3), (2, .int (nI (gcn g W))), (4, .int z4), (0, .ref 314), (1, .ref 326)] [] m3 → ∃ rv m', P rv m' ∧ rv = some (.int (nI (gcn g W))) ∧ frD m m' ∧ (∀ p, p < W → m'.1 326 (17 + 2 * p) = nI (fth g f p)) ∧ m'.1 326 25 = nI (min 999 (k + gcn g W)) ∧ m'.1 326 26 = nI (d0 + 1) ∧ m'.1 326 27 = nI (min 60 (lg + 1)) := by
      intro n m3 z3 l3 hl3 hmn hr hf3 e1 e2 e3 e4 H
      replace H := f_bipush H k204_201 (v := 28) (by decide)
      replace H := f_iconst H k204_203 (v := 3) (by decide)
      replace H := f_aload_n H k204_204 rfl
      replace H := f_bipush H k204_205 (v := 27) (by decide)
      have Hob := f_iald H k204_207 (c := 208) (by decide)
      clear H
      obtain ⟨hb207, H⟩ := Hob
      replace H := f_imul H k204_208
      replace H := f_iadd H k204_209
      rw [c27, e4, show (3 : Int32) = nI 3 from rfl, nI_mul, show (28 : Int32) = nI 28 from rfl, r_ad] at H
      replace H := f_istore_n H k204_210 (l2 := [(3, .int (nI (28 + 3 * l3))), (2, .int (nI (gcn g W))), (4, .int z4), (0, .ref 314), (1, .ref 326)]) rfl
      replace H := f_aload_n H k204_211 rfl
      replace H := f_iload_n H k204_212 rfl
      replace H := f_aload_n H k204_213 rfl
      replace H := f_gi H k204_214 (ci := 12) (f := 40) (by decide +kernel) (by decide)
      have Hob := f_iast H k204_217 (c := 208) (by decide)
      clear H
      obtain ⟨hb217, H⟩ := Hob
      replace H := f_aload_n H k204_218 rfl
      replace H := f_iload_n H k204_219 rfl
      replace H := f_iconst H k204_220 (v := 1) (by decide)
      replace H := f_iadd H k204_221
      replace H := f_aload_n H k204_222 rfl
      replace H := f_gi H k204_223 (ci := 12) (f := 39) (by decide +kernel) (by decide)
      have Hob := f_iast H k204_226 (c := 208) (by decide)
      clear H
      obtain ⟨hb226, H⟩ := Hob
      replace H := f_aload_n H k204_227 rfl
      replace H := f_iload_n H k204_228 rfl
      replace H := f_iconst H k204_229 (v := 2) (by decide)
      replace H := f_iadd H k204_230
      replace H := f_aload_n H k204_231 rfl
      replace H := f_bipush H k204_232 (v := 25) (by decide)
      have Hob := f_iald H k204_234 (c := 208) (by decide)
      clear H
      obtain ⟨hb234, H⟩ := Hob
      have Hob := f_iast H k204_235 (c := 208) (by decide)
      clear H
      obtain ⟨hb235, H⟩ := Hob
      replace H := f_aload_n H k204_236 rfl
      replace H := f_bipush H k204_237 (v := 27) (by decide)
      replace H := f_dup2 H k204_239
      have Hob := f_iald H k204_240 (c := 208) (by decide)
      clear H
      obtain ⟨hb240, H⟩ := Hob
      replace H := f_iconst H k204_241 (v := 1) (by decide)
      replace H := f_iadd H k204_242
      have Hob := f_iast H k204_243 (c := 208) (by decide)
      clear H
      obtain ⟨hb243, H⟩ := Hob
      replace H := f_iload_n H k204_244 rfl
      rw [nI_s, show (2 : Int32) = nI 2 from rfl, r_ad, nI_clamp (by omega), nI_clamp (by omega), nI_clamp (by omega), c25, c27] at H
      obtain ⟨m4, em, H⟩ := f_mem H
      have q27 : m4.1 326 27 = nI (l3 + 1) := by rw [em, mI_at, mI_ne (by omega), mI_ne (by omega), mI_ne (by omega), e4, nI_s]
      have K : ∀ i, i < 27 → m4.1 326 i = m3.1 326 i := fun i hi => by rw [em, mI_ne (by omega), mI_ne (by omega), mI_ne (by omega), mI_ne (by omega)]
      have hf4 : frD m m4 := by rw [em]; exact frD_s (frD_s (frD_s (frD_s hf3 (by omega)) (by omega)) (by omega)) (by omega)
      clear em
      replace H := f_iret H k204_245
      exact ⟨_, _, H, rfl, hf4, fun p hp => by rw [K _ (by omega)]; exact e1 p hp, by rw [K _ (by omega)]; exact e2, by rw [K _ (by omega)]; exact e3, by rw [q27, hmn]⟩
    -- the log's shift
    have shf : ∀ n m3 z3, lg = 60 → rS m3 → frD m m3 → (∀ p, p < W → m3.1 326 (17 + 2 * p) = nI (fth g f p)) → m3.1 326 25 = nI (min 999 (k + gcn g W)) → m3.1 326 26 = nI (d0 + 1) → m3.1 326 27 = nI 60 → 1 ≤ z3 → z3 ≤ 178 → xF 204 (xw d) P n 166 [(3, .int (nI z3)), (2, .int (nI (gcn g W))), (4, .int z4), (0, .ref 314), (1, .ref 326)] [] m3 → ∃ rv m', P rv m' ∧ rv = some (.int (nI (gcn g W))) ∧ frD m m' ∧ (∀ p, p < W → m'.1 326 (17 + 2 * p) = nI (fth g f p)) ∧ m'.1 326 25 = nI (min 999 (k + gcn g W)) ∧ m'.1 326 26 = nI (d0 + 1) ∧ m'.1 326 27 = nI (min 60 (lg + 1)) := by
      intro n
      induction n with
      | zero => exact fun m3 z3 _ _ _ _ _ _ _ _ _ H => (xF_0 H).elim
      | succ n ih =>
        intro m3 z3 hlg hr hf3 e1 e2 e3 e4 hz hz8 H
        by_cases hz3 : z3 ≤ 177
        · replace H := f1_iload_n H k204_166 rfl
          replace H := f_sipush H k204_167 (v := 177) (by decide)
          rw [show (177 : Int32) = nI 177 from rfl] at H
          replace H := f_icmp_gt_f H k204_170 (fun q => by rw [nxlt (by omega) (by omega)] at q; omega)
          replace H := f_aload_n H k204_173 rfl
          replace H := f_bipush H k204_174 (v := 27) (by decide)
          replace H := f_iload_n H k204_176 rfl
          replace H := f_iadd H k204_177
          replace H := f_aload_n H k204_178 rfl
          replace H := f_bipush H k204_179 (v := 27) (by decide)
          replace H := f_iload_n H k204_181 rfl
          replace H := f_iadd H k204_182
          replace H := f_iconst H k204_183 (v := 3) (by decide)
          replace H := f_iadd H k204_184
          have Hob := f_iald H k204_185 (c := 208) (by decide)
          clear H
          obtain ⟨hb185, H⟩ := Hob
          have Hob := f_iast H k204_186 (c := 208) (by decide)
          clear H
          obtain ⟨hb186, H⟩ := Hob
          replace H := f_iinc H k204_187 rfl (l2 := [(3, .int (nI z3 + 1)), (2, .int (nI (gcn g W))), (4, .int z4), (0, .ref 314), (1, .ref 326)]) rfl
          replace H := f_goto H k204_190 (t := 166) (by decide)
          rw [k27, r_ad, show (3 : Int32) = nI 3 from rfl, r_ad, nI_clamp (by omega), nI_clamp (by omega), nI_s] at H
          have K : ∀ i v, i ≤ 27 → (mI m3 326 (27 + z3) v).1 326 i = m3.1 326 i := fun i v hi => mI_ne (by omega)
          exact ih (mI m3 326 (27 + z3) _) (z3 + 1) hlg hr (frD_s hf3 (by omega)) (fun p hp => by rw [K _ _ (by omega)]; exact e1 p hp) (by rw [K _ _ (by omega)]; exact e2) (by rw [K _ _ (by omega)]; exact e3) (by rw [K _ _ (by omega)]; exact e4) (by omega) (by omega) H
        · replace H := f1_iload_n H k204_166 rfl
          replace H := f_sipush H k204_167 (v := 177) (by decide)
          rw [show (177 : Int32) = nI 177 from rfl] at H
          replace H := f_icmp_gt_t H k204_170 (by rw [nxlt (by omega) (by omega)]; omega) (t := 193) (by decide)
          replace H := f_aload_n H k204_193 rfl
          replace H := f_bipush H k204_194 (v := 27) (by decide)
          replace H := f_dup2 H k204_196
          have Hob := f_iald H k204_197 (c := 208) (by decide)
          clear H
          obtain ⟨hb197, H⟩ := Hob
          replace H := f_iconst H k204_198 (v := 1) (by decide)
          replace H := f_isub H k204_199
          have Hob := f_iast H k204_200 (c := 208) (by decide)
          clear H
          obtain ⟨hb200, H⟩ := Hob
          rw [c27, e4, show nI 60 - 1 = nI 59 by decide] at H
          have K : ∀ i v, i < 27 → (mI m3 326 27 v).1 326 i = m3.1 326 i := fun i v hi => mI_ne (by omega)
          exact ent _ (mI m3 326 27 (nI 59)) _ 59 (by omega) (by omega) hr (frD_s hf3 (by omega)) (fun p hp => by rw [K _ _ (by omega)]; exact e1 p hp) (by rw [K _ _ (by omega)]; exact e2) (by rw [K _ _ (by omega)]; exact e3) mI_at H
    replace H := f_aload_n H k204_147 rfl
    replace H := f_bipush H k204_148 (v := 26) (by decide)
    replace H := f_dup2 H k204_150
    have Hob := f_iald H k204_151 (c := 208) (by decide)
    clear H
    obtain ⟨hb151, H⟩ := Hob
    replace H := f_iconst H k204_152 (v := 1) (by decide)
    replace H := f_iadd H k204_153
    have Hob := f_iast H k204_154 (c := 208) (by decide)
    clear H
    obtain ⟨hb154, H⟩ := Hob
    rw [c26, e3, nI_s] at H
    have hf3 : frD m (mI m2 326 26 (nI (d0 + 1))) := frD_s hf2 (by omega)
    have K : ∀ i, i ≠ 26 → (mI m2 326 26 (nI (d0 + 1))).1 326 i = m2.1 326 i := fun i hi => mI_ne (by omega)
    have k26 : (mI m2 326 26 (nI (d0 + 1))).1 326 26 = nI (d0 + 1) := mI_at
    have hr3 : rS (mI m2 326 26 (nI (d0 + 1))) := hr
    generalize mI m2 326 26 (nI (d0 + 1)) = m3 at *
    have hr := hr3
    replace H := f_aload_n H k204_155 rfl
    replace H := f_bipush H k204_156 (v := 27) (by decide)
    have Hob := f_iald H k204_158 (c := 208) (by decide)
    clear H
    obtain ⟨hb158, H⟩ := Hob
    replace H := f_bipush H k204_159 (v := 60) (by decide)
    rw [c27, K 27 (by omega), e4, show (60 : Int32) = nI 60 from rfl] at H
    have Hbr := f_icmp_ne H k204_161 (t := 201) (by decide)
    clear H
    rcases Hbr with ⟨c, H⟩ | ⟨c, H⟩
    · have hl60 : lg ≠ 60 := fun q => c (by rw [q])
      exact ent _ m3 _ lg (by omega) (by omega) hr hf3 (fun p hp => by rw [K _ (by omega)]; exact e1 p hp) (by rw [K _ (by omega)]; exact e2) k26 (by rw [K _ (by omega)]; exact e4) H
    · rw [nI_inj (by omega) (by omega)] at c
      replace H := f_iconst H k204_164 (v := 1) (by decide)
      replace H := f_istore_n H k204_165 (l2 := [(3, .int 1), (2, .int (nI (gcn g W))), (4, .int z4), (0, .ref 314), (1, .ref 326)]) rfl
      replace H := f_ext H (l' := [(3, .int 1), (2, .int (nI (gcn g W))), (4, .int z4), (0, .ref 314), (1, .ref 326)]) (lE_cons rfl (lE_cons rfl (lE_cons rfl (lE_cons rfl (lE_cons rfl (lE_nil)))))) rfl rfl
      exact shf _ m3 1 c hr hf3 (fun p hp => by rw [K _ (by omega)]; exact e1 p hp) (by rw [K _ (by omega)]; exact e2) k26 (by rw [K _ (by omega), e4, c]) (by omega) (by omega) H
  -- the walkers
  have lp : ∀ n p z4 m2, p ≤ W → gI tS tR m2 → jM m2 → frD m m2 → mY m2 C (wyM C S A B Y w) → (∀ q, q < p → m2.1 326 (17 + 2 * q) = nI (fth g f q)) → (∀ q, p ≤ q → q < W → m2.1 326 (17 + 2 * q) = nI (f q)) → m2.1 326 25 = nI (min 999 (k + gcn g p)) → m2.1 326 26 = nI d0 → m2.1 326 27 = nI lg → xF 204 (xw d) P n 22 [(3, .int (nI p)), (2, .int (nI (gcn g p))), (4, .int z4), (0, .ref 314), (1, .ref 326)] [] m2 → ∃ rv m', P rv m' ∧ rv = some (.int (nI (gcn g W))) ∧ frD m m' ∧ (∀ p, p < W → m'.1 326 (17 + 2 * p) = nI (fth g f p)) ∧ m'.1 326 25 = nI (min 999 (k + gcn g W)) ∧ m'.1 326 26 = nI (d0 + 1) ∧ m'.1 326 27 = nI (min 60 (lg + 1)) := by
    intro n
    induction n with
    | zero => exact fun p z4 m2 _ _ _ _ _ _ _ _ _ _ H => (xF_0 H).elim
    | succ n ih =>
      intro p z4 m2 hp hI2 hj2 hfr hY e1 e1b e2 e3 e4 H
      have hr : rS m2 := hI2.2
      have eW : m2.1 314 27 = nI W := by rw [hfr _ _ (by omega)]; exact hW
      have gle := gcn_le (g := g) p
      replace H := f1_iload_n H k204_22 rfl
      replace H := f_aload_n H k204_23 rfl
      replace H := f_gi H k204_24 (ci := 12) (f := 27) (by decide +kernel) (by decide)
      rw [eW] at H
      have Hbr := f_icmp_ge H k204_27 (t := 147) (by decide)
      clear H
      rcases Hbr with ⟨k0, H⟩ | ⟨k0, H⟩
      · rw [nxle (by omega) (by omega)] at k0
        have ep : p = W := by omega
        subst ep
        exact fin _ m2 _ _ hr hfr e1 e2 e3 e4 H
      · rw [nxle (by omega) (by omega)] at k0
        obtain ⟨hh1, hh2⟩ := hh p (by omega)
        obtain ⟨-, hf9⟩ := hf p (by omega)
        have efp := e1b p (Nat.le_refl _) (by omega)
        replace H := f_aload_n H k204_30 rfl
        replace H := f_aload_n H k204_31 rfl
        replace H := f_iload_n H k204_32 rfl
        obtain ⟨rv, m3, ⟨hI3, hj3, hf63, ho⟩, h9_33⟩ := f_inv H k204_33 (by decide +kernel) (as := [.ref 326, .int _]) (b := 314) (r := []) (by rfl) (c_goes hI2 hj2 (mT_D hT hfr) (by rw [hfr 326 24 (by omega)]; exact hw) hw2 hY hle (by omega) (by rw [hfr 326 _ (by omega)]; exact hh1) hh2)
        replace H := h9_33
        have hr : rS m3 := hI3.2
        have hfr3 := frD_t hfr (frD_63 hf63)
        have hY3 := mY_63 hY hf63
        have K3 : ∀ i, m3.1 326 i = m2.1 326 i := fun i => hf63 326 i (by omega)
        rcases ho with ⟨rfl, hno⟩ | ⟨e, he, rfl, hyes⟩
        · have hgf : g p = false := by rw [hgp]; exact anyG_f.mpr hno
          replace H := f_istore H k204_36 (l2 := [(4, .int _), (3, .int (nI p)), (2, .int (nI (gcn g p))), (0, .ref 314), (1, .ref 326)]) rfl
          replace H := f_iload H k204_38 rfl
          replace H := f_iconst H k204_40 (v := -1) (by decide)
          replace H := f_icmp_ne_f H k204_41 rfl
          replace H := f_aload_n H k204_44 rfl
          replace H := f_dup H k204_45
          replace H := f_gi H k204_46 (ci := 12) (f := 39) (by decide +kernel) (by decide)
          replace H := f_iconst H k204_49 (v := 1) (by decide)
          replace H := f_iload_n H k204_50 rfl
          replace H := f_ishl H k204_51
          replace H := f_ior H k204_52
          replace H := f_put_i H k204_53 (ci := 12) (f := 39) (by decide +kernel) (by decide)
          replace H := f_aload_n H k204_56 rfl
          replace H := f_bipush H k204_57 (v := 16) (by decide)
          replace H := f_iconst H k204_59 (v := 2) (by decide)
          replace H := f_iload_n H k204_60 rfl
          replace H := f_imul H k204_61
          replace H := f_iadd H k204_62
          replace H := f_iconst H k204_63 (v := 1) (by decide)
          replace H := f_iadd H k204_64
          replace H := f_iconst H k204_65 (v := 0) (by decide)
          replace H := f_aload_n H k204_66 rfl
          replace H := f_bipush H k204_67 (v := 16) (by decide)
          replace H := f_iconst H k204_69 (v := 2) (by decide)
          replace H := f_iload_n H k204_70 rfl
          replace H := f_imul H k204_71
          replace H := f_iadd H k204_72
          replace H := f_iconst H k204_73 (v := 1) (by decide)
          replace H := f_iadd H k204_74
          have Hob := f_iald H k204_75 (c := 208) (by decide)
          clear H
          obtain ⟨hb75, H⟩ := Hob
          replace H := f_iconst H k204_76 (v := 1) (by decide)
          replace H := f_isub H k204_77
          rw [show (2 : Int32) = nI 2 from rfl, nI_mul, show (16 : Int32) = nI 16 from rfl, r_ad, nI_s, nI_clamp (by omega), show 16 + 2 * p + 1 = 17 + 2 * p by omega] at H
          obtain ⟨m4, em, H⟩ := f_mem H
          have K4 : ∀ a i, ¬ (a = 314 ∧ i = 39) → m4.1 a i = m3.1 a i := fun a i q => by rw [em, mI_ne q]
          have hI4 : gI tS tR m4 := by rw [em]; exact gI_m2 hI3 (by rw [show gseg 39 (tS 314) = (iLo, iHi) by decide +kernel]; exact i32_rng _)
          have hj4 : jM m4 := by rw [em]; exact jM_c (by decide) hj3
          have hfr4 : frD m m4 := by rw [em]; exact frD_s hfr3 (by omega)
          rw [← em, K4 _ _ (by omega), K3, efp] at H
          clear em
          obtain ⟨rv, m5, ⟨rfl, e9⟩, h9_78⟩ := f_ins H k204_78 (by decide +kernel) (as := [.int _, .int _]) (r := [.int _, .ref 326]) (by rfl) (c_max0 (by omega))
          replace H := h9_78
          rw [← e9] at H
          clear e9
          have Hob := f_iast H k204_81 (c := 208) (by decide)
          clear H
          obtain ⟨hb81, H⟩ := Hob
          replace H := f_goto H k204_82 (t := 141) (by decide)
          replace H := f_iinc H k204_141 rfl (l2 := [(3, .int (nI p + 1)), (4, .int (-1)), (2, .int (nI (gcn g p))), (0, .ref 314), (1, .ref 326)]) rfl
          replace H := f_goto H k204_144 (t := 22) (by decide)
          rw [show (nI (17 + 2 * p)).toNatClampNeg = 17 + 2 * p from nI_clamp (by omega), nI_s] at H
          have eg : gcn g (p + 1) = gcn g p := by rw [gcn_s, hgf]; rfl
          rw [← eg] at H
          have K5 : ∀ i v, i ≠ 17 + 2 * p → (mI m4 326 (17 + 2 * p) v).1 326 i = m2.1 326 i := fun i v hi => by rw [mI_ne (by omega), K4 _ _ (by omega), K3]
          refine ih (p + 1) _ (mI m4 326 (17 + 2 * p) (nI (f p - 1))) (by omega) (gI_m2 hI4 (by rw [sg_f ⟨p, by omega⟩, nI_toInt (by omega)]; omega)) (jM_c rfl hj4) (frD_s hfr4 (by omega)) (fun a b ha hb => by rw [mI_ne (by omega), K4 _ _ (by omega)]; exact hY3 a b ha hb) (fun q hq => ?_) (fun q hq hq2 => ?_) ?_ ?_ ?_ (f_ext H (lE_cons rfl (lE_cons rfl (lE_cons rfl (lE_cons rfl (lE_cons rfl lE_nil))))) rfl rfl)
          · by_cases c : q = p
            · subst c
              rw [mI_at]
              unfold fth
              rw [hgf]
              rfl
            · rw [K5 _ _ (by omega)]; exact e1 q (by omega)
          · rw [K5 _ _ (by omega)]; exact e1b q (by omega) hq2
          · rw [K5 _ _ (by omega), eg]; exact e2
          · rw [K5 _ _ (by omega)]; exact e3
          · rw [K5 _ _ (by omega)]; exact e4
        · have hgt : g p = true := by rw [hgp]; exact anyG_t.mpr ⟨e, he, hyes⟩
          obtain ⟨mk, hmk, emk⟩ := i_rng (x := m3.1 326 (2 * e)) (L := 999) (by have := hI3.1 326 (2 * e); rw [sg_m ⟨e, by omega⟩] at this; exact this.1) (by have := hI3.1 326 (2 * e); rw [sg_m ⟨e, by omega⟩] at this; exact this.2) (by decide)
          replace H := f_istore H k204_36 (l2 := [(4, .int _), (3, .int (nI p)), (2, .int (nI (gcn g p))), (0, .ref 314), (1, .ref 326)]) rfl
          replace H := f_iload H k204_38 rfl
          replace H := f_iconst H k204_40 (v := -1) (by decide)
          replace H := f_icmp_ne_t H k204_41 (nI_n1 (N := 8) (by omega) (by decide)) (t := 85) (by decide)
          replace H := f_aload_n H k204_85 rfl
          replace H := f_dup H k204_86
          replace H := f_gi H k204_87 (ci := 12) (f := 40) (by decide +kernel) (by decide)
          replace H := f_iconst H k204_90 (v := 1) (by decide)
          replace H := f_iload H k204_91 rfl
          replace H := f_ishl H k204_93
          replace H := f_ior H k204_94
          replace H := f_put_i H k204_95 (ci := 12) (f := 40) (by decide +kernel) (by decide)
          obtain ⟨m4, em, H⟩ := f_mem H
          have K4 : ∀ a i, ¬ (a = 314 ∧ i = 40) → m4.1 a i = m3.1 a i := fun a i q => by rw [em, mI_ne q]
          have hI4 : gI tS tR m4 := by rw [em]; exact gI_m2 hI3 (by rw [show gseg 40 (tS 314) = (iLo, iHi) by decide +kernel]; exact i32_rng _)
          have hj4 : jM m4 := by rw [em]; exact jM_c (by decide) hj3
          have hfr4 : frD m m4 := by rw [em]; exact frD_s hfr3 (by omega)
          clear em
          have hr : rS m4 := hI4.2
          replace H := f_aload_n H k204_98 rfl
          replace H := f_iconst H k204_99 (v := 2) (by decide)
          replace H := f_iload H k204_100 rfl
          replace H := f_imul H k204_102
          replace H := f_iconst H k204_103 (v := 0) (by decide)
          replace H := f_iadd H k204_104
          replace H := f_sipush H k204_105 (v := 999) (by decide)
          replace H := f_aload_n H k204_108 rfl
          replace H := f_iconst H k204_109 (v := 2) (by decide)
          replace H := f_iload H k204_110 rfl
          replace H := f_imul H k204_112
          replace H := f_iconst H k204_113 (v := 0) (by decide)
          replace H := f_iadd H k204_114
          have Hob := f_iald H k204_115 (c := 208) (by decide)
          clear H
          obtain ⟨hb115, H⟩ := Hob
          replace H := f_iconst H k204_116 (v := 1) (by decide)
          replace H := f_iadd H k204_117
          rw [show (2 : Int32) = nI 2 from rfl, nI_mul, show (0 : Int32) = nI 0 from rfl, r_ad, nI_clamp (by omega), show 2 * e + 0 = 2 * e from rfl, K4 _ _ (by omega), emk, nI_s, k999] at H
          obtain ⟨rv, m5, ⟨rfl, e9⟩, h9_118⟩ := f_ins H k204_118 (by decide +kernel) (as := [.int _, .int _]) (r := [.int _, .ref 326]) (by rfl) (c_minI (by omega) (by omega))
          replace H := h9_118
          rw [← e9] at H
          clear e9
          have Hob := f_iast H k204_121 (c := 208) (by decide)
          clear H
          obtain ⟨hb121, H⟩ := Hob
          rw [show (nI (2 * e)).toNatClampNeg = 2 * e from nI_clamp (by omega)] at H
          obtain ⟨m6, em, H⟩ := f_mem H
          have K6 : ∀ a i, ¬ (a = 326 ∧ i = 2 * e) → m6.1 a i = m4.1 a i := fun a i q => by rw [em, mI_ne q]
          have hI6 : gI tS tR m6 := by rw [em]; exact gI_m2 hI4 (by rw [sg_m ⟨e, by omega⟩, nI_toInt (by omega)]; omega)
          have hj6 : jM m6 := by rw [em]; exact jM_c rfl hj4
          have hfr6 : frD m m6 := by rw [em]; exact frD_s hfr4 (by omega)
          clear em
          have hr : rS m6 := hI6.2
          replace H := f_aload_n H k204_122 rfl
          replace H := f_bipush H k204_123 (v := 25) (by decide)
          replace H := f_sipush H k204_125 (v := 999) (by decide)
          replace H := f_aload_n H k204_128 rfl
          replace H := f_bipush H k204_129 (v := 25) (by decide)
          have Hob := f_iald H k204_131 (c := 208) (by decide)
          clear H
          obtain ⟨hb131, H⟩ := Hob
          replace H := f_iconst H k204_132 (v := 1) (by decide)
          replace H := f_iadd H k204_133
          rw [c25, K6 _ _ (by omega), K4 _ _ (by omega), K3, e2, nI_s, k999] at H
          obtain ⟨rv, m7, ⟨rfl, e9⟩, h9_134⟩ := f_ins H k204_134 (by decide +kernel) (as := [.int _, .int _]) (r := [.int _, .ref 326]) (by rfl) (c_minI (by omega) (by omega))
          replace H := h9_134
          rw [← e9] at H
          clear e9
          have eg : gcn g (p + 1) = gcn g p + 1 := by rw [gcn_s, hgt]; rfl
          have Hob := f_iast H k204_137 (c := 208) (by decide)
          clear H
          obtain ⟨hb137, H⟩ := Hob
          replace H := f_iinc H k204_138 rfl (l2 := [(2, .int (nI (gcn g p) + 1)), (4, .int (nI e)), (3, .int (nI p)), (0, .ref 314), (1, .ref 326)]) rfl
          replace H := f_iinc H k204_141 rfl (l2 := [(3, .int (nI p + 1)), (2, .int (nI (gcn g p) + 1)), (4, .int (nI e)), (0, .ref 314), (1, .ref 326)]) rfl
          replace H := f_goto H k204_144 (t := 22) (by decide)
          rw [c25, nI_s, nI_s, ← eg, show min 999 (min 999 (k + gcn g p) + 1) = min 999 (k + gcn g (p + 1)) by omega] at H
          have K7 : ∀ i v, i ≠ 25 → 16 ≤ i → (mI m6 326 25 v).1 326 i = m2.1 326 i := fun i v hi h16 => by rw [mI_ne (by omega), K6 _ _ (by omega), K4 _ _ (by omega), K3]
          refine ih (p + 1) _ (mI m6 326 25 _) (by omega) (gI_m2 hI6 (by rw [sg_c]; exact i32_rng _)) (jM_c (by decide) hj6) (frD_s hfr6 (by omega)) (fun a b ha hb => by rw [mI_ne (by omega), K6 _ _ (by omega), K4 _ _ (by omega)]; exact hY3 a b ha hb) (fun q hq => ?_) (fun q hq hq2 => ?_) mI_at ?_ ?_ (f_ext H (lE_cons rfl (lE_cons rfl (lE_cons rfl (lE_cons rfl (lE_cons rfl lE_nil))))) rfl rfl)
          · by_cases c : q = p
            · subst c
              rw [K7 _ _ (by omega) (by omega), efp]
              unfold fth
              rw [hgt]
              rfl
            · rw [K7 _ _ (by omega) (by omega)]; exact e1 q (by omega)
          · rw [K7 _ _ (by omega) (by omega)]; exact e1b q (by omega) hq2
          · rw [K7 _ _ (by omega) (by omega)]; exact e3
          · rw [K7 _ _ (by omega) (by omega)]; exact e4
  have hr : rS m := hI.2
  replace H := f_aload_n H k204_0 rfl
  replace H := f_aload_n H k204_1 rfl
  replace H := f_bipush H k204_2 (v := 24) (by decide)
  have Hob := f_iald H k204_4 (c := 208) (by decide)
  clear H
  obtain ⟨hb4, H⟩ := Hob
  rw [c24, hw] at H
  obtain ⟨rv, m1, ⟨⟨rfl, f1, hY⟩, hc⟩, h9_5⟩ := f_inv H k204_5 (by decide +kernel) (as := [.int _]) (b := 314) (r := []) (by rfl) (fC_two (c_laysYards hr hT hw2) (fC_vC r52 hI hj ⟨aR_a 314, aI_a _, trivial⟩ gF_nil))
  replace H := h9_5
  have hI1 := hc.1
  have hj1 : jM m1 := jM_st (c := (0, [], [], [], r52c.2.2.2.2)) (by decide) m m1 hc.2.1 hj
  clear hc
  have K1 : ∀ a i, a ≠ 328 → m1.1 a i = m.1 a i := fun a i q => f1.2 a i q
  have hr : rS m1 := hI1.2
  replace H := f_iconst H k204_8 (v := 0) (by decide)
  replace H := f_istore_n H k204_9 (l2 := [(2, .int 0), (0, .ref 314), (1, .ref 326)]) rfl
  replace H := f_aload_n H k204_10 rfl
  replace H := f_iconst H k204_11 (v := 0) (by decide)
  replace H := f_put_i H k204_12 (ci := 12) (f := 39) (by decide +kernel) (by decide)
  replace H := f_aload_n H k204_15 rfl
  replace H := f_iconst H k204_16 (v := 0) (by decide)
  replace H := f_put_i H k204_17 (ci := 12) (f := 40) (by decide +kernel) (by decide)
  replace H := f_iconst H k204_20 (v := 0) (by decide)
  replace H := f_istore_n H k204_21 (l2 := [(3, .int 0), (2, .int 0), (0, .ref 314), (1, .ref 326)]) rfl
  replace H := f_ext H (l' := [(3, .int 0), (2, .int 0), (4, .int 0), (0, .ref 314), (1, .ref 326)]) (lE_cons rfl (lE_cons rfl (lE_cons rfl (lE_cons rfl (lE_nil))))) rfl rfl
  obtain ⟨m2, em, H⟩ := f_mem H
  have K2 : ∀ a i, ¬ (a = 314 ∧ (i = 39 ∨ i = 40)) → m2.1 a i = m1.1 a i := fun a i q => by rw [em, mI_ne (by omega), mI_ne (by omega)]
  have hI2 : gI tS tR m2 := by rw [em]; exact gI_m2 (gI_m2 hI1 (by rw [show gseg 39 (tS 314) = (iLo, iHi) by decide +kernel]; exact i32_rng _)) (by rw [show gseg 40 (tS 314) = (iLo, iHi) by decide +kernel]; exact i32_rng _)
  have hj2 : jM m2 := by rw [em]; exact jM_c (by decide) (jM_c (by decide) hj1)
  clear em
  exact lp _ 0 0 m2 (Nat.zero_le _) hI2 hj2 (fun a i q => by rw [K2 _ _ (by omega), K1 _ _ (by omega)]) (fun a b ha hb => by rw [K2 _ _ (by omega)]; exact hY a b ha hb) (fun q hq => absurd hq (Nat.not_lt_zero _)) (fun q _ hq => by rw [K2 _ _ (by omega), K1 _ _ (by omega)]; exact (hf q hq).1) (by rw [K2 _ _ (by omega), K1 _ _ (by omega), hk, show min 999 (k + gcn g 0) = k by show min 999 (k + 0) = k; omega]) (by rw [K2 _ _ (by omega), K1 _ _ (by omega)]; exact hd) (by rw [K2 _ _ (by omega), K1 _ _ (by omega)]; exact hl) H
