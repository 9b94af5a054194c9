/-! the methods words, some at a time -/
def mo1 (k : Nat) : Bool := decide ((kY k).cls ≠ "java/lang/invoke/MethodHandle") && (decide ((kY k).cls ≠ "java/lang/invoke/VarHandle") && (decide (knl k ≤ 45) && (kcl k == 15 || (kY k).cls == cln (kcl k))))
def mo2 (k : Nat) : Bool := decide ((parseMethodDescriptor (kY k).desc).map (fun d => d.parameters.length) = some (knp k))
def mo3 (k : Nat) : Bool := (plainName (kY k).cls || (kY k).cls == "java/lang/Math") && kin k == ((kY k).name == "<init>")
set_option maxRecDepth 100000 in
theorem mwt_0 : (List.range 30).all (fun k => mwt (0 + k)) = true := by decide +kernel
set_option maxRecDepth 100000 in
theorem mwt_30 : (List.range 30).all (fun k => mwt (30 + k)) = true := by decide +kernel
set_option maxRecDepth 100000 in
theorem mwt_60 : (List.range 30).all (fun k => mwt (60 + k)) = true := by decide +kernel
set_option maxRecDepth 100000 in
theorem mwt_90 : (List.range 30).all (fun k => mwt (90 + k)) = true := by decide +kernel
set_option maxRecDepth 100000 in
theorem mwt_120 : (List.range 30).all (fun k => mwt (120 + k)) = true := by decide +kernel
set_option maxRecDepth 100000 in
theorem mwt_150 : (List.range 30).all (fun k => mwt (150 + k)) = true := by decide +kernel
set_option maxRecDepth 100000 in
theorem mwt_180 : (List.range 30).all (fun k => mwt (180 + k)) = true := by decide +kernel
set_option maxRecDepth 100000 in
theorem mwt_210 : (List.range 30).all (fun k => mwt (210 + k)) = true := by decide +kernel
set_option maxRecDepth 100000 in
theorem mwt_240 : (List.range 30).all (fun k => mwt (240 + k)) = true := by decide +kernel
set_option maxRecDepth 100000 in
theorem mwt_270 : (List.range 3).all (fun k => mwt (270 + k)) = true := by decide +kernel
theorem mwt_all {k : Nat} (h : k < 273) : mwt k = true := by
  by_cases h0 : k < 30
  · have e := List.all_eq_true.mp mwt_0 (k - 0) (List.mem_range.mpr (by omega))
    rwa [show 0 + (k - 0) = k by omega] at e
  by_cases h30 : k < 60
  · have e := List.all_eq_true.mp mwt_30 (k - 30) (List.mem_range.mpr (by omega))
    rwa [show 30 + (k - 30) = k by omega] at e
  by_cases h60 : k < 90
  · have e := List.all_eq_true.mp mwt_60 (k - 60) (List.mem_range.mpr (by omega))
    rwa [show 60 + (k - 60) = k by omega] at e
  by_cases h90 : k < 120
  · have e := List.all_eq_true.mp mwt_90 (k - 90) (List.mem_range.mpr (by omega))
    rwa [show 90 + (k - 90) = k by omega] at e
  by_cases h120 : k < 150
  · have e := List.all_eq_true.mp mwt_120 (k - 120) (List.mem_range.mpr (by omega))
    rwa [show 120 + (k - 120) = k by omega] at e
  by_cases h150 : k < 180
  · have e := List.all_eq_true.mp mwt_150 (k - 150) (List.mem_range.mpr (by omega))
    rwa [show 150 + (k - 150) = k by omega] at e
  by_cases h180 : k < 210
  · have e := List.all_eq_true.mp mwt_180 (k - 180) (List.mem_range.mpr (by omega))
    rwa [show 180 + (k - 180) = k by omega] at e
  by_cases h210 : k < 240
  · have e := List.all_eq_true.mp mwt_210 (k - 210) (List.mem_range.mpr (by omega))
    rwa [show 210 + (k - 210) = k by omega] at e
  by_cases h240 : k < 270
  · have e := List.all_eq_true.mp mwt_240 (k - 240) (List.mem_range.mpr (by omega))
    rwa [show 240 + (k - 240) = k by omega] at e
  by_cases h270 : k < 273
  · have e := List.all_eq_true.mp mwt_270 (k - 270) (List.mem_range.mpr (by omega))
    rwa [show 270 + (k - 270) = k by omega] at e
  exact absurd h (by omega)
set_option maxRecDepth 100000 in
theorem mo1_0 : (List.range 30).all (fun k => mo1 (0 + k)) = true := by decide +kernel
set_option maxRecDepth 100000 in
theorem mo1_30 : (List.range 30).all (fun k => mo1 (30 + k)) = true := by decide +kernel
set_option maxRecDepth 100000 in
theorem mo1_60 : (List.range 30).all (fun k => mo1 (60 + k)) = true := by decide +kernel
set_option maxRecDepth 100000 in
theorem mo1_90 : (List.range 30).all (fun k => mo1 (90 + k)) = true := by decide +kernel
set_option maxRecDepth 100000 in
theorem mo1_120 : (List.range 30).all (fun k => mo1 (120 + k)) = true := by decide +kernel
set_option maxRecDepth 100000 in
theorem mo1_150 : (List.range 30).all (fun k => mo1 (150 + k)) = true := by decide +kernel
set_option maxRecDepth 100000 in
theorem mo1_180 : (List.range 30).all (fun k => mo1 (180 + k)) = true := by decide +kernel
set_option maxRecDepth 100000 in
theorem mo1_210 : (List.range 30).all (fun k => mo1 (210 + k)) = true := by decide +kernel
set_option maxRecDepth 100000 in
theorem mo1_240 : (List.range 30).all (fun k => mo1 (240 + k)) = true := by decide +kernel
set_option maxRecDepth 100000 in
theorem mo1_270 : (List.range 3).all (fun k => mo1 (270 + k)) = true := by decide +kernel
theorem mo1_all {k : Nat} (h : k < 273) : mo1 k = true := by
  by_cases h0 : k < 30
  · have e := List.all_eq_true.mp mo1_0 (k - 0) (List.mem_range.mpr (by omega))
    rwa [show 0 + (k - 0) = k by omega] at e
  by_cases h30 : k < 60
  · have e := List.all_eq_true.mp mo1_30 (k - 30) (List.mem_range.mpr (by omega))
    rwa [show 30 + (k - 30) = k by omega] at e
  by_cases h60 : k < 90
  · have e := List.all_eq_true.mp mo1_60 (k - 60) (List.mem_range.mpr (by omega))
    rwa [show 60 + (k - 60) = k by omega] at e
  by_cases h90 : k < 120
  · have e := List.all_eq_true.mp mo1_90 (k - 90) (List.mem_range.mpr (by omega))
    rwa [show 90 + (k - 90) = k by omega] at e
  by_cases h120 : k < 150
  · have e := List.all_eq_true.mp mo1_120 (k - 120) (List.mem_range.mpr (by omega))
    rwa [show 120 + (k - 120) = k by omega] at e
  by_cases h150 : k < 180
  · have e := List.all_eq_true.mp mo1_150 (k - 150) (List.mem_range.mpr (by omega))
    rwa [show 150 + (k - 150) = k by omega] at e
  by_cases h180 : k < 210
  · have e := List.all_eq_true.mp mo1_180 (k - 180) (List.mem_range.mpr (by omega))
    rwa [show 180 + (k - 180) = k by omega] at e
  by_cases h210 : k < 240
  · have e := List.all_eq_true.mp mo1_210 (k - 210) (List.mem_range.mpr (by omega))
    rwa [show 210 + (k - 210) = k by omega] at e
  by_cases h240 : k < 270
  · have e := List.all_eq_true.mp mo1_240 (k - 240) (List.mem_range.mpr (by omega))
    rwa [show 240 + (k - 240) = k by omega] at e
  by_cases h270 : k < 273
  · have e := List.all_eq_true.mp mo1_270 (k - 270) (List.mem_range.mpr (by omega))
    rwa [show 270 + (k - 270) = k by omega] at e
  exact absurd h (by omega)
set_option maxRecDepth 100000 in
theorem mo2_0 : (List.range 30).all (fun k => mo2 (0 + k)) = true := by decide +kernel
set_option maxRecDepth 100000 in
theorem mo2_30 : (List.range 30).all (fun k => mo2 (30 + k)) = true := by decide +kernel
set_option maxRecDepth 100000 in
theorem mo2_60 : (List.range 30).all (fun k => mo2 (60 + k)) = true := by decide +kernel
set_option maxRecDepth 100000 in
theorem mo2_90 : (List.range 30).all (fun k => mo2 (90 + k)) = true := by decide +kernel
set_option maxRecDepth 100000 in
theorem mo2_120 : (List.range 30).all (fun k => mo2 (120 + k)) = true := by decide +kernel
set_option maxRecDepth 100000 in
theorem mo2_150 : (List.range 30).all (fun k => mo2 (150 + k)) = true := by decide +kernel
set_option maxRecDepth 100000 in
theorem mo2_180 : (List.range 30).all (fun k => mo2 (180 + k)) = true := by decide +kernel
set_option maxRecDepth 100000 in
theorem mo2_210 : (List.range 30).all (fun k => mo2 (210 + k)) = true := by decide +kernel
set_option maxRecDepth 100000 in
theorem mo2_240 : (List.range 30).all (fun k => mo2 (240 + k)) = true := by decide +kernel
set_option maxRecDepth 100000 in
theorem mo2_270 : (List.range 3).all (fun k => mo2 (270 + k)) = true := by decide +kernel
theorem mo2_all {k : Nat} (h : k < 273) : mo2 k = true := by
  by_cases h0 : k < 30
  · have e := List.all_eq_true.mp mo2_0 (k - 0) (List.mem_range.mpr (by omega))
    rwa [show 0 + (k - 0) = k by omega] at e
  by_cases h30 : k < 60
  · have e := List.all_eq_true.mp mo2_30 (k - 30) (List.mem_range.mpr (by omega))
    rwa [show 30 + (k - 30) = k by omega] at e
  by_cases h60 : k < 90
  · have e := List.all_eq_true.mp mo2_60 (k - 60) (List.mem_range.mpr (by omega))
    rwa [show 60 + (k - 60) = k by omega] at e
  by_cases h90 : k < 120
  · have e := List.all_eq_true.mp mo2_90 (k - 90) (List.mem_range.mpr (by omega))
    rwa [show 90 + (k - 90) = k by omega] at e
  by_cases h120 : k < 150
  · have e := List.all_eq_true.mp mo2_120 (k - 120) (List.mem_range.mpr (by omega))
    rwa [show 120 + (k - 120) = k by omega] at e
  by_cases h150 : k < 180
  · have e := List.all_eq_true.mp mo2_150 (k - 150) (List.mem_range.mpr (by omega))
    rwa [show 150 + (k - 150) = k by omega] at e
  by_cases h180 : k < 210
  · have e := List.all_eq_true.mp mo2_180 (k - 180) (List.mem_range.mpr (by omega))
    rwa [show 180 + (k - 180) = k by omega] at e
  by_cases h210 : k < 240
  · have e := List.all_eq_true.mp mo2_210 (k - 210) (List.mem_range.mpr (by omega))
    rwa [show 210 + (k - 210) = k by omega] at e
  by_cases h240 : k < 270
  · have e := List.all_eq_true.mp mo2_240 (k - 240) (List.mem_range.mpr (by omega))
    rwa [show 240 + (k - 240) = k by omega] at e
  by_cases h270 : k < 273
  · have e := List.all_eq_true.mp mo2_270 (k - 270) (List.mem_range.mpr (by omega))
    rwa [show 270 + (k - 270) = k by omega] at e
  exact absurd h (by omega)
set_option maxRecDepth 100000 in
theorem mo3_0 : (List.range 30).all (fun k => mo3 (0 + k)) = true := by decide +kernel
set_option maxRecDepth 100000 in
theorem mo3_30 : (List.range 30).all (fun k => mo3 (30 + k)) = true := by decide +kernel
set_option maxRecDepth 100000 in
theorem mo3_60 : (List.range 30).all (fun k => mo3 (60 + k)) = true := by decide +kernel
set_option maxRecDepth 100000 in
theorem mo3_90 : (List.range 30).all (fun k => mo3 (90 + k)) = true := by decide +kernel
set_option maxRecDepth 100000 in
theorem mo3_120 : (List.range 30).all (fun k => mo3 (120 + k)) = true := by decide +kernel
set_option maxRecDepth 100000 in
theorem mo3_150 : (List.range 30).all (fun k => mo3 (150 + k)) = true := by decide +kernel
set_option maxRecDepth 100000 in
theorem mo3_180 : (List.range 30).all (fun k => mo3 (180 + k)) = true := by decide +kernel
set_option maxRecDepth 100000 in
theorem mo3_210 : (List.range 30).all (fun k => mo3 (210 + k)) = true := by decide +kernel
set_option maxRecDepth 100000 in
theorem mo3_240 : (List.range 30).all (fun k => mo3 (240 + k)) = true := by decide +kernel
set_option maxRecDepth 100000 in
theorem mo3_270 : (List.range 3).all (fun k => mo3 (270 + k)) = true := by decide +kernel
theorem mo3_all {k : Nat} (h : k < 273) : mo3 k = true := by
  by_cases h0 : k < 30
  · have e := List.all_eq_true.mp mo3_0 (k - 0) (List.mem_range.mpr (by omega))
    rwa [show 0 + (k - 0) = k by omega] at e
  by_cases h30 : k < 60
  · have e := List.all_eq_true.mp mo3_30 (k - 30) (List.mem_range.mpr (by omega))
    rwa [show 30 + (k - 30) = k by omega] at e
  by_cases h60 : k < 90
  · have e := List.all_eq_true.mp mo3_60 (k - 60) (List.mem_range.mpr (by omega))
    rwa [show 60 + (k - 60) = k by omega] at e
  by_cases h90 : k < 120
  · have e := List.all_eq_true.mp mo3_90 (k - 90) (List.mem_range.mpr (by omega))
    rwa [show 90 + (k - 90) = k by omega] at e
  by_cases h120 : k < 150
  · have e := List.all_eq_true.mp mo3_120 (k - 120) (List.mem_range.mpr (by omega))
    rwa [show 120 + (k - 120) = k by omega] at e
  by_cases h150 : k < 180
  · have e := List.all_eq_true.mp mo3_150 (k - 150) (List.mem_range.mpr (by omega))
    rwa [show 150 + (k - 150) = k by omega] at e
  by_cases h180 : k < 210
  · have e := List.all_eq_true.mp mo3_180 (k - 180) (List.mem_range.mpr (by omega))
    rwa [show 180 + (k - 180) = k by omega] at e
  by_cases h210 : k < 240
  · have e := List.all_eq_true.mp mo3_210 (k - 210) (List.mem_range.mpr (by omega))
    rwa [show 210 + (k - 210) = k by omega] at e
  by_cases h240 : k < 270
  · have e := List.all_eq_true.mp mo3_240 (k - 240) (List.mem_range.mpr (by omega))
    rwa [show 240 + (k - 240) = k by omega] at e
  by_cases h270 : k < 273
  · have e := List.all_eq_true.mp mo3_270 (k - 270) (List.mem_range.mpr (by omega))
    rwa [show 270 + (k - 270) = k by omega] at e
  exact absurd h (by omega)
