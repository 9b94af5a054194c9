/-! classes, code words -/
theorem pf265 : plainFor (kY 265) = true := by decide +kernel
theorem pf266 : plainFor (kY 266) = true := by decide +kernel
theorem pf267 : plainFor (kY 267) = true := by decide +kernel
theorem pf268 : plainFor (kY 268) = true := by decide +kernel
theorem pf269 : plainFor (kY 269) = true := by decide +kernel
theorem pf270 : plainFor (kY 270) = true := by decide +kernel
def uwL : List (List Nat) := [[477, 479, 481], [379, 381, 383, 385, 387, 389, 391], [262, 264, 266], [291, 293, 295, 297, 299, 301, 303, 305, 307, 309, 311, 313], [493, 495, 497], [234, 236, 238, 240, 242, 244, 246, 248], [449, 451, 453, 455, 457, 459, 461], [408, 410, 412, 414, 416, 418], [196, 198, 200, 202], [331, 333, 335, 337, 339], [353, 355, 357, 359], [517, 519, 521, 523, 525, 527, 529, 531, 533, 535, 537, 539, 541, 543, 545, 547, 549], [1342, 1344, 1346, 1348, 1350, 1352, 1354, 1356, 1358, 1360, 1362, 1364, 1366, 1368, 1370, 1372, 1374, 1376, 1378, 1380, 1382, 1384, 1386, 1388, 1390, 1392, 1394, 1396, 1398, 1400, 1402, 1404, 1406, 1408, 1410, 1412, 1414, 1416, 1418, 1420, 1422, 1424, 1426, 1428, 1430, 1432, 1434, 1436, 1438, 1440, 1442, 1444, 1446, 1448]]
set_option maxRecDepth 100000 in
theorem uw_all : (List.range 13).all (fun c => decide (u_ws (cln c) (kT c) (kNf c) = (uwL.getD c []).filterMap (fun i => lwA i)) && (u_ws (cln c) (kT c) (kNf c)).all goodWord) = true := by decide +kernel
set_option maxRecDepth 100000 in
theorem ty_all : (List.range 13).all (fun c => (List.range (kNf c)).all (fun k => decide (parseFieldDescriptor (kT c k).2.2.1 = some (kty c k)) && (decide ((kT c k).2.2.2 = fn c k) && (decide ((kT c k).1 = cln c) && (match fk c k, kty c k with | 0, .int => true | 1, .boolean => true | 2, .long => true | 3, .object _ => true | 3, .array _ => true | _, _ => false))))) = true := by decide +kernel
set_option maxRecDepth 100000 in
theorem nm_all : (List.range 13).all (fun c => (List.range (kNf c)).all (fun a => (List.range (kNf c)).all (fun b => a == b || decide ((kT c a).2.1 ≠ (kT c b).2.1)))) = true := by decide +kernel
theorem fa_nil {α : Type} {P : α → Prop} : ∀ a ∈ ([] : List α), P a := fun _ h => by cases h
theorem fa_cons {α : Type} {P : α → Prop} {a : α} {t : List α} (h : P a) (ht : ∀ b ∈ t, P b) : ∀ b ∈ a :: t, P b := fun b hb => by
  rcases List.mem_cons.mp hb with e | hb
  · rw [e]; exact h
  · exact ht b hb
theorem vw_all : ∀ c ∈ [0, 1, 2, 3, 4, 5, 6, 7, 8, 9, 10, 11, 12], vwCl[c]? = some (cln c, kT c, kNf c) := fa_cons rfl (fa_cons rfl (fa_cons rfl (fa_cons rfl (fa_cons rfl (fa_cons rfl (fa_cons rfl (fa_cons rfl (fa_cons rfl (fa_cons rfl (fa_cons rfl (fa_cons rfl (fa_cons rfl (fa_nil)))))))))))))
theorem ly_all : (List.range 335).all (fun k => match lay k with | (0, x, _) => decide (x < 3) | (1, x, _) => decide (x = 4) | (2, x, n) => (decide (x = 5) || decide (x = 6)) | (3, c, n) => decide (c < 13) && decide (n = kNf c) | _ => false) = true := by decide +kernel
theorem tq_1 : ∀ w ∈ tables_1_1, w ∈ lw_tbl := fun _ h => List.mem_append_right _ (List.mem_append_left _ h)
theorem tq_2 : ∀ w ∈ tables_1_2, w ∈ lw_tbl := fun _ h => List.mem_append_right _ (List.mem_append_right _ (List.mem_append_left _ h))
theorem tq_3 : ∀ w ∈ tables_1_3, w ∈ lw_tbl := fun _ h => List.mem_append_right _ (List.mem_append_right _ (List.mem_append_right _ (List.mem_append_left _ h)))
theorem tq_4 : ∀ w ∈ tables_1_4, w ∈ lw_tbl := fun _ h => List.mem_append_right _ (List.mem_append_right _ (List.mem_append_right _ (List.mem_append_right _ (List.mem_append_left _ h))))
theorem tq_5 : ∀ w ∈ tables_1_5, w ∈ lw_tbl := fun _ h => List.mem_append_right _ (List.mem_append_right _ (List.mem_append_right _ (List.mem_append_right _ (List.mem_append_right _ (List.mem_append_left _ h)))))
theorem tq_6 : ∀ w ∈ tables_1_6, w ∈ lw_tbl := fun _ h => List.mem_append_right _ (List.mem_append_right _ (List.mem_append_right _ (List.mem_append_right _ (List.mem_append_right _ (List.mem_append_right _ (List.mem_append_left _ h))))))
theorem tq_7 : ∀ w ∈ tables_1_7, w ∈ lw_tbl := fun _ h => List.mem_append_right _ (List.mem_append_right _ (List.mem_append_right _ (List.mem_append_right _ (List.mem_append_right _ (List.mem_append_right _ (List.mem_append_right _ (List.mem_append_left _ h)))))))
theorem tq_8 : ∀ w ∈ tables_1_8, w ∈ lw_tbl := fun _ h => List.mem_append_right _ (List.mem_append_right _ (List.mem_append_right _ (List.mem_append_right _ (List.mem_append_right _ (List.mem_append_right _ (List.mem_append_right _ (List.mem_append_right _ (h))))))))
set_option maxRecDepth 100000 in
theorem cdw0 : Cond.code (kY 0) (kB 0) (knl 0) (krt 0) ∈ lw_tbl := tq_2 _ (List.mem_of_getElem? (i := 81) rfl)
set_option maxRecDepth 100000 in
theorem cdw1 : Cond.code (kY 1) (kB 1) (knl 1) (krt 1) ∈ lw_tbl := tq_3 _ (List.mem_of_getElem? (i := 201) rfl)
set_option maxRecDepth 100000 in
theorem cdw2 : Cond.code (kY 2) (kB 2) (knl 2) (krt 2) ∈ lw_tbl := tq_4 _ (List.mem_of_getElem? (i := 106) rfl)
set_option maxRecDepth 100000 in
theorem cdw3 : Cond.code (kY 3) (kB 3) (knl 3) (krt 3) ∈ lw_tbl := tq_3 _ (List.mem_of_getElem? (i := 123) rfl)
set_option maxRecDepth 100000 in
theorem cdw4 : Cond.code (kY 4) (kB 4) (knl 4) (krt 4) ∈ lw_tbl := tq_1 _ (List.mem_of_getElem? (i := 219) rfl)
set_option maxRecDepth 100000 in
theorem cdw5 : Cond.code (kY 5) (kB 5) (knl 5) (krt 5) ∈ lw_tbl := tq_3 _ (List.mem_of_getElem? (i := 215) rfl)
set_option maxRecDepth 100000 in
theorem cdw6 : Cond.code (kY 6) (kB 6) (knl 6) (krt 6) ∈ lw_tbl := tq_4 _ (List.mem_of_getElem? (i := 11) rfl)
set_option maxRecDepth 100000 in
theorem cdw7 : Cond.code (kY 7) (kB 7) (knl 7) (krt 7) ∈ lw_tbl := tq_4 _ (List.mem_of_getElem? (i := 7) rfl)
set_option maxRecDepth 100000 in
theorem cdw8 : Cond.code (kY 8) (kB 8) (knl 8) (krt 8) ∈ lw_tbl := tq_4 _ (List.mem_of_getElem? (i := 2) rfl)
set_option maxRecDepth 100000 in
theorem cdw9 : Cond.code (kY 9) (kB 9) (knl 9) (krt 9) ∈ lw_tbl := tq_3 _ (List.mem_of_getElem? (i := 238) rfl)
set_option maxRecDepth 100000 in
theorem cdw10 : Cond.code (kY 10) (kB 10) (knl 10) (krt 10) ∈ lw_tbl := tq_5 _ (List.mem_of_getElem? (i := 35) rfl)
set_option maxRecDepth 100000 in
theorem cdw11 : Cond.code (kY 11) (kB 11) (knl 11) (krt 11) ∈ lw_tbl := tq_5 _ (List.mem_of_getElem? (i := 43) rfl)
set_option maxRecDepth 100000 in
theorem cdw12 : Cond.code (kY 12) (kB 12) (knl 12) (krt 12) ∈ lw_tbl := tq_1 _ (List.mem_of_getElem? (i := 108) rfl)
set_option maxRecDepth 100000 in
theorem cdw13 : Cond.code (kY 13) (kB 13) (knl 13) (krt 13) ∈ lw_tbl := tq_3 _ (List.mem_of_getElem? (i := 42) rfl)
set_option maxRecDepth 100000 in
theorem cdw14 : Cond.code (kY 14) (kB 14) (knl 14) (krt 14) ∈ lw_tbl := tq_3 _ (List.mem_of_getElem? (i := 47) rfl)
set_option maxRecDepth 100000 in
theorem cdw15 : Cond.code (kY 15) (kB 15) (knl 15) (krt 15) ∈ lw_tbl := tq_3 _ (List.mem_of_getElem? (i := 79) rfl)
set_option maxRecDepth 100000 in
theorem cdw16 : Cond.code (kY 16) (kB 16) (knl 16) (krt 16) ∈ lw_tbl := tq_3 _ (List.mem_of_getElem? (i := 83) rfl)
set_option maxRecDepth 100000 in
theorem cdw17 : Cond.code (kY 17) (kB 17) (knl 17) (krt 17) ∈ lw_tbl := tq_3 _ (List.mem_of_getElem? (i := 87) rfl)
set_option maxRecDepth 100000 in
theorem cdw18 : Cond.code (kY 18) (kB 18) (knl 18) (krt 18) ∈ lw_tbl := tq_3 _ (List.mem_of_getElem? (i := 91) rfl)
set_option maxRecDepth 100000 in
theorem cdw19 : Cond.code (kY 19) (kB 19) (knl 19) (krt 19) ∈ lw_tbl := tq_3 _ (List.mem_of_getElem? (i := 53) rfl)
set_option maxRecDepth 100000 in
theorem cdw20 : Cond.code (kY 20) (kB 20) (knl 20) (krt 20) ∈ lw_tbl := tq_3 _ (List.mem_of_getElem? (i := 57) rfl)
set_option maxRecDepth 100000 in
theorem cdw21 : Cond.code (kY 21) (kB 21) (knl 21) (krt 21) ∈ lw_tbl := tq_3 _ (List.mem_of_getElem? (i := 61) rfl)
set_option maxRecDepth 100000 in
theorem cdw22 : Cond.code (kY 22) (kB 22) (knl 22) (krt 22) ∈ lw_tbl := tq_3 _ (List.mem_of_getElem? (i := 70) rfl)
set_option maxRecDepth 100000 in
theorem cdw23 : Cond.code (kY 23) (kB 23) (knl 23) (krt 23) ∈ lw_tbl := tq_3 _ (List.mem_of_getElem? (i := 75) rfl)
set_option maxRecDepth 100000 in
theorem cdw24 : Cond.code (kY 24) (kB 24) (knl 24) (krt 24) ∈ lw_tbl := tq_3 _ (List.mem_of_getElem? (i := 67) rfl)
set_option maxRecDepth 100000 in
theorem cdw25 : Cond.code (kY 25) (kB 25) (knl 25) (krt 25) ∈ lw_tbl := tq_1 _ (List.mem_of_getElem? (i := 126) rfl)
set_option maxRecDepth 100000 in
theorem cdw26 : Cond.code (kY 26) (kB 26) (knl 26) (krt 26) ∈ lw_tbl := tq_3 _ (List.mem_of_getElem? (i := 127) rfl)
set_option maxRecDepth 100000 in
theorem cdw27 : Cond.code (kY 27) (kB 27) (knl 27) (krt 27) ∈ lw_tbl := tq_4 _ (List.mem_of_getElem? (i := 20) rfl)
set_option maxRecDepth 100000 in
theorem cdw28 : Cond.code (kY 28) (kB 28) (knl 28) (krt 28) ∈ lw_tbl := tq_4 _ (List.mem_of_getElem? (i := 24) rfl)
set_option maxRecDepth 100000 in
theorem cdw29 : Cond.code (kY 29) (kB 29) (knl 29) (krt 29) ∈ lw_tbl := tq_4 _ (List.mem_of_getElem? (i := 28) rfl)
set_option maxRecDepth 100000 in
theorem cdw30 : Cond.code (kY 30) (kB 30) (knl 30) (krt 30) ∈ lw_tbl := tq_4 _ (List.mem_of_getElem? (i := 41) rfl)
set_option maxRecDepth 100000 in
theorem cdw31 : Cond.code (kY 31) (kB 31) (knl 31) (krt 31) ∈ lw_tbl := tq_4 _ (List.mem_of_getElem? (i := 44) rfl)
set_option maxRecDepth 100000 in
theorem cdw32 : Cond.code (kY 32) (kB 32) (knl 32) (krt 32) ∈ lw_tbl := tq_4 _ (List.mem_of_getElem? (i := 47) rfl)
set_option maxRecDepth 100000 in
theorem cdw33 : Cond.code (kY 33) (kB 33) (knl 33) (krt 33) ∈ lw_tbl := tq_4 _ (List.mem_of_getElem? (i := 32) rfl)
set_option maxRecDepth 100000 in
theorem cdw34 : Cond.code (kY 34) (kB 34) (knl 34) (krt 34) ∈ lw_tbl := tq_4 _ (List.mem_of_getElem? (i := 36) rfl)
set_option maxRecDepth 100000 in
theorem cdw35 : Cond.code (kY 35) (kB 35) (knl 35) (krt 35) ∈ lw_tbl := tq_2 _ (List.mem_of_getElem? (i := 101) rfl)
set_option maxRecDepth 100000 in
theorem cdw36 : Cond.code (kY 36) (kB 36) (knl 36) (krt 36) ∈ lw_tbl := tq_4 _ (List.mem_of_getElem? (i := 59) rfl)
set_option maxRecDepth 100000 in
theorem cdw37 : Cond.code (kY 37) (kB 37) (knl 37) (krt 37) ∈ lw_tbl := tq_4 _ (List.mem_of_getElem? (i := 114) rfl)
set_option maxRecDepth 100000 in
theorem cdw38 : Cond.code (kY 38) (kB 38) (knl 38) (krt 38) ∈ lw_tbl := tq_4 _ (List.mem_of_getElem? (i := 123) rfl)
set_option maxRecDepth 100000 in
theorem cdw39 : Cond.code (kY 39) (kB 39) (knl 39) (krt 39) ∈ lw_tbl := tq_1 _ (List.mem_of_getElem? (i := 63) rfl)
set_option maxRecDepth 100000 in
theorem cdw40 : Cond.code (kY 40) (kB 40) (knl 40) (krt 40) ∈ lw_tbl := tq_3 _ (List.mem_of_getElem? (i := 111) rfl)
set_option maxRecDepth 100000 in
theorem cdw41 : Cond.code (kY 41) (kB 41) (knl 41) (krt 41) ∈ lw_tbl := tq_2 _ (List.mem_of_getElem? (i := 187) rfl)
set_option maxRecDepth 100000 in
theorem cdw42 : Cond.code (kY 42) (kB 42) (knl 42) (krt 42) ∈ lw_tbl := tq_2 _ (List.mem_of_getElem? (i := 191) rfl)
set_option maxRecDepth 100000 in
theorem cdw43 : Cond.code (kY 43) (kB 43) (knl 43) (krt 43) ∈ lw_tbl := tq_2 _ (List.mem_of_getElem? (i := 204) rfl)
set_option maxRecDepth 100000 in
theorem cdw44 : Cond.code (kY 44) (kB 44) (knl 44) (krt 44) ∈ lw_tbl := tq_2 _ (List.mem_of_getElem? (i := 225) rfl)
set_option maxRecDepth 100000 in
theorem cdw45 : Cond.code (kY 45) (kB 45) (knl 45) (krt 45) ∈ lw_tbl := tq_2 _ (List.mem_of_getElem? (i := 228) rfl)
set_option maxRecDepth 100000 in
theorem cdw46 : Cond.code (kY 46) (kB 46) (knl 46) (krt 46) ∈ lw_tbl := tq_3 _ (List.mem_of_getElem? (i := 26) rfl)
set_option maxRecDepth 100000 in
theorem cdw47 : Cond.code (kY 47) (kB 47) (knl 47) (krt 47) ∈ lw_tbl := tq_3 _ (List.mem_of_getElem? (i := 38) rfl)
set_option maxRecDepth 100000 in
theorem cdw48 : Cond.code (kY 48) (kB 48) (knl 48) (krt 48) ∈ lw_tbl := tq_3 _ (List.mem_of_getElem? (i := 30) rfl)
set_option maxRecDepth 100000 in
theorem cdw49 : Cond.code (kY 49) (kB 49) (knl 49) (krt 49) ∈ lw_tbl := tq_3 _ (List.mem_of_getElem? (i := 34) rfl)
set_option maxRecDepth 100000 in
theorem cdw50 : Cond.code (kY 50) (kB 50) (knl 50) (krt 50) ∈ lw_tbl := tq_3 _ (List.mem_of_getElem? (i := 169) rfl)
set_option maxRecDepth 100000 in
theorem cdw51 : Cond.code (kY 51) (kB 51) (knl 51) (krt 51) ∈ lw_tbl := tq_3 _ (List.mem_of_getElem? (i := 119) rfl)
set_option maxRecDepth 100000 in
theorem cdw52 : Cond.code (kY 52) (kB 52) (knl 52) (krt 52) ∈ lw_tbl := tq_3 _ (List.mem_of_getElem? (i := 149) rfl)
set_option maxRecDepth 100000 in
theorem cdw53 : Cond.code (kY 53) (kB 53) (knl 53) (krt 53) ∈ lw_tbl := tq_3 _ (List.mem_of_getElem? (i := 220) rfl)
set_option maxRecDepth 100000 in
theorem cdw54 : Cond.code (kY 54) (kB 54) (knl 54) (krt 54) ∈ lw_tbl := tq_4 _ (List.mem_of_getElem? (i := 170) rfl)
set_option maxRecDepth 100000 in
theorem cdw55 : Cond.code (kY 55) (kB 55) (knl 55) (krt 55) ∈ lw_tbl := tq_5 _ (List.mem_of_getElem? (i := 63) rfl)
set_option maxRecDepth 100000 in
theorem cdw56 : Cond.code (kY 56) (kB 56) (knl 56) (krt 56) ∈ lw_tbl := tq_5 _ (List.mem_of_getElem? (i := 68) rfl)
set_option maxRecDepth 100000 in
theorem cdw57 : Cond.code (kY 57) (kB 57) (knl 57) (krt 57) ∈ lw_tbl := tq_5 _ (List.mem_of_getElem? (i := 93) rfl)
set_option maxRecDepth 100000 in
theorem cdw58 : Cond.code (kY 58) (kB 58) (knl 58) (krt 58) ∈ lw_tbl := tq_2 _ (List.mem_of_getElem? (i := 39) rfl)
set_option maxRecDepth 100000 in
theorem cdw59 : Cond.code (kY 59) (kB 59) (knl 59) (krt 59) ∈ lw_tbl := tq_3 _ (List.mem_of_getElem? (i := 115) rfl)
set_option maxRecDepth 100000 in
theorem cdw60 : Cond.code (kY 60) (kB 60) (knl 60) (krt 60) ∈ lw_tbl := tq_3 _ (List.mem_of_getElem? (i := 205) rfl)
set_option maxRecDepth 100000 in
theorem cdw61 : Cond.code (kY 61) (kB 61) (knl 61) (krt 61) ∈ lw_tbl := tq_2 _ (List.mem_of_getElem? (i := 11) rfl)
set_option maxRecDepth 100000 in
theorem cdw62 : Cond.code (kY 62) (kB 62) (knl 62) (krt 62) ∈ lw_tbl := tq_4 _ (List.mem_of_getElem? (i := 215) rfl)
set_option maxRecDepth 100000 in
theorem cdw63 : Cond.code (kY 63) (kB 63) (knl 63) (krt 63) ∈ lw_tbl := tq_4 _ (List.mem_of_getElem? (i := 223) rfl)
set_option maxRecDepth 100000 in
theorem cdw64 : Cond.code (kY 64) (kB 64) (knl 64) (krt 64) ∈ lw_tbl := tq_4 _ (List.mem_of_getElem? (i := 229) rfl)
set_option maxRecDepth 100000 in
theorem cdw65 : Cond.code (kY 65) (kB 65) (knl 65) (krt 65) ∈ lw_tbl := tq_4 _ (List.mem_of_getElem? (i := 237) rfl)
set_option maxRecDepth 100000 in
theorem cdw66 : Cond.code (kY 66) (kB 66) (knl 66) (krt 66) ∈ lw_tbl := tq_1 _ (List.mem_of_getElem? (i := 37) rfl)
set_option maxRecDepth 100000 in
theorem cdw67 : Cond.code (kY 67) (kB 67) (knl 67) (krt 67) ∈ lw_tbl := tq_2 _ (List.mem_of_getElem? (i := 171) rfl)
set_option maxRecDepth 100000 in
theorem cdw68 : Cond.code (kY 68) (kB 68) (knl 68) (krt 68) ∈ lw_tbl := tq_2 _ (List.mem_of_getElem? (i := 175) rfl)
set_option maxRecDepth 100000 in
theorem cdw69 : Cond.code (kY 69) (kB 69) (knl 69) (krt 69) ∈ lw_tbl := tq_2 _ (List.mem_of_getElem? (i := 200) rfl)
set_option maxRecDepth 100000 in
theorem cdw70 : Cond.code (kY 70) (kB 70) (knl 70) (krt 70) ∈ lw_tbl := tq_3 _ (List.mem_of_getElem? (i := 0) rfl)
set_option maxRecDepth 100000 in
theorem cdw71 : Cond.code (kY 71) (kB 71) (knl 71) (krt 71) ∈ lw_tbl := tq_2 _ (List.mem_of_getElem? (i := 212) rfl)
set_option maxRecDepth 100000 in
theorem cdw72 : Cond.code (kY 72) (kB 72) (knl 72) (krt 72) ∈ lw_tbl := tq_2 _ (List.mem_of_getElem? (i := 208) rfl)
set_option maxRecDepth 100000 in
theorem cdw73 : Cond.code (kY 73) (kB 73) (knl 73) (krt 73) ∈ lw_tbl := tq_2 _ (List.mem_of_getElem? (i := 216) rfl)
set_option maxRecDepth 100000 in
theorem cdw74 : Cond.code (kY 74) (kB 74) (knl 74) (krt 74) ∈ lw_tbl := tq_2 _ (List.mem_of_getElem? (i := 232) rfl)
set_option maxRecDepth 100000 in
theorem cdw75 : Cond.code (kY 75) (kB 75) (knl 75) (krt 75) ∈ lw_tbl := tq_3 _ (List.mem_of_getElem? (i := 20) rfl)
set_option maxRecDepth 100000 in
theorem cdw76 : Cond.code (kY 76) (kB 76) (knl 76) (krt 76) ∈ lw_tbl := tq_2 _ (List.mem_of_getElem? (i := 236) rfl)
set_option maxRecDepth 100000 in
theorem cdw77 : Cond.code (kY 77) (kB 77) (knl 77) (krt 77) ∈ lw_tbl := tq_1 _ (List.mem_of_getElem? (i := 173) rfl)
set_option maxRecDepth 100000 in
theorem cdw78 : Cond.code (kY 78) (kB 78) (knl 78) (krt 78) ∈ lw_tbl := tq_3 _ (List.mem_of_getElem? (i := 95) rfl)
set_option maxRecDepth 100000 in
theorem cdw79 : Cond.code (kY 79) (kB 79) (knl 79) (krt 79) ∈ lw_tbl := tq_3 _ (List.mem_of_getElem? (i := 132) rfl)
set_option maxRecDepth 100000 in
theorem cdw80 : Cond.code (kY 80) (kB 80) (knl 80) (krt 80) ∈ lw_tbl := tq_1 _ (List.mem_of_getElem? (i := 199) rfl)
set_option maxRecDepth 100000 in
theorem cdw81 : Cond.code (kY 81) (kB 81) (knl 81) (krt 81) ∈ lw_tbl := tq_3 _ (List.mem_of_getElem? (i := 225) rfl)
set_option maxRecDepth 100000 in
theorem cdw82 : Cond.code (kY 82) (kB 82) (knl 82) (krt 82) ∈ lw_tbl := tq_3 _ (List.mem_of_getElem? (i := 233) rfl)
set_option maxRecDepth 100000 in
theorem cdw83 : Cond.code (kY 83) (kB 83) (knl 83) (krt 83) ∈ lw_tbl := tq_4 _ (List.mem_of_getElem? (i := 144) rfl)
set_option maxRecDepth 100000 in
theorem cdw84 : Cond.code (kY 84) (kB 84) (knl 84) (krt 84) ∈ lw_tbl := tq_4 _ (List.mem_of_getElem? (i := 140) rfl)
set_option maxRecDepth 100000 in
theorem cdw85 : Cond.code (kY 85) (kB 85) (knl 85) (krt 85) ∈ lw_tbl := tq_4 _ (List.mem_of_getElem? (i := 15) rfl)
set_option maxRecDepth 100000 in
theorem cdw86 : Cond.code (kY 86) (kB 86) (knl 86) (krt 86) ∈ lw_tbl := tq_5 _ (List.mem_of_getElem? (i := 88) rfl)
set_option maxRecDepth 100000 in
theorem cdw87 : Cond.code (kY 87) (kB 87) (knl 87) (krt 87) ∈ lw_tbl := tq_4 _ (List.mem_of_getElem? (i := 158) rfl)
set_option maxRecDepth 100000 in
theorem cdw88 : Cond.code (kY 88) (kB 88) (knl 88) (krt 88) ∈ lw_tbl := tq_4 _ (List.mem_of_getElem? (i := 162) rfl)
set_option maxRecDepth 100000 in
theorem cdw89 : Cond.code (kY 89) (kB 89) (knl 89) (krt 89) ∈ lw_tbl := tq_4 _ (List.mem_of_getElem? (i := 174) rfl)
set_option maxRecDepth 100000 in
theorem cdw90 : Cond.code (kY 90) (kB 90) (knl 90) (krt 90) ∈ lw_tbl := tq_4 _ (List.mem_of_getElem? (i := 178) rfl)
set_option maxRecDepth 100000 in
theorem cdw91 : Cond.code (kY 91) (kB 91) (knl 91) (krt 91) ∈ lw_tbl := tq_4 _ (List.mem_of_getElem? (i := 182) rfl)
set_option maxRecDepth 100000 in
theorem cdw92 : Cond.code (kY 92) (kB 92) (knl 92) (krt 92) ∈ lw_tbl := tq_4 _ (List.mem_of_getElem? (i := 187) rfl)
set_option maxRecDepth 100000 in
theorem cdw93 : Cond.code (kY 93) (kB 93) (knl 93) (krt 93) ∈ lw_tbl := tq_4 _ (List.mem_of_getElem? (i := 191) rfl)
set_option maxRecDepth 100000 in
theorem cdw94 : Cond.code (kY 94) (kB 94) (knl 94) (krt 94) ∈ lw_tbl := tq_4 _ (List.mem_of_getElem? (i := 195) rfl)
set_option maxRecDepth 100000 in
theorem cdw95 : Cond.code (kY 95) (kB 95) (knl 95) (krt 95) ∈ lw_tbl := tq_1 _ (List.mem_of_getElem? (i := 29) rfl)
set_option maxRecDepth 100000 in
theorem cdw96 : Cond.code (kY 96) (kB 96) (knl 96) (krt 96) ∈ lw_tbl := tq_2 _ (List.mem_of_getElem? (i := 168) rfl)
set_option maxRecDepth 100000 in
theorem cdw97 : Cond.code (kY 97) (kB 97) (knl 97) (krt 97) ∈ lw_tbl := tq_2 _ (List.mem_of_getElem? (i := 179) rfl)
set_option maxRecDepth 100000 in
theorem cdw98 : Cond.code (kY 98) (kB 98) (knl 98) (krt 98) ∈ lw_tbl := tq_2 _ (List.mem_of_getElem? (i := 183) rfl)
set_option maxRecDepth 100000 in
theorem cdw99 : Cond.code (kY 99) (kB 99) (knl 99) (krt 99) ∈ lw_tbl := tq_3 _ (List.mem_of_getElem? (i := 102) rfl)
set_option maxRecDepth 100000 in
theorem cdw100 : Cond.code (kY 100) (kB 100) (knl 100) (krt 100) ∈ lw_tbl := tq_3 _ (List.mem_of_getElem? (i := 107) rfl)
set_option maxRecDepth 100000 in
theorem cdw101 : Cond.code (kY 101) (kB 101) (knl 101) (krt 101) ∈ lw_tbl := tq_3 _ (List.mem_of_getElem? (i := 137) rfl)
set_option maxRecDepth 100000 in
theorem cdw102 : Cond.code (kY 102) (kB 102) (knl 102) (krt 102) ∈ lw_tbl := tq_3 _ (List.mem_of_getElem? (i := 159) rfl)
set_option maxRecDepth 100000 in
theorem cdw103 : Cond.code (kY 103) (kB 103) (knl 103) (krt 103) ∈ lw_tbl := tq_5 _ (List.mem_of_getElem? (i := 106) rfl)
set_option maxRecDepth 100000 in
theorem cdw104 : Cond.code (kY 104) (kB 104) (knl 104) (krt 104) ∈ lw_tbl := tq_3 _ (List.mem_of_getElem? (i := 173) rfl)
set_option maxRecDepth 100000 in
theorem cdw105 : Cond.code (kY 105) (kB 105) (knl 105) (krt 105) ∈ lw_tbl := tq_3 _ (List.mem_of_getElem? (i := 177) rfl)
set_option maxRecDepth 100000 in
theorem cdw106 : Cond.code (kY 106) (kB 106) (knl 106) (krt 106) ∈ lw_tbl := tq_3 _ (List.mem_of_getElem? (i := 181) rfl)
set_option maxRecDepth 100000 in
theorem cdw107 : Cond.code (kY 107) (kB 107) (knl 107) (krt 107) ∈ lw_tbl := tq_3 _ (List.mem_of_getElem? (i := 197) rfl)
set_option maxRecDepth 100000 in
theorem cdw108 : Cond.code (kY 108) (kB 108) (knl 108) (krt 108) ∈ lw_tbl := tq_3 _ (List.mem_of_getElem? (i := 141) rfl)
set_option maxRecDepth 100000 in
theorem cdw109 : Cond.code (kY 109) (kB 109) (knl 109) (krt 109) ∈ lw_tbl := tq_3 _ (List.mem_of_getElem? (i := 163) rfl)
set_option maxRecDepth 100000 in
theorem cdw110 : Cond.code (kY 110) (kB 110) (knl 110) (krt 110) ∈ lw_tbl := tq_4 _ (List.mem_of_getElem? (i := 78) rfl)
set_option maxRecDepth 100000 in
theorem cdw111 : Cond.code (kY 111) (kB 111) (knl 111) (krt 111) ∈ lw_tbl := tq_5 _ (List.mem_of_getElem? (i := 31) rfl)
set_option maxRecDepth 100000 in
theorem cdw112 : Cond.code (kY 112) (kB 112) (knl 112) (krt 112) ∈ lw_tbl := tq_3 _ (List.mem_of_getElem? (i := 145) rfl)
set_option maxRecDepth 100000 in
theorem cdw113 : Cond.code (kY 113) (kB 113) (knl 113) (krt 113) ∈ lw_tbl := tq_3 _ (List.mem_of_getElem? (i := 193) rfl)
set_option maxRecDepth 100000 in
theorem cdw114 : Cond.code (kY 114) (kB 114) (knl 114) (krt 114) ∈ lw_tbl := tq_3 _ (List.mem_of_getElem? (i := 211) rfl)
set_option maxRecDepth 100000 in
theorem cdw115 : Cond.code (kY 115) (kB 115) (knl 115) (krt 115) ∈ lw_tbl := tq_4 _ (List.mem_of_getElem? (i := 66) rfl)
set_option maxRecDepth 100000 in
theorem cdw116 : Cond.code (kY 116) (kB 116) (knl 116) (krt 116) ∈ lw_tbl := tq_4 _ (List.mem_of_getElem? (i := 70) rfl)
set_option maxRecDepth 100000 in
theorem cdw117 : Cond.code (kY 117) (kB 117) (knl 117) (krt 117) ∈ lw_tbl := tq_4 _ (List.mem_of_getElem? (i := 74) rfl)
set_option maxRecDepth 100000 in
theorem cdw118 : Cond.code (kY 118) (kB 118) (knl 118) (krt 118) ∈ lw_tbl := tq_4 _ (List.mem_of_getElem? (i := 82) rfl)
set_option maxRecDepth 100000 in
theorem cdw119 : Cond.code (kY 119) (kB 119) (knl 119) (krt 119) ∈ lw_tbl := tq_4 _ (List.mem_of_getElem? (i := 86) rfl)
set_option maxRecDepth 100000 in
theorem cdw120 : Cond.code (kY 120) (kB 120) (knl 120) (krt 120) ∈ lw_tbl := tq_4 _ (List.mem_of_getElem? (i := 90) rfl)
set_option maxRecDepth 100000 in
theorem cdw121 : Cond.code (kY 121) (kB 121) (knl 121) (krt 121) ∈ lw_tbl := tq_4 _ (List.mem_of_getElem? (i := 93) rfl)
set_option maxRecDepth 100000 in
theorem cdw122 : Cond.code (kY 122) (kB 122) (knl 122) (krt 122) ∈ lw_tbl := tq_4 _ (List.mem_of_getElem? (i := 98) rfl)
set_option maxRecDepth 100000 in
theorem cdw123 : Cond.code (kY 123) (kB 123) (knl 123) (krt 123) ∈ lw_tbl := tq_4 _ (List.mem_of_getElem? (i := 102) rfl)
set_option maxRecDepth 100000 in
theorem cdw124 : Cond.code (kY 124) (kB 124) (knl 124) (krt 124) ∈ lw_tbl := tq_4 _ (List.mem_of_getElem? (i := 110) rfl)
set_option maxRecDepth 100000 in
theorem cdw125 : Cond.code (kY 125) (kB 125) (knl 125) (krt 125) ∈ lw_tbl := tq_3 _ (List.mem_of_getElem? (i := 185) rfl)
set_option maxRecDepth 100000 in
theorem cdw126 : Cond.code (kY 126) (kB 126) (knl 126) (krt 126) ∈ lw_tbl := tq_4 _ (List.mem_of_getElem? (i := 118) rfl)
set_option maxRecDepth 100000 in
theorem cdw127 : Cond.code (kY 127) (kB 127) (knl 127) (krt 127) ∈ lw_tbl := tq_4 _ (List.mem_of_getElem? (i := 128) rfl)
set_option maxRecDepth 100000 in
theorem cdw128 : Cond.code (kY 128) (kB 128) (knl 128) (krt 128) ∈ lw_tbl := tq_4 _ (List.mem_of_getElem? (i := 132) rfl)
set_option maxRecDepth 100000 in
theorem cdw129 : Cond.code (kY 129) (kB 129) (knl 129) (krt 129) ∈ lw_tbl := tq_4 _ (List.mem_of_getElem? (i := 136) rfl)
set_option maxRecDepth 100000 in
theorem cdw130 : Cond.code (kY 130) (kB 130) (knl 130) (krt 130) ∈ lw_tbl := tq_4 _ (List.mem_of_getElem? (i := 148) rfl)
set_option maxRecDepth 100000 in
theorem cdw131 : Cond.code (kY 131) (kB 131) (knl 131) (krt 131) ∈ lw_tbl := tq_4 _ (List.mem_of_getElem? (i := 154) rfl)
set_option maxRecDepth 100000 in
theorem cdw132 : Cond.code (kY 132) (kB 132) (knl 132) (krt 132) ∈ lw_tbl := tq_4 _ (List.mem_of_getElem? (i := 166) rfl)
set_option maxRecDepth 100000 in
theorem cdw133 : Cond.code (kY 133) (kB 133) (knl 133) (krt 133) ∈ lw_tbl := tq_4 _ (List.mem_of_getElem? (i := 199) rfl)
set_option maxRecDepth 100000 in
theorem cdw134 : Cond.code (kY 134) (kB 134) (knl 134) (krt 134) ∈ lw_tbl := tq_4 _ (List.mem_of_getElem? (i := 203) rfl)
set_option maxRecDepth 100000 in
theorem cdw135 : Cond.code (kY 135) (kB 135) (knl 135) (krt 135) ∈ lw_tbl := tq_4 _ (List.mem_of_getElem? (i := 207) rfl)
set_option maxRecDepth 100000 in
theorem cdw136 : Cond.code (kY 136) (kB 136) (knl 136) (krt 136) ∈ lw_tbl := tq_4 _ (List.mem_of_getElem? (i := 211) rfl)
set_option maxRecDepth 100000 in
theorem cdw137 : Cond.code (kY 137) (kB 137) (knl 137) (krt 137) ∈ lw_tbl := tq_4 _ (List.mem_of_getElem? (i := 219) rfl)
set_option maxRecDepth 100000 in
theorem cdw138 : Cond.code (kY 138) (kB 138) (knl 138) (krt 138) ∈ lw_tbl := tq_4 _ (List.mem_of_getElem? (i := 233) rfl)
set_option maxRecDepth 100000 in
theorem cdw139 : Cond.code (kY 139) (kB 139) (knl 139) (krt 139) ∈ lw_tbl := tq_5 _ (List.mem_of_getElem? (i := 4) rfl)
set_option maxRecDepth 100000 in
theorem cdw140 : Cond.code (kY 140) (kB 140) (knl 140) (krt 140) ∈ lw_tbl := tq_5 _ (List.mem_of_getElem? (i := 9) rfl)
set_option maxRecDepth 100000 in
theorem cdw141 : Cond.code (kY 141) (kB 141) (knl 141) (krt 141) ∈ lw_tbl := tq_5 _ (List.mem_of_getElem? (i := 13) rfl)
set_option maxRecDepth 100000 in
theorem cdw142 : Cond.code (kY 142) (kB 142) (knl 142) (krt 142) ∈ lw_tbl := tq_5 _ (List.mem_of_getElem? (i := 18) rfl)
set_option maxRecDepth 100000 in
theorem cdw143 : Cond.code (kY 143) (kB 143) (knl 143) (krt 143) ∈ lw_tbl := tq_5 _ (List.mem_of_getElem? (i := 23) rfl)
set_option maxRecDepth 100000 in
theorem cdw144 : Cond.code (kY 144) (kB 144) (knl 144) (krt 144) ∈ lw_tbl := tq_5 _ (List.mem_of_getElem? (i := 27) rfl)
set_option maxRecDepth 100000 in
theorem cdw145 : Cond.code (kY 145) (kB 145) (knl 145) (krt 145) ∈ lw_tbl := tq_5 _ (List.mem_of_getElem? (i := 39) rfl)
set_option maxRecDepth 100000 in
theorem cdw146 : Cond.code (kY 146) (kB 146) (knl 146) (krt 146) ∈ lw_tbl := tq_5 _ (List.mem_of_getElem? (i := 48) rfl)
set_option maxRecDepth 100000 in
theorem cdw147 : Cond.code (kY 147) (kB 147) (knl 147) (krt 147) ∈ lw_tbl := tq_5 _ (List.mem_of_getElem? (i := 55) rfl)
set_option maxRecDepth 100000 in
theorem cdw148 : Cond.code (kY 148) (kB 148) (knl 148) (krt 148) ∈ lw_tbl := tq_5 _ (List.mem_of_getElem? (i := 59) rfl)
set_option maxRecDepth 100000 in
theorem cdw149 : Cond.code (kY 149) (kB 149) (knl 149) (krt 149) ∈ lw_tbl := tq_5 _ (List.mem_of_getElem? (i := 72) rfl)
set_option maxRecDepth 100000 in
theorem cdw150 : Cond.code (kY 150) (kB 150) (knl 150) (krt 150) ∈ lw_tbl := tq_5 _ (List.mem_of_getElem? (i := 80) rfl)
set_option maxRecDepth 100000 in
theorem cdw151 : Cond.code (kY 151) (kB 151) (knl 151) (krt 151) ∈ lw_tbl := tq_5 _ (List.mem_of_getElem? (i := 76) rfl)
set_option maxRecDepth 100000 in
theorem cdw152 : Cond.code (kY 152) (kB 152) (knl 152) (krt 152) ∈ lw_tbl := tq_5 _ (List.mem_of_getElem? (i := 84) rfl)
set_option maxRecDepth 100000 in
theorem cdw153 : Cond.code (kY 153) (kB 153) (knl 153) (krt 153) ∈ lw_tbl := tq_5 _ (List.mem_of_getElem? (i := 98) rfl)
set_option maxRecDepth 100000 in
theorem cdw154 : Cond.code (kY 154) (kB 154) (knl 154) (krt 154) ∈ lw_tbl := tq_5 _ (List.mem_of_getElem? (i := 177) rfl)
set_option maxRecDepth 100000 in
theorem cdw155 : Cond.code (kY 155) (kB 155) (knl 155) (krt 155) ∈ lw_tbl := tq_6 _ (List.mem_of_getElem? (i := 127) rfl)
set_option maxRecDepth 100000 in
theorem cdw156 : Cond.code (kY 156) (kB 156) (knl 156) (krt 156) ∈ lw_tbl := tq_6 _ (List.mem_of_getElem? (i := 209) rfl)
set_option maxRecDepth 100000 in
theorem cdw157 : Cond.code (kY 157) (kB 157) (knl 157) (krt 157) ∈ lw_tbl := tq_7 _ (List.mem_of_getElem? (i := 4) rfl)
set_option maxRecDepth 100000 in
theorem cdw158 : Cond.code (kY 158) (kB 158) (knl 158) (krt 158) ∈ lw_tbl := tq_6 _ (List.mem_of_getElem? (i := 111) rfl)
set_option maxRecDepth 100000 in
theorem cdw159 : Cond.code (kY 159) (kB 159) (knl 159) (krt 159) ∈ lw_tbl := tq_6 _ (List.mem_of_getElem? (i := 115) rfl)
set_option maxRecDepth 100000 in
theorem cdw160 : Cond.code (kY 160) (kB 160) (knl 160) (krt 160) ∈ lw_tbl := tq_6 _ (List.mem_of_getElem? (i := 108) rfl)
set_option maxRecDepth 100000 in
theorem cdw161 : Cond.code (kY 161) (kB 161) (knl 161) (krt 161) ∈ lw_tbl := tq_6 _ (List.mem_of_getElem? (i := 119) rfl)
set_option maxRecDepth 100000 in
theorem cdw162 : Cond.code (kY 162) (kB 162) (knl 162) (krt 162) ∈ lw_tbl := tq_6 _ (List.mem_of_getElem? (i := 143) rfl)
set_option maxRecDepth 100000 in
theorem cdw163 : Cond.code (kY 163) (kB 163) (knl 163) (krt 163) ∈ lw_tbl := tq_6 _ (List.mem_of_getElem? (i := 147) rfl)
set_option maxRecDepth 100000 in
theorem cdw164 : Cond.code (kY 164) (kB 164) (knl 164) (krt 164) ∈ lw_tbl := tq_7 _ (List.mem_of_getElem? (i := 36) rfl)
set_option maxRecDepth 100000 in
theorem cdw165 : Cond.code (kY 165) (kB 165) (knl 165) (krt 165) ∈ lw_tbl := tq_7 _ (List.mem_of_getElem? (i := 8) rfl)
set_option maxRecDepth 100000 in
theorem cdw166 : Cond.code (kY 166) (kB 166) (knl 166) (krt 166) ∈ lw_tbl := tq_6 _ (List.mem_of_getElem? (i := 223) rfl)
set_option maxRecDepth 100000 in
theorem cdw167 : Cond.code (kY 167) (kB 167) (knl 167) (krt 167) ∈ lw_tbl := tq_7 _ (List.mem_of_getElem? (i := 39) rfl)
set_option maxRecDepth 100000 in
theorem cdw168 : Cond.code (kY 168) (kB 168) (knl 168) (krt 168) ∈ lw_tbl := tq_7 _ (List.mem_of_getElem? (i := 32) rfl)
set_option maxRecDepth 100000 in
theorem cdw169 : Cond.code (kY 169) (kB 169) (knl 169) (krt 169) ∈ lw_tbl := tq_7 _ (List.mem_of_getElem? (i := 28) rfl)
set_option maxRecDepth 100000 in
theorem cdw170 : Cond.code (kY 170) (kB 170) (knl 170) (krt 170) ∈ lw_tbl := tq_7 _ (List.mem_of_getElem? (i := 24) rfl)
set_option maxRecDepth 100000 in
theorem cdw171 : Cond.code (kY 171) (kB 171) (knl 171) (krt 171) ∈ lw_tbl := tq_7 _ (List.mem_of_getElem? (i := 50) rfl)
set_option maxRecDepth 100000 in
theorem cdw172 : Cond.code (kY 172) (kB 172) (knl 172) (krt 172) ∈ lw_tbl := tq_7 _ (List.mem_of_getElem? (i := 20) rfl)
set_option maxRecDepth 100000 in
theorem cdw173 : Cond.code (kY 173) (kB 173) (knl 173) (krt 173) ∈ lw_tbl := tq_7 _ (List.mem_of_getElem? (i := 54) rfl)
set_option maxRecDepth 100000 in
theorem cdw174 : Cond.code (kY 174) (kB 174) (knl 174) (krt 174) ∈ lw_tbl := tq_7 _ (List.mem_of_getElem? (i := 16) rfl)
set_option maxRecDepth 100000 in
theorem cdw175 : Cond.code (kY 175) (kB 175) (knl 175) (krt 175) ∈ lw_tbl := tq_7 _ (List.mem_of_getElem? (i := 12) rfl)
set_option maxRecDepth 100000 in
theorem cdw176 : Cond.code (kY 176) (kB 176) (knl 176) (krt 176) ∈ lw_tbl := tq_7 _ (List.mem_of_getElem? (i := 1) rfl)
set_option maxRecDepth 100000 in
theorem cdw177 : Cond.code (kY 177) (kB 177) (knl 177) (krt 177) ∈ lw_tbl := tq_6 _ (List.mem_of_getElem? (i := 135) rfl)
set_option maxRecDepth 100000 in
theorem cdw178 : Cond.code (kY 178) (kB 178) (knl 178) (krt 178) ∈ lw_tbl := tq_6 _ (List.mem_of_getElem? (i := 237) rfl)
set_option maxRecDepth 100000 in
theorem cdw179 : Cond.code (kY 179) (kB 179) (knl 179) (krt 179) ∈ lw_tbl := tq_6 _ (List.mem_of_getElem? (i := 227) rfl)
set_option maxRecDepth 100000 in
theorem cdw180 : Cond.code (kY 180) (kB 180) (knl 180) (krt 180) ∈ lw_tbl := tq_6 _ (List.mem_of_getElem? (i := 168) rfl)
set_option maxRecDepth 100000 in
theorem cdw181 : Cond.code (kY 181) (kB 181) (knl 181) (krt 181) ∈ lw_tbl := tq_6 _ (List.mem_of_getElem? (i := 219) rfl)
set_option maxRecDepth 100000 in
theorem cdw182 : Cond.code (kY 182) (kB 182) (knl 182) (krt 182) ∈ lw_tbl := tq_6 _ (List.mem_of_getElem? (i := 215) rfl)
set_option maxRecDepth 100000 in
theorem cdw183 : Cond.code (kY 183) (kB 183) (knl 183) (krt 183) ∈ lw_tbl := tq_6 _ (List.mem_of_getElem? (i := 212) rfl)
set_option maxRecDepth 100000 in
theorem cdw184 : Cond.code (kY 184) (kB 184) (knl 184) (krt 184) ∈ lw_tbl := tq_6 _ (List.mem_of_getElem? (i := 165) rfl)
set_option maxRecDepth 100000 in
theorem cdw185 : Cond.code (kY 185) (kB 185) (knl 185) (krt 185) ∈ lw_tbl := tq_6 _ (List.mem_of_getElem? (i := 152) rfl)
set_option maxRecDepth 100000 in
theorem cdw186 : Cond.code (kY 186) (kB 186) (knl 186) (krt 186) ∈ lw_tbl := tq_6 _ (List.mem_of_getElem? (i := 139) rfl)
set_option maxRecDepth 100000 in
theorem cdw187 : Cond.code (kY 187) (kB 187) (knl 187) (krt 187) ∈ lw_tbl := tq_6 _ (List.mem_of_getElem? (i := 233) rfl)
set_option maxRecDepth 100000 in
theorem cdw188 : Cond.code (kY 188) (kB 188) (knl 188) (krt 188) ∈ lw_tbl := tq_6 _ (List.mem_of_getElem? (i := 131) rfl)
set_option maxRecDepth 100000 in
theorem cdw189 : Cond.code (kY 189) (kB 189) (knl 189) (krt 189) ∈ lw_tbl := tq_7 _ (List.mem_of_getElem? (i := 58) rfl)
set_option maxRecDepth 100000 in
theorem cdw190 : Cond.code (kY 190) (kB 190) (knl 190) (krt 190) ∈ lw_tbl := tq_6 _ (List.mem_of_getElem? (i := 123) rfl)
set_option maxRecDepth 100000 in
theorem cdw191 : Cond.code (kY 191) (kB 191) (knl 191) (krt 191) ∈ lw_tbl := tq_7 _ (List.mem_of_getElem? (i := 62) rfl)
set_option maxRecDepth 100000 in
theorem cdw192 : Cond.code (kY 192) (kB 192) (knl 192) (krt 192) ∈ lw_tbl := tq_8 _ (List.mem_of_getElem? (i := 0) rfl)
set_option maxRecDepth 100000 in
theorem cdw193 : Cond.code (kY 193) (kB 193) (knl 193) (krt 193) ∈ lw_tbl := tq_7 _ (List.mem_of_getElem? (i := 71) rfl)
set_option maxRecDepth 100000 in
theorem cdw194 : Cond.code (kY 194) (kB 194) (knl 194) (krt 194) ∈ lw_tbl := tq_7 _ (List.mem_of_getElem? (i := 83) rfl)
set_option maxRecDepth 100000 in
theorem cdw195 : Cond.code (kY 195) (kB 195) (knl 195) (krt 195) ∈ lw_tbl := tq_7 _ (List.mem_of_getElem? (i := 92) rfl)
set_option maxRecDepth 100000 in
theorem cdw196 : Cond.code (kY 196) (kB 196) (knl 196) (krt 196) ∈ lw_tbl := tq_7 _ (List.mem_of_getElem? (i := 75) rfl)
set_option maxRecDepth 100000 in
theorem cdw197 : Cond.code (kY 197) (kB 197) (knl 197) (krt 197) ∈ lw_tbl := tq_7 _ (List.mem_of_getElem? (i := 131) rfl)
set_option maxRecDepth 100000 in
theorem cdw198 : Cond.code (kY 198) (kB 198) (knl 198) (krt 198) ∈ lw_tbl := tq_7 _ (List.mem_of_getElem? (i := 117) rfl)
set_option maxRecDepth 100000 in
theorem cdw199 : Cond.code (kY 199) (kB 199) (knl 199) (krt 199) ∈ lw_tbl := tq_7 _ (List.mem_of_getElem? (i := 139) rfl)
set_option maxRecDepth 100000 in
theorem cdw200 : Cond.code (kY 200) (kB 200) (knl 200) (krt 200) ∈ lw_tbl := tq_7 _ (List.mem_of_getElem? (i := 135) rfl)
set_option maxRecDepth 100000 in
theorem cdw201 : Cond.code (kY 201) (kB 201) (knl 201) (krt 201) ∈ lw_tbl := tq_7 _ (List.mem_of_getElem? (i := 145) rfl)
set_option maxRecDepth 100000 in
theorem cdw202 : Cond.code (kY 202) (kB 202) (knl 202) (krt 202) ∈ lw_tbl := tq_7 _ (List.mem_of_getElem? (i := 127) rfl)
set_option maxRecDepth 100000 in
theorem cdw203 : Cond.code (kY 203) (kB 203) (knl 203) (krt 203) ∈ lw_tbl := tq_7 _ (List.mem_of_getElem? (i := 123) rfl)
set_option maxRecDepth 100000 in
theorem cdw204 : Cond.code (kY 204) (kB 204) (knl 204) (krt 204) ∈ lw_tbl := tq_7 _ (List.mem_of_getElem? (i := 113) rfl)
set_option maxRecDepth 100000 in
theorem cdw205 : Cond.code (kY 205) (kB 205) (knl 205) (krt 205) ∈ lw_tbl := tq_7 _ (List.mem_of_getElem? (i := 67) rfl)
set_option maxRecDepth 100000 in
theorem cdw206 : Cond.code (kY 206) (kB 206) (knl 206) (krt 206) ∈ lw_tbl := tq_7 _ (List.mem_of_getElem? (i := 79) rfl)
set_option maxRecDepth 100000 in
theorem cdw207 : Cond.code (kY 207) (kB 207) (knl 207) (krt 207) ∈ lw_tbl := tq_7 _ (List.mem_of_getElem? (i := 88) rfl)
set_option maxRecDepth 100000 in
theorem cdw208 : Cond.code (kY 208) (kB 208) (knl 208) (krt 208) ∈ lw_tbl := tq_7 _ (List.mem_of_getElem? (i := 96) rfl)
set_option maxRecDepth 100000 in
theorem cdw209 : Cond.code (kY 209) (kB 209) (knl 209) (krt 209) ∈ lw_tbl := tq_7 _ (List.mem_of_getElem? (i := 100) rfl)
set_option maxRecDepth 100000 in
theorem cdw210 : Cond.code (kY 210) (kB 210) (knl 210) (krt 210) ∈ lw_tbl := tq_7 _ (List.mem_of_getElem? (i := 109) rfl)
set_option maxRecDepth 100000 in
theorem cdw211 : Cond.code (kY 211) (kB 211) (knl 211) (krt 211) ∈ lw_tbl := tq_7 _ (List.mem_of_getElem? (i := 160) rfl)
set_option maxRecDepth 100000 in
theorem cdw212 : Cond.code (kY 212) (kB 212) (knl 212) (krt 212) ∈ lw_tbl := tq_7 _ (List.mem_of_getElem? (i := 105) rfl)
set_option maxRecDepth 100000 in
theorem cdw213 : Cond.code (kY 213) (kB 213) (knl 213) (krt 213) ∈ lw_tbl := tq_7 _ (List.mem_of_getElem? (i := 156) rfl)
set_option maxRecDepth 100000 in
theorem cdw214 : Cond.code (kY 214) (kB 214) (knl 214) (krt 214) ∈ lw_tbl := tq_7 _ (List.mem_of_getElem? (i := 164) rfl)
set_option maxRecDepth 100000 in
theorem cdw215 : Cond.code (kY 215) (kB 215) (knl 215) (krt 215) ∈ lw_tbl := tq_7 _ (List.mem_of_getElem? (i := 168) rfl)
set_option maxRecDepth 100000 in
theorem cdw216 : Cond.code (kY 216) (kB 216) (knl 216) (krt 216) ∈ lw_tbl := tq_7 _ (List.mem_of_getElem? (i := 172) rfl)
set_option maxRecDepth 100000 in
theorem cdw217 : Cond.code (kY 217) (kB 217) (knl 217) (krt 217) ∈ lw_tbl := tq_7 _ (List.mem_of_getElem? (i := 176) rfl)
set_option maxRecDepth 100000 in
theorem cdw218 : Cond.code (kY 218) (kB 218) (knl 218) (krt 218) ∈ lw_tbl := tq_7 _ (List.mem_of_getElem? (i := 186) rfl)
set_option maxRecDepth 100000 in
theorem cdw219 : Cond.code (kY 219) (kB 219) (knl 219) (krt 219) ∈ lw_tbl := tq_7 _ (List.mem_of_getElem? (i := 181) rfl)
set_option maxRecDepth 100000 in
theorem cdw220 : Cond.code (kY 220) (kB 220) (knl 220) (krt 220) ∈ lw_tbl := tq_7 _ (List.mem_of_getElem? (i := 192) rfl)
set_option maxRecDepth 100000 in
theorem cdw221 : Cond.code (kY 221) (kB 221) (knl 221) (krt 221) ∈ lw_tbl := tq_7 _ (List.mem_of_getElem? (i := 196) rfl)
set_option maxRecDepth 100000 in
theorem cdw222 : Cond.code (kY 222) (kB 222) (knl 222) (krt 222) ∈ lw_tbl := tq_7 _ (List.mem_of_getElem? (i := 204) rfl)
set_option maxRecDepth 100000 in
theorem cdw223 : Cond.code (kY 223) (kB 223) (knl 223) (krt 223) ∈ lw_tbl := tq_7 _ (List.mem_of_getElem? (i := 200) rfl)
set_option maxRecDepth 100000 in
theorem cdw224 : Cond.code (kY 224) (kB 224) (knl 224) (krt 224) ∈ lw_tbl := tq_7 _ (List.mem_of_getElem? (i := 213) rfl)
set_option maxRecDepth 100000 in
theorem cdw225 : Cond.code (kY 225) (kB 225) (knl 225) (krt 225) ∈ lw_tbl := tq_7 _ (List.mem_of_getElem? (i := 209) rfl)
set_option maxRecDepth 100000 in
theorem cdw226 : Cond.code (kY 226) (kB 226) (knl 226) (krt 226) ∈ lw_tbl := tq_7 _ (List.mem_of_getElem? (i := 217) rfl)
set_option maxRecDepth 100000 in
theorem cdw227 : Cond.code (kY 227) (kB 227) (knl 227) (krt 227) ∈ lw_tbl := tq_7 _ (List.mem_of_getElem? (i := 225) rfl)
set_option maxRecDepth 100000 in
theorem cdw228 : Cond.code (kY 228) (kB 228) (knl 228) (krt 228) ∈ lw_tbl := tq_7 _ (List.mem_of_getElem? (i := 221) rfl)
set_option maxRecDepth 100000 in
theorem cdw229 : Cond.code (kY 229) (kB 229) (knl 229) (krt 229) ∈ lw_tbl := tq_7 _ (List.mem_of_getElem? (i := 233) rfl)
set_option maxRecDepth 100000 in
theorem cdw230 : Cond.code (kY 230) (kB 230) (knl 230) (krt 230) ∈ lw_tbl := tq_7 _ (List.mem_of_getElem? (i := 229) rfl)
set_option maxRecDepth 100000 in
theorem cdw231 : Cond.code (kY 231) (kB 231) (knl 231) (krt 231) ∈ lw_tbl := tq_7 _ (List.mem_of_getElem? (i := 237) rfl)
set_option maxRecDepth 100000 in
theorem cdw232 : Cond.code (kY 232) (kB 232) (knl 232) (krt 232) ∈ lw_tbl := tq_8 _ (List.mem_of_getElem? (i := 4) rfl)
set_option maxRecDepth 100000 in
theorem cdw233 : Cond.code (kY 233) (kB 233) (knl 233) (krt 233) ∈ lw_tbl := tq_8 _ (List.mem_of_getElem? (i := 9) rfl)
set_option maxRecDepth 100000 in
theorem cdw234 : Cond.code (kY 234) (kB 234) (knl 234) (krt 234) ∈ lw_tbl := tq_8 _ (List.mem_of_getElem? (i := 21) rfl)
set_option maxRecDepth 100000 in
theorem cdw235 : Cond.code (kY 235) (kB 235) (knl 235) (krt 235) ∈ lw_tbl := tq_8 _ (List.mem_of_getElem? (i := 25) rfl)
set_option maxRecDepth 100000 in
theorem cdw236 : Cond.code (kY 236) (kB 236) (knl 236) (krt 236) ∈ lw_tbl := tq_8 _ (List.mem_of_getElem? (i := 17) rfl)
set_option maxRecDepth 100000 in
theorem cdw237 : Cond.code (kY 237) (kB 237) (knl 237) (krt 237) ∈ lw_tbl := tq_8 _ (List.mem_of_getElem? (i := 13) rfl)
set_option maxRecDepth 100000 in
theorem cdw238 : Cond.code (kY 238) (kB 238) (knl 238) (krt 238) ∈ lw_tbl := tq_8 _ (List.mem_of_getElem? (i := 29) rfl)
set_option maxRecDepth 100000 in
theorem cdw239 : Cond.code (kY 239) (kB 239) (knl 239) (krt 239) ∈ lw_tbl := tq_8 _ (List.mem_of_getElem? (i := 34) rfl)
set_option maxRecDepth 100000 in
theorem cdw240 : Cond.code (kY 240) (kB 240) (knl 240) (krt 240) ∈ lw_tbl := tq_8 _ (List.mem_of_getElem? (i := 42) rfl)
set_option maxRecDepth 100000 in
theorem cdw241 : Cond.code (kY 241) (kB 241) (knl 241) (krt 241) ∈ lw_tbl := tq_8 _ (List.mem_of_getElem? (i := 38) rfl)
set_option maxRecDepth 100000 in
theorem cdw242 : Cond.code (kY 242) (kB 242) (knl 242) (krt 242) ∈ lw_tbl := tq_8 _ (List.mem_of_getElem? (i := 46) rfl)
set_option maxRecDepth 100000 in
theorem cdw243 : Cond.code (kY 243) (kB 243) (knl 243) (krt 243) ∈ lw_tbl := tq_8 _ (List.mem_of_getElem? (i := 50) rfl)
set_option maxRecDepth 100000 in
theorem cdw244 : Cond.code (kY 244) (kB 244) (knl 244) (krt 244) ∈ lw_tbl := tq_8 _ (List.mem_of_getElem? (i := 54) rfl)
set_option maxRecDepth 100000 in
theorem cdw245 : Cond.code (kY 245) (kB 245) (knl 245) (krt 245) ∈ lw_tbl := tq_8 _ (List.mem_of_getElem? (i := 62) rfl)
set_option maxRecDepth 100000 in
theorem cdw246 : Cond.code (kY 246) (kB 246) (knl 246) (krt 246) ∈ lw_tbl := tq_8 _ (List.mem_of_getElem? (i := 67) rfl)
set_option maxRecDepth 100000 in
theorem cdw247 : Cond.code (kY 247) (kB 247) (knl 247) (krt 247) ∈ lw_tbl := tq_8 _ (List.mem_of_getElem? (i := 58) rfl)
set_option maxRecDepth 100000 in
theorem cdw248 : Cond.code (kY 248) (kB 248) (knl 248) (krt 248) ∈ lw_tbl := tq_8 _ (List.mem_of_getElem? (i := 71) rfl)
set_option maxRecDepth 100000 in
theorem cdw249 : Cond.code (kY 249) (kB 249) (knl 249) (krt 249) ∈ lw_tbl := tq_8 _ (List.mem_of_getElem? (i := 75) rfl)
set_option maxRecDepth 100000 in
theorem cdw250 : Cond.code (kY 250) (kB 250) (knl 250) (krt 250) ∈ lw_tbl := tq_8 _ (List.mem_of_getElem? (i := 81) rfl)
set_option maxRecDepth 100000 in
theorem cdw251 : Cond.code (kY 251) (kB 251) (knl 251) (krt 251) ∈ lw_tbl := tq_8 _ (List.mem_of_getElem? (i := 89) rfl)
set_option maxRecDepth 100000 in
theorem cdw252 : Cond.code (kY 252) (kB 252) (knl 252) (krt 252) ∈ lw_tbl := tq_8 _ (List.mem_of_getElem? (i := 93) rfl)
set_option maxRecDepth 100000 in
theorem cdw253 : Cond.code (kY 253) (kB 253) (knl 253) (krt 253) ∈ lw_tbl := tq_8 _ (List.mem_of_getElem? (i := 109) rfl)
set_option maxRecDepth 100000 in
theorem cdw254 : Cond.code (kY 254) (kB 254) (knl 254) (krt 254) ∈ lw_tbl := tq_8 _ (List.mem_of_getElem? (i := 105) rfl)
set_option maxRecDepth 100000 in
theorem cdw255 : Cond.code (kY 255) (kB 255) (knl 255) (krt 255) ∈ lw_tbl := tq_8 _ (List.mem_of_getElem? (i := 101) rfl)
set_option maxRecDepth 100000 in
theorem cdw256 : Cond.code (kY 256) (kB 256) (knl 256) (krt 256) ∈ lw_tbl := tq_8 _ (List.mem_of_getElem? (i := 97) rfl)
set_option maxRecDepth 100000 in
theorem cdw257 : Cond.code (kY 257) (kB 257) (knl 257) (krt 257) ∈ lw_tbl := tq_8 _ (List.mem_of_getElem? (i := 113) rfl)
set_option maxRecDepth 100000 in
theorem cdw258 : Cond.code (kY 258) (kB 258) (knl 258) (krt 258) ∈ lw_tbl := tq_8 _ (List.mem_of_getElem? (i := 117) rfl)
set_option maxRecDepth 100000 in
theorem cdw259 : Cond.code (kY 259) (kB 259) (knl 259) (krt 259) ∈ lw_tbl := tq_8 _ (List.mem_of_getElem? (i := 85) rfl)
set_option maxRecDepth 100000 in
theorem cdw260 : Cond.code (kY 260) (kB 260) (knl 260) (krt 260) ∈ lw_tbl := tq_8 _ (List.mem_of_getElem? (i := 121) rfl)
set_option maxRecDepth 100000 in
theorem cdw261 : Cond.code (kY 261) (kB 261) (knl 261) (krt 261) ∈ lw_tbl := tq_8 _ (List.mem_of_getElem? (i := 126) rfl)
set_option maxRecDepth 100000 in
theorem cdw262 : Cond.code (kY 262) (kB 262) (knl 262) (krt 262) ∈ lw_tbl := tq_8 _ (List.mem_of_getElem? (i := 130) rfl)
set_option maxRecDepth 100000 in
theorem cdw263 : Cond.code (kY 263) (kB 263) (knl 263) (krt 263) ∈ lw_tbl := tq_8 _ (List.mem_of_getElem? (i := 134) rfl)
set_option maxRecDepth 100000 in
theorem cdw264 : Cond.code (kY 264) (kB 264) (knl 264) (krt 264) ∈ lw_tbl := tq_3 _ (List.mem_of_getElem? (i := 152) rfl)
set_option maxRecDepth 100000 in
theorem cdw265 : Cond.code (kY 265) (kB 265) (knl 265) (krt 265) ∈ lw_tbl := tq_4 _ (List.mem_of_getElem? (i := 62) rfl)
set_option maxRecDepth 100000 in
theorem cdw266 : Cond.code (kY 266) (kB 266) (knl 266) (krt 266) ∈ lw_tbl := tq_5 _ (List.mem_of_getElem? (i := 0) rfl)
set_option maxRecDepth 100000 in
theorem cdw267 : Cond.code (kY 267) (kB 267) (knl 267) (krt 267) ∈ lw_tbl := tq_4 _ (List.mem_of_getElem? (i := 55) rfl)
set_option maxRecDepth 100000 in
theorem cdw268 : Cond.code (kY 268) (kB 268) (knl 268) (krt 268) ∈ lw_tbl := tq_7 _ (List.mem_of_getElem? (i := 47) rfl)
set_option maxRecDepth 100000 in
theorem cdw269 : Cond.code (kY 269) (kB 269) (knl 269) (krt 269) ∈ lw_tbl := tq_3 _ (List.mem_of_getElem? (i := 188) rfl)
set_option maxRecDepth 100000 in
theorem cdw270 : Cond.code (kY 270) (kB 270) (knl 270) (krt 270) ∈ lw_tbl := tq_7 _ (List.mem_of_getElem? (i := 44) rfl)
set_option maxRecDepth 100000 in
theorem cdw271 : Cond.code (kY 271) (kB 271) (knl 271) (krt 271) ∈ lw_tbl := tq_6 _ (List.mem_of_getElem? (i := 156) rfl)
set_option maxRecDepth 100000 in
theorem cdw272 : Cond.code (kY 272) (kB 272) (knl 272) (krt 272) ∈ lw_tbl := tq_6 _ (List.mem_of_getElem? (i := 172) rfl)
