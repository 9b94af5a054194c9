/-! L2: the town is read, townC -/
def zmc_x0 : Nat × aV := (0, aR [314])
def zmc_x1 : Nat × aV := (1, aI 1 1)
def zmc_x2 : Nat × aV := (1, aI 0 16)
def zmc_y0 : Nat × Nat × Int × Int := (314, 11, (-1), (-1))
def zmc_y1 : Nat × Nat × Int × Int := (314, 8, 0, 0)
def zmc_y2 : Nat × Nat × Int × Int := (314, 10, 0, 0)
def zmc_y3 : Nat × Nat × Int × Int := (314, 28, 0, 0)
def zmc_y4 : Nat × Nat × Int × Int := (314, 29, 0, 0)
def zmc_y5 : Nat × Nat × Int × Int := (314, 31, 0, 0)
def zmc_y6 : Nat × Nat × Int × Int := (319, 0, 4, 4)
def zmc_y7 : Nat × Nat × Int × Int := (319, 1, 20, 20)
def zmc_y8 : Nat × Nat × Int × Int := (314, 31, 1, 1)
def zmc_y9 : Nat × Nat × Int × Int := (319, 0, 2, 8)
def zmc_y10 : Nat × Nat × Int × Int := (319, 1, 0, 99)
def zmc_y11 : Nat × Nat × Int × Int := (314, 10, 1, 240)
def zmc_y12 : Nat × Nat × Int × Int := (314, 28, 1, 1)
def zmc_y13 : Nat × Nat × Int × Int := (314, 29, 1, 1)
def zmc_y14 : Nat × Nat × Int × Int := (314, 28, 2, 2)
def zmc_y15 : Nat × Nat × Int × Int := (314, 29, 2, 2)
def zmc_y16 : Nat × Nat × Int × Int := (314, 28, 3, 3)
def zmc_y17 : Nat × Nat × Int × Int := (314, 29, 3, 3)
def zmc_y18 : Nat × Nat × Int × Int := (314, 28, 4, 4)
def zmc_y19 : Nat × Nat × Int × Int := (314, 29, 4, 4)
def zmc_y20 : Nat × Nat × Int × Int := (314, 28, 5, 5)
def zmc_y21 : Nat × Nat × Int × Int := (314, 28, 6, 6)
def zmc_y22 : Nat × Nat × Int × Int := (314, 28, 7, 7)
def zmc_y23 : Nat × Nat × Int × Int := (314, 28, 8, 8)
def zmc_y24 : Nat × Nat × Int × Int := (314, 28, 9, 9)
def zmc_y25 : Nat × Nat × Int × Int := (314, 28, 10, 10)
def zmc_y26 : Nat × Nat × Int × Int := (314, 28, 11, 11)
def zmc_y27 : Nat × Nat × Int × Int := (314, 28, 12, 12)
def zmc_y28 : Nat × Nat × Int × Int := (314, 11, 0, 241)
def zmc_y29 : Nat × Nat × Int × Int := (314, 10, 0, 240)
def zmc_p0 : aLs := [zmc_x0, zmc_x1]
def zmc_q0 : aFs := [zmc_y0, zmc_y1, zmc_y2]
theorem all_ap {α : Type} {p : α → Bool} {a b : List α} (h1 : a.all p = true) (h2 : b.all p = true) : (a ++ b).all p = true := by rw [List.all_append, h1, h2]; rfl
def rtO : List (Option aV × List (Int × Int) × aFs) := [(none, [(lLo, lHi)], [(314, 11, 0, 241)]), (none, [(lLo, lHi)], [(314, 28, 1, 0), (314, 29, 1, 0), (314, 11, (-1), (-1)), (319, 0, 2, 8), (319, 1, 0, 99)]), (none, [(lLo, lHi)], ([(314, 29, 1, 0), (314, 28, 1, 1), (314, 11, (-1), (-1)), (319, 0, 2, 8), (319, 1, 0, 99)] ++ (rdF 1))), (none, [(lLo, lHi)], ([(314, 28, 1, 0), (314, 29, 1, 1), (314, 11, (-1), (-1)), (319, 0, 2, 8), (319, 1, 0, 99)] ++ ([] ++ fkF 1))), (none, [(lLo, lHi)], ([(314, 29, 1, 0), (314, 28, 2, 2), (314, 11, (-1), (-1)), (319, 0, 2, 8), (319, 1, 0, 99)] ++ (rdF 2))), (none, [(lLo, lHi)], ([(314, 28, 1, 1), (314, 29, 1, 1), (314, 11, (-1), (-1)), (319, 0, 2, 8), (319, 1, 0, 99)] ++ (rdF 1 ++ fkF 1))), (none, [(lLo, lHi)], ([(314, 28, 1, 0), (314, 29, 2, 2), (314, 11, (-1), (-1)), (319, 0, 2, 8), (319, 1, 0, 99)] ++ ([] ++ fkF 2))), (none, [(lLo, lHi)], ([(314, 29, 1, 0), (314, 28, 3, 3), (314, 11, (-1), (-1)), (319, 0, 2, 8), (319, 1, 0, 99)] ++ (rdF 3))), (none, [(lLo, lHi)], ([(314, 28, 2, 2), (314, 29, 1, 1), (314, 11, (-1), (-1)), (319, 0, 2, 8), (319, 1, 0, 99)] ++ (rdF 2 ++ fkF 1))), (none, [(lLo, lHi)], ([(314, 28, 1, 1), (314, 29, 2, 2), (314, 11, (-1), (-1)), (319, 0, 2, 8), (319, 1, 0, 99)] ++ (rdF 1 ++ fkF 2))), (none, [(lLo, lHi)], ([(314, 28, 1, 0), (314, 29, 3, 3), (314, 11, (-1), (-1)), (319, 0, 2, 8), (319, 1, 0, 99)] ++ ([] ++ fkF 3))), (none, [(lLo, lHi)], ([(314, 29, 1, 0), (314, 28, 4, 4), (314, 11, (-1), (-1)), (319, 0, 2, 8), (319, 1, 0, 99)] ++ (rdF 4))), (none, [(lLo, lHi)], ([(314, 28, 3, 3), (314, 29, 1, 1), (314, 11, (-1), (-1)), (319, 0, 2, 8), (319, 1, 0, 99)] ++ (rdF 3 ++ fkF 1))), (none, [(lLo, lHi)], ([(314, 28, 2, 2), (314, 29, 2, 2), (314, 11, (-1), (-1)), (319, 0, 2, 8), (319, 1, 0, 99)] ++ (rdF 2 ++ fkF 2))), (none, [(lLo, lHi)], ([(314, 28, 1, 1), (314, 29, 3, 3), (314, 11, (-1), (-1)), (319, 0, 2, 8), (319, 1, 0, 99)] ++ (rdF 1 ++ fkF 3))), (none, [(lLo, lHi)], ([(314, 28, 1, 0), (314, 29, 4, 4), (314, 11, (-1), (-1)), (319, 0, 2, 8), (319, 1, 0, 99)] ++ ([] ++ fkF 4))), (none, [(lLo, lHi)], ([(314, 29, 1, 0), (314, 28, 5, 5), (314, 11, (-1), (-1)), (319, 0, 2, 8), (319, 1, 0, 99)] ++ (rdF 5))), (none, [(lLo, lHi)], ([(314, 28, 4, 4), (314, 29, 1, 1), (314, 11, (-1), (-1)), (319, 0, 2, 8), (319, 1, 0, 99)] ++ (rdF 4 ++ fkF 1))), (none, [(lLo, lHi)], ([(314, 28, 3, 3), (314, 29, 2, 2), (314, 11, (-1), (-1)), (319, 0, 2, 8), (319, 1, 0, 99)] ++ (rdF 3 ++ fkF 2))), (none, [(lLo, lHi)], ([(314, 28, 2, 2), (314, 29, 3, 3), (314, 11, (-1), (-1)), (319, 0, 2, 8), (319, 1, 0, 99)] ++ (rdF 2 ++ fkF 3))), (none, [(lLo, lHi)], ([(314, 28, 1, 1), (314, 29, 4, 4), (314, 11, (-1), (-1)), (319, 0, 2, 8), (319, 1, 0, 99)] ++ (rdF 1 ++ fkF 4))), (none, [(lLo, lHi)], ([(314, 29, 1, 0), (314, 28, 6, 6), (314, 11, (-1), (-1)), (319, 0, 2, 8), (319, 1, 0, 99)] ++ (rdF 6))), (none, [(lLo, lHi)], ([(314, 28, 5, 5), (314, 29, 1, 1), (314, 11, (-1), (-1)), (319, 0, 2, 8), (319, 1, 0, 99)] ++ (rdF 5 ++ fkF 1))), (none, [(lLo, lHi)], ([(314, 28, 4, 4), (314, 29, 2, 2), (314, 11, (-1), (-1)), (319, 0, 2, 8), (319, 1, 0, 99)] ++ (rdF 4 ++ fkF 2))), (none, [(lLo, lHi)], ([(314, 28, 3, 3), (314, 29, 3, 3), (314, 11, (-1), (-1)), (319, 0, 2, 8), (319, 1, 0, 99)] ++ (rdF 3 ++ fkF 3))), (none, [(lLo, lHi)], ([(314, 28, 2, 2), (314, 29, 4, 4), (314, 11, (-1), (-1)), (319, 0, 2, 8), (319, 1, 0, 99)] ++ (rdF 2 ++ fkF 4))), (none, [(lLo, lHi)], ([(314, 29, 1, 0), (314, 28, 7, 7), (314, 11, (-1), (-1)), (319, 0, 2, 8), (319, 1, 0, 99)] ++ (rdF 7))), (none, [(lLo, lHi)], ([(314, 28, 6, 6), (314, 29, 1, 1), (314, 11, (-1), (-1)), (319, 0, 2, 8), (319, 1, 0, 99)] ++ (rdF 6 ++ fkF 1))), (none, [(lLo, lHi)], ([(314, 28, 5, 5), (314, 29, 2, 2), (314, 11, (-1), (-1)), (319, 0, 2, 8), (319, 1, 0, 99)] ++ (rdF 5 ++ fkF 2))), (none, [(lLo, lHi)], ([(314, 28, 4, 4), (314, 29, 3, 3), (314, 11, (-1), (-1)), (319, 0, 2, 8), (319, 1, 0, 99)] ++ (rdF 4 ++ fkF 3))), (none, [(lLo, lHi)], ([(314, 28, 3, 3), (314, 29, 4, 4), (314, 11, (-1), (-1)), (319, 0, 2, 8), (319, 1, 0, 99)] ++ (rdF 3 ++ fkF 4))), (none, [(lLo, lHi)], ([(314, 29, 1, 0), (314, 28, 8, 8), (314, 11, (-1), (-1)), (319, 0, 2, 8), (319, 1, 0, 99)] ++ (rdF 8))), (none, [(lLo, lHi)], ([(314, 28, 7, 7), (314, 29, 1, 1), (314, 11, (-1), (-1)), (319, 0, 2, 8), (319, 1, 0, 99)] ++ (rdF 7 ++ fkF 1))), (none, [(lLo, lHi)], ([(314, 28, 6, 6), (314, 29, 2, 2), (314, 11, (-1), (-1)), (319, 0, 2, 8), (319, 1, 0, 99)] ++ (rdF 6 ++ fkF 2))), (none, [(lLo, lHi)], ([(314, 28, 5, 5), (314, 29, 3, 3), (314, 11, (-1), (-1)), (319, 0, 2, 8), (319, 1, 0, 99)] ++ (rdF 5 ++ fkF 3))), (none, [(lLo, lHi)], ([(314, 28, 4, 4), (314, 29, 4, 4), (314, 11, (-1), (-1)), (319, 0, 2, 8), (319, 1, 0, 99)] ++ (rdF 4 ++ fkF 4))), (none, [(lLo, lHi)], ([(314, 29, 1, 0), (314, 28, 9, 9), (314, 11, (-1), (-1)), (319, 0, 2, 8), (319, 1, 0, 99)] ++ (rdF 9))), (none, [(lLo, lHi)], ([(314, 28, 8, 8), (314, 29, 1, 1), (314, 11, (-1), (-1)), (319, 0, 2, 8), (319, 1, 0, 99)] ++ (rdF 8 ++ fkF 1))), (none, [(lLo, lHi)], ([(314, 28, 7, 7), (314, 29, 2, 2), (314, 11, (-1), (-1)), (319, 0, 2, 8), (319, 1, 0, 99)] ++ (rdF 7 ++ fkF 2))), (none, [(lLo, lHi)], ([(314, 28, 6, 6), (314, 29, 3, 3), (314, 11, (-1), (-1)), (319, 0, 2, 8), (319, 1, 0, 99)] ++ (rdF 6 ++ fkF 3))), (none, [(lLo, lHi)], ([(314, 28, 5, 5), (314, 29, 4, 4), (314, 11, (-1), (-1)), (319, 0, 2, 8), (319, 1, 0, 99)] ++ (rdF 5 ++ fkF 4))), (none, [(lLo, lHi)], ([(314, 29, 1, 0), (314, 28, 10, 10), (314, 11, (-1), (-1)), (319, 0, 2, 8), (319, 1, 0, 99)] ++ (rdF 10))), (none, [(lLo, lHi)], ([(314, 28, 9, 9), (314, 29, 1, 1), (314, 11, (-1), (-1)), (319, 0, 2, 8), (319, 1, 0, 99)] ++ (rdF 9 ++ fkF 1))), (none, [(lLo, lHi)], ([(314, 28, 8, 8), (314, 29, 2, 2), (314, 11, (-1), (-1)), (319, 0, 2, 8), (319, 1, 0, 99)] ++ (rdF 8 ++ fkF 2))), (none, [(lLo, lHi)], ([(314, 28, 7, 7), (314, 29, 3, 3), (314, 11, (-1), (-1)), (319, 0, 2, 8), (319, 1, 0, 99)] ++ (rdF 7 ++ fkF 3))), (none, [(lLo, lHi)], ([(314, 28, 6, 6), (314, 29, 4, 4), (314, 11, (-1), (-1)), (319, 0, 2, 8), (319, 1, 0, 99)] ++ (rdF 6 ++ fkF 4))), (none, [(lLo, lHi)], ([(314, 29, 1, 0), (314, 28, 11, 11), (314, 11, (-1), (-1)), (319, 0, 2, 8), (319, 1, 0, 99)] ++ (rdF 11))), (none, [(lLo, lHi)], ([(314, 28, 10, 10), (314, 29, 1, 1), (314, 11, (-1), (-1)), (319, 0, 2, 8), (319, 1, 0, 99)] ++ (rdF 10 ++ fkF 1))), (none, [(lLo, lHi)], ([(314, 28, 9, 9), (314, 29, 2, 2), (314, 11, (-1), (-1)), (319, 0, 2, 8), (319, 1, 0, 99)] ++ (rdF 9 ++ fkF 2))), (none, [(lLo, lHi)], ([(314, 28, 8, 8), (314, 29, 3, 3), (314, 11, (-1), (-1)), (319, 0, 2, 8), (319, 1, 0, 99)] ++ (rdF 8 ++ fkF 3))), (none, [(lLo, lHi)], ([(314, 28, 7, 7), (314, 29, 4, 4), (314, 11, (-1), (-1)), (319, 0, 2, 8), (319, 1, 0, 99)] ++ (rdF 7 ++ fkF 4))), (none, [(lLo, lHi)], ([(314, 29, 1, 0), (314, 28, 12, 12), (314, 11, (-1), (-1)), (319, 0, 2, 8), (319, 1, 0, 99)] ++ (rdF 12))), (none, [(lLo, lHi)], ([(314, 28, 11, 11), (314, 29, 1, 1), (314, 11, (-1), (-1)), (319, 0, 2, 8), (319, 1, 0, 99)] ++ (rdF 11 ++ fkF 1))), (none, [(lLo, lHi)], ([(314, 28, 10, 10), (314, 29, 2, 2), (314, 11, (-1), (-1)), (319, 0, 2, 8), (319, 1, 0, 99)] ++ (rdF 10 ++ fkF 2))), (none, [(lLo, lHi)], ([(314, 28, 9, 9), (314, 29, 3, 3), (314, 11, (-1), (-1)), (319, 0, 2, 8), (319, 1, 0, 99)] ++ (rdF 9 ++ fkF 3))), (none, [(lLo, lHi)], ([(314, 28, 8, 8), (314, 29, 4, 4), (314, 11, (-1), (-1)), (319, 0, 2, 8), (319, 1, 0, 99)] ++ (rdF 8 ++ fkF 4))), (none, [(lLo, lHi)], ([(314, 28, 12, 12), (314, 29, 1, 1), (314, 11, (-1), (-1)), (319, 0, 2, 8), (319, 1, 0, 99)] ++ (rdF 12 ++ fkF 1))), (none, [(lLo, lHi)], ([(314, 28, 11, 11), (314, 29, 2, 2), (314, 11, (-1), (-1)), (319, 0, 2, 8), (319, 1, 0, 99)] ++ (rdF 11 ++ fkF 2))), (none, [(lLo, lHi)], ([(314, 28, 10, 10), (314, 29, 3, 3), (314, 11, (-1), (-1)), (319, 0, 2, 8), (319, 1, 0, 99)] ++ (rdF 10 ++ fkF 3))), (none, [(lLo, lHi)], ([(314, 28, 9, 9), (314, 29, 4, 4), (314, 11, (-1), (-1)), (319, 0, 2, 8), (319, 1, 0, 99)] ++ (rdF 9 ++ fkF 4))), (none, [(lLo, lHi)], ([(314, 28, 12, 12), (314, 29, 2, 2), (314, 11, (-1), (-1)), (319, 0, 2, 8), (319, 1, 0, 99)] ++ (rdF 12 ++ fkF 2))), (none, [(lLo, lHi)], ([(314, 28, 11, 11), (314, 29, 3, 3), (314, 11, (-1), (-1)), (319, 0, 2, 8), (319, 1, 0, 99)] ++ (rdF 11 ++ fkF 3))), (none, [(lLo, lHi)], ([(314, 28, 10, 10), (314, 29, 4, 4), (314, 11, (-1), (-1)), (319, 0, 2, 8), (319, 1, 0, 99)] ++ (rdF 10 ++ fkF 4))), (none, [(lLo, lHi)], ([(314, 28, 12, 12), (314, 29, 3, 3), (314, 11, (-1), (-1)), (319, 0, 2, 8), (319, 1, 0, 99)] ++ (rdF 12 ++ fkF 3))), (none, [(lLo, lHi)], ([(314, 28, 11, 11), (314, 29, 4, 4), (314, 11, (-1), (-1)), (319, 0, 2, 8), (319, 1, 0, 99)] ++ (rdF 11 ++ fkF 4))), (none, [(lLo, lHi)], ([(314, 28, 12, 12), (314, 29, 4, 4), (314, 11, (-1), (-1)), (319, 0, 2, 8), (319, 1, 0, 99)] ++ (rdF 12 ++ fkF 4)))]
def rtc : aCt := (188, [aR [314]], [], rtO, [(314, 8, 12), (314, 28, 30), (314, 31, 32), (319, 0, 2), (321, 0, 48), (323, 0, 8)])
def rtT : List aCt := [tA122c, (fA0c 0), tA0c, tA123c, tA124c, tA126c, tA128c, tA129c, tA130c, tA132c, tA133c, tA135c, tA136c, tA137c, tA138c, tA140c, tA141c, tA142c, tA144c, tA145c, tA146c, tA147c, tA148c, tA150c, tA151c, tA152c, tA153c, tA154c, tA155c, tA156c, tA157c, tA158c, tA159c, tA161c, tA162c, tA163c, tA164c, tA165c, tA166c, tA167c, tA168c, tA169c, tA170c, tA172c, tA173c, tA174c, tA175c, tA176c, tA177c, tA178c, tA179c, tA180c, tA181c, tA183c, tA184c, tA185c, tA186c, tA187c, tA188c, tA189c, tA190c, tA191c, tA192c, tA194c, tA195c, tA196c, tA197c, tA198c, tA199c, tA200c, tA201c, tA202c, tA203c, tA205c, tA206c, tA207c, tA208c, tA209c, tA210c, tA211c, tA212c, tA213c, tA214c, tA216c, tA217c, tA218c, tA219c, tA220c, tA221c, tA222c, tA223c, tA224c, tA225c, tA227c, tA228c, tA229c, tA230c, tA231c, tA232c, tA233c, tA234c, tA235c, tA236c, tA237c, tA238c, tA239c, tA240c, tA241c, tA242c, tA243c, tA244c, tA245c, tA246c, tA247c, tA248c, tA249c, tA250c, tA251c, tA252c, tA253c, tA254c, tA255c, tA256c, tA257c, tA258c, tA259c, tA260c, tA261c, tA262c, tA263c, tA264c, tA265c, tA266c]
theorem rth : ∀ t ∈ rtT, vC tS (tRx 315) jM 12 t := fa_cons (vUq tA122 (by decide)) (fa_cons (vUq (fA0 0) (by decide)) (fa_cons (vUq tA0 (by decide)) (fa_cons (vUq tA123 (by decide)) (fa_cons (vUq tA124 (by decide)) (fa_cons (vUq tA126 (by decide)) (fa_cons (vUq tA128 (by decide)) (fa_cons (vUq tA129 (by decide)) (fa_cons (vUq tA130 (by decide)) (fa_cons (vUq tA132 (by decide)) (fa_cons (vUq tA133 (by decide)) (fa_cons (vUq tA135 (by decide)) (fa_cons (vUq tA136 (by decide)) (fa_cons (vUq tA137 (by decide)) (fa_cons (vUq tA138 (by decide)) (fa_cons (vUq tA140 (by decide)) (fa_cons (vUq tA141 (by decide)) (fa_cons (vUq tA142 (by decide)) (fa_cons (vUq tA144 (by decide)) (fa_cons (vUq tA145 (by decide)) (fa_cons (vUq tA146 (by decide)) (fa_cons (vUq tA147 (by decide)) (fa_cons (vUq tA148 (by decide)) (fa_cons (vUq tA150 (by decide)) (fa_cons (vUq tA151 (by decide)) (fa_cons (vUq tA152 (by decide)) (fa_cons (vUq tA153 (by decide)) (fa_cons (vUq tA154 (by decide)) (fa_cons (vUq tA155 (by decide)) (fa_cons (vUq tA156 (by decide)) (fa_cons (vUq tA157 (by decide)) (fa_cons (vUq tA158 (by decide)) (fa_cons (vUq tA159 (by decide)) (fa_cons (vUq tA161 (by decide)) (fa_cons (vUq tA162 (by decide)) (fa_cons (vUq tA163 (by decide)) (fa_cons (vUq tA164 (by decide)) (fa_cons (vUq tA165 (by decide)) (fa_cons (vUq tA166 (by decide)) (fa_cons (vUq tA167 (by decide)) (fa_cons (vUq tA168 (by decide)) (fa_cons (vUq tA169 (by decide)) (fa_cons (vUq tA170 (by decide)) (fa_cons (vUq tA172 (by decide)) (fa_cons (vUq tA173 (by decide)) (fa_cons (vUq tA174 (by decide)) (fa_cons (vUq tA175 (by decide)) (fa_cons (vUq tA176 (by decide)) (fa_cons (vUq tA177 (by decide)) (fa_cons (vUq tA178 (by decide)) (fa_cons (vUq tA179 (by decide)) (fa_cons (vUq tA180 (by decide)) (fa_cons (vUq tA181 (by decide)) (fa_cons (vUq tA183 (by decide)) (fa_cons (vUq tA184 (by decide)) (fa_cons (vUq tA185 (by decide)) (fa_cons (vUq tA186 (by decide)) (fa_cons (vUq tA187 (by decide)) (fa_cons (vUq tA188 (by decide)) (fa_cons (vUq tA189 (by decide)) (fa_cons (vUq tA190 (by decide)) (fa_cons (vUq tA191 (by decide)) (fa_cons (vUq tA192 (by decide)) (fa_cons (vUq tA194 (by decide)) (fa_cons (vUq tA195 (by decide)) (fa_cons (vUq tA196 (by decide)) (fa_cons (vUq tA197 (by decide)) (fa_cons (vUq tA198 (by decide)) (fa_cons (vUq tA199 (by decide)) (fa_cons (vUq tA200 (by decide)) (fa_cons (vUq tA201 (by decide)) (fa_cons (vUq tA202 (by decide)) (fa_cons (vUq tA203 (by decide)) (fa_cons (vUq tA205 (by decide)) (fa_cons (vUq tA206 (by decide)) (fa_cons (vUq tA207 (by decide)) (fa_cons (vUq tA208 (by decide)) (fa_cons (vUq tA209 (by decide)) (fa_cons (vUq tA210 (by decide)) (fa_cons (vUq tA211 (by decide)) (fa_cons (vUq tA212 (by decide)) (fa_cons (vUq tA213 (by decide)) (fa_cons (vUq tA214 (by decide)) (fa_cons (vUq tA216 (by decide)) (fa_cons (vUq tA217 (by decide)) (fa_cons (vUq tA218 (by decide)) (fa_cons (vUq tA219 (by decide)) (fa_cons (vUq tA220 (by decide)) (fa_cons (vUq tA221 (by decide)) (fa_cons (vUq tA222 (by decide)) (fa_cons (vUq tA223 (by decide)) (fa_cons (vUq tA224 (by decide)) (fa_cons (vUq tA225 (by decide)) (fa_cons (vUq tA227 (by decide)) (fa_cons (vUq tA228 (by decide)) (fa_cons (vUq tA229 (by decide)) (fa_cons (vUq tA230 (by decide)) (fa_cons (vUq tA231 (by decide)) (fa_cons (vUq tA232 (by decide)) (fa_cons (vUq tA233 (by decide)) (fa_cons (vUq tA234 (by decide)) (fa_cons (vUq tA235 (by decide)) (fa_cons (vUq tA236 (by decide)) (fa_cons (vUq tA237 (by decide)) (fa_cons (vUq tA238 (by decide)) (fa_cons (vUq tA239 (by decide)) (fa_cons (vUq tA240 (by decide)) (fa_cons (vUq tA241 (by decide)) (fa_cons (vUq tA242 (by decide)) (fa_cons (vUq tA243 (by decide)) (fa_cons (vUq tA244 (by decide)) (fa_cons (vUq tA245 (by decide)) (fa_cons (vUq tA246 (by decide)) (fa_cons (vUq tA247 (by decide)) (fa_cons (vUq tA248 (by decide)) (fa_cons (vUq tA249 (by decide)) (fa_cons (vUq tA250 (by decide)) (fa_cons (vUq tA251 (by decide)) (fa_cons (vUq tA252 (by decide)) (fa_cons (vUq tA253 (by decide)) (fa_cons (vUq tA254 (by decide)) (fa_cons (vUq tA255 (by decide)) (fa_cons (vUq tA256 (by decide)) (fa_cons (vUq tA257 (by decide)) (fa_cons (vUq tA258 (by decide)) (fa_cons (vUq tA259 (by decide)) (fa_cons (vUq tA260 (by decide)) (fa_cons (vUq tA261 (by decide)) (fa_cons (vUq tA262 (by decide)) (fa_cons (vUq tA263 (by decide)) (fa_cons (vUq tA264 (by decide)) (fa_cons (vUq tA265 (by decide)) (fa_cons (vUq tA266 (by decide)) (fa_nil)))))))))))))))))))))))))))))))))))))))))))))))))))))))))))))))))))))))))))))))))))))))))))))))))))))))))))))))))))))))))))))))))))))
def rtN_0 : List aNd := [(13, [zmc_x0], zmc_q0, 20, []),
  (49, zmc_p0, [zmc_y0, zmc_y3, zmc_y4, zmc_y5, zmc_y1, zmc_y2, zmc_y6, zmc_y7], 19, []),
  (49, zmc_p0, [zmc_y3, zmc_y4, zmc_y8, zmc_y0, zmc_y1, zmc_y9, zmc_y10, zmc_y11], 18, []),
  (49, zmc_p0, ([zmc_y4, zmc_y5, zmc_y12, zmc_y0, zmc_y1, zmc_y9, zmc_y10, zmc_y11] ++ (rdF 1)), 18, []),
  (49, zmc_p0, ([zmc_y3, zmc_y5, zmc_y13, zmc_y0, zmc_y1, zmc_y9, zmc_y10, zmc_y11] ++ ([] ++ fkF 1)), 18, []),
  (49, zmc_p0, ([zmc_y8, zmc_y4, zmc_y12, zmc_y0, zmc_y1, zmc_y9, zmc_y10, zmc_y11] ++ (rdF 1)), 17, []),
  (49, zmc_p0, ([zmc_y8, zmc_y3, zmc_y13, zmc_y0, zmc_y1, zmc_y9, zmc_y10, zmc_y11] ++ ([] ++ fkF 1)), 17, []),
  (49, zmc_p0, ([zmc_y4, zmc_y5, zmc_y14, zmc_y0, zmc_y1, zmc_y9, zmc_y10, zmc_y11] ++ (rdF 2)), 17, []),
  (49, zmc_p0, ([zmc_y12, zmc_y5, zmc_y13, zmc_y0, zmc_y1, zmc_y9, zmc_y10, zmc_y11] ++ (rdF 1 ++ fkF 1)), 17, []),
  (49, zmc_p0, ([zmc_y3, zmc_y5, zmc_y15, zmc_y0, zmc_y1, zmc_y9, zmc_y10, zmc_y11] ++ ([] ++ fkF 2)), 17, []),
  (49, zmc_p0, ([zmc_y8, zmc_y4, zmc_y14, zmc_y0, zmc_y1, zmc_y9, zmc_y10, zmc_y11] ++ (rdF 2)), 16, []),
  (49, zmc_p0, ([zmc_y8, zmc_y12, zmc_y13, zmc_y0, zmc_y1, zmc_y9, zmc_y10, zmc_y11] ++ (rdF 1 ++ fkF 1)), 16, [])]
def rtN_1 : List aNd := [(49, zmc_p0, ([zmc_y8, zmc_y3, zmc_y15, zmc_y0, zmc_y1, zmc_y9, zmc_y10, zmc_y11] ++ ([] ++ fkF 2)), 16, []),
  (49, zmc_p0, ([zmc_y4, zmc_y5, zmc_y16, zmc_y0, zmc_y1, zmc_y9, zmc_y10, zmc_y11] ++ (rdF 3)), 16, []),
  (49, zmc_p0, ([zmc_y14, zmc_y5, zmc_y13, zmc_y0, zmc_y1, zmc_y9, zmc_y10, zmc_y11] ++ (rdF 2 ++ fkF 1)), 16, []),
  (49, zmc_p0, ([zmc_y12, zmc_y5, zmc_y15, zmc_y0, zmc_y1, zmc_y9, zmc_y10, zmc_y11] ++ (rdF 1 ++ fkF 2)), 16, []),
  (49, zmc_p0, ([zmc_y3, zmc_y5, zmc_y17, zmc_y0, zmc_y1, zmc_y9, zmc_y10, zmc_y11] ++ ([] ++ fkF 3)), 16, []),
  (49, zmc_p0, ([zmc_y8, zmc_y4, zmc_y16, zmc_y0, zmc_y1, zmc_y9, zmc_y10, zmc_y11] ++ (rdF 3)), 15, []),
  (49, zmc_p0, ([zmc_y8, zmc_y14, zmc_y13, zmc_y0, zmc_y1, zmc_y9, zmc_y10, zmc_y11] ++ (rdF 2 ++ fkF 1)), 15, []),
  (49, zmc_p0, ([zmc_y8, zmc_y12, zmc_y15, zmc_y0, zmc_y1, zmc_y9, zmc_y10, zmc_y11] ++ (rdF 1 ++ fkF 2)), 15, []),
  (49, zmc_p0, ([zmc_y8, zmc_y3, zmc_y17, zmc_y0, zmc_y1, zmc_y9, zmc_y10, zmc_y11] ++ ([] ++ fkF 3)), 15, []),
  (49, zmc_p0, ([zmc_y4, zmc_y5, zmc_y18, zmc_y0, zmc_y1, zmc_y9, zmc_y10, zmc_y11] ++ (rdF 4)), 15, []),
  (49, zmc_p0, ([zmc_y16, zmc_y5, zmc_y13, zmc_y0, zmc_y1, zmc_y9, zmc_y10, zmc_y11] ++ (rdF 3 ++ fkF 1)), 15, []),
  (49, zmc_p0, ([zmc_y14, zmc_y5, zmc_y15, zmc_y0, zmc_y1, zmc_y9, zmc_y10, zmc_y11] ++ (rdF 2 ++ fkF 2)), 15, [])]
def rtN_2 : List aNd := [(49, zmc_p0, ([zmc_y12, zmc_y5, zmc_y17, zmc_y0, zmc_y1, zmc_y9, zmc_y10, zmc_y11] ++ (rdF 1 ++ fkF 3)), 15, []),
  (49, zmc_p0, ([zmc_y3, zmc_y5, zmc_y19, zmc_y0, zmc_y1, zmc_y9, zmc_y10, zmc_y11] ++ ([] ++ fkF 4)), 15, []),
  (49, zmc_p0, ([zmc_y8, zmc_y4, zmc_y18, zmc_y0, zmc_y1, zmc_y9, zmc_y10, zmc_y11] ++ (rdF 4)), 14, []),
  (49, zmc_p0, ([zmc_y8, zmc_y16, zmc_y13, zmc_y0, zmc_y1, zmc_y9, zmc_y10, zmc_y11] ++ (rdF 3 ++ fkF 1)), 14, []),
  (49, zmc_p0, ([zmc_y8, zmc_y14, zmc_y15, zmc_y0, zmc_y1, zmc_y9, zmc_y10, zmc_y11] ++ (rdF 2 ++ fkF 2)), 14, []),
  (49, zmc_p0, ([zmc_y8, zmc_y12, zmc_y17, zmc_y0, zmc_y1, zmc_y9, zmc_y10, zmc_y11] ++ (rdF 1 ++ fkF 3)), 14, []),
  (49, zmc_p0, ([zmc_y8, zmc_y3, zmc_y19, zmc_y0, zmc_y1, zmc_y9, zmc_y10, zmc_y11] ++ ([] ++ fkF 4)), 14, []),
  (49, zmc_p0, ([zmc_y4, zmc_y5, zmc_y20, zmc_y0, zmc_y1, zmc_y9, zmc_y10, zmc_y11] ++ (rdF 5)), 14, []),
  (49, zmc_p0, ([zmc_y18, zmc_y5, zmc_y13, zmc_y0, zmc_y1, zmc_y9, zmc_y10, zmc_y11] ++ (rdF 4 ++ fkF 1)), 14, []),
  (49, zmc_p0, ([zmc_y16, zmc_y5, zmc_y15, zmc_y0, zmc_y1, zmc_y9, zmc_y10, zmc_y11] ++ (rdF 3 ++ fkF 2)), 14, []),
  (49, zmc_p0, ([zmc_y14, zmc_y5, zmc_y17, zmc_y0, zmc_y1, zmc_y9, zmc_y10, zmc_y11] ++ (rdF 2 ++ fkF 3)), 14, []),
  (49, zmc_p0, ([zmc_y12, zmc_y5, zmc_y19, zmc_y0, zmc_y1, zmc_y9, zmc_y10, zmc_y11] ++ (rdF 1 ++ fkF 4)), 14, [])]
def rtN_3 : List aNd := [(49, zmc_p0, ([zmc_y8, zmc_y4, zmc_y20, zmc_y0, zmc_y1, zmc_y9, zmc_y10, zmc_y11] ++ (rdF 5)), 13, []),
  (49, zmc_p0, ([zmc_y8, zmc_y18, zmc_y13, zmc_y0, zmc_y1, zmc_y9, zmc_y10, zmc_y11] ++ (rdF 4 ++ fkF 1)), 13, []),
  (49, zmc_p0, ([zmc_y8, zmc_y16, zmc_y15, zmc_y0, zmc_y1, zmc_y9, zmc_y10, zmc_y11] ++ (rdF 3 ++ fkF 2)), 13, []),
  (49, zmc_p0, ([zmc_y8, zmc_y14, zmc_y17, zmc_y0, zmc_y1, zmc_y9, zmc_y10, zmc_y11] ++ (rdF 2 ++ fkF 3)), 13, []),
  (49, zmc_p0, ([zmc_y8, zmc_y12, zmc_y19, zmc_y0, zmc_y1, zmc_y9, zmc_y10, zmc_y11] ++ (rdF 1 ++ fkF 4)), 13, []),
  (49, zmc_p0, ([zmc_y4, zmc_y5, zmc_y21, zmc_y0, zmc_y1, zmc_y9, zmc_y10, zmc_y11] ++ (rdF 6)), 13, []),
  (49, zmc_p0, ([zmc_y20, zmc_y5, zmc_y13, zmc_y0, zmc_y1, zmc_y9, zmc_y10, zmc_y11] ++ (rdF 5 ++ fkF 1)), 13, []),
  (49, zmc_p0, ([zmc_y18, zmc_y5, zmc_y15, zmc_y0, zmc_y1, zmc_y9, zmc_y10, zmc_y11] ++ (rdF 4 ++ fkF 2)), 13, []),
  (49, zmc_p0, ([zmc_y16, zmc_y5, zmc_y17, zmc_y0, zmc_y1, zmc_y9, zmc_y10, zmc_y11] ++ (rdF 3 ++ fkF 3)), 13, []),
  (49, zmc_p0, ([zmc_y14, zmc_y5, zmc_y19, zmc_y0, zmc_y1, zmc_y9, zmc_y10, zmc_y11] ++ (rdF 2 ++ fkF 4)), 13, []),
  (49, zmc_p0, ([zmc_y8, zmc_y4, zmc_y21, zmc_y0, zmc_y1, zmc_y9, zmc_y10, zmc_y11] ++ (rdF 6)), 12, []),
  (49, zmc_p0, ([zmc_y8, zmc_y20, zmc_y13, zmc_y0, zmc_y1, zmc_y9, zmc_y10, zmc_y11] ++ (rdF 5 ++ fkF 1)), 12, [])]
def rtN_4 : List aNd := [(49, zmc_p0, ([zmc_y8, zmc_y18, zmc_y15, zmc_y0, zmc_y1, zmc_y9, zmc_y10, zmc_y11] ++ (rdF 4 ++ fkF 2)), 12, []),
  (49, zmc_p0, ([zmc_y8, zmc_y16, zmc_y17, zmc_y0, zmc_y1, zmc_y9, zmc_y10, zmc_y11] ++ (rdF 3 ++ fkF 3)), 12, []),
  (49, zmc_p0, ([zmc_y8, zmc_y14, zmc_y19, zmc_y0, zmc_y1, zmc_y9, zmc_y10, zmc_y11] ++ (rdF 2 ++ fkF 4)), 12, []),
  (49, zmc_p0, ([zmc_y4, zmc_y5, zmc_y22, zmc_y0, zmc_y1, zmc_y9, zmc_y10, zmc_y11] ++ (rdF 7)), 12, []),
  (49, zmc_p0, ([zmc_y21, zmc_y5, zmc_y13, zmc_y0, zmc_y1, zmc_y9, zmc_y10, zmc_y11] ++ (rdF 6 ++ fkF 1)), 12, []),
  (49, zmc_p0, ([zmc_y20, zmc_y5, zmc_y15, zmc_y0, zmc_y1, zmc_y9, zmc_y10, zmc_y11] ++ (rdF 5 ++ fkF 2)), 12, []),
  (49, zmc_p0, ([zmc_y18, zmc_y5, zmc_y17, zmc_y0, zmc_y1, zmc_y9, zmc_y10, zmc_y11] ++ (rdF 4 ++ fkF 3)), 12, []),
  (49, zmc_p0, ([zmc_y16, zmc_y5, zmc_y19, zmc_y0, zmc_y1, zmc_y9, zmc_y10, zmc_y11] ++ (rdF 3 ++ fkF 4)), 12, []),
  (49, zmc_p0, ([zmc_y8, zmc_y4, zmc_y22, zmc_y0, zmc_y1, zmc_y9, zmc_y10, zmc_y11] ++ (rdF 7)), 11, []),
  (49, zmc_p0, ([zmc_y8, zmc_y21, zmc_y13, zmc_y0, zmc_y1, zmc_y9, zmc_y10, zmc_y11] ++ (rdF 6 ++ fkF 1)), 11, []),
  (49, zmc_p0, ([zmc_y8, zmc_y20, zmc_y15, zmc_y0, zmc_y1, zmc_y9, zmc_y10, zmc_y11] ++ (rdF 5 ++ fkF 2)), 11, []),
  (49, zmc_p0, ([zmc_y8, zmc_y18, zmc_y17, zmc_y0, zmc_y1, zmc_y9, zmc_y10, zmc_y11] ++ (rdF 4 ++ fkF 3)), 11, [])]
def rtN_5 : List aNd := [(49, zmc_p0, ([zmc_y8, zmc_y16, zmc_y19, zmc_y0, zmc_y1, zmc_y9, zmc_y10, zmc_y11] ++ (rdF 3 ++ fkF 4)), 11, []),
  (49, zmc_p0, ([zmc_y4, zmc_y5, zmc_y23, zmc_y0, zmc_y1, zmc_y9, zmc_y10, zmc_y11] ++ (rdF 8)), 11, []),
  (49, zmc_p0, ([zmc_y22, zmc_y5, zmc_y13, zmc_y0, zmc_y1, zmc_y9, zmc_y10, zmc_y11] ++ (rdF 7 ++ fkF 1)), 11, []),
  (49, zmc_p0, ([zmc_y21, zmc_y5, zmc_y15, zmc_y0, zmc_y1, zmc_y9, zmc_y10, zmc_y11] ++ (rdF 6 ++ fkF 2)), 11, []),
  (49, zmc_p0, ([zmc_y20, zmc_y5, zmc_y17, zmc_y0, zmc_y1, zmc_y9, zmc_y10, zmc_y11] ++ (rdF 5 ++ fkF 3)), 11, []),
  (49, zmc_p0, ([zmc_y18, zmc_y5, zmc_y19, zmc_y0, zmc_y1, zmc_y9, zmc_y10, zmc_y11] ++ (rdF 4 ++ fkF 4)), 11, []),
  (49, zmc_p0, ([zmc_y8, zmc_y4, zmc_y23, zmc_y0, zmc_y1, zmc_y9, zmc_y10, zmc_y11] ++ (rdF 8)), 10, []),
  (49, zmc_p0, ([zmc_y8, zmc_y22, zmc_y13, zmc_y0, zmc_y1, zmc_y9, zmc_y10, zmc_y11] ++ (rdF 7 ++ fkF 1)), 10, []),
  (49, zmc_p0, ([zmc_y8, zmc_y21, zmc_y15, zmc_y0, zmc_y1, zmc_y9, zmc_y10, zmc_y11] ++ (rdF 6 ++ fkF 2)), 10, []),
  (49, zmc_p0, ([zmc_y8, zmc_y20, zmc_y17, zmc_y0, zmc_y1, zmc_y9, zmc_y10, zmc_y11] ++ (rdF 5 ++ fkF 3)), 10, []),
  (49, zmc_p0, ([zmc_y8, zmc_y18, zmc_y19, zmc_y0, zmc_y1, zmc_y9, zmc_y10, zmc_y11] ++ (rdF 4 ++ fkF 4)), 10, []),
  (49, zmc_p0, ([zmc_y4, zmc_y5, zmc_y24, zmc_y0, zmc_y1, zmc_y9, zmc_y10, zmc_y11] ++ (rdF 9)), 10, [])]
def rtN_6 : List aNd := [(49, zmc_p0, ([zmc_y23, zmc_y5, zmc_y13, zmc_y0, zmc_y1, zmc_y9, zmc_y10, zmc_y11] ++ (rdF 8 ++ fkF 1)), 10, []),
  (49, zmc_p0, ([zmc_y22, zmc_y5, zmc_y15, zmc_y0, zmc_y1, zmc_y9, zmc_y10, zmc_y11] ++ (rdF 7 ++ fkF 2)), 10, []),
  (49, zmc_p0, ([zmc_y21, zmc_y5, zmc_y17, zmc_y0, zmc_y1, zmc_y9, zmc_y10, zmc_y11] ++ (rdF 6 ++ fkF 3)), 10, []),
  (49, zmc_p0, ([zmc_y20, zmc_y5, zmc_y19, zmc_y0, zmc_y1, zmc_y9, zmc_y10, zmc_y11] ++ (rdF 5 ++ fkF 4)), 10, []),
  (49, zmc_p0, ([zmc_y8, zmc_y4, zmc_y24, zmc_y0, zmc_y1, zmc_y9, zmc_y10, zmc_y11] ++ (rdF 9)), 9, []),
  (49, zmc_p0, ([zmc_y8, zmc_y23, zmc_y13, zmc_y0, zmc_y1, zmc_y9, zmc_y10, zmc_y11] ++ (rdF 8 ++ fkF 1)), 9, []),
  (49, zmc_p0, ([zmc_y8, zmc_y22, zmc_y15, zmc_y0, zmc_y1, zmc_y9, zmc_y10, zmc_y11] ++ (rdF 7 ++ fkF 2)), 9, []),
  (49, zmc_p0, ([zmc_y8, zmc_y21, zmc_y17, zmc_y0, zmc_y1, zmc_y9, zmc_y10, zmc_y11] ++ (rdF 6 ++ fkF 3)), 9, []),
  (49, zmc_p0, ([zmc_y8, zmc_y20, zmc_y19, zmc_y0, zmc_y1, zmc_y9, zmc_y10, zmc_y11] ++ (rdF 5 ++ fkF 4)), 9, []),
  (49, zmc_p0, ([zmc_y4, zmc_y5, zmc_y25, zmc_y0, zmc_y1, zmc_y9, zmc_y10, zmc_y11] ++ (rdF 10)), 9, []),
  (49, zmc_p0, ([zmc_y24, zmc_y5, zmc_y13, zmc_y0, zmc_y1, zmc_y9, zmc_y10, zmc_y11] ++ (rdF 9 ++ fkF 1)), 9, []),
  (49, zmc_p0, ([zmc_y23, zmc_y5, zmc_y15, zmc_y0, zmc_y1, zmc_y9, zmc_y10, zmc_y11] ++ (rdF 8 ++ fkF 2)), 9, [])]
def rtN_7 : List aNd := [(49, zmc_p0, ([zmc_y22, zmc_y5, zmc_y17, zmc_y0, zmc_y1, zmc_y9, zmc_y10, zmc_y11] ++ (rdF 7 ++ fkF 3)), 9, []),
  (49, zmc_p0, ([zmc_y21, zmc_y5, zmc_y19, zmc_y0, zmc_y1, zmc_y9, zmc_y10, zmc_y11] ++ (rdF 6 ++ fkF 4)), 9, []),
  (49, zmc_p0, ([zmc_y8, zmc_y4, zmc_y25, zmc_y0, zmc_y1, zmc_y9, zmc_y10, zmc_y11] ++ (rdF 10)), 8, []),
  (49, zmc_p0, ([zmc_y8, zmc_y24, zmc_y13, zmc_y0, zmc_y1, zmc_y9, zmc_y10, zmc_y11] ++ (rdF 9 ++ fkF 1)), 8, []),
  (49, zmc_p0, ([zmc_y8, zmc_y23, zmc_y15, zmc_y0, zmc_y1, zmc_y9, zmc_y10, zmc_y11] ++ (rdF 8 ++ fkF 2)), 8, []),
  (49, zmc_p0, ([zmc_y8, zmc_y22, zmc_y17, zmc_y0, zmc_y1, zmc_y9, zmc_y10, zmc_y11] ++ (rdF 7 ++ fkF 3)), 8, []),
  (49, zmc_p0, ([zmc_y8, zmc_y21, zmc_y19, zmc_y0, zmc_y1, zmc_y9, zmc_y10, zmc_y11] ++ (rdF 6 ++ fkF 4)), 8, []),
  (49, zmc_p0, ([zmc_y4, zmc_y5, zmc_y26, zmc_y0, zmc_y1, zmc_y9, zmc_y10, zmc_y11] ++ (rdF 11)), 8, []),
  (49, zmc_p0, ([zmc_y25, zmc_y5, zmc_y13, zmc_y0, zmc_y1, zmc_y9, zmc_y10, zmc_y11] ++ (rdF 10 ++ fkF 1)), 8, []),
  (49, zmc_p0, ([zmc_y24, zmc_y5, zmc_y15, zmc_y0, zmc_y1, zmc_y9, zmc_y10, zmc_y11] ++ (rdF 9 ++ fkF 2)), 8, []),
  (49, zmc_p0, ([zmc_y23, zmc_y5, zmc_y17, zmc_y0, zmc_y1, zmc_y9, zmc_y10, zmc_y11] ++ (rdF 8 ++ fkF 3)), 8, []),
  (49, zmc_p0, ([zmc_y22, zmc_y5, zmc_y19, zmc_y0, zmc_y1, zmc_y9, zmc_y10, zmc_y11] ++ (rdF 7 ++ fkF 4)), 8, [])]
def rtN_8 : List aNd := [(49, zmc_p0, ([zmc_y8, zmc_y4, zmc_y26, zmc_y0, zmc_y1, zmc_y9, zmc_y10, zmc_y11] ++ (rdF 11)), 7, []),
  (49, zmc_p0, ([zmc_y8, zmc_y25, zmc_y13, zmc_y0, zmc_y1, zmc_y9, zmc_y10, zmc_y11] ++ (rdF 10 ++ fkF 1)), 7, []),
  (49, zmc_p0, ([zmc_y8, zmc_y24, zmc_y15, zmc_y0, zmc_y1, zmc_y9, zmc_y10, zmc_y11] ++ (rdF 9 ++ fkF 2)), 7, []),
  (49, zmc_p0, ([zmc_y8, zmc_y23, zmc_y17, zmc_y0, zmc_y1, zmc_y9, zmc_y10, zmc_y11] ++ (rdF 8 ++ fkF 3)), 7, []),
  (49, zmc_p0, ([zmc_y8, zmc_y22, zmc_y19, zmc_y0, zmc_y1, zmc_y9, zmc_y10, zmc_y11] ++ (rdF 7 ++ fkF 4)), 7, []),
  (49, zmc_p0, ([zmc_y4, zmc_y5, zmc_y27, zmc_y0, zmc_y1, zmc_y9, zmc_y10, zmc_y11] ++ (rdF 12)), 7, []),
  (49, zmc_p0, ([zmc_y26, zmc_y5, zmc_y13, zmc_y0, zmc_y1, zmc_y9, zmc_y10, zmc_y11] ++ (rdF 11 ++ fkF 1)), 7, []),
  (49, zmc_p0, ([zmc_y25, zmc_y5, zmc_y15, zmc_y0, zmc_y1, zmc_y9, zmc_y10, zmc_y11] ++ (rdF 10 ++ fkF 2)), 7, []),
  (49, zmc_p0, ([zmc_y24, zmc_y5, zmc_y17, zmc_y0, zmc_y1, zmc_y9, zmc_y10, zmc_y11] ++ (rdF 9 ++ fkF 3)), 7, []),
  (49, zmc_p0, ([zmc_y23, zmc_y5, zmc_y19, zmc_y0, zmc_y1, zmc_y9, zmc_y10, zmc_y11] ++ (rdF 8 ++ fkF 4)), 7, []),
  (49, zmc_p0, ([zmc_y8, zmc_y4, zmc_y27, zmc_y0, zmc_y1, zmc_y9, zmc_y10, zmc_y11] ++ (rdF 12)), 6, []),
  (49, zmc_p0, ([zmc_y8, zmc_y26, zmc_y13, zmc_y0, zmc_y1, zmc_y9, zmc_y10, zmc_y11] ++ (rdF 11 ++ fkF 1)), 6, [])]
def rtN_9 : List aNd := [(49, zmc_p0, ([zmc_y8, zmc_y25, zmc_y15, zmc_y0, zmc_y1, zmc_y9, zmc_y10, zmc_y11] ++ (rdF 10 ++ fkF 2)), 6, []),
  (49, zmc_p0, ([zmc_y8, zmc_y24, zmc_y17, zmc_y0, zmc_y1, zmc_y9, zmc_y10, zmc_y11] ++ (rdF 9 ++ fkF 3)), 6, []),
  (49, zmc_p0, ([zmc_y8, zmc_y23, zmc_y19, zmc_y0, zmc_y1, zmc_y9, zmc_y10, zmc_y11] ++ (rdF 8 ++ fkF 4)), 6, []),
  (49, zmc_p0, ([zmc_y27, zmc_y5, zmc_y13, zmc_y0, zmc_y1, zmc_y9, zmc_y10, zmc_y11] ++ (rdF 12 ++ fkF 1)), 6, []),
  (49, zmc_p0, ([zmc_y26, zmc_y5, zmc_y15, zmc_y0, zmc_y1, zmc_y9, zmc_y10, zmc_y11] ++ (rdF 11 ++ fkF 2)), 6, []),
  (49, zmc_p0, ([zmc_y25, zmc_y5, zmc_y17, zmc_y0, zmc_y1, zmc_y9, zmc_y10, zmc_y11] ++ (rdF 10 ++ fkF 3)), 6, []),
  (49, zmc_p0, ([zmc_y24, zmc_y5, zmc_y19, zmc_y0, zmc_y1, zmc_y9, zmc_y10, zmc_y11] ++ (rdF 9 ++ fkF 4)), 6, []),
  (49, zmc_p0, ([zmc_y8, zmc_y27, zmc_y13, zmc_y0, zmc_y1, zmc_y9, zmc_y10, zmc_y11] ++ (rdF 12 ++ fkF 1)), 5, []),
  (49, zmc_p0, ([zmc_y8, zmc_y26, zmc_y15, zmc_y0, zmc_y1, zmc_y9, zmc_y10, zmc_y11] ++ (rdF 11 ++ fkF 2)), 5, []),
  (49, zmc_p0, ([zmc_y8, zmc_y25, zmc_y17, zmc_y0, zmc_y1, zmc_y9, zmc_y10, zmc_y11] ++ (rdF 10 ++ fkF 3)), 5, []),
  (49, zmc_p0, ([zmc_y8, zmc_y24, zmc_y19, zmc_y0, zmc_y1, zmc_y9, zmc_y10, zmc_y11] ++ (rdF 9 ++ fkF 4)), 5, []),
  (49, zmc_p0, ([zmc_y27, zmc_y5, zmc_y15, zmc_y0, zmc_y1, zmc_y9, zmc_y10, zmc_y11] ++ (rdF 12 ++ fkF 2)), 5, [])]
def rtN_10 : List aNd := [(49, zmc_p0, ([zmc_y26, zmc_y5, zmc_y17, zmc_y0, zmc_y1, zmc_y9, zmc_y10, zmc_y11] ++ (rdF 11 ++ fkF 3)), 5, []),
  (49, zmc_p0, ([zmc_y25, zmc_y5, zmc_y19, zmc_y0, zmc_y1, zmc_y9, zmc_y10, zmc_y11] ++ (rdF 10 ++ fkF 4)), 5, []),
  (49, zmc_p0, ([zmc_y8, zmc_y27, zmc_y15, zmc_y0, zmc_y1, zmc_y9, zmc_y10, zmc_y11] ++ (rdF 12 ++ fkF 2)), 4, []),
  (49, zmc_p0, ([zmc_y8, zmc_y26, zmc_y17, zmc_y0, zmc_y1, zmc_y9, zmc_y10, zmc_y11] ++ (rdF 11 ++ fkF 3)), 4, []),
  (49, zmc_p0, ([zmc_y8, zmc_y25, zmc_y19, zmc_y0, zmc_y1, zmc_y9, zmc_y10, zmc_y11] ++ (rdF 10 ++ fkF 4)), 4, []),
  (49, zmc_p0, ([zmc_y27, zmc_y5, zmc_y17, zmc_y0, zmc_y1, zmc_y9, zmc_y10, zmc_y11] ++ (rdF 12 ++ fkF 3)), 4, []),
  (49, zmc_p0, ([zmc_y26, zmc_y5, zmc_y19, zmc_y0, zmc_y1, zmc_y9, zmc_y10, zmc_y11] ++ (rdF 11 ++ fkF 4)), 4, []),
  (49, zmc_p0, ([zmc_y8, zmc_y27, zmc_y17, zmc_y0, zmc_y1, zmc_y9, zmc_y10, zmc_y11] ++ (rdF 12 ++ fkF 3)), 3, []),
  (49, zmc_p0, ([zmc_y8, zmc_y26, zmc_y19, zmc_y0, zmc_y1, zmc_y9, zmc_y10, zmc_y11] ++ (rdF 11 ++ fkF 4)), 3, []),
  (49, zmc_p0, ([zmc_y27, zmc_y5, zmc_y19, zmc_y0, zmc_y1, zmc_y9, zmc_y10, zmc_y11] ++ (rdF 12 ++ fkF 4)), 3, []),
  (49, zmc_p0, ([zmc_y8, zmc_y27, zmc_y19, zmc_y0, zmc_y1, zmc_y9, zmc_y10, zmc_y11] ++ (rdF 12 ++ fkF 4)), 2, []),
  (101, [zmc_x0], [zmc_y3, zmc_y4, zmc_y0, zmc_y1, zmc_y9, zmc_y10], 1, [])]
def rtN_11 : List aNd := [(101, [zmc_x0], ([zmc_y4, zmc_y12, zmc_y0, zmc_y1, zmc_y9, zmc_y10] ++ (rdF 1)), 1, []),
  (101, [zmc_x0], ([zmc_y3, zmc_y13, zmc_y0, zmc_y1, zmc_y9, zmc_y10] ++ ([] ++ fkF 1)), 1, []),
  (101, [zmc_x0], [zmc_y28, zmc_y1], 1, []),
  (101, [zmc_x0], ([zmc_y4, zmc_y14, zmc_y0, zmc_y1, zmc_y9, zmc_y10] ++ (rdF 2)), 1, []),
  (101, [zmc_x0], ([zmc_y12, zmc_y13, zmc_y0, zmc_y1, zmc_y9, zmc_y10] ++ (rdF 1 ++ fkF 1)), 1, []),
  (101, [zmc_x0], ([zmc_y3, zmc_y15, zmc_y0, zmc_y1, zmc_y9, zmc_y10] ++ ([] ++ fkF 2)), 1, []),
  (101, [zmc_x0], ([zmc_y4, zmc_y16, zmc_y0, zmc_y1, zmc_y9, zmc_y10] ++ (rdF 3)), 1, []),
  (101, [zmc_x0], ([zmc_y14, zmc_y13, zmc_y0, zmc_y1, zmc_y9, zmc_y10] ++ (rdF 2 ++ fkF 1)), 1, []),
  (101, [zmc_x0], ([zmc_y12, zmc_y15, zmc_y0, zmc_y1, zmc_y9, zmc_y10] ++ (rdF 1 ++ fkF 2)), 1, []),
  (101, [zmc_x0], ([zmc_y3, zmc_y17, zmc_y0, zmc_y1, zmc_y9, zmc_y10] ++ ([] ++ fkF 3)), 1, []),
  (101, [zmc_x0], ([zmc_y4, zmc_y18, zmc_y0, zmc_y1, zmc_y9, zmc_y10] ++ (rdF 4)), 1, []),
  (101, [zmc_x0], ([zmc_y16, zmc_y13, zmc_y0, zmc_y1, zmc_y9, zmc_y10] ++ (rdF 3 ++ fkF 1)), 1, [])]
def rtN_12 : List aNd := [(101, [zmc_x0], ([zmc_y14, zmc_y15, zmc_y0, zmc_y1, zmc_y9, zmc_y10] ++ (rdF 2 ++ fkF 2)), 1, []),
  (101, [zmc_x0], ([zmc_y12, zmc_y17, zmc_y0, zmc_y1, zmc_y9, zmc_y10] ++ (rdF 1 ++ fkF 3)), 1, []),
  (101, [zmc_x0], ([zmc_y3, zmc_y19, zmc_y0, zmc_y1, zmc_y9, zmc_y10] ++ ([] ++ fkF 4)), 1, []),
  (101, [zmc_x0], ([zmc_y4, zmc_y20, zmc_y0, zmc_y1, zmc_y9, zmc_y10] ++ (rdF 5)), 1, []),
  (101, [zmc_x0], ([zmc_y18, zmc_y13, zmc_y0, zmc_y1, zmc_y9, zmc_y10] ++ (rdF 4 ++ fkF 1)), 1, []),
  (101, [zmc_x0], ([zmc_y16, zmc_y15, zmc_y0, zmc_y1, zmc_y9, zmc_y10] ++ (rdF 3 ++ fkF 2)), 1, []),
  (101, [zmc_x0], ([zmc_y14, zmc_y17, zmc_y0, zmc_y1, zmc_y9, zmc_y10] ++ (rdF 2 ++ fkF 3)), 1, []),
  (101, [zmc_x0], ([zmc_y12, zmc_y19, zmc_y0, zmc_y1, zmc_y9, zmc_y10] ++ (rdF 1 ++ fkF 4)), 1, []),
  (101, [zmc_x0], ([zmc_y4, zmc_y21, zmc_y0, zmc_y1, zmc_y9, zmc_y10] ++ (rdF 6)), 1, []),
  (101, [zmc_x0], ([zmc_y20, zmc_y13, zmc_y0, zmc_y1, zmc_y9, zmc_y10] ++ (rdF 5 ++ fkF 1)), 1, []),
  (101, [zmc_x0], ([zmc_y18, zmc_y15, zmc_y0, zmc_y1, zmc_y9, zmc_y10] ++ (rdF 4 ++ fkF 2)), 1, []),
  (101, [zmc_x0], ([zmc_y16, zmc_y17, zmc_y0, zmc_y1, zmc_y9, zmc_y10] ++ (rdF 3 ++ fkF 3)), 1, [])]
def rtN_13 : List aNd := [(101, [zmc_x0], ([zmc_y14, zmc_y19, zmc_y0, zmc_y1, zmc_y9, zmc_y10] ++ (rdF 2 ++ fkF 4)), 1, []),
  (101, [zmc_x0], ([zmc_y4, zmc_y22, zmc_y0, zmc_y1, zmc_y9, zmc_y10] ++ (rdF 7)), 1, []),
  (101, [zmc_x0], ([zmc_y21, zmc_y13, zmc_y0, zmc_y1, zmc_y9, zmc_y10] ++ (rdF 6 ++ fkF 1)), 1, []),
  (101, [zmc_x0], ([zmc_y20, zmc_y15, zmc_y0, zmc_y1, zmc_y9, zmc_y10] ++ (rdF 5 ++ fkF 2)), 1, []),
  (101, [zmc_x0], ([zmc_y18, zmc_y17, zmc_y0, zmc_y1, zmc_y9, zmc_y10] ++ (rdF 4 ++ fkF 3)), 1, []),
  (101, [zmc_x0], ([zmc_y16, zmc_y19, zmc_y0, zmc_y1, zmc_y9, zmc_y10] ++ (rdF 3 ++ fkF 4)), 1, []),
  (101, [zmc_x0], ([zmc_y4, zmc_y23, zmc_y0, zmc_y1, zmc_y9, zmc_y10] ++ (rdF 8)), 1, []),
  (101, [zmc_x0], ([zmc_y22, zmc_y13, zmc_y0, zmc_y1, zmc_y9, zmc_y10] ++ (rdF 7 ++ fkF 1)), 1, []),
  (101, [zmc_x0], ([zmc_y21, zmc_y15, zmc_y0, zmc_y1, zmc_y9, zmc_y10] ++ (rdF 6 ++ fkF 2)), 1, []),
  (101, [zmc_x0], ([zmc_y20, zmc_y17, zmc_y0, zmc_y1, zmc_y9, zmc_y10] ++ (rdF 5 ++ fkF 3)), 1, []),
  (101, [zmc_x0], ([zmc_y18, zmc_y19, zmc_y0, zmc_y1, zmc_y9, zmc_y10] ++ (rdF 4 ++ fkF 4)), 1, []),
  (101, [zmc_x0], ([zmc_y4, zmc_y24, zmc_y0, zmc_y1, zmc_y9, zmc_y10] ++ (rdF 9)), 1, [])]
def rtN_14 : List aNd := [(101, [zmc_x0], ([zmc_y23, zmc_y13, zmc_y0, zmc_y1, zmc_y9, zmc_y10] ++ (rdF 8 ++ fkF 1)), 1, []),
  (101, [zmc_x0], ([zmc_y22, zmc_y15, zmc_y0, zmc_y1, zmc_y9, zmc_y10] ++ (rdF 7 ++ fkF 2)), 1, []),
  (101, [zmc_x0], ([zmc_y21, zmc_y17, zmc_y0, zmc_y1, zmc_y9, zmc_y10] ++ (rdF 6 ++ fkF 3)), 1, []),
  (101, [zmc_x0], ([zmc_y20, zmc_y19, zmc_y0, zmc_y1, zmc_y9, zmc_y10] ++ (rdF 5 ++ fkF 4)), 1, []),
  (101, [zmc_x0], ([zmc_y4, zmc_y25, zmc_y0, zmc_y1, zmc_y9, zmc_y10] ++ (rdF 10)), 1, []),
  (101, [zmc_x0], ([zmc_y24, zmc_y13, zmc_y0, zmc_y1, zmc_y9, zmc_y10] ++ (rdF 9 ++ fkF 1)), 1, []),
  (101, [zmc_x0], ([zmc_y23, zmc_y15, zmc_y0, zmc_y1, zmc_y9, zmc_y10] ++ (rdF 8 ++ fkF 2)), 1, []),
  (101, [zmc_x0], ([zmc_y22, zmc_y17, zmc_y0, zmc_y1, zmc_y9, zmc_y10] ++ (rdF 7 ++ fkF 3)), 1, []),
  (101, [zmc_x0], ([zmc_y21, zmc_y19, zmc_y0, zmc_y1, zmc_y9, zmc_y10] ++ (rdF 6 ++ fkF 4)), 1, []),
  (101, [zmc_x0], ([zmc_y4, zmc_y26, zmc_y0, zmc_y1, zmc_y9, zmc_y10] ++ (rdF 11)), 1, []),
  (101, [zmc_x0], ([zmc_y25, zmc_y13, zmc_y0, zmc_y1, zmc_y9, zmc_y10] ++ (rdF 10 ++ fkF 1)), 1, []),
  (101, [zmc_x0], ([zmc_y24, zmc_y15, zmc_y0, zmc_y1, zmc_y9, zmc_y10] ++ (rdF 9 ++ fkF 2)), 1, [])]
def rtN_15 : List aNd := [(101, [zmc_x0], ([zmc_y23, zmc_y17, zmc_y0, zmc_y1, zmc_y9, zmc_y10] ++ (rdF 8 ++ fkF 3)), 1, []),
  (101, [zmc_x0], ([zmc_y22, zmc_y19, zmc_y0, zmc_y1, zmc_y9, zmc_y10] ++ (rdF 7 ++ fkF 4)), 1, []),
  (101, [zmc_x0], ([zmc_y4, zmc_y27, zmc_y0, zmc_y1, zmc_y9, zmc_y10] ++ (rdF 12)), 1, []),
  (101, [zmc_x0], ([zmc_y26, zmc_y13, zmc_y0, zmc_y1, zmc_y9, zmc_y10] ++ (rdF 11 ++ fkF 1)), 1, []),
  (101, [zmc_x0], ([zmc_y25, zmc_y15, zmc_y0, zmc_y1, zmc_y9, zmc_y10] ++ (rdF 10 ++ fkF 2)), 1, []),
  (101, [zmc_x0], ([zmc_y24, zmc_y17, zmc_y0, zmc_y1, zmc_y9, zmc_y10] ++ (rdF 9 ++ fkF 3)), 1, []),
  (101, [zmc_x0], ([zmc_y23, zmc_y19, zmc_y0, zmc_y1, zmc_y9, zmc_y10] ++ (rdF 8 ++ fkF 4)), 1, []),
  (101, [zmc_x0], ([zmc_y27, zmc_y13, zmc_y0, zmc_y1, zmc_y9, zmc_y10] ++ (rdF 12 ++ fkF 1)), 1, []),
  (101, [zmc_x0], ([zmc_y26, zmc_y15, zmc_y0, zmc_y1, zmc_y9, zmc_y10] ++ (rdF 11 ++ fkF 2)), 1, []),
  (101, [zmc_x0], ([zmc_y25, zmc_y17, zmc_y0, zmc_y1, zmc_y9, zmc_y10] ++ (rdF 10 ++ fkF 3)), 1, []),
  (101, [zmc_x0], ([zmc_y24, zmc_y19, zmc_y0, zmc_y1, zmc_y9, zmc_y10] ++ (rdF 9 ++ fkF 4)), 1, []),
  (101, [zmc_x0], ([zmc_y27, zmc_y15, zmc_y0, zmc_y1, zmc_y9, zmc_y10] ++ (rdF 12 ++ fkF 2)), 1, [])]
def rtN_16 : List aNd := [(101, [zmc_x0], ([zmc_y26, zmc_y17, zmc_y0, zmc_y1, zmc_y9, zmc_y10] ++ (rdF 11 ++ fkF 3)), 1, []),
  (101, [zmc_x0], ([zmc_y25, zmc_y19, zmc_y0, zmc_y1, zmc_y9, zmc_y10] ++ (rdF 10 ++ fkF 4)), 1, []),
  (101, [zmc_x0], ([zmc_y27, zmc_y17, zmc_y0, zmc_y1, zmc_y9, zmc_y10] ++ (rdF 12 ++ fkF 3)), 1, []),
  (101, [zmc_x0], ([zmc_y26, zmc_y19, zmc_y0, zmc_y1, zmc_y9, zmc_y10] ++ (rdF 11 ++ fkF 4)), 1, []),
  (101, [zmc_x0], ([zmc_y27, zmc_y19, zmc_y0, zmc_y1, zmc_y9, zmc_y10] ++ (rdF 12 ++ fkF 4)), 1, [])]
def rtN : List aNd := rtN_0 ++ (rtN_1 ++ (rtN_2 ++ (rtN_3 ++ (rtN_4 ++ (rtN_5 ++ (rtN_6 ++ (rtN_7 ++ (rtN_8 ++ (rtN_9 ++ (rtN_10 ++ (rtN_11 ++ (rtN_12 ++ (rtN_13 ++ (rtN_14 ++ (rtN_15 ++ (rtN_16))))))))))))))))
set_option maxRecDepth 100000 in
theorem rtn_0 : rtN_0.all (chkR tS (tRx 315) 36 rtT (188, [aR [314]], [], rtO, [(314, 8, 12), (314, 28, 30), (314, 31, 32), (319, 0, 2), (321, 0, 48), (323, 0, 8)]) [] (rtN ++ [])) = true := by
  rw [← chkRF_eq]
  decide +kernel
set_option maxRecDepth 100000 in
theorem rtn_1 : rtN_1.all (chkR tS (tRx 315) 36 rtT (188, [aR [314]], [], rtO, [(314, 8, 12), (314, 28, 30), (314, 31, 32), (319, 0, 2), (321, 0, 48), (323, 0, 8)]) [] (rtN ++ [])) = true := by
  rw [← chkRF_eq]
  decide +kernel
set_option maxRecDepth 100000 in
theorem rtn_2 : rtN_2.all (chkR tS (tRx 315) 36 rtT (188, [aR [314]], [], rtO, [(314, 8, 12), (314, 28, 30), (314, 31, 32), (319, 0, 2), (321, 0, 48), (323, 0, 8)]) [] (rtN ++ [])) = true := by
  rw [← chkRF_eq]
  decide +kernel
set_option maxRecDepth 100000 in
theorem rtn_3 : rtN_3.all (chkR tS (tRx 315) 36 rtT (188, [aR [314]], [], rtO, [(314, 8, 12), (314, 28, 30), (314, 31, 32), (319, 0, 2), (321, 0, 48), (323, 0, 8)]) [] (rtN ++ [])) = true := by
  rw [← chkRF_eq]
  decide +kernel
set_option maxRecDepth 100000 in
theorem rtn_4 : rtN_4.all (chkR tS (tRx 315) 36 rtT (188, [aR [314]], [], rtO, [(314, 8, 12), (314, 28, 30), (314, 31, 32), (319, 0, 2), (321, 0, 48), (323, 0, 8)]) [] (rtN ++ [])) = true := by
  rw [← chkRF_eq]
  decide +kernel
set_option maxRecDepth 100000 in
theorem rtn_5 : rtN_5.all (chkR tS (tRx 315) 36 rtT (188, [aR [314]], [], rtO, [(314, 8, 12), (314, 28, 30), (314, 31, 32), (319, 0, 2), (321, 0, 48), (323, 0, 8)]) [] (rtN ++ [])) = true := by
  rw [← chkRF_eq]
  decide +kernel
set_option maxRecDepth 100000 in
theorem rtn_6 : rtN_6.all (chkR tS (tRx 315) 36 rtT (188, [aR [314]], [], rtO, [(314, 8, 12), (314, 28, 30), (314, 31, 32), (319, 0, 2), (321, 0, 48), (323, 0, 8)]) [] (rtN ++ [])) = true := by
  rw [← chkRF_eq]
  decide +kernel
set_option maxRecDepth 100000 in
theorem rtn_7 : rtN_7.all (chkR tS (tRx 315) 36 rtT (188, [aR [314]], [], rtO, [(314, 8, 12), (314, 28, 30), (314, 31, 32), (319, 0, 2), (321, 0, 48), (323, 0, 8)]) [] (rtN ++ [])) = true := by
  rw [← chkRF_eq]
  decide +kernel
set_option maxRecDepth 100000 in
theorem rtn_8 : rtN_8.all (chkR tS (tRx 315) 36 rtT (188, [aR [314]], [], rtO, [(314, 8, 12), (314, 28, 30), (314, 31, 32), (319, 0, 2), (321, 0, 48), (323, 0, 8)]) [] (rtN ++ [])) = true := by
  rw [← chkRF_eq]
  decide +kernel
set_option maxRecDepth 100000 in
theorem rtn_9 : rtN_9.all (chkR tS (tRx 315) 36 rtT (188, [aR [314]], [], rtO, [(314, 8, 12), (314, 28, 30), (314, 31, 32), (319, 0, 2), (321, 0, 48), (323, 0, 8)]) [] (rtN ++ [])) = true := by
  rw [← chkRF_eq]
  decide +kernel
set_option maxRecDepth 100000 in
theorem rtn_10 : rtN_10.all (chkR tS (tRx 315) 36 rtT (188, [aR [314]], [], rtO, [(314, 8, 12), (314, 28, 30), (314, 31, 32), (319, 0, 2), (321, 0, 48), (323, 0, 8)]) [] (rtN ++ [])) = true := by
  rw [← chkRF_eq]
  decide +kernel
set_option maxRecDepth 100000 in
theorem rtn_11 : rtN_11.all (chkR tS (tRx 315) 36 rtT (188, [aR [314]], [], rtO, [(314, 8, 12), (314, 28, 30), (314, 31, 32), (319, 0, 2), (321, 0, 48), (323, 0, 8)]) [] (rtN ++ [])) = true := by
  rw [← chkRF_eq]
  decide +kernel
set_option maxRecDepth 100000 in
theorem rtn_12 : rtN_12.all (chkR tS (tRx 315) 36 rtT (188, [aR [314]], [], rtO, [(314, 8, 12), (314, 28, 30), (314, 31, 32), (319, 0, 2), (321, 0, 48), (323, 0, 8)]) [] (rtN ++ [])) = true := by
  rw [← chkRF_eq]
  decide +kernel
set_option maxRecDepth 100000 in
theorem rtn_13 : rtN_13.all (chkR tS (tRx 315) 36 rtT (188, [aR [314]], [], rtO, [(314, 8, 12), (314, 28, 30), (314, 31, 32), (319, 0, 2), (321, 0, 48), (323, 0, 8)]) [] (rtN ++ [])) = true := by
  rw [← chkRF_eq]
  decide +kernel
set_option maxRecDepth 100000 in
theorem rtn_14 : rtN_14.all (chkR tS (tRx 315) 36 rtT (188, [aR [314]], [], rtO, [(314, 8, 12), (314, 28, 30), (314, 31, 32), (319, 0, 2), (321, 0, 48), (323, 0, 8)]) [] (rtN ++ [])) = true := by
  rw [← chkRF_eq]
  decide +kernel
set_option maxRecDepth 100000 in
theorem rtn_15 : rtN_15.all (chkR tS (tRx 315) 36 rtT (188, [aR [314]], [], rtO, [(314, 8, 12), (314, 28, 30), (314, 31, 32), (319, 0, 2), (321, 0, 48), (323, 0, 8)]) [] (rtN ++ [])) = true := by
  rw [← chkRF_eq]
  decide +kernel
set_option maxRecDepth 100000 in
theorem rtn_16 : rtN_16.all (chkR tS (tRx 315) 36 rtT (188, [aR [314]], [], rtO, [(314, 8, 12), (314, 28, 30), (314, 31, 32), (319, 0, 2), (321, 0, 48), (323, 0, 8)]) [] (rtN ++ [])) = true := by
  rw [← chkRF_eq]
  decide +kernel
theorem rt : vC tS tR jM 15 rtc := by
  intro d hd m vs P hI hj hv hF hP
  obtain ⟨d, rfl⟩ : ∃ e, d = e + 2 := ⟨d - 2, by omega⟩
  have hv0 := hv
  match vs, hv with
  | [v0], hv =>
    obtain ⟨b0, rfl, h0⟩ := aH_ref hv.1 rfl
    obtain rfl : b0 = 314 := List.mem_singleton.mp h0
    have h3 : (0 : Int) ≤ (m.1 314 6).toInt ∧ (m.1 314 6).toInt ≤ 240 := hI.1 314 6
    obtain ⟨K, hK⟩ := rest_ok (b := 315) (k := 188) (D := 12) (X := []) (nd := (13, [(0, aR [314])], [(314, 11, (-1), (-1)), (314, 8, 0, 0), (314, 10, 0, 0)], 20, [])) rth (by decide) (by decide) (fun _ _ _ _ _ _ _ _ x hx => by cases hx) (by decide +kernel) (all_ap rtn_0 (all_ap rtn_1 (all_ap rtn_2 (all_ap rtn_3 (all_ap rtn_4 (all_ap rtn_5 (all_ap rtn_6 (all_ap rtn_7 (all_ap rtn_8 (all_ap rtn_9 (all_ap rtn_10 (all_ap rtn_11 (all_ap rtn_12 (all_ap rtn_13 (all_ap rtn_14 (all_ap rtn_15 (rtn_16))))))))))))))))) List.mem_cons_self (d := d + 1) (by omega) hI hj hv0 (f := Int32.ofInt 0) (n := m.1 314 6) (by decide) h3 (gF_all (fun p hp => by
      simp only [List.mem_cons, List.not_mem_nil, or_false] at hp
      rcases hp with rfl | rfl | rfl
      · rw [st_11]; exact ⟨by decide, by decide⟩
      · rw [st_8]; exact ⟨by decide, by decide⟩
      · rw [st_10]; exact ⟨by decide, by decide⟩)) hP
    have hR := hI.2
    refine ⟨rfl, rfl, (by show 1 ≤ knl 188; decide +kernel), K + 8, ?_⟩
    refine s_ald rfl rfl ?_
    refine s_ald rfl rfl ?_
    refine s_gfR (b := 315) rfl rfl rfl rfl (hR 314 1 _ rfl) ?_
    refine s_con rfl ?_
    refine s_ald rfl rfl ?_
    refine s_gfI rfl rfl (Or.inl rfl) rfl ?_
    refine s_iv (j := 177) rfl rfl rfl rfl (by show 0 ≤ 8; decide) rfl rfl ?_
    exact starts_ok (hK _ (by omega) _ (gL_M rfl))
  | [], hv => exact hv.elim
  | _ :: _ :: _, hv => exact hv.2.elim
def rwO : List (Option aV × List (Int × Int) × aFs) := [(none, [(lLo, lHi)], [])]
def rwc : aCt := (189, [aR [314]], [], rwO, [(314, 8, 12), (324, 64, 80), (325, 4, 5)])
def rwT : List aCt := [(fA3c 0), (fA10c 0), tA11c, tA0c]
theorem rwh : ∀ t ∈ rwT, vC tS (tRx 315) jM 12 t := fa_cons (vUq (fA3 0) (by decide)) (fa_cons (vUq (fA10 0) (by decide)) (fa_cons (vUq tA11 (by decide)) (fa_cons (vUq tA0 (by decide)) (fa_nil))))
def rwN_0 : List aNd := [(13, [zmc_x0], zmc_q0, 18, []),
  (20, [zmc_x0, zmc_x2], [zmc_y0, zmc_y1, zmc_y29], 1, [(1, 1, 16, true)])]
def rwN : List aNd := rwN_0
set_option maxRecDepth 100000 in
theorem rwn_0 : rwN_0.all (chkR tS (tRx 315) 39 rwT (189, [aR [314]], [], rwO, [(314, 8, 12), (324, 64, 80), (325, 4, 5)]) [] (rwN ++ [])) = true := by
  rw [← chkRF_eq]
  decide +kernel
theorem rw : vC tS tR jM 15 rwc := by
  intro d hd m vs P hI hj hv hF hP
  obtain ⟨d, rfl⟩ : ∃ e, d = e + 2 := ⟨d - 2, by omega⟩
  have hv0 := hv
  match vs, hv with
  | [v0], hv =>
    obtain ⟨b0, rfl, h0⟩ := aH_ref hv.1 rfl
    obtain rfl : b0 = 314 := List.mem_singleton.mp h0
    have h3 : (0 : Int) ≤ (m.1 314 6).toInt ∧ (m.1 314 6).toInt ≤ 240 := hI.1 314 6
    obtain ⟨K, hK⟩ := rest_ok (b := 315) (k := 189) (D := 12) (X := []) (nd := (13, [(0, aR [314])], [(314, 11, (-1), (-1)), (314, 8, 0, 0), (314, 10, 0, 0)], 18, [])) rwh (by decide) (by decide) (fun _ _ _ _ _ _ _ _ x hx => by cases hx) (by decide +kernel) (rwn_0) List.mem_cons_self (d := d + 1) (by omega) hI hj hv0 (f := Int32.ofInt 0) (n := m.1 314 6) (by decide) h3 (gF_all (fun p hp => by
      simp only [List.mem_cons, List.not_mem_nil, or_false] at hp
      rcases hp with rfl | rfl | rfl
      · rw [st_11]; exact ⟨by decide, by decide⟩
      · rw [st_8]; exact ⟨by decide, by decide⟩
      · rw [st_10]; exact ⟨by decide, by decide⟩)) hP
    have hR := hI.2
    refine ⟨rfl, rfl, (by show 1 ≤ knl 189; decide +kernel), K + 8, ?_⟩
    refine s_ald rfl rfl ?_
    refine s_ald rfl rfl ?_
    refine s_gfR (b := 315) rfl rfl rfl rfl (hR 314 1 _ rfl) ?_
    refine s_con rfl ?_
    refine s_ald rfl rfl ?_
    refine s_gfI rfl rfl (Or.inl rfl) rfl ?_
    refine s_iv (j := 177) rfl rfl rfl rfl (by show 0 ≤ 8; decide) rfl rfl ?_
    exact starts_ok (hK _ (by omega) _ (gL_M rfl))
  | [], hv => exact hv.elim
  | _ :: _ :: _, hv => exact hv.2.elim
