/-! the sum of points lies on the curve; no sum is 0, 0, 0 -/
def ec_on_q0 : EcP := ecL [(1573056, Int.ofNat 108), (1581120, Int.negSucc 3887), (18088065, Int.ofNat 324), (18096129, Int.negSucc 3887), (34603074, Int.ofNat 324), (51118083, Int.ofNat 108), (51122304, Int.ofNat 108), (51130368, Int.negSucc 431), (67637313, Int.ofNat 108), (100663488, Int.ofNat 1), (1075056705, Int.negSucc 7775), (1091571714, Int.negSucc 7775), (1124597889, Int.negSucc 107), (1124605953, Int.ofNat 1296), (1157632128, Int.negSucc 71), (2148532290, Int.negSucc 3887), (2165047299, Int.negSucc 3887), (2165051520, Int.negSucc 3887), (2165059584, Int.ofNat 15552), (2214592704, Int.negSucc 35), (2214600768, Int.ofNat 1728), (3238527105, Int.negSucc 1295), (3238535169, Int.ofNat 15552), (3271561344, Int.ofNat 1728), (3271569408, Int.negSucc 13823), (4295495745, Int.negSucc 15551), (4328521920, Int.ofNat 432), (4328529984, Int.negSucc 20735), (5385490560, Int.negSucc 10367), (6442451136, Int.negSucc 1727)]
def ec_on_q1 : EcP := ecL [(790848, Int.ofNat 108), (798912, Int.negSucc 4319), (806976, Int.ofNat 15552), (17305857, Int.ofNat 324), (17313921, Int.negSucc 5183), (17321985, Int.ofNat 15552), (33820866, Int.ofNat 216), (33828930, Int.negSucc 2591), (50332032, Int.ofNat 1), (50340096, Int.ofNat 72), (50348160, Int.negSucc 431), (1074274497, Int.negSucc 7775), (1074282561, Int.ofNat 31104), (1090781442, Int.ofNat 108), (1090789506, Int.negSucc 7775), (1090797570, Int.ofNat 15552), (1107300672, Int.ofNat 36), (1107308736, Int.negSucc 2591), (1107316800, Int.ofNat 5184), (2147750082, Int.negSucc 2591), (2147758146, Int.ofNat 31104), (2164269312, Int.negSucc 2159), (2164277376, Int.ofNat 10368), (2164285440, Int.negSucc 62207), (3221229888, Int.negSucc 431), (3221237952, Int.ofNat 3456), (3221246016, Int.negSucc 62207)]
set_option maxRecDepth 100000 in
theorem ec_on_c : ecQ (pE (pX (ecV 0) (ecV 1) (ecV 2) (ecV 3) (ecV 4) (ecV 5)) (pY (ecV 0) (ecV 1) (ecV 2) (ecV 3) (ecV 4) (ecV 5)) (pZ (ecV 0) (ecV 1) (ecV 2) (ecV 3) (ecV 4) (ecV 5))) (ecA 20000 (ecR (pE (ecV 0) (ecV 1) (ecV 2)) ec_on_q0) (ecR (pE (ecV 3) (ecV 4) (ecV 5)) ec_on_q1)) = true := by decide +kernel
theorem ec_on (a b c d e f : Int) : ∃ u0 u1 : Int, CE (SX a b c d e f) (SY a b c d e f) (SZ a b c d e f) = CE a b c * u0 + CE d e f * u1 := by
  have h := ecQ_e (v9 a b c d e f 0 0 0) ec_on_c
  simp only [ecE_A, ecE_R, ecE_X, ecE_K, ecE_P, ecE_SX, ecE_SY, ecE_SZ, ecE_CE, ecE_V _ 0 (by decide), ecE_V _ 1 (by decide), ecE_V _ 2 (by decide), ecE_V _ 3 (by decide), ecE_V _ 4 (by decide), ecE_V _ 5 (by decide)] at h
  exact ⟨_, _, h⟩
def ecU (a c d f : Int) : Int := ecI (-1) a f d c
def ecW (b c e f : Int) : Int := ecI 1 b f e c
def ecNx (a b c d e f : Int) : Int := ecI (-1) (ecW b c e f * ecW b c e f) (c * f) (ecU a c d f * ecU a c d f) (ecI 1 a f d c)
def ecNy (a b c d e f : Int) : Int := ecI (-1) (ecW b c e f) (ecU a c d f * ecU a c d f * (a * f) + -1 * ecNx a b c d e f) (ecU a c d f * ecU a c d f * ecU a c d f) (b * f)
def ppU : EcP := ecP (-1) (ecV 0) (ecV 5) (ecV 3) (ecV 2)
def ppW : EcP := ecP 1 (ecV 1) (ecV 5) (ecV 4) (ecV 2)
def ppZ : EcP := ecX 7 (ecV 2) (ecV 5)
def ppx : EcP := ecP (-1) (ecX 7 ppW ppW) ppZ (ecX 7 ppU ppU) (ecP 1 (ecV 0) (ecV 5) (ecV 3) (ecV 2))
def ppy : EcP := ecP (-1) ppW (ecA 20000 (ecX 7 (ecX 7 ppU ppU) (ecX 7 (ecV 0) (ecV 5))) (ecK (-1) ppx)) (ecX 7 (ecX 7 ppU ppU) ppU) (ecX 7 (ecV 1) (ecV 5))
def ec_ny_q0 : EcP := ecL [(3238006784, Int.negSucc 1), (4294967360, Int.negSucc 0)]
def ec_ny_q1 : EcP := ecL [(16793600, Int.negSucc 0), (1073754176, Int.negSucc 1)]
set_option maxRecDepth 100000 in
theorem ec_ny_c : ecQ (ecA 20000 ppy (ecX 7 (ecX 7 ppZ ppZ) (pZ (ecV 0) (ecV 1) (ecV 2) (ecV 3) (ecV 4) (ecV 5)))) (ecA 20000 (ecR (pE (ecV 0) (ecV 1) (ecV 2)) ec_ny_q0) (ecR (pE (ecV 3) (ecV 4) (ecV 5)) ec_ny_q1)) = true := by decide +kernel
theorem ec_ny (a b c d e f : Int) : ∃ u0 u1 : Int, ecNy a b c d e f + c * f * (c * f) * SZ a b c d e f = CE a b c * u0 + CE d e f * u1 := by
  have h := ecQ_e (v9 a b c d e f 0 0 0) ec_ny_c
  simp only [ecE_A, ecE_R, ecE_X, ecE_K, ecE_P, ecE_SX, ecE_SY, ecE_SZ, ecE_CE, ppU, ppW, ppZ, ppx, ppy, ecE_V _ 0 (by decide), ecE_V _ 1 (by decide), ecE_V _ 2 (by decide), ecE_V _ 3 (by decide), ecE_V _ 4 (by decide), ecE_V _ 5 (by decide)] at h
  exact ⟨_, _, h⟩
def ec_dc_q0 : EcP := ecL [(3222822912, Int.negSucc 7), (4296298497, Int.ofNat 6), (4329332736, Int.ofNat 8), (5369774082, Int.ofNat 6), (5386293312, Int.negSucc 3), (5402808321, Int.negSucc 11), (5435842560, Int.ofNat 1), (6443249667, Int.negSucc 7), (6443261952, Int.negSucc 47), (6459768897, Int.ofNat 6), (6476283906, Int.ofNat 6), (6492803136, Int.ofNat 2), (7516729473, Int.ofNat 3), (7516737537, Int.ofNat 60), (7533244482, Int.negSucc 5), (7549759491, Int.negSucc 0), (7549763712, Int.negSucc 0), (7549771776, Int.ofNat 4), (8590200837, Int.ofNat 3), (8590205058, Int.negSucc 2), (8590213122, Int.negSucc 35), (8606720067, Int.ofNat 2), (8606732352, Int.negSucc 7), (9663676422, Int.negSucc 0), (9663680643, Int.ofNat 1), (9663688707, Int.ofNat 8), (9663692928, Int.ofNat 4), (9663700992, Int.negSucc 31)]
def ec_dc_q1 : EcP := ecL [(1609728, Int.negSucc 0), (1075085313, Int.ofNat 3), (1108119552, Int.ofNat 1), (2165080128, Int.ofNat 2), (2181595137, Int.negSucc 2), (3222040704, Int.negSucc 8), (3222048768, Int.ofNat 40), (3238555713, Int.negSucc 5), (3255070722, Int.ofNat 3), (4295516289, Int.ofNat 12), (4295524353, Int.negSucc 59), (4312031298, Int.ofNat 6), (4328550528, Int.negSucc 0), (4328558592, Int.ofNat 4), (5368991874, Int.negSucc 5), (5368999938, Int.ofNat 36), (5385511104, Int.negSucc 1), (5385519168, Int.ofNat 8), (6442471680, Int.ofNat 1), (6442479744, Int.negSucc 11), (6442487808, Int.ofNat 32)]
set_option maxRecDepth 100000 in
theorem ec_dc_c : ecQ (ecA 20000 (ecP (-1) (ecX 7 ppy ppy) ppZ (ecX 7 ppx ppx) ppx) (ecK (-4) (ecX 7 (ecX 7 (ecX 7 (ecX 7 ppU ppU) (ecX 7 ppU ppU)) (ecX 7 ppU ppU)) (ecX 7 (ecX 7 ppZ ppZ) ppZ)))) (ecA 20000 (ecR (pE (ecV 0) (ecV 1) (ecV 2)) ec_dc_q0) (ecR (pE (ecV 3) (ecV 4) (ecV 5)) ec_dc_q1)) = true := by decide +kernel
theorem ec_dc (a b c d e f : Int) : ∃ u0 u1 : Int, ecI (-1) (ecNy a b c d e f * ecNy a b c d e f) (c * f) (ecNx a b c d e f * ecNx a b c d e f) (ecNx a b c d e f) + -4 * (ecU a c d f * ecU a c d f * (ecU a c d f * ecU a c d f) * (ecU a c d f * ecU a c d f) * (c * f * (c * f) * (c * f))) = CE a b c * u0 + CE d e f * u1 := by
  have h := ecQ_e (v9 a b c d e f 0 0 0) ec_dc_c
  simp only [ecE_A, ecE_R, ecE_X, ecE_K, ecE_P, ecE_SX, ecE_SY, ecE_SZ, ecE_CE, ppU, ppW, ppZ, ppx, ppy, ecE_V _ 0 (by decide), ecE_V _ 1 (by decide), ecE_V _ 2 (by decide), ecE_V _ 3 (by decide), ecE_V _ 4 (by decide), ecE_V _ 5 (by decide)] at h
  exact ⟨_, _, h⟩
