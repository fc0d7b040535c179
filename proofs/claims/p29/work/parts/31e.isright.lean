abbrev rm_L_isRight : Room := { frames := 7, cells := 0, slots := 0, locals := 158 }
def f_L_isRight_p662   (x3_662 : Int32) (s0_662 : Int32) (s1_662 : Int32) (G_662 : GR) : Int32 × GR := (if s1_662 = s0_662 then (if x3_662 < 0 then (1, G_662) else (if (f_X5_count G_662 5) ≤ x3_662 then (0, G_662) else (1, G_662))) else (0, G_662))
def f_L_isRight_p649   (x3_649 : Int32) (s0_649 : Int32) (G_649 : GR) : Int32 × GR := (if 0 ≤ (f_X5_count G_649 5) then f_L_isRight_p662 x3_649 0 s0_649 G_649 else f_L_isRight_p662 x3_649 1 s0_649 G_649)
def f_L_isRight_p590  (kb481 : Int32 → Int32 → Int32 → GR → (Int32 × GR)) (x1_590 : Int32) (x2_590 : Int32) (x3_590 : Int32) (s0_590 : Int32) (s1_590 : Int32) (G_590 : GR) : Int32 × GR := (if s1_590 = s0_590 then sLet ((f_X5_outputIn G_590 x3_590 0).2) (fun Gn48 : GR => (if ((f_X5_outputIn G_590 x3_590 0).1) = (f_X5_feed Gn48 x3_590 2) then kb481 x1_590 x2_590 (x3_590 + 1) Gn48 else (0, Gn48))) else (0, G_590))
def f_L_isRight_p575  (kb481 : Int32 → Int32 → Int32 → GR → (Int32 × GR)) (x1_575 : Int32) (x2_575 : Int32) (x3_575 : Int32) (s0_575 : Int32) (G_575 : GR) : Int32 × GR := sLet ((f_X5_cut G_575 x3_575).2) (fun Gn42 : GR => (if ((f_X5_cut G_575 x3_575).1) = (-2) then f_L_isRight_p590 kb481 x1_575 x2_575 x3_575 1 s0_575 Gn42 else f_L_isRight_p590 kb481 x1_575 x2_575 x3_575 0 s0_575 Gn42))
def f_L_isRight_p538  (kb481 : Int32 → Int32 → Int32 → GR → (Int32 × GR)) (x1_538 : Int32) (x2_538 : Int32) (x3_538 : Int32) (s0_538 : Int32) (s1_538 : Int32) (G_538 : GR) : Int32 × GR := (if s1_538 = s0_538 then (if (f_X5_feed G_538 x3_538 2) < 0 then (0, G_538) else (if 9999 < (f_X5_feed G_538 x3_538 2) then (0, G_538) else sLet ((f_X5_hearers G_538 x3_538).2) (fun Gn37 : GR => (if ((f_X5_hearers G_538 x3_538).1) = 0 then f_L_isRight_p575 kb481 x1_538 x2_538 x3_538 1 Gn37 else f_L_isRight_p575 kb481 x1_538 x2_538 x3_538 0 Gn37)))) else (0, G_538))
def f_L_isRight_p537  (kb481 : Int32 → Int32 → Int32 → GR → (Int32 × GR)) (x1_537 : Int32) (x2_537 : Int32) (x3_537 : Int32) (s0_537 : Int32) (G_537 : GR) : Int32 × GR := f_L_isRight_p538 kb481 x1_537 x2_537 x3_537 0 s0_537 G_537
def f_L_isRight_p525  (kb481 : Int32 → Int32 → Int32 → GR → (Int32 × GR)) (x1_525 : Int32) (x2_525 : Int32) (x3_525 : Int32) (s0_525 : Int32) (s1_525 : Int32) (G_525 : GR) : Int32 × GR := sLet ((f_X5_path G_525 s0_525 x3_525 (-1)).2) (fun Gn59 : GR => (if ((f_X5_path G_525 s0_525 x3_525 (-1)).1) ≤ 0 then f_L_isRight_p537 kb481 x1_525 x2_525 x3_525 s1_525 Gn59 else f_L_isRight_p538 kb481 x1_525 x2_525 x3_525 1 s1_525 Gn59))
def f_L_isRight_p508  (kb481 : Int32 → Int32 → Int32 → GR → (Int32 × GR)) (x1_508 : Int32) (x2_508 : Int32) (x3_508 : Int32) (x4_508 : Int32) (s0_508 : Int32) (G_508 : GR) : Int32 × GR := (if x4_508 < 0 then f_L_isRight_p537 kb481 x1_508 x2_508 x3_508 s0_508 G_508 else (if 0 ≤ x4_508 then f_L_isRight_p525 kb481 x1_508 x2_508 x3_508 x4_508 s0_508 G_508 else f_L_isRight_p525 kb481 x1_508 x2_508 x3_508 0 s0_508 G_508))
def f_L_isRight_p481   : Nat → Int32 → Int32 → Int32 → GR → (Int32 × GR)
  | 0, _, _, _, G_481 => (0, G_481)
  | n_481 + 1, x1_481, x2_481, x3_481, G_481 => (if 4 ≤ x3_481 then (if x1_481 = (f_X5_count G_481 8) then (if (f_X5_count G_481 1) < 0 then (0, G_481) else (if 0 ≤ (f_X5_count G_481 4) then f_L_isRight_p649 (f_X5_count G_481 4) 0 G_481 else f_L_isRight_p649 (f_X5_count G_481 4) 1 G_481)) else (0, G_481)) else (if ((x2_481 >>> (x3_481 &&& 31)) &&& 1) = 1 then f_L_isRight_p508 (f_L_isRight_p481 n_481) x1_481 x2_481 x3_481 (f_X5_feed G_481 x3_481 1) 1 G_481 else f_L_isRight_p508 (f_L_isRight_p481 n_481) x1_481 x2_481 x3_481 (f_X5_feed G_481 x3_481 1) 0 G_481))
def f_L_isRight_p457  (kb4 : Int32 → Int32 → GR → (Int32 × GR)) (kb186 : Int32 → Int32 → Int32 → Int32 → GR → (Int32 × GR)) (x1_457 : Int32) (x2_457 : Int32) (x3_457 : Int32) (x6_457 : Int32) (s0_457 : Int32) (s1_457 : Int32) (G_457 : GR) : Int32 × GR := (if s1_457 = s0_457 then kb186 x1_457 x2_457 x3_457 (x6_457 + 1) G_457 else (0, G_457))
def f_L_isRight_p456  (kb4 : Int32 → Int32 → GR → (Int32 × GR)) (kb186 : Int32 → Int32 → Int32 → Int32 → GR → (Int32 × GR)) (x1_456 : Int32) (x2_456 : Int32) (x3_456 : Int32) (x6_456 : Int32) (s0_456 : Int32) (G_456 : GR) : Int32 × GR := f_L_isRight_p457 kb4 kb186 x1_456 x2_456 x3_456 x6_456 0 s0_456 G_456
def f_L_isRight_p442  (kb4 : Int32 → Int32 → GR → (Int32 × GR)) (kb186 : Int32 → Int32 → Int32 → Int32 → GR → (Int32 × GR)) (x1_442 : Int32) (x2_442 : Int32) (x3_442 : Int32) (x6_442 : Int32) (x8_442 : Int32) (x10_442 : Int32) (s0_442 : Int32) (G_442 : GR) : Int32 × GR := (if x10_442 = 0 then f_L_isRight_p456 kb4 kb186 x1_442 x2_442 x3_442 x6_442 s0_442 G_442 else (if x8_442 ≤ 0 then f_L_isRight_p456 kb4 kb186 x1_442 x2_442 x3_442 x6_442 s0_442 G_442 else f_L_isRight_p457 kb4 kb186 x1_442 x2_442 x3_442 x6_442 1 s0_442 G_442))
def f_L_isRight_p423  (kb4 : Int32 → Int32 → GR → (Int32 × GR)) (kb186 : Int32 → Int32 → Int32 → Int32 → GR → (Int32 × GR)) (x1_423 : Int32) (x2_423 : Int32) (x3_423 : Int32) (x6_423 : Int32) (x8_423 : Int32) (x10_423 : Int32)  (G_423 : GR) : Int32 × GR := sLet ((f_X5_hearers G_423 x6_423).2) (fun Gn109 : GR => (if ((((f_X5_hearers G_423 x6_423).1) >>> (x2_423 &&& 31)) &&& 1) = 1 then f_L_isRight_p442 kb4 kb186 x1_423 x2_423 x3_423 x6_423 x8_423 x10_423 1 Gn109 else f_L_isRight_p442 kb4 kb186 x1_423 x2_423 x3_423 x6_423 x8_423 x10_423 0 Gn109))
def f_L_isRight_p359  (kb4 : Int32 → Int32 → GR → (Int32 × GR)) (kb186 : Int32 → Int32 → Int32 → Int32 → GR → (Int32 × GR)) (x1_359 : Int32) (x2_359 : Int32) (x3_359 : Int32) (x6_359 : Int32) (x8_359 : Int32) (x10_359 : Int32)  (G_359 : GR) : Int32 × GR := (if x8_359 ≤ 0 then f_L_isRight_p423 kb4 kb186 x1_359 x2_359 x3_359 x6_359 x8_359 x10_359 G_359 else (if 4 < x8_359 then (0, G_359) else sLet ((f_X5_path G_359 x2_359 x6_359 0).2) (fun Gn120 : GR => (if ((f_X5_path G_359 x2_359 x6_359 0).1) = x2_359 then sLet ((f_X5_path Gn120 x2_359 x6_359 x8_359).2) (fun Gn126 : GR => (if ((f_X5_path Gn120 x2_359 x6_359 x8_359).1) = (-99) then sLet ((f_X5_path Gn126 x2_359 x6_359 (x8_359 - 1)).2) (fun Gn134 : GR => (if (((f_X5_feed Gn126 x6_359 3) >>> (((f_X5_path Gn126 x2_359 x6_359 (x8_359 - 1)).1) &&& 31)) &&& 1) = 1 then f_L_isRight_p423 kb4 kb186 x1_359 x2_359 x3_359 x6_359 x8_359 x10_359 Gn134 else (0, Gn134))) else (0, Gn126))) else (0, Gn120)))))
def f_L_isRight_p336  (kb4 : Int32 → Int32 → GR → (Int32 × GR)) (kb186 : Int32 → Int32 → Int32 → Int32 → GR → (Int32 × GR)) (x1_336 : Int32) (x2_336 : Int32) (x3_336 : Int32) (x6_336 : Int32) (x7_336 : Int32) (x8_336 : Int32) (x9_336 : Int32) (x10_336 : Int32) (s0_336 : Int32) (s1_336 : Int32) (G_336 : GR) : Int32 × GR := (if s1_336 = s0_336 then (if x3_336 < x9_336 then (0, G_336) else (if x7_336 ≤ x9_336 then f_L_isRight_p359 kb4 kb186 x1_336 x2_336 x3_336 x6_336 x8_336 x10_336 G_336 else (if x7_336 ≤ 0 then f_L_isRight_p359 kb4 kb186 x1_336 x2_336 x3_336 x6_336 x8_336 x10_336 G_336 else (0, G_336)))) else (0, G_336))
def f_L_isRight_p326  (kb4 : Int32 → Int32 → GR → (Int32 × GR)) (kb186 : Int32 → Int32 → Int32 → Int32 → GR → (Int32 × GR)) (x1_326 : Int32) (x2_326 : Int32) (x3_326 : Int32) (x6_326 : Int32) (x7_326 : Int32) (x8_326 : Int32) (x9_326 : Int32) (x10_326 : Int32) (s0_326 : Int32) (G_326 : GR) : Int32 × GR := (if x9_326 < 0 then f_L_isRight_p336 kb4 kb186 x1_326 x2_326 x3_326 x6_326 x7_326 x8_326 x9_326 x10_326 0 s0_326 G_326 else f_L_isRight_p336 kb4 kb186 x1_326 x2_326 x3_326 x6_326 x7_326 x8_326 x9_326 x10_326 1 s0_326 G_326)
def f_L_isRight_p313  (kb4 : Int32 → Int32 → GR → (Int32 × GR)) (kb186 : Int32 → Int32 → Int32 → Int32 → GR → (Int32 × GR)) (x1_313 : Int32) (x2_313 : Int32) (x3_313 : Int32) (x6_313 : Int32) (x7_313 : Int32) (x8_313 : Int32) (x9_313 : Int32) (x10_313 : Int32) (s0_313 : Int32) (s1_313 : Int32) (G_313 : GR) : Int32 × GR := (if s1_313 = s0_313 then (if x8_313 ≤ 0 then f_L_isRight_p326 kb4 kb186 x1_313 x2_313 x3_313 x6_313 x7_313 x8_313 x9_313 x10_313 0 G_313 else f_L_isRight_p326 kb4 kb186 x1_313 x2_313 x3_313 x6_313 x7_313 x8_313 x9_313 x10_313 1 G_313) else (0, G_313))
def f_L_isRight_p303  (kb4 : Int32 → Int32 → GR → (Int32 × GR)) (kb186 : Int32 → Int32 → Int32 → Int32 → GR → (Int32 × GR)) (x1_303 : Int32) (x2_303 : Int32) (x3_303 : Int32) (x6_303 : Int32) (x7_303 : Int32) (x8_303 : Int32) (x9_303 : Int32) (x10_303 : Int32) (s0_303 : Int32) (G_303 : GR) : Int32 × GR := (if x7_303 ≤ 0 then f_L_isRight_p313 kb4 kb186 x1_303 x2_303 x3_303 x6_303 x7_303 x8_303 x9_303 x10_303 0 s0_303 G_303 else f_L_isRight_p313 kb4 kb186 x1_303 x2_303 x3_303 x6_303 x7_303 x8_303 x9_303 x10_303 1 s0_303 G_303)
def f_L_isRight_p289  (kb4 : Int32 → Int32 → GR → (Int32 × GR)) (kb186 : Int32 → Int32 → Int32 → Int32 → GR → (Int32 × GR)) (x1_289 : Int32) (x2_289 : Int32) (x3_289 : Int32) (x6_289 : Int32) (x7_289 : Int32) (x8_289 : Int32) (x9_289 : Int32) (x10_289 : Int32) (s0_289 : Int32) (s1_289 : Int32) (G_289 : GR) : Int32 × GR := (if s1_289 = s0_289 then (if x8_289 = 1 then f_L_isRight_p303 kb4 kb186 x1_289 x2_289 x3_289 x6_289 x7_289 x8_289 x9_289 x10_289 1 G_289 else f_L_isRight_p303 kb4 kb186 x1_289 x2_289 x3_289 x6_289 x7_289 x8_289 x9_289 x10_289 0 G_289) else (0, G_289))
def f_L_isRight_p279  (kb4 : Int32 → Int32 → GR → (Int32 × GR)) (kb186 : Int32 → Int32 → Int32 → Int32 → GR → (Int32 × GR)) (x1_279 : Int32) (x2_279 : Int32) (x3_279 : Int32) (x6_279 : Int32) (x7_279 : Int32) (x8_279 : Int32) (x9_279 : Int32) (x10_279 : Int32) (s0_279 : Int32) (G_279 : GR) : Int32 × GR := (if x7_279 ≤ 0 then f_L_isRight_p289 kb4 kb186 x1_279 x2_279 x3_279 x6_279 x7_279 x8_279 x9_279 x10_279 0 s0_279 G_279 else f_L_isRight_p289 kb4 kb186 x1_279 x2_279 x3_279 x6_279 x7_279 x8_279 x9_279 x10_279 1 s0_279 G_279)
def f_L_isRight_p259  (kb4 : Int32 → Int32 → GR → (Int32 × GR)) (kb186 : Int32 → Int32 → Int32 → Int32 → GR → (Int32 × GR)) (x1_259 : Int32) (x2_259 : Int32) (x3_259 : Int32) (x6_259 : Int32) (x7_259 : Int32) (x8_259 : Int32) (x9_259 : Int32) (x10_259 : Int32)  (G_259 : GR) : Int32 × GR := (if (((f_X5_feed G_259 x6_259 3) >>> (x2_259 &&& 31)) &&& 1) = 1 then f_L_isRight_p279 kb4 kb186 x1_259 x2_259 x3_259 x6_259 x7_259 x8_259 x9_259 x10_259 1 G_259 else f_L_isRight_p279 kb4 kb186 x1_259 x2_259 x3_259 x6_259 x7_259 x8_259 x9_259 x10_259 0 G_259)
def f_L_isRight_p241  (kb4 : Int32 → Int32 → GR → (Int32 × GR)) (kb186 : Int32 → Int32 → Int32 → Int32 → GR → (Int32 × GR)) (x1_241 : Int32) (x2_241 : Int32) (x3_241 : Int32) (x6_241 : Int32) (x7_241 : Int32) (x8_241 : Int32) (x9_241 : Int32) (s0_241 : Int32) (G_241 : GR) : Int32 × GR := (if x3_241 < x7_241 then (0, G_241) else (if s0_241 = 0 then f_L_isRight_p259 kb4 kb186 x1_241 x2_241 x3_241 x6_241 x7_241 x8_241 x9_241 s0_241 G_241 else (if x7_241 = 0 then f_L_isRight_p259 kb4 kb186 x1_241 x2_241 x3_241 x6_241 x7_241 x8_241 x9_241 s0_241 G_241 else (0, G_241))))
def f_L_isRight_p186  (kb4 : Int32 → Int32 → GR → (Int32 × GR)) : Nat → Int32 → Int32 → Int32 → Int32 → GR → (Int32 × GR)
  | 0, _, _, _, _, G_186 => (0, G_186)
  | n_186 + 1, x1_186, x2_186, x3_186, x6_186, G_186 => (if 4 ≤ x6_186 then kb4 x1_186 (x2_186 + 1) G_186 else sLet ((f_X5_path G_186 x2_186 x6_186 (-1)).2) (fun Gn90 : GR => sLet ((f_X5_loudest Gn90 x2_186 x6_186).2) (fun Gn95 : GR => (if (((f_X5_feed Gn95 x6_186 0) >>> (x2_186 &&& 31)) &&& 1) = 1 then f_L_isRight_p241 kb4 (f_L_isRight_p186 kb4 n_186) x1_186 x2_186 x3_186 x6_186 (f_X5_send G_186 x6_186 x2_186 1) ((f_X5_path G_186 x2_186 x6_186 (-1)).1) ((f_X5_loudest Gn90 x2_186 x6_186).1) 1 Gn95 else f_L_isRight_p241 kb4 (f_L_isRight_p186 kb4 n_186) x1_186 x2_186 x3_186 x6_186 (f_X5_send G_186 x6_186 x2_186 1) ((f_X5_path G_186 x2_186 x6_186 (-1)).1) ((f_X5_loudest Gn90 x2_186 x6_186).1) 0 Gn95))))
def f_L_isRight_p158  (kb4 : Int32 → Int32 → GR → (Int32 × GR)) (x1_158 : Int32) (x2_158 : Int32) (x3_158 : Int32)  (G_158 : GR) : Int32 × GR := (if (f_X5_channel G_158 x2_158 6) < 0 then (0, G_158) else (if (f_X5_channel G_158 x2_158 6) ≤ 9999 then f_L_isRight_p186 kb4 5 x1_158 x2_158 x3_158 0 G_158 else (0, G_158)))
def f_L_isRight_p142  (kb4 : Int32 → Int32 → GR → (Int32 × GR)) (x1_142 : Int32) (x2_142 : Int32) (x3_142 : Int32) (x5_142 : Int32)  (G_142 : GR) : Int32 × GR := (if x5_142 < 0 then f_L_isRight_p158 kb4 x1_142 x2_142 x3_142 G_142 else (if (f_X5_feed G_142 x5_142 1) = x2_142 then f_L_isRight_p158 kb4 x1_142 x2_142 x3_142 G_142 else (0, G_142)))
def f_L_isRight_p127  (kb4 : Int32 → Int32 → GR → (Int32 × GR)) (x1_127 : Int32) (x2_127 : Int32) (x3_127 : Int32) (x4_127 : Int32) (x5_127 : Int32)  (G_127 : GR) : Int32 × GR := (if x4_127 = 2 then (if (f_X5_count G_127 7) = 0 then (0, G_127) else f_L_isRight_p142 kb4 x1_127 x2_127 x3_127 x5_127 G_127) else f_L_isRight_p142 kb4 x1_127 x2_127 x3_127 x5_127 G_127)
def f_L_isRight_p109  (kb4 : Int32 → Int32 → GR → (Int32 × GR)) (x1_109 : Int32) (x2_109 : Int32) (x3_109 : Int32) (x4_109 : Int32) (x5_109 : Int32) (s0_109 : Int32) (s1_109 : Int32) (G_109 : GR) : Int32 × GR := (if s1_109 = s0_109 then (if x4_109 = 3 then (if (f_X5_channel G_109 x2_109 1) = 0 then f_L_isRight_p127 kb4 x1_109 x2_109 x3_109 x4_109 x5_109 G_109 else (0, G_109)) else f_L_isRight_p127 kb4 x1_109 x2_109 x3_109 x4_109 x5_109 G_109) else (0, G_109))
def f_L_isRight_p94  (kb4 : Int32 → Int32 → GR → (Int32 × GR)) (x1_94 : Int32) (x2_94 : Int32) (x3_94 : Int32) (x4_94 : Int32) (x5_94 : Int32) (s0_94 : Int32) (G_94 : GR) : Int32 × GR := (if (f_X5_channel G_94 x2_94 2) = 1 then f_L_isRight_p109 kb4 x1_94 x2_94 x3_94 x4_94 x5_94 1 s0_94 G_94 else f_L_isRight_p109 kb4 x1_94 x2_94 x3_94 x4_94 x5_94 0 s0_94 G_94)
def f_L_isRight_p80  (kb4 : Int32 → Int32 → GR → (Int32 × GR)) (x1_80 : Int32) (x2_80 : Int32) (x3_80 : Int32) (x4_80 : Int32) (x5_80 : Int32) (s0_80 : Int32) (s1_80 : Int32) (G_80 : GR) : Int32 × GR := (if s1_80 = s0_80 then (if x4_80 = 1 then f_L_isRight_p94 kb4 x1_80 x2_80 x3_80 x4_80 x5_80 1 G_80 else f_L_isRight_p94 kb4 x1_80 x2_80 x3_80 x4_80 x5_80 0 G_80) else (0, G_80))
def f_L_isRight_p71  (kb4 : Int32 → Int32 → GR → (Int32 × GR)) (x1_71 : Int32) (x2_71 : Int32) (x3_71 : Int32) (x4_71 : Int32) (x5_71 : Int32) (s0_71 : Int32) (G_71 : GR) : Int32 × GR := (if x3_71 ≤ 0 then f_L_isRight_p80 kb4 x1_71 x2_71 x3_71 x4_71 x5_71 0 s0_71 G_71 else f_L_isRight_p80 kb4 x1_71 x2_71 x3_71 x4_71 x5_71 1 s0_71 G_71)
def f_L_isRight_p36  (kb4 : Int32 → Int32 → GR → (Int32 × GR)) (x2_36 : Int32) (x3_36 : Int32) (x4_36 : Int32) (s0_36 : Int32) (s1_36 : Int32) (G_36 : GR) : Int32 × GR := (if x3_36 < 0 then (0, G_36) else (if (f_X5_channel G_36 x2_36 1) < x3_36 then (0, G_36) else (if x4_36 = 0 then f_L_isRight_p71 kb4 (s1_36 ||| s0_36) x2_36 x3_36 x4_36 (f_X5_channel G_36 x2_36 8) 1 G_36 else f_L_isRight_p71 kb4 (s1_36 ||| s0_36) x2_36 x3_36 x4_36 (f_X5_channel G_36 x2_36 8) 0 G_36)))
def f_L_isRight_p4   : Nat → Int32 → Int32 → GR → (Int32 × GR)
  | 0, _, _, G_4 => (0, G_4)
  | n_4 + 1, x1_4, x2_4, G_4 => (if 12 ≤ x2_4 then sLet ((f_X5_loops G_4).2) (fun Gn5 : GR => f_L_isRight_p481 5 x1_4 ((f_X5_loops G_4).1) 0 Gn5) else (if (f_X5_channel G_4 x2_4 5) ≤ 0 then f_L_isRight_p36 (f_L_isRight_p4 n_4) x2_4 (f_X5_channel G_4 x2_4 5) (f_X5_why G_4 x2_4) 0 x1_4 G_4 else f_L_isRight_p36 (f_L_isRight_p4 n_4) x2_4 (f_X5_channel G_4 x2_4 5) (f_X5_why G_4 x2_4) (1 <<< (x2_4 &&& 31)) x1_4 G_4))
def f_L_isRight (G : GR)  : Int32 × GR := f_L_isRight_p4 13 0 0 G
set_option maxHeartbeats 4000000 in
set_option maxRecDepth 100000 in
theorem c_L_isRight (l : Launch) (dC : Nat → ClassId) (dI : Nat → Nat → Nat) (cI cC cS : ClassId) (a : Nat → Nat) (G : GR) (sz : Nat)  (hG : WFG G) : Met l yL_isRight wsL_isRight rm_L_isRight (PcS (dC, dI) (tyL cI cC cS) (cDk a cI cC cS G) sz [.ref (a 0)] (va_A (cDk a cI cC cS G) sz)) (va_Qi (fun (r : Int32) (u : GR) => (r, u) = f_L_isRight G ∧ (WFG u) ∧ (r = 0 ∨ r = 1)) (fun u U => va_P (dC, dI) vwCl (cDk a cI cC cS u) U.heap ∧ va_D (va_A (cDk a cI cC cS G) sz) (cDk a cI cC cS u)) (va_A (cDk a cI cC cS G) sz)) 0 0 (va_A (cDk a cI cC cS G) sz) := by
  refine Met.ofW (cc := cL_isRight) (maxL := 11) (ret := (some .boolean)) (by decide) rfl ?_
  intro p e s m args below meth c s₁ B hml hv
  obtain ⟨rfl, hsz, hP, hK, hD0, hN, hT⟩ := hv
  have hx := B.exec
  have hb := B.bytes
  have hr := B.returns
  have hts := atoms_spec (ws := wsL_isRight) B.pre
  have hown : s.vm.findClass RL = some m.cls := findClass_of_methodNamed B.named
  have hlocks := B.notSynchronized
  subst hsz
  obtain ⟨⟨tc, hZc, hTc⟩, ⟨tg, hZg, hTg⟩, ⟨ks, kv, hSk, hSr⟩⟩ := id hT
  have hD := hD0.self (sz := s.heap.size)
  have hA : ∀ q : Nat, s.heap.size ≤ q → (va_A (cDk a cI cC cS G) s.heap.size) q := fun q h => Or.inr h
  have hS : va_S (va_A (cDk a cI cC cS G) s.heap.size) s.heap s.heap [] := va_S.rf
  have hl := lv_entry [.ref (a 0)] (n := 11) (Nat.le_of_ble_eq_true rfl)
  rw [lg_entry_eq]
  generalize (lg_sl [.ref (a 0)] ++ List.replicate (11 - (lg_sl [.ref (a 0)]).length) Slot.unset).toArray = ls at hl ⊢
  have hl : lv_has ls 11 [(0, .ref (a 0))] := hl
  obtain ⟨R0, eR⟩ : ∃ z, z = f_L_isRight G := ⟨_, rfl⟩
  have hR := eR
  rw [f_L_isRight] at hR
  refine lv_iconst (v := 0) hx hb dL_isRight_0 (by decide) ?_
  refine lv_istore_n (lv' := [(1, .int 0), (0, .ref (a 0))]) hx hb dL_isRight_1 rfl hl (by decide) rfl (fun ls hl => ?_)
  refine lv_iconst (v := 0) hx hb dL_isRight_2 (by decide) ?_
  refine lv_istore_n (lv' := [(2, .int 0), (1, .int 0), (0, .ref (a 0))]) hx hb dL_isRight_3 rfl hl (by decide) rfl (fun ls hl => ?_)
  have hL_4 : ∀ n_4 : Nat, ∀ (j_4 : Nat), ∀ (x1_4 : Int32) (x2_4 : Int32) (G_4 : GR), x2_4 = nI j_4 → j_4 ≤ 12 → 12 < j_4 + n_4 → WFG G_4 → R0 = f_L_isRight_p4 n_4 x1_4 x2_4 G_4 → ∀ (H : Heap) (locs : List Loc) (ls : Array Slot), va_P (dC, dI) vwCl (cDk a cI cC cS G_4) H → va_D (va_A (cDk a cI cC cS G) s.heap.size) (cDk a cI cC cS G_4) → va_S (va_A (cDk a cI cC cS G) s.heap.size) s.heap H locs → lv_has ls 11 [(0, .ref (a 0)), (1, .int x1_4), (2, .int x2_4)] → W p l e (headSpec wsL_isRight rm_L_isRight).room s m ([.ref (a 0)] : List Value).toArray below meth c H locs 0 0 (MQ below (va_Qi (fun (r : Int32) (u : GR) => (r, u) = f_L_isRight G ∧ (WFG u) ∧ (r = 0 ∨ r = 1)) (fun u U => va_P (dC, dI) vwCl (cDk a cI cC cS u) U.heap ∧ va_D (va_A (cDk a cI cC cS G) s.heap.size) (cDk a cI cC cS u)) (va_A (cDk a cI cC cS G) s.heap.size)) ([.ref (a 0)] : List Value).toArray s 0 0 (va_A (cDk a cI cC cS G) s.heap.size)) (F0 m 4 ls []) := by
    intro n_4
    induction n_4 with
    | zero =>
      intro j_4 x1_4 x2_4 G_4 ex2_4 hj0_4 hn_4 hG_4
      exact absurd hn_4 (by omega)
    | succ n_4 ih_4 =>
      intro j_4 x1_4 x2_4 G_4 ex2_4 hj0_4 hn_4 hG_4 hR H locs ls hP hD hS hl
      rw [f_L_isRight_p4] at hR
      refine lv_iload_n hx hb dL_isRight_4 rfl (lv_at hl 2 rfl) ?_
      refine lv_bipush (v := 12) hx hb dL_isRight_5 (by decide) ?_
      refine lv_icmp_ge (tgt := 474) hx hb dL_isRight_7 (by decide) (fun c1 => ?_) (fun c1 => ?_)
      · rw [if_pos c1] at hR
        refine lv_aload_n hx hb dL_isRight_474 rfl (lv_at hl 0 rfl) ?_
        have hPc : va_P (dC, dI) vwCl (cDk a cI cC cS G_4) H := hP.sub [0, 1, 2, 3, 4, 5, 6, 7, 8, 9, 10, 11, 12, 13, 14, 15, 16, 17, 18, 19, 20, 21, 22, 23, 24, 25, 26, 27, 28, 29, 30, 31, 32, 33, 34, 35, 36, 37, 38, 39, 40, 41, 42, 43, 44, 45, 46, 47, 48, 49, 50, 51, 52, 53, 54, 55, 56, 57, 58, 59, 60, 61, 62, 63, 64, 65, 66, 67, 68, 69, 70, 71, 72, 73, 74, 75, 76, 77, 78, 79, 80, 81, 82, 83, 84, 85, 86, 87, 88, 89, 90, 91, 92] rfl
        have hDc : va_D (va_A (cDk a cI cC cS G) s.heap.size) (cDk a cI cC cS G_4) := hD.sub [0, 1, 2, 3, 4, 5, 6, 7, 8, 9, 10, 11, 12, 13, 14, 15, 16, 17, 18, 19, 20, 21, 22, 23, 24, 25, 26, 27, 28, 29, 30, 31, 32, 33, 34, 35, 36, 37, 38, 39, 40, 41, 42, 43, 44, 45, 46, 47, 48, 49, 50, 51, 52, 53, 54, 55, 56, 57, 58, 59, 60, 61, 62, 63, 64, 65, 66, 67, 68, 69, 70, 71, 72, 73, 74, 75, 76, 77, 78, 79, 80, 81, 82, 83, 84, 85, 86, 87, 88, 89, 90, 91, 92] (by decide) rfl
        have hFc : ∀ q : Nat, va_A (cDk a cI cC cS G_4) H.size q → (va_A (cDk a cI cC cS G) s.heap.size) q := va_free hD hS hA [0, 1, 2, 3, 4, 5, 6, 7, 8, 9, 10, 11, 12, 13, 14, 15, 16, 17, 18, 19, 20, 21, 22, 23, 24, 25, 26, 27, 28, 29, 30, 31, 32, 33, 34, 35, 36, 37, 38, 39, 40, 41, 42, 43, 44, 45, 46, 47, 48, 49, 50, 51, 52, 53, 54, 55, 56, 57, 58, 59, 60, 61, 62, 63, 64, 65, 66, 67, 68, 69, 70, 71, 72, 73, 74, 75, 76, 77, 78, 79, 80, 81, 82, 83, 84, 85, 86, 87, 88, 89, 90, 91, 92] rfl
        refine va_calli (va_runV (As := []) (rest := []) ⟨hx, hb, hml, hown, hts⟩ (c_X5_loops l dC dI cI cC cS a G_4 H.size hG_4) (cwV 0 hts gL_isRight_X5_loops rfl rfl rfl (by decide +kernel) ⟨Nat.le_of_ble_eq_true rfl, Nat.le_of_ble_eq_true rfl⟩) (pV (q0 := 0) hK hPc hDc hN rfl rfl) rfl rfl hl.1 rfl (lv_room (Nat.le_of_ble_eq_true rfl)) dL_isRight_475 ⟨Nat.le_of_ble_eq_true rfl, Nat.le_of_ble_eq_true rfl⟩) hS (fun q _ h => hFc q h) hFc (fun r_2 u_2 t_2 H3 locs ht hvm hw hB hz1 hk1 hS => ?_)
        obtain ⟨hw, hens4⟩ := hw
        obtain ⟨hP1, hD1⟩ := hB
        rw [ht] at hP1
        have hw1 : r_2 = (f_X5_loops G_4).1 := congrArg Prod.fst hw
        have hw2 : u_2 = (f_X5_loops G_4).2 := congrArg Prod.snd hw
        clear hw
        subst hw1
        subst hw2
        obtain ⟨hP, hD⟩ := va_join (wc := cDk a cI cC cS G_4) (wr := []) (w1 := cDk a cI cC cS ((f_X5_loops G_4).2)) hP hD [0, 1, 2, 3, 4, 5, 6, 7, 8, 9, 10, 11, 12, 13, 14, 15, 16, 17, 18, 19, 20, 21, 22, 23, 24, 25, 26, 27, 28, 29, 30, 31, 32, 33, 34, 35, 36, 37, 38, 39, 40, 41, 42, 43, 44, 45, 46, 47, 48, 49, 50, 51, 52, 53, 54, 55, 56, 57, 58, 59, 60, 61, 62, 63, 64, 65, 66, 67, 68, 69, 70, 71, 72, 73, 74, 75, 76, 77, 78, 79, 80, 81, 82, 83, 84, 85, 86, 87, 88, 89, 90, 91, 92] [] rfl rfl (by decide) (by decide) hk1 hFc hP1 hD1
        have hP : va_P (dC, dI) vwCl (cDk a cI cC cS ((f_X5_loops G_4).2)) H3 := hP.sub [0, 1, 2, 3, 4, 5, 6, 7, 8, 9, 10, 11, 12, 13, 14, 15, 16, 17, 18, 19, 20, 21, 22, 23, 24, 25, 26, 27, 28, 29, 30, 31, 32, 33, 34, 35, 36, 37, 38, 39, 40, 41, 42, 43, 44, 45, 46, 47, 48, 49, 50, 51, 52, 53, 54, 55, 56, 57, 58, 59, 60, 61, 62, 63, 64, 65, 66, 67, 68, 69, 70, 71, 72, 73, 74, 75, 76, 77, 78, 79, 80, 81, 82, 83, 84, 85, 86, 87, 88, 89, 90, 91, 92] rfl
        have hD : va_D (va_A (cDk a cI cC cS G) s.heap.size) (cDk a cI cC cS ((f_X5_loops G_4).2)) := hD.sub [0, 1, 2, 3, 4, 5, 6, 7, 8, 9, 10, 11, 12, 13, 14, 15, 16, 17, 18, 19, 20, 21, 22, 23, 24, 25, 26, 27, 28, 29, 30, 31, 32, 33, 34, 35, 36, 37, 38, 39, 40, 41, 42, 43, 44, 45, 46, 47, 48, 49, 50, 51, 52, 53, 54, 55, 56, 57, 58, 59, 60, 61, 62, 63, 64, 65, 66, 67, 68, 69, 70, 71, 72, 73, 74, 75, 76, 77, 78, 79, 80, 81, 82, 83, 84, 85, 86, 87, 88, 89, 90, 91, 92] (by decide) rfl
        obtain ⟨Gn5, eGn5⟩ : ∃ z : GR, z = (f_X5_loops G_4).2 := ⟨_, rfl⟩
        rw [sLet_eq, ← eGn5] at hR
        rw [← eGn5] at hP hD
        have hG6 : WFG Gn5 := by rw [eGn5]; exact hens4
        refine lv_istore_n (lv' := [(2, .int ((f_X5_loops G_4).1)), (0, .ref (a 0)), (1, .int x1_4)]) hx hb dL_isRight_478 rfl hl (by decide) rfl (fun ls hl => ?_)
        refine lv_iconst (v := 0) hx hb dL_isRight_479 (by decide) ?_
        refine lv_istore_n (lv' := [(3, .int 0), (2, .int ((f_X5_loops G_4).1)), (0, .ref (a 0)), (1, .int x1_4)]) hx hb dL_isRight_480 rfl hl (by decide) rfl (fun ls hl => ?_)
        have hL_481 : ∀ n_481 : Nat, ∀ (j_481 : Nat), ∀ (x1_481 : Int32) (x2_481 : Int32) (x3_481 : Int32) (G_481 : GR), x3_481 = nI j_481 → j_481 ≤ 4 → 4 < j_481 + n_481 → WFG G_481 → R0 = f_L_isRight_p481 n_481 x1_481 x2_481 x3_481 G_481 → ∀ (H : Heap) (locs : List Loc) (ls : Array Slot), va_P (dC, dI) vwCl (cDk a cI cC cS G_481) H → va_D (va_A (cDk a cI cC cS G) s.heap.size) (cDk a cI cC cS G_481) → va_S (va_A (cDk a cI cC cS G) s.heap.size) s.heap H locs → lv_has ls 11 [(0, .ref (a 0)), (1, .int x1_481), (2, .int x2_481), (3, .int x3_481)] → W p l e (headSpec wsL_isRight rm_L_isRight).room s m ([.ref (a 0)] : List Value).toArray below meth c H locs 0 0 (MQ below (va_Qi (fun (r : Int32) (u : GR) => (r, u) = f_L_isRight G ∧ (WFG u) ∧ (r = 0 ∨ r = 1)) (fun u U => va_P (dC, dI) vwCl (cDk a cI cC cS u) U.heap ∧ va_D (va_A (cDk a cI cC cS G) s.heap.size) (cDk a cI cC cS u)) (va_A (cDk a cI cC cS G) s.heap.size)) ([.ref (a 0)] : List Value).toArray s 0 0 (va_A (cDk a cI cC cS G) s.heap.size)) (F0 m 481 ls []) := by
          intro n_481
          induction n_481 with
          | zero =>
            intro j_481 x1_481 x2_481 x3_481 G_481 ex3_481 hj0_481 hn_481 hG_481
            exact absurd hn_481 (by omega)
          | succ n_481 ih_481 =>
            intro j_481 x1_481 x2_481 x3_481 G_481 ex3_481 hj0_481 hn_481 hG_481 hR H locs ls hP hD hS hl
            rw [f_L_isRight_p481] at hR
            refine lv_iload_n hx hb dL_isRight_481 rfl (lv_at hl 3 rfl) ?_
            refine lv_iconst (v := 4) hx hb dL_isRight_482 (by decide) ?_
            refine lv_icmp_ge (tgt := 616) hx hb dL_isRight_483 (by decide) (fun c7 => ?_) (fun c7 => ?_)
            · rw [if_pos c7] at hR
              refine lv_aload_n hx hb dL_isRight_616 rfl (lv_at hl 0 rfl) ?_
              refine lv_iconst (v := 4) hx hb dL_isRight_617 (by decide) ?_
              have hPc : va_P (dC, dI) vwCl (cDk a cI cC cS G_481) H := hP.sub [0, 1, 2, 3, 4, 5, 6, 7, 8, 9, 10, 11, 12, 13, 14, 15, 16, 17, 18, 19, 20, 21, 22, 23, 24, 25, 26, 27, 28, 29, 30, 31, 32, 33, 34, 35, 36, 37, 38, 39, 40, 41, 42, 43, 44, 45, 46, 47, 48, 49, 50, 51, 52, 53, 54, 55, 56, 57, 58, 59, 60, 61, 62, 63, 64, 65, 66, 67, 68, 69, 70, 71, 72, 73, 74, 75, 76, 77, 78, 79, 80, 81, 82, 83, 84, 85, 86, 87, 88, 89, 90, 91, 92] rfl
              have hDc : va_D (va_A (cDk a cI cC cS G) s.heap.size) (cDk a cI cC cS G_481) := hD.sub [0, 1, 2, 3, 4, 5, 6, 7, 8, 9, 10, 11, 12, 13, 14, 15, 16, 17, 18, 19, 20, 21, 22, 23, 24, 25, 26, 27, 28, 29, 30, 31, 32, 33, 34, 35, 36, 37, 38, 39, 40, 41, 42, 43, 44, 45, 46, 47, 48, 49, 50, 51, 52, 53, 54, 55, 56, 57, 58, 59, 60, 61, 62, 63, 64, 65, 66, 67, 68, 69, 70, 71, 72, 73, 74, 75, 76, 77, 78, 79, 80, 81, 82, 83, 84, 85, 86, 87, 88, 89, 90, 91, 92] (by decide) rfl
              have hFc : ∀ q : Nat, va_A [] H.size q → (va_A (cDk a cI cC cS G) s.heap.size) q := roF hS hA
              refine va_calli (va_runV (As := [.int 4]) (rest := []) ⟨hx, hb, hml, hown, hts⟩ (c_X5_count l dC dI cI cC cS a G_481 H.size 4 hG_481) (cwV 1 hts gL_isRight_X5_count rfl rfl rfl (by decide +kernel) ⟨Nat.le_of_ble_eq_true rfl, Nat.le_of_ble_eq_true rfl⟩) (pV (q0 := 0) hK hPc hDc hN rfl rfl) rfl rfl hl.1 rfl (lv_room (Nat.le_of_ble_eq_true rfl)) dL_isRight_618 ⟨Nat.le_of_ble_eq_true rfl, Nat.le_of_ble_eq_true rfl⟩) hS (fun q _ h => hFc q h) hFc (fun r_8 u_8 t_8 H9 locs ht hvm hw hB hz1 hk1 hS => ?_)
              subst hw
              have hP := ro_keep hP hk1
              refine lv_istore_n (lv' := [(3, .int (f_X5_count G_481 4)), (0, .ref (a 0)), (1, .int x1_481), (2, .int x2_481)]) hx hb dL_isRight_621 rfl hl (by decide) rfl (fun ls hl => ?_)
              refine lv_iload_n hx hb dL_isRight_622 rfl (lv_at hl 2 rfl) ?_
              refine lv_aload_n hx hb dL_isRight_623 rfl (lv_at hl 1 rfl) ?_
              refine lv_bipush (v := 8) hx hb dL_isRight_624 (by decide) ?_
              have hPc : va_P (dC, dI) vwCl (cDk a cI cC cS G_481) H9 := hP.sub [0, 1, 2, 3, 4, 5, 6, 7, 8, 9, 10, 11, 12, 13, 14, 15, 16, 17, 18, 19, 20, 21, 22, 23, 24, 25, 26, 27, 28, 29, 30, 31, 32, 33, 34, 35, 36, 37, 38, 39, 40, 41, 42, 43, 44, 45, 46, 47, 48, 49, 50, 51, 52, 53, 54, 55, 56, 57, 58, 59, 60, 61, 62, 63, 64, 65, 66, 67, 68, 69, 70, 71, 72, 73, 74, 75, 76, 77, 78, 79, 80, 81, 82, 83, 84, 85, 86, 87, 88, 89, 90, 91, 92] rfl
              have hDc : va_D (va_A (cDk a cI cC cS G) s.heap.size) (cDk a cI cC cS G_481) := hD.sub [0, 1, 2, 3, 4, 5, 6, 7, 8, 9, 10, 11, 12, 13, 14, 15, 16, 17, 18, 19, 20, 21, 22, 23, 24, 25, 26, 27, 28, 29, 30, 31, 32, 33, 34, 35, 36, 37, 38, 39, 40, 41, 42, 43, 44, 45, 46, 47, 48, 49, 50, 51, 52, 53, 54, 55, 56, 57, 58, 59, 60, 61, 62, 63, 64, 65, 66, 67, 68, 69, 70, 71, 72, 73, 74, 75, 76, 77, 78, 79, 80, 81, 82, 83, 84, 85, 86, 87, 88, 89, 90, 91, 92] (by decide) rfl
              have hFc : ∀ q : Nat, va_A [] H9.size q → (va_A (cDk a cI cC cS G) s.heap.size) q := roF hS hA
              refine va_calli (va_runV (As := [.int 8]) (rest := [.int x1_481]) ⟨hx, hb, hml, hown, hts⟩ (c_X5_count l dC dI cI cC cS a G_481 H9.size 8 hG_481) (cwV 1 hts gL_isRight_X5_count rfl rfl rfl (by decide +kernel) ⟨Nat.le_of_ble_eq_true rfl, Nat.le_of_ble_eq_true rfl⟩) (pV (q0 := 0) hK hPc hDc hN rfl rfl) rfl rfl hl.1 rfl (lv_room (Nat.le_of_ble_eq_true rfl)) dL_isRight_626 ⟨Nat.le_of_ble_eq_true rfl, Nat.le_of_ble_eq_true rfl⟩) hS (fun q _ h => hFc q h) hFc (fun r_10 u_10 t_10 H11 locs ht hvm hw hB hz1 hk1 hS => ?_)
              subst hw
              have hP := ro_keep hP hk1
              refine lv_icmp_ne (tgt := 682) hx hb dL_isRight_629 (by decide) (fun c12 => ?_) (fun c12 => ?_)
              · rw [if_neg c12] at hR
                refine lv_iconst (v := 0) hx hb dL_isRight_682 (by decide) ?_
                exact W.zret (v := 0) hx hb hr rfl (fun t ht hWw => ⟨⟨0, G_481, rfl, ⟨hR.symm.trans eR, hG_481, (Or.inl rfl)⟩, by rw [ht]; exact hP, hD⟩, hS.F ht⟩) hS.2.2 dL_isRight_683
              · rw [if_pos c12] at hR
                refine lv_aload_n hx hb dL_isRight_632 rfl (lv_at hl 1 rfl) ?_
                refine lv_iconst (v := 1) hx hb dL_isRight_633 (by decide) ?_
                have hPc : va_P (dC, dI) vwCl (cDk a cI cC cS G_481) H11 := hP.sub [0, 1, 2, 3, 4, 5, 6, 7, 8, 9, 10, 11, 12, 13, 14, 15, 16, 17, 18, 19, 20, 21, 22, 23, 24, 25, 26, 27, 28, 29, 30, 31, 32, 33, 34, 35, 36, 37, 38, 39, 40, 41, 42, 43, 44, 45, 46, 47, 48, 49, 50, 51, 52, 53, 54, 55, 56, 57, 58, 59, 60, 61, 62, 63, 64, 65, 66, 67, 68, 69, 70, 71, 72, 73, 74, 75, 76, 77, 78, 79, 80, 81, 82, 83, 84, 85, 86, 87, 88, 89, 90, 91, 92] rfl
                have hDc : va_D (va_A (cDk a cI cC cS G) s.heap.size) (cDk a cI cC cS G_481) := hD.sub [0, 1, 2, 3, 4, 5, 6, 7, 8, 9, 10, 11, 12, 13, 14, 15, 16, 17, 18, 19, 20, 21, 22, 23, 24, 25, 26, 27, 28, 29, 30, 31, 32, 33, 34, 35, 36, 37, 38, 39, 40, 41, 42, 43, 44, 45, 46, 47, 48, 49, 50, 51, 52, 53, 54, 55, 56, 57, 58, 59, 60, 61, 62, 63, 64, 65, 66, 67, 68, 69, 70, 71, 72, 73, 74, 75, 76, 77, 78, 79, 80, 81, 82, 83, 84, 85, 86, 87, 88, 89, 90, 91, 92] (by decide) rfl
                have hFc : ∀ q : Nat, va_A [] H11.size q → (va_A (cDk a cI cC cS G) s.heap.size) q := roF hS hA
                refine va_calli (va_runV (As := [.int 1]) (rest := []) ⟨hx, hb, hml, hown, hts⟩ (c_X5_count l dC dI cI cC cS a G_481 H11.size 1 hG_481) (cwV 1 hts gL_isRight_X5_count rfl rfl rfl (by decide +kernel) ⟨Nat.le_of_ble_eq_true rfl, Nat.le_of_ble_eq_true rfl⟩) (pV (q0 := 0) hK hPc hDc hN rfl rfl) rfl rfl hl.1 rfl (lv_room (Nat.le_of_ble_eq_true rfl)) dL_isRight_634 ⟨Nat.le_of_ble_eq_true rfl, Nat.le_of_ble_eq_true rfl⟩) hS (fun q _ h => hFc q h) hFc (fun r_13 u_13 t_13 H14 locs ht hvm hw hB hz1 hk1 hS => ?_)
                subst hw
                have hP := ro_keep hP hk1
                refine lv_if_lt (tgt := 682) hx hb dL_isRight_637 (by decide) (fun c15 => ?_) (fun c15 => ?_)
                · rw [if_pos c15] at hR
                  refine lv_iconst (v := 0) hx hb dL_isRight_682 (by decide) ?_
                  exact W.zret (v := 0) hx hb hr rfl (fun t ht hWw => ⟨⟨0, G_481, rfl, ⟨hR.symm.trans eR, hG_481, (Or.inl rfl)⟩, by rw [ht]; exact hP, hD⟩, hS.F ht⟩) hS.2.2 dL_isRight_683
                · rw [if_neg c15] at hR
                  refine lv_iload_n hx hb dL_isRight_640 rfl (lv_at hl 0 rfl) ?_
                  have hJ_649 : ∀ (x3_649 : Int32) (s0_649 : Int32) (G_649 : GR), WFG G_649 → R0 = f_L_isRight_p649 x3_649 s0_649 G_649 → ∀ (H : Heap) (locs : List Loc) (ls : Array Slot), va_P (dC, dI) vwCl (cDk a cI cC cS G_649) H → va_D (va_A (cDk a cI cC cS G) s.heap.size) (cDk a cI cC cS G_649) → va_S (va_A (cDk a cI cC cS G) s.heap.size) s.heap H locs → lv_has ls 11 [(0, .ref (a 0)), (3, .int x3_649)] → W p l e (headSpec wsL_isRight rm_L_isRight).room s m ([.ref (a 0)] : List Value).toArray below meth c H locs 0 0 (MQ below (va_Qi (fun (r : Int32) (u : GR) => (r, u) = f_L_isRight G ∧ (WFG u) ∧ (r = 0 ∨ r = 1)) (fun u U => va_P (dC, dI) vwCl (cDk a cI cC cS u) U.heap ∧ va_D (va_A (cDk a cI cC cS G) s.heap.size) (cDk a cI cC cS u)) (va_A (cDk a cI cC cS G) s.heap.size)) ([.ref (a 0)] : List Value).toArray s 0 0 (va_A (cDk a cI cC cS G) s.heap.size)) (F0 m 649 ls [.int s0_649]) := by
                    intro x3_649 s0_649 G_649 hG_649 hR H locs ls hP hD hS hl
                    rw [f_L_isRight_p649] at hR
                    refine lv_aload_n hx hb dL_isRight_649 rfl (lv_at hl 0 rfl) ?_
                    refine lv_iconst (v := 5) hx hb dL_isRight_650 (by decide) ?_
                    have hPc : va_P (dC, dI) vwCl (cDk a cI cC cS G_649) H := hP.sub [0, 1, 2, 3, 4, 5, 6, 7, 8, 9, 10, 11, 12, 13, 14, 15, 16, 17, 18, 19, 20, 21, 22, 23, 24, 25, 26, 27, 28, 29, 30, 31, 32, 33, 34, 35, 36, 37, 38, 39, 40, 41, 42, 43, 44, 45, 46, 47, 48, 49, 50, 51, 52, 53, 54, 55, 56, 57, 58, 59, 60, 61, 62, 63, 64, 65, 66, 67, 68, 69, 70, 71, 72, 73, 74, 75, 76, 77, 78, 79, 80, 81, 82, 83, 84, 85, 86, 87, 88, 89, 90, 91, 92] rfl
                    have hDc : va_D (va_A (cDk a cI cC cS G) s.heap.size) (cDk a cI cC cS G_649) := hD.sub [0, 1, 2, 3, 4, 5, 6, 7, 8, 9, 10, 11, 12, 13, 14, 15, 16, 17, 18, 19, 20, 21, 22, 23, 24, 25, 26, 27, 28, 29, 30, 31, 32, 33, 34, 35, 36, 37, 38, 39, 40, 41, 42, 43, 44, 45, 46, 47, 48, 49, 50, 51, 52, 53, 54, 55, 56, 57, 58, 59, 60, 61, 62, 63, 64, 65, 66, 67, 68, 69, 70, 71, 72, 73, 74, 75, 76, 77, 78, 79, 80, 81, 82, 83, 84, 85, 86, 87, 88, 89, 90, 91, 92] (by decide) rfl
                    have hFc : ∀ q : Nat, va_A [] H.size q → (va_A (cDk a cI cC cS G) s.heap.size) q := roF hS hA
                    refine va_calli (va_runV (As := [.int 5]) (rest := [.int s0_649]) ⟨hx, hb, hml, hown, hts⟩ (c_X5_count l dC dI cI cC cS a G_649 H.size 5 hG_649) (cwV 1 hts gL_isRight_X5_count rfl rfl rfl (by decide +kernel) ⟨Nat.le_of_ble_eq_true rfl, Nat.le_of_ble_eq_true rfl⟩) (pV (q0 := 0) hK hPc hDc hN rfl rfl) rfl rfl hl.1 rfl (lv_room (Nat.le_of_ble_eq_true rfl)) dL_isRight_651 ⟨Nat.le_of_ble_eq_true rfl, Nat.le_of_ble_eq_true rfl⟩) hS (fun q _ h => hFc q h) hFc (fun r_16 u_16 t_16 H17 locs ht hvm hw hB hz1 hk1 hS => ?_)
                    subst hw
                    have hP := ro_keep hP hk1
                    have hJ_662 : ∀ (x3_662 : Int32) (s0_662 : Int32) (s1_662 : Int32) (G_662 : GR), WFG G_662 → R0 = f_L_isRight_p662 x3_662 s0_662 s1_662 G_662 → ∀ (H : Heap) (locs : List Loc) (ls : Array Slot), va_P (dC, dI) vwCl (cDk a cI cC cS G_662) H → va_D (va_A (cDk a cI cC cS G) s.heap.size) (cDk a cI cC cS G_662) → va_S (va_A (cDk a cI cC cS G) s.heap.size) s.heap H locs → lv_has ls 11 [(0, .ref (a 0)), (3, .int x3_662)] → W p l e (headSpec wsL_isRight rm_L_isRight).room s m ([.ref (a 0)] : List Value).toArray below meth c H locs 0 0 (MQ below (va_Qi (fun (r : Int32) (u : GR) => (r, u) = f_L_isRight G ∧ (WFG u) ∧ (r = 0 ∨ r = 1)) (fun u U => va_P (dC, dI) vwCl (cDk a cI cC cS u) U.heap ∧ va_D (va_A (cDk a cI cC cS G) s.heap.size) (cDk a cI cC cS u)) (va_A (cDk a cI cC cS G) s.heap.size)) ([.ref (a 0)] : List Value).toArray s 0 0 (va_A (cDk a cI cC cS G) s.heap.size)) (F0 m 662 ls [.int s0_662, .int s1_662]) := by
                      intro x3_662 s0_662 s1_662 G_662 hG_662 hR H locs ls hP hD hS hl
                      rw [f_L_isRight_p662] at hR
                      refine lv_icmp_ne (tgt := 682) hx hb dL_isRight_662 (by decide) (fun c18 => ?_) (fun c18 => ?_)
                      · rw [if_neg c18] at hR
                        refine lv_iconst (v := 0) hx hb dL_isRight_682 (by decide) ?_
                        exact W.zret (v := 0) hx hb hr rfl (fun t ht hWw => ⟨⟨0, G_662, rfl, ⟨hR.symm.trans eR, hG_662, (Or.inl rfl)⟩, by rw [ht]; exact hP, hD⟩, hS.F ht⟩) hS.2.2 dL_isRight_683
                      · rw [if_pos c18] at hR
                        refine lv_iload_n hx hb dL_isRight_665 rfl (lv_at hl 1 rfl) ?_
                        refine lv_if_lt (tgt := 678) hx hb dL_isRight_666 (by decide) (fun c19 => ?_) (fun c19 => ?_)
                        · rw [if_pos c19] at hR
                          refine lv_iconst (v := 1) hx hb dL_isRight_678 (by decide) ?_
                          refine lv_goto (tgt := 683) hx hb dL_isRight_679 (by decide) ?_
                          exact W.zret (v := 1) hx hb hr rfl (fun t ht hWw => ⟨⟨1, G_662, rfl, ⟨hR.symm.trans eR, hG_662, (Or.inr rfl)⟩, by rw [ht]; exact hP, hD⟩, hS.F ht⟩) hS.2.2 dL_isRight_683
                        · rw [if_neg c19] at hR
                          refine lv_iload_n hx hb dL_isRight_669 rfl (lv_at hl 1 rfl) ?_
                          refine lv_aload_n hx hb dL_isRight_670 rfl (lv_at hl 0 rfl) ?_
                          refine lv_iconst (v := 5) hx hb dL_isRight_671 (by decide) ?_
                          have hPc : va_P (dC, dI) vwCl (cDk a cI cC cS G_662) H := hP.sub [0, 1, 2, 3, 4, 5, 6, 7, 8, 9, 10, 11, 12, 13, 14, 15, 16, 17, 18, 19, 20, 21, 22, 23, 24, 25, 26, 27, 28, 29, 30, 31, 32, 33, 34, 35, 36, 37, 38, 39, 40, 41, 42, 43, 44, 45, 46, 47, 48, 49, 50, 51, 52, 53, 54, 55, 56, 57, 58, 59, 60, 61, 62, 63, 64, 65, 66, 67, 68, 69, 70, 71, 72, 73, 74, 75, 76, 77, 78, 79, 80, 81, 82, 83, 84, 85, 86, 87, 88, 89, 90, 91, 92] rfl
                          have hDc : va_D (va_A (cDk a cI cC cS G) s.heap.size) (cDk a cI cC cS G_662) := hD.sub [0, 1, 2, 3, 4, 5, 6, 7, 8, 9, 10, 11, 12, 13, 14, 15, 16, 17, 18, 19, 20, 21, 22, 23, 24, 25, 26, 27, 28, 29, 30, 31, 32, 33, 34, 35, 36, 37, 38, 39, 40, 41, 42, 43, 44, 45, 46, 47, 48, 49, 50, 51, 52, 53, 54, 55, 56, 57, 58, 59, 60, 61, 62, 63, 64, 65, 66, 67, 68, 69, 70, 71, 72, 73, 74, 75, 76, 77, 78, 79, 80, 81, 82, 83, 84, 85, 86, 87, 88, 89, 90, 91, 92] (by decide) rfl
                          have hFc : ∀ q : Nat, va_A [] H.size q → (va_A (cDk a cI cC cS G) s.heap.size) q := roF hS hA
                          refine va_calli (va_runV (As := [.int 5]) (rest := [.int x3_662]) ⟨hx, hb, hml, hown, hts⟩ (c_X5_count l dC dI cI cC cS a G_662 H.size 5 hG_662) (cwV 1 hts gL_isRight_X5_count rfl rfl rfl (by decide +kernel) ⟨Nat.le_of_ble_eq_true rfl, Nat.le_of_ble_eq_true rfl⟩) (pV (q0 := 0) hK hPc hDc hN rfl rfl) rfl rfl hl.1 rfl (lv_room (Nat.le_of_ble_eq_true rfl)) dL_isRight_672 ⟨Nat.le_of_ble_eq_true rfl, Nat.le_of_ble_eq_true rfl⟩) hS (fun q _ h => hFc q h) hFc (fun r_20 u_20 t_20 H21 locs ht hvm hw hB hz1 hk1 hS => ?_)
                          subst hw
                          have hP := ro_keep hP hk1
                          refine lv_icmp_ge (tgt := 682) hx hb dL_isRight_675 (by decide) (fun c22 => ?_) (fun c22 => ?_)
                          · rw [if_pos c22] at hR
                            refine lv_iconst (v := 0) hx hb dL_isRight_682 (by decide) ?_
                            exact W.zret (v := 0) hx hb hr rfl (fun t ht hWw => ⟨⟨0, G_662, rfl, ⟨hR.symm.trans eR, hG_662, (Or.inl rfl)⟩, by rw [ht]; exact hP, hD⟩, hS.F ht⟩) hS.2.2 dL_isRight_683
                          · rw [if_neg c22] at hR
                            refine lv_iconst (v := 1) hx hb dL_isRight_678 (by decide) ?_
                            refine lv_goto (tgt := 683) hx hb dL_isRight_679 (by decide) ?_
                            exact W.zret (v := 1) hx hb hr rfl (fun t ht hWw => ⟨⟨1, G_662, rfl, ⟨hR.symm.trans eR, hG_662, (Or.inr rfl)⟩, by rw [ht]; exact hP, hD⟩, hS.F ht⟩) hS.2.2 dL_isRight_683
                    refine lv_if_ge (tgt := 661) hx hb dL_isRight_654 (by decide) (fun c23 => ?_) (fun c23 => ?_)
                    · rw [if_pos c23] at hR
                      refine lv_iconst (v := 0) hx hb dL_isRight_661 (by decide) ?_
                      exact hJ_662 x3_649 0 s0_649 G_649 hG_649 hR _ _ _ hP hD hS (lv_sub hl [0, 1] rfl)
                    · rw [if_neg c23] at hR
                      refine lv_iconst (v := 1) hx hb dL_isRight_657 (by decide) ?_
                      refine lv_goto (tgt := 662) hx hb dL_isRight_658 (by decide) ?_
                      exact hJ_662 x3_649 1 s0_649 G_649 hG_649 hR _ _ _ hP hD hS (lv_sub hl [0, 1] rfl)
                  refine lv_if_ge (tgt := 648) hx hb dL_isRight_641 (by decide) (fun c24 => ?_) (fun c24 => ?_)
                  · rw [if_pos c24] at hR
                    refine lv_iconst (v := 0) hx hb dL_isRight_648 (by decide) ?_
                    exact hJ_649 (f_X5_count G_481 4) 0 G_481 hG_481 hR _ _ _ hP hD hS (lv_sub hl [1, 0] rfl)
                  · rw [if_neg c24] at hR
                    refine lv_iconst (v := 1) hx hb dL_isRight_644 (by decide) ?_
                    refine lv_goto (tgt := 649) hx hb dL_isRight_645 (by decide) ?_
                    exact hJ_649 (f_X5_count G_481 4) 1 G_481 hG_481 hR _ _ _ hP hD hS (lv_sub hl [1, 0] rfl)
            · rw [if_neg c7] at hR
              have hj_481 : j_481 < 4 := lp_ge ex3_481 (by decide +kernel) (by omega) (by omega) c7
              refine lv_aload_n hx hb dL_isRight_486 rfl (lv_at hl 0 rfl) ?_
              refine lv_iload_n hx hb dL_isRight_487 rfl (lv_at hl 3 rfl) ?_
              refine lv_iconst (v := 1) hx hb dL_isRight_488 (by decide) ?_
              have hPc : va_P (dC, dI) vwCl (cDk a cI cC cS G_481) H := hP.sub [0, 1, 2, 3, 4, 5, 6, 7, 8, 9, 10, 11, 12, 13, 14, 15, 16, 17, 18, 19, 20, 21, 22, 23, 24, 25, 26, 27, 28, 29, 30, 31, 32, 33, 34, 35, 36, 37, 38, 39, 40, 41, 42, 43, 44, 45, 46, 47, 48, 49, 50, 51, 52, 53, 54, 55, 56, 57, 58, 59, 60, 61, 62, 63, 64, 65, 66, 67, 68, 69, 70, 71, 72, 73, 74, 75, 76, 77, 78, 79, 80, 81, 82, 83, 84, 85, 86, 87, 88, 89, 90, 91, 92] rfl
              have hDc : va_D (va_A (cDk a cI cC cS G) s.heap.size) (cDk a cI cC cS G_481) := hD.sub [0, 1, 2, 3, 4, 5, 6, 7, 8, 9, 10, 11, 12, 13, 14, 15, 16, 17, 18, 19, 20, 21, 22, 23, 24, 25, 26, 27, 28, 29, 30, 31, 32, 33, 34, 35, 36, 37, 38, 39, 40, 41, 42, 43, 44, 45, 46, 47, 48, 49, 50, 51, 52, 53, 54, 55, 56, 57, 58, 59, 60, 61, 62, 63, 64, 65, 66, 67, 68, 69, 70, 71, 72, 73, 74, 75, 76, 77, 78, 79, 80, 81, 82, 83, 84, 85, 86, 87, 88, 89, 90, 91, 92] (by decide) rfl
              have hFc : ∀ q : Nat, va_A [] H.size q → (va_A (cDk a cI cC cS G) s.heap.size) q := roF hS hA
              refine va_calli (va_runV (As := [.int x3_481, .int 1]) (rest := []) ⟨hx, hb, hml, hown, hts⟩ (c_X5_feed l dC dI cI cC cS a G_481 H.size x3_481 1 hG_481) (cwV 2 hts gL_isRight_X5_feed rfl rfl rfl (by decide +kernel) ⟨Nat.le_of_ble_eq_true rfl, Nat.le_of_ble_eq_true rfl⟩) (pV (q0 := 0) hK hPc hDc hN rfl rfl) rfl rfl hl.1 rfl (lv_room (Nat.le_of_ble_eq_true rfl)) dL_isRight_489 ⟨Nat.le_of_ble_eq_true rfl, Nat.le_of_ble_eq_true rfl⟩) hS (fun q _ h => hFc q h) hFc (fun r_25 u_25 t_25 H26 locs ht hvm hw hB hz1 hk1 hS => ?_)
              subst hw
              have hP := ro_keep hP hk1
              refine lv_istore (lv' := [(4, .int (f_X5_feed G_481 x3_481 1)), (0, .ref (a 0)), (1, .int x1_481), (2, .int x2_481), (3, .int x3_481)]) hx hb dL_isRight_492 hl (by decide) rfl (fun ls hl => ?_)
              refine lv_iload_n hx hb dL_isRight_494 rfl (lv_at hl 3 rfl) ?_
              refine lv_iload_n hx hb dL_isRight_495 rfl (lv_at hl 4 rfl) ?_
              refine lv_ishr hx hb dL_isRight_496 ?_
              refine lv_iconst (v := 1) hx hb dL_isRight_497 (by decide) ?_
              refine lv_iand hx hb dL_isRight_498 ?_
              refine lv_iconst (v := 1) hx hb dL_isRight_499 (by decide) ?_
              have hJ_508 : ∀ (x1_508 : Int32) (x2_508 : Int32) (x3_508 : Int32) (x4_508 : Int32) (s0_508 : Int32) (G_508 : GR), x3_508 = nI j_481 → WFG G_508 → R0 = f_L_isRight_p508 (f_L_isRight_p481 n_481) x1_508 x2_508 x3_508 x4_508 s0_508 G_508 → ∀ (H : Heap) (locs : List Loc) (ls : Array Slot), va_P (dC, dI) vwCl (cDk a cI cC cS G_508) H → va_D (va_A (cDk a cI cC cS G) s.heap.size) (cDk a cI cC cS G_508) → va_S (va_A (cDk a cI cC cS G) s.heap.size) s.heap H locs → lv_has ls 11 [(0, .ref (a 0)), (1, .int x1_508), (2, .int x2_508), (3, .int x3_508), (4, .int x4_508)] → W p l e (headSpec wsL_isRight rm_L_isRight).room s m ([.ref (a 0)] : List Value).toArray below meth c H locs 0 0 (MQ below (va_Qi (fun (r : Int32) (u : GR) => (r, u) = f_L_isRight G ∧ (WFG u) ∧ (r = 0 ∨ r = 1)) (fun u U => va_P (dC, dI) vwCl (cDk a cI cC cS u) U.heap ∧ va_D (va_A (cDk a cI cC cS G) s.heap.size) (cDk a cI cC cS u)) (va_A (cDk a cI cC cS G) s.heap.size)) ([.ref (a 0)] : List Value).toArray s 0 0 (va_A (cDk a cI cC cS G) s.heap.size)) (F0 m 508 ls [.int s0_508]) := by
                intro x1_508 x2_508 x3_508 x4_508 s0_508 G_508 ex3_508 hG_508 hR H locs ls hP hD hS hl
                rw [f_L_isRight_p508] at hR
                refine lv_iload hx hb dL_isRight_508 (lv_at hl 4 rfl) ?_
                have hJ_538 : ∀ (x1_538 : Int32) (x2_538 : Int32) (x3_538 : Int32) (s0_538 : Int32) (s1_538 : Int32) (G_538 : GR), x3_538 = nI j_481 → WFG G_538 → R0 = f_L_isRight_p538 (f_L_isRight_p481 n_481) x1_538 x2_538 x3_538 s0_538 s1_538 G_538 → ∀ (H : Heap) (locs : List Loc) (ls : Array Slot), va_P (dC, dI) vwCl (cDk a cI cC cS G_538) H → va_D (va_A (cDk a cI cC cS G) s.heap.size) (cDk a cI cC cS G_538) → va_S (va_A (cDk a cI cC cS G) s.heap.size) s.heap H locs → lv_has ls 11 [(0, .ref (a 0)), (1, .int x1_538), (2, .int x2_538), (3, .int x3_538)] → W p l e (headSpec wsL_isRight rm_L_isRight).room s m ([.ref (a 0)] : List Value).toArray below meth c H locs 0 0 (MQ below (va_Qi (fun (r : Int32) (u : GR) => (r, u) = f_L_isRight G ∧ (WFG u) ∧ (r = 0 ∨ r = 1)) (fun u U => va_P (dC, dI) vwCl (cDk a cI cC cS u) U.heap ∧ va_D (va_A (cDk a cI cC cS G) s.heap.size) (cDk a cI cC cS u)) (va_A (cDk a cI cC cS G) s.heap.size)) ([.ref (a 0)] : List Value).toArray s 0 0 (va_A (cDk a cI cC cS G) s.heap.size)) (F0 m 538 ls [.int s0_538, .int s1_538]) := by
                  intro x1_538 x2_538 x3_538 s0_538 s1_538 G_538 ex3_538 hG_538 hR H locs ls hP hD hS hl
                  rw [f_L_isRight_p538] at hR
                  refine lv_icmp_ne (tgt := 608) hx hb dL_isRight_538 (by decide) (fun c27 => ?_) (fun c27 => ?_)
                  · rw [if_neg c27] at hR
                    refine lv_iconst (v := 0) hx hb dL_isRight_608 (by decide) ?_
                    exact W.zret (v := 0) hx hb hr rfl (fun t ht hWw => ⟨⟨0, G_538, rfl, ⟨hR.symm.trans eR, hG_538, (Or.inl rfl)⟩, by rw [ht]; exact hP, hD⟩, hS.F ht⟩) hS.2.2 dL_isRight_609
                  · rw [if_pos c27] at hR
                    refine lv_aload_n hx hb dL_isRight_541 rfl (lv_at hl 0 rfl) ?_
                    refine lv_iload_n hx hb dL_isRight_542 rfl (lv_at hl 3 rfl) ?_
                    refine lv_iconst (v := 2) hx hb dL_isRight_543 (by decide) ?_
                    have hPc : va_P (dC, dI) vwCl (cDk a cI cC cS G_538) H := hP.sub [0, 1, 2, 3, 4, 5, 6, 7, 8, 9, 10, 11, 12, 13, 14, 15, 16, 17, 18, 19, 20, 21, 22, 23, 24, 25, 26, 27, 28, 29, 30, 31, 32, 33, 34, 35, 36, 37, 38, 39, 40, 41, 42, 43, 44, 45, 46, 47, 48, 49, 50, 51, 52, 53, 54, 55, 56, 57, 58, 59, 60, 61, 62, 63, 64, 65, 66, 67, 68, 69, 70, 71, 72, 73, 74, 75, 76, 77, 78, 79, 80, 81, 82, 83, 84, 85, 86, 87, 88, 89, 90, 91, 92] rfl
                    have hDc : va_D (va_A (cDk a cI cC cS G) s.heap.size) (cDk a cI cC cS G_538) := hD.sub [0, 1, 2, 3, 4, 5, 6, 7, 8, 9, 10, 11, 12, 13, 14, 15, 16, 17, 18, 19, 20, 21, 22, 23, 24, 25, 26, 27, 28, 29, 30, 31, 32, 33, 34, 35, 36, 37, 38, 39, 40, 41, 42, 43, 44, 45, 46, 47, 48, 49, 50, 51, 52, 53, 54, 55, 56, 57, 58, 59, 60, 61, 62, 63, 64, 65, 66, 67, 68, 69, 70, 71, 72, 73, 74, 75, 76, 77, 78, 79, 80, 81, 82, 83, 84, 85, 86, 87, 88, 89, 90, 91, 92] (by decide) rfl
                    have hFc : ∀ q : Nat, va_A [] H.size q → (va_A (cDk a cI cC cS G) s.heap.size) q := roF hS hA
                    refine va_calli (va_runV (As := [.int x3_538, .int 2]) (rest := []) ⟨hx, hb, hml, hown, hts⟩ (c_X5_feed l dC dI cI cC cS a G_538 H.size x3_538 2 hG_538) (cwV 2 hts gL_isRight_X5_feed rfl rfl rfl (by decide +kernel) ⟨Nat.le_of_ble_eq_true rfl, Nat.le_of_ble_eq_true rfl⟩) (pV (q0 := 0) hK hPc hDc hN rfl rfl) rfl rfl hl.1 rfl (lv_room (Nat.le_of_ble_eq_true rfl)) dL_isRight_544 ⟨Nat.le_of_ble_eq_true rfl, Nat.le_of_ble_eq_true rfl⟩) hS (fun q _ h => hFc q h) hFc (fun r_28 u_28 t_28 H29 locs ht hvm hw hB hz1 hk1 hS => ?_)
                    subst hw
                    have hP := ro_keep hP hk1
                    refine lv_if_lt (tgt := 608) hx hb dL_isRight_547 (by decide) (fun c30 => ?_) (fun c30 => ?_)
                    · rw [if_pos c30] at hR
                      refine lv_iconst (v := 0) hx hb dL_isRight_608 (by decide) ?_
                      exact W.zret (v := 0) hx hb hr rfl (fun t ht hWw => ⟨⟨0, G_538, rfl, ⟨hR.symm.trans eR, hG_538, (Or.inl rfl)⟩, by rw [ht]; exact hP, hD⟩, hS.F ht⟩) hS.2.2 dL_isRight_609
                    · rw [if_neg c30] at hR
                      refine lv_aload_n hx hb dL_isRight_550 rfl (lv_at hl 0 rfl) ?_
                      refine lv_iload_n hx hb dL_isRight_551 rfl (lv_at hl 3 rfl) ?_
                      refine lv_iconst (v := 2) hx hb dL_isRight_552 (by decide) ?_
                      have hPc : va_P (dC, dI) vwCl (cDk a cI cC cS G_538) H29 := hP.sub [0, 1, 2, 3, 4, 5, 6, 7, 8, 9, 10, 11, 12, 13, 14, 15, 16, 17, 18, 19, 20, 21, 22, 23, 24, 25, 26, 27, 28, 29, 30, 31, 32, 33, 34, 35, 36, 37, 38, 39, 40, 41, 42, 43, 44, 45, 46, 47, 48, 49, 50, 51, 52, 53, 54, 55, 56, 57, 58, 59, 60, 61, 62, 63, 64, 65, 66, 67, 68, 69, 70, 71, 72, 73, 74, 75, 76, 77, 78, 79, 80, 81, 82, 83, 84, 85, 86, 87, 88, 89, 90, 91, 92] rfl
                      have hDc : va_D (va_A (cDk a cI cC cS G) s.heap.size) (cDk a cI cC cS G_538) := hD.sub [0, 1, 2, 3, 4, 5, 6, 7, 8, 9, 10, 11, 12, 13, 14, 15, 16, 17, 18, 19, 20, 21, 22, 23, 24, 25, 26, 27, 28, 29, 30, 31, 32, 33, 34, 35, 36, 37, 38, 39, 40, 41, 42, 43, 44, 45, 46, 47, 48, 49, 50, 51, 52, 53, 54, 55, 56, 57, 58, 59, 60, 61, 62, 63, 64, 65, 66, 67, 68, 69, 70, 71, 72, 73, 74, 75, 76, 77, 78, 79, 80, 81, 82, 83, 84, 85, 86, 87, 88, 89, 90, 91, 92] (by decide) rfl
                      have hFc : ∀ q : Nat, va_A [] H29.size q → (va_A (cDk a cI cC cS G) s.heap.size) q := roF hS hA
                      refine va_calli (va_runV (As := [.int x3_538, .int 2]) (rest := []) ⟨hx, hb, hml, hown, hts⟩ (c_X5_feed l dC dI cI cC cS a G_538 H29.size x3_538 2 hG_538) (cwV 2 hts gL_isRight_X5_feed rfl rfl rfl (by decide +kernel) ⟨Nat.le_of_ble_eq_true rfl, Nat.le_of_ble_eq_true rfl⟩) (pV (q0 := 0) hK hPc hDc hN rfl rfl) rfl rfl hl.1 rfl (lv_room (Nat.le_of_ble_eq_true rfl)) dL_isRight_553 ⟨Nat.le_of_ble_eq_true rfl, Nat.le_of_ble_eq_true rfl⟩) hS (fun q _ h => hFc q h) hFc (fun r_31 u_31 t_31 H32 locs ht hvm hw hB hz1 hk1 hS => ?_)
                      subst hw
                      have hP := ro_keep hP hk1
                      refine lv_sipush (v := 9999) hx hb dL_isRight_556 (by decide) ?_
                      refine lv_icmp_gt (tgt := 608) hx hb dL_isRight_559 (by decide) (fun c33 => ?_) (fun c33 => ?_)
                      · rw [if_pos c33] at hR
                        refine lv_iconst (v := 0) hx hb dL_isRight_608 (by decide) ?_
                        exact W.zret (v := 0) hx hb hr rfl (fun t ht hWw => ⟨⟨0, G_538, rfl, ⟨hR.symm.trans eR, hG_538, (Or.inl rfl)⟩, by rw [ht]; exact hP, hD⟩, hS.F ht⟩) hS.2.2 dL_isRight_609
                      · rw [if_neg c33] at hR
                        refine lv_aload_n hx hb dL_isRight_562 rfl (lv_at hl 0 rfl) ?_
                        refine lv_iload_n hx hb dL_isRight_563 rfl (lv_at hl 3 rfl) ?_
                        have hPc : va_P (dC, dI) vwCl (cDk a cI cC cS G_538) H32 := hP.sub [0, 1, 2, 3, 4, 5, 6, 7, 8, 9, 10, 11, 12, 13, 14, 15, 16, 17, 18, 19, 20, 21, 22, 23, 24, 25, 26, 27, 28, 29, 30, 31, 32, 33, 34, 35, 36, 37, 38, 39, 40, 41, 42, 43, 44, 45, 46, 47, 48, 49, 50, 51, 52, 53, 54, 55, 56, 57, 58, 59, 60, 61, 62, 63, 64, 65, 66, 67, 68, 69, 70, 71, 72, 73, 74, 75, 76, 77, 78, 79, 80, 81, 82, 83, 84, 85, 86, 87, 88, 89, 90, 91, 92] rfl
                        have hDc : va_D (va_A (cDk a cI cC cS G) s.heap.size) (cDk a cI cC cS G_538) := hD.sub [0, 1, 2, 3, 4, 5, 6, 7, 8, 9, 10, 11, 12, 13, 14, 15, 16, 17, 18, 19, 20, 21, 22, 23, 24, 25, 26, 27, 28, 29, 30, 31, 32, 33, 34, 35, 36, 37, 38, 39, 40, 41, 42, 43, 44, 45, 46, 47, 48, 49, 50, 51, 52, 53, 54, 55, 56, 57, 58, 59, 60, 61, 62, 63, 64, 65, 66, 67, 68, 69, 70, 71, 72, 73, 74, 75, 76, 77, 78, 79, 80, 81, 82, 83, 84, 85, 86, 87, 88, 89, 90, 91, 92] (by decide) rfl
                        have hFc : ∀ q : Nat, va_A (cDk a cI cC cS G_538) H32.size q → (va_A (cDk a cI cC cS G) s.heap.size) q := va_free hD hS hA [0, 1, 2, 3, 4, 5, 6, 7, 8, 9, 10, 11, 12, 13, 14, 15, 16, 17, 18, 19, 20, 21, 22, 23, 24, 25, 26, 27, 28, 29, 30, 31, 32, 33, 34, 35, 36, 37, 38, 39, 40, 41, 42, 43, 44, 45, 46, 47, 48, 49, 50, 51, 52, 53, 54, 55, 56, 57, 58, 59, 60, 61, 62, 63, 64, 65, 66, 67, 68, 69, 70, 71, 72, 73, 74, 75, 76, 77, 78, 79, 80, 81, 82, 83, 84, 85, 86, 87, 88, 89, 90, 91, 92] rfl
                        refine va_calli (va_runV (As := [.int x3_538]) (rest := []) ⟨hx, hb, hml, hown, hts⟩ (c_X5_hearers l dC dI cI cC cS a G_538 H32.size x3_538 hG_538) (cwV 1 hts gL_isRight_X5_hearers rfl rfl rfl (by decide +kernel) ⟨Nat.le_of_ble_eq_true rfl, Nat.le_of_ble_eq_true rfl⟩) (pV (q0 := 0) hK hPc hDc hN rfl rfl) rfl rfl hl.1 rfl (lv_room (Nat.le_of_ble_eq_true rfl)) dL_isRight_564 ⟨Nat.le_of_ble_eq_true rfl, Nat.le_of_ble_eq_true rfl⟩) hS (fun q _ h => hFc q h) hFc (fun r_34 u_34 t_34 H35 locs ht hvm hw hB hz1 hk1 hS => ?_)
                        obtain ⟨hw, hens36⟩ := hw
                        obtain ⟨hP1, hD1⟩ := hB
                        rw [ht] at hP1
                        have hw1 : r_34 = (f_X5_hearers G_538 x3_538).1 := congrArg Prod.fst hw
                        have hw2 : u_34 = (f_X5_hearers G_538 x3_538).2 := congrArg Prod.snd hw
                        clear hw
                        subst hw1
                        subst hw2
                        obtain ⟨hP, hD⟩ := va_join (wc := cDk a cI cC cS G_538) (wr := []) (w1 := cDk a cI cC cS ((f_X5_hearers G_538 x3_538).2)) hP hD [0, 1, 2, 3, 4, 5, 6, 7, 8, 9, 10, 11, 12, 13, 14, 15, 16, 17, 18, 19, 20, 21, 22, 23, 24, 25, 26, 27, 28, 29, 30, 31, 32, 33, 34, 35, 36, 37, 38, 39, 40, 41, 42, 43, 44, 45, 46, 47, 48, 49, 50, 51, 52, 53, 54, 55, 56, 57, 58, 59, 60, 61, 62, 63, 64, 65, 66, 67, 68, 69, 70, 71, 72, 73, 74, 75, 76, 77, 78, 79, 80, 81, 82, 83, 84, 85, 86, 87, 88, 89, 90, 91, 92] [] rfl rfl (by decide) (by decide) hk1 hFc hP1 hD1
                        have hP : va_P (dC, dI) vwCl (cDk a cI cC cS ((f_X5_hearers G_538 x3_538).2)) H35 := hP.sub [0, 1, 2, 3, 4, 5, 6, 7, 8, 9, 10, 11, 12, 13, 14, 15, 16, 17, 18, 19, 20, 21, 22, 23, 24, 25, 26, 27, 28, 29, 30, 31, 32, 33, 34, 35, 36, 37, 38, 39, 40, 41, 42, 43, 44, 45, 46, 47, 48, 49, 50, 51, 52, 53, 54, 55, 56, 57, 58, 59, 60, 61, 62, 63, 64, 65, 66, 67, 68, 69, 70, 71, 72, 73, 74, 75, 76, 77, 78, 79, 80, 81, 82, 83, 84, 85, 86, 87, 88, 89, 90, 91, 92] rfl
                        have hD : va_D (va_A (cDk a cI cC cS G) s.heap.size) (cDk a cI cC cS ((f_X5_hearers G_538 x3_538).2)) := hD.sub [0, 1, 2, 3, 4, 5, 6, 7, 8, 9, 10, 11, 12, 13, 14, 15, 16, 17, 18, 19, 20, 21, 22, 23, 24, 25, 26, 27, 28, 29, 30, 31, 32, 33, 34, 35, 36, 37, 38, 39, 40, 41, 42, 43, 44, 45, 46, 47, 48, 49, 50, 51, 52, 53, 54, 55, 56, 57, 58, 59, 60, 61, 62, 63, 64, 65, 66, 67, 68, 69, 70, 71, 72, 73, 74, 75, 76, 77, 78, 79, 80, 81, 82, 83, 84, 85, 86, 87, 88, 89, 90, 91, 92] (by decide) rfl
                        obtain ⟨Gn37, eGn37⟩ : ∃ z : GR, z = (f_X5_hearers G_538 x3_538).2 := ⟨_, rfl⟩
                        rw [sLet_eq, ← eGn37] at hR
                        rw [← eGn37] at hP hD
                        have hG38 : WFG Gn37 := by rw [eGn37]; exact hens36
                        have hJ_575 : ∀ (x1_575 : Int32) (x2_575 : Int32) (x3_575 : Int32) (s0_575 : Int32) (G_575 : GR), x3_575 = nI j_481 → WFG G_575 → R0 = f_L_isRight_p575 (f_L_isRight_p481 n_481) x1_575 x2_575 x3_575 s0_575 G_575 → ∀ (H : Heap) (locs : List Loc) (ls : Array Slot), va_P (dC, dI) vwCl (cDk a cI cC cS G_575) H → va_D (va_A (cDk a cI cC cS G) s.heap.size) (cDk a cI cC cS G_575) → va_S (va_A (cDk a cI cC cS G) s.heap.size) s.heap H locs → lv_has ls 11 [(0, .ref (a 0)), (1, .int x1_575), (2, .int x2_575), (3, .int x3_575)] → W p l e (headSpec wsL_isRight rm_L_isRight).room s m ([.ref (a 0)] : List Value).toArray below meth c H locs 0 0 (MQ below (va_Qi (fun (r : Int32) (u : GR) => (r, u) = f_L_isRight G ∧ (WFG u) ∧ (r = 0 ∨ r = 1)) (fun u U => va_P (dC, dI) vwCl (cDk a cI cC cS u) U.heap ∧ va_D (va_A (cDk a cI cC cS G) s.heap.size) (cDk a cI cC cS u)) (va_A (cDk a cI cC cS G) s.heap.size)) ([.ref (a 0)] : List Value).toArray s 0 0 (va_A (cDk a cI cC cS G) s.heap.size)) (F0 m 575 ls [.int s0_575]) := by
                          intro x1_575 x2_575 x3_575 s0_575 G_575 ex3_575 hG_575 hR H locs ls hP hD hS hl
                          rw [f_L_isRight_p575] at hR
                          refine lv_aload_n hx hb dL_isRight_575 rfl (lv_at hl 0 rfl) ?_
                          refine lv_iload_n hx hb dL_isRight_576 rfl (lv_at hl 3 rfl) ?_
                          have hPc : va_P (dC, dI) vwCl (cDk a cI cC cS G_575) H := hP.sub [0, 1, 2, 3, 4, 5, 6, 7, 8, 9, 10, 11, 12, 13, 14, 15, 16, 17, 18, 19, 20, 21, 22, 23, 24, 25, 26, 27, 28, 29, 30, 31, 32, 33, 34, 35, 36, 37, 38, 39, 40, 41, 42, 43, 44, 45, 46, 47, 48, 49, 50, 51, 52, 53, 54, 55, 56, 57, 58, 59, 60, 61, 62, 63, 64, 65, 66, 67, 68, 69, 70, 71, 72, 73, 74, 75, 76, 77, 78, 79, 80, 81, 82, 83, 84, 85, 86, 87, 88, 89, 90, 91, 92] rfl
                          have hDc : va_D (va_A (cDk a cI cC cS G) s.heap.size) (cDk a cI cC cS G_575) := hD.sub [0, 1, 2, 3, 4, 5, 6, 7, 8, 9, 10, 11, 12, 13, 14, 15, 16, 17, 18, 19, 20, 21, 22, 23, 24, 25, 26, 27, 28, 29, 30, 31, 32, 33, 34, 35, 36, 37, 38, 39, 40, 41, 42, 43, 44, 45, 46, 47, 48, 49, 50, 51, 52, 53, 54, 55, 56, 57, 58, 59, 60, 61, 62, 63, 64, 65, 66, 67, 68, 69, 70, 71, 72, 73, 74, 75, 76, 77, 78, 79, 80, 81, 82, 83, 84, 85, 86, 87, 88, 89, 90, 91, 92] (by decide) rfl
                          have hFc : ∀ q : Nat, va_A (cDk a cI cC cS G_575) H.size q → (va_A (cDk a cI cC cS G) s.heap.size) q := va_free hD hS hA [0, 1, 2, 3, 4, 5, 6, 7, 8, 9, 10, 11, 12, 13, 14, 15, 16, 17, 18, 19, 20, 21, 22, 23, 24, 25, 26, 27, 28, 29, 30, 31, 32, 33, 34, 35, 36, 37, 38, 39, 40, 41, 42, 43, 44, 45, 46, 47, 48, 49, 50, 51, 52, 53, 54, 55, 56, 57, 58, 59, 60, 61, 62, 63, 64, 65, 66, 67, 68, 69, 70, 71, 72, 73, 74, 75, 76, 77, 78, 79, 80, 81, 82, 83, 84, 85, 86, 87, 88, 89, 90, 91, 92] rfl
                          refine va_calli (va_runV (As := [.int x3_575]) (rest := [.int s0_575]) ⟨hx, hb, hml, hown, hts⟩ (c_X5_cut l dC dI cI cC cS a G_575 H.size x3_575 hG_575) (cwV 1 hts gL_isRight_X5_cut rfl rfl rfl (by decide +kernel) ⟨Nat.le_of_ble_eq_true rfl, Nat.le_of_ble_eq_true rfl⟩) (pV (q0 := 0) hK hPc hDc hN rfl rfl) rfl rfl hl.1 rfl (lv_room (Nat.le_of_ble_eq_true rfl)) dL_isRight_577 ⟨Nat.le_of_ble_eq_true rfl, Nat.le_of_ble_eq_true rfl⟩) hS (fun q _ h => hFc q h) hFc (fun r_39 u_39 t_39 H40 locs ht hvm hw hB hz1 hk1 hS => ?_)
                          obtain ⟨hw, hens41⟩ := hw
                          obtain ⟨hP1, hD1⟩ := hB
                          rw [ht] at hP1
                          have hw1 : r_39 = (f_X5_cut G_575 x3_575).1 := congrArg Prod.fst hw
                          have hw2 : u_39 = (f_X5_cut G_575 x3_575).2 := congrArg Prod.snd hw
                          clear hw
                          subst hw1
                          subst hw2
                          obtain ⟨hP, hD⟩ := va_join (wc := cDk a cI cC cS G_575) (wr := []) (w1 := cDk a cI cC cS ((f_X5_cut G_575 x3_575).2)) hP hD [0, 1, 2, 3, 4, 5, 6, 7, 8, 9, 10, 11, 12, 13, 14, 15, 16, 17, 18, 19, 20, 21, 22, 23, 24, 25, 26, 27, 28, 29, 30, 31, 32, 33, 34, 35, 36, 37, 38, 39, 40, 41, 42, 43, 44, 45, 46, 47, 48, 49, 50, 51, 52, 53, 54, 55, 56, 57, 58, 59, 60, 61, 62, 63, 64, 65, 66, 67, 68, 69, 70, 71, 72, 73, 74, 75, 76, 77, 78, 79, 80, 81, 82, 83, 84, 85, 86, 87, 88, 89, 90, 91, 92] [] rfl rfl (by decide) (by decide) hk1 hFc hP1 hD1
                          have hP : va_P (dC, dI) vwCl (cDk a cI cC cS ((f_X5_cut G_575 x3_575).2)) H40 := hP.sub [0, 1, 2, 3, 4, 5, 6, 7, 8, 9, 10, 11, 12, 13, 14, 15, 16, 17, 18, 19, 20, 21, 22, 23, 24, 25, 26, 27, 28, 29, 30, 31, 32, 33, 34, 35, 36, 37, 38, 39, 40, 41, 42, 43, 44, 45, 46, 47, 48, 49, 50, 51, 52, 53, 54, 55, 56, 57, 58, 59, 60, 61, 62, 63, 64, 65, 66, 67, 68, 69, 70, 71, 72, 73, 74, 75, 76, 77, 78, 79, 80, 81, 82, 83, 84, 85, 86, 87, 88, 89, 90, 91, 92] rfl
                          have hD : va_D (va_A (cDk a cI cC cS G) s.heap.size) (cDk a cI cC cS ((f_X5_cut G_575 x3_575).2)) := hD.sub [0, 1, 2, 3, 4, 5, 6, 7, 8, 9, 10, 11, 12, 13, 14, 15, 16, 17, 18, 19, 20, 21, 22, 23, 24, 25, 26, 27, 28, 29, 30, 31, 32, 33, 34, 35, 36, 37, 38, 39, 40, 41, 42, 43, 44, 45, 46, 47, 48, 49, 50, 51, 52, 53, 54, 55, 56, 57, 58, 59, 60, 61, 62, 63, 64, 65, 66, 67, 68, 69, 70, 71, 72, 73, 74, 75, 76, 77, 78, 79, 80, 81, 82, 83, 84, 85, 86, 87, 88, 89, 90, 91, 92] (by decide) rfl
                          obtain ⟨Gn42, eGn42⟩ : ∃ z : GR, z = (f_X5_cut G_575 x3_575).2 := ⟨_, rfl⟩
                          rw [sLet_eq, ← eGn42] at hR
                          rw [← eGn42] at hP hD
                          have hG43 : WFG Gn42 := by rw [eGn42]; exact hens41
                          refine lv_bipush (v := (-2)) hx hb dL_isRight_580 (by decide) ?_
                          have hJ_590 : ∀ (x1_590 : Int32) (x2_590 : Int32) (x3_590 : Int32) (s0_590 : Int32) (s1_590 : Int32) (G_590 : GR), x3_590 = nI j_481 → WFG G_590 → R0 = f_L_isRight_p590 (f_L_isRight_p481 n_481) x1_590 x2_590 x3_590 s0_590 s1_590 G_590 → ∀ (H : Heap) (locs : List Loc) (ls : Array Slot), va_P (dC, dI) vwCl (cDk a cI cC cS G_590) H → va_D (va_A (cDk a cI cC cS G) s.heap.size) (cDk a cI cC cS G_590) → va_S (va_A (cDk a cI cC cS G) s.heap.size) s.heap H locs → lv_has ls 11 [(0, .ref (a 0)), (1, .int x1_590), (2, .int x2_590), (3, .int x3_590)] → W p l e (headSpec wsL_isRight rm_L_isRight).room s m ([.ref (a 0)] : List Value).toArray below meth c H locs 0 0 (MQ below (va_Qi (fun (r : Int32) (u : GR) => (r, u) = f_L_isRight G ∧ (WFG u) ∧ (r = 0 ∨ r = 1)) (fun u U => va_P (dC, dI) vwCl (cDk a cI cC cS u) U.heap ∧ va_D (va_A (cDk a cI cC cS G) s.heap.size) (cDk a cI cC cS u)) (va_A (cDk a cI cC cS G) s.heap.size)) ([.ref (a 0)] : List Value).toArray s 0 0 (va_A (cDk a cI cC cS G) s.heap.size)) (F0 m 590 ls [.int s0_590, .int s1_590]) := by
                            intro x1_590 x2_590 x3_590 s0_590 s1_590 G_590 ex3_590 hG_590 hR H locs ls hP hD hS hl
                            rw [f_L_isRight_p590] at hR
                            refine lv_icmp_ne (tgt := 608) hx hb dL_isRight_590 (by decide) (fun c44 => ?_) (fun c44 => ?_)
                            · rw [if_neg c44] at hR
                              refine lv_iconst (v := 0) hx hb dL_isRight_608 (by decide) ?_
                              exact W.zret (v := 0) hx hb hr rfl (fun t ht hWw => ⟨⟨0, G_590, rfl, ⟨hR.symm.trans eR, hG_590, (Or.inl rfl)⟩, by rw [ht]; exact hP, hD⟩, hS.F ht⟩) hS.2.2 dL_isRight_609
                            · rw [if_pos c44] at hR
                              refine lv_aload_n hx hb dL_isRight_593 rfl (lv_at hl 0 rfl) ?_
                              refine lv_iload_n hx hb dL_isRight_594 rfl (lv_at hl 3 rfl) ?_
                              refine lv_iconst (v := 0) hx hb dL_isRight_595 (by decide) ?_
                              have hPc : va_P (dC, dI) vwCl (cDk a cI cC cS G_590) H := hP.sub [0, 1, 2, 3, 4, 5, 6, 7, 8, 9, 10, 11, 12, 13, 14, 15, 16, 17, 18, 19, 20, 21, 22, 23, 24, 25, 26, 27, 28, 29, 30, 31, 32, 33, 34, 35, 36, 37, 38, 39, 40, 41, 42, 43, 44, 45, 46, 47, 48, 49, 50, 51, 52, 53, 54, 55, 56, 57, 58, 59, 60, 61, 62, 63, 64, 65, 66, 67, 68, 69, 70, 71, 72, 73, 74, 75, 76, 77, 78, 79, 80, 81, 82, 83, 84, 85, 86, 87, 88, 89, 90, 91, 92] rfl
                              have hDc : va_D (va_A (cDk a cI cC cS G) s.heap.size) (cDk a cI cC cS G_590) := hD.sub [0, 1, 2, 3, 4, 5, 6, 7, 8, 9, 10, 11, 12, 13, 14, 15, 16, 17, 18, 19, 20, 21, 22, 23, 24, 25, 26, 27, 28, 29, 30, 31, 32, 33, 34, 35, 36, 37, 38, 39, 40, 41, 42, 43, 44, 45, 46, 47, 48, 49, 50, 51, 52, 53, 54, 55, 56, 57, 58, 59, 60, 61, 62, 63, 64, 65, 66, 67, 68, 69, 70, 71, 72, 73, 74, 75, 76, 77, 78, 79, 80, 81, 82, 83, 84, 85, 86, 87, 88, 89, 90, 91, 92] (by decide) rfl
                              have hFc : ∀ q : Nat, va_A (cDk a cI cC cS G_590) H.size q → (va_A (cDk a cI cC cS G) s.heap.size) q := va_free hD hS hA [0, 1, 2, 3, 4, 5, 6, 7, 8, 9, 10, 11, 12, 13, 14, 15, 16, 17, 18, 19, 20, 21, 22, 23, 24, 25, 26, 27, 28, 29, 30, 31, 32, 33, 34, 35, 36, 37, 38, 39, 40, 41, 42, 43, 44, 45, 46, 47, 48, 49, 50, 51, 52, 53, 54, 55, 56, 57, 58, 59, 60, 61, 62, 63, 64, 65, 66, 67, 68, 69, 70, 71, 72, 73, 74, 75, 76, 77, 78, 79, 80, 81, 82, 83, 84, 85, 86, 87, 88, 89, 90, 91, 92] rfl
                              refine va_calli (va_runV (As := [.int x3_590, .int 0]) (rest := []) ⟨hx, hb, hml, hown, hts⟩ (c_X5_outputIn l dC dI cI cC cS a G_590 H.size x3_590 0 hG_590) (cwV 2 hts gL_isRight_X5_outputIn rfl rfl rfl (by decide +kernel) ⟨Nat.le_of_ble_eq_true rfl, Nat.le_of_ble_eq_true rfl⟩) (pV (q0 := 0) hK hPc hDc hN rfl rfl) rfl rfl hl.1 rfl (lv_room (Nat.le_of_ble_eq_true rfl)) dL_isRight_596 ⟨Nat.le_of_ble_eq_true rfl, Nat.le_of_ble_eq_true rfl⟩) hS (fun q _ h => hFc q h) hFc (fun r_45 u_45 t_45 H46 locs ht hvm hw hB hz1 hk1 hS => ?_)
                              obtain ⟨hw, hens47⟩ := hw
                              obtain ⟨hP1, hD1⟩ := hB
                              rw [ht] at hP1
                              have hw1 : r_45 = (f_X5_outputIn G_590 x3_590 0).1 := congrArg Prod.fst hw
                              have hw2 : u_45 = (f_X5_outputIn G_590 x3_590 0).2 := congrArg Prod.snd hw
                              clear hw
                              subst hw1
                              subst hw2
                              obtain ⟨hP, hD⟩ := va_join (wc := cDk a cI cC cS G_590) (wr := []) (w1 := cDk a cI cC cS ((f_X5_outputIn G_590 x3_590 0).2)) hP hD [0, 1, 2, 3, 4, 5, 6, 7, 8, 9, 10, 11, 12, 13, 14, 15, 16, 17, 18, 19, 20, 21, 22, 23, 24, 25, 26, 27, 28, 29, 30, 31, 32, 33, 34, 35, 36, 37, 38, 39, 40, 41, 42, 43, 44, 45, 46, 47, 48, 49, 50, 51, 52, 53, 54, 55, 56, 57, 58, 59, 60, 61, 62, 63, 64, 65, 66, 67, 68, 69, 70, 71, 72, 73, 74, 75, 76, 77, 78, 79, 80, 81, 82, 83, 84, 85, 86, 87, 88, 89, 90, 91, 92] [] rfl rfl (by decide) (by decide) hk1 hFc hP1 hD1
                              have hP : va_P (dC, dI) vwCl (cDk a cI cC cS ((f_X5_outputIn G_590 x3_590 0).2)) H46 := hP.sub [0, 1, 2, 3, 4, 5, 6, 7, 8, 9, 10, 11, 12, 13, 14, 15, 16, 17, 18, 19, 20, 21, 22, 23, 24, 25, 26, 27, 28, 29, 30, 31, 32, 33, 34, 35, 36, 37, 38, 39, 40, 41, 42, 43, 44, 45, 46, 47, 48, 49, 50, 51, 52, 53, 54, 55, 56, 57, 58, 59, 60, 61, 62, 63, 64, 65, 66, 67, 68, 69, 70, 71, 72, 73, 74, 75, 76, 77, 78, 79, 80, 81, 82, 83, 84, 85, 86, 87, 88, 89, 90, 91, 92] rfl
                              have hD : va_D (va_A (cDk a cI cC cS G) s.heap.size) (cDk a cI cC cS ((f_X5_outputIn G_590 x3_590 0).2)) := hD.sub [0, 1, 2, 3, 4, 5, 6, 7, 8, 9, 10, 11, 12, 13, 14, 15, 16, 17, 18, 19, 20, 21, 22, 23, 24, 25, 26, 27, 28, 29, 30, 31, 32, 33, 34, 35, 36, 37, 38, 39, 40, 41, 42, 43, 44, 45, 46, 47, 48, 49, 50, 51, 52, 53, 54, 55, 56, 57, 58, 59, 60, 61, 62, 63, 64, 65, 66, 67, 68, 69, 70, 71, 72, 73, 74, 75, 76, 77, 78, 79, 80, 81, 82, 83, 84, 85, 86, 87, 88, 89, 90, 91, 92] (by decide) rfl
                              obtain ⟨Gn48, eGn48⟩ : ∃ z : GR, z = (f_X5_outputIn G_590 x3_590 0).2 := ⟨_, rfl⟩
                              rw [sLet_eq, ← eGn48] at hR
                              rw [← eGn48] at hP hD
                              have hG49 : WFG Gn48 := by rw [eGn48]; exact hens47
                              refine lv_aload_n hx hb dL_isRight_599 rfl (lv_at hl 0 rfl) ?_
                              refine lv_iload_n hx hb dL_isRight_600 rfl (lv_at hl 3 rfl) ?_
                              refine lv_iconst (v := 2) hx hb dL_isRight_601 (by decide) ?_
                              have hPc : va_P (dC, dI) vwCl (cDk a cI cC cS Gn48) H46 := hP.sub [0, 1, 2, 3, 4, 5, 6, 7, 8, 9, 10, 11, 12, 13, 14, 15, 16, 17, 18, 19, 20, 21, 22, 23, 24, 25, 26, 27, 28, 29, 30, 31, 32, 33, 34, 35, 36, 37, 38, 39, 40, 41, 42, 43, 44, 45, 46, 47, 48, 49, 50, 51, 52, 53, 54, 55, 56, 57, 58, 59, 60, 61, 62, 63, 64, 65, 66, 67, 68, 69, 70, 71, 72, 73, 74, 75, 76, 77, 78, 79, 80, 81, 82, 83, 84, 85, 86, 87, 88, 89, 90, 91, 92] rfl
                              have hDc : va_D (va_A (cDk a cI cC cS G) s.heap.size) (cDk a cI cC cS Gn48) := hD.sub [0, 1, 2, 3, 4, 5, 6, 7, 8, 9, 10, 11, 12, 13, 14, 15, 16, 17, 18, 19, 20, 21, 22, 23, 24, 25, 26, 27, 28, 29, 30, 31, 32, 33, 34, 35, 36, 37, 38, 39, 40, 41, 42, 43, 44, 45, 46, 47, 48, 49, 50, 51, 52, 53, 54, 55, 56, 57, 58, 59, 60, 61, 62, 63, 64, 65, 66, 67, 68, 69, 70, 71, 72, 73, 74, 75, 76, 77, 78, 79, 80, 81, 82, 83, 84, 85, 86, 87, 88, 89, 90, 91, 92] (by decide) rfl
                              have hFc : ∀ q : Nat, va_A [] H46.size q → (va_A (cDk a cI cC cS G) s.heap.size) q := roF hS hA
                              refine va_calli (va_runV (As := [.int x3_590, .int 2]) (rest := [.int ((f_X5_outputIn G_590 x3_590 0).1)]) ⟨hx, hb, hml, hown, hts⟩ (c_X5_feed l dC dI cI cC cS a Gn48 H46.size x3_590 2 hG49) (cwV 2 hts gL_isRight_X5_feed rfl rfl rfl (by decide +kernel) ⟨Nat.le_of_ble_eq_true rfl, Nat.le_of_ble_eq_true rfl⟩) (pV (q0 := 0) hK hPc hDc hN rfl rfl) rfl rfl hl.1 rfl (lv_room (Nat.le_of_ble_eq_true rfl)) dL_isRight_602 ⟨Nat.le_of_ble_eq_true rfl, Nat.le_of_ble_eq_true rfl⟩) hS (fun q _ h => hFc q h) hFc (fun r_50 u_50 t_50 H51 locs ht hvm hw hB hz1 hk1 hS => ?_)
                              subst hw
                              have hP := ro_keep hP hk1
                              refine lv_icmp_eq (tgt := 610) hx hb dL_isRight_605 (by decide) (fun c52 => ?_) (fun c52 => ?_)
                              · rw [if_pos c52] at hR
                                refine lv_iinc (v := x3_590 + 1) (lv' := [(3, .int (x3_590 + 1)), (0, .ref (a 0)), (1, .int x1_590), (2, .int x2_590)]) hx hb dL_isRight_610 hl (k := 3) rfl rfl (by decide) rfl (fun ls hl => ?_)
                                refine lv_goto (tgt := 481) hx hb dL_isRight_613 (by decide) ?_
                                exact ih_481 (j_481 + 1) x1_590 x2_590 (x3_590 + 1) Gn48 (by rw [ex3_590, nI_1]) (by omega) (by omega) hG49 hR _ _ _ hP hD hS (lv_sub hl [1, 2, 3, 0] rfl)
                              · rw [if_neg c52] at hR
                                refine lv_iconst (v := 0) hx hb dL_isRight_608 (by decide) ?_
                                exact W.zret (v := 0) hx hb hr rfl (fun t ht hWw => ⟨⟨0, Gn48, rfl, ⟨hR.symm.trans eR, hG49, (Or.inl rfl)⟩, by rw [ht]; exact hP, hD⟩, hS.F ht⟩) hS.2.2 dL_isRight_609
                          refine lv_icmp_ne (tgt := 589) hx hb dL_isRight_582 (by decide) (fun c53 => ?_) (fun c53 => ?_)
                          · rw [if_neg c53] at hR
                            refine lv_iconst (v := 0) hx hb dL_isRight_589 (by decide) ?_
                            exact hJ_590 x1_575 x2_575 x3_575 0 s0_575 Gn42 ex3_575 hG43 hR _ _ _ hP hD hS (lv_sub hl [0, 1, 2, 3] rfl)
                          · rw [if_pos c53] at hR
                            refine lv_iconst (v := 1) hx hb dL_isRight_585 (by decide) ?_
                            refine lv_goto (tgt := 590) hx hb dL_isRight_586 (by decide) ?_
                            exact hJ_590 x1_575 x2_575 x3_575 1 s0_575 Gn42 ex3_575 hG43 hR _ _ _ hP hD hS (lv_sub hl [0, 1, 2, 3] rfl)
                        refine lv_if_ne (tgt := 574) hx hb dL_isRight_567 (by decide) (fun c54 => ?_) (fun c54 => ?_)
                        · rw [if_neg c54] at hR
                          refine lv_iconst (v := 0) hx hb dL_isRight_574 (by decide) ?_
                          exact hJ_575 x1_538 x2_538 x3_538 0 Gn37 ex3_538 hG38 hR _ _ _ hP hD hS (lv_sub hl [0, 1, 2, 3] rfl)
                        · rw [if_pos c54] at hR
                          refine lv_iconst (v := 1) hx hb dL_isRight_570 (by decide) ?_
                          refine lv_goto (tgt := 575) hx hb dL_isRight_571 (by decide) ?_
                          exact hJ_575 x1_538 x2_538 x3_538 1 Gn37 ex3_538 hG38 hR _ _ _ hP hD hS (lv_sub hl [0, 1, 2, 3] rfl)
                have hJ_537 : ∀ (x1_537 : Int32) (x2_537 : Int32) (x3_537 : Int32) (s0_537 : Int32) (G_537 : GR), x3_537 = nI j_481 → WFG G_537 → R0 = f_L_isRight_p537 (f_L_isRight_p481 n_481) x1_537 x2_537 x3_537 s0_537 G_537 → ∀ (H : Heap) (locs : List Loc) (ls : Array Slot), va_P (dC, dI) vwCl (cDk a cI cC cS G_537) H → va_D (va_A (cDk a cI cC cS G) s.heap.size) (cDk a cI cC cS G_537) → va_S (va_A (cDk a cI cC cS G) s.heap.size) s.heap H locs → lv_has ls 11 [(0, .ref (a 0)), (1, .int x1_537), (2, .int x2_537), (3, .int x3_537)] → W p l e (headSpec wsL_isRight rm_L_isRight).room s m ([.ref (a 0)] : List Value).toArray below meth c H locs 0 0 (MQ below (va_Qi (fun (r : Int32) (u : GR) => (r, u) = f_L_isRight G ∧ (WFG u) ∧ (r = 0 ∨ r = 1)) (fun u U => va_P (dC, dI) vwCl (cDk a cI cC cS u) U.heap ∧ va_D (va_A (cDk a cI cC cS G) s.heap.size) (cDk a cI cC cS u)) (va_A (cDk a cI cC cS G) s.heap.size)) ([.ref (a 0)] : List Value).toArray s 0 0 (va_A (cDk a cI cC cS G) s.heap.size)) (F0 m 537 ls [.int s0_537]) := by
                  intro x1_537 x2_537 x3_537 s0_537 G_537 ex3_537 hG_537 hR H locs ls hP hD hS hl
                  rw [f_L_isRight_p537] at hR
                  refine lv_iconst (v := 0) hx hb dL_isRight_537 (by decide) ?_
                  exact hJ_538 x1_537 x2_537 x3_537 0 s0_537 G_537 ex3_537 hG_537 hR _ _ _ hP hD hS (lv_sub hl [0, 1, 2, 3] rfl)
                refine lv_if_lt (tgt := 537) hx hb dL_isRight_510 (by decide) (fun c55 => ?_) (fun c55 => ?_)
                · rw [if_pos c55] at hR
                  exact hJ_537 x1_508 x2_508 x3_508 s0_508 G_508 ex3_508 hG_508 hR _ _ _ hP hD hS (lv_sub hl [0, 1, 2, 3] rfl)
                · rw [if_neg c55] at hR
                  refine lv_aload_n hx hb dL_isRight_513 rfl (lv_at hl 0 rfl) ?_
                  refine lv_iload hx hb dL_isRight_514 (lv_at hl 4 rfl) ?_
                  have hJ_525 : ∀ (x1_525 : Int32) (x2_525 : Int32) (x3_525 : Int32) (s0_525 : Int32) (s1_525 : Int32) (G_525 : GR), x3_525 = nI j_481 → WFG G_525 → R0 = f_L_isRight_p525 (f_L_isRight_p481 n_481) x1_525 x2_525 x3_525 s0_525 s1_525 G_525 → ∀ (H : Heap) (locs : List Loc) (ls : Array Slot), va_P (dC, dI) vwCl (cDk a cI cC cS G_525) H → va_D (va_A (cDk a cI cC cS G) s.heap.size) (cDk a cI cC cS G_525) → va_S (va_A (cDk a cI cC cS G) s.heap.size) s.heap H locs → lv_has ls 11 [(0, .ref (a 0)), (1, .int x1_525), (2, .int x2_525), (3, .int x3_525)] → W p l e (headSpec wsL_isRight rm_L_isRight).room s m ([.ref (a 0)] : List Value).toArray below meth c H locs 0 0 (MQ below (va_Qi (fun (r : Int32) (u : GR) => (r, u) = f_L_isRight G ∧ (WFG u) ∧ (r = 0 ∨ r = 1)) (fun u U => va_P (dC, dI) vwCl (cDk a cI cC cS u) U.heap ∧ va_D (va_A (cDk a cI cC cS G) s.heap.size) (cDk a cI cC cS u)) (va_A (cDk a cI cC cS G) s.heap.size)) ([.ref (a 0)] : List Value).toArray s 0 0 (va_A (cDk a cI cC cS G) s.heap.size)) (F0 m 525 ls [.int s0_525, .ref (a 0), .int s1_525]) := by
                    intro x1_525 x2_525 x3_525 s0_525 s1_525 G_525 ex3_525 hG_525 hR H locs ls hP hD hS hl
                    rw [f_L_isRight_p525] at hR
                    refine lv_iload_n hx hb dL_isRight_525 rfl (lv_at hl 3 rfl) ?_
                    refine lv_iconst (v := (-1)) hx hb dL_isRight_526 (by decide) ?_
                    have hPc : va_P (dC, dI) vwCl (cDk a cI cC cS G_525) H := hP.sub [0, 1, 2, 3, 4, 5, 6, 7, 8, 9, 10, 11, 12, 13, 14, 15, 16, 17, 18, 19, 20, 21, 22, 23, 24, 25, 26, 27, 28, 29, 30, 31, 32, 33, 34, 35, 36, 37, 38, 39, 40, 41, 42, 43, 44, 45, 46, 47, 48, 49, 50, 51, 52, 53, 54, 55, 56, 57, 58, 59, 60, 61, 62, 63, 64, 65, 66, 67, 68, 69, 70, 71, 72, 73, 74, 75, 76, 77, 78, 79, 80, 81, 82, 83, 84, 85, 86, 87, 88, 89, 90, 91, 92] rfl
                    have hDc : va_D (va_A (cDk a cI cC cS G) s.heap.size) (cDk a cI cC cS G_525) := hD.sub [0, 1, 2, 3, 4, 5, 6, 7, 8, 9, 10, 11, 12, 13, 14, 15, 16, 17, 18, 19, 20, 21, 22, 23, 24, 25, 26, 27, 28, 29, 30, 31, 32, 33, 34, 35, 36, 37, 38, 39, 40, 41, 42, 43, 44, 45, 46, 47, 48, 49, 50, 51, 52, 53, 54, 55, 56, 57, 58, 59, 60, 61, 62, 63, 64, 65, 66, 67, 68, 69, 70, 71, 72, 73, 74, 75, 76, 77, 78, 79, 80, 81, 82, 83, 84, 85, 86, 87, 88, 89, 90, 91, 92] (by decide) rfl
                    have hFc : ∀ q : Nat, va_A (cDk a cI cC cS G_525) H.size q → (va_A (cDk a cI cC cS G) s.heap.size) q := va_free hD hS hA [0, 1, 2, 3, 4, 5, 6, 7, 8, 9, 10, 11, 12, 13, 14, 15, 16, 17, 18, 19, 20, 21, 22, 23, 24, 25, 26, 27, 28, 29, 30, 31, 32, 33, 34, 35, 36, 37, 38, 39, 40, 41, 42, 43, 44, 45, 46, 47, 48, 49, 50, 51, 52, 53, 54, 55, 56, 57, 58, 59, 60, 61, 62, 63, 64, 65, 66, 67, 68, 69, 70, 71, 72, 73, 74, 75, 76, 77, 78, 79, 80, 81, 82, 83, 84, 85, 86, 87, 88, 89, 90, 91, 92] rfl
                    refine va_calli (va_runV (As := [.int s0_525, .int x3_525, .int (-1)]) (rest := [.int s1_525]) ⟨hx, hb, hml, hown, hts⟩ (c_X5_path l dC dI cI cC cS a G_525 H.size s0_525 x3_525 (-1) hG_525) (cwV 3 hts gL_isRight_X5_path rfl rfl rfl (by decide +kernel) ⟨Nat.le_of_ble_eq_true rfl, Nat.le_of_ble_eq_true rfl⟩) (pV (q0 := 0) hK hPc hDc hN rfl rfl) rfl rfl hl.1 rfl (lv_room (Nat.le_of_ble_eq_true rfl)) dL_isRight_527 ⟨Nat.le_of_ble_eq_true rfl, Nat.le_of_ble_eq_true rfl⟩) hS (fun q _ h => hFc q h) hFc (fun r_56 u_56 t_56 H57 locs ht hvm hw hB hz1 hk1 hS => ?_)
                    obtain ⟨hw, hens58⟩ := hw
                    obtain ⟨hP1, hD1⟩ := hB
                    rw [ht] at hP1
                    have hw1 : r_56 = (f_X5_path G_525 s0_525 x3_525 (-1)).1 := congrArg Prod.fst hw
                    have hw2 : u_56 = (f_X5_path G_525 s0_525 x3_525 (-1)).2 := congrArg Prod.snd hw
                    clear hw
                    subst hw1
                    subst hw2
                    obtain ⟨hP, hD⟩ := va_join (wc := cDk a cI cC cS G_525) (wr := []) (w1 := cDk a cI cC cS ((f_X5_path G_525 s0_525 x3_525 (-1)).2)) hP hD [0, 1, 2, 3, 4, 5, 6, 7, 8, 9, 10, 11, 12, 13, 14, 15, 16, 17, 18, 19, 20, 21, 22, 23, 24, 25, 26, 27, 28, 29, 30, 31, 32, 33, 34, 35, 36, 37, 38, 39, 40, 41, 42, 43, 44, 45, 46, 47, 48, 49, 50, 51, 52, 53, 54, 55, 56, 57, 58, 59, 60, 61, 62, 63, 64, 65, 66, 67, 68, 69, 70, 71, 72, 73, 74, 75, 76, 77, 78, 79, 80, 81, 82, 83, 84, 85, 86, 87, 88, 89, 90, 91, 92] [] rfl rfl (by decide) (by decide) hk1 hFc hP1 hD1
                    have hP : va_P (dC, dI) vwCl (cDk a cI cC cS ((f_X5_path G_525 s0_525 x3_525 (-1)).2)) H57 := hP.sub [0, 1, 2, 3, 4, 5, 6, 7, 8, 9, 10, 11, 12, 13, 14, 15, 16, 17, 18, 19, 20, 21, 22, 23, 24, 25, 26, 27, 28, 29, 30, 31, 32, 33, 34, 35, 36, 37, 38, 39, 40, 41, 42, 43, 44, 45, 46, 47, 48, 49, 50, 51, 52, 53, 54, 55, 56, 57, 58, 59, 60, 61, 62, 63, 64, 65, 66, 67, 68, 69, 70, 71, 72, 73, 74, 75, 76, 77, 78, 79, 80, 81, 82, 83, 84, 85, 86, 87, 88, 89, 90, 91, 92] rfl
                    have hD : va_D (va_A (cDk a cI cC cS G) s.heap.size) (cDk a cI cC cS ((f_X5_path G_525 s0_525 x3_525 (-1)).2)) := hD.sub [0, 1, 2, 3, 4, 5, 6, 7, 8, 9, 10, 11, 12, 13, 14, 15, 16, 17, 18, 19, 20, 21, 22, 23, 24, 25, 26, 27, 28, 29, 30, 31, 32, 33, 34, 35, 36, 37, 38, 39, 40, 41, 42, 43, 44, 45, 46, 47, 48, 49, 50, 51, 52, 53, 54, 55, 56, 57, 58, 59, 60, 61, 62, 63, 64, 65, 66, 67, 68, 69, 70, 71, 72, 73, 74, 75, 76, 77, 78, 79, 80, 81, 82, 83, 84, 85, 86, 87, 88, 89, 90, 91, 92] (by decide) rfl
                    obtain ⟨Gn59, eGn59⟩ : ∃ z : GR, z = (f_X5_path G_525 s0_525 x3_525 (-1)).2 := ⟨_, rfl⟩
                    rw [sLet_eq, ← eGn59] at hR
                    rw [← eGn59] at hP hD
                    have hG60 : WFG Gn59 := by rw [eGn59]; exact hens58
                    refine lv_if_le (tgt := 537) hx hb dL_isRight_530 (by decide) (fun c61 => ?_) (fun c61 => ?_)
                    · rw [if_pos c61] at hR
                      exact hJ_537 x1_525 x2_525 x3_525 s1_525 Gn59 ex3_525 hG60 hR _ _ _ hP hD hS (lv_sub hl [0, 1, 2, 3] rfl)
                    · rw [if_neg c61] at hR
                      refine lv_iconst (v := 1) hx hb dL_isRight_533 (by decide) ?_
                      refine lv_goto (tgt := 538) hx hb dL_isRight_534 (by decide) ?_
                      exact hJ_538 x1_525 x2_525 x3_525 1 s1_525 Gn59 ex3_525 hG60 hR _ _ _ hP hD hS (lv_sub hl [0, 1, 2, 3] rfl)
                  refine lv_if_ge (tgt := 523) hx hb dL_isRight_516 (by decide) (fun c62 => ?_) (fun c62 => ?_)
                  · rw [if_pos c62] at hR
                    refine lv_iload hx hb dL_isRight_523 (lv_at hl 4 rfl) ?_
                    exact hJ_525 x1_508 x2_508 x3_508 x4_508 s0_508 G_508 ex3_508 hG_508 hR _ _ _ hP hD hS (lv_sub hl [0, 1, 2, 3] rfl)
                  · rw [if_neg c62] at hR
                    refine lv_iconst (v := 0) hx hb dL_isRight_519 (by decide) ?_
                    refine lv_goto (tgt := 525) hx hb dL_isRight_520 (by decide) ?_
                    exact hJ_525 x1_508 x2_508 x3_508 0 s0_508 G_508 ex3_508 hG_508 hR _ _ _ hP hD hS (lv_sub hl [0, 1, 2, 3] rfl)
              refine lv_icmp_ne (tgt := 507) hx hb dL_isRight_500 (by decide) (fun c63 => ?_) (fun c63 => ?_)
              · rw [if_neg c63] at hR
                refine lv_iconst (v := 0) hx hb dL_isRight_507 (by decide) ?_
                exact hJ_508 x1_481 x2_481 x3_481 (f_X5_feed G_481 x3_481 1) 0 G_481 ex3_481 hG_481 hR _ _ _ hP hD hS (lv_sub hl [1, 2, 3, 4, 0] rfl)
              · rw [if_pos c63] at hR
                refine lv_iconst (v := 1) hx hb dL_isRight_503 (by decide) ?_
                refine lv_goto (tgt := 508) hx hb dL_isRight_504 (by decide) ?_
                exact hJ_508 x1_481 x2_481 x3_481 (f_X5_feed G_481 x3_481 1) 1 G_481 ex3_481 hG_481 hR _ _ _ hP hD hS (lv_sub hl [1, 2, 3, 4, 0] rfl)
        exact hL_481 5 0 x1_4 ((f_X5_loops G_4).1) 0 Gn5 (by decide +kernel) (by decide) (by decide) hG6 hR _ _ _ hP hD hS (lv_sub hl [2, 3, 1, 0] rfl)
      · rw [if_neg c1] at hR
        have hj_4 : j_4 < 12 := lp_ge ex2_4 (by decide +kernel) (by omega) (by omega) c1
        refine lv_aload_n hx hb dL_isRight_10 rfl (lv_at hl 0 rfl) ?_
        refine lv_iload_n hx hb dL_isRight_11 rfl (lv_at hl 2 rfl) ?_
        refine lv_iconst (v := 5) hx hb dL_isRight_12 (by decide) ?_
        have hPc : va_P (dC, dI) vwCl (cDk a cI cC cS G_4) H := hP.sub [0, 1, 2, 3, 4, 5, 6, 7, 8, 9, 10, 11, 12, 13, 14, 15, 16, 17, 18, 19, 20, 21, 22, 23, 24, 25, 26, 27, 28, 29, 30, 31, 32, 33, 34, 35, 36, 37, 38, 39, 40, 41, 42, 43, 44, 45, 46, 47, 48, 49, 50, 51, 52, 53, 54, 55, 56, 57, 58, 59, 60, 61, 62, 63, 64, 65, 66, 67, 68, 69, 70, 71, 72, 73, 74, 75, 76, 77, 78, 79, 80, 81, 82, 83, 84, 85, 86, 87, 88, 89, 90, 91, 92] rfl
        have hDc : va_D (va_A (cDk a cI cC cS G) s.heap.size) (cDk a cI cC cS G_4) := hD.sub [0, 1, 2, 3, 4, 5, 6, 7, 8, 9, 10, 11, 12, 13, 14, 15, 16, 17, 18, 19, 20, 21, 22, 23, 24, 25, 26, 27, 28, 29, 30, 31, 32, 33, 34, 35, 36, 37, 38, 39, 40, 41, 42, 43, 44, 45, 46, 47, 48, 49, 50, 51, 52, 53, 54, 55, 56, 57, 58, 59, 60, 61, 62, 63, 64, 65, 66, 67, 68, 69, 70, 71, 72, 73, 74, 75, 76, 77, 78, 79, 80, 81, 82, 83, 84, 85, 86, 87, 88, 89, 90, 91, 92] (by decide) rfl
        have hFc : ∀ q : Nat, va_A [] H.size q → (va_A (cDk a cI cC cS G) s.heap.size) q := roF hS hA
        refine va_calli (va_runV (As := [.int x2_4, .int 5]) (rest := []) ⟨hx, hb, hml, hown, hts⟩ (c_X5_channel l dC dI cI cC cS a G_4 H.size x2_4 5 hG_4) (cwV 2 hts gL_isRight_X5_channel rfl rfl rfl (by decide +kernel) ⟨Nat.le_of_ble_eq_true rfl, Nat.le_of_ble_eq_true rfl⟩) (pVS (q0 := 0) hK hPc hDc hN hT hS hFc rfl rfl) rfl rfl hl.1 rfl (lv_room (Nat.le_of_ble_eq_true rfl)) dL_isRight_13 ⟨Nat.le_of_ble_eq_true rfl, Nat.le_of_ble_eq_true rfl⟩) hS (fun q _ h => hFc q h) hFc (fun r_64 u_64 t_64 H65 locs ht hvm hw hB hz1 hk1 hS => ?_)
        subst hw
        have hP := ro_keep hP hk1
        refine lv_istore_n (lv' := [(3, .int (f_X5_channel G_4 x2_4 5)), (0, .ref (a 0)), (1, .int x1_4), (2, .int x2_4)]) hx hb dL_isRight_16 rfl hl (by decide) rfl (fun ls hl => ?_)
        refine lv_aload_n hx hb dL_isRight_17 rfl (lv_at hl 1 rfl) ?_
        refine lv_iload_n hx hb dL_isRight_18 rfl (lv_at hl 3 rfl) ?_
        have hPc : va_P (dC, dI) vwCl (cDk a cI cC cS G_4) H65 := hP.sub [0, 1, 2, 3, 4, 5, 6, 7, 8, 9, 10, 11, 12, 13, 14, 15, 16, 17, 18, 19, 20, 21, 22, 23, 24, 25, 26, 27, 28, 29, 30, 31, 32, 33, 34, 35, 36, 37, 38, 39, 40, 41, 42, 43, 44, 45, 46, 47, 48, 49, 50, 51, 52, 53, 54, 55, 56, 57, 58, 59, 60, 61, 62, 63, 64, 65, 66, 67, 68, 69, 70, 71, 72, 73, 74, 75, 76, 77, 78, 79, 80, 81, 82, 83, 84, 85, 86, 87, 88, 89, 90, 91, 92] rfl
        have hDc : va_D (va_A (cDk a cI cC cS G) s.heap.size) (cDk a cI cC cS G_4) := hD.sub [0, 1, 2, 3, 4, 5, 6, 7, 8, 9, 10, 11, 12, 13, 14, 15, 16, 17, 18, 19, 20, 21, 22, 23, 24, 25, 26, 27, 28, 29, 30, 31, 32, 33, 34, 35, 36, 37, 38, 39, 40, 41, 42, 43, 44, 45, 46, 47, 48, 49, 50, 51, 52, 53, 54, 55, 56, 57, 58, 59, 60, 61, 62, 63, 64, 65, 66, 67, 68, 69, 70, 71, 72, 73, 74, 75, 76, 77, 78, 79, 80, 81, 82, 83, 84, 85, 86, 87, 88, 89, 90, 91, 92] (by decide) rfl
        have hFc : ∀ q : Nat, va_A [] H65.size q → (va_A (cDk a cI cC cS G) s.heap.size) q := roF hS hA
        refine va_calli (va_runV (As := [.int x2_4]) (rest := []) ⟨hx, hb, hml, hown, hts⟩ (c_X5_why l dC dI cI cC cS a G_4 H65.size x2_4 hG_4) (cwV 1 hts gL_isRight_X5_why rfl rfl rfl (by decide +kernel) ⟨Nat.le_of_ble_eq_true rfl, Nat.le_of_ble_eq_true rfl⟩) (pV (q0 := 0) hK hPc hDc hN rfl rfl) rfl rfl hl.1 rfl (lv_room (Nat.le_of_ble_eq_true rfl)) dL_isRight_19 ⟨Nat.le_of_ble_eq_true rfl, Nat.le_of_ble_eq_true rfl⟩) hS (fun q _ h => hFc q h) hFc (fun r_66 u_66 t_66 H67 locs ht hvm hw hB hz1 hk1 hS => ?_)
        subst hw
        have hP := ro_keep hP hk1
        refine lv_istore (lv' := [(4, .int (f_X5_why G_4 x2_4)), (3, .int (f_X5_channel G_4 x2_4 5)), (0, .ref (a 0)), (1, .int x1_4), (2, .int x2_4)]) hx hb dL_isRight_22 hl (by decide) rfl (fun ls hl => ?_)
        refine lv_iload_n hx hb dL_isRight_24 rfl (lv_at hl 3 rfl) ?_
        refine lv_iload_n hx hb dL_isRight_25 rfl (lv_at hl 1 rfl) ?_
        have hJ_36 : ∀ (x2_36 : Int32) (x3_36 : Int32) (x4_36 : Int32) (s0_36 : Int32) (s1_36 : Int32) (G_36 : GR), x2_36 = nI j_4 → WFG G_36 → R0 = f_L_isRight_p36 (f_L_isRight_p4 n_4) x2_36 x3_36 x4_36 s0_36 s1_36 G_36 → ∀ (H : Heap) (locs : List Loc) (ls : Array Slot), va_P (dC, dI) vwCl (cDk a cI cC cS G_36) H → va_D (va_A (cDk a cI cC cS G) s.heap.size) (cDk a cI cC cS G_36) → va_S (va_A (cDk a cI cC cS G) s.heap.size) s.heap H locs → lv_has ls 11 [(0, .ref (a 0)), (2, .int x2_36), (3, .int x3_36), (4, .int x4_36)] → W p l e (headSpec wsL_isRight rm_L_isRight).room s m ([.ref (a 0)] : List Value).toArray below meth c H locs 0 0 (MQ below (va_Qi (fun (r : Int32) (u : GR) => (r, u) = f_L_isRight G ∧ (WFG u) ∧ (r = 0 ∨ r = 1)) (fun u U => va_P (dC, dI) vwCl (cDk a cI cC cS u) U.heap ∧ va_D (va_A (cDk a cI cC cS G) s.heap.size) (cDk a cI cC cS u)) (va_A (cDk a cI cC cS G) s.heap.size)) ([.ref (a 0)] : List Value).toArray s 0 0 (va_A (cDk a cI cC cS G) s.heap.size)) (F0 m 36 ls [.int s0_36, .int s1_36]) := by
          intro x2_36 x3_36 x4_36 s0_36 s1_36 G_36 ex2_36 hG_36 hR H locs ls hP hD hS hl
          rw [f_L_isRight_p36] at hR
          refine lv_ior hx hb dL_isRight_36 ?_
          refine lv_istore_n (lv' := [(1, .int (s1_36 ||| s0_36)), (0, .ref (a 0)), (2, .int x2_36), (3, .int x3_36), (4, .int x4_36)]) hx hb dL_isRight_37 rfl hl (by decide) rfl (fun ls hl => ?_)
          refine lv_aload_n hx hb dL_isRight_38 rfl (lv_at hl 1 rfl) ?_
          refine lv_iload_n hx hb dL_isRight_39 rfl (lv_at hl 2 rfl) ?_
          refine lv_bipush (v := 8) hx hb dL_isRight_40 (by decide) ?_
          have hPc : va_P (dC, dI) vwCl (cDk a cI cC cS G_36) H := hP.sub [0, 1, 2, 3, 4, 5, 6, 7, 8, 9, 10, 11, 12, 13, 14, 15, 16, 17, 18, 19, 20, 21, 22, 23, 24, 25, 26, 27, 28, 29, 30, 31, 32, 33, 34, 35, 36, 37, 38, 39, 40, 41, 42, 43, 44, 45, 46, 47, 48, 49, 50, 51, 52, 53, 54, 55, 56, 57, 58, 59, 60, 61, 62, 63, 64, 65, 66, 67, 68, 69, 70, 71, 72, 73, 74, 75, 76, 77, 78, 79, 80, 81, 82, 83, 84, 85, 86, 87, 88, 89, 90, 91, 92] rfl
          have hDc : va_D (va_A (cDk a cI cC cS G) s.heap.size) (cDk a cI cC cS G_36) := hD.sub [0, 1, 2, 3, 4, 5, 6, 7, 8, 9, 10, 11, 12, 13, 14, 15, 16, 17, 18, 19, 20, 21, 22, 23, 24, 25, 26, 27, 28, 29, 30, 31, 32, 33, 34, 35, 36, 37, 38, 39, 40, 41, 42, 43, 44, 45, 46, 47, 48, 49, 50, 51, 52, 53, 54, 55, 56, 57, 58, 59, 60, 61, 62, 63, 64, 65, 66, 67, 68, 69, 70, 71, 72, 73, 74, 75, 76, 77, 78, 79, 80, 81, 82, 83, 84, 85, 86, 87, 88, 89, 90, 91, 92] (by decide) rfl
          have hFc : ∀ q : Nat, va_A [] H.size q → (va_A (cDk a cI cC cS G) s.heap.size) q := roF hS hA
          refine va_calli (va_runV (As := [.int x2_36, .int 8]) (rest := []) ⟨hx, hb, hml, hown, hts⟩ (c_X5_channel l dC dI cI cC cS a G_36 H.size x2_36 8 hG_36) (cwV 2 hts gL_isRight_X5_channel rfl rfl rfl (by decide +kernel) ⟨Nat.le_of_ble_eq_true rfl, Nat.le_of_ble_eq_true rfl⟩) (pVS (q0 := 0) hK hPc hDc hN hT hS hFc rfl rfl) rfl rfl hl.1 rfl (lv_room (Nat.le_of_ble_eq_true rfl)) dL_isRight_42 ⟨Nat.le_of_ble_eq_true rfl, Nat.le_of_ble_eq_true rfl⟩) hS (fun q _ h => hFc q h) hFc (fun r_68 u_68 t_68 H69 locs ht hvm hw hB hz1 hk1 hS => ?_)
          subst hw
          have hP := ro_keep hP hk1
          refine lv_istore (lv' := [(5, .int (f_X5_channel G_36 x2_36 8)), (1, .int (s1_36 ||| s0_36)), (0, .ref (a 0)), (2, .int x2_36), (3, .int x3_36), (4, .int x4_36)]) hx hb dL_isRight_45 hl (by decide) rfl (fun ls hl => ?_)
          refine lv_iload_n hx hb dL_isRight_47 rfl (lv_at hl 4 rfl) ?_
          refine lv_if_lt (tgt := 181) hx hb dL_isRight_48 (by decide) (fun c70 => ?_) (fun c70 => ?_)
          · rw [if_pos c70] at hR
            refine lv_iconst (v := 0) hx hb dL_isRight_181 (by decide) ?_
            exact W.zret (v := 0) hx hb hr rfl (fun t ht hWw => ⟨⟨0, G_36, rfl, ⟨hR.symm.trans eR, hG_36, (Or.inl rfl)⟩, by rw [ht]; exact hP, hD⟩, hS.F ht⟩) hS.2.2 dL_isRight_182
          · rw [if_neg c70] at hR
            refine lv_iload_n hx hb dL_isRight_51 rfl (lv_at hl 4 rfl) ?_
            refine lv_aload_n hx hb dL_isRight_52 rfl (lv_at hl 2 rfl) ?_
            refine lv_iload_n hx hb dL_isRight_53 rfl (lv_at hl 3 rfl) ?_
            refine lv_iconst (v := 1) hx hb dL_isRight_54 (by decide) ?_
            have hPc : va_P (dC, dI) vwCl (cDk a cI cC cS G_36) H69 := hP.sub [0, 1, 2, 3, 4, 5, 6, 7, 8, 9, 10, 11, 12, 13, 14, 15, 16, 17, 18, 19, 20, 21, 22, 23, 24, 25, 26, 27, 28, 29, 30, 31, 32, 33, 34, 35, 36, 37, 38, 39, 40, 41, 42, 43, 44, 45, 46, 47, 48, 49, 50, 51, 52, 53, 54, 55, 56, 57, 58, 59, 60, 61, 62, 63, 64, 65, 66, 67, 68, 69, 70, 71, 72, 73, 74, 75, 76, 77, 78, 79, 80, 81, 82, 83, 84, 85, 86, 87, 88, 89, 90, 91, 92] rfl
            have hDc : va_D (va_A (cDk a cI cC cS G) s.heap.size) (cDk a cI cC cS G_36) := hD.sub [0, 1, 2, 3, 4, 5, 6, 7, 8, 9, 10, 11, 12, 13, 14, 15, 16, 17, 18, 19, 20, 21, 22, 23, 24, 25, 26, 27, 28, 29, 30, 31, 32, 33, 34, 35, 36, 37, 38, 39, 40, 41, 42, 43, 44, 45, 46, 47, 48, 49, 50, 51, 52, 53, 54, 55, 56, 57, 58, 59, 60, 61, 62, 63, 64, 65, 66, 67, 68, 69, 70, 71, 72, 73, 74, 75, 76, 77, 78, 79, 80, 81, 82, 83, 84, 85, 86, 87, 88, 89, 90, 91, 92] (by decide) rfl
            have hFc : ∀ q : Nat, va_A [] H69.size q → (va_A (cDk a cI cC cS G) s.heap.size) q := roF hS hA
            refine va_calli (va_runV (As := [.int x2_36, .int 1]) (rest := [.int x3_36]) ⟨hx, hb, hml, hown, hts⟩ (c_X5_channel l dC dI cI cC cS a G_36 H69.size x2_36 1 hG_36) (cwV 2 hts gL_isRight_X5_channel rfl rfl rfl (by decide +kernel) ⟨Nat.le_of_ble_eq_true rfl, Nat.le_of_ble_eq_true rfl⟩) (pVS (q0 := 0) hK hPc hDc hN hT hS hFc rfl rfl) rfl rfl hl.1 rfl (lv_room (Nat.le_of_ble_eq_true rfl)) dL_isRight_55 ⟨Nat.le_of_ble_eq_true rfl, Nat.le_of_ble_eq_true rfl⟩) hS (fun q _ h => hFc q h) hFc (fun r_71 u_71 t_71 H72 locs ht hvm hw hB hz1 hk1 hS => ?_)
            subst hw
            have hP := ro_keep hP hk1
            refine lv_icmp_gt (tgt := 181) hx hb dL_isRight_58 (by decide) (fun c73 => ?_) (fun c73 => ?_)
            · rw [if_pos c73] at hR
              refine lv_iconst (v := 0) hx hb dL_isRight_181 (by decide) ?_
              exact W.zret (v := 0) hx hb hr rfl (fun t ht hWw => ⟨⟨0, G_36, rfl, ⟨hR.symm.trans eR, hG_36, (Or.inl rfl)⟩, by rw [ht]; exact hP, hD⟩, hS.F ht⟩) hS.2.2 dL_isRight_182
            · rw [if_neg c73] at hR
              refine lv_iload hx hb dL_isRight_61 (lv_at hl 5 rfl) ?_
              have hJ_71 : ∀ (x1_71 : Int32) (x2_71 : Int32) (x3_71 : Int32) (x4_71 : Int32) (x5_71 : Int32) (s0_71 : Int32) (G_71 : GR), x2_71 = nI j_4 → WFG G_71 → R0 = f_L_isRight_p71 (f_L_isRight_p4 n_4) x1_71 x2_71 x3_71 x4_71 x5_71 s0_71 G_71 → ∀ (H : Heap) (locs : List Loc) (ls : Array Slot), va_P (dC, dI) vwCl (cDk a cI cC cS G_71) H → va_D (va_A (cDk a cI cC cS G) s.heap.size) (cDk a cI cC cS G_71) → va_S (va_A (cDk a cI cC cS G) s.heap.size) s.heap H locs → lv_has ls 11 [(0, .ref (a 0)), (1, .int x1_71), (2, .int x2_71), (3, .int x3_71), (4, .int x4_71), (5, .int x5_71)] → W p l e (headSpec wsL_isRight rm_L_isRight).room s m ([.ref (a 0)] : List Value).toArray below meth c H locs 0 0 (MQ below (va_Qi (fun (r : Int32) (u : GR) => (r, u) = f_L_isRight G ∧ (WFG u) ∧ (r = 0 ∨ r = 1)) (fun u U => va_P (dC, dI) vwCl (cDk a cI cC cS u) U.heap ∧ va_D (va_A (cDk a cI cC cS G) s.heap.size) (cDk a cI cC cS u)) (va_A (cDk a cI cC cS G) s.heap.size)) ([.ref (a 0)] : List Value).toArray s 0 0 (va_A (cDk a cI cC cS G) s.heap.size)) (F0 m 71 ls [.int s0_71]) := by
                intro x1_71 x2_71 x3_71 x4_71 x5_71 s0_71 G_71 ex2_71 hG_71 hR H locs ls hP hD hS hl
                rw [f_L_isRight_p71] at hR
                refine lv_iload_n hx hb dL_isRight_71 rfl (lv_at hl 3 rfl) ?_
                have hJ_80 : ∀ (x1_80 : Int32) (x2_80 : Int32) (x3_80 : Int32) (x4_80 : Int32) (x5_80 : Int32) (s0_80 : Int32) (s1_80 : Int32) (G_80 : GR), x2_80 = nI j_4 → WFG G_80 → R0 = f_L_isRight_p80 (f_L_isRight_p4 n_4) x1_80 x2_80 x3_80 x4_80 x5_80 s0_80 s1_80 G_80 → ∀ (H : Heap) (locs : List Loc) (ls : Array Slot), va_P (dC, dI) vwCl (cDk a cI cC cS G_80) H → va_D (va_A (cDk a cI cC cS G) s.heap.size) (cDk a cI cC cS G_80) → va_S (va_A (cDk a cI cC cS G) s.heap.size) s.heap H locs → lv_has ls 11 [(0, .ref (a 0)), (1, .int x1_80), (2, .int x2_80), (3, .int x3_80), (4, .int x4_80), (5, .int x5_80)] → W p l e (headSpec wsL_isRight rm_L_isRight).room s m ([.ref (a 0)] : List Value).toArray below meth c H locs 0 0 (MQ below (va_Qi (fun (r : Int32) (u : GR) => (r, u) = f_L_isRight G ∧ (WFG u) ∧ (r = 0 ∨ r = 1)) (fun u U => va_P (dC, dI) vwCl (cDk a cI cC cS u) U.heap ∧ va_D (va_A (cDk a cI cC cS G) s.heap.size) (cDk a cI cC cS u)) (va_A (cDk a cI cC cS G) s.heap.size)) ([.ref (a 0)] : List Value).toArray s 0 0 (va_A (cDk a cI cC cS G) s.heap.size)) (F0 m 80 ls [.int s0_80, .int s1_80]) := by
                  intro x1_80 x2_80 x3_80 x4_80 x5_80 s0_80 s1_80 G_80 ex2_80 hG_80 hR H locs ls hP hD hS hl
                  rw [f_L_isRight_p80] at hR
                  refine lv_icmp_ne (tgt := 181) hx hb dL_isRight_80 (by decide) (fun c74 => ?_) (fun c74 => ?_)
                  · rw [if_neg c74] at hR
                    refine lv_iconst (v := 0) hx hb dL_isRight_181 (by decide) ?_
                    exact W.zret (v := 0) hx hb hr rfl (fun t ht hWw => ⟨⟨0, G_80, rfl, ⟨hR.symm.trans eR, hG_80, (Or.inl rfl)⟩, by rw [ht]; exact hP, hD⟩, hS.F ht⟩) hS.2.2 dL_isRight_182
                  · rw [if_pos c74] at hR
                    refine lv_iload hx hb dL_isRight_83 (lv_at hl 4 rfl) ?_
                    refine lv_iconst (v := 1) hx hb dL_isRight_85 (by decide) ?_
                    have hJ_94 : ∀ (x1_94 : Int32) (x2_94 : Int32) (x3_94 : Int32) (x4_94 : Int32) (x5_94 : Int32) (s0_94 : Int32) (G_94 : GR), x2_94 = nI j_4 → WFG G_94 → R0 = f_L_isRight_p94 (f_L_isRight_p4 n_4) x1_94 x2_94 x3_94 x4_94 x5_94 s0_94 G_94 → ∀ (H : Heap) (locs : List Loc) (ls : Array Slot), va_P (dC, dI) vwCl (cDk a cI cC cS G_94) H → va_D (va_A (cDk a cI cC cS G) s.heap.size) (cDk a cI cC cS G_94) → va_S (va_A (cDk a cI cC cS G) s.heap.size) s.heap H locs → lv_has ls 11 [(0, .ref (a 0)), (1, .int x1_94), (2, .int x2_94), (3, .int x3_94), (4, .int x4_94), (5, .int x5_94)] → W p l e (headSpec wsL_isRight rm_L_isRight).room s m ([.ref (a 0)] : List Value).toArray below meth c H locs 0 0 (MQ below (va_Qi (fun (r : Int32) (u : GR) => (r, u) = f_L_isRight G ∧ (WFG u) ∧ (r = 0 ∨ r = 1)) (fun u U => va_P (dC, dI) vwCl (cDk a cI cC cS u) U.heap ∧ va_D (va_A (cDk a cI cC cS G) s.heap.size) (cDk a cI cC cS u)) (va_A (cDk a cI cC cS G) s.heap.size)) ([.ref (a 0)] : List Value).toArray s 0 0 (va_A (cDk a cI cC cS G) s.heap.size)) (F0 m 94 ls [.int s0_94]) := by
                      intro x1_94 x2_94 x3_94 x4_94 x5_94 s0_94 G_94 ex2_94 hG_94 hR H locs ls hP hD hS hl
                      rw [f_L_isRight_p94] at hR
                      refine lv_aload_n hx hb dL_isRight_94 rfl (lv_at hl 0 rfl) ?_
                      refine lv_iload_n hx hb dL_isRight_95 rfl (lv_at hl 2 rfl) ?_
                      refine lv_iconst (v := 2) hx hb dL_isRight_96 (by decide) ?_
                      have hPc : va_P (dC, dI) vwCl (cDk a cI cC cS G_94) H := hP.sub [0, 1, 2, 3, 4, 5, 6, 7, 8, 9, 10, 11, 12, 13, 14, 15, 16, 17, 18, 19, 20, 21, 22, 23, 24, 25, 26, 27, 28, 29, 30, 31, 32, 33, 34, 35, 36, 37, 38, 39, 40, 41, 42, 43, 44, 45, 46, 47, 48, 49, 50, 51, 52, 53, 54, 55, 56, 57, 58, 59, 60, 61, 62, 63, 64, 65, 66, 67, 68, 69, 70, 71, 72, 73, 74, 75, 76, 77, 78, 79, 80, 81, 82, 83, 84, 85, 86, 87, 88, 89, 90, 91, 92] rfl
                      have hDc : va_D (va_A (cDk a cI cC cS G) s.heap.size) (cDk a cI cC cS G_94) := hD.sub [0, 1, 2, 3, 4, 5, 6, 7, 8, 9, 10, 11, 12, 13, 14, 15, 16, 17, 18, 19, 20, 21, 22, 23, 24, 25, 26, 27, 28, 29, 30, 31, 32, 33, 34, 35, 36, 37, 38, 39, 40, 41, 42, 43, 44, 45, 46, 47, 48, 49, 50, 51, 52, 53, 54, 55, 56, 57, 58, 59, 60, 61, 62, 63, 64, 65, 66, 67, 68, 69, 70, 71, 72, 73, 74, 75, 76, 77, 78, 79, 80, 81, 82, 83, 84, 85, 86, 87, 88, 89, 90, 91, 92] (by decide) rfl
                      have hFc : ∀ q : Nat, va_A [] H.size q → (va_A (cDk a cI cC cS G) s.heap.size) q := roF hS hA
                      refine va_calli (va_runV (As := [.int x2_94, .int 2]) (rest := [.int s0_94]) ⟨hx, hb, hml, hown, hts⟩ (c_X5_channel l dC dI cI cC cS a G_94 H.size x2_94 2 hG_94) (cwV 2 hts gL_isRight_X5_channel rfl rfl rfl (by decide +kernel) ⟨Nat.le_of_ble_eq_true rfl, Nat.le_of_ble_eq_true rfl⟩) (pVS (q0 := 0) hK hPc hDc hN hT hS hFc rfl rfl) rfl rfl hl.1 rfl (lv_room (Nat.le_of_ble_eq_true rfl)) dL_isRight_97 ⟨Nat.le_of_ble_eq_true rfl, Nat.le_of_ble_eq_true rfl⟩) hS (fun q _ h => hFc q h) hFc (fun r_75 u_75 t_75 H76 locs ht hvm hw hB hz1 hk1 hS => ?_)
                      subst hw
                      have hP := ro_keep hP hk1
                      refine lv_iconst (v := 1) hx hb dL_isRight_100 (by decide) ?_
                      have hJ_109 : ∀ (x1_109 : Int32) (x2_109 : Int32) (x3_109 : Int32) (x4_109 : Int32) (x5_109 : Int32) (s0_109 : Int32) (s1_109 : Int32) (G_109 : GR), x2_109 = nI j_4 → WFG G_109 → R0 = f_L_isRight_p109 (f_L_isRight_p4 n_4) x1_109 x2_109 x3_109 x4_109 x5_109 s0_109 s1_109 G_109 → ∀ (H : Heap) (locs : List Loc) (ls : Array Slot), va_P (dC, dI) vwCl (cDk a cI cC cS G_109) H → va_D (va_A (cDk a cI cC cS G) s.heap.size) (cDk a cI cC cS G_109) → va_S (va_A (cDk a cI cC cS G) s.heap.size) s.heap H locs → lv_has ls 11 [(0, .ref (a 0)), (1, .int x1_109), (2, .int x2_109), (3, .int x3_109), (4, .int x4_109), (5, .int x5_109)] → W p l e (headSpec wsL_isRight rm_L_isRight).room s m ([.ref (a 0)] : List Value).toArray below meth c H locs 0 0 (MQ below (va_Qi (fun (r : Int32) (u : GR) => (r, u) = f_L_isRight G ∧ (WFG u) ∧ (r = 0 ∨ r = 1)) (fun u U => va_P (dC, dI) vwCl (cDk a cI cC cS u) U.heap ∧ va_D (va_A (cDk a cI cC cS G) s.heap.size) (cDk a cI cC cS u)) (va_A (cDk a cI cC cS G) s.heap.size)) ([.ref (a 0)] : List Value).toArray s 0 0 (va_A (cDk a cI cC cS G) s.heap.size)) (F0 m 109 ls [.int s0_109, .int s1_109]) := by
                        intro x1_109 x2_109 x3_109 x4_109 x5_109 s0_109 s1_109 G_109 ex2_109 hG_109 hR H locs ls hP hD hS hl
                        rw [f_L_isRight_p109] at hR
                        refine lv_icmp_ne (tgt := 181) hx hb dL_isRight_109 (by decide) (fun c77 => ?_) (fun c77 => ?_)
                        · rw [if_neg c77] at hR
                          refine lv_iconst (v := 0) hx hb dL_isRight_181 (by decide) ?_
                          exact W.zret (v := 0) hx hb hr rfl (fun t ht hWw => ⟨⟨0, G_109, rfl, ⟨hR.symm.trans eR, hG_109, (Or.inl rfl)⟩, by rw [ht]; exact hP, hD⟩, hS.F ht⟩) hS.2.2 dL_isRight_182
                        · rw [if_pos c77] at hR
                          refine lv_iload hx hb dL_isRight_112 (lv_at hl 4 rfl) ?_
                          refine lv_iconst (v := 3) hx hb dL_isRight_114 (by decide) ?_
                          have hJ_127 : ∀ (x1_127 : Int32) (x2_127 : Int32) (x3_127 : Int32) (x4_127 : Int32) (x5_127 : Int32)  (G_127 : GR), x2_127 = nI j_4 → WFG G_127 → R0 = f_L_isRight_p127 (f_L_isRight_p4 n_4) x1_127 x2_127 x3_127 x4_127 x5_127 G_127 → ∀ (H : Heap) (locs : List Loc) (ls : Array Slot), va_P (dC, dI) vwCl (cDk a cI cC cS G_127) H → va_D (va_A (cDk a cI cC cS G) s.heap.size) (cDk a cI cC cS G_127) → va_S (va_A (cDk a cI cC cS G) s.heap.size) s.heap H locs → lv_has ls 11 [(0, .ref (a 0)), (1, .int x1_127), (2, .int x2_127), (3, .int x3_127), (4, .int x4_127), (5, .int x5_127)] → W p l e (headSpec wsL_isRight rm_L_isRight).room s m ([.ref (a 0)] : List Value).toArray below meth c H locs 0 0 (MQ below (va_Qi (fun (r : Int32) (u : GR) => (r, u) = f_L_isRight G ∧ (WFG u) ∧ (r = 0 ∨ r = 1)) (fun u U => va_P (dC, dI) vwCl (cDk a cI cC cS u) U.heap ∧ va_D (va_A (cDk a cI cC cS G) s.heap.size) (cDk a cI cC cS u)) (va_A (cDk a cI cC cS G) s.heap.size)) ([.ref (a 0)] : List Value).toArray s 0 0 (va_A (cDk a cI cC cS G) s.heap.size)) (F0 m 127 ls []) := by
                            intro x1_127 x2_127 x3_127 x4_127 x5_127 G_127 ex2_127 hG_127 hR H locs ls hP hD hS hl
                            rw [f_L_isRight_p127] at hR
                            refine lv_iload hx hb dL_isRight_127 (lv_at hl 4 rfl) ?_
                            refine lv_iconst (v := 2) hx hb dL_isRight_129 (by decide) ?_
                            have hJ_142 : ∀ (x1_142 : Int32) (x2_142 : Int32) (x3_142 : Int32) (x5_142 : Int32)  (G_142 : GR), x2_142 = nI j_4 → WFG G_142 → R0 = f_L_isRight_p142 (f_L_isRight_p4 n_4) x1_142 x2_142 x3_142 x5_142 G_142 → ∀ (H : Heap) (locs : List Loc) (ls : Array Slot), va_P (dC, dI) vwCl (cDk a cI cC cS G_142) H → va_D (va_A (cDk a cI cC cS G) s.heap.size) (cDk a cI cC cS G_142) → va_S (va_A (cDk a cI cC cS G) s.heap.size) s.heap H locs → lv_has ls 11 [(0, .ref (a 0)), (1, .int x1_142), (2, .int x2_142), (3, .int x3_142), (5, .int x5_142)] → W p l e (headSpec wsL_isRight rm_L_isRight).room s m ([.ref (a 0)] : List Value).toArray below meth c H locs 0 0 (MQ below (va_Qi (fun (r : Int32) (u : GR) => (r, u) = f_L_isRight G ∧ (WFG u) ∧ (r = 0 ∨ r = 1)) (fun u U => va_P (dC, dI) vwCl (cDk a cI cC cS u) U.heap ∧ va_D (va_A (cDk a cI cC cS G) s.heap.size) (cDk a cI cC cS u)) (va_A (cDk a cI cC cS G) s.heap.size)) ([.ref (a 0)] : List Value).toArray s 0 0 (va_A (cDk a cI cC cS G) s.heap.size)) (F0 m 142 ls []) := by
                              intro x1_142 x2_142 x3_142 x5_142 G_142 ex2_142 hG_142 hR H locs ls hP hD hS hl
                              rw [f_L_isRight_p142] at hR
                              refine lv_iload hx hb dL_isRight_142 (lv_at hl 4 rfl) ?_
                              have hJ_158 : ∀ (x1_158 : Int32) (x2_158 : Int32) (x3_158 : Int32)  (G_158 : GR), x2_158 = nI j_4 → WFG G_158 → R0 = f_L_isRight_p158 (f_L_isRight_p4 n_4) x1_158 x2_158 x3_158 G_158 → ∀ (H : Heap) (locs : List Loc) (ls : Array Slot), va_P (dC, dI) vwCl (cDk a cI cC cS G_158) H → va_D (va_A (cDk a cI cC cS G) s.heap.size) (cDk a cI cC cS G_158) → va_S (va_A (cDk a cI cC cS G) s.heap.size) s.heap H locs → lv_has ls 11 [(0, .ref (a 0)), (1, .int x1_158), (2, .int x2_158), (3, .int x3_158)] → W p l e (headSpec wsL_isRight rm_L_isRight).room s m ([.ref (a 0)] : List Value).toArray below meth c H locs 0 0 (MQ below (va_Qi (fun (r : Int32) (u : GR) => (r, u) = f_L_isRight G ∧ (WFG u) ∧ (r = 0 ∨ r = 1)) (fun u U => va_P (dC, dI) vwCl (cDk a cI cC cS u) U.heap ∧ va_D (va_A (cDk a cI cC cS G) s.heap.size) (cDk a cI cC cS u)) (va_A (cDk a cI cC cS G) s.heap.size)) ([.ref (a 0)] : List Value).toArray s 0 0 (va_A (cDk a cI cC cS G) s.heap.size)) (F0 m 158 ls []) := by
                                intro x1_158 x2_158 x3_158 G_158 ex2_158 hG_158 hR H locs ls hP hD hS hl
                                rw [f_L_isRight_p158] at hR
                                refine lv_aload_n hx hb dL_isRight_158 rfl (lv_at hl 0 rfl) ?_
                                refine lv_iload_n hx hb dL_isRight_159 rfl (lv_at hl 2 rfl) ?_
                                refine lv_bipush (v := 6) hx hb dL_isRight_160 (by decide) ?_
                                have hPc : va_P (dC, dI) vwCl (cDk a cI cC cS G_158) H := hP.sub [0, 1, 2, 3, 4, 5, 6, 7, 8, 9, 10, 11, 12, 13, 14, 15, 16, 17, 18, 19, 20, 21, 22, 23, 24, 25, 26, 27, 28, 29, 30, 31, 32, 33, 34, 35, 36, 37, 38, 39, 40, 41, 42, 43, 44, 45, 46, 47, 48, 49, 50, 51, 52, 53, 54, 55, 56, 57, 58, 59, 60, 61, 62, 63, 64, 65, 66, 67, 68, 69, 70, 71, 72, 73, 74, 75, 76, 77, 78, 79, 80, 81, 82, 83, 84, 85, 86, 87, 88, 89, 90, 91, 92] rfl
                                have hDc : va_D (va_A (cDk a cI cC cS G) s.heap.size) (cDk a cI cC cS G_158) := hD.sub [0, 1, 2, 3, 4, 5, 6, 7, 8, 9, 10, 11, 12, 13, 14, 15, 16, 17, 18, 19, 20, 21, 22, 23, 24, 25, 26, 27, 28, 29, 30, 31, 32, 33, 34, 35, 36, 37, 38, 39, 40, 41, 42, 43, 44, 45, 46, 47, 48, 49, 50, 51, 52, 53, 54, 55, 56, 57, 58, 59, 60, 61, 62, 63, 64, 65, 66, 67, 68, 69, 70, 71, 72, 73, 74, 75, 76, 77, 78, 79, 80, 81, 82, 83, 84, 85, 86, 87, 88, 89, 90, 91, 92] (by decide) rfl
                                have hFc : ∀ q : Nat, va_A [] H.size q → (va_A (cDk a cI cC cS G) s.heap.size) q := roF hS hA
                                refine va_calli (va_runV (As := [.int x2_158, .int 6]) (rest := []) ⟨hx, hb, hml, hown, hts⟩ (c_X5_channel l dC dI cI cC cS a G_158 H.size x2_158 6 hG_158) (cwV 2 hts gL_isRight_X5_channel rfl rfl rfl (by decide +kernel) ⟨Nat.le_of_ble_eq_true rfl, Nat.le_of_ble_eq_true rfl⟩) (pVS (q0 := 0) hK hPc hDc hN hT hS hFc rfl rfl) rfl rfl hl.1 rfl (lv_room (Nat.le_of_ble_eq_true rfl)) dL_isRight_162 ⟨Nat.le_of_ble_eq_true rfl, Nat.le_of_ble_eq_true rfl⟩) hS (fun q _ h => hFc q h) hFc (fun r_78 u_78 t_78 H79 locs ht hvm hw hB hz1 hk1 hS => ?_)
                                subst hw
                                have hP := ro_keep hP hk1
                                refine lv_if_lt (tgt := 181) hx hb dL_isRight_165 (by decide) (fun c80 => ?_) (fun c80 => ?_)
                                · rw [if_pos c80] at hR
                                  refine lv_iconst (v := 0) hx hb dL_isRight_181 (by decide) ?_
                                  exact W.zret (v := 0) hx hb hr rfl (fun t ht hWw => ⟨⟨0, G_158, rfl, ⟨hR.symm.trans eR, hG_158, (Or.inl rfl)⟩, by rw [ht]; exact hP, hD⟩, hS.F ht⟩) hS.2.2 dL_isRight_182
                                · rw [if_neg c80] at hR
                                  refine lv_aload_n hx hb dL_isRight_168 rfl (lv_at hl 0 rfl) ?_
                                  refine lv_iload_n hx hb dL_isRight_169 rfl (lv_at hl 2 rfl) ?_
                                  refine lv_bipush (v := 6) hx hb dL_isRight_170 (by decide) ?_
                                  have hPc : va_P (dC, dI) vwCl (cDk a cI cC cS G_158) H79 := hP.sub [0, 1, 2, 3, 4, 5, 6, 7, 8, 9, 10, 11, 12, 13, 14, 15, 16, 17, 18, 19, 20, 21, 22, 23, 24, 25, 26, 27, 28, 29, 30, 31, 32, 33, 34, 35, 36, 37, 38, 39, 40, 41, 42, 43, 44, 45, 46, 47, 48, 49, 50, 51, 52, 53, 54, 55, 56, 57, 58, 59, 60, 61, 62, 63, 64, 65, 66, 67, 68, 69, 70, 71, 72, 73, 74, 75, 76, 77, 78, 79, 80, 81, 82, 83, 84, 85, 86, 87, 88, 89, 90, 91, 92] rfl
                                  have hDc : va_D (va_A (cDk a cI cC cS G) s.heap.size) (cDk a cI cC cS G_158) := hD.sub [0, 1, 2, 3, 4, 5, 6, 7, 8, 9, 10, 11, 12, 13, 14, 15, 16, 17, 18, 19, 20, 21, 22, 23, 24, 25, 26, 27, 28, 29, 30, 31, 32, 33, 34, 35, 36, 37, 38, 39, 40, 41, 42, 43, 44, 45, 46, 47, 48, 49, 50, 51, 52, 53, 54, 55, 56, 57, 58, 59, 60, 61, 62, 63, 64, 65, 66, 67, 68, 69, 70, 71, 72, 73, 74, 75, 76, 77, 78, 79, 80, 81, 82, 83, 84, 85, 86, 87, 88, 89, 90, 91, 92] (by decide) rfl
                                  have hFc : ∀ q : Nat, va_A [] H79.size q → (va_A (cDk a cI cC cS G) s.heap.size) q := roF hS hA
                                  refine va_calli (va_runV (As := [.int x2_158, .int 6]) (rest := []) ⟨hx, hb, hml, hown, hts⟩ (c_X5_channel l dC dI cI cC cS a G_158 H79.size x2_158 6 hG_158) (cwV 2 hts gL_isRight_X5_channel rfl rfl rfl (by decide +kernel) ⟨Nat.le_of_ble_eq_true rfl, Nat.le_of_ble_eq_true rfl⟩) (pVS (q0 := 0) hK hPc hDc hN hT hS hFc rfl rfl) rfl rfl hl.1 rfl (lv_room (Nat.le_of_ble_eq_true rfl)) dL_isRight_172 ⟨Nat.le_of_ble_eq_true rfl, Nat.le_of_ble_eq_true rfl⟩) hS (fun q _ h => hFc q h) hFc (fun r_81 u_81 t_81 H82 locs ht hvm hw hB hz1 hk1 hS => ?_)
                                  subst hw
                                  have hP := ro_keep hP hk1
                                  refine lv_sipush (v := 9999) hx hb dL_isRight_175 (by decide) ?_
                                  refine lv_icmp_le (tgt := 183) hx hb dL_isRight_178 (by decide) (fun c83 => ?_) (fun c83 => ?_)
                                  · rw [if_pos c83] at hR
                                    refine lv_iconst (v := 0) hx hb dL_isRight_183 (by decide) ?_
                                    refine lv_istore (lv' := [(6, .int 0), (0, .ref (a 0)), (1, .int x1_158), (2, .int x2_158), (3, .int x3_158)]) hx hb dL_isRight_184 hl (by decide) rfl (fun ls hl => ?_)
                                    have hL_186 : ∀ n_186 : Nat, ∀ (j_186 : Nat), ∀ (x1_186 : Int32) (x2_186 : Int32) (x3_186 : Int32) (x6_186 : Int32) (G_186 : GR), x6_186 = nI j_186 → j_186 ≤ 4 → 4 < j_186 + n_186 → x2_186 = nI j_4 → WFG G_186 → R0 = f_L_isRight_p186 (f_L_isRight_p4 n_4) n_186 x1_186 x2_186 x3_186 x6_186 G_186 → ∀ (H : Heap) (locs : List Loc) (ls : Array Slot), va_P (dC, dI) vwCl (cDk a cI cC cS G_186) H → va_D (va_A (cDk a cI cC cS G) s.heap.size) (cDk a cI cC cS G_186) → va_S (va_A (cDk a cI cC cS G) s.heap.size) s.heap H locs → lv_has ls 11 [(0, .ref (a 0)), (1, .int x1_186), (2, .int x2_186), (3, .int x3_186), (6, .int x6_186)] → W p l e (headSpec wsL_isRight rm_L_isRight).room s m ([.ref (a 0)] : List Value).toArray below meth c H locs 0 0 (MQ below (va_Qi (fun (r : Int32) (u : GR) => (r, u) = f_L_isRight G ∧ (WFG u) ∧ (r = 0 ∨ r = 1)) (fun u U => va_P (dC, dI) vwCl (cDk a cI cC cS u) U.heap ∧ va_D (va_A (cDk a cI cC cS G) s.heap.size) (cDk a cI cC cS u)) (va_A (cDk a cI cC cS G) s.heap.size)) ([.ref (a 0)] : List Value).toArray s 0 0 (va_A (cDk a cI cC cS G) s.heap.size)) (F0 m 186 ls []) := by
                                      intro n_186
                                      induction n_186 with
                                      | zero =>
                                        intro j_186 x1_186 x2_186 x3_186 x6_186 G_186 ex6_186 hj0_186 hn_186 ex2_186 hG_186
                                        exact absurd hn_186 (by omega)
                                      | succ n_186 ih_186 =>
                                        intro j_186 x1_186 x2_186 x3_186 x6_186 G_186 ex6_186 hj0_186 hn_186 ex2_186 hG_186 hR H locs ls hP hD hS hl
                                        rw [f_L_isRight_p186] at hR
                                        refine lv_iload hx hb dL_isRight_186 (lv_at hl 4 rfl) ?_
                                        refine lv_iconst (v := 4) hx hb dL_isRight_188 (by decide) ?_
                                        refine lv_icmp_ge (tgt := 468) hx hb dL_isRight_189 (by decide) (fun c84 => ?_) (fun c84 => ?_)
                                        · rw [if_pos c84] at hR
                                          refine lv_iinc (v := x2_186 + 1) (lv' := [(2, .int (x2_186 + 1)), (0, .ref (a 0)), (1, .int x1_186), (3, .int x3_186), (6, .int x6_186)]) hx hb dL_isRight_468 hl (k := 2) rfl rfl (by decide) rfl (fun ls hl => ?_)
                                          refine lv_goto (tgt := 4) hx hb dL_isRight_471 (by decide) ?_
                                          exact ih_4 (j_4 + 1) x1_186 (x2_186 + 1) G_186 (by rw [ex2_186, nI_1]) (by omega) (by omega) hG_186 hR _ _ _ hP hD hS (lv_sub hl [1, 2, 0] rfl)
                                        · rw [if_neg c84] at hR
                                          have hj_186 : j_186 < 4 := lp_ge ex6_186 (by decide +kernel) (by omega) (by omega) c84
                                          refine lv_aload_n hx hb dL_isRight_192 rfl (lv_at hl 0 rfl) ?_
                                          refine lv_iload hx hb dL_isRight_193 (lv_at hl 4 rfl) ?_
                                          refine lv_iload_n hx hb dL_isRight_195 rfl (lv_at hl 2 rfl) ?_
                                          refine lv_iconst (v := 1) hx hb dL_isRight_196 (by decide) ?_
                                          have hPc : va_P (dC, dI) vwCl (cDk a cI cC cS G_186) H := hP.sub [0, 1, 2, 3, 4, 5, 6, 7, 8, 9, 10, 11, 12, 13, 14, 15, 16, 17, 18, 19, 20, 21, 22, 23, 24, 25, 26, 27, 28, 29, 30, 31, 32, 33, 34, 35, 36, 37, 38, 39, 40, 41, 42, 43, 44, 45, 46, 47, 48, 49, 50, 51, 52, 53, 54, 55, 56, 57, 58, 59, 60, 61, 62, 63, 64, 65, 66, 67, 68, 69, 70, 71, 72, 73, 74, 75, 76, 77, 78, 79, 80, 81, 82, 83, 84, 85, 86, 87, 88, 89, 90, 91, 92] rfl
                                          have hDc : va_D (va_A (cDk a cI cC cS G) s.heap.size) (cDk a cI cC cS G_186) := hD.sub [0, 1, 2, 3, 4, 5, 6, 7, 8, 9, 10, 11, 12, 13, 14, 15, 16, 17, 18, 19, 20, 21, 22, 23, 24, 25, 26, 27, 28, 29, 30, 31, 32, 33, 34, 35, 36, 37, 38, 39, 40, 41, 42, 43, 44, 45, 46, 47, 48, 49, 50, 51, 52, 53, 54, 55, 56, 57, 58, 59, 60, 61, 62, 63, 64, 65, 66, 67, 68, 69, 70, 71, 72, 73, 74, 75, 76, 77, 78, 79, 80, 81, 82, 83, 84, 85, 86, 87, 88, 89, 90, 91, 92] (by decide) rfl
                                          have hFc : ∀ q : Nat, va_A [] H.size q → (va_A (cDk a cI cC cS G) s.heap.size) q := roF hS hA
                                          refine va_calli (va_runV (As := [.int x6_186, .int x2_186, .int 1]) (rest := []) ⟨hx, hb, hml, hown, hts⟩ (c_X5_send l dC dI cI cC cS a G_186 H.size x6_186 x2_186 1 hG_186) (cwV 3 hts gL_isRight_X5_send rfl rfl rfl (by decide +kernel) ⟨Nat.le_of_ble_eq_true rfl, Nat.le_of_ble_eq_true rfl⟩) (pV (q0 := 0) hK hPc hDc hN rfl rfl) rfl rfl hl.1 rfl (lv_room (Nat.le_of_ble_eq_true rfl)) dL_isRight_197 ⟨Nat.le_of_ble_eq_true rfl, Nat.le_of_ble_eq_true rfl⟩) hS (fun q _ h => hFc q h) hFc (fun r_85 u_85 t_85 H86 locs ht hvm hw hB hz1 hk1 hS => ?_)
                                          subst hw
                                          have hP := ro_keep hP hk1
                                          refine lv_istore (lv' := [(7, .int (f_X5_send G_186 x6_186 x2_186 1)), (0, .ref (a 0)), (1, .int x1_186), (2, .int x2_186), (3, .int x3_186), (6, .int x6_186)]) hx hb dL_isRight_200 hl (by decide) rfl (fun ls hl => ?_)
                                          refine lv_aload_n hx hb dL_isRight_202 rfl (lv_at hl 1 rfl) ?_
                                          refine lv_iload_n hx hb dL_isRight_203 rfl (lv_at hl 3 rfl) ?_
                                          refine lv_iload hx hb dL_isRight_204 (lv_at hl 5 rfl) ?_
                                          refine lv_iconst (v := (-1)) hx hb dL_isRight_206 (by decide) ?_
                                          have hPc : va_P (dC, dI) vwCl (cDk a cI cC cS G_186) H86 := hP.sub [0, 1, 2, 3, 4, 5, 6, 7, 8, 9, 10, 11, 12, 13, 14, 15, 16, 17, 18, 19, 20, 21, 22, 23, 24, 25, 26, 27, 28, 29, 30, 31, 32, 33, 34, 35, 36, 37, 38, 39, 40, 41, 42, 43, 44, 45, 46, 47, 48, 49, 50, 51, 52, 53, 54, 55, 56, 57, 58, 59, 60, 61, 62, 63, 64, 65, 66, 67, 68, 69, 70, 71, 72, 73, 74, 75, 76, 77, 78, 79, 80, 81, 82, 83, 84, 85, 86, 87, 88, 89, 90, 91, 92] rfl
                                          have hDc : va_D (va_A (cDk a cI cC cS G) s.heap.size) (cDk a cI cC cS G_186) := hD.sub [0, 1, 2, 3, 4, 5, 6, 7, 8, 9, 10, 11, 12, 13, 14, 15, 16, 17, 18, 19, 20, 21, 22, 23, 24, 25, 26, 27, 28, 29, 30, 31, 32, 33, 34, 35, 36, 37, 38, 39, 40, 41, 42, 43, 44, 45, 46, 47, 48, 49, 50, 51, 52, 53, 54, 55, 56, 57, 58, 59, 60, 61, 62, 63, 64, 65, 66, 67, 68, 69, 70, 71, 72, 73, 74, 75, 76, 77, 78, 79, 80, 81, 82, 83, 84, 85, 86, 87, 88, 89, 90, 91, 92] (by decide) rfl
                                          have hFc : ∀ q : Nat, va_A (cDk a cI cC cS G_186) H86.size q → (va_A (cDk a cI cC cS G) s.heap.size) q := va_free hD hS hA [0, 1, 2, 3, 4, 5, 6, 7, 8, 9, 10, 11, 12, 13, 14, 15, 16, 17, 18, 19, 20, 21, 22, 23, 24, 25, 26, 27, 28, 29, 30, 31, 32, 33, 34, 35, 36, 37, 38, 39, 40, 41, 42, 43, 44, 45, 46, 47, 48, 49, 50, 51, 52, 53, 54, 55, 56, 57, 58, 59, 60, 61, 62, 63, 64, 65, 66, 67, 68, 69, 70, 71, 72, 73, 74, 75, 76, 77, 78, 79, 80, 81, 82, 83, 84, 85, 86, 87, 88, 89, 90, 91, 92] rfl
                                          refine va_calli (va_runV (As := [.int x2_186, .int x6_186, .int (-1)]) (rest := []) ⟨hx, hb, hml, hown, hts⟩ (c_X5_path l dC dI cI cC cS a G_186 H86.size x2_186 x6_186 (-1) hG_186) (cwV 3 hts gL_isRight_X5_path rfl rfl rfl (by decide +kernel) ⟨Nat.le_of_ble_eq_true rfl, Nat.le_of_ble_eq_true rfl⟩) (pV (q0 := 0) hK hPc hDc hN rfl rfl) rfl rfl hl.1 rfl (lv_room (Nat.le_of_ble_eq_true rfl)) dL_isRight_207 ⟨Nat.le_of_ble_eq_true rfl, Nat.le_of_ble_eq_true rfl⟩) hS (fun q _ h => hFc q h) hFc (fun r_87 u_87 t_87 H88 locs ht hvm hw hB hz1 hk1 hS => ?_)
                                          obtain ⟨hw, hens89⟩ := hw
                                          obtain ⟨hP1, hD1⟩ := hB
                                          rw [ht] at hP1
                                          have hw1 : r_87 = (f_X5_path G_186 x2_186 x6_186 (-1)).1 := congrArg Prod.fst hw
                                          have hw2 : u_87 = (f_X5_path G_186 x2_186 x6_186 (-1)).2 := congrArg Prod.snd hw
                                          clear hw
                                          subst hw1
                                          subst hw2
                                          obtain ⟨hP, hD⟩ := va_join (wc := cDk a cI cC cS G_186) (wr := []) (w1 := cDk a cI cC cS ((f_X5_path G_186 x2_186 x6_186 (-1)).2)) hP hD [0, 1, 2, 3, 4, 5, 6, 7, 8, 9, 10, 11, 12, 13, 14, 15, 16, 17, 18, 19, 20, 21, 22, 23, 24, 25, 26, 27, 28, 29, 30, 31, 32, 33, 34, 35, 36, 37, 38, 39, 40, 41, 42, 43, 44, 45, 46, 47, 48, 49, 50, 51, 52, 53, 54, 55, 56, 57, 58, 59, 60, 61, 62, 63, 64, 65, 66, 67, 68, 69, 70, 71, 72, 73, 74, 75, 76, 77, 78, 79, 80, 81, 82, 83, 84, 85, 86, 87, 88, 89, 90, 91, 92] [] rfl rfl (by decide) (by decide) hk1 hFc hP1 hD1
                                          have hP : va_P (dC, dI) vwCl (cDk a cI cC cS ((f_X5_path G_186 x2_186 x6_186 (-1)).2)) H88 := hP.sub [0, 1, 2, 3, 4, 5, 6, 7, 8, 9, 10, 11, 12, 13, 14, 15, 16, 17, 18, 19, 20, 21, 22, 23, 24, 25, 26, 27, 28, 29, 30, 31, 32, 33, 34, 35, 36, 37, 38, 39, 40, 41, 42, 43, 44, 45, 46, 47, 48, 49, 50, 51, 52, 53, 54, 55, 56, 57, 58, 59, 60, 61, 62, 63, 64, 65, 66, 67, 68, 69, 70, 71, 72, 73, 74, 75, 76, 77, 78, 79, 80, 81, 82, 83, 84, 85, 86, 87, 88, 89, 90, 91, 92] rfl
                                          have hD : va_D (va_A (cDk a cI cC cS G) s.heap.size) (cDk a cI cC cS ((f_X5_path G_186 x2_186 x6_186 (-1)).2)) := hD.sub [0, 1, 2, 3, 4, 5, 6, 7, 8, 9, 10, 11, 12, 13, 14, 15, 16, 17, 18, 19, 20, 21, 22, 23, 24, 25, 26, 27, 28, 29, 30, 31, 32, 33, 34, 35, 36, 37, 38, 39, 40, 41, 42, 43, 44, 45, 46, 47, 48, 49, 50, 51, 52, 53, 54, 55, 56, 57, 58, 59, 60, 61, 62, 63, 64, 65, 66, 67, 68, 69, 70, 71, 72, 73, 74, 75, 76, 77, 78, 79, 80, 81, 82, 83, 84, 85, 86, 87, 88, 89, 90, 91, 92] (by decide) rfl
                                          obtain ⟨Gn90, eGn90⟩ : ∃ z : GR, z = (f_X5_path G_186 x2_186 x6_186 (-1)).2 := ⟨_, rfl⟩
                                          rw [sLet_eq, ← eGn90] at hR
                                          rw [← eGn90] at hP hD
                                          have hG91 : WFG Gn90 := by rw [eGn90]; exact hens89
                                          refine lv_istore (lv' := [(8, .int ((f_X5_path G_186 x2_186 x6_186 (-1)).1)), (7, .int (f_X5_send G_186 x6_186 x2_186 1)), (0, .ref (a 0)), (1, .int x1_186), (2, .int x2_186), (3, .int x3_186), (6, .int x6_186)]) hx hb dL_isRight_210 hl (by decide) rfl (fun ls hl => ?_)
                                          refine lv_aload_n hx hb dL_isRight_212 rfl (lv_at hl 2 rfl) ?_
                                          refine lv_iload_n hx hb dL_isRight_213 rfl (lv_at hl 4 rfl) ?_
                                          refine lv_iload hx hb dL_isRight_214 (lv_at hl 6 rfl) ?_
                                          have hPc : va_P (dC, dI) vwCl (cDk a cI cC cS Gn90) H88 := hP.sub [0, 1, 2, 3, 4, 5, 6, 7, 8, 9, 10, 11, 12, 13, 14, 15, 16, 17, 18, 19, 20, 21, 22, 23, 24, 25, 26, 27, 28, 29, 30, 31, 32, 33, 34, 35, 36, 37, 38, 39, 40, 41, 42, 43, 44, 45, 46, 47, 48, 49, 50, 51, 52, 53, 54, 55, 56, 57, 58, 59, 60, 61, 62, 63, 64, 65, 66, 67, 68, 69, 70, 71, 72, 73, 74, 75, 76, 77, 78, 79, 80, 81, 82, 83, 84, 85, 86, 87, 88, 89, 90, 91, 92] rfl
                                          have hDc : va_D (va_A (cDk a cI cC cS G) s.heap.size) (cDk a cI cC cS Gn90) := hD.sub [0, 1, 2, 3, 4, 5, 6, 7, 8, 9, 10, 11, 12, 13, 14, 15, 16, 17, 18, 19, 20, 21, 22, 23, 24, 25, 26, 27, 28, 29, 30, 31, 32, 33, 34, 35, 36, 37, 38, 39, 40, 41, 42, 43, 44, 45, 46, 47, 48, 49, 50, 51, 52, 53, 54, 55, 56, 57, 58, 59, 60, 61, 62, 63, 64, 65, 66, 67, 68, 69, 70, 71, 72, 73, 74, 75, 76, 77, 78, 79, 80, 81, 82, 83, 84, 85, 86, 87, 88, 89, 90, 91, 92] (by decide) rfl
                                          have hFc : ∀ q : Nat, va_A (cDk a cI cC cS Gn90) H88.size q → (va_A (cDk a cI cC cS G) s.heap.size) q := va_free hD hS hA [0, 1, 2, 3, 4, 5, 6, 7, 8, 9, 10, 11, 12, 13, 14, 15, 16, 17, 18, 19, 20, 21, 22, 23, 24, 25, 26, 27, 28, 29, 30, 31, 32, 33, 34, 35, 36, 37, 38, 39, 40, 41, 42, 43, 44, 45, 46, 47, 48, 49, 50, 51, 52, 53, 54, 55, 56, 57, 58, 59, 60, 61, 62, 63, 64, 65, 66, 67, 68, 69, 70, 71, 72, 73, 74, 75, 76, 77, 78, 79, 80, 81, 82, 83, 84, 85, 86, 87, 88, 89, 90, 91, 92] rfl
                                          refine va_calli (va_runV (As := [.int x2_186, .int x6_186]) (rest := []) ⟨hx, hb, hml, hown, hts⟩ (c_X5_loudest l dC dI cI cC cS a Gn90 H88.size x2_186 x6_186 hG91) (cwV 2 hts gL_isRight_X5_loudest rfl rfl rfl (by decide +kernel) ⟨Nat.le_of_ble_eq_true rfl, Nat.le_of_ble_eq_true rfl⟩) (pV (q0 := 0) hK hPc hDc hN rfl rfl) rfl rfl hl.1 rfl (lv_room (Nat.le_of_ble_eq_true rfl)) dL_isRight_216 ⟨Nat.le_of_ble_eq_true rfl, Nat.le_of_ble_eq_true rfl⟩) hS (fun q _ h => hFc q h) hFc (fun r_92 u_92 t_92 H93 locs ht hvm hw hB hz1 hk1 hS => ?_)
                                          obtain ⟨hw, hens94⟩ := hw
                                          obtain ⟨hP1, hD1⟩ := hB
                                          rw [ht] at hP1
                                          have hw1 : r_92 = (f_X5_loudest Gn90 x2_186 x6_186).1 := congrArg Prod.fst hw
                                          have hw2 : u_92 = (f_X5_loudest Gn90 x2_186 x6_186).2 := congrArg Prod.snd hw
                                          clear hw
                                          subst hw1
                                          subst hw2
                                          obtain ⟨hP, hD⟩ := va_join (wc := cDk a cI cC cS Gn90) (wr := []) (w1 := cDk a cI cC cS ((f_X5_loudest Gn90 x2_186 x6_186).2)) hP hD [0, 1, 2, 3, 4, 5, 6, 7, 8, 9, 10, 11, 12, 13, 14, 15, 16, 17, 18, 19, 20, 21, 22, 23, 24, 25, 26, 27, 28, 29, 30, 31, 32, 33, 34, 35, 36, 37, 38, 39, 40, 41, 42, 43, 44, 45, 46, 47, 48, 49, 50, 51, 52, 53, 54, 55, 56, 57, 58, 59, 60, 61, 62, 63, 64, 65, 66, 67, 68, 69, 70, 71, 72, 73, 74, 75, 76, 77, 78, 79, 80, 81, 82, 83, 84, 85, 86, 87, 88, 89, 90, 91, 92] [] rfl rfl (by decide) (by decide) hk1 hFc hP1 hD1
                                          have hP : va_P (dC, dI) vwCl (cDk a cI cC cS ((f_X5_loudest Gn90 x2_186 x6_186).2)) H93 := hP.sub [0, 1, 2, 3, 4, 5, 6, 7, 8, 9, 10, 11, 12, 13, 14, 15, 16, 17, 18, 19, 20, 21, 22, 23, 24, 25, 26, 27, 28, 29, 30, 31, 32, 33, 34, 35, 36, 37, 38, 39, 40, 41, 42, 43, 44, 45, 46, 47, 48, 49, 50, 51, 52, 53, 54, 55, 56, 57, 58, 59, 60, 61, 62, 63, 64, 65, 66, 67, 68, 69, 70, 71, 72, 73, 74, 75, 76, 77, 78, 79, 80, 81, 82, 83, 84, 85, 86, 87, 88, 89, 90, 91, 92] rfl
                                          have hD : va_D (va_A (cDk a cI cC cS G) s.heap.size) (cDk a cI cC cS ((f_X5_loudest Gn90 x2_186 x6_186).2)) := hD.sub [0, 1, 2, 3, 4, 5, 6, 7, 8, 9, 10, 11, 12, 13, 14, 15, 16, 17, 18, 19, 20, 21, 22, 23, 24, 25, 26, 27, 28, 29, 30, 31, 32, 33, 34, 35, 36, 37, 38, 39, 40, 41, 42, 43, 44, 45, 46, 47, 48, 49, 50, 51, 52, 53, 54, 55, 56, 57, 58, 59, 60, 61, 62, 63, 64, 65, 66, 67, 68, 69, 70, 71, 72, 73, 74, 75, 76, 77, 78, 79, 80, 81, 82, 83, 84, 85, 86, 87, 88, 89, 90, 91, 92] (by decide) rfl
                                          obtain ⟨Gn95, eGn95⟩ : ∃ z : GR, z = (f_X5_loudest Gn90 x2_186 x6_186).2 := ⟨_, rfl⟩
                                          rw [sLet_eq, ← eGn95] at hR
                                          rw [← eGn95] at hP hD
                                          have hG96 : WFG Gn95 := by rw [eGn95]; exact hens94
                                          refine lv_istore (lv' := [(9, .int ((f_X5_loudest Gn90 x2_186 x6_186).1)), (8, .int ((f_X5_path G_186 x2_186 x6_186 (-1)).1)), (7, .int (f_X5_send G_186 x6_186 x2_186 1)), (0, .ref (a 0)), (1, .int x1_186), (2, .int x2_186), (3, .int x3_186), (6, .int x6_186)]) hx hb dL_isRight_219 hl (by decide) rfl (fun ls hl => ?_)
                                          refine lv_aload_n hx hb dL_isRight_221 rfl (lv_at hl 3 rfl) ?_
                                          refine lv_iload hx hb dL_isRight_222 (lv_at hl 7 rfl) ?_
                                          refine lv_iconst (v := 0) hx hb dL_isRight_224 (by decide) ?_
                                          have hPc : va_P (dC, dI) vwCl (cDk a cI cC cS Gn95) H93 := hP.sub [0, 1, 2, 3, 4, 5, 6, 7, 8, 9, 10, 11, 12, 13, 14, 15, 16, 17, 18, 19, 20, 21, 22, 23, 24, 25, 26, 27, 28, 29, 30, 31, 32, 33, 34, 35, 36, 37, 38, 39, 40, 41, 42, 43, 44, 45, 46, 47, 48, 49, 50, 51, 52, 53, 54, 55, 56, 57, 58, 59, 60, 61, 62, 63, 64, 65, 66, 67, 68, 69, 70, 71, 72, 73, 74, 75, 76, 77, 78, 79, 80, 81, 82, 83, 84, 85, 86, 87, 88, 89, 90, 91, 92] rfl
                                          have hDc : va_D (va_A (cDk a cI cC cS G) s.heap.size) (cDk a cI cC cS Gn95) := hD.sub [0, 1, 2, 3, 4, 5, 6, 7, 8, 9, 10, 11, 12, 13, 14, 15, 16, 17, 18, 19, 20, 21, 22, 23, 24, 25, 26, 27, 28, 29, 30, 31, 32, 33, 34, 35, 36, 37, 38, 39, 40, 41, 42, 43, 44, 45, 46, 47, 48, 49, 50, 51, 52, 53, 54, 55, 56, 57, 58, 59, 60, 61, 62, 63, 64, 65, 66, 67, 68, 69, 70, 71, 72, 73, 74, 75, 76, 77, 78, 79, 80, 81, 82, 83, 84, 85, 86, 87, 88, 89, 90, 91, 92] (by decide) rfl
                                          have hFc : ∀ q : Nat, va_A [] H93.size q → (va_A (cDk a cI cC cS G) s.heap.size) q := roF hS hA
                                          refine va_calli (va_runV (As := [.int x6_186, .int 0]) (rest := []) ⟨hx, hb, hml, hown, hts⟩ (c_X5_feed l dC dI cI cC cS a Gn95 H93.size x6_186 0 hG96) (cwV 2 hts gL_isRight_X5_feed rfl rfl rfl (by decide +kernel) ⟨Nat.le_of_ble_eq_true rfl, Nat.le_of_ble_eq_true rfl⟩) (pV (q0 := 0) hK hPc hDc hN rfl rfl) rfl rfl hl.1 rfl (lv_room (Nat.le_of_ble_eq_true rfl)) dL_isRight_225 ⟨Nat.le_of_ble_eq_true rfl, Nat.le_of_ble_eq_true rfl⟩) hS (fun q _ h => hFc q h) hFc (fun r_97 u_97 t_97 H98 locs ht hvm hw hB hz1 hk1 hS => ?_)
                                          subst hw
                                          have hP := ro_keep hP hk1
                                          refine lv_iload_n hx hb dL_isRight_228 rfl (lv_at hl 5 rfl) ?_
                                          refine lv_ishr hx hb dL_isRight_229 ?_
                                          refine lv_iconst (v := 1) hx hb dL_isRight_230 (by decide) ?_
                                          refine lv_iand hx hb dL_isRight_231 ?_
                                          refine lv_iconst (v := 1) hx hb dL_isRight_232 (by decide) ?_
                                          have hJ_241 : ∀ (x1_241 : Int32) (x2_241 : Int32) (x3_241 : Int32) (x6_241 : Int32) (x7_241 : Int32) (x8_241 : Int32) (x9_241 : Int32) (s0_241 : Int32) (G_241 : GR), x2_241 = nI j_4 → x6_241 = nI j_186 → WFG G_241 → R0 = f_L_isRight_p241 (f_L_isRight_p4 n_4) (f_L_isRight_p186 (f_L_isRight_p4 n_4) n_186) x1_241 x2_241 x3_241 x6_241 x7_241 x8_241 x9_241 s0_241 G_241 → ∀ (H : Heap) (locs : List Loc) (ls : Array Slot), va_P (dC, dI) vwCl (cDk a cI cC cS G_241) H → va_D (va_A (cDk a cI cC cS G) s.heap.size) (cDk a cI cC cS G_241) → va_S (va_A (cDk a cI cC cS G) s.heap.size) s.heap H locs → lv_has ls 11 [(0, .ref (a 0)), (1, .int x1_241), (2, .int x2_241), (3, .int x3_241), (6, .int x6_241), (7, .int x7_241), (8, .int x8_241), (9, .int x9_241)] → W p l e (headSpec wsL_isRight rm_L_isRight).room s m ([.ref (a 0)] : List Value).toArray below meth c H locs 0 0 (MQ below (va_Qi (fun (r : Int32) (u : GR) => (r, u) = f_L_isRight G ∧ (WFG u) ∧ (r = 0 ∨ r = 1)) (fun u U => va_P (dC, dI) vwCl (cDk a cI cC cS u) U.heap ∧ va_D (va_A (cDk a cI cC cS G) s.heap.size) (cDk a cI cC cS u)) (va_A (cDk a cI cC cS G) s.heap.size)) ([.ref (a 0)] : List Value).toArray s 0 0 (va_A (cDk a cI cC cS G) s.heap.size)) (F0 m 241 ls [.int s0_241]) := by
                                            intro x1_241 x2_241 x3_241 x6_241 x7_241 x8_241 x9_241 s0_241 G_241 ex2_241 ex6_241 hG_241 hR H locs ls hP hD hS hl
                                            rw [f_L_isRight_p241] at hR
                                            refine lv_istore (lv' := [(10, .int s0_241), (0, .ref (a 0)), (1, .int x1_241), (2, .int x2_241), (3, .int x3_241), (6, .int x6_241), (7, .int x7_241), (8, .int x8_241), (9, .int x9_241)]) hx hb dL_isRight_241 hl (by decide) rfl (fun ls hl => ?_)
                                            refine lv_iload hx hb dL_isRight_243 (lv_at hl 6 rfl) ?_
                                            refine lv_iload_n hx hb dL_isRight_245 rfl (lv_at hl 4 rfl) ?_
                                            refine lv_icmp_gt (tgt := 357) hx hb dL_isRight_246 (by decide) (fun c99 => ?_) (fun c99 => ?_)
                                            · rw [if_pos c99] at hR
                                              refine lv_iconst (v := 0) hx hb dL_isRight_357 (by decide) ?_
                                              exact W.zret (v := 0) hx hb hr rfl (fun t ht hWw => ⟨⟨0, G_241, rfl, ⟨hR.symm.trans eR, hG_241, (Or.inl rfl)⟩, by rw [ht]; exact hP, hD⟩, hS.F ht⟩) hS.2.2 dL_isRight_358
                                            · rw [if_neg c99] at hR
                                              refine lv_iload hx hb dL_isRight_249 (lv_at hl 0 rfl) ?_
                                              have hJ_259 : ∀ (x1_259 : Int32) (x2_259 : Int32) (x3_259 : Int32) (x6_259 : Int32) (x7_259 : Int32) (x8_259 : Int32) (x9_259 : Int32) (x10_259 : Int32)  (G_259 : GR), x2_259 = nI j_4 → x6_259 = nI j_186 → WFG G_259 → R0 = f_L_isRight_p259 (f_L_isRight_p4 n_4) (f_L_isRight_p186 (f_L_isRight_p4 n_4) n_186) x1_259 x2_259 x3_259 x6_259 x7_259 x8_259 x9_259 x10_259 G_259 → ∀ (H : Heap) (locs : List Loc) (ls : Array Slot), va_P (dC, dI) vwCl (cDk a cI cC cS G_259) H → va_D (va_A (cDk a cI cC cS G) s.heap.size) (cDk a cI cC cS G_259) → va_S (va_A (cDk a cI cC cS G) s.heap.size) s.heap H locs → lv_has ls 11 [(0, .ref (a 0)), (1, .int x1_259), (2, .int x2_259), (3, .int x3_259), (6, .int x6_259), (7, .int x7_259), (8, .int x8_259), (9, .int x9_259), (10, .int x10_259)] → W p l e (headSpec wsL_isRight rm_L_isRight).room s m ([.ref (a 0)] : List Value).toArray below meth c H locs 0 0 (MQ below (va_Qi (fun (r : Int32) (u : GR) => (r, u) = f_L_isRight G ∧ (WFG u) ∧ (r = 0 ∨ r = 1)) (fun u U => va_P (dC, dI) vwCl (cDk a cI cC cS u) U.heap ∧ va_D (va_A (cDk a cI cC cS G) s.heap.size) (cDk a cI cC cS u)) (va_A (cDk a cI cC cS G) s.heap.size)) ([.ref (a 0)] : List Value).toArray s 0 0 (va_A (cDk a cI cC cS G) s.heap.size)) (F0 m 259 ls []) := by
                                                intro x1_259 x2_259 x3_259 x6_259 x7_259 x8_259 x9_259 x10_259 G_259 ex2_259 ex6_259 hG_259 hR H locs ls hP hD hS hl
                                                rw [f_L_isRight_p259] at hR
                                                refine lv_aload_n hx hb dL_isRight_259 rfl (lv_at hl 0 rfl) ?_
                                                refine lv_iload hx hb dL_isRight_260 (lv_at hl 4 rfl) ?_
                                                refine lv_iconst (v := 3) hx hb dL_isRight_262 (by decide) ?_
                                                have hPc : va_P (dC, dI) vwCl (cDk a cI cC cS G_259) H := hP.sub [0, 1, 2, 3, 4, 5, 6, 7, 8, 9, 10, 11, 12, 13, 14, 15, 16, 17, 18, 19, 20, 21, 22, 23, 24, 25, 26, 27, 28, 29, 30, 31, 32, 33, 34, 35, 36, 37, 38, 39, 40, 41, 42, 43, 44, 45, 46, 47, 48, 49, 50, 51, 52, 53, 54, 55, 56, 57, 58, 59, 60, 61, 62, 63, 64, 65, 66, 67, 68, 69, 70, 71, 72, 73, 74, 75, 76, 77, 78, 79, 80, 81, 82, 83, 84, 85, 86, 87, 88, 89, 90, 91, 92] rfl
                                                have hDc : va_D (va_A (cDk a cI cC cS G) s.heap.size) (cDk a cI cC cS G_259) := hD.sub [0, 1, 2, 3, 4, 5, 6, 7, 8, 9, 10, 11, 12, 13, 14, 15, 16, 17, 18, 19, 20, 21, 22, 23, 24, 25, 26, 27, 28, 29, 30, 31, 32, 33, 34, 35, 36, 37, 38, 39, 40, 41, 42, 43, 44, 45, 46, 47, 48, 49, 50, 51, 52, 53, 54, 55, 56, 57, 58, 59, 60, 61, 62, 63, 64, 65, 66, 67, 68, 69, 70, 71, 72, 73, 74, 75, 76, 77, 78, 79, 80, 81, 82, 83, 84, 85, 86, 87, 88, 89, 90, 91, 92] (by decide) rfl
                                                have hFc : ∀ q : Nat, va_A [] H.size q → (va_A (cDk a cI cC cS G) s.heap.size) q := roF hS hA
                                                refine va_calli (va_runV (As := [.int x6_259, .int 3]) (rest := []) ⟨hx, hb, hml, hown, hts⟩ (c_X5_feed l dC dI cI cC cS a G_259 H.size x6_259 3 hG_259) (cwV 2 hts gL_isRight_X5_feed rfl rfl rfl (by decide +kernel) ⟨Nat.le_of_ble_eq_true rfl, Nat.le_of_ble_eq_true rfl⟩) (pV (q0 := 0) hK hPc hDc hN rfl rfl) rfl rfl hl.1 rfl (lv_room (Nat.le_of_ble_eq_true rfl)) dL_isRight_263 ⟨Nat.le_of_ble_eq_true rfl, Nat.le_of_ble_eq_true rfl⟩) hS (fun q _ h => hFc q h) hFc (fun r_100 u_100 t_100 H101 locs ht hvm hw hB hz1 hk1 hS => ?_)
                                                subst hw
                                                have hP := ro_keep hP hk1
                                                refine lv_iload_n hx hb dL_isRight_266 rfl (lv_at hl 2 rfl) ?_
                                                refine lv_ishr hx hb dL_isRight_267 ?_
                                                refine lv_iconst (v := 1) hx hb dL_isRight_268 (by decide) ?_
                                                refine lv_iand hx hb dL_isRight_269 ?_
                                                refine lv_iconst (v := 1) hx hb dL_isRight_270 (by decide) ?_
                                                have hJ_279 : ∀ (x1_279 : Int32) (x2_279 : Int32) (x3_279 : Int32) (x6_279 : Int32) (x7_279 : Int32) (x8_279 : Int32) (x9_279 : Int32) (x10_279 : Int32) (s0_279 : Int32) (G_279 : GR), x2_279 = nI j_4 → x6_279 = nI j_186 → WFG G_279 → R0 = f_L_isRight_p279 (f_L_isRight_p4 n_4) (f_L_isRight_p186 (f_L_isRight_p4 n_4) n_186) x1_279 x2_279 x3_279 x6_279 x7_279 x8_279 x9_279 x10_279 s0_279 G_279 → ∀ (H : Heap) (locs : List Loc) (ls : Array Slot), va_P (dC, dI) vwCl (cDk a cI cC cS G_279) H → va_D (va_A (cDk a cI cC cS G) s.heap.size) (cDk a cI cC cS G_279) → va_S (va_A (cDk a cI cC cS G) s.heap.size) s.heap H locs → lv_has ls 11 [(0, .ref (a 0)), (1, .int x1_279), (2, .int x2_279), (3, .int x3_279), (6, .int x6_279), (7, .int x7_279), (8, .int x8_279), (9, .int x9_279), (10, .int x10_279)] → W p l e (headSpec wsL_isRight rm_L_isRight).room s m ([.ref (a 0)] : List Value).toArray below meth c H locs 0 0 (MQ below (va_Qi (fun (r : Int32) (u : GR) => (r, u) = f_L_isRight G ∧ (WFG u) ∧ (r = 0 ∨ r = 1)) (fun u U => va_P (dC, dI) vwCl (cDk a cI cC cS u) U.heap ∧ va_D (va_A (cDk a cI cC cS G) s.heap.size) (cDk a cI cC cS u)) (va_A (cDk a cI cC cS G) s.heap.size)) ([.ref (a 0)] : List Value).toArray s 0 0 (va_A (cDk a cI cC cS G) s.heap.size)) (F0 m 279 ls [.int s0_279]) := by
                                                  intro x1_279 x2_279 x3_279 x6_279 x7_279 x8_279 x9_279 x10_279 s0_279 G_279 ex2_279 ex6_279 hG_279 hR H locs ls hP hD hS hl
                                                  rw [f_L_isRight_p279] at hR
                                                  refine lv_iload hx hb dL_isRight_279 (lv_at hl 5 rfl) ?_
                                                  have hJ_289 : ∀ (x1_289 : Int32) (x2_289 : Int32) (x3_289 : Int32) (x6_289 : Int32) (x7_289 : Int32) (x8_289 : Int32) (x9_289 : Int32) (x10_289 : Int32) (s0_289 : Int32) (s1_289 : Int32) (G_289 : GR), x2_289 = nI j_4 → x6_289 = nI j_186 → WFG G_289 → R0 = f_L_isRight_p289 (f_L_isRight_p4 n_4) (f_L_isRight_p186 (f_L_isRight_p4 n_4) n_186) x1_289 x2_289 x3_289 x6_289 x7_289 x8_289 x9_289 x10_289 s0_289 s1_289 G_289 → ∀ (H : Heap) (locs : List Loc) (ls : Array Slot), va_P (dC, dI) vwCl (cDk a cI cC cS G_289) H → va_D (va_A (cDk a cI cC cS G) s.heap.size) (cDk a cI cC cS G_289) → va_S (va_A (cDk a cI cC cS G) s.heap.size) s.heap H locs → lv_has ls 11 [(0, .ref (a 0)), (1, .int x1_289), (2, .int x2_289), (3, .int x3_289), (6, .int x6_289), (7, .int x7_289), (8, .int x8_289), (9, .int x9_289), (10, .int x10_289)] → W p l e (headSpec wsL_isRight rm_L_isRight).room s m ([.ref (a 0)] : List Value).toArray below meth c H locs 0 0 (MQ below (va_Qi (fun (r : Int32) (u : GR) => (r, u) = f_L_isRight G ∧ (WFG u) ∧ (r = 0 ∨ r = 1)) (fun u U => va_P (dC, dI) vwCl (cDk a cI cC cS u) U.heap ∧ va_D (va_A (cDk a cI cC cS G) s.heap.size) (cDk a cI cC cS u)) (va_A (cDk a cI cC cS G) s.heap.size)) ([.ref (a 0)] : List Value).toArray s 0 0 (va_A (cDk a cI cC cS G) s.heap.size)) (F0 m 289 ls [.int s0_289, .int s1_289]) := by
                                                    intro x1_289 x2_289 x3_289 x6_289 x7_289 x8_289 x9_289 x10_289 s0_289 s1_289 G_289 ex2_289 ex6_289 hG_289 hR H locs ls hP hD hS hl
                                                    rw [f_L_isRight_p289] at hR
                                                    refine lv_icmp_ne (tgt := 357) hx hb dL_isRight_289 (by decide) (fun c102 => ?_) (fun c102 => ?_)
                                                    · rw [if_neg c102] at hR
                                                      refine lv_iconst (v := 0) hx hb dL_isRight_357 (by decide) ?_
                                                      exact W.zret (v := 0) hx hb hr rfl (fun t ht hWw => ⟨⟨0, G_289, rfl, ⟨hR.symm.trans eR, hG_289, (Or.inl rfl)⟩, by rw [ht]; exact hP, hD⟩, hS.F ht⟩) hS.2.2 dL_isRight_358
                                                    · rw [if_pos c102] at hR
                                                      refine lv_iload hx hb dL_isRight_292 (lv_at hl 6 rfl) ?_
                                                      refine lv_iconst (v := 1) hx hb dL_isRight_294 (by decide) ?_
                                                      have hJ_303 : ∀ (x1_303 : Int32) (x2_303 : Int32) (x3_303 : Int32) (x6_303 : Int32) (x7_303 : Int32) (x8_303 : Int32) (x9_303 : Int32) (x10_303 : Int32) (s0_303 : Int32) (G_303 : GR), x2_303 = nI j_4 → x6_303 = nI j_186 → WFG G_303 → R0 = f_L_isRight_p303 (f_L_isRight_p4 n_4) (f_L_isRight_p186 (f_L_isRight_p4 n_4) n_186) x1_303 x2_303 x3_303 x6_303 x7_303 x8_303 x9_303 x10_303 s0_303 G_303 → ∀ (H : Heap) (locs : List Loc) (ls : Array Slot), va_P (dC, dI) vwCl (cDk a cI cC cS G_303) H → va_D (va_A (cDk a cI cC cS G) s.heap.size) (cDk a cI cC cS G_303) → va_S (va_A (cDk a cI cC cS G) s.heap.size) s.heap H locs → lv_has ls 11 [(0, .ref (a 0)), (1, .int x1_303), (2, .int x2_303), (3, .int x3_303), (6, .int x6_303), (7, .int x7_303), (8, .int x8_303), (9, .int x9_303), (10, .int x10_303)] → W p l e (headSpec wsL_isRight rm_L_isRight).room s m ([.ref (a 0)] : List Value).toArray below meth c H locs 0 0 (MQ below (va_Qi (fun (r : Int32) (u : GR) => (r, u) = f_L_isRight G ∧ (WFG u) ∧ (r = 0 ∨ r = 1)) (fun u U => va_P (dC, dI) vwCl (cDk a cI cC cS u) U.heap ∧ va_D (va_A (cDk a cI cC cS G) s.heap.size) (cDk a cI cC cS u)) (va_A (cDk a cI cC cS G) s.heap.size)) ([.ref (a 0)] : List Value).toArray s 0 0 (va_A (cDk a cI cC cS G) s.heap.size)) (F0 m 303 ls [.int s0_303]) := by
                                                        intro x1_303 x2_303 x3_303 x6_303 x7_303 x8_303 x9_303 x10_303 s0_303 G_303 ex2_303 ex6_303 hG_303 hR H locs ls hP hD hS hl
                                                        rw [f_L_isRight_p303] at hR
                                                        refine lv_iload hx hb dL_isRight_303 (lv_at hl 5 rfl) ?_
                                                        have hJ_313 : ∀ (x1_313 : Int32) (x2_313 : Int32) (x3_313 : Int32) (x6_313 : Int32) (x7_313 : Int32) (x8_313 : Int32) (x9_313 : Int32) (x10_313 : Int32) (s0_313 : Int32) (s1_313 : Int32) (G_313 : GR), x2_313 = nI j_4 → x6_313 = nI j_186 → WFG G_313 → R0 = f_L_isRight_p313 (f_L_isRight_p4 n_4) (f_L_isRight_p186 (f_L_isRight_p4 n_4) n_186) x1_313 x2_313 x3_313 x6_313 x7_313 x8_313 x9_313 x10_313 s0_313 s1_313 G_313 → ∀ (H : Heap) (locs : List Loc) (ls : Array Slot), va_P (dC, dI) vwCl (cDk a cI cC cS G_313) H → va_D (va_A (cDk a cI cC cS G) s.heap.size) (cDk a cI cC cS G_313) → va_S (va_A (cDk a cI cC cS G) s.heap.size) s.heap H locs → lv_has ls 11 [(0, .ref (a 0)), (1, .int x1_313), (2, .int x2_313), (3, .int x3_313), (6, .int x6_313), (7, .int x7_313), (8, .int x8_313), (9, .int x9_313), (10, .int x10_313)] → W p l e (headSpec wsL_isRight rm_L_isRight).room s m ([.ref (a 0)] : List Value).toArray below meth c H locs 0 0 (MQ below (va_Qi (fun (r : Int32) (u : GR) => (r, u) = f_L_isRight G ∧ (WFG u) ∧ (r = 0 ∨ r = 1)) (fun u U => va_P (dC, dI) vwCl (cDk a cI cC cS u) U.heap ∧ va_D (va_A (cDk a cI cC cS G) s.heap.size) (cDk a cI cC cS u)) (va_A (cDk a cI cC cS G) s.heap.size)) ([.ref (a 0)] : List Value).toArray s 0 0 (va_A (cDk a cI cC cS G) s.heap.size)) (F0 m 313 ls [.int s0_313, .int s1_313]) := by
                                                          intro x1_313 x2_313 x3_313 x6_313 x7_313 x8_313 x9_313 x10_313 s0_313 s1_313 G_313 ex2_313 ex6_313 hG_313 hR H locs ls hP hD hS hl
                                                          rw [f_L_isRight_p313] at hR
                                                          refine lv_icmp_ne (tgt := 357) hx hb dL_isRight_313 (by decide) (fun c103 => ?_) (fun c103 => ?_)
                                                          · rw [if_neg c103] at hR
                                                            refine lv_iconst (v := 0) hx hb dL_isRight_357 (by decide) ?_
                                                            exact W.zret (v := 0) hx hb hr rfl (fun t ht hWw => ⟨⟨0, G_313, rfl, ⟨hR.symm.trans eR, hG_313, (Or.inl rfl)⟩, by rw [ht]; exact hP, hD⟩, hS.F ht⟩) hS.2.2 dL_isRight_358
                                                          · rw [if_pos c103] at hR
                                                            refine lv_iload hx hb dL_isRight_316 (lv_at hl 6 rfl) ?_
                                                            have hJ_326 : ∀ (x1_326 : Int32) (x2_326 : Int32) (x3_326 : Int32) (x6_326 : Int32) (x7_326 : Int32) (x8_326 : Int32) (x9_326 : Int32) (x10_326 : Int32) (s0_326 : Int32) (G_326 : GR), x2_326 = nI j_4 → x6_326 = nI j_186 → WFG G_326 → R0 = f_L_isRight_p326 (f_L_isRight_p4 n_4) (f_L_isRight_p186 (f_L_isRight_p4 n_4) n_186) x1_326 x2_326 x3_326 x6_326 x7_326 x8_326 x9_326 x10_326 s0_326 G_326 → ∀ (H : Heap) (locs : List Loc) (ls : Array Slot), va_P (dC, dI) vwCl (cDk a cI cC cS G_326) H → va_D (va_A (cDk a cI cC cS G) s.heap.size) (cDk a cI cC cS G_326) → va_S (va_A (cDk a cI cC cS G) s.heap.size) s.heap H locs → lv_has ls 11 [(0, .ref (a 0)), (1, .int x1_326), (2, .int x2_326), (3, .int x3_326), (6, .int x6_326), (7, .int x7_326), (8, .int x8_326), (9, .int x9_326), (10, .int x10_326)] → W p l e (headSpec wsL_isRight rm_L_isRight).room s m ([.ref (a 0)] : List Value).toArray below meth c H locs 0 0 (MQ below (va_Qi (fun (r : Int32) (u : GR) => (r, u) = f_L_isRight G ∧ (WFG u) ∧ (r = 0 ∨ r = 1)) (fun u U => va_P (dC, dI) vwCl (cDk a cI cC cS u) U.heap ∧ va_D (va_A (cDk a cI cC cS G) s.heap.size) (cDk a cI cC cS u)) (va_A (cDk a cI cC cS G) s.heap.size)) ([.ref (a 0)] : List Value).toArray s 0 0 (va_A (cDk a cI cC cS G) s.heap.size)) (F0 m 326 ls [.int s0_326]) := by
                                                              intro x1_326 x2_326 x3_326 x6_326 x7_326 x8_326 x9_326 x10_326 s0_326 G_326 ex2_326 ex6_326 hG_326 hR H locs ls hP hD hS hl
                                                              rw [f_L_isRight_p326] at hR
                                                              refine lv_iload hx hb dL_isRight_326 (lv_at hl 7 rfl) ?_
                                                              have hJ_336 : ∀ (x1_336 : Int32) (x2_336 : Int32) (x3_336 : Int32) (x6_336 : Int32) (x7_336 : Int32) (x8_336 : Int32) (x9_336 : Int32) (x10_336 : Int32) (s0_336 : Int32) (s1_336 : Int32) (G_336 : GR), x2_336 = nI j_4 → x6_336 = nI j_186 → WFG G_336 → R0 = f_L_isRight_p336 (f_L_isRight_p4 n_4) (f_L_isRight_p186 (f_L_isRight_p4 n_4) n_186) x1_336 x2_336 x3_336 x6_336 x7_336 x8_336 x9_336 x10_336 s0_336 s1_336 G_336 → ∀ (H : Heap) (locs : List Loc) (ls : Array Slot), va_P (dC, dI) vwCl (cDk a cI cC cS G_336) H → va_D (va_A (cDk a cI cC cS G) s.heap.size) (cDk a cI cC cS G_336) → va_S (va_A (cDk a cI cC cS G) s.heap.size) s.heap H locs → lv_has ls 11 [(0, .ref (a 0)), (1, .int x1_336), (2, .int x2_336), (3, .int x3_336), (6, .int x6_336), (7, .int x7_336), (8, .int x8_336), (9, .int x9_336), (10, .int x10_336)] → W p l e (headSpec wsL_isRight rm_L_isRight).room s m ([.ref (a 0)] : List Value).toArray below meth c H locs 0 0 (MQ below (va_Qi (fun (r : Int32) (u : GR) => (r, u) = f_L_isRight G ∧ (WFG u) ∧ (r = 0 ∨ r = 1)) (fun u U => va_P (dC, dI) vwCl (cDk a cI cC cS u) U.heap ∧ va_D (va_A (cDk a cI cC cS G) s.heap.size) (cDk a cI cC cS u)) (va_A (cDk a cI cC cS G) s.heap.size)) ([.ref (a 0)] : List Value).toArray s 0 0 (va_A (cDk a cI cC cS G) s.heap.size)) (F0 m 336 ls [.int s0_336, .int s1_336]) := by
                                                                intro x1_336 x2_336 x3_336 x6_336 x7_336 x8_336 x9_336 x10_336 s0_336 s1_336 G_336 ex2_336 ex6_336 hG_336 hR H locs ls hP hD hS hl
                                                                rw [f_L_isRight_p336] at hR
                                                                refine lv_icmp_ne (tgt := 357) hx hb dL_isRight_336 (by decide) (fun c104 => ?_) (fun c104 => ?_)
                                                                · rw [if_neg c104] at hR
                                                                  refine lv_iconst (v := 0) hx hb dL_isRight_357 (by decide) ?_
                                                                  exact W.zret (v := 0) hx hb hr rfl (fun t ht hWw => ⟨⟨0, G_336, rfl, ⟨hR.symm.trans eR, hG_336, (Or.inl rfl)⟩, by rw [ht]; exact hP, hD⟩, hS.F ht⟩) hS.2.2 dL_isRight_358
                                                                · rw [if_pos c104] at hR
                                                                  refine lv_iload hx hb dL_isRight_339 (lv_at hl 7 rfl) ?_
                                                                  refine lv_iload_n hx hb dL_isRight_341 rfl (lv_at hl 3 rfl) ?_
                                                                  refine lv_icmp_gt (tgt := 357) hx hb dL_isRight_342 (by decide) (fun c105 => ?_) (fun c105 => ?_)
                                                                  · rw [if_pos c105] at hR
                                                                    refine lv_iconst (v := 0) hx hb dL_isRight_357 (by decide) ?_
                                                                    exact W.zret (v := 0) hx hb hr rfl (fun t ht hWw => ⟨⟨0, G_336, rfl, ⟨hR.symm.trans eR, hG_336, (Or.inl rfl)⟩, by rw [ht]; exact hP, hD⟩, hS.F ht⟩) hS.2.2 dL_isRight_358
                                                                  · rw [if_neg c105] at hR
                                                                    refine lv_iload hx hb dL_isRight_345 (lv_at hl 5 rfl) ?_
                                                                    refine lv_iload hx hb dL_isRight_347 (lv_at hl 7 rfl) ?_
                                                                    have hJ_359 : ∀ (x1_359 : Int32) (x2_359 : Int32) (x3_359 : Int32) (x6_359 : Int32) (x8_359 : Int32) (x10_359 : Int32)  (G_359 : GR), x2_359 = nI j_4 → x6_359 = nI j_186 → WFG G_359 → R0 = f_L_isRight_p359 (f_L_isRight_p4 n_4) (f_L_isRight_p186 (f_L_isRight_p4 n_4) n_186) x1_359 x2_359 x3_359 x6_359 x8_359 x10_359 G_359 → ∀ (H : Heap) (locs : List Loc) (ls : Array Slot), va_P (dC, dI) vwCl (cDk a cI cC cS G_359) H → va_D (va_A (cDk a cI cC cS G) s.heap.size) (cDk a cI cC cS G_359) → va_S (va_A (cDk a cI cC cS G) s.heap.size) s.heap H locs → lv_has ls 11 [(0, .ref (a 0)), (1, .int x1_359), (2, .int x2_359), (3, .int x3_359), (6, .int x6_359), (8, .int x8_359), (10, .int x10_359)] → W p l e (headSpec wsL_isRight rm_L_isRight).room s m ([.ref (a 0)] : List Value).toArray below meth c H locs 0 0 (MQ below (va_Qi (fun (r : Int32) (u : GR) => (r, u) = f_L_isRight G ∧ (WFG u) ∧ (r = 0 ∨ r = 1)) (fun u U => va_P (dC, dI) vwCl (cDk a cI cC cS u) U.heap ∧ va_D (va_A (cDk a cI cC cS G) s.heap.size) (cDk a cI cC cS u)) (va_A (cDk a cI cC cS G) s.heap.size)) ([.ref (a 0)] : List Value).toArray s 0 0 (va_A (cDk a cI cC cS G) s.heap.size)) (F0 m 359 ls []) := by
                                                                      intro x1_359 x2_359 x3_359 x6_359 x8_359 x10_359 G_359 ex2_359 ex6_359 hG_359 hR H locs ls hP hD hS hl
                                                                      rw [f_L_isRight_p359] at hR
                                                                      refine lv_iload hx hb dL_isRight_359 (lv_at hl 5 rfl) ?_
                                                                      have hJ_423 : ∀ (x1_423 : Int32) (x2_423 : Int32) (x3_423 : Int32) (x6_423 : Int32) (x8_423 : Int32) (x10_423 : Int32)  (G_423 : GR), x2_423 = nI j_4 → x6_423 = nI j_186 → WFG G_423 → R0 = f_L_isRight_p423 (f_L_isRight_p4 n_4) (f_L_isRight_p186 (f_L_isRight_p4 n_4) n_186) x1_423 x2_423 x3_423 x6_423 x8_423 x10_423 G_423 → ∀ (H : Heap) (locs : List Loc) (ls : Array Slot), va_P (dC, dI) vwCl (cDk a cI cC cS G_423) H → va_D (va_A (cDk a cI cC cS G) s.heap.size) (cDk a cI cC cS G_423) → va_S (va_A (cDk a cI cC cS G) s.heap.size) s.heap H locs → lv_has ls 11 [(0, .ref (a 0)), (1, .int x1_423), (2, .int x2_423), (3, .int x3_423), (6, .int x6_423), (8, .int x8_423), (10, .int x10_423)] → W p l e (headSpec wsL_isRight rm_L_isRight).room s m ([.ref (a 0)] : List Value).toArray below meth c H locs 0 0 (MQ below (va_Qi (fun (r : Int32) (u : GR) => (r, u) = f_L_isRight G ∧ (WFG u) ∧ (r = 0 ∨ r = 1)) (fun u U => va_P (dC, dI) vwCl (cDk a cI cC cS u) U.heap ∧ va_D (va_A (cDk a cI cC cS G) s.heap.size) (cDk a cI cC cS u)) (va_A (cDk a cI cC cS G) s.heap.size)) ([.ref (a 0)] : List Value).toArray s 0 0 (va_A (cDk a cI cC cS G) s.heap.size)) (F0 m 423 ls []) := by
                                                                        intro x1_423 x2_423 x3_423 x6_423 x8_423 x10_423 G_423 ex2_423 ex6_423 hG_423 hR H locs ls hP hD hS hl
                                                                        rw [f_L_isRight_p423] at hR
                                                                        refine lv_aload_n hx hb dL_isRight_423 rfl (lv_at hl 0 rfl) ?_
                                                                        refine lv_iload hx hb dL_isRight_424 (lv_at hl 4 rfl) ?_
                                                                        have hPc : va_P (dC, dI) vwCl (cDk a cI cC cS G_423) H := hP.sub [0, 1, 2, 3, 4, 5, 6, 7, 8, 9, 10, 11, 12, 13, 14, 15, 16, 17, 18, 19, 20, 21, 22, 23, 24, 25, 26, 27, 28, 29, 30, 31, 32, 33, 34, 35, 36, 37, 38, 39, 40, 41, 42, 43, 44, 45, 46, 47, 48, 49, 50, 51, 52, 53, 54, 55, 56, 57, 58, 59, 60, 61, 62, 63, 64, 65, 66, 67, 68, 69, 70, 71, 72, 73, 74, 75, 76, 77, 78, 79, 80, 81, 82, 83, 84, 85, 86, 87, 88, 89, 90, 91, 92] rfl
                                                                        have hDc : va_D (va_A (cDk a cI cC cS G) s.heap.size) (cDk a cI cC cS G_423) := hD.sub [0, 1, 2, 3, 4, 5, 6, 7, 8, 9, 10, 11, 12, 13, 14, 15, 16, 17, 18, 19, 20, 21, 22, 23, 24, 25, 26, 27, 28, 29, 30, 31, 32, 33, 34, 35, 36, 37, 38, 39, 40, 41, 42, 43, 44, 45, 46, 47, 48, 49, 50, 51, 52, 53, 54, 55, 56, 57, 58, 59, 60, 61, 62, 63, 64, 65, 66, 67, 68, 69, 70, 71, 72, 73, 74, 75, 76, 77, 78, 79, 80, 81, 82, 83, 84, 85, 86, 87, 88, 89, 90, 91, 92] (by decide) rfl
                                                                        have hFc : ∀ q : Nat, va_A (cDk a cI cC cS G_423) H.size q → (va_A (cDk a cI cC cS G) s.heap.size) q := va_free hD hS hA [0, 1, 2, 3, 4, 5, 6, 7, 8, 9, 10, 11, 12, 13, 14, 15, 16, 17, 18, 19, 20, 21, 22, 23, 24, 25, 26, 27, 28, 29, 30, 31, 32, 33, 34, 35, 36, 37, 38, 39, 40, 41, 42, 43, 44, 45, 46, 47, 48, 49, 50, 51, 52, 53, 54, 55, 56, 57, 58, 59, 60, 61, 62, 63, 64, 65, 66, 67, 68, 69, 70, 71, 72, 73, 74, 75, 76, 77, 78, 79, 80, 81, 82, 83, 84, 85, 86, 87, 88, 89, 90, 91, 92] rfl
                                                                        refine va_calli (va_runV (As := [.int x6_423]) (rest := []) ⟨hx, hb, hml, hown, hts⟩ (c_X5_hearers l dC dI cI cC cS a G_423 H.size x6_423 hG_423) (cwV 1 hts gL_isRight_X5_hearers rfl rfl rfl (by decide +kernel) ⟨Nat.le_of_ble_eq_true rfl, Nat.le_of_ble_eq_true rfl⟩) (pV (q0 := 0) hK hPc hDc hN rfl rfl) rfl rfl hl.1 rfl (lv_room (Nat.le_of_ble_eq_true rfl)) dL_isRight_426 ⟨Nat.le_of_ble_eq_true rfl, Nat.le_of_ble_eq_true rfl⟩) hS (fun q _ h => hFc q h) hFc (fun r_106 u_106 t_106 H107 locs ht hvm hw hB hz1 hk1 hS => ?_)
                                                                        obtain ⟨hw, hens108⟩ := hw
                                                                        obtain ⟨hP1, hD1⟩ := hB
                                                                        rw [ht] at hP1
                                                                        have hw1 : r_106 = (f_X5_hearers G_423 x6_423).1 := congrArg Prod.fst hw
                                                                        have hw2 : u_106 = (f_X5_hearers G_423 x6_423).2 := congrArg Prod.snd hw
                                                                        clear hw
                                                                        subst hw1
                                                                        subst hw2
                                                                        obtain ⟨hP, hD⟩ := va_join (wc := cDk a cI cC cS G_423) (wr := []) (w1 := cDk a cI cC cS ((f_X5_hearers G_423 x6_423).2)) hP hD [0, 1, 2, 3, 4, 5, 6, 7, 8, 9, 10, 11, 12, 13, 14, 15, 16, 17, 18, 19, 20, 21, 22, 23, 24, 25, 26, 27, 28, 29, 30, 31, 32, 33, 34, 35, 36, 37, 38, 39, 40, 41, 42, 43, 44, 45, 46, 47, 48, 49, 50, 51, 52, 53, 54, 55, 56, 57, 58, 59, 60, 61, 62, 63, 64, 65, 66, 67, 68, 69, 70, 71, 72, 73, 74, 75, 76, 77, 78, 79, 80, 81, 82, 83, 84, 85, 86, 87, 88, 89, 90, 91, 92] [] rfl rfl (by decide) (by decide) hk1 hFc hP1 hD1
                                                                        have hP : va_P (dC, dI) vwCl (cDk a cI cC cS ((f_X5_hearers G_423 x6_423).2)) H107 := hP.sub [0, 1, 2, 3, 4, 5, 6, 7, 8, 9, 10, 11, 12, 13, 14, 15, 16, 17, 18, 19, 20, 21, 22, 23, 24, 25, 26, 27, 28, 29, 30, 31, 32, 33, 34, 35, 36, 37, 38, 39, 40, 41, 42, 43, 44, 45, 46, 47, 48, 49, 50, 51, 52, 53, 54, 55, 56, 57, 58, 59, 60, 61, 62, 63, 64, 65, 66, 67, 68, 69, 70, 71, 72, 73, 74, 75, 76, 77, 78, 79, 80, 81, 82, 83, 84, 85, 86, 87, 88, 89, 90, 91, 92] rfl
                                                                        have hD : va_D (va_A (cDk a cI cC cS G) s.heap.size) (cDk a cI cC cS ((f_X5_hearers G_423 x6_423).2)) := hD.sub [0, 1, 2, 3, 4, 5, 6, 7, 8, 9, 10, 11, 12, 13, 14, 15, 16, 17, 18, 19, 20, 21, 22, 23, 24, 25, 26, 27, 28, 29, 30, 31, 32, 33, 34, 35, 36, 37, 38, 39, 40, 41, 42, 43, 44, 45, 46, 47, 48, 49, 50, 51, 52, 53, 54, 55, 56, 57, 58, 59, 60, 61, 62, 63, 64, 65, 66, 67, 68, 69, 70, 71, 72, 73, 74, 75, 76, 77, 78, 79, 80, 81, 82, 83, 84, 85, 86, 87, 88, 89, 90, 91, 92] (by decide) rfl
                                                                        obtain ⟨Gn109, eGn109⟩ : ∃ z : GR, z = (f_X5_hearers G_423 x6_423).2 := ⟨_, rfl⟩
                                                                        rw [sLet_eq, ← eGn109] at hR
                                                                        rw [← eGn109] at hP hD
                                                                        have hG110 : WFG Gn109 := by rw [eGn109]; exact hens108
                                                                        refine lv_iload_n hx hb dL_isRight_429 rfl (lv_at hl 2 rfl) ?_
                                                                        refine lv_ishr hx hb dL_isRight_430 ?_
                                                                        refine lv_iconst (v := 1) hx hb dL_isRight_431 (by decide) ?_
                                                                        refine lv_iand hx hb dL_isRight_432 ?_
                                                                        refine lv_iconst (v := 1) hx hb dL_isRight_433 (by decide) ?_
                                                                        have hJ_442 : ∀ (x1_442 : Int32) (x2_442 : Int32) (x3_442 : Int32) (x6_442 : Int32) (x8_442 : Int32) (x10_442 : Int32) (s0_442 : Int32) (G_442 : GR), x2_442 = nI j_4 → x6_442 = nI j_186 → WFG G_442 → R0 = f_L_isRight_p442 (f_L_isRight_p4 n_4) (f_L_isRight_p186 (f_L_isRight_p4 n_4) n_186) x1_442 x2_442 x3_442 x6_442 x8_442 x10_442 s0_442 G_442 → ∀ (H : Heap) (locs : List Loc) (ls : Array Slot), va_P (dC, dI) vwCl (cDk a cI cC cS G_442) H → va_D (va_A (cDk a cI cC cS G) s.heap.size) (cDk a cI cC cS G_442) → va_S (va_A (cDk a cI cC cS G) s.heap.size) s.heap H locs → lv_has ls 11 [(0, .ref (a 0)), (1, .int x1_442), (2, .int x2_442), (3, .int x3_442), (6, .int x6_442), (8, .int x8_442), (10, .int x10_442)] → W p l e (headSpec wsL_isRight rm_L_isRight).room s m ([.ref (a 0)] : List Value).toArray below meth c H locs 0 0 (MQ below (va_Qi (fun (r : Int32) (u : GR) => (r, u) = f_L_isRight G ∧ (WFG u) ∧ (r = 0 ∨ r = 1)) (fun u U => va_P (dC, dI) vwCl (cDk a cI cC cS u) U.heap ∧ va_D (va_A (cDk a cI cC cS G) s.heap.size) (cDk a cI cC cS u)) (va_A (cDk a cI cC cS G) s.heap.size)) ([.ref (a 0)] : List Value).toArray s 0 0 (va_A (cDk a cI cC cS G) s.heap.size)) (F0 m 442 ls [.int s0_442]) := by
                                                                          intro x1_442 x2_442 x3_442 x6_442 x8_442 x10_442 s0_442 G_442 ex2_442 ex6_442 hG_442 hR H locs ls hP hD hS hl
                                                                          rw [f_L_isRight_p442] at hR
                                                                          refine lv_iload hx hb dL_isRight_442 (lv_at hl 6 rfl) ?_
                                                                          have hJ_457 : ∀ (x1_457 : Int32) (x2_457 : Int32) (x3_457 : Int32) (x6_457 : Int32) (s0_457 : Int32) (s1_457 : Int32) (G_457 : GR), x2_457 = nI j_4 → x6_457 = nI j_186 → WFG G_457 → R0 = f_L_isRight_p457 (f_L_isRight_p4 n_4) (f_L_isRight_p186 (f_L_isRight_p4 n_4) n_186) x1_457 x2_457 x3_457 x6_457 s0_457 s1_457 G_457 → ∀ (H : Heap) (locs : List Loc) (ls : Array Slot), va_P (dC, dI) vwCl (cDk a cI cC cS G_457) H → va_D (va_A (cDk a cI cC cS G) s.heap.size) (cDk a cI cC cS G_457) → va_S (va_A (cDk a cI cC cS G) s.heap.size) s.heap H locs → lv_has ls 11 [(0, .ref (a 0)), (1, .int x1_457), (2, .int x2_457), (3, .int x3_457), (6, .int x6_457)] → W p l e (headSpec wsL_isRight rm_L_isRight).room s m ([.ref (a 0)] : List Value).toArray below meth c H locs 0 0 (MQ below (va_Qi (fun (r : Int32) (u : GR) => (r, u) = f_L_isRight G ∧ (WFG u) ∧ (r = 0 ∨ r = 1)) (fun u U => va_P (dC, dI) vwCl (cDk a cI cC cS u) U.heap ∧ va_D (va_A (cDk a cI cC cS G) s.heap.size) (cDk a cI cC cS u)) (va_A (cDk a cI cC cS G) s.heap.size)) ([.ref (a 0)] : List Value).toArray s 0 0 (va_A (cDk a cI cC cS G) s.heap.size)) (F0 m 457 ls [.int s0_457, .int s1_457]) := by
                                                                            intro x1_457 x2_457 x3_457 x6_457 s0_457 s1_457 G_457 ex2_457 ex6_457 hG_457 hR H locs ls hP hD hS hl
                                                                            rw [f_L_isRight_p457] at hR
                                                                            refine lv_icmp_eq (tgt := 462) hx hb dL_isRight_457 (by decide) (fun c111 => ?_) (fun c111 => ?_)
                                                                            · rw [if_pos c111] at hR
                                                                              refine lv_iinc (v := x6_457 + 1) (lv' := [(6, .int (x6_457 + 1)), (0, .ref (a 0)), (1, .int x1_457), (2, .int x2_457), (3, .int x3_457)]) hx hb dL_isRight_462 hl (k := 4) rfl rfl (by decide) rfl (fun ls hl => ?_)
                                                                              refine lv_goto (tgt := 186) hx hb dL_isRight_465 (by decide) ?_
                                                                              exact ih_186 (j_186 + 1) x1_457 x2_457 x3_457 (x6_457 + 1) G_457 (by rw [ex6_457, nI_1]) (by omega) (by omega) ex2_457 hG_457 hR _ _ _ hP hD hS (lv_sub hl [1, 2, 3, 4, 0] rfl)
                                                                            · rw [if_neg c111] at hR
                                                                              refine lv_iconst (v := 0) hx hb dL_isRight_460 (by decide) ?_
                                                                              exact W.zret (v := 0) hx hb hr rfl (fun t ht hWw => ⟨⟨0, G_457, rfl, ⟨hR.symm.trans eR, hG_457, (Or.inl rfl)⟩, by rw [ht]; exact hP, hD⟩, hS.F ht⟩) hS.2.2 dL_isRight_461
                                                                          have hJ_456 : ∀ (x1_456 : Int32) (x2_456 : Int32) (x3_456 : Int32) (x6_456 : Int32) (s0_456 : Int32) (G_456 : GR), x2_456 = nI j_4 → x6_456 = nI j_186 → WFG G_456 → R0 = f_L_isRight_p456 (f_L_isRight_p4 n_4) (f_L_isRight_p186 (f_L_isRight_p4 n_4) n_186) x1_456 x2_456 x3_456 x6_456 s0_456 G_456 → ∀ (H : Heap) (locs : List Loc) (ls : Array Slot), va_P (dC, dI) vwCl (cDk a cI cC cS G_456) H → va_D (va_A (cDk a cI cC cS G) s.heap.size) (cDk a cI cC cS G_456) → va_S (va_A (cDk a cI cC cS G) s.heap.size) s.heap H locs → lv_has ls 11 [(0, .ref (a 0)), (1, .int x1_456), (2, .int x2_456), (3, .int x3_456), (6, .int x6_456)] → W p l e (headSpec wsL_isRight rm_L_isRight).room s m ([.ref (a 0)] : List Value).toArray below meth c H locs 0 0 (MQ below (va_Qi (fun (r : Int32) (u : GR) => (r, u) = f_L_isRight G ∧ (WFG u) ∧ (r = 0 ∨ r = 1)) (fun u U => va_P (dC, dI) vwCl (cDk a cI cC cS u) U.heap ∧ va_D (va_A (cDk a cI cC cS G) s.heap.size) (cDk a cI cC cS u)) (va_A (cDk a cI cC cS G) s.heap.size)) ([.ref (a 0)] : List Value).toArray s 0 0 (va_A (cDk a cI cC cS G) s.heap.size)) (F0 m 456 ls [.int s0_456]) := by
                                                                            intro x1_456 x2_456 x3_456 x6_456 s0_456 G_456 ex2_456 ex6_456 hG_456 hR H locs ls hP hD hS hl
                                                                            rw [f_L_isRight_p456] at hR
                                                                            refine lv_iconst (v := 0) hx hb dL_isRight_456 (by decide) ?_
                                                                            exact hJ_457 x1_456 x2_456 x3_456 x6_456 0 s0_456 G_456 ex2_456 ex6_456 hG_456 hR _ _ _ hP hD hS (lv_sub hl [0, 1, 2, 3, 4] rfl)
                                                                          refine lv_if_eq (tgt := 456) hx hb dL_isRight_444 (by decide) (fun c112 => ?_) (fun c112 => ?_)
                                                                          · rw [if_pos c112] at hR
                                                                            exact hJ_456 x1_442 x2_442 x3_442 x6_442 s0_442 G_442 ex2_442 ex6_442 hG_442 hR _ _ _ hP hD hS (lv_sub hl [0, 1, 2, 3, 4] rfl)
                                                                          · rw [if_neg c112] at hR
                                                                            refine lv_iload hx hb dL_isRight_447 (lv_at hl 5 rfl) ?_
                                                                            refine lv_if_le (tgt := 456) hx hb dL_isRight_449 (by decide) (fun c113 => ?_) (fun c113 => ?_)
                                                                            · rw [if_pos c113] at hR
                                                                              exact hJ_456 x1_442 x2_442 x3_442 x6_442 s0_442 G_442 ex2_442 ex6_442 hG_442 hR _ _ _ hP hD hS (lv_sub hl [0, 1, 2, 3, 4] rfl)
                                                                            · rw [if_neg c113] at hR
                                                                              refine lv_iconst (v := 1) hx hb dL_isRight_452 (by decide) ?_
                                                                              refine lv_goto (tgt := 457) hx hb dL_isRight_453 (by decide) ?_
                                                                              exact hJ_457 x1_442 x2_442 x3_442 x6_442 1 s0_442 G_442 ex2_442 ex6_442 hG_442 hR _ _ _ hP hD hS (lv_sub hl [0, 1, 2, 3, 4] rfl)
                                                                        refine lv_icmp_ne (tgt := 441) hx hb dL_isRight_434 (by decide) (fun c114 => ?_) (fun c114 => ?_)
                                                                        · rw [if_neg c114] at hR
                                                                          refine lv_iconst (v := 0) hx hb dL_isRight_441 (by decide) ?_
                                                                          exact hJ_442 x1_423 x2_423 x3_423 x6_423 x8_423 x10_423 0 Gn109 ex2_423 ex6_423 hG110 hR _ _ _ hP hD hS (lv_sub hl [0, 1, 2, 3, 4, 5, 6] rfl)
                                                                        · rw [if_pos c114] at hR
                                                                          refine lv_iconst (v := 1) hx hb dL_isRight_437 (by decide) ?_
                                                                          refine lv_goto (tgt := 442) hx hb dL_isRight_438 (by decide) ?_
                                                                          exact hJ_442 x1_423 x2_423 x3_423 x6_423 x8_423 x10_423 1 Gn109 ex2_423 ex6_423 hG110 hR _ _ _ hP hD hS (lv_sub hl [0, 1, 2, 3, 4, 5, 6] rfl)
                                                                      refine lv_if_le (tgt := 423) hx hb dL_isRight_361 (by decide) (fun c115 => ?_) (fun c115 => ?_)
                                                                      · rw [if_pos c115] at hR
                                                                        exact hJ_423 x1_359 x2_359 x3_359 x6_359 x8_359 x10_359 G_359 ex2_359 ex6_359 hG_359 hR _ _ _ hP hD hS (lv_sub hl [0, 1, 2, 3, 4, 5, 6] rfl)
                                                                      · rw [if_neg c115] at hR
                                                                        refine lv_iload hx hb dL_isRight_364 (lv_at hl 5 rfl) ?_
                                                                        refine lv_iconst (v := 4) hx hb dL_isRight_366 (by decide) ?_
                                                                        refine lv_icmp_gt (tgt := 421) hx hb dL_isRight_367 (by decide) (fun c116 => ?_) (fun c116 => ?_)
                                                                        · rw [if_pos c116] at hR
                                                                          refine lv_iconst (v := 0) hx hb dL_isRight_421 (by decide) ?_
                                                                          exact W.zret (v := 0) hx hb hr rfl (fun t ht hWw => ⟨⟨0, G_359, rfl, ⟨hR.symm.trans eR, hG_359, (Or.inl rfl)⟩, by rw [ht]; exact hP, hD⟩, hS.F ht⟩) hS.2.2 dL_isRight_422
                                                                        · rw [if_neg c116] at hR
                                                                          refine lv_aload_n hx hb dL_isRight_370 rfl (lv_at hl 0 rfl) ?_
                                                                          refine lv_iload_n hx hb dL_isRight_371 rfl (lv_at hl 2 rfl) ?_
                                                                          refine lv_iload hx hb dL_isRight_372 (lv_at hl 4 rfl) ?_
                                                                          refine lv_iconst (v := 0) hx hb dL_isRight_374 (by decide) ?_
                                                                          have hPc : va_P (dC, dI) vwCl (cDk a cI cC cS G_359) H := hP.sub [0, 1, 2, 3, 4, 5, 6, 7, 8, 9, 10, 11, 12, 13, 14, 15, 16, 17, 18, 19, 20, 21, 22, 23, 24, 25, 26, 27, 28, 29, 30, 31, 32, 33, 34, 35, 36, 37, 38, 39, 40, 41, 42, 43, 44, 45, 46, 47, 48, 49, 50, 51, 52, 53, 54, 55, 56, 57, 58, 59, 60, 61, 62, 63, 64, 65, 66, 67, 68, 69, 70, 71, 72, 73, 74, 75, 76, 77, 78, 79, 80, 81, 82, 83, 84, 85, 86, 87, 88, 89, 90, 91, 92] rfl
                                                                          have hDc : va_D (va_A (cDk a cI cC cS G) s.heap.size) (cDk a cI cC cS G_359) := hD.sub [0, 1, 2, 3, 4, 5, 6, 7, 8, 9, 10, 11, 12, 13, 14, 15, 16, 17, 18, 19, 20, 21, 22, 23, 24, 25, 26, 27, 28, 29, 30, 31, 32, 33, 34, 35, 36, 37, 38, 39, 40, 41, 42, 43, 44, 45, 46, 47, 48, 49, 50, 51, 52, 53, 54, 55, 56, 57, 58, 59, 60, 61, 62, 63, 64, 65, 66, 67, 68, 69, 70, 71, 72, 73, 74, 75, 76, 77, 78, 79, 80, 81, 82, 83, 84, 85, 86, 87, 88, 89, 90, 91, 92] (by decide) rfl
                                                                          have hFc : ∀ q : Nat, va_A (cDk a cI cC cS G_359) H.size q → (va_A (cDk a cI cC cS G) s.heap.size) q := va_free hD hS hA [0, 1, 2, 3, 4, 5, 6, 7, 8, 9, 10, 11, 12, 13, 14, 15, 16, 17, 18, 19, 20, 21, 22, 23, 24, 25, 26, 27, 28, 29, 30, 31, 32, 33, 34, 35, 36, 37, 38, 39, 40, 41, 42, 43, 44, 45, 46, 47, 48, 49, 50, 51, 52, 53, 54, 55, 56, 57, 58, 59, 60, 61, 62, 63, 64, 65, 66, 67, 68, 69, 70, 71, 72, 73, 74, 75, 76, 77, 78, 79, 80, 81, 82, 83, 84, 85, 86, 87, 88, 89, 90, 91, 92] rfl
                                                                          refine va_calli (va_runV (As := [.int x2_359, .int x6_359, .int 0]) (rest := []) ⟨hx, hb, hml, hown, hts⟩ (c_X5_path l dC dI cI cC cS a G_359 H.size x2_359 x6_359 0 hG_359) (cwV 3 hts gL_isRight_X5_path rfl rfl rfl (by decide +kernel) ⟨Nat.le_of_ble_eq_true rfl, Nat.le_of_ble_eq_true rfl⟩) (pV (q0 := 0) hK hPc hDc hN rfl rfl) rfl rfl hl.1 rfl (lv_room (Nat.le_of_ble_eq_true rfl)) dL_isRight_375 ⟨Nat.le_of_ble_eq_true rfl, Nat.le_of_ble_eq_true rfl⟩) hS (fun q _ h => hFc q h) hFc (fun r_117 u_117 t_117 H118 locs ht hvm hw hB hz1 hk1 hS => ?_)
                                                                          obtain ⟨hw, hens119⟩ := hw
                                                                          obtain ⟨hP1, hD1⟩ := hB
                                                                          rw [ht] at hP1
                                                                          have hw1 : r_117 = (f_X5_path G_359 x2_359 x6_359 0).1 := congrArg Prod.fst hw
                                                                          have hw2 : u_117 = (f_X5_path G_359 x2_359 x6_359 0).2 := congrArg Prod.snd hw
                                                                          clear hw
                                                                          subst hw1
                                                                          subst hw2
                                                                          obtain ⟨hP, hD⟩ := va_join (wc := cDk a cI cC cS G_359) (wr := []) (w1 := cDk a cI cC cS ((f_X5_path G_359 x2_359 x6_359 0).2)) hP hD [0, 1, 2, 3, 4, 5, 6, 7, 8, 9, 10, 11, 12, 13, 14, 15, 16, 17, 18, 19, 20, 21, 22, 23, 24, 25, 26, 27, 28, 29, 30, 31, 32, 33, 34, 35, 36, 37, 38, 39, 40, 41, 42, 43, 44, 45, 46, 47, 48, 49, 50, 51, 52, 53, 54, 55, 56, 57, 58, 59, 60, 61, 62, 63, 64, 65, 66, 67, 68, 69, 70, 71, 72, 73, 74, 75, 76, 77, 78, 79, 80, 81, 82, 83, 84, 85, 86, 87, 88, 89, 90, 91, 92] [] rfl rfl (by decide) (by decide) hk1 hFc hP1 hD1
                                                                          have hP : va_P (dC, dI) vwCl (cDk a cI cC cS ((f_X5_path G_359 x2_359 x6_359 0).2)) H118 := hP.sub [0, 1, 2, 3, 4, 5, 6, 7, 8, 9, 10, 11, 12, 13, 14, 15, 16, 17, 18, 19, 20, 21, 22, 23, 24, 25, 26, 27, 28, 29, 30, 31, 32, 33, 34, 35, 36, 37, 38, 39, 40, 41, 42, 43, 44, 45, 46, 47, 48, 49, 50, 51, 52, 53, 54, 55, 56, 57, 58, 59, 60, 61, 62, 63, 64, 65, 66, 67, 68, 69, 70, 71, 72, 73, 74, 75, 76, 77, 78, 79, 80, 81, 82, 83, 84, 85, 86, 87, 88, 89, 90, 91, 92] rfl
                                                                          have hD : va_D (va_A (cDk a cI cC cS G) s.heap.size) (cDk a cI cC cS ((f_X5_path G_359 x2_359 x6_359 0).2)) := hD.sub [0, 1, 2, 3, 4, 5, 6, 7, 8, 9, 10, 11, 12, 13, 14, 15, 16, 17, 18, 19, 20, 21, 22, 23, 24, 25, 26, 27, 28, 29, 30, 31, 32, 33, 34, 35, 36, 37, 38, 39, 40, 41, 42, 43, 44, 45, 46, 47, 48, 49, 50, 51, 52, 53, 54, 55, 56, 57, 58, 59, 60, 61, 62, 63, 64, 65, 66, 67, 68, 69, 70, 71, 72, 73, 74, 75, 76, 77, 78, 79, 80, 81, 82, 83, 84, 85, 86, 87, 88, 89, 90, 91, 92] (by decide) rfl
                                                                          obtain ⟨Gn120, eGn120⟩ : ∃ z : GR, z = (f_X5_path G_359 x2_359 x6_359 0).2 := ⟨_, rfl⟩
                                                                          rw [sLet_eq, ← eGn120] at hR
                                                                          rw [← eGn120] at hP hD
                                                                          have hG121 : WFG Gn120 := by rw [eGn120]; exact hens119
                                                                          refine lv_iload_n hx hb dL_isRight_378 rfl (lv_at hl 2 rfl) ?_
                                                                          refine lv_icmp_ne (tgt := 421) hx hb dL_isRight_379 (by decide) (fun c122 => ?_) (fun c122 => ?_)
                                                                          · rw [if_neg c122] at hR
                                                                            refine lv_iconst (v := 0) hx hb dL_isRight_421 (by decide) ?_
                                                                            exact W.zret (v := 0) hx hb hr rfl (fun t ht hWw => ⟨⟨0, Gn120, rfl, ⟨hR.symm.trans eR, hG121, (Or.inl rfl)⟩, by rw [ht]; exact hP, hD⟩, hS.F ht⟩) hS.2.2 dL_isRight_422
                                                                          · rw [if_pos c122] at hR
                                                                            refine lv_aload_n hx hb dL_isRight_382 rfl (lv_at hl 0 rfl) ?_
                                                                            refine lv_iload_n hx hb dL_isRight_383 rfl (lv_at hl 2 rfl) ?_
                                                                            refine lv_iload hx hb dL_isRight_384 (lv_at hl 4 rfl) ?_
                                                                            refine lv_iload hx hb dL_isRight_386 (lv_at hl 5 rfl) ?_
                                                                            have hPc : va_P (dC, dI) vwCl (cDk a cI cC cS Gn120) H118 := hP.sub [0, 1, 2, 3, 4, 5, 6, 7, 8, 9, 10, 11, 12, 13, 14, 15, 16, 17, 18, 19, 20, 21, 22, 23, 24, 25, 26, 27, 28, 29, 30, 31, 32, 33, 34, 35, 36, 37, 38, 39, 40, 41, 42, 43, 44, 45, 46, 47, 48, 49, 50, 51, 52, 53, 54, 55, 56, 57, 58, 59, 60, 61, 62, 63, 64, 65, 66, 67, 68, 69, 70, 71, 72, 73, 74, 75, 76, 77, 78, 79, 80, 81, 82, 83, 84, 85, 86, 87, 88, 89, 90, 91, 92] rfl
                                                                            have hDc : va_D (va_A (cDk a cI cC cS G) s.heap.size) (cDk a cI cC cS Gn120) := hD.sub [0, 1, 2, 3, 4, 5, 6, 7, 8, 9, 10, 11, 12, 13, 14, 15, 16, 17, 18, 19, 20, 21, 22, 23, 24, 25, 26, 27, 28, 29, 30, 31, 32, 33, 34, 35, 36, 37, 38, 39, 40, 41, 42, 43, 44, 45, 46, 47, 48, 49, 50, 51, 52, 53, 54, 55, 56, 57, 58, 59, 60, 61, 62, 63, 64, 65, 66, 67, 68, 69, 70, 71, 72, 73, 74, 75, 76, 77, 78, 79, 80, 81, 82, 83, 84, 85, 86, 87, 88, 89, 90, 91, 92] (by decide) rfl
                                                                            have hFc : ∀ q : Nat, va_A (cDk a cI cC cS Gn120) H118.size q → (va_A (cDk a cI cC cS G) s.heap.size) q := va_free hD hS hA [0, 1, 2, 3, 4, 5, 6, 7, 8, 9, 10, 11, 12, 13, 14, 15, 16, 17, 18, 19, 20, 21, 22, 23, 24, 25, 26, 27, 28, 29, 30, 31, 32, 33, 34, 35, 36, 37, 38, 39, 40, 41, 42, 43, 44, 45, 46, 47, 48, 49, 50, 51, 52, 53, 54, 55, 56, 57, 58, 59, 60, 61, 62, 63, 64, 65, 66, 67, 68, 69, 70, 71, 72, 73, 74, 75, 76, 77, 78, 79, 80, 81, 82, 83, 84, 85, 86, 87, 88, 89, 90, 91, 92] rfl
                                                                            refine va_calli (va_runV (As := [.int x2_359, .int x6_359, .int x8_359]) (rest := []) ⟨hx, hb, hml, hown, hts⟩ (c_X5_path l dC dI cI cC cS a Gn120 H118.size x2_359 x6_359 x8_359 hG121) (cwV 3 hts gL_isRight_X5_path rfl rfl rfl (by decide +kernel) ⟨Nat.le_of_ble_eq_true rfl, Nat.le_of_ble_eq_true rfl⟩) (pV (q0 := 0) hK hPc hDc hN rfl rfl) rfl rfl hl.1 rfl (lv_room (Nat.le_of_ble_eq_true rfl)) dL_isRight_388 ⟨Nat.le_of_ble_eq_true rfl, Nat.le_of_ble_eq_true rfl⟩) hS (fun q _ h => hFc q h) hFc (fun r_123 u_123 t_123 H124 locs ht hvm hw hB hz1 hk1 hS => ?_)
                                                                            obtain ⟨hw, hens125⟩ := hw
                                                                            obtain ⟨hP1, hD1⟩ := hB
                                                                            rw [ht] at hP1
                                                                            have hw1 : r_123 = (f_X5_path Gn120 x2_359 x6_359 x8_359).1 := congrArg Prod.fst hw
                                                                            have hw2 : u_123 = (f_X5_path Gn120 x2_359 x6_359 x8_359).2 := congrArg Prod.snd hw
                                                                            clear hw
                                                                            subst hw1
                                                                            subst hw2
                                                                            obtain ⟨hP, hD⟩ := va_join (wc := cDk a cI cC cS Gn120) (wr := []) (w1 := cDk a cI cC cS ((f_X5_path Gn120 x2_359 x6_359 x8_359).2)) hP hD [0, 1, 2, 3, 4, 5, 6, 7, 8, 9, 10, 11, 12, 13, 14, 15, 16, 17, 18, 19, 20, 21, 22, 23, 24, 25, 26, 27, 28, 29, 30, 31, 32, 33, 34, 35, 36, 37, 38, 39, 40, 41, 42, 43, 44, 45, 46, 47, 48, 49, 50, 51, 52, 53, 54, 55, 56, 57, 58, 59, 60, 61, 62, 63, 64, 65, 66, 67, 68, 69, 70, 71, 72, 73, 74, 75, 76, 77, 78, 79, 80, 81, 82, 83, 84, 85, 86, 87, 88, 89, 90, 91, 92] [] rfl rfl (by decide) (by decide) hk1 hFc hP1 hD1
                                                                            have hP : va_P (dC, dI) vwCl (cDk a cI cC cS ((f_X5_path Gn120 x2_359 x6_359 x8_359).2)) H124 := hP.sub [0, 1, 2, 3, 4, 5, 6, 7, 8, 9, 10, 11, 12, 13, 14, 15, 16, 17, 18, 19, 20, 21, 22, 23, 24, 25, 26, 27, 28, 29, 30, 31, 32, 33, 34, 35, 36, 37, 38, 39, 40, 41, 42, 43, 44, 45, 46, 47, 48, 49, 50, 51, 52, 53, 54, 55, 56, 57, 58, 59, 60, 61, 62, 63, 64, 65, 66, 67, 68, 69, 70, 71, 72, 73, 74, 75, 76, 77, 78, 79, 80, 81, 82, 83, 84, 85, 86, 87, 88, 89, 90, 91, 92] rfl
                                                                            have hD : va_D (va_A (cDk a cI cC cS G) s.heap.size) (cDk a cI cC cS ((f_X5_path Gn120 x2_359 x6_359 x8_359).2)) := hD.sub [0, 1, 2, 3, 4, 5, 6, 7, 8, 9, 10, 11, 12, 13, 14, 15, 16, 17, 18, 19, 20, 21, 22, 23, 24, 25, 26, 27, 28, 29, 30, 31, 32, 33, 34, 35, 36, 37, 38, 39, 40, 41, 42, 43, 44, 45, 46, 47, 48, 49, 50, 51, 52, 53, 54, 55, 56, 57, 58, 59, 60, 61, 62, 63, 64, 65, 66, 67, 68, 69, 70, 71, 72, 73, 74, 75, 76, 77, 78, 79, 80, 81, 82, 83, 84, 85, 86, 87, 88, 89, 90, 91, 92] (by decide) rfl
                                                                            obtain ⟨Gn126, eGn126⟩ : ∃ z : GR, z = (f_X5_path Gn120 x2_359 x6_359 x8_359).2 := ⟨_, rfl⟩
                                                                            rw [sLet_eq, ← eGn126] at hR
                                                                            rw [← eGn126] at hP hD
                                                                            have hG127 : WFG Gn126 := by rw [eGn126]; exact hens125
                                                                            refine lv_bipush (v := (-99)) hx hb dL_isRight_391 (by decide) ?_
                                                                            refine lv_icmp_ne (tgt := 421) hx hb dL_isRight_393 (by decide) (fun c128 => ?_) (fun c128 => ?_)
                                                                            · rw [if_neg c128] at hR
                                                                              refine lv_iconst (v := 0) hx hb dL_isRight_421 (by decide) ?_
                                                                              exact W.zret (v := 0) hx hb hr rfl (fun t ht hWw => ⟨⟨0, Gn126, rfl, ⟨hR.symm.trans eR, hG127, (Or.inl rfl)⟩, by rw [ht]; exact hP, hD⟩, hS.F ht⟩) hS.2.2 dL_isRight_422
                                                                            · rw [if_pos c128] at hR
                                                                              refine lv_aload_n hx hb dL_isRight_396 rfl (lv_at hl 0 rfl) ?_
                                                                              refine lv_iload hx hb dL_isRight_397 (lv_at hl 4 rfl) ?_
                                                                              refine lv_iconst (v := 3) hx hb dL_isRight_399 (by decide) ?_
                                                                              have hPc : va_P (dC, dI) vwCl (cDk a cI cC cS Gn126) H124 := hP.sub [0, 1, 2, 3, 4, 5, 6, 7, 8, 9, 10, 11, 12, 13, 14, 15, 16, 17, 18, 19, 20, 21, 22, 23, 24, 25, 26, 27, 28, 29, 30, 31, 32, 33, 34, 35, 36, 37, 38, 39, 40, 41, 42, 43, 44, 45, 46, 47, 48, 49, 50, 51, 52, 53, 54, 55, 56, 57, 58, 59, 60, 61, 62, 63, 64, 65, 66, 67, 68, 69, 70, 71, 72, 73, 74, 75, 76, 77, 78, 79, 80, 81, 82, 83, 84, 85, 86, 87, 88, 89, 90, 91, 92] rfl
                                                                              have hDc : va_D (va_A (cDk a cI cC cS G) s.heap.size) (cDk a cI cC cS Gn126) := hD.sub [0, 1, 2, 3, 4, 5, 6, 7, 8, 9, 10, 11, 12, 13, 14, 15, 16, 17, 18, 19, 20, 21, 22, 23, 24, 25, 26, 27, 28, 29, 30, 31, 32, 33, 34, 35, 36, 37, 38, 39, 40, 41, 42, 43, 44, 45, 46, 47, 48, 49, 50, 51, 52, 53, 54, 55, 56, 57, 58, 59, 60, 61, 62, 63, 64, 65, 66, 67, 68, 69, 70, 71, 72, 73, 74, 75, 76, 77, 78, 79, 80, 81, 82, 83, 84, 85, 86, 87, 88, 89, 90, 91, 92] (by decide) rfl
                                                                              have hFc : ∀ q : Nat, va_A [] H124.size q → (va_A (cDk a cI cC cS G) s.heap.size) q := roF hS hA
                                                                              refine va_calli (va_runV (As := [.int x6_359, .int 3]) (rest := []) ⟨hx, hb, hml, hown, hts⟩ (c_X5_feed l dC dI cI cC cS a Gn126 H124.size x6_359 3 hG127) (cwV 2 hts gL_isRight_X5_feed rfl rfl rfl (by decide +kernel) ⟨Nat.le_of_ble_eq_true rfl, Nat.le_of_ble_eq_true rfl⟩) (pV (q0 := 0) hK hPc hDc hN rfl rfl) rfl rfl hl.1 rfl (lv_room (Nat.le_of_ble_eq_true rfl)) dL_isRight_400 ⟨Nat.le_of_ble_eq_true rfl, Nat.le_of_ble_eq_true rfl⟩) hS (fun q _ h => hFc q h) hFc (fun r_129 u_129 t_129 H130 locs ht hvm hw hB hz1 hk1 hS => ?_)
                                                                              subst hw
                                                                              have hP := ro_keep hP hk1
                                                                              refine lv_aload_n hx hb dL_isRight_403 rfl (lv_at hl 0 rfl) ?_
                                                                              refine lv_iload_n hx hb dL_isRight_404 rfl (lv_at hl 2 rfl) ?_
                                                                              refine lv_iload hx hb dL_isRight_405 (lv_at hl 4 rfl) ?_
                                                                              refine lv_iload hx hb dL_isRight_407 (lv_at hl 5 rfl) ?_
                                                                              refine lv_iconst (v := 1) hx hb dL_isRight_409 (by decide) ?_
                                                                              refine lv_isub hx hb dL_isRight_410 ?_
                                                                              have hPc : va_P (dC, dI) vwCl (cDk a cI cC cS Gn126) H130 := hP.sub [0, 1, 2, 3, 4, 5, 6, 7, 8, 9, 10, 11, 12, 13, 14, 15, 16, 17, 18, 19, 20, 21, 22, 23, 24, 25, 26, 27, 28, 29, 30, 31, 32, 33, 34, 35, 36, 37, 38, 39, 40, 41, 42, 43, 44, 45, 46, 47, 48, 49, 50, 51, 52, 53, 54, 55, 56, 57, 58, 59, 60, 61, 62, 63, 64, 65, 66, 67, 68, 69, 70, 71, 72, 73, 74, 75, 76, 77, 78, 79, 80, 81, 82, 83, 84, 85, 86, 87, 88, 89, 90, 91, 92] rfl
                                                                              have hDc : va_D (va_A (cDk a cI cC cS G) s.heap.size) (cDk a cI cC cS Gn126) := hD.sub [0, 1, 2, 3, 4, 5, 6, 7, 8, 9, 10, 11, 12, 13, 14, 15, 16, 17, 18, 19, 20, 21, 22, 23, 24, 25, 26, 27, 28, 29, 30, 31, 32, 33, 34, 35, 36, 37, 38, 39, 40, 41, 42, 43, 44, 45, 46, 47, 48, 49, 50, 51, 52, 53, 54, 55, 56, 57, 58, 59, 60, 61, 62, 63, 64, 65, 66, 67, 68, 69, 70, 71, 72, 73, 74, 75, 76, 77, 78, 79, 80, 81, 82, 83, 84, 85, 86, 87, 88, 89, 90, 91, 92] (by decide) rfl
                                                                              have hFc : ∀ q : Nat, va_A (cDk a cI cC cS Gn126) H130.size q → (va_A (cDk a cI cC cS G) s.heap.size) q := va_free hD hS hA [0, 1, 2, 3, 4, 5, 6, 7, 8, 9, 10, 11, 12, 13, 14, 15, 16, 17, 18, 19, 20, 21, 22, 23, 24, 25, 26, 27, 28, 29, 30, 31, 32, 33, 34, 35, 36, 37, 38, 39, 40, 41, 42, 43, 44, 45, 46, 47, 48, 49, 50, 51, 52, 53, 54, 55, 56, 57, 58, 59, 60, 61, 62, 63, 64, 65, 66, 67, 68, 69, 70, 71, 72, 73, 74, 75, 76, 77, 78, 79, 80, 81, 82, 83, 84, 85, 86, 87, 88, 89, 90, 91, 92] rfl
                                                                              refine va_calli (va_runV (As := [.int x2_359, .int x6_359, .int (x8_359 - 1)]) (rest := [.int (f_X5_feed Gn126 x6_359 3)]) ⟨hx, hb, hml, hown, hts⟩ (c_X5_path l dC dI cI cC cS a Gn126 H130.size x2_359 x6_359 (x8_359 - 1) hG127) (cwV 3 hts gL_isRight_X5_path rfl rfl rfl (by decide +kernel) ⟨Nat.le_of_ble_eq_true rfl, Nat.le_of_ble_eq_true rfl⟩) (pV (q0 := 0) hK hPc hDc hN rfl rfl) rfl rfl hl.1 rfl (lv_room (Nat.le_of_ble_eq_true rfl)) dL_isRight_411 ⟨Nat.le_of_ble_eq_true rfl, Nat.le_of_ble_eq_true rfl⟩) hS (fun q _ h => hFc q h) hFc (fun r_131 u_131 t_131 H132 locs ht hvm hw hB hz1 hk1 hS => ?_)
                                                                              obtain ⟨hw, hens133⟩ := hw
                                                                              obtain ⟨hP1, hD1⟩ := hB
                                                                              rw [ht] at hP1
                                                                              have hw1 : r_131 = (f_X5_path Gn126 x2_359 x6_359 (x8_359 - 1)).1 := congrArg Prod.fst hw
                                                                              have hw2 : u_131 = (f_X5_path Gn126 x2_359 x6_359 (x8_359 - 1)).2 := congrArg Prod.snd hw
                                                                              clear hw
                                                                              subst hw1
                                                                              subst hw2
                                                                              obtain ⟨hP, hD⟩ := va_join (wc := cDk a cI cC cS Gn126) (wr := []) (w1 := cDk a cI cC cS ((f_X5_path Gn126 x2_359 x6_359 (x8_359 - 1)).2)) hP hD [0, 1, 2, 3, 4, 5, 6, 7, 8, 9, 10, 11, 12, 13, 14, 15, 16, 17, 18, 19, 20, 21, 22, 23, 24, 25, 26, 27, 28, 29, 30, 31, 32, 33, 34, 35, 36, 37, 38, 39, 40, 41, 42, 43, 44, 45, 46, 47, 48, 49, 50, 51, 52, 53, 54, 55, 56, 57, 58, 59, 60, 61, 62, 63, 64, 65, 66, 67, 68, 69, 70, 71, 72, 73, 74, 75, 76, 77, 78, 79, 80, 81, 82, 83, 84, 85, 86, 87, 88, 89, 90, 91, 92] [] rfl rfl (by decide) (by decide) hk1 hFc hP1 hD1
                                                                              have hP : va_P (dC, dI) vwCl (cDk a cI cC cS ((f_X5_path Gn126 x2_359 x6_359 (x8_359 - 1)).2)) H132 := hP.sub [0, 1, 2, 3, 4, 5, 6, 7, 8, 9, 10, 11, 12, 13, 14, 15, 16, 17, 18, 19, 20, 21, 22, 23, 24, 25, 26, 27, 28, 29, 30, 31, 32, 33, 34, 35, 36, 37, 38, 39, 40, 41, 42, 43, 44, 45, 46, 47, 48, 49, 50, 51, 52, 53, 54, 55, 56, 57, 58, 59, 60, 61, 62, 63, 64, 65, 66, 67, 68, 69, 70, 71, 72, 73, 74, 75, 76, 77, 78, 79, 80, 81, 82, 83, 84, 85, 86, 87, 88, 89, 90, 91, 92] rfl
                                                                              have hD : va_D (va_A (cDk a cI cC cS G) s.heap.size) (cDk a cI cC cS ((f_X5_path Gn126 x2_359 x6_359 (x8_359 - 1)).2)) := hD.sub [0, 1, 2, 3, 4, 5, 6, 7, 8, 9, 10, 11, 12, 13, 14, 15, 16, 17, 18, 19, 20, 21, 22, 23, 24, 25, 26, 27, 28, 29, 30, 31, 32, 33, 34, 35, 36, 37, 38, 39, 40, 41, 42, 43, 44, 45, 46, 47, 48, 49, 50, 51, 52, 53, 54, 55, 56, 57, 58, 59, 60, 61, 62, 63, 64, 65, 66, 67, 68, 69, 70, 71, 72, 73, 74, 75, 76, 77, 78, 79, 80, 81, 82, 83, 84, 85, 86, 87, 88, 89, 90, 91, 92] (by decide) rfl
                                                                              obtain ⟨Gn134, eGn134⟩ : ∃ z : GR, z = (f_X5_path Gn126 x2_359 x6_359 (x8_359 - 1)).2 := ⟨_, rfl⟩
                                                                              rw [sLet_eq, ← eGn134] at hR
                                                                              rw [← eGn134] at hP hD
                                                                              have hG135 : WFG Gn134 := by rw [eGn134]; exact hens133
                                                                              refine lv_ishr hx hb dL_isRight_414 ?_
                                                                              refine lv_iconst (v := 1) hx hb dL_isRight_415 (by decide) ?_
                                                                              refine lv_iand hx hb dL_isRight_416 ?_
                                                                              refine lv_iconst (v := 1) hx hb dL_isRight_417 (by decide) ?_
                                                                              refine lv_icmp_eq (tgt := 423) hx hb dL_isRight_418 (by decide) (fun c136 => ?_) (fun c136 => ?_)
                                                                              · rw [if_pos c136] at hR
                                                                                exact hJ_423 x1_359 x2_359 x3_359 x6_359 x8_359 x10_359 Gn134 ex2_359 ex6_359 hG135 hR _ _ _ hP hD hS (lv_sub hl [0, 1, 2, 3, 4, 5, 6] rfl)
                                                                              · rw [if_neg c136] at hR
                                                                                refine lv_iconst (v := 0) hx hb dL_isRight_421 (by decide) ?_
                                                                                exact W.zret (v := 0) hx hb hr rfl (fun t ht hWw => ⟨⟨0, Gn134, rfl, ⟨hR.symm.trans eR, hG135, (Or.inl rfl)⟩, by rw [ht]; exact hP, hD⟩, hS.F ht⟩) hS.2.2 dL_isRight_422
                                                                    refine lv_icmp_le (tgt := 359) hx hb dL_isRight_349 (by decide) (fun c137 => ?_) (fun c137 => ?_)
                                                                    · rw [if_pos c137] at hR
                                                                      exact hJ_359 x1_336 x2_336 x3_336 x6_336 x8_336 x10_336 G_336 ex2_336 ex6_336 hG_336 hR _ _ _ hP hD hS (lv_sub hl [0, 1, 2, 3, 4, 6, 8] rfl)
                                                                    · rw [if_neg c137] at hR
                                                                      refine lv_iload hx hb dL_isRight_352 (lv_at hl 5 rfl) ?_
                                                                      refine lv_if_le (tgt := 359) hx hb dL_isRight_354 (by decide) (fun c138 => ?_) (fun c138 => ?_)
                                                                      · rw [if_pos c138] at hR
                                                                        exact hJ_359 x1_336 x2_336 x3_336 x6_336 x8_336 x10_336 G_336 ex2_336 ex6_336 hG_336 hR _ _ _ hP hD hS (lv_sub hl [0, 1, 2, 3, 4, 6, 8] rfl)
                                                                      · rw [if_neg c138] at hR
                                                                        refine lv_iconst (v := 0) hx hb dL_isRight_357 (by decide) ?_
                                                                        exact W.zret (v := 0) hx hb hr rfl (fun t ht hWw => ⟨⟨0, G_336, rfl, ⟨hR.symm.trans eR, hG_336, (Or.inl rfl)⟩, by rw [ht]; exact hP, hD⟩, hS.F ht⟩) hS.2.2 dL_isRight_358
                                                              refine lv_if_lt (tgt := 335) hx hb dL_isRight_328 (by decide) (fun c139 => ?_) (fun c139 => ?_)
                                                              · rw [if_pos c139] at hR
                                                                refine lv_iconst (v := 0) hx hb dL_isRight_335 (by decide) ?_
                                                                exact hJ_336 x1_326 x2_326 x3_326 x6_326 x7_326 x8_326 x9_326 x10_326 0 s0_326 G_326 ex2_326 ex6_326 hG_326 hR _ _ _ hP hD hS (lv_sub hl [0, 1, 2, 3, 4, 5, 6, 7, 8] rfl)
                                                              · rw [if_neg c139] at hR
                                                                refine lv_iconst (v := 1) hx hb dL_isRight_331 (by decide) ?_
                                                                refine lv_goto (tgt := 336) hx hb dL_isRight_332 (by decide) ?_
                                                                exact hJ_336 x1_326 x2_326 x3_326 x6_326 x7_326 x8_326 x9_326 x10_326 1 s0_326 G_326 ex2_326 ex6_326 hG_326 hR _ _ _ hP hD hS (lv_sub hl [0, 1, 2, 3, 4, 5, 6, 7, 8] rfl)
                                                            refine lv_if_le (tgt := 325) hx hb dL_isRight_318 (by decide) (fun c140 => ?_) (fun c140 => ?_)
                                                            · rw [if_pos c140] at hR
                                                              refine lv_iconst (v := 0) hx hb dL_isRight_325 (by decide) ?_
                                                              exact hJ_326 x1_313 x2_313 x3_313 x6_313 x7_313 x8_313 x9_313 x10_313 0 G_313 ex2_313 ex6_313 hG_313 hR _ _ _ hP hD hS (lv_sub hl [0, 1, 2, 3, 4, 5, 6, 7, 8] rfl)
                                                            · rw [if_neg c140] at hR
                                                              refine lv_iconst (v := 1) hx hb dL_isRight_321 (by decide) ?_
                                                              refine lv_goto (tgt := 326) hx hb dL_isRight_322 (by decide) ?_
                                                              exact hJ_326 x1_313 x2_313 x3_313 x6_313 x7_313 x8_313 x9_313 x10_313 1 G_313 ex2_313 ex6_313 hG_313 hR _ _ _ hP hD hS (lv_sub hl [0, 1, 2, 3, 4, 5, 6, 7, 8] rfl)
                                                        refine lv_if_le (tgt := 312) hx hb dL_isRight_305 (by decide) (fun c141 => ?_) (fun c141 => ?_)
                                                        · rw [if_pos c141] at hR
                                                          refine lv_iconst (v := 0) hx hb dL_isRight_312 (by decide) ?_
                                                          exact hJ_313 x1_303 x2_303 x3_303 x6_303 x7_303 x8_303 x9_303 x10_303 0 s0_303 G_303 ex2_303 ex6_303 hG_303 hR _ _ _ hP hD hS (lv_sub hl [0, 1, 2, 3, 4, 5, 6, 7, 8] rfl)
                                                        · rw [if_neg c141] at hR
                                                          refine lv_iconst (v := 1) hx hb dL_isRight_308 (by decide) ?_
                                                          refine lv_goto (tgt := 313) hx hb dL_isRight_309 (by decide) ?_
                                                          exact hJ_313 x1_303 x2_303 x3_303 x6_303 x7_303 x8_303 x9_303 x10_303 1 s0_303 G_303 ex2_303 ex6_303 hG_303 hR _ _ _ hP hD hS (lv_sub hl [0, 1, 2, 3, 4, 5, 6, 7, 8] rfl)
                                                      refine lv_icmp_ne (tgt := 302) hx hb dL_isRight_295 (by decide) (fun c142 => ?_) (fun c142 => ?_)
                                                      · rw [if_neg c142] at hR
                                                        refine lv_iconst (v := 0) hx hb dL_isRight_302 (by decide) ?_
                                                        exact hJ_303 x1_289 x2_289 x3_289 x6_289 x7_289 x8_289 x9_289 x10_289 0 G_289 ex2_289 ex6_289 hG_289 hR _ _ _ hP hD hS (lv_sub hl [0, 1, 2, 3, 4, 5, 6, 7, 8] rfl)
                                                      · rw [if_pos c142] at hR
                                                        refine lv_iconst (v := 1) hx hb dL_isRight_298 (by decide) ?_
                                                        refine lv_goto (tgt := 303) hx hb dL_isRight_299 (by decide) ?_
                                                        exact hJ_303 x1_289 x2_289 x3_289 x6_289 x7_289 x8_289 x9_289 x10_289 1 G_289 ex2_289 ex6_289 hG_289 hR _ _ _ hP hD hS (lv_sub hl [0, 1, 2, 3, 4, 5, 6, 7, 8] rfl)
                                                  refine lv_if_le (tgt := 288) hx hb dL_isRight_281 (by decide) (fun c143 => ?_) (fun c143 => ?_)
                                                  · rw [if_pos c143] at hR
                                                    refine lv_iconst (v := 0) hx hb dL_isRight_288 (by decide) ?_
                                                    exact hJ_289 x1_279 x2_279 x3_279 x6_279 x7_279 x8_279 x9_279 x10_279 0 s0_279 G_279 ex2_279 ex6_279 hG_279 hR _ _ _ hP hD hS (lv_sub hl [0, 1, 2, 3, 4, 5, 6, 7, 8] rfl)
                                                  · rw [if_neg c143] at hR
                                                    refine lv_iconst (v := 1) hx hb dL_isRight_284 (by decide) ?_
                                                    refine lv_goto (tgt := 289) hx hb dL_isRight_285 (by decide) ?_
                                                    exact hJ_289 x1_279 x2_279 x3_279 x6_279 x7_279 x8_279 x9_279 x10_279 1 s0_279 G_279 ex2_279 ex6_279 hG_279 hR _ _ _ hP hD hS (lv_sub hl [0, 1, 2, 3, 4, 5, 6, 7, 8] rfl)
                                                refine lv_icmp_ne (tgt := 278) hx hb dL_isRight_271 (by decide) (fun c144 => ?_) (fun c144 => ?_)
                                                · rw [if_neg c144] at hR
                                                  refine lv_iconst (v := 0) hx hb dL_isRight_278 (by decide) ?_
                                                  exact hJ_279 x1_259 x2_259 x3_259 x6_259 x7_259 x8_259 x9_259 x10_259 0 G_259 ex2_259 ex6_259 hG_259 hR _ _ _ hP hD hS (lv_sub hl [0, 1, 2, 3, 4, 5, 6, 7, 8] rfl)
                                                · rw [if_pos c144] at hR
                                                  refine lv_iconst (v := 1) hx hb dL_isRight_274 (by decide) ?_
                                                  refine lv_goto (tgt := 279) hx hb dL_isRight_275 (by decide) ?_
                                                  exact hJ_279 x1_259 x2_259 x3_259 x6_259 x7_259 x8_259 x9_259 x10_259 1 G_259 ex2_259 ex6_259 hG_259 hR _ _ _ hP hD hS (lv_sub hl [0, 1, 2, 3, 4, 5, 6, 7, 8] rfl)
                                              refine lv_if_eq (tgt := 259) hx hb dL_isRight_251 (by decide) (fun c145 => ?_) (fun c145 => ?_)
                                              · rw [if_pos c145] at hR
                                                exact hJ_259 x1_241 x2_241 x3_241 x6_241 x7_241 x8_241 x9_241 s0_241 G_241 ex2_241 ex6_241 hG_241 hR _ _ _ hP hD hS (lv_sub hl [1, 2, 3, 4, 5, 6, 7, 8, 0] rfl)
                                              · rw [if_neg c145] at hR
                                                refine lv_iload hx hb dL_isRight_254 (lv_at hl 6 rfl) ?_
                                                refine lv_if_ne (tgt := 357) hx hb dL_isRight_256 (by decide) (fun c146 => ?_) (fun c146 => ?_)
                                                · rw [if_neg c146] at hR
                                                  refine lv_iconst (v := 0) hx hb dL_isRight_357 (by decide) ?_
                                                  exact W.zret (v := 0) hx hb hr rfl (fun t ht hWw => ⟨⟨0, G_241, rfl, ⟨hR.symm.trans eR, hG_241, (Or.inl rfl)⟩, by rw [ht]; exact hP, hD⟩, hS.F ht⟩) hS.2.2 dL_isRight_358
                                                · rw [if_pos c146] at hR
                                                  exact hJ_259 x1_241 x2_241 x3_241 x6_241 x7_241 x8_241 x9_241 s0_241 G_241 ex2_241 ex6_241 hG_241 hR _ _ _ hP hD hS (lv_sub hl [1, 2, 3, 4, 5, 6, 7, 8, 0] rfl)
                                          refine lv_icmp_ne (tgt := 240) hx hb dL_isRight_233 (by decide) (fun c147 => ?_) (fun c147 => ?_)
                                          · rw [if_neg c147] at hR
                                            refine lv_iconst (v := 0) hx hb dL_isRight_240 (by decide) ?_
                                            exact hJ_241 x1_186 x2_186 x3_186 x6_186 (f_X5_send G_186 x6_186 x2_186 1) ((f_X5_path G_186 x2_186 x6_186 (-1)).1) ((f_X5_loudest Gn90 x2_186 x6_186).1) 0 Gn95 ex2_186 ex6_186 hG96 hR _ _ _ hP hD hS (lv_sub hl [3, 4, 5, 6, 7, 2, 1, 0] rfl)
                                          · rw [if_pos c147] at hR
                                            refine lv_iconst (v := 1) hx hb dL_isRight_236 (by decide) ?_
                                            refine lv_goto (tgt := 241) hx hb dL_isRight_237 (by decide) ?_
                                            exact hJ_241 x1_186 x2_186 x3_186 x6_186 (f_X5_send G_186 x6_186 x2_186 1) ((f_X5_path G_186 x2_186 x6_186 (-1)).1) ((f_X5_loudest Gn90 x2_186 x6_186).1) 1 Gn95 ex2_186 ex6_186 hG96 hR _ _ _ hP hD hS (lv_sub hl [3, 4, 5, 6, 7, 2, 1, 0] rfl)
                                    exact hL_186 5 0 x1_158 x2_158 x3_158 0 G_158 (by decide +kernel) (by decide) (by decide) ex2_158 hG_158 hR _ _ _ hP hD hS (lv_sub hl [1, 2, 3, 4, 0] rfl)
                                  · rw [if_neg c83] at hR
                                    refine lv_iconst (v := 0) hx hb dL_isRight_181 (by decide) ?_
                                    exact W.zret (v := 0) hx hb hr rfl (fun t ht hWw => ⟨⟨0, G_158, rfl, ⟨hR.symm.trans eR, hG_158, (Or.inl rfl)⟩, by rw [ht]; exact hP, hD⟩, hS.F ht⟩) hS.2.2 dL_isRight_182
                              refine lv_if_lt (tgt := 158) hx hb dL_isRight_144 (by decide) (fun c148 => ?_) (fun c148 => ?_)
                              · rw [if_pos c148] at hR
                                exact hJ_158 x1_142 x2_142 x3_142 G_142 ex2_142 hG_142 hR _ _ _ hP hD hS (lv_sub hl [0, 1, 2, 3] rfl)
                              · rw [if_neg c148] at hR
                                refine lv_aload_n hx hb dL_isRight_147 rfl (lv_at hl 0 rfl) ?_
                                refine lv_iload hx hb dL_isRight_148 (lv_at hl 4 rfl) ?_
                                refine lv_iconst (v := 1) hx hb dL_isRight_150 (by decide) ?_
                                have hPc : va_P (dC, dI) vwCl (cDk a cI cC cS G_142) H := hP.sub [0, 1, 2, 3, 4, 5, 6, 7, 8, 9, 10, 11, 12, 13, 14, 15, 16, 17, 18, 19, 20, 21, 22, 23, 24, 25, 26, 27, 28, 29, 30, 31, 32, 33, 34, 35, 36, 37, 38, 39, 40, 41, 42, 43, 44, 45, 46, 47, 48, 49, 50, 51, 52, 53, 54, 55, 56, 57, 58, 59, 60, 61, 62, 63, 64, 65, 66, 67, 68, 69, 70, 71, 72, 73, 74, 75, 76, 77, 78, 79, 80, 81, 82, 83, 84, 85, 86, 87, 88, 89, 90, 91, 92] rfl
                                have hDc : va_D (va_A (cDk a cI cC cS G) s.heap.size) (cDk a cI cC cS G_142) := hD.sub [0, 1, 2, 3, 4, 5, 6, 7, 8, 9, 10, 11, 12, 13, 14, 15, 16, 17, 18, 19, 20, 21, 22, 23, 24, 25, 26, 27, 28, 29, 30, 31, 32, 33, 34, 35, 36, 37, 38, 39, 40, 41, 42, 43, 44, 45, 46, 47, 48, 49, 50, 51, 52, 53, 54, 55, 56, 57, 58, 59, 60, 61, 62, 63, 64, 65, 66, 67, 68, 69, 70, 71, 72, 73, 74, 75, 76, 77, 78, 79, 80, 81, 82, 83, 84, 85, 86, 87, 88, 89, 90, 91, 92] (by decide) rfl
                                have hFc : ∀ q : Nat, va_A [] H.size q → (va_A (cDk a cI cC cS G) s.heap.size) q := roF hS hA
                                refine va_calli (va_runV (As := [.int x5_142, .int 1]) (rest := []) ⟨hx, hb, hml, hown, hts⟩ (c_X5_feed l dC dI cI cC cS a G_142 H.size x5_142 1 hG_142) (cwV 2 hts gL_isRight_X5_feed rfl rfl rfl (by decide +kernel) ⟨Nat.le_of_ble_eq_true rfl, Nat.le_of_ble_eq_true rfl⟩) (pV (q0 := 0) hK hPc hDc hN rfl rfl) rfl rfl hl.1 rfl (lv_room (Nat.le_of_ble_eq_true rfl)) dL_isRight_151 ⟨Nat.le_of_ble_eq_true rfl, Nat.le_of_ble_eq_true rfl⟩) hS (fun q _ h => hFc q h) hFc (fun r_149 u_149 t_149 H150 locs ht hvm hw hB hz1 hk1 hS => ?_)
                                subst hw
                                have hP := ro_keep hP hk1
                                refine lv_iload_n hx hb dL_isRight_154 rfl (lv_at hl 2 rfl) ?_
                                refine lv_icmp_ne (tgt := 181) hx hb dL_isRight_155 (by decide) (fun c151 => ?_) (fun c151 => ?_)
                                · rw [if_neg c151] at hR
                                  refine lv_iconst (v := 0) hx hb dL_isRight_181 (by decide) ?_
                                  exact W.zret (v := 0) hx hb hr rfl (fun t ht hWw => ⟨⟨0, G_142, rfl, ⟨hR.symm.trans eR, hG_142, (Or.inl rfl)⟩, by rw [ht]; exact hP, hD⟩, hS.F ht⟩) hS.2.2 dL_isRight_182
                                · rw [if_pos c151] at hR
                                  exact hJ_158 x1_142 x2_142 x3_142 G_142 ex2_142 hG_142 hR _ _ _ hP hD hS (lv_sub hl [0, 1, 2, 3] rfl)
                            refine lv_icmp_ne (tgt := 142) hx hb dL_isRight_130 (by decide) (fun c152 => ?_) (fun c152 => ?_)
                            · rw [if_neg c152] at hR
                              exact hJ_142 x1_127 x2_127 x3_127 x5_127 G_127 ex2_127 hG_127 hR _ _ _ hP hD hS (lv_sub hl [0, 1, 2, 3, 5] rfl)
                            · rw [if_pos c152] at hR
                              refine lv_aload_n hx hb dL_isRight_133 rfl (lv_at hl 0 rfl) ?_
                              refine lv_bipush (v := 7) hx hb dL_isRight_134 (by decide) ?_
                              have hPc : va_P (dC, dI) vwCl (cDk a cI cC cS G_127) H := hP.sub [0, 1, 2, 3, 4, 5, 6, 7, 8, 9, 10, 11, 12, 13, 14, 15, 16, 17, 18, 19, 20, 21, 22, 23, 24, 25, 26, 27, 28, 29, 30, 31, 32, 33, 34, 35, 36, 37, 38, 39, 40, 41, 42, 43, 44, 45, 46, 47, 48, 49, 50, 51, 52, 53, 54, 55, 56, 57, 58, 59, 60, 61, 62, 63, 64, 65, 66, 67, 68, 69, 70, 71, 72, 73, 74, 75, 76, 77, 78, 79, 80, 81, 82, 83, 84, 85, 86, 87, 88, 89, 90, 91, 92] rfl
                              have hDc : va_D (va_A (cDk a cI cC cS G) s.heap.size) (cDk a cI cC cS G_127) := hD.sub [0, 1, 2, 3, 4, 5, 6, 7, 8, 9, 10, 11, 12, 13, 14, 15, 16, 17, 18, 19, 20, 21, 22, 23, 24, 25, 26, 27, 28, 29, 30, 31, 32, 33, 34, 35, 36, 37, 38, 39, 40, 41, 42, 43, 44, 45, 46, 47, 48, 49, 50, 51, 52, 53, 54, 55, 56, 57, 58, 59, 60, 61, 62, 63, 64, 65, 66, 67, 68, 69, 70, 71, 72, 73, 74, 75, 76, 77, 78, 79, 80, 81, 82, 83, 84, 85, 86, 87, 88, 89, 90, 91, 92] (by decide) rfl
                              have hFc : ∀ q : Nat, va_A [] H.size q → (va_A (cDk a cI cC cS G) s.heap.size) q := roF hS hA
                              refine va_calli (va_runV (As := [.int 7]) (rest := []) ⟨hx, hb, hml, hown, hts⟩ (c_X5_count l dC dI cI cC cS a G_127 H.size 7 hG_127) (cwV 1 hts gL_isRight_X5_count rfl rfl rfl (by decide +kernel) ⟨Nat.le_of_ble_eq_true rfl, Nat.le_of_ble_eq_true rfl⟩) (pV (q0 := 0) hK hPc hDc hN rfl rfl) rfl rfl hl.1 rfl (lv_room (Nat.le_of_ble_eq_true rfl)) dL_isRight_136 ⟨Nat.le_of_ble_eq_true rfl, Nat.le_of_ble_eq_true rfl⟩) hS (fun q _ h => hFc q h) hFc (fun r_153 u_153 t_153 H154 locs ht hvm hw hB hz1 hk1 hS => ?_)
                              subst hw
                              have hP := ro_keep hP hk1
                              refine lv_if_eq (tgt := 181) hx hb dL_isRight_139 (by decide) (fun c155 => ?_) (fun c155 => ?_)
                              · rw [if_pos c155] at hR
                                refine lv_iconst (v := 0) hx hb dL_isRight_181 (by decide) ?_
                                exact W.zret (v := 0) hx hb hr rfl (fun t ht hWw => ⟨⟨0, G_127, rfl, ⟨hR.symm.trans eR, hG_127, (Or.inl rfl)⟩, by rw [ht]; exact hP, hD⟩, hS.F ht⟩) hS.2.2 dL_isRight_182
                              · rw [if_neg c155] at hR
                                exact hJ_142 x1_127 x2_127 x3_127 x5_127 G_127 ex2_127 hG_127 hR _ _ _ hP hD hS (lv_sub hl [0, 1, 2, 3, 5] rfl)
                          refine lv_icmp_ne (tgt := 127) hx hb dL_isRight_115 (by decide) (fun c156 => ?_) (fun c156 => ?_)
                          · rw [if_neg c156] at hR
                            exact hJ_127 x1_109 x2_109 x3_109 x4_109 x5_109 G_109 ex2_109 hG_109 hR _ _ _ hP hD hS (lv_sub hl [0, 1, 2, 3, 4, 5] rfl)
                          · rw [if_pos c156] at hR
                            refine lv_aload_n hx hb dL_isRight_118 rfl (lv_at hl 0 rfl) ?_
                            refine lv_iload_n hx hb dL_isRight_119 rfl (lv_at hl 2 rfl) ?_
                            refine lv_iconst (v := 1) hx hb dL_isRight_120 (by decide) ?_
                            have hPc : va_P (dC, dI) vwCl (cDk a cI cC cS G_109) H := hP.sub [0, 1, 2, 3, 4, 5, 6, 7, 8, 9, 10, 11, 12, 13, 14, 15, 16, 17, 18, 19, 20, 21, 22, 23, 24, 25, 26, 27, 28, 29, 30, 31, 32, 33, 34, 35, 36, 37, 38, 39, 40, 41, 42, 43, 44, 45, 46, 47, 48, 49, 50, 51, 52, 53, 54, 55, 56, 57, 58, 59, 60, 61, 62, 63, 64, 65, 66, 67, 68, 69, 70, 71, 72, 73, 74, 75, 76, 77, 78, 79, 80, 81, 82, 83, 84, 85, 86, 87, 88, 89, 90, 91, 92] rfl
                            have hDc : va_D (va_A (cDk a cI cC cS G) s.heap.size) (cDk a cI cC cS G_109) := hD.sub [0, 1, 2, 3, 4, 5, 6, 7, 8, 9, 10, 11, 12, 13, 14, 15, 16, 17, 18, 19, 20, 21, 22, 23, 24, 25, 26, 27, 28, 29, 30, 31, 32, 33, 34, 35, 36, 37, 38, 39, 40, 41, 42, 43, 44, 45, 46, 47, 48, 49, 50, 51, 52, 53, 54, 55, 56, 57, 58, 59, 60, 61, 62, 63, 64, 65, 66, 67, 68, 69, 70, 71, 72, 73, 74, 75, 76, 77, 78, 79, 80, 81, 82, 83, 84, 85, 86, 87, 88, 89, 90, 91, 92] (by decide) rfl
                            have hFc : ∀ q : Nat, va_A [] H.size q → (va_A (cDk a cI cC cS G) s.heap.size) q := roF hS hA
                            refine va_calli (va_runV (As := [.int x2_109, .int 1]) (rest := []) ⟨hx, hb, hml, hown, hts⟩ (c_X5_channel l dC dI cI cC cS a G_109 H.size x2_109 1 hG_109) (cwV 2 hts gL_isRight_X5_channel rfl rfl rfl (by decide +kernel) ⟨Nat.le_of_ble_eq_true rfl, Nat.le_of_ble_eq_true rfl⟩) (pVS (q0 := 0) hK hPc hDc hN hT hS hFc rfl rfl) rfl rfl hl.1 rfl (lv_room (Nat.le_of_ble_eq_true rfl)) dL_isRight_121 ⟨Nat.le_of_ble_eq_true rfl, Nat.le_of_ble_eq_true rfl⟩) hS (fun q _ h => hFc q h) hFc (fun r_157 u_157 t_157 H158 locs ht hvm hw hB hz1 hk1 hS => ?_)
                            subst hw
                            have hP := ro_keep hP hk1
                            refine lv_if_ne (tgt := 181) hx hb dL_isRight_124 (by decide) (fun c159 => ?_) (fun c159 => ?_)
                            · rw [if_neg c159] at hR
                              refine lv_iconst (v := 0) hx hb dL_isRight_181 (by decide) ?_
                              exact W.zret (v := 0) hx hb hr rfl (fun t ht hWw => ⟨⟨0, G_109, rfl, ⟨hR.symm.trans eR, hG_109, (Or.inl rfl)⟩, by rw [ht]; exact hP, hD⟩, hS.F ht⟩) hS.2.2 dL_isRight_182
                            · rw [if_pos c159] at hR
                              exact hJ_127 x1_109 x2_109 x3_109 x4_109 x5_109 G_109 ex2_109 hG_109 hR _ _ _ hP hD hS (lv_sub hl [0, 1, 2, 3, 4, 5] rfl)
                      refine lv_icmp_ne (tgt := 108) hx hb dL_isRight_101 (by decide) (fun c160 => ?_) (fun c160 => ?_)
                      · rw [if_neg c160] at hR
                        refine lv_iconst (v := 0) hx hb dL_isRight_108 (by decide) ?_
                        exact hJ_109 x1_94 x2_94 x3_94 x4_94 x5_94 0 s0_94 G_94 ex2_94 hG_94 hR _ _ _ hP hD hS (lv_sub hl [0, 1, 2, 3, 4, 5] rfl)
                      · rw [if_pos c160] at hR
                        refine lv_iconst (v := 1) hx hb dL_isRight_104 (by decide) ?_
                        refine lv_goto (tgt := 109) hx hb dL_isRight_105 (by decide) ?_
                        exact hJ_109 x1_94 x2_94 x3_94 x4_94 x5_94 1 s0_94 G_94 ex2_94 hG_94 hR _ _ _ hP hD hS (lv_sub hl [0, 1, 2, 3, 4, 5] rfl)
                    refine lv_icmp_ne (tgt := 93) hx hb dL_isRight_86 (by decide) (fun c161 => ?_) (fun c161 => ?_)
                    · rw [if_neg c161] at hR
                      refine lv_iconst (v := 0) hx hb dL_isRight_93 (by decide) ?_
                      exact hJ_94 x1_80 x2_80 x3_80 x4_80 x5_80 0 G_80 ex2_80 hG_80 hR _ _ _ hP hD hS (lv_sub hl [0, 1, 2, 3, 4, 5] rfl)
                    · rw [if_pos c161] at hR
                      refine lv_iconst (v := 1) hx hb dL_isRight_89 (by decide) ?_
                      refine lv_goto (tgt := 94) hx hb dL_isRight_90 (by decide) ?_
                      exact hJ_94 x1_80 x2_80 x3_80 x4_80 x5_80 1 G_80 ex2_80 hG_80 hR _ _ _ hP hD hS (lv_sub hl [0, 1, 2, 3, 4, 5] rfl)
                refine lv_if_le (tgt := 79) hx hb dL_isRight_72 (by decide) (fun c162 => ?_) (fun c162 => ?_)
                · rw [if_pos c162] at hR
                  refine lv_iconst (v := 0) hx hb dL_isRight_79 (by decide) ?_
                  exact hJ_80 x1_71 x2_71 x3_71 x4_71 x5_71 0 s0_71 G_71 ex2_71 hG_71 hR _ _ _ hP hD hS (lv_sub hl [0, 1, 2, 3, 4, 5] rfl)
                · rw [if_neg c162] at hR
                  refine lv_iconst (v := 1) hx hb dL_isRight_75 (by decide) ?_
                  refine lv_goto (tgt := 80) hx hb dL_isRight_76 (by decide) ?_
                  exact hJ_80 x1_71 x2_71 x3_71 x4_71 x5_71 1 s0_71 G_71 ex2_71 hG_71 hR _ _ _ hP hD hS (lv_sub hl [0, 1, 2, 3, 4, 5] rfl)
              refine lv_if_ne (tgt := 70) hx hb dL_isRight_63 (by decide) (fun c163 => ?_) (fun c163 => ?_)
              · rw [if_neg c163] at hR
                refine lv_iconst (v := 0) hx hb dL_isRight_70 (by decide) ?_
                exact hJ_71 (s1_36 ||| s0_36) x2_36 x3_36 x4_36 (f_X5_channel G_36 x2_36 8) 0 G_36 ex2_36 hG_36 hR _ _ _ hP hD hS (lv_sub hl [2, 1, 3, 4, 5, 0] rfl)
              · rw [if_pos c163] at hR
                refine lv_iconst (v := 1) hx hb dL_isRight_66 (by decide) ?_
                refine lv_goto (tgt := 71) hx hb dL_isRight_67 (by decide) ?_
                exact hJ_71 (s1_36 ||| s0_36) x2_36 x3_36 x4_36 (f_X5_channel G_36 x2_36 8) 1 G_36 ex2_36 hG_36 hR _ _ _ hP hD hS (lv_sub hl [2, 1, 3, 4, 5, 0] rfl)
        refine lv_if_le (tgt := 35) hx hb dL_isRight_26 (by decide) (fun c164 => ?_) (fun c164 => ?_)
        · rw [if_pos c164] at hR
          refine lv_iconst (v := 0) hx hb dL_isRight_35 (by decide) ?_
          exact hJ_36 x2_4 (f_X5_channel G_4 x2_4 5) (f_X5_why G_4 x2_4) 0 x1_4 G_4 ex2_4 hG_4 hR _ _ _ hP hD hS (lv_sub hl [2, 4, 1, 0] rfl)
        · rw [if_neg c164] at hR
          refine lv_iconst (v := 1) hx hb dL_isRight_29 (by decide) ?_
          refine lv_iload_n hx hb dL_isRight_30 rfl (lv_at hl 4 rfl) ?_
          refine lv_ishl hx hb dL_isRight_31 ?_
          refine lv_goto (tgt := 36) hx hb dL_isRight_32 (by decide) ?_
          exact hJ_36 x2_4 (f_X5_channel G_4 x2_4 5) (f_X5_why G_4 x2_4) (1 <<< (x2_4 &&& 31)) x1_4 G_4 ex2_4 hG_4 hR _ _ _ hP hD hS (lv_sub hl [2, 4, 1, 0] rfl)
  exact hL_4 13 0 0 0 G (by decide +kernel) (by decide) (by decide) hG hR _ _ _ hP hD hS (lv_sub hl [2, 1, 0] rfl)
