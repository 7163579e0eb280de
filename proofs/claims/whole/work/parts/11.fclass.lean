def F_X5_init (n : Nat) (h : zH) (a0 : Nat) : Option (Unit × zH) :=
  zna h 20 (50 : Int32) 50 fun w1 h2 =>
  zsr h2 a0 5 2 0 w1 fun h3 =>
  zsi h3 a0 5 2 1 (0 : Int32) fun h4 =>
  some ((), h4)
def F_X2_init (n : Nat) (h : zH) (a0 : Nat) (p0 : Int32) (p1 : Int32) : Option (Unit × zH) :=
  zsi h a0 2 2 0 p0 fun h1 =>
  zsi h1 a0 2 2 1 p1 fun h2 =>
  some ((), h2)
def F_X9_init (n : Nat) (h : zH) (a0 : Nat) : Option (Unit × zH) :=
  some ((), h)
def F_X1_init (n : Nat) (h : zH) (a0 : Nat) : Option (Unit × zH) :=
  zc (F_X9_init n h a0) fun _ h1 =>
  zna h1 20 (6 : Int32) 6 fun w2 h3 =>
  zsr h3 a0 1 2 0 w2 fun h4 =>
  zsi h4 a0 1 2 1 (0 : Int32) fun h5 =>
  some ((), h5)
def F_X7_init (n : Nat) (h : zH) (a0 : Nat) : Option (Unit × zH) :=
  zc (F_X9_init n h a0) fun _ h1 =>
  zna h1 20 (10 : Int32) 10 fun w2 h3 =>
  zsr h3 a0 7 6 0 w2 fun h4 =>
  zna h4 22 (10 : Int32) 10 fun w5 h6 =>
  zsr h6 a0 7 6 1 w5 fun h7 =>
  zna h7 20 (10 : Int32) 10 fun w8 h9 =>
  zsr h9 a0 7 6 2 w8 fun h10 =>
  zna h10 20 (10 : Int32) 10 fun w11 h12 =>
  zsr h12 a0 7 6 3 w11 fun h13 =>
  zsi h13 a0 7 6 4 (0 : Int32) fun h14 =>
  zsi h14 a0 7 6 5 (0 : Int32) fun h15 =>
  some ((), h15)
def F_X8_init (n : Nat) (h : zH) (a0 : Nat) : Option (Unit × zH) :=
  zc (F_X9_init n h a0) fun _ h1 =>
  zna h1 20 (6 : Int32) 6 fun w2 h3 =>
  zsr h3 a0 8 4 0 w2 fun h4 =>
  zna h4 20 (6 : Int32) 6 fun w5 h6 =>
  zsr h6 a0 8 4 1 w5 fun h7 =>
  zsi h7 a0 8 4 2 (0 : Int32) fun h8 =>
  zsi h8 a0 8 4 3 (0 : Int32) fun h9 =>
  some ((), h9)
def F_X4_init (n : Nat) (h : zH) (a0 : Nat) (p0 : Int32) : Option (Unit × zH) :=
  zsi h a0 4 5 4 (0 : Int32) fun h1 =>
  zna h1 20 p0 10 fun w2 h3 =>
  zsr h3 a0 4 5 0 w2 fun h4 =>
  zna h4 20 p0 10 fun w5 h6 =>
  zsr h6 a0 4 5 1 w5 fun h7 =>
  zna h7 20 p0 10 fun w8 h9 =>
  zsr h9 a0 4 5 2 w8 fun h10 =>
  zna h10 20 p0 10 fun w11 h12 =>
  zsr h12 a0 4 5 3 w11 fun h13 =>
  some ((), h13)
def F_X0_init (n : Nat) (h : zH) (a0 : Nat) : Option (Unit × zH) :=
  znm h (6 : Int32) (4 : Int32) 6 4 fun w1 h2 =>
  zsr h2 a0 0 2 0 w1 fun h3 =>
  zna h3 20 (10 : Int32) 10 fun w4 h5 =>
  zsr h5 a0 0 2 1 w4 fun h6 =>
  some ((), h6)
def F_X3_init (n : Nat) (h : zH) (a0 : Nat) : Option (Unit × zH) :=
  zno h 0 2 fun w1 h2 =>
  zc (F_X0_init n h2 w1) fun _ h3 =>
  zsr h3 a0 3 4 0 w1 fun h4 =>
  zna h4 20 (6 : Int32) 6 fun w5 h6 =>
  zsr h6 a0 3 4 1 w5 fun h7 =>
  zna h7 20 (8 : Int32) 8 fun w8 h9 =>
  zsr h9 a0 3 4 2 w8 fun h10 =>
  zsi h10 a0 3 4 3 (-1 : Int32) fun h11 =>
  some ((), h11)
def F_X6_init (n : Nat) (h : zH) (a0 : Nat) : Option (Unit × zH) :=
  zna h 20 (12 : Int32) 12 fun w1 h2 =>
  zsr h2 a0 6 3 0 w1 fun h3 =>
  zna h3 20 (12 : Int32) 12 fun w4 h5 =>
  zsr h5 a0 6 3 1 w4 fun h6 =>
  zsi h6 a0 6 3 2 (0 : Int32) fun h7 =>
  some ((), h7)
def F_X10_init_B225 (n : Nat) (kc225 : zH × Int32 × Nat → Option (Unit × zH)) (gn : Nat) (h71 : zH) (w69 : Nat) (x70 : Int32) : Option (Unit × zH) :=
  if gn ≤ 6 then (
    if (6 : Int32) ≤ x70 then (
      some ((), h71)
    ) else (
      zgr h71 w69 9 20 9 fun w72 =>
      if gn < 6 then zno h71 8 4 fun w73 h74 =>
      zc (F_X8_init n h74 w73) fun _ h75 =>
      ztr h75 w72 25 x70 w73 8 4 fun h76 =>
      zv (x70 + (1 : Int32)) fun x77 =>
      kc225 (h76, x77, gn + 1)
      else none
    )
  ) else none
def F_X10_init_L225 (n : Nat) (gn : Nat) (h71 : zH) (w69 : Nat) (x70 : Int32) : Option (Unit × zH) :=
  zloop (fun kc x => F_X10_init_B225 n kc x.2.2 x.1 w69 x.2.1) n (h71, x70, gn)
def F_X10_init_B201 (n : Nat) (kc201 : zH × Int32 → Option (Unit × zH)) (h68 : zH) (w66 : Nat) (x67 : Int32) : Option (Unit × zH) :=
  if (8 : Int32) ≤ x67 then (
    F_X10_init_L225 n 0 h68 w66 (0 : Int32)
  ) else (
    zgr h68 w66 9 20 2 fun w86 =>
    zgr h68 w66 9 20 1 fun w87 =>
    ztr h68 w86 24 x67 w87 2 2 fun h88 =>
    zv (x67 + (1 : Int32)) fun x89 =>
    kc201 (h88, x89)
  )
def F_X10_init_L201 (n : Nat) (h68 : zH) (w66 : Nat) (x67 : Int32) : Option (Unit × zH) :=
  zloop (fun kc x => F_X10_init_B201 n kc x.1 w66 x.2) n (h68, x67)
def F_X10_init (n : Nat) (h : zH) (a0 : Nat) : Option (Unit × zH) :=
  zno h 5 2 fun w1 h2 =>
  zc (F_X5_init n h2 w1) fun _ h3 =>
  zsr h3 a0 9 20 0 w1 fun h4 =>
  zno h4 2 2 fun w5 h6 =>
  zc (F_X2_init n h6 w5 (0 : Int32) (0 : Int32)) fun _ h7 =>
  zsr h7 a0 9 20 1 w5 fun h8 =>
  zna h8 24 (8 : Int32) 8 fun w9 h10 =>
  zsr h10 a0 9 20 2 w9 fun h11 =>
  zsi h11 a0 9 20 3 (0 : Int32) fun h12 =>
  zno h12 1 2 fun w13 h14 =>
  zc (F_X1_init n h14 w13) fun _ h15 =>
  zsr h15 a0 9 20 4 w13 fun h16 =>
  zno h16 1 2 fun w17 h18 =>
  zc (F_X1_init n h18 w17) fun _ h19 =>
  zsr h19 a0 9 20 5 w17 fun h20 =>
  zsi h20 a0 9 20 6 (0 : Int32) fun h21 =>
  zno h21 7 6 fun w22 h23 =>
  zc (F_X7_init n h23 w22) fun _ h24 =>
  zsr h24 a0 9 20 7 w22 fun h25 =>
  zno h25 7 6 fun w26 h27 =>
  zc (F_X7_init n h27 w26) fun _ h28 =>
  zsr h28 a0 9 20 8 w26 fun h29 =>
  zna h29 25 (6 : Int32) 6 fun w30 h31 =>
  zsr h31 a0 9 20 9 w30 fun h32 =>
  zno h32 8 4 fun w33 h34 =>
  zc (F_X8_init n h34 w33) fun _ h35 =>
  zsr h35 a0 9 20 10 w33 fun h36 =>
  zsi h36 a0 9 20 11 (0 : Int32) fun h37 =>
  zno h37 4 5 fun w38 h39 =>
  zc (F_X4_init n h39 w38 (8 : Int32)) fun _ h40 =>
  zsr h40 a0 9 20 12 w38 fun h41 =>
  zno h41 4 5 fun w42 h43 =>
  zc (F_X4_init n h43 w42 (10 : Int32)) fun _ h44 =>
  zsr h44 a0 9 20 13 w42 fun h45 =>
  zno h45 0 2 fun w46 h47 =>
  zc (F_X0_init n h47 w46) fun _ h48 =>
  zsr h48 a0 9 20 14 w46 fun h49 =>
  zno h49 0 2 fun w50 h51 =>
  zc (F_X0_init n h51 w50) fun _ h52 =>
  zsr h52 a0 9 20 15 w50 fun h53 =>
  zno h53 3 4 fun w54 h55 =>
  zc (F_X3_init n h55 w54) fun _ h56 =>
  zsr h56 a0 9 20 16 w54 fun h57 =>
  zna h57 20 (6 : Int32) 6 fun w58 h59 =>
  zsr h59 a0 9 20 17 w58 fun h60 =>
  zsi h60 a0 9 20 18 (0 : Int32) fun h61 =>
  zno h61 6 3 fun w62 h63 =>
  zc (F_X6_init n h63 w62) fun _ h64 =>
  zsr h64 a0 9 20 19 w62 fun h65 =>
  F_X10_init_L201 n h65 a0 (0 : Int32)
def F_X5_byteOf (n : Nat) (h : zH) (p0 : Int64) (p1 : Int32) : Option (Int32 × zH) :=
  zv ((8 : Int32) * p1) fun x1 =>
  zv (((p0).toUInt64 >>> ((x1).toInt64.toUInt64 &&& Int64.toUInt64 63)).toInt64) fun j2 =>
  zv (j2 &&& (255 : Int64)) fun j3 =>
  zv ((j3).toInt32) fun x4 =>
  some (x4, h)
def F_X5_lettersIn_J34 (n : Nat) (h1 : zH) : Option (Int32 × zH) :=
  some ((-1 : Int32), h1)
def F_X5_lettersIn_J44 (n : Nat) (kc4 : zH × Int32 × Int32 → Option (Int32 × zH)) (h17 : zH) (j14 : Int64) (x15 : Int32) (x16 : Int32) : Option (Int32 × zH) :=
  zv (x16 + (1 : Int32)) fun x18 =>
  kc4 (h17, x15, x18)
def F_X5_lettersIn_J36 (n : Nat) (kc4 : zH × Int32 × Int32 → Option (Int32 × zH)) (h13 : zH) (j9 : Int64) (x10 : Int32) (x11 : Int32) (x12 : Int32) : Option (Int32 × zH) :=
  if x12 = (0 : Int32) then (
    F_X5_lettersIn_J44 n kc4 h13 j9 x10 x11
  ) else (
    zv (x10 + (1 : Int32)) fun x19 =>
    F_X5_lettersIn_J44 n kc4 h13 j9 x19 x11
  )
def F_X5_lettersIn_B4 (n : Nat) (kc4 : zH × Int32 × Int32 → Option (Int32 × zH)) (h6 : zH) (j3 : Int64) (x4 : Int32) (x5 : Int32) : Option (Int32 × zH) :=
  if (8 : Int32) ≤ x5 then (
    some (x4, h6)
  ) else (
    zc (F_X5_byteOf n h6 j3 x5) fun x8 h7 =>
    if (126 : Int32) < x8 then (
      F_X5_lettersIn_J34 n h7
    ) else (
      if x8 = (0 : Int32) then (
        F_X5_lettersIn_J36 n kc4 h7 j3 x4 x5 x8
      ) else (
        if x5 ≤ x4 then (
          F_X5_lettersIn_J36 n kc4 h7 j3 x4 x5 x8
        ) else (
          F_X5_lettersIn_J34 n h7
        )
      )
    )
  )
def F_X5_lettersIn_L4 (n : Nat) (h6 : zH) (j3 : Int64) (x4 : Int32) (x5 : Int32) : Option (Int32 × zH) :=
  zloop (fun kc x => F_X5_lettersIn_B4 n kc x.1 j3 x.2.1 x.2.2) n (h6, x4, x5)
def F_X5_lettersIn (n : Nat) (h : zH) (p0 : Int64) : Option (Int32 × zH) :=
  F_X5_lettersIn_L4 n h p0 (0 : Int32) (0 : Int32)
def F_X5_append_B29 (n : Nat) (kc29 : zH × Int32 → Option (Int32 × zH)) (h9 : zH) (w5 : Nat) (j6 : Int64) (x7 : Int32) (x8 : Int32) : Option (Int32 × zH) :=
  if x7 ≤ x8 then (
    zgi h9 w5 5 2 1 fun x10 =>
    some (x10, h9)
  ) else (
    zgr h9 w5 5 2 0 fun w11 =>
    zgi h9 w5 5 2 1 fun x12 =>
    zc (F_X5_byteOf n h9 j6 x8) fun x14 h13 =>
    zti h13 w11 x12 x14 fun h15 =>
    zgi h15 w5 5 2 1 fun x16 =>
    zv (x16 + (1 : Int32)) fun x17 =>
    zsi h15 w5 5 2 1 x17 fun h18 =>
    zv (x8 + (1 : Int32)) fun x19 =>
    kc29 (h18, x19)
  )
def F_X5_append_L29 (n : Nat) (h9 : zH) (w5 : Nat) (j6 : Int64) (x7 : Int32) (x8 : Int32) : Option (Int32 × zH) :=
  zloop (fun kc x => F_X5_append_B29 n kc x.1 w5 j6 x7 x.2) n (h9, x8)
def F_X5_append (n : Nat) (h : zH) (a0 : Nat) (p0 : Int64) : Option (Int32 × zH) :=
  zc (F_X5_lettersIn n h p0) fun x2 h1 =>
  if (0 : Int32) ≤ x2 then (
    zgi h1 a0 5 2 1 fun x3 =>
    zv (x3 + x2) fun x4 =>
    if x4 ≤ (50 : Int32) then (
      F_X5_append_L29 n h1 a0 p0 x2 (0 : Int32)
    ) else (
      some ((-104 : Int32), h1)
    )
  ) else (
    some ((-102 : Int32), h1)
  )
def F_X10_letters (n : Nat) (h : zH) (a0 : Nat) (p0 : Int64) : Option (Int32 × zH) :=
  zgr h a0 9 20 0 fun w1 =>
  zcv h w1 5 2 (F_X5_append n h w1 p0) fun x3 h2 =>
  some (x3, h2)
def F_X5_clear (n : Nat) (h : zH) (a0 : Nat) : Option (Int32 × zH) :=
  zgi h a0 5 2 1 fun x1 =>
  zsi h a0 5 2 1 (0 : Int32) fun h2 =>
  some (x1, h2)
def F_X10_blank (n : Nat) (h : zH) (a0 : Nat) : Option (Int32 × zH) :=
  zgr h a0 9 20 0 fun w1 =>
  zcv h w1 5 2 (F_X5_clear n h w1) fun x3 h2 =>
  some (x3, h2)
def F_X1_begin_B7 (n : Nat) (kc7 : zH × Int32 → Option (Unit × zH)) (h4 : zH) (w2 : Nat) (x3 : Int32) : Option (Unit × zH) :=
  if (5 : Int32) < x3 then (
    some ((), h4)
  ) else (
    zgr h4 w2 1 2 0 fun w5 =>
    zti h4 w5 x3 (0 : Int32) fun h6 =>
    zv (x3 + (1 : Int32)) fun x7 =>
    kc7 (h6, x7)
  )
def F_X1_begin_L7 (n : Nat) (h4 : zH) (w2 : Nat) (x3 : Int32) : Option (Unit × zH) :=
  zloop (fun kc x => F_X1_begin_B7 n kc x.1 w2 x.2) n (h4, x3)
def F_X1_begin (n : Nat) (h : zH) (a0 : Nat) : Option (Unit × zH) :=
  zsi h a0 1 2 1 (0 : Int32) fun h1 =>
  F_X1_begin_L7 n h1 a0 (0 : Int32)
def F_X7_begin (n : Nat) (h : zH) (a0 : Nat) : Option (Unit × zH) :=
  zsi h a0 7 6 4 (0 : Int32) fun h1 =>
  zsi h1 a0 7 6 5 (0 : Int32) fun h2 =>
  some ((), h2)
def F_X8_begin (n : Nat) (h : zH) (a0 : Nat) : Option (Unit × zH) :=
  zsi h a0 8 4 2 (0 : Int32) fun h1 =>
  zsi h1 a0 8 4 3 (0 : Int32) fun h2 =>
  some ((), h2)
def F_X9_digitOf_J20 (n : Nat) (h2 : zH) (x1 : Int32) : Option (Int32 × zH) :=
  some (x1, h2)
def F_X9_digitOf_J19 (n : Nat) (h5 : zH) : Option (Int32 × zH) :=
  F_X9_digitOf_J20 n h5 (-1 : Int32)
def F_X9_digitOf (n : Nat) (h : zH) (p0 : Int32) : Option (Int32 × zH) :=
  if p0 < (48 : Int32) then (
    F_X9_digitOf_J19 n h
  ) else (
    if (57 : Int32) < p0 then (
      F_X9_digitOf_J19 n h
    ) else (
      zv (p0 - (48 : Int32)) fun x7 =>
      F_X9_digitOf_J20 n h x7
    )
  )
def F_X1_takes_J146 (n : Nat) (h5 : zH) (x1 : Int32) (w2 : Nat) (x3 : Int32) (x4 : Int32) : Option (Int32 × zH) :=
  zv (x3 + x4) fun x6 =>
  zsi h5 w2 1 2 1 x6 fun h7 =>
  zzr x1 (some (x1, h7))
def F_X1_takes_J132 (n : Nat) (h17 : zH) (w15 : Nat) (x16 : Int32) : Option (Int32 × zH) :=
  zgi h17 w15 1 2 1 fun x18 =>
  if x16 = (0 : Int32) then (
    F_X1_takes_J146 n h17 x16 w15 x18 (0 : Int32)
  ) else (
    F_X1_takes_J146 n h17 x16 w15 x18 (1 : Int32)
  )
def F_X1_takes_J131 (n : Nat) (h28 : zH) (w23 : Nat) (x24 : Int32) (w25 : Nat) (x26 : Int32) (x27 : Int32) : Option (Int32 × zH) :=
  zti h28 w25 x26 x27 fun h29 =>
  F_X1_takes_J132 n h29 w23 x24
def F_X1_takes_J115 (n : Nat) (h41 : zH) (w37 : Nat) (x38 : Int32) (x39 : Int32) (x40 : Int32) : Option (Int32 × zH) :=
  zgr h41 w37 1 2 0 fun w42 =>
  if x40 = (0 : Int32) then (
    F_X1_takes_J131 n h41 w37 x40 w42 x38 (0 : Int32)
  ) else (
    F_X1_takes_J131 n h41 w37 x40 w42 x38 x39
  )
def F_X1_takes_J114 (n : Nat) (h52 : zH) (w49 : Nat) (x50 : Int32) (x51 : Int32) : Option (Int32 × zH) :=
  F_X1_takes_J115 n h52 w49 x50 x51 (0 : Int32)
def F_X1_takes_J80 (n : Nat) (h59 : zH) (w57 : Nat) (x58 : Int32) : Option (Int32 × zH) :=
  F_X1_takes_J132 n h59 w57 x58
def F_X1_takes_J52 (n : Nat) (h68 : zH) (w63 : Nat) (x64 : Int32) (w65 : Nat) (x66 : Int32) (x67 : Int32) : Option (Int32 × zH) :=
  zti h68 w65 x66 x67 fun h69 =>
  F_X1_takes_J132 n h69 w63 x64
def F_X1_takes_J32 (n : Nat) (h79 : zH) (w77 : Nat) (x78 : Int32) : Option (Int32 × zH) :=
  zgr h79 w77 1 2 0 fun w80 =>
  if x78 = (0 : Int32) then (
    zgr h79 w77 1 2 0 fun w81 =>
    zai h79 w81 20 (5 : Int32) fun x82 =>
    F_X1_takes_J52 n h79 w77 x78 w80 (5 : Int32) x82
  ) else (
    F_X1_takes_J52 n h79 w77 x78 w80 (5 : Int32) (1 : Int32)
  )
def F_X1_takes_J31 (n : Nat) (h90 : zH) (w89 : Nat) : Option (Int32 × zH) :=
  F_X1_takes_J32 n h90 w89 (0 : Int32)
def F_X1_takes (n : Nat) (h : zH) (a0 : Nat) (p0 : Int32) : Option (Int32 × zH) :=
  zgi h a0 1 2 1 fun x93 =>
  zd x93 (2 : Int32) fun x94 =>
  if x94 < (5 : Int32) then (
    zgi h a0 1 2 1 fun x95 =>
    zm x95 (2 : Int32) fun x96 =>
    if x96 = (0 : Int32) then (
      zst zMarks 5 x94 fun x101 =>
      if p0 = x101 then (
        F_X1_takes_J80 n h a0 (1 : Int32)
      ) else (
        F_X1_takes_J80 n h a0 (0 : Int32)
      )
    ) else (
      zc (F_X9_digitOf n h p0) fun x98 h97 =>
      zst zLeast 5 x94 fun x99 =>
      if x98 < x99 then (
        F_X1_takes_J114 n h97 a0 x94 x98
      ) else (
        zst zMost 5 x94 fun x100 =>
        if x100 < x98 then (
          F_X1_takes_J114 n h97 a0 x94 x98
        ) else (
          F_X1_takes_J115 n h97 a0 x94 x98 (1 : Int32)
        )
      )
    )
  ) else (
    zgi h a0 1 2 1 fun x102 =>
    if x102 = (10 : Int32) then (
      if p0 = (113 : Int32) then (
        F_X1_takes_J32 n h a0 (1 : Int32)
      ) else (
        F_X1_takes_J31 n h a0
      )
    ) else (
      F_X1_takes_J31 n h a0
    )
  )
def F_X7_takesFirstDigit_J14 (n : Nat) (h1 : zH) : Option (Int32 × zH) :=
  zzr (0 : Int32) (some ((0 : Int32), h1))
def F_X7_takesFirstDigit (n : Nat) (h : zH) (a0 : Nat) (p0 : Int32) : Option (Int32 × zH) :=
  if p0 = (-1 : Int32) then (
    F_X7_takesFirstDigit_J14 n h
  ) else (
    zgi h a0 7 6 4 fun x3 =>
    if x3 < (10 : Int32) then (
      zgr h a0 7 6 0 fun w4 =>
      zgi h a0 7 6 4 fun x5 =>
      zti h w4 x5 p0 fun h6 =>
      zgr h6 a0 7 6 1 fun w7 =>
      zgi h6 a0 7 6 4 fun x8 =>
      ztz h6 w7 x8 (0 : Int32) fun h9 =>
      zgi h9 a0 7 6 4 fun x10 =>
      zv (x10 + (1 : Int32)) fun x11 =>
      zsi h9 a0 7 6 4 x11 fun h12 =>
      zsi h12 a0 7 6 5 (1 : Int32) fun h13 =>
      zzr (1 : Int32) (some ((1 : Int32), h13))
    ) else (
      F_X7_takesFirstDigit_J14 n h
    )
  )
def F_X9_longer_J24 (n : Nat) (h1 : zH) : Option (Int32 × zH) :=
  some ((-1 : Int32), h1)
def F_X9_longer (n : Nat) (h : zH) (p0 : Int32) (p1 : Int32) (p2 : Int32) : Option (Int32 × zH) :=
  zc (F_X9_digitOf n h p1) fun x4 h3 =>
  if x4 = (-1 : Int32) then (
    F_X9_longer_J24 n h3
  ) else (
    if p0 = (0 : Int32) then (
      F_X9_longer_J24 n h3
    ) else (
      zv (p0 * (10 : Int32)) fun x5 =>
      zv (x5 + x4) fun x6 =>
      if x6 ≤ p2 then (
        zv (p0 * (10 : Int32)) fun x7 =>
        zv (x7 + x4) fun x8 =>
        some (x8, h3)
      ) else (
        F_X9_longer_J24 n h3
      )
    )
  )
def F_X7_takesMore (n : Nat) (h : zH) (a0 : Nat) (p0 : Int32) : Option (Int32 × zH) :=
  if p0 = (104 : Int32) then (
    zgr h a0 7 6 1 fun w11 =>
    zgi h a0 7 6 4 fun x12 =>
    zv (x12 - (1 : Int32)) fun x13 =>
    ztz h w11 x13 (1 : Int32) fun h14 =>
    zsi h14 a0 7 6 5 (2 : Int32) fun h15 =>
    zzr (1 : Int32) (some ((1 : Int32), h15))
  ) else (
    zgr h a0 7 6 0 fun w1 =>
    zgi h a0 7 6 4 fun x2 =>
    zv (x2 - (1 : Int32)) fun x3 =>
    zai h w1 20 x3 fun x4 =>
    zc (F_X9_longer n h x4 p0 (99 : Int32)) fun x6 h5 =>
    if x6 = (-1 : Int32) then (
      zzr (0 : Int32) (some ((0 : Int32), h5))
    ) else (
      zgr h5 a0 7 6 0 fun w7 =>
      zgi h5 a0 7 6 4 fun x8 =>
      zv (x8 - (1 : Int32)) fun x9 =>
      zti h5 w7 x9 x6 fun h10 =>
      zzr (1 : Int32) (some ((1 : Int32), h10))
    )
  )
def F_X7_takes_J86 (n : Nat) (h2 : zH) (x1 : Int32) : Option (Int32 × zH) :=
  zzr x1 (some (x1, h2))
def F_X7_takes_J85 (n : Nat) (h5 : zH) : Option (Int32 × zH) :=
  F_X7_takes_J86 n h5 (0 : Int32)
def F_X7_takes_J57 (n : Nat) (h8 : zH) (x7 : Int32) : Option (Int32 × zH) :=
  zzr x7 (some (x7, h8))
def F_X7_takes_J40 (n : Nat) (h14 : zH) (w11 : Nat) (w12 : Nat) (x13 : Int32) : Option (Int32 × zH) :=
  zsi h14 w12 7 6 5 x13 fun h15 =>
  zgi h15 w11 7 6 4 fun x16 =>
  if (10 : Int32) ≤ x16 then (
    F_X7_takes_J57 n h15 (0 : Int32)
  ) else (
    F_X7_takes_J57 n h15 (1 : Int32)
  )
def F_X7_takes (n : Nat) (h : zH) (a0 : Nat) (p0 : Int32) : Option (Int32 × zH) :=
  zgi h a0 7 6 5 fun x23 =>
  if x23 = (0 : Int32) then (
    zc (F_X9_digitOf n h p0) fun x31 h30 =>
    zcv h30 a0 7 6 (F_X7_takesFirstDigit n h30 a0 x31) fun x33 h32 =>
    zzr x33 (some (x33, h32))
  ) else (
    if p0 = (44 : Int32) then (
      zgi h a0 7 6 4 fun x28 =>
      if (10 : Int32) ≤ x28 then (
        zgi h a0 7 6 5 fun x29 =>
        F_X7_takes_J40 n h a0 a0 x29
      ) else (
        F_X7_takes_J40 n h a0 a0 (0 : Int32)
      )
    ) else (
      zgi h a0 7 6 5 fun x24 =>
      if x24 = (1 : Int32) then (
        zgi h a0 7 6 4 fun x25 =>
        if x25 ≤ (0 : Int32) then (
          F_X7_takes_J85 n h
        ) else (
          zcv h a0 7 6 (F_X7_takesMore n h a0 p0) fun x27 h26 =>
          if x27 = (0 : Int32) then (
            F_X7_takes_J85 n h26
          ) else (
            F_X7_takes_J86 n h26 (1 : Int32)
          )
        )
      ) else (
        F_X7_takes_J85 n h
      )
    )
  )
def F_X8_takesDoing_J19 (n : Nat) (h1 : zH) : Option (Int32 × zH) :=
  zzr (0 : Int32) (some ((0 : Int32), h1))
def F_X8_takesDoing (n : Nat) (h : zH) (a0 : Nat) (p0 : Int32) : Option (Int32 × zH) :=
  if p0 < (0 : Int32) then (
    F_X8_takesDoing_J19 n h
  ) else (
    if (8 : Int32) ≤ p0 then (
      F_X8_takesDoing_J19 n h
    ) else (
      zgi h a0 8 4 2 fun x3 =>
      if x3 < (6 : Int32) then (
        zgr h a0 8 4 0 fun w4 =>
        zgi h a0 8 4 2 fun x5 =>
        zti h w4 x5 p0 fun h6 =>
        zgr h6 a0 8 4 1 fun w7 =>
        zgi h6 a0 8 4 2 fun x8 =>
        zti h6 w7 x8 (0 : Int32) fun h9 =>
        zgi h9 a0 8 4 2 fun x10 =>
        zv (x10 + (1 : Int32)) fun x11 =>
        zsi h9 a0 8 4 2 x11 fun h12 =>
        zsi h12 a0 8 4 3 (1 : Int32) fun h13 =>
        zzr (1 : Int32) (some ((1 : Int32), h13))
      ) else (
        F_X8_takesDoing_J19 n h
      )
    )
  )
def F_X8_takesFirstDigit_J13 (n : Nat) (h1 : zH) : Option (Int32 × zH) :=
  zzr (0 : Int32) (some ((0 : Int32), h1))
def F_X8_takesFirstDigit (n : Nat) (h : zH) (a0 : Nat) (p0 : Int32) : Option (Int32 × zH) :=
  if p0 < (1 : Int32) then (
    F_X8_takesFirstDigit_J13 n h
  ) else (
    zgi h a0 8 4 2 fun x3 =>
    if (1 : Int32) ≤ x3 then (
      zgr h a0 8 4 1 fun w4 =>
      zgi h a0 8 4 2 fun x5 =>
      zv (x5 - (1 : Int32)) fun x6 =>
      zti h w4 x6 p0 fun h7 =>
      zsi h7 a0 8 4 3 (3 : Int32) fun h8 =>
      zzr (1 : Int32) (some ((1 : Int32), h8))
    ) else (
      F_X8_takesFirstDigit_J13 n h
    )
  )
def F_X8_takesMore_J48 (n : Nat) (h2 : zH) (x1 : Int32) : Option (Int32 × zH) :=
  zzr x1 (some (x1, h2))
def F_X8_takesMore_J31 (n : Nat) (h8 : zH) (w5 : Nat) (w6 : Nat) (x7 : Int32) : Option (Int32 × zH) :=
  zsi h8 w6 8 4 3 x7 fun h9 =>
  zgi h9 w5 8 4 2 fun x10 =>
  if (6 : Int32) ≤ x10 then (
    F_X8_takesMore_J48 n h9 (0 : Int32)
  ) else (
    F_X8_takesMore_J48 n h9 (1 : Int32)
  )
def F_X8_takesMore (n : Nat) (h : zH) (a0 : Nat) (p0 : Int32) : Option (Int32 × zH) :=
  zgi h a0 8 4 2 fun x17 =>
  if (1 : Int32) ≤ x17 then (
    if p0 = (44 : Int32) then (
      zgi h a0 8 4 2 fun x28 =>
      if (6 : Int32) ≤ x28 then (
        F_X8_takesMore_J31 n h a0 a0 (3 : Int32)
      ) else (
        F_X8_takesMore_J31 n h a0 a0 (0 : Int32)
      )
    ) else (
      zgr h a0 8 4 1 fun w18 =>
      zgi h a0 8 4 2 fun x19 =>
      zv (x19 - (1 : Int32)) fun x20 =>
      zai h w18 20 x20 fun x21 =>
      zc (F_X9_longer n h x21 p0 (60 : Int32)) fun x23 h22 =>
      if x23 = (-1 : Int32) then (
        zzr (0 : Int32) (some ((0 : Int32), h22))
      ) else (
        zgr h22 a0 8 4 1 fun w24 =>
        zgi h22 a0 8 4 2 fun x25 =>
        zv (x25 - (1 : Int32)) fun x26 =>
        zti h22 w24 x26 x23 fun h27 =>
        zzr (1 : Int32) (some ((1 : Int32), h27))
      )
    )
  ) else (
    zzr (0 : Int32) (some ((0 : Int32), h))
  )
def F_X8_takes_J67 (n : Nat) (h2 : zH) (x1 : Int32) : Option (Int32 × zH) :=
  zzr x1 (some (x1, h2))
def F_X8_takes_J53 (n : Nat) (h8 : zH) (x5 : Int32) (w6 : Nat) (x7 : Int32) : Option (Int32 × zH) :=
  zsi h8 w6 8 4 3 x7 fun h9 =>
  if x5 = (42 : Int32) then (
    F_X8_takes_J67 n h9 (1 : Int32)
  ) else (
    F_X8_takes_J67 n h9 (0 : Int32)
  )
def F_X8_takes (n : Nat) (h : zH) (a0 : Nat) (p0 : Int32) : Option (Int32 × zH) :=
  zgi h a0 8 4 3 fun x15 =>
  if (x15).toInt < 0 ∨ 2 < (x15).toInt then (
    zcv h a0 8 4 (F_X8_takesMore n h a0 p0) fun x17 h16 =>
    zzr x17 (some (x17, h16))
  ) else
  if x15 = (0 : Int32) then (
    zc (F_X9_digitOf n h p0) fun x19 h18 =>
    zcv h18 a0 8 4 (F_X8_takesDoing n h18 a0 x19) fun x21 h20 =>
    zzr x21 (some (x21, h20))
  ) else
  if x15 = (1 : Int32) then (
    if p0 = (42 : Int32) then (
      F_X8_takes_J53 n h p0 a0 (2 : Int32)
    ) else (
      F_X8_takes_J53 n h p0 a0 (1 : Int32)
    )
  ) else
  if x15 = (2 : Int32) then (
    zc (F_X9_digitOf n h p0) fun x23 h22 =>
    zcv h22 a0 8 4 (F_X8_takesFirstDigit n h22 a0 x23) fun x25 h24 =>
    zzr x25 (some (x25, h24))
  ) else
  none
def F_X5_firstWrong_J24 (n : Nat) (kc6 : zH × Int32 → Option (Int32 × zH)) (h18 : zH) (w14 : Nat) (w15 : Nat) (x16 : Int32) (x17 : Int32) : Option (Int32 × zH) :=
  if x17 = (0 : Int32) then (
    some (x16, h18)
  ) else (
    zv (x16 + (1 : Int32)) fun x19 =>
    kc6 (h18, x19)
  )
def F_X5_firstWrong_B6 (n : Nat) (kc6 : zH × Int32 → Option (Int32 × zH)) (h7 : zH) (w4 : Nat) (w5 : Nat) (x6 : Int32) : Option (Int32 × zH) :=
  zgi h7 w4 5 2 1 fun x8 =>
  if x8 ≤ x6 then (
    zgi h7 w4 5 2 1 fun x9 =>
    some (x9, h7)
  ) else (
    zgr h7 w4 5 2 0 fun w10 =>
    zai h7 w10 20 x6 fun x11 =>
    if zsh h7 w5 = some (1, 2) then (
      zcv h7 w5 1 2 (F_X1_takes n h7 w5 x11) fun x13 h12 =>
      F_X5_firstWrong_J24 n kc6 h12 w4 w5 x6 x13
    ) else
    if zsh h7 w5 = some (7, 6) then (
      zcv h7 w5 7 6 (F_X7_takes n h7 w5 x11) fun x13 h12 =>
      F_X5_firstWrong_J24 n kc6 h12 w4 w5 x6 x13
    ) else
    zcv h7 w5 8 4 (F_X8_takes n h7 w5 x11) fun x13 h12 =>
    F_X5_firstWrong_J24 n kc6 h12 w4 w5 x6 x13
  )
def F_X5_firstWrong_L6 (n : Nat) (h7 : zH) (w4 : Nat) (w5 : Nat) (x6 : Int32) : Option (Int32 × zH) :=
  zloop (fun kc x => F_X5_firstWrong_B6 n kc x.1 w4 w5 x.2) n (h7, x6)
def F_X5_firstWrong_J4 (n : Nat) (h3 : zH) (w1 : Nat) (w2 : Nat) : Option (Int32 × zH) :=
  F_X5_firstWrong_L6 n h3 w1 w2 (0 : Int32)
def F_X5_firstWrong (n : Nat) (h : zH) (a0 : Nat) (p0 : Nat) : Option (Int32 × zH) :=
  if zsh h p0 = some (1, 2) then (
    zcv h p0 1 2 (F_X1_begin n h p0) fun _ h47 =>
    F_X5_firstWrong_J4 n h47 a0 p0
  ) else
  if zsh h p0 = some (7, 6) then (
    zcv h p0 7 6 (F_X7_begin n h p0) fun _ h47 =>
    F_X5_firstWrong_J4 n h47 a0 p0
  ) else
  zcv h p0 8 4 (F_X8_begin n h p0) fun _ h47 =>
  F_X5_firstWrong_J4 n h47 a0 p0
def F_X10_fault (n : Nat) (h : zH) (a0 : Nat) (p0 : Int32) : Option (Int32 × zH) :=
  if (p0).toInt < 0 ∨ 2 < (p0).toInt then (
    some ((-102 : Int32), h)
  ) else
  if p0 = (0 : Int32) then (
    zgr h a0 9 20 0 fun w1 =>
    zgr h a0 9 20 5 fun w2 =>
    zcv h w1 5 2 (F_X5_firstWrong n h w1 w2) fun x4 h3 =>
    some (x4, h3)
  ) else
  if p0 = (1 : Int32) then (
    zgr h a0 9 20 0 fun w5 =>
    zgr h a0 9 20 10 fun w6 =>
    zcv h w5 5 2 (F_X5_firstWrong n h w5 w6) fun x8 h7 =>
    some (x8, h7)
  ) else
  if p0 = (2 : Int32) then (
    zgr h a0 9 20 0 fun w9 =>
    zgr h a0 9 20 8 fun w10 =>
    zcv h w9 5 2 (F_X5_firstWrong n h w9 w10) fun x12 h11 =>
    some (x12, h11)
  ) else
  none
def F_X1_isWhole_J14 (n : Nat) (h2 : zH) (x1 : Int32) : Option (Int32 × zH) :=
  zzr x1 (some (x1, h2))
def F_X1_isWhole (n : Nat) (h : zH) (a0 : Nat) : Option (Int32 × zH) :=
  zgi h a0 1 2 1 fun x5 =>
  if x5 < (10 : Int32) then (
    F_X1_isWhole_J14 n h (0 : Int32)
  ) else (
    F_X1_isWhole_J14 n h (1 : Int32)
  )
def F_X7_isWhole_J20 (n : Nat) (h2 : zH) (x1 : Int32) : Option (Int32 × zH) :=
  zzr x1 (some (x1, h2))
def F_X7_isWhole_J19 (n : Nat) (h5 : zH) : Option (Int32 × zH) :=
  F_X7_isWhole_J20 n h5 (0 : Int32)
def F_X7_isWhole (n : Nat) (h : zH) (a0 : Nat) : Option (Int32 × zH) :=
  zgi h a0 7 6 5 fun x7 =>
  if x7 = (0 : Int32) then (
    F_X7_isWhole_J19 n h
  ) else (
    zgi h a0 7 6 4 fun x8 =>
    if x8 < (4 : Int32) then (
      F_X7_isWhole_J19 n h
    ) else (
      F_X7_isWhole_J20 n h (1 : Int32)
    )
  )
def F_X8_isWhole_J13 (n : Nat) (h2 : zH) (x1 : Int32) : Option (Int32 × zH) :=
  zzr x1 (some (x1, h2))
def F_X8_isWhole (n : Nat) (h : zH) (a0 : Nat) : Option (Int32 × zH) :=
  zgi h a0 8 4 3 fun x5 =>
  if x5 = (3 : Int32) then (
    F_X8_isWhole_J13 n h (1 : Int32)
  ) else (
    F_X8_isWhole_J13 n h (0 : Int32)
  )
def F_X5_reads_J24 (n : Nat) (h2 : zH) (x1 : Int32) : Option (Int32 × zH) :=
  zzr x1 (some (x1, h2))
def F_X5_reads_J23 (n : Nat) (h5 : zH) : Option (Int32 × zH) :=
  F_X5_reads_J24 n h5 (0 : Int32)
def F_X5_reads_J16 (n : Nat) (h8 : zH) (x7 : Int32) : Option (Int32 × zH) :=
  if x7 = (0 : Int32) then (
    F_X5_reads_J23 n h8
  ) else (
    F_X5_reads_J24 n h8 (1 : Int32)
  )
def F_X5_reads (n : Nat) (h : zH) (a0 : Nat) (p0 : Nat) : Option (Int32 × zH) :=
  zcv h a0 5 2 (F_X5_firstWrong n h a0 p0) fun x12 h11 =>
  zgi h11 a0 5 2 1 fun x13 =>
  if x12 = x13 then (
    if zsh h11 p0 = some (1, 2) then (
      zcv h11 p0 1 2 (F_X1_isWhole n h11 p0) fun x15 h14 =>
      F_X5_reads_J16 n h14 x15
    ) else
    if zsh h11 p0 = some (7, 6) then (
      zcv h11 p0 7 6 (F_X7_isWhole n h11 p0) fun x15 h14 =>
      F_X5_reads_J16 n h14 x15
    ) else
    zcv h11 p0 8 4 (F_X8_isWhole n h11 p0) fun x15 h14 =>
    F_X5_reads_J16 n h14 x15
  ) else (
    F_X5_reads_J23 n h11
  )
def F_X4_clear (n : Nat) (h : zH) (a0 : Nat) : Option (Unit × zH) :=
  zsi h a0 4 5 4 (0 : Int32) fun h1 =>
  some ((), h1)
def F_X0_calm_B38 (n : Nat) (kc38 : zH × Int32 → Option (Unit × zH)) (h8 : zH) (w5 : Nat) (w6 : Nat) (x7 : Int32) : Option (Unit × zH) :=
  zgi h8 w6 4 5 4 fun x9 =>
  if x9 ≤ x7 then (
    some ((), h8)
  ) else (
    zgr h8 w5 0 2 1 fun w10 =>
    zgr h8 w6 4 5 0 fun w11 =>
    zai h8 w11 20 x7 fun x12 =>
    zti h8 w10 x7 x12 fun h13 =>
    zv (x7 + (1 : Int32)) fun x14 =>
    kc38 (h13, x14)
  )
def F_X0_calm_L38 (n : Nat) (h8 : zH) (w5 : Nat) (w6 : Nat) (x7 : Int32) : Option (Unit × zH) :=
  zloop (fun kc x => F_X0_calm_B38 n kc x.1 w5 w6 x.2) n (h8, x7)
def F_X0_calm_B10 (n : Nat) (kc2 : zH × Int32 → Option (Unit × zH)) (kc10 : zH × Int32 → Option (Unit × zH)) (h27 : zH) (w23 : Nat) (w24 : Nat) (x25 : Int32) (x26 : Int32) : Option (Unit × zH) :=
  if (4 : Int32) ≤ x26 then (
    zv (x25 + (1 : Int32)) fun x28 =>
    kc2 (h27, x28)
  ) else (
    zgr h27 w23 0 2 0 fun w29 =>
    zar h27 w29 23 x25 fun w30 =>
    zti h27 w30 x26 (0 : Int32) fun h31 =>
    zv (x26 + (1 : Int32)) fun x32 =>
    kc10 (h31, x32)
  )
def F_X0_calm_L10 (n : Nat) (kc2 : zH × Int32 → Option (Unit × zH)) (h27 : zH) (w23 : Nat) (w24 : Nat) (x25 : Int32) (x26 : Int32) : Option (Unit × zH) :=
  zloop (fun kc x => F_X0_calm_B10 n kc2 kc x.1 w23 w24 x25 x.2) n (h27, x26)
def F_X0_calm_B2 (n : Nat) (kc2 : zH × Int32 → Option (Unit × zH)) (h4 : zH) (w1 : Nat) (w2 : Nat) (x3 : Int32) : Option (Unit × zH) :=
  if (6 : Int32) ≤ x3 then (
    F_X0_calm_L38 n h4 w1 w2 (0 : Int32)
  ) else (
    F_X0_calm_L10 n kc2 h4 w1 w2 x3 (0 : Int32)
  )
def F_X0_calm_L2 (n : Nat) (h4 : zH) (w1 : Nat) (w2 : Nat) (x3 : Int32) : Option (Unit × zH) :=
  zloop (fun kc x => F_X0_calm_B2 n kc x.1 w1 w2 x.2) n (h4, x3)
def F_X0_calm (n : Nat) (h : zH) (a0 : Nat) (p0 : Nat) : Option (Unit × zH) :=
  F_X0_calm_L2 n h a0 p0 (0 : Int32)
def F_X3_drop (n : Nat) (h : zH) (a0 : Nat) : Option (Unit × zH) :=
  zsi h a0 3 4 3 (-1 : Int32) fun h1 =>
  some ((), h1)
def F_X1_rings (n : Nat) (h : zH) (a0 : Nat) : Option (Int32 × zH) :=
  zgr h a0 1 2 0 fun w1 =>
  zai h w1 20 (0 : Int32) fun x2 =>
  some (x2, h)
def F_X10_cup_B80 (n : Nat) (kc80 : zH × Int32 → Option (Int32 × zH)) (h24 : zH) (w22 : Nat) (x23 : Int32) : Option (Int32 × zH) :=
  if (6 : Int32) ≤ x23 then (
    zgr h24 w22 9 20 4 fun w25 =>
    zcv h24 w25 1 2 (F_X1_rings n h24 w25) fun x27 h26 =>
    some (x27, h26)
  ) else (
    zgr h24 w22 9 20 17 fun w28 =>
    zti h24 w28 x23 (0 : Int32) fun h29 =>
    zv (x23 + (1 : Int32)) fun x30 =>
    kc80 (h29, x30)
  )
def F_X10_cup_L80 (n : Nat) (h24 : zH) (w22 : Nat) (x23 : Int32) : Option (Int32 × zH) :=
  zloop (fun kc x => F_X10_cup_B80 n kc x.1 w22 x.2) n (h24, x23)
def F_X10_cup (n : Nat) (h : zH) (a0 : Nat) : Option (Int32 × zH) :=
  zgr h a0 9 20 0 fun w1 =>
  zgr h a0 9 20 5 fun w2 =>
  zcv h w1 5 2 (F_X5_reads n h w1 w2) fun x4 h3 =>
  if x4 = (0 : Int32) then (
    some ((-103 : Int32), h3)
  ) else (
    zgr h3 a0 9 20 4 fun w5 =>
    zgr h3 a0 9 20 5 fun w6 =>
    zsr h3 a0 9 20 4 w6 fun h7 =>
    zsr h7 a0 9 20 5 w5 fun h8 =>
    zgi h8 a0 9 20 6 fun x9 =>
    zv (x9 + (1 : Int32)) fun x10 =>
    zsi h8 a0 9 20 6 x10 fun h11 =>
    zgr h11 a0 9 20 0 fun w12 =>
    zcv h11 w12 5 2 (F_X5_clear n h11 w12) fun x14 h13 =>
    zgr h13 a0 9 20 12 fun w15 =>
    zcv h13 w15 4 5 (F_X4_clear n h13 w15) fun _ h16 =>
    zgr h16 a0 9 20 14 fun w17 =>
    zgr h16 a0 9 20 12 fun w18 =>
    zcv h16 w17 0 2 (F_X0_calm n h16 w17 w18) fun _ h19 =>
    zgr h19 a0 9 20 16 fun w20 =>
    zcv h19 w20 3 4 (F_X3_drop n h19 w20) fun _ h21 =>
    F_X10_cup_L80 n h21 a0 (0 : Int32)
  )
def F_X10_row (n : Nat) (h : zH) (a0 : Nat) : Option (Int32 × zH) :=
  zgr h a0 9 20 0 fun w1 =>
  zgr h a0 9 20 10 fun w2 =>
  zcv h w1 5 2 (F_X5_reads n h w1 w2) fun x4 h3 =>
  if x4 = (0 : Int32) then (
    some ((-103 : Int32), h3)
  ) else (
    zgi h3 a0 9 20 11 fun x5 =>
    if x5 < (6 : Int32) then (
      zgr h3 a0 9 20 9 fun w6 =>
      zgi h3 a0 9 20 11 fun x7 =>
      zar h3 w6 25 x7 fun w8 =>
      zgr h3 a0 9 20 9 fun w9 =>
      zgi h3 a0 9 20 11 fun x10 =>
      zgr h3 a0 9 20 10 fun w11 =>
      ztr h3 w9 25 x10 w11 8 4 fun h12 =>
      zsr h12 a0 9 20 10 w8 fun h13 =>
      zgi h13 a0 9 20 11 fun x14 =>
      zv (x14 + (1 : Int32)) fun x15 =>
      zsi h13 a0 9 20 11 x15 fun h16 =>
      zgr h16 a0 9 20 0 fun w17 =>
      zcv h16 w17 5 2 (F_X5_clear n h16 w17) fun x19 h18 =>
      zgi h18 a0 9 20 11 fun x20 =>
      zv (x20 - (1 : Int32)) fun x21 =>
      some (x21, h18)
    ) else (
      some ((-104 : Int32), h3)
    )
  )
def F_X10_river (n : Nat) (h : zH) (a0 : Nat) : Option (Int32 × zH) :=
  zgr h a0 9 20 0 fun w1 =>
  zgr h a0 9 20 8 fun w2 =>
  zcv h w1 5 2 (F_X5_reads n h w1 w2) fun x4 h3 =>
  if x4 = (0 : Int32) then (
    some ((-103 : Int32), h3)
  ) else (
    zgr h3 a0 9 20 7 fun w5 =>
    zgr h3 a0 9 20 8 fun w6 =>
    zsr h3 a0 9 20 7 w6 fun h7 =>
    zsr h7 a0 9 20 8 w5 fun h8 =>
    zgr h8 a0 9 20 0 fun w9 =>
    zcv h8 w9 5 2 (F_X5_clear n h8 w9) fun x11 h10 =>
    zgr h10 a0 9 20 7 fun w12 =>
    zgi h10 w12 7 6 4 fun x13 =>
    some (x13, h10)
  )
def F_X10_hasCup_J15 (n : Nat) (h2 : zH) (x1 : Int32) : Option (Int32 × zH) :=
  zzr x1 (some (x1, h2))
def F_X10_hasCup (n : Nat) (h : zH) (a0 : Nat) : Option (Int32 × zH) :=
  zgr h a0 9 20 4 fun w5 =>
  zcv h w5 1 2 (F_X1_rings n h w5) fun x7 h6 =>
  if x7 ≤ (0 : Int32) then (
    F_X10_hasCup_J15 n h6 (0 : Int32)
  ) else (
    F_X10_hasCup_J15 n h6 (1 : Int32)
  )
def F_X10_isWithin_J15 (n : Nat) (h2 : zH) (x1 : Int32) : Option (Int32 × zH) :=
  zzr x1 (some (x1, h2))
def F_X10_isWithin_J14 (n : Nat) (h5 : zH) : Option (Int32 × zH) :=
  F_X10_isWithin_J15 n h5 (0 : Int32)
def F_X10_isWithin (n : Nat) (h : zH) (p0 : Int32) (p1 : Int32) (p2 : Int32) : Option (Int32 × zH) :=
  if p0 < p1 then (
    F_X10_isWithin_J14 n h
  ) else (
    if p2 < p0 then (
      F_X10_isWithin_J14 n h
    ) else (
      F_X10_isWithin_J15 n h (1 : Int32)
    )
  )
def F_X10_cupTold_J33 (n : Nat) (h2 : zH) (x1 : Int32) : Option (Int32 × zH) :=
  some (x1, h2)
def F_X10_cupTold (n : Nat) (h : zH) (a0 : Nat) (p0 : Int32) : Option (Int32 × zH) :=
  zcv h a0 9 20 (F_X10_hasCup n h a0) fun x6 h5 =>
  if x6 = (0 : Int32) then (
    some ((-103 : Int32), h5)
  ) else (
    zc (F_X10_isWithin n h5 p0 (0 : Int32) (5 : Int32)) fun x8 h7 =>
    if x8 = (0 : Int32) then (
      F_X10_cupTold_J33 n h7 (-102 : Int32)
    ) else (
      zgr h7 a0 9 20 4 fun w9 =>
      zgr h7 w9 1 2 0 fun w10 =>
      zai h7 w10 20 p0 fun x11 =>
      F_X10_cupTold_J33 n h7 x11
    )
  )
def F_X2_isTold_J79 (n : Nat) (h2 : zH) (x1 : Int32) : Option (Int32 × zH) :=
  zzr x1 (some (x1, h2))
def F_X2_isTold_J69 (n : Nat) (h6 : zH) (x5 : Int32) : Option (Int32 × zH) :=
  zzr x5 (some (x5, h6))
def F_X2_isTold_J68 (n : Nat) (h9 : zH) : Option (Int32 × zH) :=
  F_X2_isTold_J69 n h9 (0 : Int32)
def F_X2_isTold_J52 (n : Nat) (h12 : zH) (x11 : Int32) : Option (Int32 × zH) :=
  zzr x11 (some (x11, h12))
def F_X2_isTold_J51 (n : Nat) (h15 : zH) : Option (Int32 × zH) :=
  F_X2_isTold_J52 n h15 (0 : Int32)
def F_X2_isTold (n : Nat) (h : zH) (p0 : Int32) (p1 : Int32) : Option (Int32 × zH) :=
  if (p0).toInt < 0 ∨ 4 < (p0).toInt then (
    zzr (0 : Int32) (some ((0 : Int32), h))
  ) else
  if p0 = (0 : Int32) then (
    if p1 = (0 : Int32) then (
      F_X2_isTold_J79 n h (1 : Int32)
    ) else (
      F_X2_isTold_J79 n h (0 : Int32)
    )
  ) else
  if p0 = (1 : Int32) then (
    if p1 < (1 : Int32) then (
      F_X2_isTold_J51 n h
    ) else (
      if (20 : Int32) < p1 then (
        F_X2_isTold_J51 n h
      ) else (
        F_X2_isTold_J52 n h (1 : Int32)
      )
    )
  ) else
  if p0 = (2 : Int32) then (
    if p1 < (1 : Int32) then (
      F_X2_isTold_J51 n h
    ) else (
      if (20 : Int32) < p1 then (
        F_X2_isTold_J51 n h
      ) else (
        F_X2_isTold_J52 n h (1 : Int32)
      )
    )
  ) else
  if p0 = (3 : Int32) then (
    if p1 < (1 : Int32) then (
      F_X2_isTold_J68 n h
    ) else (
      if (40 : Int32) < p1 then (
        F_X2_isTold_J68 n h
      ) else (
        F_X2_isTold_J69 n h (1 : Int32)
      )
    )
  ) else
  if p0 = (4 : Int32) then (
    if p1 = (0 : Int32) then (
      F_X2_isTold_J79 n h (1 : Int32)
    ) else (
      F_X2_isTold_J79 n h (0 : Int32)
    )
  ) else
  none
def F_X10_doing (n : Nat) (h : zH) (a0 : Nat) (p0 : Int32) (p1 : Int32) : Option (Int32 × zH) :=
  zc (F_X2_isTold n h p0 p1) fun x2 h1 =>
  if x2 = (0 : Int32) then (
    some ((-102 : Int32), h1)
  ) else (
    zgi h1 a0 9 20 3 fun x3 =>
    if x3 < (8 : Int32) then (
      zgr h1 a0 9 20 2 fun w4 =>
      zgi h1 a0 9 20 3 fun x5 =>
      zno h1 2 2 fun w6 h7 =>
      zc (F_X2_init n h7 w6 p0 p1) fun _ h8 =>
      ztr h8 w4 24 x5 w6 2 2 fun h9 =>
      zgi h9 a0 9 20 3 fun x10 =>
      zv (x10 + (1 : Int32)) fun x11 =>
      zsi h9 a0 9 20 3 x11 fun h12 =>
      zgi h12 a0 9 20 3 fun x13 =>
      zv (x13 - (1 : Int32)) fun x14 =>
      some (x14, h12)
    ) else (
      some ((-104 : Int32), h1)
    )
  )
def F_X10_hasDoing_J17 (n : Nat) (h2 : zH) (x1 : Int32) : Option (Int32 × zH) :=
  zzr x1 (some (x1, h2))
def F_X10_hasDoing_J16 (n : Nat) (h5 : zH) : Option (Int32 × zH) :=
  F_X10_hasDoing_J17 n h5 (0 : Int32)
def F_X10_hasDoing (n : Nat) (h : zH) (a0 : Nat) (p0 : Int32) : Option (Int32 × zH) :=
  if p0 < (0 : Int32) then (
    F_X10_hasDoing_J16 n h
  ) else (
    zgi h a0 9 20 3 fun x7 =>
    if x7 ≤ p0 then (
      F_X10_hasDoing_J16 n h
    ) else (
      F_X10_hasDoing_J17 n h (1 : Int32)
    )
  )
def F_X10_doingOrRest_J21 (n : Nat) (h2 : zH) (w1 : Nat) : Option (Nat × zH) :=
  some (w1, h2)
def F_X10_doingOrRest (n : Nat) (h : zH) (a0 : Nat) (p0 : Int32) : Option (Nat × zH) :=
  zcv h a0 9 20 (F_X10_hasDoing n h a0 p0) fun x6 h5 =>
  if x6 = (0 : Int32) then (
    zgr h5 a0 9 20 1 fun w7 =>
    F_X10_doingOrRest_J21 n h5 w7
  ) else (
    zgr h5 a0 9 20 2 fun w8 =>
    zar h5 w8 24 p0 fun w9 =>
    F_X10_doingOrRest_J21 n h5 w9
  )
def F_X2_isA_J30 (n : Nat) (h2 : zH) (x1 : Int32) : Option (Int32 × zH) :=
  zzr x1 (some (x1, h2))
def F_X2_isA_J29 (n : Nat) (h5 : zH) : Option (Int32 × zH) :=
  F_X2_isA_J30 n h5 (0 : Int32)
def F_X2_isA_J25 (n : Nat) (h7 : zH) : Option (Int32 × zH) :=
  F_X2_isA_J30 n h7 (1 : Int32)
def F_X2_isA (n : Nat) (h : zH) (a0 : Nat) (p0 : Int32) : Option (Int32 × zH) :=
  if p0 = (0 : Int32) then (
    F_X2_isA_J25 n h
  ) else (
    zgi h a0 2 2 0 fun x9 =>
    if p0 = x9 then (
      F_X2_isA_J25 n h
    ) else (
      if p0 = (1 : Int32) then (
        zgi h a0 2 2 0 fun x10 =>
        if x10 = (2 : Int32) then (
          F_X2_isA_J25 n h
        ) else (
          F_X2_isA_J29 n h
        )
      ) else (
        F_X2_isA_J29 n h
      )
    )
  )
def F_X10_as_J40 (n : Nat) (h2 : zH) (x1 : Int32) : Option (Int32 × zH) :=
  some (x1, h2)
def F_X10_as (n : Nat) (h : zH) (a0 : Nat) (p0 : Int32) (p1 : Int32) : Option (Int32 × zH) :=
  zcv h a0 9 20 (F_X10_hasDoing n h a0 p0) fun x6 h5 =>
  if x6 = (0 : Int32) then (
    some ((-101 : Int32), h5)
  ) else (
    zc (F_X10_isWithin n h5 p1 (0 : Int32) (4 : Int32)) fun x8 h7 =>
    if x8 = (0 : Int32) then (
      some ((-102 : Int32), h7)
    ) else (
      zcv h7 a0 9 20 (F_X10_doingOrRest n h7 a0 p0) fun w10 h9 =>
      zcv h9 w10 2 2 (F_X2_isA n h9 w10 p1) fun x12 h11 =>
      if x12 = (0 : Int32) then (
        F_X10_as_J40 n h11 (-1 : Int32)
      ) else (
        F_X10_as_J40 n h11 p0
      )
    )
  )
def F_X1_hasRing_J19 (n : Nat) (h2 : zH) (x1 : Int32) : Option (Int32 × zH) :=
  zzr x1 (some (x1, h2))
def F_X1_hasRing_J18 (n : Nat) (h5 : zH) : Option (Int32 × zH) :=
  F_X1_hasRing_J19 n h5 (0 : Int32)
def F_X1_hasRing (n : Nat) (h : zH) (a0 : Nat) (p0 : Int32) : Option (Int32 × zH) :=
  if p0 < (0 : Int32) then (
    F_X1_hasRing_J18 n h
  ) else (
    zgr h a0 1 2 0 fun w7 =>
    zai h w7 20 (0 : Int32) fun x8 =>
    if x8 ≤ p0 then (
      F_X1_hasRing_J18 n h
    ) else (
      F_X1_hasRing_J19 n h (1 : Int32)
    )
  )
def F_X4_add (n : Nat) (h : zH) (a0 : Nat) (p0 : Int32) (p1 : Int32) (p2 : Int32) : Option (Int32 × zH) :=
  zgi h a0 4 5 4 fun x1 =>
  zgr h a0 4 5 0 fun w2 =>
  zln h w2 20 fun x3 =>
  if x1 < x3 then (
    zgr h a0 4 5 0 fun w4 =>
    zgi h a0 4 5 4 fun x5 =>
    zti h w4 x5 p0 fun h6 =>
    zgr h6 a0 4 5 1 fun w7 =>
    zgi h6 a0 4 5 4 fun x8 =>
    zti h6 w7 x8 p1 fun h9 =>
    zgr h9 a0 4 5 2 fun w10 =>
    zgi h9 a0 4 5 4 fun x11 =>
    zti h9 w10 x11 p2 fun h12 =>
    zgr h12 a0 4 5 3 fun w13 =>
    zgi h12 a0 4 5 4 fun x14 =>
    zti h12 w13 x14 (-1 : Int32) fun h15 =>
    zgi h15 a0 4 5 4 fun x16 =>
    zv (x16 + (1 : Int32)) fun x17 =>
    zsi h15 a0 4 5 4 x17 fun h18 =>
    zgi h18 a0 4 5 4 fun x19 =>
    zv (x19 - (1 : Int32)) fun x20 =>
    some (x20, h18)
  ) else (
    some ((-104 : Int32), h)
  )
def F_X4_has_J17 (n : Nat) (h2 : zH) (x1 : Int32) : Option (Int32 × zH) :=
  zzr x1 (some (x1, h2))
def F_X4_has_J16 (n : Nat) (h5 : zH) : Option (Int32 × zH) :=
  F_X4_has_J17 n h5 (0 : Int32)
def F_X4_has (n : Nat) (h : zH) (a0 : Nat) (p0 : Int32) : Option (Int32 × zH) :=
  if p0 < (0 : Int32) then (
    F_X4_has_J16 n h
  ) else (
    zgi h a0 4 5 4 fun x7 =>
    if x7 ≤ p0 then (
      F_X4_has_J16 n h
    ) else (
      F_X4_has_J17 n h (1 : Int32)
    )
  )
def F_X10_leaf_J72 (n : Nat) (h2 : zH) (x1 : Int32) : Option (Int32 × zH) :=
  some (x1, h2)
def F_X10_leaf_J34 (n : Nat) (h5 : zH) : Option (Int32 × zH) :=
  some ((-102 : Int32), h5)
def F_X10_leaf (n : Nat) (h : zH) (a0 : Nat) (p0 : Int32) (p1 : Int32) (p2 : Int32) : Option (Int32 × zH) :=
  zgr h a0 9 20 4 fun w7 =>
  zcv h w7 1 2 (F_X1_hasRing n h w7 p0) fun x9 h8 =>
  if x9 = (0 : Int32) then (
    some ((-101 : Int32), h8)
  ) else (
    zc (F_X10_isWithin n h8 p1 (0 : Int32) (9 : Int32)) fun x11 h10 =>
    if x11 = (0 : Int32) then (
      F_X10_leaf_J34 n h10
    ) else (
      zc (F_X10_isWithin n h10 p2 (0 : Int32) (9 : Int32)) fun x13 h12 =>
      if x13 = (0 : Int32) then (
        F_X10_leaf_J34 n h12
      ) else (
        zgr h12 a0 9 20 12 fun w14 =>
        zcv h12 w14 4 5 (F_X4_add n h12 w14 p0 p1 p2) fun x16 h15 =>
        zgr h15 a0 9 20 12 fun w17 =>
        zcv h15 w17 4 5 (F_X4_has n h15 w17 x16) fun x19 h18 =>
        if x19 = (0 : Int32) then (
          F_X10_leaf_J72 n h18 x16
        ) else (
          zgr h18 a0 9 20 14 fun w20 =>
          zgr h18 w20 0 2 1 fun w21 =>
          zti h18 w21 x16 p0 fun h22 =>
          F_X10_leaf_J72 n h22 x16
        )
      )
    )
  )
def F_X1_heights (n : Nat) (h : zH) (a0 : Nat) : Option (Int32 × zH) :=
  zgr h a0 1 2 0 fun w1 =>
  zai h w1 20 (1 : Int32) fun x2 =>
  some (x2, h)
def F_X0_secondTurning_J24 (n : Nat) (h1 : zH) : Option (Int32 × zH) :=
  some ((0 : Int32), h1)
def F_X0_secondTurning_B32 (n : Nat) (kc32 : zH × Int32 × Int32 → Option (Int32 × zH)) (h9 : zH) (w4 : Nat) (x5 : Int32) (x6 : Int32) (x7 : Int32) (x8 : Int32) : Option (Int32 × zH) :=
  if x6 < x8 then (
    zgr h9 w4 0 2 0 fun w10 =>
    zar h9 w10 23 x5 fun w11 =>
    zai h9 w11 20 (0 : Int32) fun x12 =>
    zd x7 x6 fun x13 =>
    zv (x12 * x12) fun x14 =>
    zv (x13 - x14) fun x15 =>
    zd x15 (100 : Int32) fun x16 =>
    some (x16, h9)
  ) else (
    zgr h9 w4 0 2 0 fun w17 =>
    zar h9 w17 23 x5 fun w18 =>
    zai h9 w18 20 x8 fun x19 =>
    zgr h9 w4 0 2 0 fun w20 =>
    zar h9 w20 23 x5 fun w21 =>
    zai h9 w21 20 x8 fun x22 =>
    zv (x19 * x22) fun x23 =>
    zv (x7 + x23) fun x24 =>
    zv (x8 + (1 : Int32)) fun x25 =>
    kc32 (h9, x24, x25)
  )
def F_X0_secondTurning_L32 (n : Nat) (h9 : zH) (w4 : Nat) (x5 : Int32) (x6 : Int32) (x7 : Int32) (x8 : Int32) : Option (Int32 × zH) :=
  zloop (fun kc x => F_X0_secondTurning_B32 n kc x.1 w4 x5 x6 x.2.1 x.2.2) n (h9, x7, x8)
def F_X0_secondTurning (n : Nat) (h : zH) (a0 : Nat) (p0 : Int32) (p1 : Int32) : Option (Int32 × zH) :=
  zv (p1 - (1 : Int32)) fun x3 =>
  if x3 < (1 : Int32) then (
    F_X0_secondTurning_J24 n h
  ) else (
    if (4 : Int32) < p1 then (
      F_X0_secondTurning_J24 n h
    ) else (
      if p0 < (0 : Int32) then (
        F_X0_secondTurning_J24 n h
      ) else (
        if p0 < (6 : Int32) then (
          F_X0_secondTurning_L32 n h a0 p0 x3 (0 : Int32) (1 : Int32)
        ) else (
          F_X0_secondTurning_J24 n h
        )
      )
    )
  )
def F_X0_pullOf (n : Nat) (h : zH) (a0 : Nat) (p0 : Nat) (p1 : Nat) (p2 : Int32) : Option (Int32 × zH) :=
  zgr h a0 0 2 1 fun w1 =>
  zai h w1 20 p2 fun x2 =>
  zcv h p0 1 2 (F_X1_hasRing n h p0 x2) fun x4 h3 =>
  if x4 = (0 : Int32) then (
    some ((0 : Int32), h3)
  ) else (
    zgr h3 a0 0 2 0 fun w5 =>
    zar h3 w5 23 x2 fun w6 =>
    zai h3 w6 20 (0 : Int32) fun x7 =>
    zcv h3 p0 1 2 (F_X1_heights n h3 p0) fun x9 h8 =>
    zcv h8 a0 0 2 (F_X0_secondTurning n h8 a0 x2 x9) fun x11 h10 =>
    zgr h10 p1 4 5 1 fun w12 =>
    zai h10 w12 20 p2 fun x13 =>
    zv (x13 * x7) fun x14 =>
    zv (x14 * x7) fun x15 =>
    zd x15 (1000 : Int32) fun x16 =>
    zv (x11 - x16) fun x17 =>
    some (x17, h10)
  )
def F_X10_about (n : Nat) (h : zH) (a0 : Nat) (p0 : Int32) (p1 : Int32) : Option (Int32 × zH) :=
  zgr h a0 9 20 12 fun w1 =>
  zcv h w1 4 5 (F_X4_has n h w1 p0) fun x3 h2 =>
  if x3 = (0 : Int32) then (
    some ((-101 : Int32), h2)
  ) else (
    if (p1).toInt < 0 ∨ 5 < (p1).toInt then (
      some ((-102 : Int32), h2)
    ) else
    if p1 = (0 : Int32) then (
      zgr h2 a0 9 20 14 fun w4 =>
      zgr h2 w4 0 2 1 fun w5 =>
      zai h2 w5 20 p0 fun x6 =>
      some (x6, h2)
    ) else
    if p1 = (1 : Int32) then (
      zgr h2 a0 9 20 12 fun w7 =>
      zgr h2 w7 4 5 0 fun w8 =>
      zai h2 w8 20 p0 fun x9 =>
      some (x9, h2)
    ) else
    if p1 = (2 : Int32) then (
      zgr h2 a0 9 20 12 fun w10 =>
      zgr h2 w10 4 5 1 fun w11 =>
      zai h2 w11 20 p0 fun x12 =>
      some (x12, h2)
    ) else
    if p1 = (3 : Int32) then (
      zgr h2 a0 9 20 12 fun w13 =>
      zgr h2 w13 4 5 2 fun w14 =>
      zai h2 w14 20 p0 fun x15 =>
      some (x15, h2)
    ) else
    if p1 = (4 : Int32) then (
      zgr h2 a0 9 20 14 fun w16 =>
      zgr h2 a0 9 20 4 fun w17 =>
      zgr h2 a0 9 20 12 fun w18 =>
      zcv h2 w16 0 2 (F_X0_pullOf n h2 w16 w17 w18 p0) fun x20 h19 =>
      some (x20, h19)
    ) else
    if p1 = (5 : Int32) then (
      zgr h2 a0 9 20 12 fun w21 =>
      zgr h2 w21 4 5 3 fun w22 =>
      zai h2 w22 20 p0 fun x23 =>
      some (x23, h2)
    ) else
    none
  )
def F_X0_copyFrom_J78 (n : Nat) (h1 : zH) : Option (Unit × zH) :=
  some ((), h1)
def F_X0_copyFrom_B49 (n : Nat) (kc49 : zH × Int32 → Option (Unit × zH)) (h12 : zH) (w8 : Nat) (w9 : Nat) (x10 : Int32) (x11 : Int32) : Option (Unit × zH) :=
  if x10 ≤ x11 then (
    F_X0_copyFrom_J78 n h12
  ) else (
    if (10 : Int32) ≤ x11 then (
      F_X0_copyFrom_J78 n h12
    ) else (
      zgr h12 w8 0 2 1 fun w13 =>
      zgr h12 w9 0 2 1 fun w14 =>
      zai h12 w14 20 x11 fun x15 =>
      zti h12 w13 x11 x15 fun h16 =>
      zv (x11 + (1 : Int32)) fun x17 =>
      kc49 (h16, x17)
    )
  )
def F_X0_copyFrom_L49 (n : Nat) (h12 : zH) (w8 : Nat) (w9 : Nat) (x10 : Int32) (x11 : Int32) : Option (Unit × zH) :=
  zloop (fun kc x => F_X0_copyFrom_B49 n kc x.1 w8 w9 x10 x.2) n (h12, x11)
def F_X0_copyFrom_B11 (n : Nat) (kc2 : zH × Int32 → Option (Unit × zH)) (kc11 : zH × Int32 → Option (Unit × zH)) (h30 : zH) (w25 : Nat) (w26 : Nat) (x27 : Int32) (x28 : Int32) (x29 : Int32) : Option (Unit × zH) :=
  if (4 : Int32) ≤ x29 then (
    zv (x28 + (1 : Int32)) fun x31 =>
    kc2 (h30, x31)
  ) else (
    zgr h30 w25 0 2 0 fun w32 =>
    zar h30 w32 23 x28 fun w33 =>
    zgr h30 w26 0 2 0 fun w34 =>
    zar h30 w34 23 x28 fun w35 =>
    zai h30 w35 20 x29 fun x36 =>
    zti h30 w33 x29 x36 fun h37 =>
    zv (x29 + (1 : Int32)) fun x38 =>
    kc11 (h37, x38)
  )
def F_X0_copyFrom_L11 (n : Nat) (kc2 : zH × Int32 → Option (Unit × zH)) (h30 : zH) (w25 : Nat) (w26 : Nat) (x27 : Int32) (x28 : Int32) (x29 : Int32) : Option (Unit × zH) :=
  zloop (fun kc x => F_X0_copyFrom_B11 n kc2 kc x.1 w25 w26 x27 x28 x.2) n (h30, x29)
def F_X0_copyFrom_B2 (n : Nat) (kc2 : zH × Int32 → Option (Unit × zH)) (h7 : zH) (w3 : Nat) (w4 : Nat) (x5 : Int32) (x6 : Int32) : Option (Unit × zH) :=
  if (6 : Int32) ≤ x6 then (
    F_X0_copyFrom_L49 n h7 w3 w4 x5 (0 : Int32)
  ) else (
    F_X0_copyFrom_L11 n kc2 h7 w3 w4 x5 x6 (0 : Int32)
  )
def F_X0_copyFrom_L2 (n : Nat) (h7 : zH) (w3 : Nat) (w4 : Nat) (x5 : Int32) (x6 : Int32) : Option (Unit × zH) :=
  zloop (fun kc x => F_X0_copyFrom_B2 n kc x.1 w3 w4 x5 x.2) n (h7, x6)
def F_X0_copyFrom (n : Nat) (h : zH) (a0 : Nat) (p0 : Nat) (p1 : Int32) : Option (Unit × zH) :=
  F_X0_copyFrom_L2 n h a0 p0 p1 (0 : Int32)
def F_X2_push_J32 (n : Nat) (h2 : zH) (x1 : Int32) : Option (Int32 × zH) :=
  some (x1, h2)
def F_X2_push (n : Nat) (h : zH) (a0 : Nat) : Option (Int32 × zH) :=
  zgi h a0 2 2 0 fun x5 =>
  if x5 = (1 : Int32) then (
    zgi h a0 2 2 1 fun x9 =>
    F_X2_push_J32 n h x9
  ) else (
    zgi h a0 2 2 0 fun x6 =>
    if x6 = (2 : Int32) then (
      zgi h a0 2 2 1 fun x7 =>
      zv (-x7) fun x8 =>
      F_X2_push_J32 n h x8
    ) else (
      F_X2_push_J32 n h (0 : Int32)
    )
  )
def F_X0_move_J120 (n : Nat) (h1 : zH) : Option (Unit × zH) :=
  some ((), h1)
def F_X0_move_B84 (n : Nat) (kc84 : zH × Int32 → Option (Unit × zH)) (h11 : zH) (w7 : Nat) (w8 : Nat) (w9 : Nat) (x10 : Int32) : Option (Unit × zH) :=
  zcv h11 w8 1 2 (F_X1_heights n h11 w8) fun x13 h12 =>
  if x13 ≤ x10 then (
    F_X0_move_J120 n h12
  ) else (
    zgi h12 w9 2 2 0 fun x14 =>
    if x14 = (4 : Int32) then (
      zgr h12 w7 0 2 0 fun w15 =>
      zar h12 w15 23 (0 : Int32) fun w16 =>
      zai h12 w16 20 x10 fun x17 =>
      zd x17 (2 : Int32) fun x18 =>
      zti h12 w16 x10 x18 fun h19 =>
      zv (x10 + (1 : Int32)) fun x20 =>
      kc84 (h19, x20)
    ) else (
      F_X0_move_J120 n h12
    )
  )
def F_X0_move_L84 (n : Nat) (h11 : zH) (w7 : Nat) (w8 : Nat) (w9 : Nat) (x10 : Int32) : Option (Unit × zH) :=
  zloop (fun kc x => F_X0_move_B84 n kc x.1 w7 w8 w9 x.2) n (h11, x10)
def F_X0_move_J81 (n : Nat) (h6 : zH) (w3 : Nat) (w4 : Nat) (w5 : Nat) : Option (Unit × zH) :=
  F_X0_move_L84 n h6 w3 w4 w5 (0 : Int32)
def F_X0_move_B24 (n : Nat) (kc8 : zH × Int32 → Option (Unit × zH)) (kc24 : zH × Int32 → Option (Unit × zH)) (h63 : zH) (w57 : Nat) (w58 : Nat) (w59 : Nat) (x60 : Int32) (x61 : Int32) (x62 : Int32) : Option (Unit × zH) :=
  zcv h63 w58 1 2 (F_X1_heights n h63 w58) fun x65 h64 =>
  if x65 ≤ x62 then (
    zv (x61 + (1 : Int32)) fun x66 =>
    kc8 (h64, x66)
  ) else (
    zgr h64 w57 0 2 0 fun w67 =>
    zar h64 w67 23 x61 fun w68 =>
    zai h64 w68 20 x62 fun x69 =>
    zv (x69 + x60) fun x70 =>
    zgr h64 w57 0 2 0 fun w71 =>
    zar h64 w71 23 x61 fun w72 =>
    zv (if x70 < (99 : Int32) then x70 else (99 : Int32)) fun x73 =>
    zv (if (-99 : Int32) < x73 then x73 else (-99 : Int32)) fun x74 =>
    zti h64 w72 x62 x74 fun h75 =>
    zv (x62 + (1 : Int32)) fun x76 =>
    kc24 (h75, x76)
  )
def F_X0_move_L24 (n : Nat) (kc8 : zH × Int32 → Option (Unit × zH)) (h63 : zH) (w57 : Nat) (w58 : Nat) (w59 : Nat) (x60 : Int32) (x61 : Int32) (x62 : Int32) : Option (Unit × zH) :=
  zloop (fun kc x => F_X0_move_B24 n kc8 kc x.1 w57 w58 w59 x60 x61 x.2) n (h63, x62)
def F_X0_move_B8 (n : Nat) (kc8 : zH × Int32 → Option (Unit × zH)) (h54 : zH) (w49 : Nat) (w50 : Nat) (w51 : Nat) (x52 : Int32) (x53 : Int32) : Option (Unit × zH) :=
  zcv h54 w50 1 2 (F_X1_rings n h54 w50) fun x56 h55 =>
  if x56 ≤ x53 then (
    F_X0_move_J81 n h55 w49 w50 w51
  ) else (
    if x52 = (0 : Int32) then (
      F_X0_move_J81 n h55 w49 w50 w51
    ) else (
      F_X0_move_L24 n kc8 h55 w49 w50 w51 x52 x53 (1 : Int32)
    )
  )
def F_X0_move_L8 (n : Nat) (h54 : zH) (w49 : Nat) (w50 : Nat) (w51 : Nat) (x52 : Int32) (x53 : Int32) : Option (Unit × zH) :=
  zloop (fun kc x => F_X0_move_B8 n kc x.1 w49 w50 w51 x52 x.2) n (h54, x53)
def F_X0_move (n : Nat) (h : zH) (a0 : Nat) (p0 : Nat) (p1 : Nat) : Option (Unit × zH) :=
  zcv h p1 2 2 (F_X2_push n h p1) fun x48 h47 =>
  F_X0_move_L8 n h47 a0 p0 p1 x48 (0 : Int32)
def F_X2_base_J16 (n : Nat) (h2 : zH) (x1 : Int32) : Option (Int32 × zH) :=
  some (x1, h2)
def F_X2_base (n : Nat) (h : zH) (a0 : Nat) : Option (Int32 × zH) :=
  zgi h a0 2 2 0 fun x5 =>
  if x5 = (3 : Int32) then (
    zgi h a0 2 2 1 fun x6 =>
    F_X2_base_J16 n h x6
  ) else (
    F_X2_base_J16 n h (0 : Int32)
  )
def F_X1_floorTenths (n : Nat) (h : zH) (a0 : Nat) : Option (Int32 × zH) :=
  zgr h a0 1 2 0 fun w1 =>
  zai h w1 20 (2 : Int32) fun x2 =>
  some (x2, h)
def F_X0_left (n : Nat) (h : zH) (p0 : Int32) (p1 : Int32) : Option (Int32 × zH) :=
  zv ((10 : Int32) - p1) fun x1 =>
  zv (p0 * x1) fun x2 =>
  zd x2 (10 : Int32) fun x3 =>
  some (x3, h)
def F_X1_wallTenths_J32 (n : Nat) (h2 : zH) (x1 : Int32) : Option (Int32 × zH) :=
  some (x1, h2)
def F_X1_wallTenths (n : Nat) (h : zH) (a0 : Nat) : Option (Int32 × zH) :=
  zgr h a0 1 2 0 fun w5 =>
  zai h w5 20 (5 : Int32) fun x6 =>
  if x6 = (1 : Int32) then (
    zgr h a0 1 2 0 fun w9 =>
    zai h w9 20 (3 : Int32) fun x10 =>
    zv ((2 : Int32) * x10) fun x11 =>
    zv (if x11 < (10 : Int32) then x11 else (10 : Int32)) fun x12 =>
    F_X1_wallTenths_J32 n h x12
  ) else (
    zgr h a0 1 2 0 fun w7 =>
    zai h w7 20 (3 : Int32) fun x8 =>
    F_X1_wallTenths_J32 n h x8
  )
def F_X0_slow_J115 (n : Nat) (h1 : zH) : Option (Unit × zH) :=
  some ((), h1)
def F_X0_slow_B66 (n : Nat) (kc66 : zH × Int32 → Option (Unit × zH)) (h24 : zH) (w18 : Nat) (w19 : Nat) (x20 : Int32) (x21 : Int32) (x22 : Int32) (x23 : Int32) : Option (Unit × zH) :=
  zcv h24 w19 1 2 (F_X1_heights n h24 w19) fun x26 h25 =>
  if x26 ≤ x23 then (
    F_X0_slow_J115 n h25
  ) else (
    if x21 < (0 : Int32) then (
      F_X0_slow_J115 n h25
    ) else (
      zgr h25 w18 0 2 0 fun w27 =>
      zar h25 w27 23 x21 fun w28 =>
      zgr h25 w18 0 2 0 fun w29 =>
      zar h25 w29 23 x21 fun w30 =>
      zai h25 w30 20 x23 fun x31 =>
      zv (x31 - x20) fun x32 =>
      zc (F_X0_left n h25 x32 x22) fun x34 h33 =>
      zv (x20 + x34) fun x35 =>
      zti h33 w28 x23 x35 fun h36 =>
      zv (x23 + (1 : Int32)) fun x37 =>
      kc66 (h36, x37)
    )
  )
def F_X0_slow_L66 (n : Nat) (h24 : zH) (w18 : Nat) (w19 : Nat) (x20 : Int32) (x21 : Int32) (x22 : Int32) (x23 : Int32) : Option (Unit × zH) :=
  zloop (fun kc x => F_X0_slow_B66 n kc x.1 w18 w19 x20 x21 x22 x.2) n (h24, x23)
def F_X0_slow_B8 (n : Nat) (kc8 : zH × Int32 → Option (Unit × zH)) (h10 : zH) (w5 : Nat) (w6 : Nat) (x7 : Int32) (x8 : Int32) (x9 : Int32) : Option (Unit × zH) :=
  zcv h10 w6 1 2 (F_X1_rings n h10 w6) fun x12 h11 =>
  if x12 ≤ x9 then (
    zcv h11 w6 1 2 (F_X1_rings n h11 w6) fun x14 h13 =>
    zv (x14 - (1 : Int32)) fun x15 =>
    zcv h13 w6 1 2 (F_X1_wallTenths n h13 w6) fun x17 h16 =>
    F_X0_slow_L66 n h16 w5 w6 x7 x15 x17 (0 : Int32)
  ) else (
    zgr h11 w5 0 2 0 fun w53 =>
    zar h11 w53 23 x9 fun w54 =>
    zgr h11 w5 0 2 0 fun w55 =>
    zar h11 w55 23 x9 fun w56 =>
    zai h11 w56 20 (0 : Int32) fun x57 =>
    zv (x57 - x7) fun x58 =>
    zc (F_X0_left n h11 x58 x8) fun x60 h59 =>
    zv (x7 + x60) fun x61 =>
    zti h59 w54 (0 : Int32) x61 fun h62 =>
    zv (x9 + (1 : Int32)) fun x63 =>
    kc8 (h62, x63)
  )
def F_X0_slow_L8 (n : Nat) (h10 : zH) (w5 : Nat) (w6 : Nat) (x7 : Int32) (x8 : Int32) (x9 : Int32) : Option (Unit × zH) :=
  zloop (fun kc x => F_X0_slow_B8 n kc x.1 w5 w6 x7 x8 x.2) n (h10, x9)
def F_X0_slow (n : Nat) (h : zH) (a0 : Nat) (p0 : Nat) (p1 : Int32) : Option (Unit × zH) :=
  zcv h p0 1 2 (F_X1_floorTenths n h p0) fun x4 h3 =>
  F_X0_slow_L8 n h3 a0 p0 p1 x4 (0 : Int32)
def F_X1_mixTwentieths (n : Nat) (h : zH) (a0 : Nat) : Option (Int32 × zH) :=
  zgr h a0 1 2 0 fun w1 =>
  zai h w1 20 (4 : Int32) fun x2 =>
  some (x2, h)
def F_X0_blend_B27 (n : Nat) (kc15 : zH × Int32 → Option (Unit × zH)) (kc27 : zH × Int32 → Option (Unit × zH)) (h20 : zH) (w14 : Nat) (w15 : Nat) (x16 : Int32) (x17 : Int32) (x18 : Int32) (x19 : Int32) : Option (Unit × zH) :=
  if x17 ≤ x19 then (
    zv (x18 + (1 : Int32)) fun x21 =>
    kc15 (h20, x21)
  ) else (
    zgr h20 w14 0 2 0 fun w22 =>
    zar h20 w22 23 x18 fun w23 =>
    zv (x19 + (1 : Int32)) fun x24 =>
    zai h20 w23 20 x24 fun x25 =>
    zgr h20 w14 0 2 0 fun w26 =>
    zar h20 w26 23 x18 fun w27 =>
    zai h20 w27 20 x19 fun x28 =>
    zv (x25 - x28) fun x29 =>
    zv (x29 * x16) fun x30 =>
    zd x30 (20 : Int32) fun x31 =>
    zgr h20 w14 0 2 0 fun w32 =>
    zar h20 w32 23 x18 fun w33 =>
    zai h20 w33 20 x19 fun x34 =>
    zv (x34 + x31) fun x35 =>
    zti h20 w33 x19 x35 fun h36 =>
    zgr h36 w14 0 2 0 fun w37 =>
    zar h36 w37 23 x18 fun w38 =>
    zv (x19 + (1 : Int32)) fun x39 =>
    zai h36 w38 20 x39 fun x40 =>
    zv (x40 - x31) fun x41 =>
    zti h36 w38 x39 x41 fun h42 =>
    zv (x19 + (1 : Int32)) fun x43 =>
    kc27 (h42, x43)
  )
def F_X0_blend_L27 (n : Nat) (kc15 : zH × Int32 → Option (Unit × zH)) (h20 : zH) (w14 : Nat) (w15 : Nat) (x16 : Int32) (x17 : Int32) (x18 : Int32) (x19 : Int32) : Option (Unit × zH) :=
  zloop (fun kc x => F_X0_blend_B27 n kc15 kc x.1 w14 w15 x16 x17 x18 x.2) n (h20, x19)
def F_X0_blend_B15 (n : Nat) (kc15 : zH × Int32 → Option (Unit × zH)) (h11 : zH) (w6 : Nat) (w7 : Nat) (x8 : Int32) (x9 : Int32) (x10 : Int32) : Option (Unit × zH) :=
  zcv h11 w7 1 2 (F_X1_rings n h11 w7) fun x13 h12 =>
  if x13 ≤ x10 then (
    some ((), h12)
  ) else (
    F_X0_blend_L27 n kc15 h12 w6 w7 x8 x9 x10 (0 : Int32)
  )
def F_X0_blend_L15 (n : Nat) (h11 : zH) (w6 : Nat) (w7 : Nat) (x8 : Int32) (x9 : Int32) (x10 : Int32) : Option (Unit × zH) :=
  zloop (fun kc x => F_X0_blend_B15 n kc x.1 w6 w7 x8 x9 x.2) n (h11, x10)
def F_X0_blend (n : Nat) (h : zH) (a0 : Nat) (p0 : Nat) : Option (Unit × zH) :=
  zcv h p0 1 2 (F_X1_mixTwentieths n h p0) fun x2 h1 =>
  zcv h1 p0 1 2 (F_X1_heights n h1 p0) fun x4 h3 =>
  zv (x4 - (1 : Int32)) fun x5 =>
  F_X0_blend_L15 n h3 a0 p0 x2 x5 (0 : Int32)
def F_X0_pullAll_J89 (n : Nat) (kc2 : zH × Int32 → Option (Unit × zH)) (h24 : zH) (w20 : Nat) (w21 : Nat) (w22 : Nat) (x23 : Int32) : Option (Unit × zH) :=
  zv (x23 + (1 : Int32)) fun x25 =>
  kc2 (h24, x25)
def F_X0_pullAll_J52 (n : Nat) (kc2 : zH × Int32 → Option (Unit × zH)) (h16 : zH) (w11 : Nat) (w12 : Nat) (w13 : Nat) (x14 : Int32) (x15 : Int32) : Option (Unit × zH) :=
  zgr h16 w13 4 5 2 fun w17 =>
  zai h16 w17 20 x14 fun x18 =>
  zv (-x18) fun x19 =>
  if x19 ≤ x15 then (
    F_X0_pullAll_J89 n kc2 h16 w11 w12 w13 x14
  ) else (
    zgr h16 w11 0 2 1 fun w26 =>
    zai h16 w26 20 x14 fun x27 =>
    zcv h16 w12 1 2 (F_X1_rings n h16 w12) fun x29 h28 =>
    zv (x29 - (1 : Int32)) fun x30 =>
    if x30 ≤ x27 then (
      F_X0_pullAll_J89 n kc2 h28 w11 w12 w13 x14
    ) else (
      zgr h28 w11 0 2 1 fun w31 =>
      zai h28 w31 20 x14 fun x32 =>
      zv (x32 + (1 : Int32)) fun x33 =>
      zti h28 w31 x14 x33 fun h34 =>
      F_X0_pullAll_J89 n kc2 h34 w11 w12 w13 x14
    )
  )
def F_X0_pullAll_B2 (n : Nat) (kc2 : zH × Int32 → Option (Unit × zH)) (h5 : zH) (w1 : Nat) (w2 : Nat) (w3 : Nat) (x4 : Int32) : Option (Unit × zH) :=
  zgi h5 w3 4 5 4 fun x6 =>
  if x6 ≤ x4 then (
    some ((), h5)
  ) else (
    zcv h5 w1 0 2 (F_X0_pullOf n h5 w1 w2 w3 x4) fun x8 h7 =>
    zgr h7 w3 4 5 2 fun w9 =>
    zai h7 w9 20 x4 fun x10 =>
    if x8 ≤ x10 then (
      F_X0_pullAll_J52 n kc2 h7 w1 w2 w3 x4 x8
    ) else (
      zgr h7 w1 0 2 1 fun w35 =>
      zai h7 w35 20 x4 fun x36 =>
      if x36 ≤ (0 : Int32) then (
        F_X0_pullAll_J52 n kc2 h7 w1 w2 w3 x4 x8
      ) else (
        zgr h7 w1 0 2 1 fun w37 =>
        zai h7 w37 20 x4 fun x38 =>
        zv (x38 - (1 : Int32)) fun x39 =>
        zti h7 w37 x4 x39 fun h40 =>
        F_X0_pullAll_J89 n kc2 h40 w1 w2 w3 x4
      )
    )
  )
def F_X0_pullAll_L2 (n : Nat) (h5 : zH) (w1 : Nat) (w2 : Nat) (w3 : Nat) (x4 : Int32) : Option (Unit × zH) :=
  zloop (fun kc x => F_X0_pullAll_B2 n kc x.1 w1 w2 w3 x.2) n (h5, x4)
def F_X0_pullAll (n : Nat) (h : zH) (a0 : Nat) (p0 : Nat) (p1 : Nat) : Option (Unit × zH) :=
  F_X0_pullAll_L2 n h a0 p0 p1 (0 : Int32)
def F_X0_doTicks_B3 (n : Nat) (kc3 : zH × Int32 → Option (Unit × zH)) (h7 : zH) (w1 : Nat) (w2 : Nat) (w3 : Nat) (w4 : Nat) (x5 : Int32) (x6 : Int32) : Option (Unit × zH) :=
  if x5 ≤ x6 then (
    some ((), h7)
  ) else (
    zcv h7 w1 0 2 (F_X0_move n h7 w1 w2 w4) fun _ h8 =>
    zcv h8 w4 2 2 (F_X2_base n h8 w4) fun x10 h9 =>
    zcv h9 w1 0 2 (F_X0_slow n h9 w1 w2 x10) fun _ h11 =>
    zcv h11 w1 0 2 (F_X0_blend n h11 w1 w2) fun _ h12 =>
    zcv h12 w1 0 2 (F_X0_pullAll n h12 w1 w2 w3) fun _ h13 =>
    zv (x6 + (1 : Int32)) fun x14 =>
    kc3 (h13, x14)
  )
def F_X0_doTicks_L3 (n : Nat) (h7 : zH) (w1 : Nat) (w2 : Nat) (w3 : Nat) (w4 : Nat) (x5 : Int32) (x6 : Int32) : Option (Unit × zH) :=
  zloop (fun kc x => F_X0_doTicks_B3 n kc x.1 w1 w2 w3 w4 x5 x.2) n (h7, x6)
def F_X0_doTicks (n : Nat) (h : zH) (a0 : Nat) (p0 : Nat) (p1 : Nat) (p2 : Nat) (p3 : Int32) : Option (Unit × zH) :=
  F_X0_doTicks_L3 n h a0 p0 p1 p2 p3 (0 : Int32)
def F_X10_ticks_J124 (n : Nat) (kc83 : zH × Int32 × Int32 → Option (Int32 × zH)) (h36 : zH) (w32 : Nat) (x33 : Int32) (x34 : Int32) (x35 : Int32) : Option (Int32 × zH) :=
  zv (x34 + x35) fun x37 =>
  zv (x33 + (1 : Int32)) fun x38 =>
  kc83 (h36, x37, x38)
def F_X10_ticks_B83 (n : Nat) (kc83 : zH × Int32 × Int32 → Option (Int32 × zH)) (h23 : zH) (w20 : Nat) (x21 : Int32) (x22 : Int32) : Option (Int32 × zH) :=
  zgr h23 w20 9 20 12 fun w24 =>
  zgi h23 w24 4 5 4 fun x25 =>
  if x25 ≤ x22 then (
    some (x21, h23)
  ) else (
    zgr h23 w20 9 20 14 fun w26 =>
    zgr h23 w26 0 2 1 fun w27 =>
    zai h23 w27 20 x22 fun x28 =>
    zgr h23 w20 9 20 15 fun w29 =>
    zgr h23 w29 0 2 1 fun w30 =>
    zai h23 w30 20 x22 fun x31 =>
    if x28 = x31 then (
      F_X10_ticks_J124 n kc83 h23 w20 x22 x21 (0 : Int32)
    ) else (
      F_X10_ticks_J124 n kc83 h23 w20 x22 x21 (1 : Int32)
    )
  )
def F_X10_ticks_L83 (n : Nat) (h23 : zH) (w20 : Nat) (x21 : Int32) (x22 : Int32) : Option (Int32 × zH) :=
  zloop (fun kc x => F_X10_ticks_B83 n kc x.1 w20 x.2.1 x.2.2) n (h23, x21, x22)
def F_X10_ticks_J16 (n : Nat) (h4 : zH) (w1 : Nat) (x2 : Int32) (x3 : Int32) : Option (Int32 × zH) :=
  zcv h4 w1 9 20 (F_X10_hasCup n h4 w1) fun x6 h5 =>
  if x6 = (0 : Int32) then (
    some ((-103 : Int32), h5)
  ) else (
    zc (F_X10_isWithin n h5 x3 (1 : Int32) (100 : Int32)) fun x8 h7 =>
    if x8 = (0 : Int32) then (
      some ((-102 : Int32), h7)
    ) else (
      zgr h7 w1 9 20 15 fun w9 =>
      zgr h7 w1 9 20 14 fun w10 =>
      zgr h7 w1 9 20 12 fun w11 =>
      zgi h7 w11 4 5 4 fun x12 =>
      zcv h7 w9 0 2 (F_X0_copyFrom n h7 w9 w10 x12) fun _ h13 =>
      zgr h13 w1 9 20 14 fun w14 =>
      zgr h13 w1 9 20 4 fun w15 =>
      zgr h13 w1 9 20 12 fun w16 =>
      zcv h13 w1 9 20 (F_X10_doingOrRest n h13 w1 x2) fun w18 h17 =>
      zcv h17 w14 0 2 (F_X0_doTicks n h17 w14 w15 w16 w18 x3) fun _ h19 =>
      F_X10_ticks_L83 n h19 w1 (0 : Int32) (0 : Int32)
    )
  )
def F_X10_ticks (n : Nat) (h : zH) (a0 : Nat) (p0 : Int32) (p1 : Int32) : Option (Int32 × zH) :=
  if p0 = (-1 : Int32) then (
    F_X10_ticks_J16 n h a0 p0 p1
  ) else (
    zcv h a0 9 20 (F_X10_hasDoing n h a0 p0) fun x93 h92 =>
    if x93 = (0 : Int32) then (
      some ((-101 : Int32), h92)
    ) else (
      F_X10_ticks_J16 n h92 a0 p0 p1
    )
  )
def F_X10_still (n : Nat) (h : zH) (a0 : Nat) : Option (Int32 × zH) :=
  zcv h a0 9 20 (F_X10_hasCup n h a0) fun x2 h1 =>
  if x2 = (0 : Int32) then (
    some ((-103 : Int32), h1)
  ) else (
    zgr h1 a0 9 20 14 fun w3 =>
    zgr h1 a0 9 20 12 fun w4 =>
    zcv h1 w3 0 2 (F_X0_calm n h1 w3 w4) fun _ h5 =>
    some ((1 : Int32), h5)
  )
def F_X1_hasHeight_J19 (n : Nat) (h2 : zH) (x1 : Int32) : Option (Int32 × zH) :=
  zzr x1 (some (x1, h2))
def F_X1_hasHeight_J18 (n : Nat) (h5 : zH) : Option (Int32 × zH) :=
  F_X1_hasHeight_J19 n h5 (0 : Int32)
def F_X1_hasHeight (n : Nat) (h : zH) (a0 : Nat) (p0 : Int32) : Option (Int32 × zH) :=
  if p0 < (0 : Int32) then (
    F_X1_hasHeight_J18 n h
  ) else (
    zgr h a0 1 2 0 fun w7 =>
    zai h w7 20 (1 : Int32) fun x8 =>
    if x8 ≤ p0 then (
      F_X1_hasHeight_J18 n h
    ) else (
      F_X1_hasHeight_J19 n h (1 : Int32)
    )
  )
def F_X10_round_J22 (n : Nat) (h1 : zH) : Option (Int32 × zH) :=
  some ((-1001 : Int32), h1)
def F_X10_round (n : Nat) (h : zH) (a0 : Nat) (p0 : Int32) (p1 : Int32) : Option (Int32 × zH) :=
  zgr h a0 9 20 4 fun w3 =>
  zcv h w3 1 2 (F_X1_hasRing n h w3 p0) fun x5 h4 =>
  if x5 = (0 : Int32) then (
    F_X10_round_J22 n h4
  ) else (
    zgr h4 a0 9 20 4 fun w6 =>
    zcv h4 w6 1 2 (F_X1_hasHeight n h4 w6 p1) fun x8 h7 =>
    if x8 = (0 : Int32) then (
      F_X10_round_J22 n h7
    ) else (
      zgr h7 a0 9 20 14 fun w9 =>
      zgr h7 w9 0 2 0 fun w10 =>
      zar h7 w10 23 p0 fun w11 =>
      zai h7 w11 20 p1 fun x12 =>
      some (x12, h7)
    )
  )
def F_X10_second_J32 (n : Nat) (h2 : zH) (x1 : Int32) : Option (Int32 × zH) :=
  some (x1, h2)
def F_X10_second (n : Nat) (h : zH) (a0 : Nat) (p0 : Int32) : Option (Int32 × zH) :=
  zgr h a0 9 20 4 fun w5 =>
  zcv h w5 1 2 (F_X1_hasRing n h w5 p0) fun x7 h6 =>
  if x7 = (0 : Int32) then (
    F_X10_second_J32 n h6 (-1001 : Int32)
  ) else (
    zgr h6 a0 9 20 14 fun w8 =>
    zgr h6 a0 9 20 4 fun w9 =>
    zcv h6 w9 1 2 (F_X1_heights n h6 w9) fun x11 h10 =>
    zcv h10 w8 0 2 (F_X0_secondTurning n h10 w8 p0 x11) fun x13 h12 =>
    F_X10_second_J32 n h12 x13
  )
def F_X10_would_J19 (n : Nat) (h1 : zH) : Option (Int32 × zH) :=
  some ((-1001 : Int32), h1)
def F_X10_would (n : Nat) (h : zH) (a0 : Nat) (p0 : Int32) (p1 : Int32) (p2 : Int32) : Option (Int32 × zH) :=
  zcv h a0 9 20 (F_X10_hasDoing n h a0 p0) fun x4 h3 =>
  if x4 = (0 : Int32) then (
    F_X10_would_J19 n h3
  ) else (
    zgr h3 a0 9 20 4 fun w5 =>
    zcv h3 w5 1 2 (F_X1_hasRing n h3 w5 p2) fun x7 h6 =>
    if x7 = (0 : Int32) then (
      F_X10_would_J19 n h6
    ) else (
      zc (F_X10_isWithin n h6 p1 (1 : Int32) (100 : Int32)) fun x9 h8 =>
      if x9 = (0 : Int32) then (
        some ((-1002 : Int32), h8)
      ) else (
        zgr h8 a0 9 20 15 fun w10 =>
        zgr h8 a0 9 20 12 fun w11 =>
        zcv h8 w10 0 2 (F_X0_calm n h8 w10 w11) fun _ h12 =>
        zgr h12 a0 9 20 15 fun w13 =>
        zgr h12 a0 9 20 4 fun w14 =>
        zgr h12 a0 9 20 12 fun w15 =>
        zcv h12 a0 9 20 (F_X10_doingOrRest n h12 a0 p0) fun w17 h16 =>
        zcv h16 w13 0 2 (F_X0_doTicks n h16 w13 w14 w15 w17 p1) fun _ h18 =>
        zgr h18 a0 9 20 15 fun w19 =>
        zgr h18 a0 9 20 4 fun w20 =>
        zcv h18 w20 1 2 (F_X1_heights n h18 w20) fun x22 h21 =>
        zcv h21 w19 0 2 (F_X0_secondTurning n h21 w19 p2 x22) fun x24 h23 =>
        some (x24, h23)
      )
    )
  )
def F_X10_hasRow_J17 (n : Nat) (h2 : zH) (x1 : Int32) : Option (Int32 × zH) :=
  zzr x1 (some (x1, h2))
def F_X10_hasRow_J16 (n : Nat) (h5 : zH) : Option (Int32 × zH) :=
  F_X10_hasRow_J17 n h5 (0 : Int32)
def F_X10_hasRow (n : Nat) (h : zH) (a0 : Nat) (p0 : Int32) : Option (Int32 × zH) :=
  if p0 < (0 : Int32) then (
    F_X10_hasRow_J16 n h
  ) else (
    zgi h a0 9 20 11 fun x7 =>
    if x7 ≤ p0 then (
      F_X10_hasRow_J16 n h
    ) else (
      F_X10_hasRow_J17 n h (1 : Int32)
    )
  )
def F_X10_tryRow_B10 (n : Nat) (kc10 : zH × Int32 → Option (Unit × zH)) (h7 : zH) (w3 : Nat) (w4 : Nat) (w5 : Nat) (x6 : Int32) : Option (Unit × zH) :=
  zgi h7 w4 8 4 2 fun x8 =>
  if x8 ≤ x6 then (
    zgr h7 w3 9 20 15 fun w9 =>
    zgr h7 w3 9 20 4 fun w10 =>
    zgr h7 w3 9 20 1 fun w11 =>
    zcv h7 w9 0 2 (F_X0_doTicks n h7 w9 w10 w5 w11 (60 : Int32)) fun _ h12 =>
    some ((), h12)
  ) else (
    zgr h7 w3 9 20 15 fun w13 =>
    zgr h7 w3 9 20 4 fun w14 =>
    zgr h7 w4 8 4 0 fun w15 =>
    zai h7 w15 20 x6 fun x16 =>
    zcv h7 w3 9 20 (F_X10_doingOrRest n h7 w3 x16) fun w18 h17 =>
    zgr h17 w4 8 4 1 fun w19 =>
    zai h17 w19 20 x6 fun x20 =>
    zcv h17 w13 0 2 (F_X0_doTicks n h17 w13 w14 w5 w18 x20) fun _ h21 =>
    zv (x6 + (1 : Int32)) fun x22 =>
    kc10 (h21, x22)
  )
def F_X10_tryRow_L10 (n : Nat) (h7 : zH) (w3 : Nat) (w4 : Nat) (w5 : Nat) (x6 : Int32) : Option (Unit × zH) :=
  zloop (fun kc x => F_X10_tryRow_B10 n kc x.1 w3 w4 w5 x.2) n (h7, x6)
def F_X10_tryRow (n : Nat) (h : zH) (a0 : Nat) (p0 : Nat) (p1 : Nat) : Option (Unit × zH) :=
  zgr h a0 9 20 15 fun w1 =>
  zcv h w1 0 2 (F_X0_calm n h w1 p1) fun _ h2 =>
  F_X10_tryRow_L10 n h2 a0 p0 p1 (0 : Int32)
def F_X10_ends_J19 (n : Nat) (h1 : zH) : Option (Int32 × zH) :=
  some ((-101 : Int32), h1)
def F_X10_ends (n : Nat) (h : zH) (a0 : Nat) (p0 : Int32) (p1 : Int32) : Option (Int32 × zH) :=
  zcv h a0 9 20 (F_X10_hasRow n h a0 p0) fun x4 h3 =>
  if x4 = (0 : Int32) then (
    F_X10_ends_J19 n h3
  ) else (
    zgr h3 a0 9 20 12 fun w5 =>
    zcv h3 w5 4 5 (F_X4_has n h3 w5 p1) fun x7 h6 =>
    if x7 = (0 : Int32) then (
      F_X10_ends_J19 n h6
    ) else (
      zgr h6 a0 9 20 9 fun w8 =>
      zar h6 w8 25 p0 fun w9 =>
      zgr h6 a0 9 20 12 fun w10 =>
      zcv h6 a0 9 20 (F_X10_tryRow n h6 a0 w9 w10) fun _ h11 =>
      zgr h11 a0 9 20 15 fun w12 =>
      zgr h11 w12 0 2 1 fun w13 =>
      zai h11 w13 20 p1 fun x14 =>
      some (x14, h11)
    )
  )
def F_X10_lies_J72 (n : Nat) (h2 : zH) (x1 : Int32) : Option (Int32 × zH) :=
  some (x1, h2)
def F_X10_lies_J19 (n : Nat) (h5 : zH) : Option (Int32 × zH) :=
  some ((-101 : Int32), h5)
def F_X10_lies (n : Nat) (h : zH) (a0 : Nat) (p0 : Int32) (p1 : Int32) : Option (Int32 × zH) :=
  zcv h a0 9 20 (F_X10_hasRow n h a0 p0) fun x8 h7 =>
  if x8 = (0 : Int32) then (
    F_X10_lies_J19 n h7
  ) else (
    zgr h7 a0 9 20 12 fun w9 =>
    zcv h7 w9 4 5 (F_X4_has n h7 w9 p1) fun x11 h10 =>
    if x11 = (0 : Int32) then (
      F_X10_lies_J19 n h10
    ) else (
      zgr h10 a0 9 20 9 fun w12 =>
      zar h10 w12 25 p0 fun w13 =>
      zgr h10 a0 9 20 12 fun w14 =>
      zcv h10 a0 9 20 (F_X10_tryRow n h10 a0 w13 w14) fun _ h15 =>
      zgr h15 a0 9 20 15 fun w16 =>
      zgr h15 w16 0 2 1 fun w17 =>
      zai h15 w17 20 p1 fun x18 =>
      if x18 = (0 : Int32) then (
        F_X10_lies_J72 n h15 (0 : Int32)
      ) else (
        zgr h15 a0 9 20 4 fun w19 =>
        zcv h15 w19 1 2 (F_X1_rings n h15 w19) fun x21 h20 =>
        zv (x21 - (1 : Int32)) fun x22 =>
        if x18 = x22 then (
          F_X10_lies_J72 n h20 (2 : Int32)
        ) else (
          F_X10_lies_J72 n h20 (1 : Int32)
        )
      )
    )
  )
def F_X10_line_J19 (n : Nat) (h1 : zH) : Option (Int32 × zH) :=
  some ((-101 : Int32), h1)
def F_X10_line_B87 (n : Nat) (kc87 : zH × Int32 → Option (Int32 × zH)) (h24 : zH) (w22 : Nat) (x23 : Int32) : Option (Int32 × zH) :=
  if (10 : Int32) ≤ x23 then (
    some ((-1 : Int32), h24)
  ) else (
    zgr h24 w22 9 20 15 fun w25 =>
    zgr h24 w25 0 2 1 fun w26 =>
    zai h24 w26 20 x23 fun x27 =>
    if x27 = (0 : Int32) then (
      zv (x23 + (1 : Int32)) fun x28 =>
      kc87 (h24, x28)
    ) else (
      some (x23, h24)
    )
  )
def F_X10_line_L87 (n : Nat) (h24 : zH) (w22 : Nat) (x23 : Int32) : Option (Int32 × zH) :=
  zloop (fun kc x => F_X10_line_B87 n kc x.1 w22 x.2) n (h24, x23)
def F_X10_line_B45 (n : Nat) (kc45 : zH × Int32 → Option (Int32 × zH)) (h17 : zH) (w12 : Nat) (x13 : Int32) (x14 : Int32) (x15 : Int32) (x16 : Int32) : Option (Int32 × zH) :=
  if (10 : Int32) ≤ x16 then (
    zgr h17 w12 9 20 9 fun w18 =>
    zar h17 w18 25 x13 fun w19 =>
    zgr h17 w12 9 20 13 fun w20 =>
    zcv h17 w12 9 20 (F_X10_tryRow n h17 w12 w19 w20) fun _ h21 =>
    F_X10_line_L87 n h21 w12 (0 : Int32)
  ) else (
    zgr h17 w12 9 20 13 fun w35 =>
    zcv h17 w35 4 5 (F_X4_add n h17 w35 x14 x16 x15) fun x37 h36 =>
    zv (x16 + (1 : Int32)) fun x38 =>
    kc45 (h36, x38)
  )
def F_X10_line_L45 (n : Nat) (h17 : zH) (w12 : Nat) (x13 : Int32) (x14 : Int32) (x15 : Int32) (x16 : Int32) : Option (Int32 × zH) :=
  zloop (fun kc x => F_X10_line_B45 n kc x.1 w12 x13 x14 x15 x.2) n (h17, x16)
def F_X10_line (n : Nat) (h : zH) (a0 : Nat) (p0 : Int32) (p1 : Int32) (p2 : Int32) : Option (Int32 × zH) :=
  zcv h a0 9 20 (F_X10_hasRow n h a0 p0) fun x4 h3 =>
  if x4 = (0 : Int32) then (
    F_X10_line_J19 n h3
  ) else (
    zgr h3 a0 9 20 4 fun w5 =>
    zcv h3 w5 1 2 (F_X1_hasRing n h3 w5 p1) fun x7 h6 =>
    if x7 = (0 : Int32) then (
      F_X10_line_J19 n h6
    ) else (
      zc (F_X10_isWithin n h6 p2 (0 : Int32) (9 : Int32)) fun x9 h8 =>
      if x9 = (0 : Int32) then (
        some ((-102 : Int32), h8)
      ) else (
        zgr h8 a0 9 20 13 fun w10 =>
        zcv h8 w10 4 5 (F_X4_clear n h8 w10) fun _ h11 =>
        F_X10_line_L45 n h11 a0 p0 p1 p2 (0 : Int32)
      )
    )
  )
def F_X10_want (n : Nat) (h : zH) (a0 : Nat) (p0 : Int32) (p1 : Int32) : Option (Int32 × zH) :=
  zgr h a0 9 20 4 fun w1 =>
  zcv h w1 1 2 (F_X1_hasRing n h w1 p0) fun x3 h2 =>
  if x3 = (0 : Int32) then (
    some ((-101 : Int32), h2)
  ) else (
    zc (F_X10_isWithin n h2 p1 (0 : Int32) (8 : Int32)) fun x5 h4 =>
    if x5 = (0 : Int32) then (
      some ((-102 : Int32), h4)
    ) else (
      zgr h4 a0 9 20 17 fun w6 =>
      zai h4 w6 20 p0 fun x7 =>
      zgr h4 a0 9 20 17 fun w8 =>
      zti h4 w8 p0 p1 fun h9 =>
      some (x7, h9)
    )
  )
def F_X0_lyingIn_J31 (n : Nat) (kc5 : zH × Int32 × Int32 → Option (Int32 × zH)) (h16 : zH) (w10 : Nat) (x11 : Int32) (w12 : Nat) (x13 : Int32) (x14 : Int32) (x15 : Int32) : Option (Int32 × zH) :=
  zv (x14 + x15) fun x17 =>
  zv (x13 + (1 : Int32)) fun x18 =>
  kc5 (h16, x17, x18)
def F_X0_lyingIn_B5 (n : Nat) (kc5 : zH × Int32 × Int32 → Option (Int32 × zH)) (h6 : zH) (w1 : Nat) (x2 : Int32) (w3 : Nat) (x4 : Int32) (x5 : Int32) : Option (Int32 × zH) :=
  zgi h6 w3 4 5 4 fun x7 =>
  if x7 ≤ x5 then (
    some (x4, h6)
  ) else (
    zgr h6 w1 0 2 1 fun w8 =>
    zai h6 w8 20 x5 fun x9 =>
    if x9 = x2 then (
      F_X0_lyingIn_J31 n kc5 h6 w1 x2 w3 x5 x4 (1 : Int32)
    ) else (
      F_X0_lyingIn_J31 n kc5 h6 w1 x2 w3 x5 x4 (0 : Int32)
    )
  )
def F_X0_lyingIn_L5 (n : Nat) (h6 : zH) (w1 : Nat) (x2 : Int32) (w3 : Nat) (x4 : Int32) (x5 : Int32) : Option (Int32 × zH) :=
  zloop (fun kc x => F_X0_lyingIn_B5 n kc x.1 w1 x2 w3 x.2.1 x.2.2) n (h6, x4, x5)
def F_X0_lyingIn (n : Nat) (h : zH) (a0 : Nat) (p0 : Int32) (p1 : Nat) : Option (Int32 × zH) :=
  F_X0_lyingIn_L5 n h a0 p0 p1 (0 : Int32) (0 : Int32)
def F_X10_offInTrial_B4 (n : Nat) (kc4 : zH × Int32 × Int32 → Option (Int32 × zH)) (h4 : zH) (w1 : Nat) (x2 : Int32) (x3 : Int32) : Option (Int32 × zH) :=
  zgr h4 w1 9 20 4 fun w5 =>
  zcv h4 w5 1 2 (F_X1_rings n h4 w5) fun x7 h6 =>
  if x7 ≤ x3 then (
    some (x2, h6)
  ) else (
    zgr h6 w1 9 20 15 fun w8 =>
    zgr h6 w1 9 20 12 fun w9 =>
    zcv h6 w8 0 2 (F_X0_lyingIn n h6 w8 x3 w9) fun x11 h10 =>
    zgr h10 w1 9 20 17 fun w12 =>
    zai h10 w12 20 x3 fun x13 =>
    zv (x11 - x13) fun x14 =>
    zv (if 0 ≤ x14 then x14 else 0 - x14) fun x15 =>
    zv (x2 + x15) fun x16 =>
    zv (x3 + (1 : Int32)) fun x17 =>
    kc4 (h10, x16, x17)
  )
def F_X10_offInTrial_L4 (n : Nat) (h4 : zH) (w1 : Nat) (x2 : Int32) (x3 : Int32) : Option (Int32 × zH) :=
  zloop (fun kc x => F_X10_offInTrial_B4 n kc x.1 w1 x.2.1 x.2.2) n (h4, x2, x3)
def F_X10_offInTrial (n : Nat) (h : zH) (a0 : Nat) : Option (Int32 × zH) :=
  F_X10_offInTrial_L4 n h a0 (0 : Int32) (0 : Int32)
def F_X10_off (n : Nat) (h : zH) (a0 : Nat) (p0 : Int32) : Option (Int32 × zH) :=
  zcv h a0 9 20 (F_X10_hasRow n h a0 p0) fun x2 h1 =>
  if x2 = (0 : Int32) then (
    some ((-101 : Int32), h1)
  ) else (
    zcv h1 a0 9 20 (F_X10_hasCup n h1 a0) fun x4 h3 =>
    if x4 = (0 : Int32) then (
      some ((-103 : Int32), h3)
    ) else (
      zgr h3 a0 9 20 9 fun w5 =>
      zar h3 w5 25 p0 fun w6 =>
      zgr h3 a0 9 20 12 fun w7 =>
      zcv h3 a0 9 20 (F_X10_tryRow n h3 a0 w6 w7) fun _ h8 =>
      zcv h8 a0 9 20 (F_X10_offInTrial n h8 a0) fun x10 h9 =>
      some (x10, h9)
    )
  )
def F_X10_offOfStirring (n : Nat) (h : zH) (a0 : Nat) (p0 : Nat) (p1 : Int32) : Option (Int32 × zH) :=
  zgr h a0 9 20 15 fun w1 =>
  zgr h a0 9 20 12 fun w2 =>
  zcv h w1 0 2 (F_X0_calm n h w1 w2) fun _ h3 =>
  zgr h3 a0 9 20 15 fun w4 =>
  zgr h3 a0 9 20 4 fun w5 =>
  zgr h3 a0 9 20 12 fun w6 =>
  zcv h3 w4 0 2 (F_X0_doTicks n h3 w4 w5 w6 p0 p1) fun _ h7 =>
  zgr h7 a0 9 20 15 fun w8 =>
  zgr h7 a0 9 20 4 fun w9 =>
  zgr h7 a0 9 20 12 fun w10 =>
  zgr h7 a0 9 20 1 fun w11 =>
  zcv h7 w8 0 2 (F_X0_doTicks n h7 w8 w9 w10 w11 (60 : Int32)) fun _ h12 =>
  zcv h12 a0 9 20 (F_X10_offInTrial n h12 a0) fun x14 h13 =>
  some (x14, h13)
def F_X10_found_J142 (n : Nat) (h2 : zH) (x1 : Int32) : Option (Int32 × zH) :=
  some (x1, h2)
def F_X10_found_J111 (n : Nat) (kc55 : zH × Int32 × Int32 × Int32 × Int32 × Nat → Option (Int32 × zH)) (kc77 : zH × Int32 × Int32 × Int32 × Int32 → Option (Int32 × zH)) (gn : Nat) (h43 : zH) (w35 : Nat) (x36 : Int32) (x37 : Int32) (x38 : Int32) (x39 : Int32) (x40 : Int32) (w41 : Nat) (x42 : Int32) : Option (Int32 × zH) :=
  zv (x42 + (1 : Int32)) fun x44 =>
  kc77 (h43, x37, x38, x39, x44)
def F_X10_found_B77 (n : Nat) (kc55 : zH × Int32 × Int32 × Int32 × Int32 × Nat → Option (Int32 × zH)) (kc77 : zH × Int32 × Int32 × Int32 × Int32 → Option (Int32 × zH)) (gn : Nat) (h31 : zH) (w23 : Nat) (x24 : Int32) (x25 : Int32) (x26 : Int32) (x27 : Int32) (x28 : Int32) (w29 : Nat) (x30 : Int32) : Option (Int32 × zH) :=
  if (20 : Int32) < x30 then (
    zv (x28 + (1 : Int32)) fun x32 =>
    kc55 (h31, x25, x26, x27, x32, gn + 1)
  ) else (
    zcv h31 w23 9 20 (F_X10_offOfStirring n h31 w23 w29 x30) fun x34 h33 =>
    if x27 ≤ x34 then (
      F_X10_found_J111 n kc55 kc77 gn h33 w23 x24 x25 x26 x27 x28 w29 x30
    ) else (
      F_X10_found_J111 n kc55 kc77 gn h33 w23 x24 x28 x30 x34 x28 w29 x30
    )
  )
def F_X10_found_L77 (n : Nat) (kc55 : zH × Int32 × Int32 × Int32 × Int32 × Nat → Option (Int32 × zH)) (gn : Nat) (h31 : zH) (w23 : Nat) (x24 : Int32) (x25 : Int32) (x26 : Int32) (x27 : Int32) (x28 : Int32) (w29 : Nat) (x30 : Int32) : Option (Int32 × zH) :=
  zloop (fun kc x => F_X10_found_B77 n kc55 kc gn x.1 w23 x24 x.2.1 x.2.2.1 x.2.2.2.1 x28 w29 x.2.2.2.2) n (h31, x25, x26, x27, x30)
def F_X10_found_B55 (n : Nat) (kc55 : zH × Int32 × Int32 × Int32 × Int32 × Nat → Option (Int32 × zH)) (gn : Nat) (h19 : zH) (w13 : Nat) (x14 : Int32) (x15 : Int32) (x16 : Int32) (x17 : Int32) (x18 : Int32) : Option (Int32 × zH) :=
  if gn ≤ 20 then (
    if (20 : Int32) < x18 then (
      if x14 = (0 : Int32) then (
        F_X10_found_J142 n h19 x15
      ) else (
        if x14 = (1 : Int32) then (
          F_X10_found_J142 n h19 x16
        ) else (
          F_X10_found_J142 n h19 x17
        )
      )
    ) else (
      if gn < 20 then zno h19 2 2 fun w20 h21 =>
      zc (F_X2_init n h21 w20 (1 : Int32) x18) fun _ h22 =>
      F_X10_found_L77 n kc55 gn h22 w13 x14 x15 x16 x17 x18 w20 (1 : Int32)
      else none
    )
  ) else none
def F_X10_found_L55 (n : Nat) (gn : Nat) (h19 : zH) (w13 : Nat) (x14 : Int32) (x15 : Int32) (x16 : Int32) (x17 : Int32) (x18 : Int32) : Option (Int32 × zH) :=
  zloop (fun kc x => F_X10_found_B55 n kc x.2.2.2.2.2 x.1 w13 x14 x.2.1 x.2.2.1 x.2.2.2.1 x.2.2.2.2.1) n (h19, x15, x16, x17, x18, gn)
def F_X10_found (n : Nat) (h : zH) (a0 : Nat) (p0 : Int32) : Option (Int32 × zH) :=
  zcv h a0 9 20 (F_X10_hasCup n h a0) fun x6 h5 =>
  if x6 = (0 : Int32) then (
    some ((-103 : Int32), h5)
  ) else (
    zc (F_X10_isWithin n h5 p0 (0 : Int32) (2 : Int32)) fun x8 h7 =>
    if x8 = (0 : Int32) then (
      some ((-102 : Int32), h7)
    ) else (
      zgi h7 a0 9 20 18 fun x9 =>
      if x9 < (12 : Int32) then (
        zgi h7 a0 9 20 18 fun x10 =>
        zv (x10 + (1 : Int32)) fun x11 =>
        zsi h7 a0 9 20 18 x11 fun h12 =>
        F_X10_found_L55 n 0 h12 a0 p0 (0 : Int32) (0 : Int32) (1000000 : Int32) (1 : Int32)
      ) else (
        some ((-103 : Int32), h7)
      )
    )
  )
def F_X10_seen_J30 (n : Nat) (h4 : zH) (w1 : Nat) (x2 : Int32) (x3 : Int32) : Option (Int32 × zH) :=
  zgr h4 w1 9 20 12 fun w5 =>
  zgr h4 w5 4 5 3 fun w6 =>
  zai h4 w6 20 x2 fun x7 =>
  zgr h4 w1 9 20 12 fun w8 =>
  zgr h4 w8 4 5 3 fun w9 =>
  zti h4 w9 x2 x3 fun h10 =>
  some (x7, h10)
def F_X10_seen_J27 (n : Nat) (h21 : zH) : Option (Int32 × zH) :=
  some ((-101 : Int32), h21)
def F_X10_seen (n : Nat) (h : zH) (a0 : Nat) (p0 : Int32) (p1 : Int32) : Option (Int32 × zH) :=
  zgr h a0 9 20 12 fun w23 =>
  zcv h w23 4 5 (F_X4_has n h w23 p0) fun x25 h24 =>
  if x25 = (0 : Int32) then (
    F_X10_seen_J27 n h24
  ) else (
    if p1 = (-1 : Int32) then (
      F_X10_seen_J30 n h24 a0 p0 p1
    ) else (
      zgr h24 a0 9 20 4 fun w26 =>
      zcv h24 w26 1 2 (F_X1_hasRing n h24 w26 p1) fun x28 h27 =>
      if x28 = (0 : Int32) then (
        F_X10_seen_J27 n h27
      ) else (
        F_X10_seen_J30 n h27 a0 p0 p1
      )
    )
  )
def F_X10_isTrialAsSeen_J49 (n : Nat) (kc2 : zH × Int32 → Option (Int32 × zH)) (h11 : zH) (w9 : Nat) (x10 : Int32) : Option (Int32 × zH) :=
  zv (x10 + (1 : Int32)) fun x12 =>
  kc2 (h11, x12)
def F_X10_isTrialAsSeen_B2 (n : Nat) (kc2 : zH × Int32 → Option (Int32 × zH)) (h3 : zH) (w1 : Nat) (x2 : Int32) : Option (Int32 × zH) :=
  zgr h3 w1 9 20 12 fun w4 =>
  zgi h3 w4 4 5 4 fun x5 =>
  if x5 ≤ x2 then (
    zzr (1 : Int32) (some ((1 : Int32), h3))
  ) else (
    zgr h3 w1 9 20 12 fun w6 =>
    zgr h3 w6 4 5 3 fun w7 =>
    zai h3 w7 20 x2 fun x8 =>
    if x8 = (-1 : Int32) then (
      F_X10_isTrialAsSeen_J49 n kc2 h3 w1 x2
    ) else (
      zgr h3 w1 9 20 12 fun w13 =>
      zgr h3 w13 4 5 3 fun w14 =>
      zai h3 w14 20 x2 fun x15 =>
      zgr h3 w1 9 20 15 fun w16 =>
      zgr h3 w16 0 2 1 fun w17 =>
      zai h3 w17 20 x2 fun x18 =>
      if x15 = x18 then (
        F_X10_isTrialAsSeen_J49 n kc2 h3 w1 x2
      ) else (
        zzr (0 : Int32) (some ((0 : Int32), h3))
      )
    )
  )
def F_X10_isTrialAsSeen_L2 (n : Nat) (h3 : zH) (w1 : Nat) (x2 : Int32) : Option (Int32 × zH) :=
  zloop (fun kc x => F_X10_isTrialAsSeen_B2 n kc x.1 w1 x.2) n (h3, x2)
def F_X10_isTrialAsSeen (n : Nat) (h : zH) (a0 : Nat) : Option (Int32 × zH) :=
  F_X10_isTrialAsSeen_L2 n h a0 (0 : Int32)
def F_X10_read_J51 (n : Nat) (kc14 : zH × Int32 × Int32 → Option (Int32 × zH)) (h18 : zH) (w14 : Nat) (x15 : Int32) (x16 : Int32) (x17 : Int32) : Option (Int32 × zH) :=
  zv (x16 ||| x17) fun x19 =>
  zv (x15 + (1 : Int32)) fun x20 =>
  kc14 (h18, x19, x20)
def F_X10_read_B14 (n : Nat) (kc14 : zH × Int32 × Int32 → Option (Int32 × zH)) (h6 : zH) (w3 : Nat) (x4 : Int32) (x5 : Int32) : Option (Int32 × zH) :=
  zgi h6 w3 9 20 11 fun x7 =>
  if x7 ≤ x5 then (
    some (x4, h6)
  ) else (
    zgr h6 w3 9 20 9 fun w8 =>
    zar h6 w8 25 x5 fun w9 =>
    zgr h6 w3 9 20 12 fun w10 =>
    zcv h6 w3 9 20 (F_X10_tryRow n h6 w3 w9 w10) fun _ h11 =>
    zcv h11 w3 9 20 (F_X10_isTrialAsSeen n h11 w3) fun x13 h12 =>
    if x13 = (0 : Int32) then (
      F_X10_read_J51 n kc14 h12 w3 x5 x4 (0 : Int32)
    ) else (
      zv ((1 : Int32) <<< (x5 &&& 31)) fun x21 =>
      F_X10_read_J51 n kc14 h12 w3 x5 x4 x21
    )
  )
def F_X10_read_L14 (n : Nat) (h6 : zH) (w3 : Nat) (x4 : Int32) (x5 : Int32) : Option (Int32 × zH) :=
  zloop (fun kc x => F_X10_read_B14 n kc x.1 w3 x.2.1 x.2.2) n (h6, x4, x5)
def F_X10_read (n : Nat) (h : zH) (a0 : Nat) : Option (Int32 × zH) :=
  zcv h a0 9 20 (F_X10_hasCup n h a0) fun x2 h1 =>
  if x2 = (0 : Int32) then (
    some ((-103 : Int32), h1)
  ) else (
    F_X10_read_L14 n h1 a0 (0 : Int32) (0 : Int32)
  )
def F_X10_ringsInTrial_J36 (n : Nat) (kc4 : zH × Int32 × Int32 → Option (Int32 × zH)) (h16 : zH) (w12 : Nat) (x13 : Int32) (x14 : Int32) (x15 : Int32) : Option (Int32 × zH) :=
  zv (x14 + x15) fun x17 =>
  zv (x13 + (1 : Int32)) fun x18 =>
  kc4 (h16, x17, x18)
def F_X10_ringsInTrial_B4 (n : Nat) (kc4 : zH × Int32 × Int32 → Option (Int32 × zH)) (h4 : zH) (w1 : Nat) (x2 : Int32) (x3 : Int32) : Option (Int32 × zH) :=
  zgr h4 w1 9 20 4 fun w5 =>
  zcv h4 w5 1 2 (F_X1_rings n h4 w5) fun x7 h6 =>
  if x7 ≤ x3 then (
    some (x2, h6)
  ) else (
    zgr h6 w1 9 20 15 fun w8 =>
    zgr h6 w1 9 20 12 fun w9 =>
    zcv h6 w8 0 2 (F_X0_lyingIn n h6 w8 x3 w9) fun x11 h10 =>
    if x11 ≤ (0 : Int32) then (
      F_X10_ringsInTrial_J36 n kc4 h10 w1 x3 x2 (0 : Int32)
    ) else (
      F_X10_ringsInTrial_J36 n kc4 h10 w1 x3 x2 (1 : Int32)
    )
  )
def F_X10_ringsInTrial_L4 (n : Nat) (h4 : zH) (w1 : Nat) (x2 : Int32) (x3 : Int32) : Option (Int32 × zH) :=
  zloop (fun kc x => F_X10_ringsInTrial_B4 n kc x.1 w1 x.2.1 x.2.2) n (h4, x2, x3)
def F_X10_ringsInTrial (n : Nat) (h : zH) (a0 : Nat) : Option (Int32 × zH) :=
  F_X10_ringsInTrial_L4 n h a0 (0 : Int32) (0 : Int32)
def F_X10_tells_J55 (n : Nat) (kc16 : zH × Int32 × Int32 × Int32 → Option (Int32 × zH)) (h19 : zH) (w15 : Nat) (x16 : Int32) (x17 : Int32) (x18 : Int32) : Option (Int32 × zH) :=
  zv (x18 + (1 : Int32)) fun x20 =>
  kc16 (h19, x16, x17, x20)
def F_X10_tells_B16 (n : Nat) (kc16 : zH × Int32 × Int32 × Int32 → Option (Int32 × zH)) (h7 : zH) (w3 : Nat) (x4 : Int32) (x5 : Int32) (x6 : Int32) : Option (Int32 × zH) :=
  zgi h7 w3 9 20 11 fun x8 =>
  if x8 ≤ x6 then (
    some (x4, h7)
  ) else (
    zgr h7 w3 9 20 9 fun w9 =>
    zar h7 w9 25 x6 fun w10 =>
    zgr h7 w3 9 20 12 fun w11 =>
    zcv h7 w3 9 20 (F_X10_tryRow n h7 w3 w10 w11) fun _ h12 =>
    zcv h12 w3 9 20 (F_X10_ringsInTrial n h12 w3) fun x14 h13 =>
    if x14 ≤ x5 then (
      F_X10_tells_J55 n kc16 h13 w3 x4 x5 x6
    ) else (
      F_X10_tells_J55 n kc16 h13 w3 x6 x14 x6
    )
  )
def F_X10_tells_L16 (n : Nat) (h7 : zH) (w3 : Nat) (x4 : Int32) (x5 : Int32) (x6 : Int32) : Option (Int32 × zH) :=
  zloop (fun kc x => F_X10_tells_B16 n kc x.1 w3 x.2.1 x.2.2.1 x.2.2.2) n (h7, x4, x5, x6)
def F_X10_tells (n : Nat) (h : zH) (a0 : Nat) : Option (Int32 × zH) :=
  zcv h a0 9 20 (F_X10_hasCup n h a0) fun x2 h1 =>
  if x2 = (0 : Int32) then (
    some ((-103 : Int32), h1)
  ) else (
    F_X10_tells_L16 n h1 a0 (-1 : Int32) (-1 : Int32) (0 : Int32)
  )
def F_X10_apart_J30 (n : Nat) (h1 : zH) : Option (Int32 × zH) :=
  some ((-101 : Int32), h1)
def F_X10_apart (n : Nat) (h : zH) (a0 : Nat) (p0 : Int32) (p1 : Int32) (p2 : Int32) : Option (Int32 × zH) :=
  zcv h a0 9 20 (F_X10_hasRow n h a0 p0) fun x4 h3 =>
  if x4 = (0 : Int32) then (
    F_X10_apart_J30 n h3
  ) else (
    zgr h3 a0 9 20 12 fun w5 =>
    zcv h3 w5 4 5 (F_X4_has n h3 w5 p1) fun x7 h6 =>
    if x7 = (0 : Int32) then (
      F_X10_apart_J30 n h6
    ) else (
      zgr h6 a0 9 20 12 fun w8 =>
      zcv h6 w8 4 5 (F_X4_has n h6 w8 p2) fun x10 h9 =>
      if x10 = (0 : Int32) then (
        F_X10_apart_J30 n h9
      ) else (
        zgr h9 a0 9 20 9 fun w11 =>
        zar h9 w11 25 p0 fun w12 =>
        zgr h9 a0 9 20 12 fun w13 =>
        zcv h9 a0 9 20 (F_X10_tryRow n h9 a0 w12 w13) fun _ h14 =>
        zgr h14 a0 9 20 15 fun w15 =>
        zgr h14 w15 0 2 1 fun w16 =>
        zai h14 w16 20 p1 fun x17 =>
        zgr h14 a0 9 20 15 fun w18 =>
        zgr h14 w18 0 2 1 fun w19 =>
        zai h14 w19 20 p2 fun x20 =>
        zv (x17 - x20) fun x21 =>
        zv (if 0 ≤ x21 then x21 else 0 - x21) fun x22 =>
        some (x22, h14)
      )
    )
  )
def F_X6_add (n : Nat) (h : zH) (a0 : Nat) (p0 : Int32) (p1 : Int32) : Option (Int32 × zH) :=
  zgi h a0 6 3 2 fun x1 =>
  if x1 < (12 : Int32) then (
    zgr h a0 6 3 0 fun w2 =>
    zgi h a0 6 3 2 fun x3 =>
    zti h w2 x3 p0 fun h4 =>
    zgr h4 a0 6 3 1 fun w5 =>
    zgi h4 a0 6 3 2 fun x6 =>
    zti h4 w5 x6 p1 fun h7 =>
    zgi h7 a0 6 3 2 fun x8 =>
    zv (x8 + (1 : Int32)) fun x9 =>
    zsi h7 a0 6 3 2 x9 fun h10 =>
    zgi h10 a0 6 3 2 fun x11 =>
    some (x11, h10)
  ) else (
    some ((-104 : Int32), h)
  )
def F_X10_picture_J22 (n : Nat) (h1 : zH) : Option (Int32 × zH) :=
  some ((-102 : Int32), h1)
def F_X10_picture (n : Nat) (h : zH) (a0 : Nat) (p0 : Int32) (p1 : Int32) : Option (Int32 × zH) :=
  zc (F_X10_isWithin n h p0 (-99 : Int32) (99 : Int32)) fun x4 h3 =>
  if x4 = (0 : Int32) then (
    F_X10_picture_J22 n h3
  ) else (
    zc (F_X10_isWithin n h3 p1 (-99 : Int32) (99 : Int32)) fun x6 h5 =>
    if x6 = (0 : Int32) then (
      F_X10_picture_J22 n h5
    ) else (
      zgr h5 a0 9 20 19 fun w7 =>
      zcv h5 w7 6 3 (F_X6_add n h5 w7 p0 p1) fun x9 h8 =>
      some (x9, h8)
    )
  )
def F_X6_offBy_B4 (n : Nat) (kc4 : zH × Int32 × Int32 → Option (Int32 × zH)) (h5 : zH) (w1 : Nat) (x2 : Int32) (x3 : Int32) (x4 : Int32) : Option (Int32 × zH) :=
  zgi h5 w1 6 3 2 fun x6 =>
  if x6 ≤ x4 then (
    some (x3, h5)
  ) else (
    zgr h5 w1 6 3 0 fun w7 =>
    zai h5 w7 20 x4 fun x8 =>
    zc (F_X0_left n h5 x8 x2) fun x10 h9 =>
    zgr h9 w1 6 3 1 fun w11 =>
    zai h9 w11 20 x4 fun x12 =>
    zv (x10 - x12) fun x13 =>
    zv (if 0 ≤ x13 then x13 else 0 - x13) fun x14 =>
    zv (x3 + x14) fun x15 =>
    zv (x4 + (1 : Int32)) fun x16 =>
    kc4 (h9, x15, x16)
  )
def F_X6_offBy_L4 (n : Nat) (h5 : zH) (w1 : Nat) (x2 : Int32) (x3 : Int32) (x4 : Int32) : Option (Int32 × zH) :=
  zloop (fun kc x => F_X6_offBy_B4 n kc x.1 w1 x2 x.2.1 x.2.2) n (h5, x3, x4)
def F_X6_offBy (n : Nat) (h : zH) (a0 : Nat) (p0 : Int32) : Option (Int32 × zH) :=
  F_X6_offBy_L4 n h a0 p0 (0 : Int32) (0 : Int32)
def F_X6_bestFloor_J31 (n : Nat) (kc7 : zH × Int32 × Int32 × Int32 → Option (Int32 × zH)) (h12 : zH) (w8 : Nat) (x9 : Int32) (x10 : Int32) (x11 : Int32) : Option (Int32 × zH) :=
  zv (x11 + (1 : Int32)) fun x13 =>
  kc7 (h12, x9, x10, x13)
def F_X6_bestFloor_B7 (n : Nat) (kc7 : zH × Int32 × Int32 × Int32 → Option (Int32 × zH)) (h5 : zH) (w1 : Nat) (x2 : Int32) (x3 : Int32) (x4 : Int32) : Option (Int32 × zH) :=
  if (9 : Int32) < x4 then (
    some (x2, h5)
  ) else (
    zcv h5 w1 6 3 (F_X6_offBy n h5 w1 x4) fun x7 h6 =>
    if x3 ≤ x7 then (
      F_X6_bestFloor_J31 n kc7 h6 w1 x2 x3 x4
    ) else (
      F_X6_bestFloor_J31 n kc7 h6 w1 x4 x7 x4
    )
  )
def F_X6_bestFloor_L7 (n : Nat) (h5 : zH) (w1 : Nat) (x2 : Int32) (x3 : Int32) (x4 : Int32) : Option (Int32 × zH) :=
  zloop (fun kc x => F_X6_bestFloor_B7 n kc x.1 w1 x.2.1 x.2.2.1 x.2.2.2) n (h5, x2, x3, x4)
def F_X6_bestFloor (n : Nat) (h : zH) (a0 : Nat) : Option (Int32 × zH) :=
  F_X6_bestFloor_L7 n h a0 (0 : Int32) (1000000 : Int32) (0 : Int32)
def F_X10_drag (n : Nat) (h : zH) (a0 : Nat) : Option (Int32 × zH) :=
  zgr h a0 9 20 19 fun w1 =>
  zcv h w1 6 3 (F_X6_bestFloor n h w1) fun x3 h2 =>
  some (x3, h2)
def F_X7_has_J17 (n : Nat) (h2 : zH) (x1 : Int32) : Option (Int32 × zH) :=
  zzr x1 (some (x1, h2))
def F_X7_has_J16 (n : Nat) (h5 : zH) : Option (Int32 × zH) :=
  F_X7_has_J17 n h5 (0 : Int32)
def F_X7_has (n : Nat) (h : zH) (a0 : Nat) (p0 : Int32) : Option (Int32 × zH) :=
  if p0 < (0 : Int32) then (
    F_X7_has_J16 n h
  ) else (
    zgi h a0 7 6 4 fun x7 =>
    if x7 ≤ p0 then (
      F_X7_has_J16 n h
    ) else (
      F_X7_has_J17 n h (1 : Int32)
    )
  )
def F_X10_isYears (n : Nat) (h : zH) (p0 : Int32) : Option (Int32 × zH) :=
  zc (F_X10_isWithin n h p0 (0 : Int32) (99 : Int32)) fun x2 h1 =>
  zzr x2 (some (x2, h1))
def F_X10_isFlow_J25 (n : Nat) (h2 : zH) (x1 : Int32) : Option (Int32 × zH) :=
  zzr x1 (some (x1, h2))
def F_X10_isFlow_J24 (n : Nat) (h5 : zH) : Option (Int32 × zH) :=
  F_X10_isFlow_J25 n h5 (0 : Int32)
def F_X10_isFlow (n : Nat) (h : zH) (p0 : Int32) (p1 : Int32) : Option (Int32 × zH) :=
  zc (F_X10_isWithin n h p0 (0 : Int32) (9 : Int32)) fun x8 h7 =>
  if x8 = (0 : Int32) then (
    F_X10_isFlow_J24 n h7
  ) else (
    zc (F_X10_isWithin n h7 p1 (1 : Int32) (99 : Int32)) fun x10 h9 =>
    if x10 = (0 : Int32) then (
      F_X10_isFlow_J24 n h9
    ) else (
      F_X10_isFlow_J25 n h9 (1 : Int32)
    )
  )
def F_X7_beginYears_B2 (n : Nat) (kc2 : zH × Int32 → Option (Unit × zH)) (h3 : zH) (w1 : Nat) (x2 : Int32) : Option (Unit × zH) :=
  zgi h3 w1 7 6 4 fun x4 =>
  if x4 ≤ x2 then (
    some ((), h3)
  ) else (
    zgr h3 w1 7 6 2 fun w5 =>
    zgr h3 w1 7 6 0 fun w6 =>
    zai h3 w6 20 x2 fun x7 =>
    zti h3 w5 x2 x7 fun h8 =>
    zv (x2 + (1 : Int32)) fun x9 =>
    kc2 (h8, x9)
  )
def F_X7_beginYears_L2 (n : Nat) (h3 : zH) (w1 : Nat) (x2 : Int32) : Option (Unit × zH) :=
  zloop (fun kc x => F_X7_beginYears_B2 n kc x.1 w1 x.2) n (h3, x2)
def F_X7_beginYears (n : Nat) (h : zH) (a0 : Nat) : Option (Unit × zH) :=
  F_X7_beginYears_L2 n h a0 (0 : Int32)
def F_X7_isFree_J28 (n : Nat) (h2 : zH) (x1 : Int32) : Option (Int32 × zH) :=
  zzr x1 (some (x1, h2))
def F_X7_isFree_J27 (n : Nat) (h5 : zH) : Option (Int32 × zH) :=
  F_X7_isFree_J28 n h5 (0 : Int32)
def F_X7_isFree (n : Nat) (h : zH) (a0 : Nat) (p0 : Int32) : Option (Int32 × zH) :=
  if p0 ≤ (0 : Int32) then (
    F_X7_isFree_J27 n h
  ) else (
    zgi h a0 7 6 4 fun x7 =>
    zv (x7 - (1 : Int32)) fun x8 =>
    if x8 ≤ p0 then (
      F_X7_isFree_J27 n h
    ) else (
      zgr h a0 7 6 1 fun w9 =>
      zai h w9 22 p0 fun x10 =>
      if x10 = (0 : Int32) then (
        F_X7_isFree_J28 n h (1 : Int32)
      ) else (
        F_X7_isFree_J27 n h
      )
    )
  )
def F_X7_bendOf (n : Nat) (h : zH) (p0 : Nat) (p1 : Int32) : Option (Int32 × zH) :=
  zai h p0 20 p1 fun x1 =>
  zv ((2 : Int32) * x1) fun x2 =>
  zv (p1 - (1 : Int32)) fun x3 =>
  zai h p0 20 x3 fun x4 =>
  zv (x2 - x4) fun x5 =>
  zv (p1 + (1 : Int32)) fun x6 =>
  zai h p0 20 x6 fun x7 =>
  zv (x5 - x7) fun x8 =>
  some (x8, h)
def F_X7_isOverNeck_J62 (n : Nat) (h2 : zH) (x1 : Int32) : Option (Int32 × zH) :=
  zzr x1 (some (x1, h2))
def F_X7_isOverNeck_J61 (n : Nat) (h5 : zH) : Option (Int32 × zH) :=
  F_X7_isOverNeck_J62 n h5 (0 : Int32)
def F_X7_isOverNeck_J57 (n : Nat) (h7 : zH) : Option (Int32 × zH) :=
  F_X7_isOverNeck_J62 n h7 (1 : Int32)
def F_X7_isOverNeck_J44 (n : Nat) (h12 : zH) (x9 : Int32) (x10 : Int32) (x11 : Int32) : Option (Int32 × zH) :=
  zv (-x9) fun x13 =>
  if x13 ≤ x10 then (
    F_X7_isOverNeck_J61 n h12
  ) else (
    zv (-x9) fun x14 =>
    if x14 ≤ x11 then (
      F_X7_isOverNeck_J61 n h12
    ) else (
      F_X7_isOverNeck_J57 n h12
    )
  )
def F_X7_isOverNeck (n : Nat) (h : zH) (a0 : Nat) (p0 : Int32) (p1 : Int32) : Option (Int32 × zH) :=
  zgr h a0 7 6 2 fun w21 =>
  zai h w21 20 p0 fun x22 =>
  zgr h a0 7 6 2 fun w23 =>
  zv (p0 - (1 : Int32)) fun x24 =>
  zai h w23 20 x24 fun x25 =>
  zv (x22 - x25) fun x26 =>
  zgr h a0 7 6 2 fun w27 =>
  zai h w27 20 p0 fun x28 =>
  zgr h a0 7 6 2 fun w29 =>
  zv (p0 + (1 : Int32)) fun x30 =>
  zai h w29 20 x30 fun x31 =>
  zv (x28 - x31) fun x32 =>
  if x26 ≤ p1 then (
    F_X7_isOverNeck_J44 n h p1 x26 x32
  ) else (
    if p1 < x32 then (
      F_X7_isOverNeck_J57 n h
    ) else (
      F_X7_isOverNeck_J44 n h p1 x26 x32
    )
  )
def F_X7_goYear_J182 (n : Nat) (kc115 : zH × Int32 × Int32 → Option (Int32 × zH)) (h31 : zH) (w26 : Nat) (x27 : Int32) (x28 : Int32) (x29 : Int32) (x30 : Int32) : Option (Int32 × zH) :=
  zv (x30 + (1 : Int32)) fun x32 =>
  kc115 (h31, x29, x32)
def F_X7_goYear_B115 (n : Nat) (kc115 : zH × Int32 × Int32 → Option (Int32 × zH)) (h21 : zH) (w16 : Nat) (x17 : Int32) (x18 : Int32) (x19 : Int32) (x20 : Int32) : Option (Int32 × zH) :=
  zgi h21 w16 7 6 4 fun x22 =>
  zv (x22 - (1 : Int32)) fun x23 =>
  if x23 ≤ x20 then (
    some (x19, h21)
  ) else (
    zcv h21 w16 7 6 (F_X7_isFree n h21 w16 x20) fun x25 h24 =>
    if x25 = (0 : Int32) then (
      F_X7_goYear_J182 n kc115 h24 w16 x17 x18 x19 x20
    ) else (
      if x20 = x18 then (
        F_X7_goYear_J182 n kc115 h24 w16 x17 x18 x19 x20
      ) else (
        zcv h24 w16 7 6 (F_X7_isOverNeck n h24 w16 x20 x17) fun x34 h33 =>
        if x34 = (0 : Int32) then (
          F_X7_goYear_J182 n kc115 h33 w16 x17 x18 x19 x20
        ) else (
          zgr h33 w16 7 6 2 fun w35 =>
          zgr h33 w16 7 6 2 fun w36 =>
          zv (x20 - (1 : Int32)) fun x37 =>
          zai h33 w36 20 x37 fun x38 =>
          zgr h33 w16 7 6 2 fun w39 =>
          zv (x20 + (1 : Int32)) fun x40 =>
          zai h33 w39 20 x40 fun x41 =>
          zv (x38 + x41) fun x42 =>
          zd x42 (2 : Int32) fun x43 =>
          zti h33 w35 x20 x43 fun h44 =>
          zv (x19 + (1 : Int32)) fun x45 =>
          F_X7_goYear_J182 n kc115 h44 w16 x17 x18 x45 x20
        )
      )
    )
  )
def F_X7_goYear_L115 (n : Nat) (h21 : zH) (w16 : Nat) (x17 : Int32) (x18 : Int32) (x19 : Int32) (x20 : Int32) : Option (Int32 × zH) :=
  zloop (fun kc x => F_X7_goYear_B115 n kc x.1 w16 x17 x18 x.2.1 x.2.2) n (h21, x19, x20)
def F_X7_goYear_J103 (n : Nat) (kc35 : zH × Int32 → Option (Int32 × zH)) (h77 : zH) (w72 : Nat) (x73 : Int32) (x74 : Int32) (x75 : Int32) (x76 : Int32) : Option (Int32 × zH) :=
  zv (x76 + (1 : Int32)) fun x78 =>
  kc35 (h77, x78)
def F_X7_goYear_B35 (n : Nat) (kc35 : zH × Int32 → Option (Int32 × zH)) (h13 : zH) (w8 : Nat) (x9 : Int32) (x10 : Int32) (x11 : Int32) (x12 : Int32) : Option (Int32 × zH) :=
  zgi h13 w8 7 6 4 fun x14 =>
  zv (x14 - (1 : Int32)) fun x15 =>
  if x15 ≤ x12 then (
    F_X7_goYear_L115 n h13 w8 x10 x11 (0 : Int32) (1 : Int32)
  ) else (
    zcv h13 w8 7 6 (F_X7_isFree n h13 w8 x12) fun x71 h70 =>
    if x71 = (0 : Int32) then (
      F_X7_goYear_J103 n kc35 h70 w8 x9 x10 x11 x12
    ) else (
      if x12 = x11 then (
        F_X7_goYear_J103 n kc35 h70 w8 x9 x10 x11 x12
      ) else (
        zgr h70 w8 7 6 3 fun w79 =>
        zai h70 w79 20 x12 fun x80 =>
        zgr h70 w8 7 6 3 fun w81 =>
        zc (F_X7_bendOf n h70 w81 x12) fun x83 h82 =>
        zv (x83 * x9) fun x84 =>
        zd x84 (20 : Int32) fun x85 =>
        zv (x80 + x85) fun x86 =>
        zgr h82 w8 7 6 2 fun w87 =>
        zv (if x86 < (99 : Int32) then x86 else (99 : Int32)) fun x88 =>
        zv (if (0 : Int32) < x88 then x88 else (0 : Int32)) fun x89 =>
        zti h82 w87 x12 x89 fun h90 =>
        F_X7_goYear_J103 n kc35 h90 w8 x9 x10 x11 x12
      )
    )
  )
def F_X7_goYear_L35 (n : Nat) (h13 : zH) (w8 : Nat) (x9 : Int32) (x10 : Int32) (x11 : Int32) (x12 : Int32) : Option (Int32 × zH) :=
  zloop (fun kc x => F_X7_goYear_B35 n kc x.1 w8 x9 x10 x11 x.2) n (h13, x12)
def F_X7_goYear_B3 (n : Nat) (kc3 : zH × Int32 → Option (Int32 × zH)) (h6 : zH) (w1 : Nat) (x2 : Int32) (x3 : Int32) (x4 : Int32) (x5 : Int32) : Option (Int32 × zH) :=
  zgi h6 w1 7 6 4 fun x7 =>
  if x7 ≤ x5 then (
    F_X7_goYear_L35 n h6 w1 x2 x3 x4 (1 : Int32)
  ) else (
    zgr h6 w1 7 6 3 fun w136 =>
    zgr h6 w1 7 6 2 fun w137 =>
    zai h6 w137 20 x5 fun x138 =>
    zti h6 w136 x5 x138 fun h139 =>
    zv (x5 + (1 : Int32)) fun x140 =>
    kc3 (h139, x140)
  )
def F_X7_goYear_L3 (n : Nat) (h6 : zH) (w1 : Nat) (x2 : Int32) (x3 : Int32) (x4 : Int32) (x5 : Int32) : Option (Int32 × zH) :=
  zloop (fun kc x => F_X7_goYear_B3 n kc x.1 w1 x2 x3 x4 x.2) n (h6, x5)
def F_X7_goYear (n : Nat) (h : zH) (a0 : Nat) (p0 : Int32) (p1 : Int32) (p2 : Int32) : Option (Int32 × zH) :=
  F_X7_goYear_L3 n h a0 p0 p1 p2 (0 : Int32)
def F_X7_goYears_B10 (n : Nat) (kc10 : zH × Int32 × Int32 → Option (Int32 × zH)) (h9 : zH) (w2 : Nat) (x3 : Int32) (x4 : Int32) (x5 : Int32) (x6 : Int32) (x7 : Int32) (x8 : Int32) : Option (Int32 × zH) :=
  if x3 ≤ x8 then (
    some (x7, h9)
  ) else (
    zcv h9 w2 7 6 (F_X7_goYear n h9 w2 x4 x5 x6) fun x11 h10 =>
    zv (x7 + x11) fun x12 =>
    zv (x8 + (1 : Int32)) fun x13 =>
    kc10 (h10, x12, x13)
  )
def F_X7_goYears_L10 (n : Nat) (h9 : zH) (w2 : Nat) (x3 : Int32) (x4 : Int32) (x5 : Int32) (x6 : Int32) (x7 : Int32) (x8 : Int32) : Option (Int32 × zH) :=
  zloop (fun kc x => F_X7_goYears_B10 n kc x.1 w2 x3 x4 x5 x6 x.2.1 x.2.2) n (h9, x7, x8)
def F_X7_goYears (n : Nat) (h : zH) (a0 : Nat) (p0 : Int32) (p1 : Int32) (p2 : Int32) (p3 : Int32) : Option (Int32 × zH) :=
  zcv h a0 7 6 (F_X7_beginYears n h a0) fun _ h1 =>
  F_X7_goYears_L10 n h1 a0 p0 p1 p2 p3 (0 : Int32) (0 : Int32)
def F_X10_point_J30 (n : Nat) (h1 : zH) : Option (Int32 × zH) :=
  some ((-102 : Int32), h1)
def F_X10_point (n : Nat) (h : zH) (a0 : Nat) (p0 : Int32) (p1 : Int32) (p2 : Int32) (p3 : Int32) : Option (Int32 × zH) :=
  zgr h a0 9 20 7 fun w3 =>
  zcv h w3 7 6 (F_X7_has n h w3 p0) fun x5 h4 =>
  if x5 = (0 : Int32) then (
    some ((-101 : Int32), h4)
  ) else (
    zc (F_X10_isYears n h4 p1) fun x7 h6 =>
    if x7 = (0 : Int32) then (
      F_X10_point_J30 n h6
    ) else (
      zc (F_X10_isFlow n h6 p2 p3) fun x9 h8 =>
      if x9 = (0 : Int32) then (
        F_X10_point_J30 n h8
      ) else (
        zgr h8 a0 9 20 7 fun w10 =>
        zcv h8 w10 7 6 (F_X7_goYears n h8 w10 p1 p2 p3 (-1 : Int32)) fun x12 h11 =>
        zgr h11 a0 9 20 7 fun w13 =>
        zgr h11 w13 7 6 2 fun w14 =>
        zai h11 w14 20 p0 fun x15 =>
        some (x15, h11)
      )
    )
  )
def F_X10_hasRiver_J15 (n : Nat) (h2 : zH) (x1 : Int32) : Option (Int32 × zH) :=
  zzr x1 (some (x1, h2))
def F_X10_hasRiver (n : Nat) (h : zH) (a0 : Nat) : Option (Int32 × zH) :=
  zgr h a0 9 20 7 fun w5 =>
  zgi h w5 7 6 4 fun x6 =>
  if x6 ≤ (0 : Int32) then (
    F_X10_hasRiver_J15 n h (0 : Int32)
  ) else (
    F_X10_hasRiver_J15 n h (1 : Int32)
  )
def F_X10_cuts_J25 (n : Nat) (h1 : zH) : Option (Int32 × zH) :=
  some ((-102 : Int32), h1)
def F_X10_cuts (n : Nat) (h : zH) (a0 : Nat) (p0 : Int32) (p1 : Int32) (p2 : Int32) : Option (Int32 × zH) :=
  zcv h a0 9 20 (F_X10_hasRiver n h a0) fun x4 h3 =>
  if x4 = (0 : Int32) then (
    some ((-103 : Int32), h3)
  ) else (
    zc (F_X10_isYears n h3 p0) fun x6 h5 =>
    if x6 = (0 : Int32) then (
      F_X10_cuts_J25 n h5
    ) else (
      zc (F_X10_isFlow n h5 p1 p2) fun x8 h7 =>
      if x8 = (0 : Int32) then (
        F_X10_cuts_J25 n h7
      ) else (
        zgr h7 a0 9 20 7 fun w9 =>
        zcv h7 w9 7 6 (F_X7_goYears n h7 w9 p0 p1 p2 (-1 : Int32)) fun x11 h10 =>
        some (x11, h10)
      )
    )
  )
def F_X10_firstCut_B30 (n : Nat) (kc30 : zH × Int32 → Option (Int32 × zH)) (h11 : zH) (w7 : Nat) (x8 : Int32) (x9 : Int32) (x10 : Int32) : Option (Int32 × zH) :=
  if (100 : Int32) ≤ x10 then (
    some ((-1 : Int32), h11)
  ) else (
    zgr h11 w7 9 20 7 fun w12 =>
    zcv h11 w12 7 6 (F_X7_goYear n h11 w12 x8 x9 (-1 : Int32)) fun x14 h13 =>
    if x14 ≤ (0 : Int32) then (
      zv (x10 + (1 : Int32)) fun x15 =>
      kc30 (h13, x15)
    ) else (
      some (x10, h13)
    )
  )
def F_X10_firstCut_L30 (n : Nat) (h11 : zH) (w7 : Nat) (x8 : Int32) (x9 : Int32) (x10 : Int32) : Option (Int32 × zH) :=
  zloop (fun kc x => F_X10_firstCut_B30 n kc x.1 w7 x8 x9 x.2) n (h11, x10)
def F_X10_firstCut (n : Nat) (h : zH) (a0 : Nat) (p0 : Int32) (p1 : Int32) : Option (Int32 × zH) :=
  zcv h a0 9 20 (F_X10_hasRiver n h a0) fun x2 h1 =>
  if x2 = (0 : Int32) then (
    some ((-103 : Int32), h1)
  ) else (
    zc (F_X10_isFlow n h1 p0 p1) fun x4 h3 =>
    if x4 = (0 : Int32) then (
      some ((-102 : Int32), h3)
    ) else (
      zgr h3 a0 9 20 7 fun w5 =>
      zcv h3 w5 7 6 (F_X7_beginYears n h3 w5) fun _ h6 =>
      F_X10_firstCut_L30 n h6 a0 p0 p1 (0 : Int32)
    )
  )
def F_X7_bendsTogether_B4 (n : Nat) (kc4 : zH × Int32 × Int32 → Option (Int32 × zH)) (h4 : zH) (w1 : Nat) (x2 : Int32) (x3 : Int32) : Option (Int32 × zH) :=
  zgi h4 w1 7 6 4 fun x5 =>
  zv (x5 - (1 : Int32)) fun x6 =>
  if x6 ≤ x3 then (
    some (x2, h4)
  ) else (
    zgr h4 w1 7 6 2 fun w7 =>
    zc (F_X7_bendOf n h4 w7 x3) fun x9 h8 =>
    zv (if 0 ≤ x9 then x9 else 0 - x9) fun x10 =>
    zv (x2 + x10) fun x11 =>
    zv (x3 + (1 : Int32)) fun x12 =>
    kc4 (h8, x11, x12)
  )
def F_X7_bendsTogether_L4 (n : Nat) (h4 : zH) (w1 : Nat) (x2 : Int32) (x3 : Int32) : Option (Int32 × zH) :=
  zloop (fun kc x => F_X7_bendsTogether_B4 n kc x.1 w1 x.2.1 x.2.2) n (h4, x2, x3)
def F_X7_bendsTogether (n : Nat) (h : zH) (a0 : Nat) : Option (Int32 × zH) :=
  F_X7_bendsTogether_L4 n h a0 (0 : Int32) (1 : Int32)
def F_X10_saves_J25 (n : Nat) (h1 : zH) : Option (Int32 × zH) :=
  some ((-102 : Int32), h1)
def F_X10_saves_J122 (n : Nat) (kc42 : zH × Int32 × Int32 × Int32 × Int32 → Option (Int32 × zH)) (h31 : zH) (w23 : Nat) (x24 : Int32) (x25 : Int32) (x26 : Int32) (x27 : Int32) (x28 : Int32) (x29 : Int32) (x30 : Int32) : Option (Int32 × zH) :=
  zv (x30 + (1 : Int32)) fun x32 =>
  kc42 (h31, x27, x28, x29, x32)
def F_X10_saves_J110 (n : Nat) (kc42 : zH × Int32 × Int32 × Int32 × Int32 → Option (Int32 × zH)) (h46 : zH) (w39 : Nat) (x40 : Int32) (x41 : Int32) (x42 : Int32) (x43 : Int32) (x44 : Int32) (x45 : Int32) : Option (Int32 × zH) :=
  F_X10_saves_J122 n kc42 h46 w39 x40 x41 x42 x43 x44 x45 x43
def F_X10_saves_B42 (n : Nat) (kc42 : zH × Int32 × Int32 × Int32 × Int32 → Option (Int32 × zH)) (h17 : zH) (w9 : Nat) (x10 : Int32) (x11 : Int32) (x12 : Int32) (x13 : Int32) (x14 : Int32) (x15 : Int32) (x16 : Int32) : Option (Int32 × zH) :=
  zgr h17 w9 9 20 7 fun w18 =>
  zgi h17 w18 7 6 4 fun x19 =>
  if x19 ≤ x16 then (
    some (x13, h17)
  ) else (
    zgr h17 w9 9 20 7 fun w20 =>
    zcv h17 w20 7 6 (F_X7_isFree n h17 w20 x16) fun x22 h21 =>
    if x22 = (0 : Int32) then (
      F_X10_saves_J122 n kc42 h21 w9 x10 x11 x12 x13 x14 x15 x16
    ) else (
      zgr h21 w9 9 20 7 fun w33 =>
      zcv h21 w33 7 6 (F_X7_goYears n h21 w33 x10 x11 x12 x16) fun x35 h34 =>
      zgr h34 w9 9 20 7 fun w36 =>
      zcv h34 w36 7 6 (F_X7_bendsTogether n h34 w36) fun x38 h37 =>
      if x35 < x14 then (
        F_X10_saves_J110 n kc42 h37 w9 x10 x11 x12 x16 x35 x38
      ) else (
        if x35 = x14 then (
          if x15 ≤ x38 then (
            F_X10_saves_J122 n kc42 h37 w9 x10 x11 x12 x13 x14 x15 x16
          ) else (
            F_X10_saves_J110 n kc42 h37 w9 x10 x11 x12 x16 x35 x38
          )
        ) else (
          F_X10_saves_J122 n kc42 h37 w9 x10 x11 x12 x13 x14 x15 x16
        )
      )
    )
  )
def F_X10_saves_L42 (n : Nat) (h17 : zH) (w9 : Nat) (x10 : Int32) (x11 : Int32) (x12 : Int32) (x13 : Int32) (x14 : Int32) (x15 : Int32) (x16 : Int32) : Option (Int32 × zH) :=
  zloop (fun kc x => F_X10_saves_B42 n kc x.1 w9 x10 x11 x12 x.2.1 x.2.2.1 x.2.2.2.1 x.2.2.2.2) n (h17, x13, x14, x15, x16)
def F_X10_saves (n : Nat) (h : zH) (a0 : Nat) (p0 : Int32) (p1 : Int32) (p2 : Int32) : Option (Int32 × zH) :=
  zcv h a0 9 20 (F_X10_hasRiver n h a0) fun x4 h3 =>
  if x4 = (0 : Int32) then (
    some ((-103 : Int32), h3)
  ) else (
    zc (F_X10_isYears n h3 p0) fun x6 h5 =>
    if x6 = (0 : Int32) then (
      F_X10_saves_J25 n h5
    ) else (
      zc (F_X10_isFlow n h5 p1 p2) fun x8 h7 =>
      if x8 = (0 : Int32) then (
        F_X10_saves_J25 n h7
      ) else (
        F_X10_saves_L42 n h7 a0 p0 p1 p2 (-1 : Int32) (1000000 : Int32) (1000000 : Int32) (0 : Int32)
      )
    )
  )
def F_X3_keep_B55 (n : Nat) (kc55 : zH × Int32 → Option (Unit × zH)) (h15 : zH) (w12 : Nat) (w13 : Nat) (x14 : Int32) : Option (Unit × zH) :=
  zgi h15 w12 3 4 3 fun x16 =>
  if x16 ≤ x14 then (
    some ((), h15)
  ) else (
    zgr h15 w12 3 4 2 fun w17 =>
    zgr h15 w13 4 5 3 fun w18 =>
    zai h15 w18 20 x14 fun x19 =>
    zti h15 w17 x14 x19 fun h20 =>
    zv (x14 + (1 : Int32)) fun x21 =>
    kc55 (h20, x21)
  )
def F_X3_keep_L55 (n : Nat) (h15 : zH) (w12 : Nat) (w13 : Nat) (x14 : Int32) : Option (Unit × zH) :=
  zloop (fun kc x => F_X3_keep_B55 n kc x.1 w12 w13 x.2) n (h15, x14)
def F_X3_keep_B28 (n : Nat) (kc28 : zH × Int32 → Option (Unit × zH)) (h11 : zH) (w7 : Nat) (w8 : Nat) (w9 : Nat) (x10 : Int32) : Option (Unit × zH) :=
  if (6 : Int32) ≤ x10 then (
    F_X3_keep_L55 n h11 w7 w9 (0 : Int32)
  ) else (
    zgr h11 w7 3 4 1 fun w30 =>
    zai h11 w8 20 x10 fun x31 =>
    zti h11 w30 x10 x31 fun h32 =>
    zv (x10 + (1 : Int32)) fun x33 =>
    kc28 (h32, x33)
  )
def F_X3_keep_L28 (n : Nat) (h11 : zH) (w7 : Nat) (w8 : Nat) (w9 : Nat) (x10 : Int32) : Option (Unit × zH) :=
  zloop (fun kc x => F_X3_keep_B28 n kc x.1 w7 w8 w9 x.2) n (h11, x10)
def F_X3_keep (n : Nat) (h : zH) (a0 : Nat) (p0 : Nat) (p1 : Nat) (p2 : Nat) : Option (Unit × zH) :=
  zgi h p2 4 5 4 fun x1 =>
  zv (if (8 : Int32) < x1 then (8 : Int32) else x1) fun x2 =>
  zsi h a0 3 4 3 x2 fun h3 =>
  zgr h3 a0 3 4 0 fun w4 =>
  zgi h3 a0 3 4 3 fun x5 =>
  zcv h3 w4 0 2 (F_X0_copyFrom n h3 w4 p0 x5) fun _ h6 =>
  F_X3_keep_L28 n h6 a0 p1 p2 (0 : Int32)
def F_X10_image (n : Nat) (h : zH) (a0 : Nat) : Option (Int32 × zH) :=
  zcv h a0 9 20 (F_X10_hasCup n h a0) fun x2 h1 =>
  if x2 = (0 : Int32) then (
    some ((-103 : Int32), h1)
  ) else (
    zgr h1 a0 9 20 16 fun w3 =>
    zgr h1 a0 9 20 14 fun w4 =>
    zgr h1 a0 9 20 17 fun w5 =>
    zgr h1 a0 9 20 12 fun w6 =>
    zcv h1 w3 3 4 (F_X3_keep n h1 w3 w4 w5 w6) fun _ h7 =>
    zgr h7 a0 9 20 12 fun w8 =>
    zgi h7 w8 4 5 4 fun x9 =>
    some (x9, h7)
  )
def F_X3_isKept_J13 (n : Nat) (h2 : zH) (x1 : Int32) : Option (Int32 × zH) :=
  zzr x1 (some (x1, h2))
def F_X3_isKept (n : Nat) (h : zH) (a0 : Nat) : Option (Int32 × zH) :=
  zgi h a0 3 4 3 fun x5 =>
  if x5 = (-1 : Int32) then (
    F_X3_isKept_J13 n h (0 : Int32)
  ) else (
    F_X3_isKept_J13 n h (1 : Int32)
  )
def F_X3_bringBack_J80 (n : Nat) (h1 : zH) : Option (Unit × zH) :=
  some ((), h1)
def F_X3_bringBack_B42 (n : Nat) (kc42 : zH × Int32 → Option (Unit × zH)) (h14 : zH) (w11 : Nat) (w12 : Nat) (x13 : Int32) : Option (Unit × zH) :=
  zgi h14 w11 3 4 3 fun x15 =>
  if x15 ≤ x13 then (
    F_X3_bringBack_J80 n h14
  ) else (
    zgi h14 w12 4 5 4 fun x16 =>
    if x16 ≤ x13 then (
      F_X3_bringBack_J80 n h14
    ) else (
      zgr h14 w12 4 5 3 fun w17 =>
      zgr h14 w11 3 4 2 fun w18 =>
      zai h14 w18 20 x13 fun x19 =>
      zti h14 w17 x13 x19 fun h20 =>
      zv (x13 + (1 : Int32)) fun x21 =>
      kc42 (h20, x21)
    )
  )
def F_X3_bringBack_L42 (n : Nat) (h14 : zH) (w11 : Nat) (w12 : Nat) (x13 : Int32) : Option (Unit × zH) :=
  zloop (fun kc x => F_X3_bringBack_B42 n kc x.1 w11 w12 x.2) n (h14, x13)
def F_X3_bringBack_B15 (n : Nat) (kc15 : zH × Int32 → Option (Unit × zH)) (h10 : zH) (w6 : Nat) (w7 : Nat) (w8 : Nat) (x9 : Int32) : Option (Unit × zH) :=
  if (6 : Int32) ≤ x9 then (
    F_X3_bringBack_L42 n h10 w6 w8 (0 : Int32)
  ) else (
    zgr h10 w6 3 4 1 fun w31 =>
    zai h10 w31 20 x9 fun x32 =>
    zti h10 w7 x9 x32 fun h33 =>
    zv (x9 + (1 : Int32)) fun x34 =>
    kc15 (h33, x34)
  )
def F_X3_bringBack_L15 (n : Nat) (h10 : zH) (w6 : Nat) (w7 : Nat) (w8 : Nat) (x9 : Int32) : Option (Unit × zH) :=
  zloop (fun kc x => F_X3_bringBack_B15 n kc x.1 w6 w7 w8 x.2) n (h10, x9)
def F_X3_bringBack (n : Nat) (h : zH) (a0 : Nat) (p0 : Nat) (p1 : Nat) (p2 : Nat) : Option (Unit × zH) :=
  zgr h a0 3 4 0 fun w3 =>
  zgi h a0 3 4 3 fun x4 =>
  zcv h p0 0 2 (F_X0_copyFrom n h p0 w3 x4) fun _ h5 =>
  F_X3_bringBack_L15 n h5 a0 p1 p2 (0 : Int32)
def F_X10_restore (n : Nat) (h : zH) (a0 : Nat) : Option (Int32 × zH) :=
  zgr h a0 9 20 16 fun w1 =>
  zcv h w1 3 4 (F_X3_isKept n h w1) fun x3 h2 =>
  if x3 = (0 : Int32) then (
    some ((-103 : Int32), h2)
  ) else (
    zgr h2 a0 9 20 16 fun w4 =>
    zgr h2 a0 9 20 14 fun w5 =>
    zgr h2 a0 9 20 17 fun w6 =>
    zgr h2 a0 9 20 12 fun w7 =>
    zcv h2 w4 3 4 (F_X3_bringBack n h2 w4 w5 w6 w7) fun _ h8 =>
    zgr h8 a0 9 20 12 fun w9 =>
    zgi h8 w9 4 5 4 fun x10 =>
    some (x10, h8)
  )
def F_X10_count (n : Nat) (h : zH) (a0 : Nat) (p0 : Int32) : Option (Int32 × zH) :=
  if (p0).toInt < 0 ∨ 8 < (p0).toInt then (
    some ((-102 : Int32), h)
  ) else
  if p0 = (0 : Int32) then (
    zgr h a0 9 20 4 fun w1 =>
    zcv h w1 1 2 (F_X1_rings n h w1) fun x3 h2 =>
    some (x3, h2)
  ) else
  if p0 = (1 : Int32) then (
    zgi h a0 9 20 3 fun x4 =>
    some (x4, h)
  ) else
  if p0 = (2 : Int32) then (
    zgr h a0 9 20 12 fun w5 =>
    zgi h w5 4 5 4 fun x6 =>
    some (x6, h)
  ) else
  if p0 = (3 : Int32) then (
    zgi h a0 9 20 11 fun x7 =>
    some (x7, h)
  ) else
  if p0 = (4 : Int32) then (
    zgr h a0 9 20 19 fun w8 =>
    zgi h w8 6 3 2 fun x9 =>
    some (x9, h)
  ) else
  if p0 = (5 : Int32) then (
    zgr h a0 9 20 7 fun w10 =>
    zgi h w10 7 6 4 fun x11 =>
    some (x11, h)
  ) else
  if p0 = (6 : Int32) then (
    zgr h a0 9 20 0 fun w12 =>
    zgi h w12 5 2 1 fun x13 =>
    some (x13, h)
  ) else
  if p0 = (7 : Int32) then (
    zgi h a0 9 20 6 fun x14 =>
    some (x14, h)
  ) else
  if p0 = (8 : Int32) then (
    zgi h a0 9 20 18 fun x15 =>
    some (x15, h)
  ) else
  none
def F_X10_withCup_B155 (n : Nat) (kc155 : zH × Int64 × Int32 → Option (Int64 × zH)) (h24 : zH) (w21 : Nat) (j22 : Int64) (x23 : Int32) : Option (Int64 × zH) :=
  zgr h24 w21 9 20 4 fun w25 =>
  zcv h24 w25 1 2 (F_X1_rings n h24 w25) fun x27 h26 =>
  if x27 ≤ x23 then (
    some (j22, h26)
  ) else (
    zv ((31 : Int64) * j22) fun j28 =>
    zgr h26 w21 9 20 17 fun w29 =>
    zai h26 w29 20 x23 fun x30 =>
    zv ((x30).toInt64) fun j31 =>
    zv (j28 + j31) fun j32 =>
    zv (x23 + (1 : Int32)) fun x33 =>
    kc155 (h26, j32, x33)
  )
def F_X10_withCup_L155 (n : Nat) (h24 : zH) (w21 : Nat) (j22 : Int64) (x23 : Int32) : Option (Int64 × zH) :=
  zloop (fun kc x => F_X10_withCup_B155 n kc x.1 w21 x.2.1 x.2.2) n (h24, j22, x23)
def F_X10_withCup_B110 (n : Nat) (kc110 : zH × Int64 × Int32 → Option (Int64 × zH)) (h17 : zH) (w14 : Nat) (j15 : Int64) (x16 : Int32) : Option (Int64 × zH) :=
  zgr h17 w14 9 20 4 fun w18 =>
  zcv h17 w18 1 2 (F_X1_rings n h17 w18) fun x20 h19 =>
  if x20 ≤ x16 then (
    F_X10_withCup_L155 n h19 w14 j15 (0 : Int32)
  ) else (
    zv ((31 : Int64) * j15) fun j46 =>
    zgr h19 w14 9 20 14 fun w47 =>
    zgr h19 w14 9 20 4 fun w48 =>
    zcv h19 w48 1 2 (F_X1_heights n h19 w48) fun x50 h49 =>
    zcv h49 w47 0 2 (F_X0_secondTurning n h49 w47 x16 x50) fun x52 h51 =>
    zv ((x52).toInt64) fun j53 =>
    zv (j46 + j53) fun j54 =>
    zv (x16 + (1 : Int32)) fun x55 =>
    kc110 (h51, j54, x55)
  )
def F_X10_withCup_L110 (n : Nat) (h17 : zH) (w14 : Nat) (j15 : Int64) (x16 : Int32) : Option (Int64 × zH) :=
  zloop (fun kc x => F_X10_withCup_B110 n kc x.1 w14 x.2.1 x.2.2) n (h17, j15, x16)
def F_X10_withCup_B62 (n : Nat) (kc47 : zH × Int64 × Int32 → Option (Int64 × zH)) (kc62 : zH × Int64 × Int32 → Option (Int64 × zH)) (h88 : zH) (w84 : Nat) (j85 : Int64) (x86 : Int32) (x87 : Int32) : Option (Int64 × zH) :=
  zgr h88 w84 9 20 4 fun w89 =>
  zcv h88 w89 1 2 (F_X1_heights n h88 w89) fun x91 h90 =>
  if x91 ≤ x87 then (
    zv (x86 + (1 : Int32)) fun x92 =>
    kc47 (h90, j85, x92)
  ) else (
    zv ((31 : Int64) * j85) fun j93 =>
    zgr h90 w84 9 20 14 fun w94 =>
    zgr h90 w94 0 2 0 fun w95 =>
    zar h90 w95 23 x86 fun w96 =>
    zai h90 w96 20 x87 fun x97 =>
    zv ((x97).toInt64) fun j98 =>
    zv (j93 + j98) fun j99 =>
    zv (x87 + (1 : Int32)) fun x100 =>
    kc62 (h90, j99, x100)
  )
def F_X10_withCup_L62 (n : Nat) (kc47 : zH × Int64 × Int32 → Option (Int64 × zH)) (h88 : zH) (w84 : Nat) (j85 : Int64) (x86 : Int32) (x87 : Int32) : Option (Int64 × zH) :=
  zloop (fun kc x => F_X10_withCup_B62 n kc47 kc x.1 w84 x.2.1 x86 x.2.2) n (h88, j85, x87)
def F_X10_withCup_B47 (n : Nat) (kc47 : zH × Int64 × Int32 → Option (Int64 × zH)) (h10 : zH) (w7 : Nat) (j8 : Int64) (x9 : Int32) : Option (Int64 × zH) :=
  zgr h10 w7 9 20 4 fun w11 =>
  zcv h10 w11 1 2 (F_X1_rings n h10 w11) fun x13 h12 =>
  if x13 ≤ x9 then (
    F_X10_withCup_L110 n h12 w7 j8 (0 : Int32)
  ) else (
    F_X10_withCup_L62 n kc47 h12 w7 j8 x9 (0 : Int32)
  )
def F_X10_withCup_L47 (n : Nat) (h10 : zH) (w7 : Nat) (j8 : Int64) (x9 : Int32) : Option (Int64 × zH) :=
  zloop (fun kc x => F_X10_withCup_B47 n kc x.1 w7 x.2.1 x.2.2) n (h10, j8, x9)
def F_X10_withCup_B14 (n : Nat) (kc14 : zH × Int64 × Int32 → Option (Int64 × zH)) (h6 : zH) (w3 : Nat) (j4 : Int64) (x5 : Int32) : Option (Int64 × zH) :=
  if (5 : Int32) < x5 then (
    F_X10_withCup_L47 n h6 w3 j4 (0 : Int32)
  ) else (
    zv ((31 : Int64) * j4) fun j165 =>
    zgr h6 w3 9 20 4 fun w166 =>
    zgr h6 w166 1 2 0 fun w167 =>
    zai h6 w167 20 x5 fun x168 =>
    zv ((x168).toInt64) fun j169 =>
    zv (j165 + j169) fun j170 =>
    zv (x5 + (1 : Int32)) fun x171 =>
    kc14 (h6, j170, x171)
  )
def F_X10_withCup_L14 (n : Nat) (h6 : zH) (w3 : Nat) (j4 : Int64) (x5 : Int32) : Option (Int64 × zH) :=
  zloop (fun kc x => F_X10_withCup_B14 n kc x.1 w3 x.2.1 x.2.2) n (h6, j4, x5)
def F_X10_withCup (n : Nat) (h : zH) (a0 : Nat) (p0 : Int64) : Option (Int64 × zH) :=
  zcv h a0 9 20 (F_X10_hasCup n h a0) fun x2 h1 =>
  if x2 = (0 : Int32) then (
    some (p0, h1)
  ) else (
    F_X10_withCup_L14 n h1 a0 p0 (0 : Int32)
  )
def F_X10_withDoings_B5 (n : Nat) (kc5 : zH × Int64 × Int32 → Option (Int64 × zH)) (h4 : zH) (w1 : Nat) (j2 : Int64) (x3 : Int32) : Option (Int64 × zH) :=
  zgi h4 w1 9 20 3 fun x5 =>
  if x5 ≤ x3 then (
    some (j2, h4)
  ) else (
    zv ((31 : Int64) * j2) fun j6 =>
    zcv h4 w1 9 20 (F_X10_doingOrRest n h4 w1 x3) fun w8 h7 =>
    zgi h7 w8 2 2 0 fun x9 =>
    zv ((x9).toInt64) fun j10 =>
    zv (j6 + j10) fun j11 =>
    zv ((31 : Int64) * j11) fun j12 =>
    zcv h7 w1 9 20 (F_X10_doingOrRest n h7 w1 x3) fun w14 h13 =>
    zgi h13 w14 2 2 1 fun x15 =>
    zv ((x15).toInt64) fun j16 =>
    zv (j12 + j16) fun j17 =>
    zv (x3 + (1 : Int32)) fun x18 =>
    kc5 (h13, j17, x18)
  )
def F_X10_withDoings_L5 (n : Nat) (h4 : zH) (w1 : Nat) (j2 : Int64) (x3 : Int32) : Option (Int64 × zH) :=
  zloop (fun kc x => F_X10_withDoings_B5 n kc x.1 w1 x.2.1 x.2.2) n (h4, j2, x3)
def F_X10_withDoings (n : Nat) (h : zH) (a0 : Nat) (p0 : Int64) : Option (Int64 × zH) :=
  F_X10_withDoings_L5 n h a0 p0 (0 : Int32)
def F_X10_withLeaves_B20 (n : Nat) (kc5 : zH × Int64 × Int32 → Option (Int64 × zH)) (kc20 : zH × Int64 × Int32 → Option (Int64 × zH)) (h11 : zH) (w7 : Nat) (j8 : Int64) (x9 : Int32) (x10 : Int32) : Option (Int64 × zH) :=
  if (5 : Int32) < x10 then (
    zv (x9 + (1 : Int32)) fun x12 =>
    kc5 (h11, j8, x12)
  ) else (
    zv ((31 : Int64) * j8) fun j13 =>
    zcv h11 w7 9 20 (F_X10_about n h11 w7 x9 x10) fun x15 h14 =>
    zv ((x15).toInt64) fun j16 =>
    zv (j13 + j16) fun j17 =>
    zv (x10 + (1 : Int32)) fun x18 =>
    kc20 (h14, j17, x18)
  )
def F_X10_withLeaves_L20 (n : Nat) (kc5 : zH × Int64 × Int32 → Option (Int64 × zH)) (h11 : zH) (w7 : Nat) (j8 : Int64) (x9 : Int32) (x10 : Int32) : Option (Int64 × zH) :=
  zloop (fun kc x => F_X10_withLeaves_B20 n kc5 kc x.1 w7 x.2.1 x9 x.2.2) n (h11, j8, x10)
def F_X10_withLeaves_B5 (n : Nat) (kc5 : zH × Int64 × Int32 → Option (Int64 × zH)) (h4 : zH) (w1 : Nat) (j2 : Int64) (x3 : Int32) : Option (Int64 × zH) :=
  zgr h4 w1 9 20 12 fun w5 =>
  zgi h4 w5 4 5 4 fun x6 =>
  if x6 ≤ x3 then (
    some (j2, h4)
  ) else (
    F_X10_withLeaves_L20 n kc5 h4 w1 j2 x3 (0 : Int32)
  )
def F_X10_withLeaves_L5 (n : Nat) (h4 : zH) (w1 : Nat) (j2 : Int64) (x3 : Int32) : Option (Int64 × zH) :=
  zloop (fun kc x => F_X10_withLeaves_B5 n kc x.1 w1 x.2.1 x.2.2) n (h4, j2, x3)
def F_X10_withLeaves (n : Nat) (h : zH) (a0 : Nat) (p0 : Int64) : Option (Int64 × zH) :=
  F_X10_withLeaves_L5 n h a0 p0 (0 : Int32)
def F_X10_withRows_B110 (n : Nat) (kc5 : zH × Int64 × Int32 → Option (Int64 × zH)) (kc110 : zH × Int64 × Int32 → Option (Int64 × zH)) (h29 : zH) (w25 : Nat) (j26 : Int64) (x27 : Int32) (x28 : Int32) : Option (Int64 × zH) :=
  zgr h29 w25 9 20 12 fun w30 =>
  zgi h29 w30 4 5 4 fun x31 =>
  if x31 ≤ x28 then (
    zv (x27 + (1 : Int32)) fun x32 =>
    kc5 (h29, j26, x32)
  ) else (
    zv ((31 : Int64) * j26) fun j33 =>
    zgr h29 w25 9 20 15 fun w34 =>
    zgr h29 w34 0 2 1 fun w35 =>
    zai h29 w35 20 x28 fun x36 =>
    zv ((x36).toInt64) fun j37 =>
    zv (j33 + j37) fun j38 =>
    zv (x28 + (1 : Int32)) fun x39 =>
    kc110 (h29, j38, x39)
  )
def F_X10_withRows_L110 (n : Nat) (kc5 : zH × Int64 × Int32 → Option (Int64 × zH)) (h29 : zH) (w25 : Nat) (j26 : Int64) (x27 : Int32) (x28 : Int32) : Option (Int64 × zH) :=
  zloop (fun kc x => F_X10_withRows_B110 n kc5 kc x.1 w25 x.2.1 x27 x.2.2) n (h29, j26, x28)
def F_X10_withRows_J107 (n : Nat) (kc5 : zH × Int64 × Int32 → Option (Int64 × zH)) (h24 : zH) (w21 : Nat) (j22 : Int64) (x23 : Int32) : Option (Int64 × zH) :=
  F_X10_withRows_L110 n kc5 h24 w21 j22 x23 (0 : Int32)
def F_X10_withRows_B39 (n : Nat) (kc5 : zH × Int64 × Int32 → Option (Int64 × zH)) (kc39 : zH × Int64 × Int32 → Option (Int64 × zH)) (h17 : zH) (w12 : Nat) (j13 : Int64) (x14 : Int32) (w15 : Nat) (x16 : Int32) : Option (Int64 × zH) :=
  zgi h17 w15 8 4 2 fun x18 =>
  if x18 ≤ x16 then (
    zgr h17 w12 9 20 12 fun w19 =>
    zgi h17 w19 4 5 4 fun x20 =>
    if x20 ≤ (0 : Int32) then (
      F_X10_withRows_J107 n kc5 h17 w12 j13 x14
    ) else (
      zgr h17 w12 9 20 12 fun w53 =>
      zcv h17 w12 9 20 (F_X10_tryRow n h17 w12 w15 w53) fun _ h54 =>
      F_X10_withRows_J107 n kc5 h54 w12 j13 x14
    )
  ) else (
    zv ((31 : Int64) * j13) fun j55 =>
    zgr h17 w15 8 4 0 fun w56 =>
    zai h17 w56 20 x16 fun x57 =>
    zv ((x57).toInt64) fun j58 =>
    zv (j55 + j58) fun j59 =>
    zv ((31 : Int64) * j59) fun j60 =>
    zgr h17 w15 8 4 1 fun w61 =>
    zai h17 w61 20 x16 fun x62 =>
    zv ((x62).toInt64) fun j63 =>
    zv (j60 + j63) fun j64 =>
    zv (x16 + (1 : Int32)) fun x65 =>
    kc39 (h17, j64, x65)
  )
def F_X10_withRows_L39 (n : Nat) (kc5 : zH × Int64 × Int32 → Option (Int64 × zH)) (h17 : zH) (w12 : Nat) (j13 : Int64) (x14 : Int32) (w15 : Nat) (x16 : Int32) : Option (Int64 × zH) :=
  zloop (fun kc x => F_X10_withRows_B39 n kc5 kc x.1 w12 x.2.1 x14 w15 x.2.2) n (h17, j13, x16)
def F_X10_withRows_B5 (n : Nat) (kc5 : zH × Int64 × Int32 → Option (Int64 × zH)) (h4 : zH) (w1 : Nat) (j2 : Int64) (x3 : Int32) : Option (Int64 × zH) :=
  zgi h4 w1 9 20 11 fun x5 =>
  if x5 ≤ x3 then (
    some (j2, h4)
  ) else (
    zgr h4 w1 9 20 9 fun w6 =>
    zar h4 w6 25 x3 fun w7 =>
    zv ((31 : Int64) * j2) fun j8 =>
    zgi h4 w7 8 4 2 fun x9 =>
    zv ((x9).toInt64) fun j10 =>
    zv (j8 + j10) fun j11 =>
    F_X10_withRows_L39 n kc5 h4 w1 j11 x3 w7 (0 : Int32)
  )
def F_X10_withRows_L5 (n : Nat) (h4 : zH) (w1 : Nat) (j2 : Int64) (x3 : Int32) : Option (Int64 × zH) :=
  zloop (fun kc x => F_X10_withRows_B5 n kc x.1 w1 x.2.1 x.2.2) n (h4, j2, x3)
def F_X10_withRows (n : Nat) (h : zH) (a0 : Nat) (p0 : Int64) : Option (Int64 × zH) :=
  F_X10_withRows_L5 n h a0 p0 (0 : Int32)
def F_X10_withPictures_B5 (n : Nat) (kc5 : zH × Int64 × Int32 → Option (Int64 × zH)) (h4 : zH) (w1 : Nat) (j2 : Int64) (x3 : Int32) : Option (Int64 × zH) :=
  zgr h4 w1 9 20 19 fun w5 =>
  zgi h4 w5 6 3 2 fun x6 =>
  if x6 ≤ x3 then (
    some (j2, h4)
  ) else (
    zv ((31 : Int64) * j2) fun j7 =>
    zgr h4 w1 9 20 19 fun w8 =>
    zgr h4 w8 6 3 0 fun w9 =>
    zai h4 w9 20 x3 fun x10 =>
    zv ((x10).toInt64) fun j11 =>
    zv (j7 + j11) fun j12 =>
    zv ((31 : Int64) * j12) fun j13 =>
    zgr h4 w1 9 20 19 fun w14 =>
    zgr h4 w14 6 3 1 fun w15 =>
    zai h4 w15 20 x3 fun x16 =>
    zv ((x16).toInt64) fun j17 =>
    zv (j13 + j17) fun j18 =>
    zv (x3 + (1 : Int32)) fun x19 =>
    kc5 (h4, j18, x19)
  )
def F_X10_withPictures_L5 (n : Nat) (h4 : zH) (w1 : Nat) (j2 : Int64) (x3 : Int32) : Option (Int64 × zH) :=
  zloop (fun kc x => F_X10_withPictures_B5 n kc x.1 w1 x.2.1 x.2.2) n (h4, j2, x3)
def F_X10_withPictures (n : Nat) (h : zH) (a0 : Nat) (p0 : Int64) : Option (Int64 × zH) :=
  F_X10_withPictures_L5 n h a0 p0 (0 : Int32)
def F_X10_withRiver_J58 (n : Nat) (kc5 : zH × Int64 × Int32 → Option (Int64 × zH)) (h21 : zH) (w17 : Nat) (x18 : Int32) (j19 : Int64) (x20 : Int32) : Option (Int64 × zH) :=
  zv ((x20).toInt64) fun j22 =>
  zv (j19 + j22) fun j23 =>
  zv (x18 + (1 : Int32)) fun x24 =>
  kc5 (h21, j23, x24)
def F_X10_withRiver_B5 (n : Nat) (kc5 : zH × Int64 × Int32 → Option (Int64 × zH)) (h4 : zH) (w1 : Nat) (j2 : Int64) (x3 : Int32) : Option (Int64 × zH) :=
  zgr h4 w1 9 20 7 fun w5 =>
  zgi h4 w5 7 6 4 fun x6 =>
  if x6 ≤ x3 then (
    some (j2, h4)
  ) else (
    zv ((31 : Int64) * j2) fun j7 =>
    zgr h4 w1 9 20 7 fun w8 =>
    zgr h4 w8 7 6 0 fun w9 =>
    zai h4 w9 20 x3 fun x10 =>
    zv ((x10).toInt64) fun j11 =>
    zv (j7 + j11) fun j12 =>
    zv ((31 : Int64) * j12) fun j13 =>
    zgr h4 w1 9 20 7 fun w14 =>
    zgr h4 w14 7 6 1 fun w15 =>
    zai h4 w15 22 x3 fun x16 =>
    if x16 = (0 : Int32) then (
      F_X10_withRiver_J58 n kc5 h4 w1 x3 j13 (0 : Int32)
    ) else (
      F_X10_withRiver_J58 n kc5 h4 w1 x3 j13 (1 : Int32)
    )
  )
def F_X10_withRiver_L5 (n : Nat) (h4 : zH) (w1 : Nat) (j2 : Int64) (x3 : Int32) : Option (Int64 × zH) :=
  zloop (fun kc x => F_X10_withRiver_B5 n kc x.1 w1 x.2.1 x.2.2) n (h4, j2, x3)
def F_X10_withRiver (n : Nat) (h : zH) (a0 : Nat) (p0 : Int64) : Option (Int64 × zH) :=
  F_X10_withRiver_L5 n h a0 p0 (0 : Int32)
def F_X10_digest_B78 (n : Nat) (kc78 : zH × Int64 × Int32 → Option (Int64 × zH)) (h22 : zH) (w19 : Nat) (j20 : Int64) (x21 : Int32) : Option (Int64 × zH) :=
  if (8 : Int32) < x21 then (
    some (j20, h22)
  ) else (
    zv ((31 : Int64) * j20) fun j23 =>
    zcv h22 w19 9 20 (F_X10_count n h22 w19 x21) fun x25 h24 =>
    zv ((x25).toInt64) fun j26 =>
    zv (j23 + j26) fun j27 =>
    zv (x21 + (1 : Int32)) fun x28 =>
    kc78 (h24, j27, x28)
  )
def F_X10_digest_L78 (n : Nat) (h22 : zH) (w19 : Nat) (j20 : Int64) (x21 : Int32) : Option (Int64 × zH) :=
  zloop (fun kc x => F_X10_digest_B78 n kc x.1 w19 x.2.1 x.2.2) n (h22, j20, x21)
def F_X10_digest_B42 (n : Nat) (kc42 : zH × Int64 × Int32 → Option (Int64 × zH)) (h16 : zH) (w13 : Nat) (j14 : Int64) (x15 : Int32) : Option (Int64 × zH) :=
  zgr h16 w13 9 20 0 fun w17 =>
  zgi h16 w17 5 2 1 fun x18 =>
  if x18 ≤ x15 then (
    F_X10_digest_L78 n h16 w13 j14 (0 : Int32)
  ) else (
    zv ((31 : Int64) * j14) fun j38 =>
    zgr h16 w13 9 20 0 fun w39 =>
    zgr h16 w39 5 2 0 fun w40 =>
    zai h16 w40 20 x15 fun x41 =>
    zv ((x41).toInt64) fun j42 =>
    zv (j38 + j42) fun j43 =>
    zv (x15 + (1 : Int32)) fun x44 =>
    kc42 (h16, j43, x44)
  )
def F_X10_digest_L42 (n : Nat) (h16 : zH) (w13 : Nat) (j14 : Int64) (x15 : Int32) : Option (Int64 × zH) :=
  zloop (fun kc x => F_X10_digest_B42 n kc x.1 w13 x.2.1 x.2.2) n (h16, j14, x15)
def F_X10_digest (n : Nat) (h : zH) (a0 : Nat) : Option (Int64 × zH) :=
  zcv h a0 9 20 (F_X10_withCup n h a0 (443 : Int64)) fun j2 h1 =>
  zcv h1 a0 9 20 (F_X10_withDoings n h1 a0 j2) fun j4 h3 =>
  zcv h3 a0 9 20 (F_X10_withLeaves n h3 a0 j4) fun j6 h5 =>
  zcv h5 a0 9 20 (F_X10_withRows n h5 a0 j6) fun j8 h7 =>
  zcv h7 a0 9 20 (F_X10_withPictures n h7 a0 j8) fun j10 h9 =>
  zcv h9 a0 9 20 (F_X10_withRiver n h9 a0 j10) fun j12 h11 =>
  F_X10_digest_L42 n h11 a0 j12 (0 : Int32)
