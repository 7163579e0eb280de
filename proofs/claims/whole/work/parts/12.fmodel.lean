def F_X11_init (n : Nat) (h : zH) (a0 : Nat) : Option (Unit × zH) :=
  zna h 20 (6 : Int32) 6 fun w1 h2 =>
  zsr h2 a0 10 51 0 w1 fun h3 =>
  zna h3 20 (24 : Int32) 24 fun w4 h5 =>
  zsr h5 a0 10 51 3 w4 fun h6 =>
  zna h6 20 (24 : Int32) 24 fun w7 h8 =>
  zsr h8 a0 10 51 4 w7 fun h9 =>
  zna h9 20 (8 : Int32) 8 fun w10 h11 =>
  zsr h11 a0 10 51 6 w10 fun h12 =>
  zna h12 20 (8 : Int32) 8 fun w13 h14 =>
  zsr h14 a0 10 51 7 w13 fun h15 =>
  zna h15 20 (8 : Int32) 8 fun w16 h17 =>
  zsr h17 a0 10 51 9 w16 fun h18 =>
  zna h18 20 (8 : Int32) 8 fun w19 h20 =>
  zsr h20 a0 10 51 10 w19 fun h21 =>
  zna h21 20 (8 : Int32) 8 fun w22 h23 =>
  zsr h23 a0 10 51 11 w22 fun h24 =>
  zna h24 20 (8 : Int32) 8 fun w25 h26 =>
  zsr h26 a0 10 51 12 w25 fun h27 =>
  zna h27 20 (8 : Int32) 8 fun w28 h29 =>
  zsr h29 a0 10 51 13 w28 fun h30 =>
  zna h30 20 (8 : Int32) 8 fun w31 h32 =>
  zsr h32 a0 10 51 14 w31 fun h33 =>
  zna h33 20 (6 : Int32) 6 fun w34 h35 =>
  zsr h35 a0 10 51 15 w34 fun h36 =>
  zna h36 20 (6 : Int32) 6 fun w37 h38 =>
  zsr h38 a0 10 51 17 w37 fun h39 =>
  zna h39 20 (36 : Int32) 36 fun w40 h41 =>
  zsr h41 a0 10 51 18 w40 fun h42 =>
  zna h42 20 (36 : Int32) 36 fun w43 h44 =>
  zsr h44 a0 10 51 19 w43 fun h45 =>
  zna h45 20 (12 : Int32) 12 fun w46 h47 =>
  zsr h47 a0 10 51 21 w46 fun h48 =>
  zna h48 20 (12 : Int32) 12 fun w49 h50 =>
  zsr h50 a0 10 51 22 w49 fun h51 =>
  zna h51 20 (10 : Int32) 10 fun w52 h53 =>
  zsr h53 a0 10 51 24 w52 fun h54 =>
  zna h54 22 (10 : Int32) 10 fun w55 h56 =>
  zsr h56 a0 10 51 25 w55 fun h57 =>
  zna h57 21 (50 : Int32) 50 fun w58 h59 =>
  zsr h59 a0 10 51 28 w58 fun h60 =>
  zna h60 20 (24 : Int32) 24 fun w61 h62 =>
  zsr h62 a0 10 51 32 w61 fun h63 =>
  zna h63 20 (8 : Int32) 8 fun w64 h65 =>
  zsr h65 a0 10 51 33 w64 fun h66 =>
  zna h66 20 (8 : Int32) 8 fun w67 h68 =>
  zsr h68 a0 10 51 34 w67 fun h69 =>
  zna h69 20 (6 : Int32) 6 fun w70 h71 =>
  zsr h71 a0 10 51 35 w70 fun h72 =>
  zna h72 20 (6 : Int32) 6 fun w73 h74 =>
  zsr h74 a0 10 51 38 w73 fun h75 =>
  zna h75 20 (6 : Int32) 6 fun w76 h77 =>
  zsr h77 a0 10 51 40 w76 fun h78 =>
  zna h78 20 (6 : Int32) 6 fun w79 h80 =>
  zsr h80 a0 10 51 41 w79 fun h81 =>
  zna h81 20 (10 : Int32) 10 fun w82 h83 =>
  zsr h83 a0 10 51 43 w82 fun h84 =>
  zna h84 22 (10 : Int32) 10 fun w85 h86 =>
  zsr h86 a0 10 51 44 w85 fun h87 =>
  zna h87 20 (10 : Int32) 10 fun w88 h89 =>
  zsr h89 a0 10 51 45 w88 fun h90 =>
  zna h90 20 (10 : Int32) 10 fun w91 h92 =>
  zsr h92 a0 10 51 46 w91 fun h93 =>
  some ((), h93)
def F_X11_within_J15 (n : Nat) (h2 : zH) (x1 : Int32) : Option (Int32 × zH) :=
  zzr x1 (some (x1, h2))
def F_X11_within_J14 (n : Nat) (h5 : zH) : Option (Int32 × zH) :=
  F_X11_within_J15 n h5 (0 : Int32)
def F_X11_within (n : Nat) (h : zH) (p0 : Int32) (p1 : Int32) (p2 : Int32) : Option (Int32 × zH) :=
  if p0 < p1 then (
    F_X11_within_J14 n h
  ) else (
    if p2 < p0 then (
      F_X11_within_J14 n h
    ) else (
      F_X11_within_J15 n h (1 : Int32)
    )
  )
def F_X11_size_J10 (n : Nat) (h2 : zH) (x1 : Int32) : Option (Int32 × zH) :=
  some (x1, h2)
def F_X11_size (n : Nat) (h : zH) (p0 : Int32) : Option (Int32 × zH) :=
  if (0 : Int32) ≤ p0 then (
    F_X11_size_J10 n h p0
  ) else (
    zv (-p0) fun x5 =>
    F_X11_size_J10 n h x5
  )
def F_X11_letters_J46 (n : Nat) (h1 : zH) : Option (Int32 × zH) :=
  some ((-102 : Int32), h1)
def F_X11_letters_B102 (n : Nat) (kc102 : zH × Int32 → Option (Int32 × zH)) (h15 : zH) (w11 : Nat) (j12 : Int64) (x13 : Int32) (x14 : Int32) : Option (Int32 × zH) :=
  if x13 ≤ x14 then (
    zgi h15 w11 10 51 27 fun x16 =>
    zv (x16 + x13) fun x17 =>
    zsi h15 w11 10 51 27 x17 fun h18 =>
    zgi h18 w11 10 51 27 fun x19 =>
    some (x19, h18)
  ) else (
    zgr h15 w11 10 51 28 fun w20 =>
    zgi h15 w11 10 51 27 fun x21 =>
    zv (x21 + x14) fun x22 =>
    zv ((8 : Int32) * x14) fun x23 =>
    zv (j12 >>> ((x23).toInt64 &&& 63)) fun j24 =>
    zv ((j24).toInt32) fun x25 =>
    zv ((x25).toInt8.toInt32) fun x26 =>
    zty8 h15 w20 x22 x26 fun h27 =>
    zv (x14 + (1 : Int32)) fun x28 =>
    kc102 (h27, x28)
  )
def F_X11_letters_L102 (n : Nat) (h15 : zH) (w11 : Nat) (j12 : Int64) (x13 : Int32) (x14 : Int32) : Option (Int32 × zH) :=
  zloop (fun kc x => F_X11_letters_B102 n kc x.1 w11 j12 x13 x.2) n (h15, x14)
def F_X11_letters_J77 (n : Nat) (kc8 : zH × Int32 × Int32 × Int32 → Option (Int32 × zH)) (h74 : zH) (w68 : Nat) (j69 : Int64) (x70 : Int32) (x71 : Int32) (x72 : Int32) (x73 : Int32) : Option (Int32 × zH) :=
  zv (x72 + x73) fun x75 =>
  zv (x71 + (1 : Int32)) fun x76 =>
  kc8 (h74, x75, x70, x76)
def F_X11_letters_J64 (n : Nat) (kc8 : zH × Int32 × Int32 × Int32 → Option (Int32 × zH)) (h67 : zH) (w61 : Nat) (j62 : Int64) (x63 : Int32) (x64 : Int32) (x65 : Int32) (x66 : Int32) : Option (Int32 × zH) :=
  if x65 = (0 : Int32) then (
    F_X11_letters_J77 n kc8 h67 w61 j62 x66 x64 x63 (0 : Int32)
  ) else (
    F_X11_letters_J77 n kc8 h67 w61 j62 x66 x64 x63 (1 : Int32)
  )
def F_X11_letters_J59 (n : Nat) (kc8 : zH × Int32 × Int32 × Int32 → Option (Int32 × zH)) (h60 : zH) (w55 : Nat) (j56 : Int64) (x57 : Int32) (x58 : Int32) (x59 : Int32) : Option (Int32 × zH) :=
  F_X11_letters_J64 n kc8 h60 w55 j56 x57 x58 x59 (1 : Int32)
def F_X11_letters_J49 (n : Nat) (kc8 : zH × Int32 × Int32 × Int32 → Option (Int32 × zH)) (h54 : zH) (w48 : Nat) (j49 : Int64) (x50 : Int32) (x51 : Int32) (x52 : Int32) (x53 : Int32) : Option (Int32 × zH) :=
  if x51 = (0 : Int32) then (
    if x53 = (0 : Int32) then (
      F_X11_letters_J59 n kc8 h54 w48 j49 x50 x52 x53
    ) else (
      F_X11_letters_J64 n kc8 h54 w48 j49 x50 x52 x53 (0 : Int32)
    )
  ) else (
    F_X11_letters_J59 n kc8 h54 w48 j49 x50 x52 x53
  )
def F_X11_letters_B8 (n : Nat) (kc8 : zH × Int32 × Int32 × Int32 → Option (Int32 × zH)) (h8 : zH) (w3 : Nat) (j4 : Int64) (x5 : Int32) (x6 : Int32) (x7 : Int32) : Option (Int32 × zH) :=
  if (8 : Int32) ≤ x7 then (
    zgi h8 w3 10 51 27 fun x9 =>
    zv (x9 + x5) fun x10 =>
    if x10 ≤ (50 : Int32) then (
      F_X11_letters_L102 n h8 w3 j4 x5 (0 : Int32)
    ) else (
      some ((-104 : Int32), h8)
    )
  ) else (
    zv ((8 : Int32) * x7) fun x44 =>
    zv (j4 >>> ((x44).toInt64 &&& 63)) fun j45 =>
    zv (j45 &&& (255 : Int64)) fun j46 =>
    zv ((j46).toInt32) fun x47 =>
    if (126 : Int32) < x47 then (
      F_X11_letters_J46 n h8
    ) else (
      if x6 = (0 : Int32) then (
        F_X11_letters_J49 n kc8 h8 w3 j4 x5 x6 x7 x47
      ) else (
        if x47 = (0 : Int32) then (
          F_X11_letters_J49 n kc8 h8 w3 j4 x5 x6 x7 x47
        ) else (
          F_X11_letters_J46 n h8
        )
      )
    )
  )
def F_X11_letters_L8 (n : Nat) (h8 : zH) (w3 : Nat) (j4 : Int64) (x5 : Int32) (x6 : Int32) (x7 : Int32) : Option (Int32 × zH) :=
  zloop (fun kc x => F_X11_letters_B8 n kc x.1 w3 j4 x.2.1 x.2.2.1 x.2.2.2) n (h8, x5, x6, x7)
def F_X11_letters (n : Nat) (h : zH) (a0 : Nat) (p0 : Int64) : Option (Int32 × zH) :=
  F_X11_letters_L8 n h a0 p0 (0 : Int32) (0 : Int32) (0 : Int32)
def F_X11_blank (n : Nat) (h : zH) (a0 : Nat) : Option (Int32 × zH) :=
  zgi h a0 10 51 27 fun x1 =>
  zsi h a0 10 51 27 (0 : Int32) fun h2 =>
  some (x1, h2)
def F_X11_isDigit (n : Nat) (h : zH) (p0 : Int32) : Option (Int32 × zH) :=
  zc (F_X11_within n h p0 (48 : Int32) (57 : Int32)) fun x2 h1 =>
  zzr x2 (some (x2, h1))
def F_X11_nextCup_J163 (n : Nat) (h2 : zH) (x1 : Int32) : Option (Int32 × zH) :=
  some (x1, h2)
def F_X11_nextCup_J126 (n : Nat) (h10 : zH) (w5 : Nat) (x6 : Int32) (x7 : Int32) (x8 : Int32) (x9 : Int32) : Option (Int32 × zH) :=
  zgr h10 w5 10 51 38 fun w11 =>
  zd x6 (2 : Int32) fun x12 =>
  zv (x7 - (48 : Int32)) fun x13 =>
  zti h10 w11 x12 x13 fun h14 =>
  zv ((48 : Int32) + x8) fun x15 =>
  zv ((48 : Int32) + x9) fun x16 =>
  zc (F_X11_within n h14 x7 x15 x16) fun x18 h17 =>
  if x18 = (0 : Int32) then (
    F_X11_nextCup_J163 n h17 (-1 : Int32)
  ) else (
    zv (x6 + (1 : Int32)) fun x19 =>
    F_X11_nextCup_J163 n h17 x19
  )
def F_X11_nextCup_J104 (n : Nat) (h39 : zH) (w35 : Nat) (x36 : Int32) (x37 : Int32) (x38 : Int32) : Option (Int32 × zH) :=
  if x36 = (1 : Int32) then (
    F_X11_nextCup_J126 n h39 w35 x36 x37 x38 (6 : Int32)
  ) else (
    if x36 = (3 : Int32) then (
      F_X11_nextCup_J126 n h39 w35 x36 x37 x38 (4 : Int32)
    ) else (
      F_X11_nextCup_J126 n h39 w35 x36 x37 x38 (9 : Int32)
    )
  )
def F_X11_nextCup_J93 (n : Nat) (h46 : zH) (x45 : Int32) : Option (Int32 × zH) :=
  some (x45, h46)
def F_X11_nextCup_J80 (n : Nat) (h52 : zH) (x49 : Int32) (x50 : Int32) (x51 : Int32) : Option (Int32 × zH) :=
  if x50 = x51 then (
    zv (x49 + (1 : Int32)) fun x53 =>
    F_X11_nextCup_J93 n h52 x53
  ) else (
    F_X11_nextCup_J93 n h52 (-1 : Int32)
  )
def F_X11_nextCup_J31 (n : Nat) (h60 : zH) (x59 : Int32) : Option (Int32 × zH) :=
  some (x59, h60)
def F_X11_nextCup_J30 (n : Nat) (h63 : zH) : Option (Int32 × zH) :=
  F_X11_nextCup_J31 n h63 (-1 : Int32)
def F_X11_nextCup (n : Nat) (h : zH) (a0 : Nat) (p0 : Int32) (p1 : Int32) : Option (Int32 × zH) :=
  if p0 ≤ (9 : Int32) then (
    zm p0 (2 : Int32) fun x65 =>
    if x65 = (0 : Int32) then (
      if p0 = (0 : Int32) then (
        F_X11_nextCup_J80 n h p0 p1 (114 : Int32)
      ) else (
        if p0 = (2 : Int32) then (
          F_X11_nextCup_J80 n h p0 p1 (104 : Int32)
        ) else (
          if p0 = (4 : Int32) then (
            F_X11_nextCup_J80 n h p0 p1 (102 : Int32)
          ) else (
            if p0 = (6 : Int32) then (
              F_X11_nextCup_J80 n h p0 p1 (119 : Int32)
            ) else (
              F_X11_nextCup_J80 n h p0 p1 (109 : Int32)
            )
          )
        )
      )
    ) else (
      if (4 : Int32) ≤ p0 then (
        F_X11_nextCup_J104 n h a0 p0 p1 (0 : Int32)
      ) else (
        F_X11_nextCup_J104 n h a0 p0 p1 (2 : Int32)
      )
    )
  ) else (
    zgr h a0 10 51 38 fun w66 =>
    zti h w66 (5 : Int32) (1 : Int32) fun h67 =>
    if p0 = (10 : Int32) then (
      if p1 = (113 : Int32) then (
        F_X11_nextCup_J31 n h67 (11 : Int32)
      ) else (
        F_X11_nextCup_J30 n h67
      )
    ) else (
      F_X11_nextCup_J30 n h67
    )
  )
def F_X11_nextRow_J213 (n : Nat) (h2 : zH) (x1 : Int32) : Option (Int32 × zH) :=
  some (x1, h2)
def F_X11_nextRow_J212 (n : Nat) (h5 : zH) : Option (Int32 × zH) :=
  F_X11_nextRow_J213 n h5 (-1 : Int32)
def F_X11_nextRow_J193 (n : Nat) (h9 : zH) (w7 : Nat) (x8 : Int32) : Option (Int32 × zH) :=
  if x8 = (44 : Int32) then (
    zgi h9 w7 10 51 39 fun x10 =>
    if (6 : Int32) ≤ x10 then (
      F_X11_nextRow_J212 n h9
    ) else (
      F_X11_nextRow_J213 n h9 (0 : Int32)
    )
  ) else (
    F_X11_nextRow_J212 n h9
  )
def F_X11_nextRow_J124 (n : Nat) (h16 : zH) (x15 : Int32) : Option (Int32 × zH) :=
  some (x15, h16)
def F_X11_nextRow_J104 (n : Nat) (h23 : zH) (x19 : Int32) (w20 : Nat) (x21 : Int32) (x22 : Int32) : Option (Int32 × zH) :=
  zv (x21 + x22) fun x24 =>
  zsi h23 w20 10 51 39 x24 fun h25 =>
  zc (F_X11_within n h25 x19 (49 : Int32) (57 : Int32)) fun x27 h26 =>
  if x27 = (0 : Int32) then (
    F_X11_nextRow_J124 n h26 (-1 : Int32)
  ) else (
    F_X11_nextRow_J124 n h26 (3 : Int32)
  )
def F_X11_nextRow_J69 (n : Nat) (h38 : zH) (x37 : Int32) : Option (Int32 × zH) :=
  some (x37, h38)
def F_X11_nextRow_J57 (n : Nat) (h42 : zH) (x41 : Int32) : Option (Int32 × zH) :=
  some (x41, h42)
def F_X11_nextRow (n : Nat) (h : zH) (a0 : Nat) (p0 : Int32) (p1 : Int32) : Option (Int32 × zH) :=
  if (p0).toInt < 0 ∨ 2 < (p0).toInt then (
    if p0 = (3 : Int32) then (
      zc (F_X11_isDigit n h p1) fun x46 h45 =>
      if x46 = (0 : Int32) then (
        F_X11_nextRow_J193 n h45 a0 p1
      ) else (
        zgr h45 a0 10 51 41 fun w47 =>
        zgi h45 a0 10 51 39 fun x48 =>
        zv (x48 - (1 : Int32)) fun x49 =>
        zai h45 w47 20 x49 fun x50 =>
        zv ((10 : Int32) * x50) fun x51 =>
        zv (x51 + p1) fun x52 =>
        zv (x52 - (48 : Int32)) fun x53 =>
        if (60 : Int32) < x53 then (
          F_X11_nextRow_J193 n h45 a0 p1
        ) else (
          zgr h45 a0 10 51 41 fun w54 =>
          zgi h45 a0 10 51 39 fun x55 =>
          zv (x55 - (1 : Int32)) fun x56 =>
          zgr h45 a0 10 51 41 fun w57 =>
          zgi h45 a0 10 51 39 fun x58 =>
          zv (x58 - (1 : Int32)) fun x59 =>
          zai h45 w57 20 x59 fun x60 =>
          zv ((10 : Int32) * x60) fun x61 =>
          zv (x61 + p1) fun x62 =>
          zv (x62 - (48 : Int32)) fun x63 =>
          zti h45 w54 x56 x63 fun h64 =>
          some ((4 : Int32), h64)
        )
      )
    ) else (
      F_X11_nextRow_J193 n h a0 p1
    )
  ) else
  if p0 = (0 : Int32) then (
    zgr h a0 10 51 40 fun w65 =>
    zgi h a0 10 51 39 fun x66 =>
    zv (p1 - (48 : Int32)) fun x67 =>
    zti h w65 x66 x67 fun h68 =>
    zc (F_X11_within n h68 p1 (48 : Int32) (55 : Int32)) fun x70 h69 =>
    if x70 = (0 : Int32) then (
      F_X11_nextRow_J57 n h69 (-1 : Int32)
    ) else (
      F_X11_nextRow_J57 n h69 (1 : Int32)
    )
  ) else
  if p0 = (1 : Int32) then (
    if p1 = (42 : Int32) then (
      F_X11_nextRow_J69 n h (2 : Int32)
    ) else (
      F_X11_nextRow_J69 n h (-1 : Int32)
    )
  ) else
  if p0 = (2 : Int32) then (
    zgr h a0 10 51 41 fun w71 =>
    zgi h a0 10 51 39 fun x72 =>
    zv (p1 - (48 : Int32)) fun x73 =>
    zti h w71 x72 x73 fun h74 =>
    zgi h74 a0 10 51 39 fun x75 =>
    zc (F_X11_within n h74 p1 (49 : Int32) (57 : Int32)) fun x77 h76 =>
    if x77 = (0 : Int32) then (
      F_X11_nextRow_J104 n h76 p1 a0 x75 (0 : Int32)
    ) else (
      F_X11_nextRow_J104 n h76 p1 a0 x75 (1 : Int32)
    )
  ) else
  none
def F_X11_nextRiver_J160 (n : Nat) (h2 : zH) (x1 : Int32) : Option (Int32 × zH) :=
  some (x1, h2)
def F_X11_nextRiver_J159 (n : Nat) (h5 : zH) : Option (Int32 × zH) :=
  F_X11_nextRiver_J160 n h5 (-1 : Int32)
def F_X11_nextRiver_J140 (n : Nat) (h9 : zH) (w7 : Nat) (x8 : Int32) : Option (Int32 × zH) :=
  if x8 = (44 : Int32) then (
    zgi h9 w7 10 51 42 fun x10 =>
    if (10 : Int32) ≤ x10 then (
      F_X11_nextRiver_J159 n h9
    ) else (
      F_X11_nextRiver_J160 n h9 (0 : Int32)
    )
  ) else (
    F_X11_nextRiver_J159 n h9
  )
def F_X11_nextRiver_J115 (n : Nat) (h18 : zH) (w15 : Nat) (x16 : Int32) (x17 : Int32) : Option (Int32 × zH) :=
  if (3 : Int32) ≤ x16 then (
    F_X11_nextRiver_J140 n h18 w15 x17
  ) else (
    if x17 = (104 : Int32) then (
      zgr h18 w15 10 51 44 fun w19 =>
      zgi h18 w15 10 51 42 fun x20 =>
      zv (x20 - (1 : Int32)) fun x21 =>
      ztz h18 w19 x21 (1 : Int32) fun h22 =>
      some ((3 : Int32), h22)
    ) else (
      F_X11_nextRiver_J140 n h18 w15 x17
    )
  )
def F_X11_nextRiver_J70 (n : Nat) (h32 : zH) (x31 : Int32) : Option (Int32 × zH) :=
  some (x31, h32)
def F_X11_nextRiver_J44 (n : Nat) (h39 : zH) (x35 : Int32) (w36 : Nat) (x37 : Int32) (x38 : Int32) : Option (Int32 × zH) :=
  zv (x37 + x38) fun x40 =>
  zsi h39 w36 10 51 42 x40 fun h41 =>
  if x35 = (48 : Int32) then (
    F_X11_nextRiver_J70 n h41 (2 : Int32)
  ) else (
    zc (F_X11_isDigit n h41 x35) fun x43 h42 =>
    if x43 = (0 : Int32) then (
      F_X11_nextRiver_J70 n h42 (-1 : Int32)
    ) else (
      F_X11_nextRiver_J70 n h42 (1 : Int32)
    )
  )
def F_X11_nextRiver (n : Nat) (h : zH) (a0 : Nat) (p0 : Int32) (p1 : Int32) : Option (Int32 × zH) :=
  if p0 = (0 : Int32) then (
    zgr h a0 10 51 43 fun w66 =>
    zgi h a0 10 51 42 fun x67 =>
    zv (p1 - (48 : Int32)) fun x68 =>
    zti h w66 x67 x68 fun h69 =>
    zgr h69 a0 10 51 44 fun w70 =>
    zgi h69 a0 10 51 42 fun x71 =>
    ztz h69 w70 x71 (0 : Int32) fun h72 =>
    zgi h72 a0 10 51 42 fun x73 =>
    zc (F_X11_isDigit n h72 p1) fun x75 h74 =>
    if x75 = (0 : Int32) then (
      F_X11_nextRiver_J44 n h74 p1 a0 x73 (0 : Int32)
    ) else (
      F_X11_nextRiver_J44 n h74 p1 a0 x73 (1 : Int32)
    )
  ) else (
    if p0 = (1 : Int32) then (
      zc (F_X11_isDigit n h p1) fun x54 h53 =>
      if x54 = (0 : Int32) then (
        F_X11_nextRiver_J115 n h53 a0 p0 p1
      ) else (
        zgr h53 a0 10 51 43 fun w55 =>
        zgi h53 a0 10 51 42 fun x56 =>
        zv (x56 - (1 : Int32)) fun x57 =>
        zgr h53 a0 10 51 43 fun w58 =>
        zgi h53 a0 10 51 42 fun x59 =>
        zv (x59 - (1 : Int32)) fun x60 =>
        zai h53 w58 20 x60 fun x61 =>
        zv ((10 : Int32) * x61) fun x62 =>
        zv (x62 + p1) fun x63 =>
        zv (x63 - (48 : Int32)) fun x64 =>
        zti h53 w55 x57 x64 fun h65 =>
        some ((2 : Int32), h65)
      )
    ) else (
      F_X11_nextRiver_J115 n h a0 p0 p1
    )
  )
def F_X11_readPage_J204 (n : Nat) (h4 : zH) (w1 : Nat) (x2 : Int32) (x3 : Int32) : Option (Unit × zH) :=
  zti h4 w1 x2 x3 fun h5 =>
  some ((), h5)
def F_X11_readPage_J185 (n : Nat) (h15 : zH) (w11 : Nat) (x12 : Int32) (w13 : Nat) (x14 : Int32) : Option (Unit × zH) :=
  zsb h15 w13 10 51 37 x14 fun h16 =>
  zgr h16 w11 10 51 38 fun w17 =>
  if x12 = (11 : Int32) then (
    F_X11_readPage_J204 n h16 w17 (5 : Int32) (1 : Int32)
  ) else (
    F_X11_readPage_J204 n h16 w17 (5 : Int32) (0 : Int32)
  )
def F_X11_readPage_J184 (n : Nat) (h28 : zH) (w25 : Nat) (x26 : Int32) (w27 : Nat) : Option (Unit × zH) :=
  F_X11_readPage_J185 n h28 w25 x26 w27 (0 : Int32)
def F_X11_readPage_J180 (n : Nat) (h36 : zH) (w33 : Nat) (x34 : Int32) (w35 : Nat) : Option (Unit × zH) :=
  F_X11_readPage_J185 n h36 w33 x34 w35 (1 : Int32)
def F_X11_readPage_J128 (n : Nat) (h45 : zH) (w41 : Nat) (x42 : Int32) (x43 : Int32) (x44 : Int32) : Option (Unit × zH) :=
  zsi h45 w41 10 51 36 x44 fun h46 =>
  zgi h46 w41 10 51 27 fun x47 =>
  if x44 = x47 then (
    if x42 = (0 : Int32) then (
      if x43 ≤ (9 : Int32) then (
        F_X11_readPage_J184 n h46 w41 x43 w41
      ) else (
        F_X11_readPage_J180 n h46 w41 x43 w41
      )
    ) else (
      if x42 = (1 : Int32) then (
        if x43 ≤ (2 : Int32) then (
          F_X11_readPage_J184 n h46 w41 x43 w41
        ) else (
          F_X11_readPage_J180 n h46 w41 x43 w41
        )
      ) else (
        if x43 ≤ (0 : Int32) then (
          F_X11_readPage_J184 n h46 w41 x43 w41
        ) else (
          zgi h46 w41 10 51 42 fun x48 =>
          if x48 ≤ (3 : Int32) then (
            F_X11_readPage_J184 n h46 w41 x43 w41
          ) else (
            F_X11_readPage_J180 n h46 w41 x43 w41
          )
        )
      )
    )
  ) else (
    F_X11_readPage_J184 n h46 w41 x43 w41
  )
def F_X11_readPage_J123 (n : Nat) (kc24 : zH × Int32 × Int32 × Int32 → Option (Unit × zH)) (h97 : zH) (w91 : Nat) (x92 : Int32) (x93 : Int32) (x94 : Int32) (x95 : Int32) (x96 : Int32) : Option (Unit × zH) :=
  zv (x95 + x96) fun x98 =>
  kc24 (h97, x93, x98, x94)
def F_X11_readPage_J111 (n : Nat) (kc24 : zH × Int32 × Int32 × Int32 → Option (Unit × zH)) (h90 : zH) (w85 : Nat) (x86 : Int32) (x87 : Int32) (x88 : Int32) (x89 : Int32) : Option (Unit × zH) :=
  if x88 = (0 : Int32) then (
    F_X11_readPage_J123 n kc24 h90 w85 x86 x89 x88 x87 (0 : Int32)
  ) else (
    F_X11_readPage_J123 n kc24 h90 w85 x86 x89 x88 x87 (1 : Int32)
  )
def F_X11_readPage_J98 (n : Nat) (kc24 : zH × Int32 × Int32 × Int32 → Option (Unit × zH)) (h84 : zH) (w78 : Nat) (x79 : Int32) (x80 : Int32) (x81 : Int32) (x82 : Int32) (x83 : Int32) : Option (Unit × zH) :=
  if x83 = (0 : Int32) then (
    F_X11_readPage_J111 n kc24 h84 w78 x79 x81 x83 x80
  ) else (
    F_X11_readPage_J111 n kc24 h84 w78 x79 x81 x83 x82
  )
def F_X11_readPage_J85 (n : Nat) (kc24 : zH × Int32 × Int32 × Int32 → Option (Unit × zH)) (h77 : zH) (w72 : Nat) (x73 : Int32) (x74 : Int32) (x75 : Int32) (x76 : Int32) : Option (Unit × zH) :=
  if x76 = (-1 : Int32) then (
    F_X11_readPage_J98 n kc24 h77 w72 x73 x74 x75 x76 (0 : Int32)
  ) else (
    F_X11_readPage_J98 n kc24 h77 w72 x73 x74 x75 x76 (1 : Int32)
  )
def F_X11_readPage_B24 (n : Nat) (kc24 : zH × Int32 × Int32 × Int32 → Option (Unit × zH)) (h66 : zH) (w61 : Nat) (x62 : Int32) (x63 : Int32) (x64 : Int32) (x65 : Int32) : Option (Unit × zH) :=
  zgi h66 w61 10 51 27 fun x67 =>
  if x67 ≤ x64 then (
    F_X11_readPage_J128 n h66 w61 x62 x63 x64
  ) else (
    if x65 = (0 : Int32) then (
      F_X11_readPage_J128 n h66 w61 x62 x63 x64
    ) else (
      if x62 = (0 : Int32) then (
        zgr h66 w61 10 51 28 fun w103 =>
        zai h66 w103 21 x64 fun x104 =>
        zcv h66 w61 10 51 (F_X11_nextCup n h66 w61 x63 x104) fun x106 h105 =>
        F_X11_readPage_J85 n kc24 h105 w61 x62 x63 x64 x106
      ) else (
        if x62 = (1 : Int32) then (
          zgr h66 w61 10 51 28 fun w99 =>
          zai h66 w99 21 x64 fun x100 =>
          zcv h66 w61 10 51 (F_X11_nextRow n h66 w61 x63 x100) fun x102 h101 =>
          F_X11_readPage_J85 n kc24 h101 w61 x62 x63 x64 x102
        ) else (
          zgr h66 w61 10 51 28 fun w68 =>
          zai h66 w68 21 x64 fun x69 =>
          zcv h66 w61 10 51 (F_X11_nextRiver n h66 w61 x63 x69) fun x71 h70 =>
          F_X11_readPage_J85 n kc24 h70 w61 x62 x63 x64 x71
        )
      )
    )
  )
def F_X11_readPage_L24 (n : Nat) (h66 : zH) (w61 : Nat) (x62 : Int32) (x63 : Int32) (x64 : Int32) (x65 : Int32) : Option (Unit × zH) :=
  zloop (fun kc x => F_X11_readPage_B24 n kc x.1 w61 x62 x.2.1 x.2.2.1 x.2.2.2) n (h66, x63, x64, x65)
def F_X11_readPage (n : Nat) (h : zH) (a0 : Nat) (p0 : Int32) : Option (Unit × zH) :=
  zgr h a0 10 51 38 fun w57 =>
  zti h w57 (5 : Int32) (0 : Int32) fun h58 =>
  zsi h58 a0 10 51 39 (0 : Int32) fun h59 =>
  zsi h59 a0 10 51 42 (0 : Int32) fun h60 =>
  F_X11_readPage_L24 n h60 a0 p0 (0 : Int32) (0 : Int32) (1 : Int32)
def F_X11_fault (n : Nat) (h : zH) (a0 : Nat) (p0 : Int32) : Option (Int32 × zH) :=
  zc (F_X11_within n h p0 (0 : Int32) (2 : Int32)) fun x2 h1 =>
  if x2 = (0 : Int32) then (
    some ((-102 : Int32), h1)
  ) else (
    zcv h1 a0 10 51 (F_X11_readPage n h1 a0 p0) fun _ h3 =>
    zgi h3 a0 10 51 36 fun x4 =>
    some (x4, h3)
  )
def F_X11_cup_B50 (n : Nat) (kc50 : zH × Int32 → Option (Int32 × zH)) (h8 : zH) (w6 : Nat) (x7 : Int32) : Option (Int32 × zH) :=
  if (24 : Int32) ≤ x7 then (
    zsi h8 w6 10 51 8 (0 : Int32) fun h9 =>
    zsb h9 w6 10 51 1 (1 : Int32) fun h10 =>
    zgi h10 w6 10 51 2 fun x11 =>
    zv (x11 + (1 : Int32)) fun x12 =>
    zsi h10 w6 10 51 2 x12 fun h13 =>
    zsi h13 w6 10 51 27 (0 : Int32) fun h14 =>
    zgr h14 w6 10 51 0 fun w15 =>
    zai h14 w15 20 (0 : Int32) fun x16 =>
    some (x16, h14)
  ) else (
    zgr h8 w6 10 51 3 fun w17 =>
    zti h8 w17 x7 (0 : Int32) fun h18 =>
    zv (x7 + (1 : Int32)) fun x19 =>
    kc50 (h18, x19)
  )
def F_X11_cup_L50 (n : Nat) (h8 : zH) (w6 : Nat) (x7 : Int32) : Option (Int32 × zH) :=
  zloop (fun kc x => F_X11_cup_B50 n kc x.1 w6 x.2) n (h8, x7)
def F_X11_cup_B17 (n : Nat) (kc17 : zH × Int32 → Option (Int32 × zH)) (h5 : zH) (w3 : Nat) (x4 : Int32) : Option (Int32 × zH) :=
  if (6 : Int32) ≤ x4 then (
    F_X11_cup_L50 n h5 w3 (0 : Int32)
  ) else (
    zgr h5 w3 10 51 0 fun w33 =>
    zgr h5 w3 10 51 38 fun w34 =>
    zai h5 w34 20 x4 fun x35 =>
    zti h5 w33 x4 x35 fun h36 =>
    zgr h36 w3 10 51 15 fun w37 =>
    zti h36 w37 x4 (0 : Int32) fun h38 =>
    zv (x4 + (1 : Int32)) fun x39 =>
    kc17 (h38, x39)
  )
def F_X11_cup_L17 (n : Nat) (h5 : zH) (w3 : Nat) (x4 : Int32) : Option (Int32 × zH) :=
  zloop (fun kc x => F_X11_cup_B17 n kc x.1 w3 x.2) n (h5, x4)
def F_X11_cup (n : Nat) (h : zH) (a0 : Nat) : Option (Int32 × zH) :=
  zcv h a0 10 51 (F_X11_readPage n h a0 (0 : Int32)) fun _ h1 =>
  zgi h1 a0 10 51 37 fun x2 =>
  if x2 = (0 : Int32) then (
    some ((-103 : Int32), h1)
  ) else (
    F_X11_cup_L17 n h1 a0 (0 : Int32)
  )
def F_X11_row_B42 (n : Nat) (kc42 : zH × Int32 → Option (Int32 × zH)) (h10 : zH) (w8 : Nat) (x9 : Int32) : Option (Int32 × zH) :=
  zgi h10 w8 10 51 39 fun x11 =>
  if x11 ≤ x9 then (
    zgi h10 w8 10 51 16 fun x12 =>
    zv (x12 + (1 : Int32)) fun x13 =>
    zsi h10 w8 10 51 16 x13 fun h14 =>
    zsi h14 w8 10 51 27 (0 : Int32) fun h15 =>
    zgi h15 w8 10 51 16 fun x16 =>
    zv (x16 - (1 : Int32)) fun x17 =>
    some (x17, h15)
  ) else (
    zgr h10 w8 10 51 18 fun w18 =>
    zgi h10 w8 10 51 16 fun x19 =>
    zv ((6 : Int32) * x19) fun x20 =>
    zv (x20 + x9) fun x21 =>
    zgr h10 w8 10 51 40 fun w22 =>
    zai h10 w22 20 x9 fun x23 =>
    zti h10 w18 x21 x23 fun h24 =>
    zgr h24 w8 10 51 19 fun w25 =>
    zgi h24 w8 10 51 16 fun x26 =>
    zv ((6 : Int32) * x26) fun x27 =>
    zv (x27 + x9) fun x28 =>
    zgr h24 w8 10 51 41 fun w29 =>
    zai h24 w29 20 x9 fun x30 =>
    zti h24 w25 x28 x30 fun h31 =>
    zv (x9 + (1 : Int32)) fun x32 =>
    kc42 (h31, x32)
  )
def F_X11_row_L42 (n : Nat) (h10 : zH) (w8 : Nat) (x9 : Int32) : Option (Int32 × zH) :=
  zloop (fun kc x => F_X11_row_B42 n kc x.1 w8 x.2) n (h10, x9)
def F_X11_row (n : Nat) (h : zH) (a0 : Nat) : Option (Int32 × zH) :=
  zcv h a0 10 51 (F_X11_readPage n h a0 (1 : Int32)) fun _ h1 =>
  zgi h1 a0 10 51 37 fun x2 =>
  if x2 = (0 : Int32) then (
    some ((-103 : Int32), h1)
  ) else (
    zgi h1 a0 10 51 16 fun x3 =>
    if x3 = (6 : Int32) then (
      some ((-104 : Int32), h1)
    ) else (
      zgr h1 a0 10 51 17 fun w4 =>
      zgi h1 a0 10 51 16 fun x5 =>
      zgi h1 a0 10 51 39 fun x6 =>
      zti h1 w4 x5 x6 fun h7 =>
      F_X11_row_L42 n h7 a0 (0 : Int32)
    )
  )
def F_X11_river_B25 (n : Nat) (kc25 : zH × Int32 → Option (Int32 × zH)) (h7 : zH) (w5 : Nat) (x6 : Int32) : Option (Int32 × zH) :=
  zgi h7 w5 10 51 23 fun x8 =>
  if x8 ≤ x6 then (
    zsi h7 w5 10 51 27 (0 : Int32) fun h9 =>
    zgi h9 w5 10 51 23 fun x10 =>
    some (x10, h9)
  ) else (
    zgr h7 w5 10 51 24 fun w11 =>
    zgr h7 w5 10 51 43 fun w12 =>
    zai h7 w12 20 x6 fun x13 =>
    zti h7 w11 x6 x13 fun h14 =>
    zgr h14 w5 10 51 25 fun w15 =>
    zgr h14 w5 10 51 44 fun w16 =>
    zai h14 w16 22 x6 fun x17 =>
    ztz h14 w15 x6 x17 fun h18 =>
    zv (x6 + (1 : Int32)) fun x19 =>
    kc25 (h18, x19)
  )
def F_X11_river_L25 (n : Nat) (h7 : zH) (w5 : Nat) (x6 : Int32) : Option (Int32 × zH) :=
  zloop (fun kc x => F_X11_river_B25 n kc x.1 w5 x.2) n (h7, x6)
def F_X11_river (n : Nat) (h : zH) (a0 : Nat) : Option (Int32 × zH) :=
  zcv h a0 10 51 (F_X11_readPage n h a0 (2 : Int32)) fun _ h1 =>
  zgi h1 a0 10 51 37 fun x2 =>
  if x2 = (0 : Int32) then (
    some ((-103 : Int32), h1)
  ) else (
    zgi h1 a0 10 51 42 fun x3 =>
    zsi h1 a0 10 51 23 x3 fun h4 =>
    F_X11_river_L25 n h4 a0 (0 : Int32)
  )
def F_X11_cupTold_J32 (n : Nat) (h2 : zH) (x1 : Int32) : Option (Int32 × zH) :=
  some (x1, h2)
def F_X11_cupTold (n : Nat) (h : zH) (a0 : Nat) (p0 : Int32) : Option (Int32 × zH) :=
  zgi h a0 10 51 1 fun x5 =>
  if x5 = (0 : Int32) then (
    F_X11_cupTold_J32 n h (-103 : Int32)
  ) else (
    zc (F_X11_within n h p0 (0 : Int32) (5 : Int32)) fun x7 h6 =>
    if x7 = (0 : Int32) then (
      F_X11_cupTold_J32 n h6 (-102 : Int32)
    ) else (
      zgr h6 a0 10 51 0 fun w8 =>
      zai h6 w8 20 p0 fun x9 =>
      F_X11_cupTold_J32 n h6 x9
    )
  )
def F_X11_doing_J74 (n : Nat) (h1 : zH) : Option (Int32 × zH) :=
  some ((-102 : Int32), h1)
def F_X11_doing_J52 (n : Nat) (h8 : zH) (w3 : Nat) (x4 : Int32) (x5 : Int32) (x6 : Int32) (x7 : Int32) : Option (Int32 × zH) :=
  zc (F_X11_within n h8 x4 (0 : Int32) (4 : Int32)) fun x10 h9 =>
  if x10 = (0 : Int32) then (
    F_X11_doing_J74 n h9
  ) else (
    zc (F_X11_within n h9 x5 x6 x7) fun x12 h11 =>
    if x12 = (0 : Int32) then (
      F_X11_doing_J74 n h11
    ) else (
      zgi h11 w3 10 51 5 fun x13 =>
      if x13 = (8 : Int32) then (
        some ((-104 : Int32), h11)
      ) else (
        zgr h11 w3 10 51 6 fun w14 =>
        zgi h11 w3 10 51 5 fun x15 =>
        zti h11 w14 x15 x4 fun h16 =>
        zgr h16 w3 10 51 7 fun w17 =>
        zgi h16 w3 10 51 5 fun x18 =>
        zti h16 w17 x18 x5 fun h19 =>
        zgi h19 w3 10 51 5 fun x20 =>
        zv (x20 + (1 : Int32)) fun x21 =>
        zsi h19 w3 10 51 5 x21 fun h22 =>
        zgi h22 w3 10 51 5 fun x23 =>
        zv (x23 - (1 : Int32)) fun x24 =>
        some (x24, h22)
      )
    )
  )
def F_X11_doing_J30 (n : Nat) (h52 : zH) (w47 : Nat) (x48 : Int32) (x49 : Int32) (x50 : Int32) (x51 : Int32) : Option (Int32 × zH) :=
  if x50 = (0 : Int32) then (
    if x48 = (3 : Int32) then (
      F_X11_doing_J52 n h52 w47 x48 x49 x51 (40 : Int32)
    ) else (
      F_X11_doing_J52 n h52 w47 x48 x49 x51 (0 : Int32)
    )
  ) else (
    F_X11_doing_J52 n h52 w47 x48 x49 x51 (20 : Int32)
  )
def F_X11_doing_J25 (n : Nat) (h63 : zH) (w59 : Nat) (x60 : Int32) (x61 : Int32) (x62 : Int32) : Option (Int32 × zH) :=
  F_X11_doing_J30 n h63 w59 x60 x61 x62 (1 : Int32)
def F_X11_doing_J15 (n : Nat) (h73 : zH) (w69 : Nat) (x70 : Int32) (x71 : Int32) (x72 : Int32) : Option (Int32 × zH) :=
  if x72 = (0 : Int32) then (
    if x70 = (3 : Int32) then (
      F_X11_doing_J25 n h73 w69 x70 x71 x72
    ) else (
      F_X11_doing_J30 n h73 w69 x70 x71 x72 (0 : Int32)
    )
  ) else (
    F_X11_doing_J25 n h73 w69 x70 x71 x72
  )
def F_X11_doing_J10 (n : Nat) (h82 : zH) (w79 : Nat) (x80 : Int32) (x81 : Int32) : Option (Int32 × zH) :=
  F_X11_doing_J15 n h82 w79 x80 x81 (1 : Int32)
def F_X11_doing (n : Nat) (h : zH) (a0 : Nat) (p0 : Int32) (p1 : Int32) : Option (Int32 × zH) :=
  if p0 = (1 : Int32) then (
    F_X11_doing_J10 n h a0 p0 p1
  ) else (
    if p0 = (2 : Int32) then (
      F_X11_doing_J10 n h a0 p0 p1
    ) else (
      F_X11_doing_J15 n h a0 p0 p1 (0 : Int32)
    )
  )
def F_X11_isDoing (n : Nat) (h : zH) (a0 : Nat) (p0 : Int32) : Option (Int32 × zH) :=
  zgi h a0 10 51 5 fun x1 =>
  zv (x1 - (1 : Int32)) fun x2 =>
  zc (F_X11_within n h p0 (0 : Int32) x2) fun x4 h3 =>
  zzr x4 (some (x4, h3))
def F_X11_as_J54 (n : Nat) (h2 : zH) (x1 : Int32) : Option (Int32 × zH) :=
  some (x1, h2)
def F_X11_as_J53 (n : Nat) (h5 : zH) : Option (Int32 × zH) :=
  F_X11_as_J54 n h5 (-1 : Int32)
def F_X11_as_J49 (n : Nat) (h8 : zH) (x7 : Int32) : Option (Int32 × zH) :=
  F_X11_as_J54 n h8 x7
def F_X11_as (n : Nat) (h : zH) (a0 : Nat) (p0 : Int32) (p1 : Int32) : Option (Int32 × zH) :=
  zcv h a0 10 51 (F_X11_isDoing n h a0 p0) fun x12 h11 =>
  if x12 = (0 : Int32) then (
    some ((-101 : Int32), h11)
  ) else (
    zc (F_X11_within n h11 p1 (0 : Int32) (4 : Int32)) fun x14 h13 =>
    if x14 = (0 : Int32) then (
      some ((-102 : Int32), h13)
    ) else (
      zgr h13 a0 10 51 6 fun w15 =>
      zai h13 w15 20 p0 fun x16 =>
      if p1 = (0 : Int32) then (
        F_X11_as_J49 n h13 p0
      ) else (
        if x16 = p1 then (
          F_X11_as_J49 n h13 p0
        ) else (
          if p1 = (1 : Int32) then (
            if x16 = (2 : Int32) then (
              F_X11_as_J49 n h13 p0
            ) else (
              F_X11_as_J53 n h13
            )
          ) else (
            F_X11_as_J53 n h13
          )
        )
      )
    )
  )
def F_X11_isRing_J28 (n : Nat) (h2 : zH) (x1 : Int32) : Option (Int32 × zH) :=
  zzr x1 (some (x1, h2))
def F_X11_isRing_J27 (n : Nat) (h5 : zH) : Option (Int32 × zH) :=
  F_X11_isRing_J28 n h5 (0 : Int32)
def F_X11_isRing (n : Nat) (h : zH) (a0 : Nat) (p0 : Int32) : Option (Int32 × zH) :=
  zgi h a0 10 51 1 fun x7 =>
  if x7 = (0 : Int32) then (
    F_X11_isRing_J27 n h
  ) else (
    zgr h a0 10 51 0 fun w8 =>
    zai h w8 20 (0 : Int32) fun x9 =>
    zv (x9 - (1 : Int32)) fun x10 =>
    zc (F_X11_within n h p0 (0 : Int32) x10) fun x12 h11 =>
    if x12 = (0 : Int32) then (
      F_X11_isRing_J27 n h11
    ) else (
      F_X11_isRing_J28 n h11 (1 : Int32)
    )
  )
def F_X11_isLeaf (n : Nat) (h : zH) (a0 : Nat) (p0 : Int32) : Option (Int32 × zH) :=
  zgi h a0 10 51 8 fun x1 =>
  zv (x1 - (1 : Int32)) fun x2 =>
  zc (F_X11_within n h p0 (0 : Int32) x2) fun x4 h3 =>
  zzr x4 (some (x4, h3))
def F_X11_leaf_J31 (n : Nat) (h1 : zH) : Option (Int32 × zH) :=
  some ((-102 : Int32), h1)
def F_X11_leaf (n : Nat) (h : zH) (a0 : Nat) (p0 : Int32) (p1 : Int32) (p2 : Int32) : Option (Int32 × zH) :=
  zcv h a0 10 51 (F_X11_isRing n h a0 p0) fun x4 h3 =>
  if x4 = (0 : Int32) then (
    some ((-101 : Int32), h3)
  ) else (
    zc (F_X11_within n h3 p1 (0 : Int32) (9 : Int32)) fun x6 h5 =>
    if x6 = (0 : Int32) then (
      F_X11_leaf_J31 n h5
    ) else (
      zc (F_X11_within n h5 p2 (0 : Int32) (9 : Int32)) fun x8 h7 =>
      if x8 = (0 : Int32) then (
        F_X11_leaf_J31 n h7
      ) else (
        zgi h7 a0 10 51 8 fun x9 =>
        if x9 = (8 : Int32) then (
          some ((-104 : Int32), h7)
        ) else (
          zgr h7 a0 10 51 9 fun w10 =>
          zgi h7 a0 10 51 8 fun x11 =>
          zti h7 w10 x11 p0 fun h12 =>
          zgr h12 a0 10 51 10 fun w13 =>
          zgi h12 a0 10 51 8 fun x14 =>
          zti h12 w13 x14 p0 fun h15 =>
          zgr h15 a0 10 51 11 fun w16 =>
          zgi h15 a0 10 51 8 fun x17 =>
          zti h15 w16 x17 p1 fun h18 =>
          zgr h18 a0 10 51 12 fun w19 =>
          zgi h18 a0 10 51 8 fun x20 =>
          zti h18 w19 x20 p2 fun h21 =>
          zgr h21 a0 10 51 13 fun w22 =>
          zgi h21 a0 10 51 8 fun x23 =>
          zti h21 w22 x23 (-1 : Int32) fun h24 =>
          zgi h24 a0 10 51 8 fun x25 =>
          zv (x25 + (1 : Int32)) fun x26 =>
          zsi h24 a0 10 51 8 x26 fun h27 =>
          zgi h27 a0 10 51 8 fun x28 =>
          zv (x28 - (1 : Int32)) fun x29 =>
          some (x29, h27)
        )
      )
    )
  )
def F_X11_loadLive_B2 (n : Nat) (kc2 : zH × Int32 → Option (Unit × zH)) (h3 : zH) (w1 : Nat) (x2 : Int32) : Option (Unit × zH) :=
  if (24 : Int32) ≤ x2 then (
    some ((), h3)
  ) else (
    zgr h3 w1 10 51 4 fun w4 =>
    zgr h3 w1 10 51 3 fun w5 =>
    zai h3 w5 20 x2 fun x6 =>
    zti h3 w4 x2 x6 fun h7 =>
    zv (x2 + (1 : Int32)) fun x8 =>
    kc2 (h7, x8)
  )
def F_X11_loadLive_L2 (n : Nat) (h3 : zH) (w1 : Nat) (x2 : Int32) : Option (Unit × zH) :=
  zloop (fun kc x => F_X11_loadLive_B2 n kc x.1 w1 x.2) n (h3, x2)
def F_X11_loadLive (n : Nat) (h : zH) (a0 : Nat) : Option (Unit × zH) :=
  F_X11_loadLive_L2 n h a0 (0 : Int32)
def F_X11_loadStill_B2 (n : Nat) (kc2 : zH × Int32 → Option (Unit × zH)) (h3 : zH) (w1 : Nat) (x2 : Int32) : Option (Unit × zH) :=
  if (24 : Int32) ≤ x2 then (
    some ((), h3)
  ) else (
    zgr h3 w1 10 51 4 fun w4 =>
    zti h3 w4 x2 (0 : Int32) fun h5 =>
    zv (x2 + (1 : Int32)) fun x6 =>
    kc2 (h5, x6)
  )
def F_X11_loadStill_L2 (n : Nat) (h3 : zH) (w1 : Nat) (x2 : Int32) : Option (Unit × zH) :=
  zloop (fun kc x => F_X11_loadStill_B2 n kc x.1 w1 x.2) n (h3, x2)
def F_X11_loadStill (n : Nat) (h : zH) (a0 : Nat) : Option (Unit × zH) :=
  F_X11_loadStill_L2 n h a0 (0 : Int32)
def F_X11_bounded_J23 (n : Nat) (h2 : zH) (x1 : Int32) : Option (Int32 × zH) :=
  some (x1, h2)
def F_X11_bounded (n : Nat) (h : zH) (a0 : Nat) (p0 : Int32) : Option (Int32 × zH) :=
  if p0 ≤ (99 : Int32) then (
    if (-99 : Int32) ≤ p0 then (
      F_X11_bounded_J23 n h p0
    ) else (
      F_X11_bounded_J23 n h (-99 : Int32)
    )
  ) else (
    F_X11_bounded_J23 n h (99 : Int32)
  )
def F_X11_stir_J122 (n : Nat) (h1 : zH) : Option (Unit × zH) :=
  some ((), h1)
def F_X11_stir_B91 (n : Nat) (kc91 : zH × Int32 → Option (Unit × zH)) (h13 : zH) (w10 : Nat) (x11 : Int32) (x12 : Int32) : Option (Unit × zH) :=
  zgr h13 w10 10 51 0 fun w14 =>
  zai h13 w14 20 (1 : Int32) fun x15 =>
  if x15 ≤ x12 then (
    F_X11_stir_J122 n h13
  ) else (
    if x11 = (4 : Int32) then (
      zgr h13 w10 10 51 4 fun w16 =>
      zai h13 w16 20 x12 fun x17 =>
      zd x17 (2 : Int32) fun x18 =>
      zti h13 w16 x12 x18 fun h19 =>
      zv (x12 + (1 : Int32)) fun x20 =>
      kc91 (h19, x20)
    ) else (
      F_X11_stir_J122 n h13
    )
  )
def F_X11_stir_L91 (n : Nat) (h13 : zH) (w10 : Nat) (x11 : Int32) (x12 : Int32) : Option (Unit × zH) :=
  zloop (fun kc x => F_X11_stir_B91 n kc x.1 w10 x11 x.2) n (h13, x12)
def F_X11_stir_J46 (n : Nat) (kc2 : zH × Int32 → Option (Unit × zH)) (kc15 : zH × Int32 → Option (Unit × zH)) (h45 : zH) (w39 : Nat) (x40 : Int32) (x41 : Int32) (x42 : Int32) (x43 : Int32) (x44 : Int32) : Option (Unit × zH) :=
  zgr h45 w39 10 51 4 fun w46 =>
  zv ((4 : Int32) * x42) fun x47 =>
  zv (x47 + x43) fun x48 =>
  zgr h45 w39 10 51 4 fun w49 =>
  zv ((4 : Int32) * x42) fun x50 =>
  zv (x50 + x43) fun x51 =>
  zai h45 w49 20 x51 fun x52 =>
  zv (x52 + x44) fun x53 =>
  zcv h45 w39 10 51 (F_X11_bounded n h45 w39 x53) fun x55 h54 =>
  zti h54 w46 x48 x55 fun h56 =>
  zv (x43 + (1 : Int32)) fun x57 =>
  kc15 (h56, x57)
def F_X11_stir_B15 (n : Nat) (kc2 : zH × Int32 → Option (Unit × zH)) (kc15 : zH × Int32 → Option (Unit × zH)) (h35 : zH) (w30 : Nat) (x31 : Int32) (x32 : Int32) (x33 : Int32) (x34 : Int32) : Option (Unit × zH) :=
  zgr h35 w30 10 51 0 fun w36 =>
  zai h35 w36 20 (1 : Int32) fun x37 =>
  if x37 ≤ x34 then (
    zv (x33 + (1 : Int32)) fun x38 =>
    kc2 (h35, x38)
  ) else (
    if x31 = (1 : Int32) then (
      F_X11_stir_J46 n kc2 kc15 h35 w30 x31 x32 x33 x34 x32
    ) else (
      if x31 = (2 : Int32) then (
        zv (-x32) fun x58 =>
        F_X11_stir_J46 n kc2 kc15 h35 w30 x31 x32 x33 x34 x58
      ) else (
        F_X11_stir_J46 n kc2 kc15 h35 w30 x31 x32 x33 x34 (0 : Int32)
      )
    )
  )
def F_X11_stir_L15 (n : Nat) (kc2 : zH × Int32 → Option (Unit × zH)) (h35 : zH) (w30 : Nat) (x31 : Int32) (x32 : Int32) (x33 : Int32) (x34 : Int32) : Option (Unit × zH) :=
  zloop (fun kc x => F_X11_stir_B15 n kc2 kc x.1 w30 x31 x32 x33 x.2) n (h35, x34)
def F_X11_stir_B2 (n : Nat) (kc2 : zH × Int32 → Option (Unit × zH)) (h7 : zH) (w3 : Nat) (x4 : Int32) (x5 : Int32) (x6 : Int32) : Option (Unit × zH) :=
  zgr h7 w3 10 51 0 fun w8 =>
  zai h7 w8 20 (0 : Int32) fun x9 =>
  if x9 ≤ x6 then (
    F_X11_stir_L91 n h7 w3 x4 (0 : Int32)
  ) else (
    F_X11_stir_L15 n kc2 h7 w3 x4 x5 x6 (1 : Int32)
  )
def F_X11_stir_L2 (n : Nat) (h7 : zH) (w3 : Nat) (x4 : Int32) (x5 : Int32) (x6 : Int32) : Option (Unit × zH) :=
  zloop (fun kc x => F_X11_stir_B2 n kc x.1 w3 x4 x5 x.2) n (h7, x6)
def F_X11_stir (n : Nat) (h : zH) (a0 : Nat) (p0 : Int32) (p1 : Int32) : Option (Unit × zH) :=
  F_X11_stir_L2 n h a0 p0 p1 (0 : Int32)
def F_X11_dragTo (n : Nat) (h : zH) (a0 : Nat) (p0 : Int32) (p1 : Int32) (p2 : Int32) : Option (Unit × zH) :=
  zgr h a0 10 51 4 fun w1 =>
  zgr h a0 10 51 4 fun w2 =>
  zai h w2 20 p0 fun x3 =>
  zv (x3 - p1) fun x4 =>
  zv ((10 : Int32) - p2) fun x5 =>
  zv (x4 * x5) fun x6 =>
  zd x6 (10 : Int32) fun x7 =>
  zv (p1 + x7) fun x8 =>
  zti h w1 p0 x8 fun h9 =>
  some ((), h9)
def F_X11_goTick_B150 (n : Nat) (kc136 : zH × Int32 → Option (Unit × zH)) (kc150 : zH × Int32 → Option (Unit × zH)) (h20 : zH) (w17 : Nat) (x18 : Int32) (x19 : Int32) : Option (Unit × zH) :=
  zv (x19 + (1 : Int32)) fun x21 =>
  zgr h20 w17 10 51 0 fun w22 =>
  zai h20 w22 20 (1 : Int32) fun x23 =>
  if x23 ≤ x21 then (
    zv (x18 + (1 : Int32)) fun x24 =>
    kc136 (h20, x24)
  ) else (
    zgr h20 w17 10 51 4 fun w25 =>
    zv ((4 : Int32) * x18) fun x26 =>
    zv (x26 + x19) fun x27 =>
    zv (x27 + (1 : Int32)) fun x28 =>
    zai h20 w25 20 x28 fun x29 =>
    zgr h20 w17 10 51 4 fun w30 =>
    zv ((4 : Int32) * x18) fun x31 =>
    zv (x31 + x19) fun x32 =>
    zai h20 w30 20 x32 fun x33 =>
    zv (x29 - x33) fun x34 =>
    zgr h20 w17 10 51 0 fun w35 =>
    zai h20 w35 20 (4 : Int32) fun x36 =>
    zv (x34 * x36) fun x37 =>
    zd x37 (20 : Int32) fun x38 =>
    zgr h20 w17 10 51 4 fun w39 =>
    zv ((4 : Int32) * x18) fun x40 =>
    zv (x40 + x19) fun x41 =>
    zai h20 w39 20 x41 fun x42 =>
    zv (x42 + x38) fun x43 =>
    zti h20 w39 x41 x43 fun h44 =>
    zgr h44 w17 10 51 4 fun w45 =>
    zv ((4 : Int32) * x18) fun x46 =>
    zv (x46 + x19) fun x47 =>
    zv (x47 + (1 : Int32)) fun x48 =>
    zai h44 w45 20 x48 fun x49 =>
    zv (x49 - x38) fun x50 =>
    zti h44 w45 x48 x50 fun h51 =>
    zv (x19 + (1 : Int32)) fun x52 =>
    kc150 (h51, x52)
  )
def F_X11_goTick_L150 (n : Nat) (kc136 : zH × Int32 → Option (Unit × zH)) (h20 : zH) (w17 : Nat) (x18 : Int32) (x19 : Int32) : Option (Unit × zH) :=
  zloop (fun kc x => F_X11_goTick_B150 n kc136 kc x.1 w17 x18 x.2) n (h20, x19)
def F_X11_goTick_B136 (n : Nat) (kc136 : zH × Int32 → Option (Unit × zH)) (h14 : zH) (w12 : Nat) (x13 : Int32) : Option (Unit × zH) :=
  zgr h14 w12 10 51 0 fun w15 =>
  zai h14 w15 20 (0 : Int32) fun x16 =>
  if x16 ≤ x13 then (
    some ((), h14)
  ) else (
    F_X11_goTick_L150 n kc136 h14 w12 x13 (0 : Int32)
  )
def F_X11_goTick_L136 (n : Nat) (h14 : zH) (w12 : Nat) (x13 : Int32) : Option (Unit × zH) :=
  zloop (fun kc x => F_X11_goTick_B136 n kc x.1 w12 x.2) n (h14, x13)
def F_X11_goTick_J124 (n : Nat) (kc84 : zH × Int32 → Option (Unit × zH)) (h138 : zH) (w130 : Nat) (x131 : Int32) (x132 : Int32) (x133 : Int32) (w134 : Nat) (x135 : Int32) (x136 : Int32) (x137 : Int32) : Option (Unit × zH) :=
  zcv h138 w134 10 51 (F_X11_dragTo n h138 w134 x135 x136 x137) fun _ h139 =>
  zv (x133 + (1 : Int32)) fun x140 =>
  kc84 (h139, x140)
def F_X11_goTick_B84 (n : Nat) (kc84 : zH × Int32 → Option (Unit × zH)) (h9 : zH) (w5 : Nat) (x6 : Int32) (x7 : Int32) (x8 : Int32) : Option (Unit × zH) :=
  zgr h9 w5 10 51 0 fun w10 =>
  zai h9 w10 20 (1 : Int32) fun x11 =>
  if x11 ≤ x8 then (
    F_X11_goTick_L136 n h9 w5 (0 : Int32)
  ) else (
    zgr h9 w5 10 51 0 fun w125 =>
    zai h9 w125 20 (0 : Int32) fun x126 =>
    zv (x126 - (1 : Int32)) fun x127 =>
    zv ((4 : Int32) * x127) fun x128 =>
    zv (x128 + x8) fun x129 =>
    if x7 ≤ (10 : Int32) then (
      F_X11_goTick_J124 n kc84 h9 w5 x6 x7 x8 w5 x129 x6 x7
    ) else (
      F_X11_goTick_J124 n kc84 h9 w5 x6 x7 x8 w5 x129 x6 (10 : Int32)
    )
  )
def F_X11_goTick_L84 (n : Nat) (h9 : zH) (w5 : Nat) (x6 : Int32) (x7 : Int32) (x8 : Int32) : Option (Unit × zH) :=
  zloop (fun kc x => F_X11_goTick_B84 n kc x.1 w5 x6 x7 x.2) n (h9, x8)
def F_X11_goTick_J79 (n : Nat) (h4 : zH) (w1 : Nat) (x2 : Int32) (x3 : Int32) : Option (Unit × zH) :=
  F_X11_goTick_L84 n h4 w1 x2 x3 (0 : Int32)
def F_X11_goTick_B20 (n : Nat) (kc20 : zH × Int32 → Option (Unit × zH)) (h261 : zH) (w258 : Nat) (x259 : Int32) (x260 : Int32) : Option (Unit × zH) :=
  zgr h261 w258 10 51 0 fun w262 =>
  zai h261 w262 20 (0 : Int32) fun x263 =>
  if x263 ≤ x260 then (
    zgr h261 w258 10 51 0 fun w264 =>
    zai h261 w264 20 (5 : Int32) fun x265 =>
    if x265 = (1 : Int32) then (
      zgr h261 w258 10 51 0 fun w268 =>
      zai h261 w268 20 (3 : Int32) fun x269 =>
      zv ((2 : Int32) * x269) fun x270 =>
      F_X11_goTick_J79 n h261 w258 x259 x270
    ) else (
      zgr h261 w258 10 51 0 fun w266 =>
      zai h261 w266 20 (3 : Int32) fun x267 =>
      F_X11_goTick_J79 n h261 w258 x259 x267
    )
  ) else (
    zv ((4 : Int32) * x260) fun x271 =>
    zgr h261 w258 10 51 0 fun w272 =>
    zai h261 w272 20 (2 : Int32) fun x273 =>
    zcv h261 w258 10 51 (F_X11_dragTo n h261 w258 x271 x259 x273) fun _ h274 =>
    zv (x260 + (1 : Int32)) fun x275 =>
    kc20 (h274, x275)
  )
def F_X11_goTick_L20 (n : Nat) (h261 : zH) (w258 : Nat) (x259 : Int32) (x260 : Int32) : Option (Unit × zH) :=
  zloop (fun kc x => F_X11_goTick_B20 n kc x.1 w258 x259 x.2) n (h261, x260)
def F_X11_goTick_J16 (n : Nat) (h257 : zH) (w255 : Nat) (x256 : Int32) : Option (Unit × zH) :=
  F_X11_goTick_L20 n h257 w255 x256 (0 : Int32)
def F_X11_goTick (n : Nat) (h : zH) (a0 : Nat) (p0 : Int32) (p1 : Int32) : Option (Unit × zH) :=
  zcv h a0 10 51 (F_X11_stir n h a0 p0 p1) fun _ h311 =>
  if p0 = (3 : Int32) then (
    F_X11_goTick_J16 n h311 a0 p1
  ) else (
    F_X11_goTick_J16 n h311 a0 (0 : Int32)
  )
def F_X11_secondNow_B4 (n : Nat) (kc4 : zH × Int32 × Int32 → Option (Int32 × zH)) (h5 : zH) (w1 : Nat) (x2 : Int32) (x3 : Int32) (x4 : Int32) : Option (Int32 × zH) :=
  zgr h5 w1 10 51 0 fun w6 =>
  zai h5 w6 20 (1 : Int32) fun x7 =>
  if x7 ≤ x4 then (
    zgr h5 w1 10 51 0 fun w8 =>
    zai h5 w8 20 (1 : Int32) fun x9 =>
    zv (x9 - (1 : Int32)) fun x10 =>
    zd x3 x10 fun x11 =>
    zgr h5 w1 10 51 4 fun w12 =>
    zv ((4 : Int32) * x2) fun x13 =>
    zai h5 w12 20 x13 fun x14 =>
    zgr h5 w1 10 51 4 fun w15 =>
    zv ((4 : Int32) * x2) fun x16 =>
    zai h5 w15 20 x16 fun x17 =>
    zv (x14 * x17) fun x18 =>
    zv (x11 - x18) fun x19 =>
    zd x19 (100 : Int32) fun x20 =>
    some (x20, h5)
  ) else (
    zgr h5 w1 10 51 4 fun w21 =>
    zv ((4 : Int32) * x2) fun x22 =>
    zv (x22 + x4) fun x23 =>
    zai h5 w21 20 x23 fun x24 =>
    zgr h5 w1 10 51 4 fun w25 =>
    zv ((4 : Int32) * x2) fun x26 =>
    zv (x26 + x4) fun x27 =>
    zai h5 w25 20 x27 fun x28 =>
    zv (x24 * x28) fun x29 =>
    zv (x3 + x29) fun x30 =>
    zv (x4 + (1 : Int32)) fun x31 =>
    kc4 (h5, x30, x31)
  )
def F_X11_secondNow_L4 (n : Nat) (h5 : zH) (w1 : Nat) (x2 : Int32) (x3 : Int32) (x4 : Int32) : Option (Int32 × zH) :=
  zloop (fun kc x => F_X11_secondNow_B4 n kc x.1 w1 x2 x.2.1 x.2.2) n (h5, x3, x4)
def F_X11_secondNow (n : Nat) (h : zH) (a0 : Nat) (p0 : Int32) : Option (Int32 × zH) :=
  F_X11_secondNow_L4 n h a0 p0 (0 : Int32) (1 : Int32)
def F_X11_pullNow (n : Nat) (h : zH) (a0 : Nat) (p0 : Int32) (p1 : Int32) : Option (Int32 × zH) :=
  zcv h a0 10 51 (F_X11_secondNow n h a0 p0) fun x2 h1 =>
  zgr h1 a0 10 51 4 fun w3 =>
  zv ((4 : Int32) * p0) fun x4 =>
  zai h1 w3 20 x4 fun x5 =>
  zv (p1 * x5) fun x6 =>
  zgr h1 a0 10 51 4 fun w7 =>
  zv ((4 : Int32) * p0) fun x8 =>
  zai h1 w7 20 x8 fun x9 =>
  zv (x6 * x9) fun x10 =>
  zd x10 (1000 : Int32) fun x11 =>
  zv (x2 - x11) fun x12 =>
  some (x12, h1)
def F_X11_moved_J48 (n : Nat) (h2 : zH) (x1 : Int32) : Option (Int32 × zH) :=
  some (x1, h2)
def F_X11_moved_J47 (n : Nat) (h6 : zH) (x5 : Int32) : Option (Int32 × zH) :=
  F_X11_moved_J48 n h6 x5
def F_X11_moved_J22 (n : Nat) (h13 : zH) (w9 : Nat) (x10 : Int32) (x11 : Int32) (x12 : Int32) : Option (Int32 × zH) :=
  zv (-x11) fun x14 =>
  if x14 ≤ x12 then (
    F_X11_moved_J47 n h13 x10
  ) else (
    zgr h13 w9 10 51 0 fun w15 =>
    zai h13 w15 20 (0 : Int32) fun x16 =>
    zv (x16 - (1 : Int32)) fun x17 =>
    if x17 ≤ x10 then (
      F_X11_moved_J47 n h13 x10
    ) else (
      zv (x10 + (1 : Int32)) fun x18 =>
      F_X11_moved_J48 n h13 x18
    )
  )
def F_X11_moved (n : Nat) (h : zH) (a0 : Nat) (p0 : Int32) (p1 : Int32) (p2 : Int32) : Option (Int32 × zH) :=
  zcv h a0 10 51 (F_X11_pullNow n h a0 p0 p1) fun x30 h29 =>
  if x30 ≤ p2 then (
    F_X11_moved_J22 n h29 a0 p0 p2 x30
  ) else (
    if p0 ≤ (0 : Int32) then (
      F_X11_moved_J22 n h29 a0 p0 p2 x30
    ) else (
      zv (p0 - (1 : Int32)) fun x31 =>
      some (x31, h29)
    )
  )
def F_X11_goAll_B18 (n : Nat) (kc3 : zH × Int32 → Option (Unit × zH)) (kc18 : zH × Int32 → Option (Unit × zH)) (h14 : zH) (w8 : Nat) (x9 : Int32) (x10 : Int32) (x11 : Int32) (x12 : Int32) (x13 : Int32) : Option (Unit × zH) :=
  zgi h14 w8 10 51 8 fun x15 =>
  if x15 ≤ x13 then (
    zv (x12 + (1 : Int32)) fun x16 =>
    kc3 (h14, x16)
  ) else (
    zgr h14 w8 10 51 14 fun w17 =>
    zgr h14 w8 10 51 14 fun w18 =>
    zai h14 w18 20 x13 fun x19 =>
    zgr h14 w8 10 51 11 fun w20 =>
    zai h14 w20 20 x13 fun x21 =>
    zgr h14 w8 10 51 12 fun w22 =>
    zai h14 w22 20 x13 fun x23 =>
    zcv h14 w8 10 51 (F_X11_moved n h14 w8 x19 x21 x23) fun x25 h24 =>
    zti h24 w17 x13 x25 fun h26 =>
    zv (x13 + (1 : Int32)) fun x27 =>
    kc18 (h26, x27)
  )
def F_X11_goAll_L18 (n : Nat) (kc3 : zH × Int32 → Option (Unit × zH)) (h14 : zH) (w8 : Nat) (x9 : Int32) (x10 : Int32) (x11 : Int32) (x12 : Int32) (x13 : Int32) : Option (Unit × zH) :=
  zloop (fun kc x => F_X11_goAll_B18 n kc3 kc x.1 w8 x9 x10 x11 x12 x.2) n (h14, x13)
def F_X11_goAll_B3 (n : Nat) (kc3 : zH × Int32 → Option (Unit × zH)) (h6 : zH) (w1 : Nat) (x2 : Int32) (x3 : Int32) (x4 : Int32) (x5 : Int32) : Option (Unit × zH) :=
  if x4 ≤ x5 then (
    some ((), h6)
  ) else (
    zcv h6 w1 10 51 (F_X11_goTick n h6 w1 x2 x3) fun _ h7 =>
    F_X11_goAll_L18 n kc3 h7 w1 x2 x3 x4 x5 (0 : Int32)
  )
def F_X11_goAll_L3 (n : Nat) (h6 : zH) (w1 : Nat) (x2 : Int32) (x3 : Int32) (x4 : Int32) (x5 : Int32) : Option (Unit × zH) :=
  zloop (fun kc x => F_X11_goAll_B3 n kc x.1 w1 x2 x3 x4 x.2) n (h6, x5)
def F_X11_goAll (n : Nat) (h : zH) (a0 : Nat) (p0 : Int32) (p1 : Int32) (p2 : Int32) : Option (Unit × zH) :=
  F_X11_goAll_L3 n h a0 p0 p1 p2 (0 : Int32)
def F_X11_leafTold (n : Nat) (h : zH) (a0 : Nat) (p0 : Int32) (p1 : Int32) : Option (Int32 × zH) :=
  if (p1).toInt < 0 ∨ 4 < (p1).toInt then (
    zgr h a0 10 51 13 fun w1 =>
    zai h w1 20 p0 fun x2 =>
    some (x2, h)
  ) else
  if p1 = (0 : Int32) then (
    zgr h a0 10 51 9 fun w3 =>
    zai h w3 20 p0 fun x4 =>
    some (x4, h)
  ) else
  if p1 = (1 : Int32) then (
    zgr h a0 10 51 10 fun w5 =>
    zai h w5 20 p0 fun x6 =>
    some (x6, h)
  ) else
  if p1 = (2 : Int32) then (
    zgr h a0 10 51 11 fun w7 =>
    zai h w7 20 p0 fun x8 =>
    some (x8, h)
  ) else
  if p1 = (3 : Int32) then (
    zgr h a0 10 51 12 fun w9 =>
    zai h w9 20 p0 fun x10 =>
    some (x10, h)
  ) else
  if p1 = (4 : Int32) then (
    zcv h a0 10 51 (F_X11_loadLive n h a0) fun _ h11 =>
    zgr h11 a0 10 51 9 fun w12 =>
    zai h11 w12 20 p0 fun x13 =>
    zgr h11 a0 10 51 11 fun w14 =>
    zai h11 w14 20 p0 fun x15 =>
    zcv h11 a0 10 51 (F_X11_pullNow n h11 a0 x13 x15) fun x17 h16 =>
    some (x17, h16)
  ) else
  none
def F_X11_about_J31 (n : Nat) (h2 : zH) (x1 : Int32) : Option (Int32 × zH) :=
  some (x1, h2)
def F_X11_about (n : Nat) (h : zH) (a0 : Nat) (p0 : Int32) (p1 : Int32) : Option (Int32 × zH) :=
  zcv h a0 10 51 (F_X11_isLeaf n h a0 p0) fun x6 h5 =>
  if x6 = (0 : Int32) then (
    some ((-101 : Int32), h5)
  ) else (
    zc (F_X11_within n h5 p1 (0 : Int32) (5 : Int32)) fun x8 h7 =>
    if x8 = (0 : Int32) then (
      F_X11_about_J31 n h7 (-102 : Int32)
    ) else (
      zcv h7 a0 10 51 (F_X11_leafTold n h7 a0 p0 p1) fun x10 h9 =>
      F_X11_about_J31 n h9 x10
    )
  )
def F_X11_ticks_J169 (n : Nat) (kc137 : zH × Int32 × Int32 → Option (Int32 × zH)) (h24 : zH) (w20 : Nat) (x21 : Int32) (x22 : Int32) (x23 : Int32) : Option (Int32 × zH) :=
  zv (x22 + x23) fun x25 =>
  zgr h24 w20 10 51 9 fun w26 =>
  zgr h24 w20 10 51 14 fun w27 =>
  zai h24 w27 20 x21 fun x28 =>
  zti h24 w26 x21 x28 fun h29 =>
  zv (x21 + (1 : Int32)) fun x30 =>
  kc137 (h29, x25, x30)
def F_X11_ticks_B137 (n : Nat) (kc137 : zH × Int32 × Int32 → Option (Int32 × zH)) (h14 : zH) (w11 : Nat) (x12 : Int32) (x13 : Int32) : Option (Int32 × zH) :=
  zgi h14 w11 10 51 8 fun x15 =>
  if x15 ≤ x13 then (
    some (x12, h14)
  ) else (
    zgr h14 w11 10 51 14 fun w16 =>
    zai h14 w16 20 x13 fun x17 =>
    zgr h14 w11 10 51 9 fun w18 =>
    zai h14 w18 20 x13 fun x19 =>
    if x17 = x19 then (
      F_X11_ticks_J169 n kc137 h14 w11 x13 x12 (0 : Int32)
    ) else (
      F_X11_ticks_J169 n kc137 h14 w11 x13 x12 (1 : Int32)
    )
  )
def F_X11_ticks_L137 (n : Nat) (h14 : zH) (w11 : Nat) (x12 : Int32) (x13 : Int32) : Option (Int32 × zH) :=
  zloop (fun kc x => F_X11_ticks_B137 n kc x.1 w11 x.2.1 x.2.2) n (h14, x12, x13)
def F_X11_ticks_B108 (n : Nat) (kc108 : zH × Int32 → Option (Int32 × zH)) (h10 : zH) (w8 : Nat) (x9 : Int32) : Option (Int32 × zH) :=
  if (24 : Int32) ≤ x9 then (
    F_X11_ticks_L137 n h10 w8 (0 : Int32) (0 : Int32)
  ) else (
    zgr h10 w8 10 51 3 fun w49 =>
    zgr h10 w8 10 51 4 fun w50 =>
    zai h10 w50 20 x9 fun x51 =>
    zti h10 w49 x9 x51 fun h52 =>
    zv (x9 + (1 : Int32)) fun x53 =>
    kc108 (h52, x53)
  )
def F_X11_ticks_L108 (n : Nat) (h10 : zH) (w8 : Nat) (x9 : Int32) : Option (Int32 × zH) :=
  zloop (fun kc x => F_X11_ticks_B108 n kc x.1 w8 x.2) n (h10, x9)
def F_X11_ticks_J102 (n : Nat) (h6 : zH) (w1 : Nat) (x2 : Int32) (w3 : Nat) (x4 : Int32) (x5 : Int32) : Option (Int32 × zH) :=
  zcv h6 w3 10 51 (F_X11_goAll n h6 w3 x4 x5 x2) fun _ h7 =>
  F_X11_ticks_L108 n h7 w1 (0 : Int32)
def F_X11_ticks_J87 (n : Nat) (h116 : zH) (w111 : Nat) (x112 : Int32) (x113 : Int32) (w114 : Nat) (x115 : Int32) : Option (Int32 × zH) :=
  if x112 = (-1 : Int32) then (
    F_X11_ticks_J102 n h116 w111 x113 w114 x115 (0 : Int32)
  ) else (
    zgr h116 w111 10 51 7 fun w117 =>
    zai h116 w117 20 x112 fun x118 =>
    F_X11_ticks_J102 n h116 w111 x113 w114 x115 x118
  )
def F_X11_ticks_B45 (n : Nat) (kc45 : zH × Int32 → Option (Int32 × zH)) (h139 : zH) (w135 : Nat) (x136 : Int32) (x137 : Int32) (x138 : Int32) : Option (Int32 × zH) :=
  zgi h139 w135 10 51 8 fun x140 =>
  if x140 ≤ x138 then (
    if x136 = (-1 : Int32) then (
      F_X11_ticks_J87 n h139 w135 x136 x137 w135 (0 : Int32)
    ) else (
      zgr h139 w135 10 51 6 fun w141 =>
      zai h139 w141 20 x136 fun x142 =>
      F_X11_ticks_J87 n h139 w135 x136 x137 w135 x142
    )
  ) else (
    zgr h139 w135 10 51 14 fun w143 =>
    zgr h139 w135 10 51 9 fun w144 =>
    zai h139 w144 20 x138 fun x145 =>
    zti h139 w143 x138 x145 fun h146 =>
    zv (x138 + (1 : Int32)) fun x147 =>
    kc45 (h146, x147)
  )
def F_X11_ticks_L45 (n : Nat) (h139 : zH) (w135 : Nat) (x136 : Int32) (x137 : Int32) (x138 : Int32) : Option (Int32 × zH) :=
  zloop (fun kc x => F_X11_ticks_B45 n kc x.1 w135 x136 x137 x.2) n (h139, x138)
def F_X11_ticks_J16 (n : Nat) (h130 : zH) (w127 : Nat) (x128 : Int32) (x129 : Int32) : Option (Int32 × zH) :=
  zgi h130 w127 10 51 1 fun x131 =>
  if x131 = (0 : Int32) then (
    some ((-103 : Int32), h130)
  ) else (
    zc (F_X11_within n h130 x129 (1 : Int32) (100 : Int32)) fun x133 h132 =>
    if x133 = (0 : Int32) then (
      some ((-102 : Int32), h132)
    ) else (
      zcv h132 w127 10 51 (F_X11_loadLive n h132 w127) fun _ h134 =>
      F_X11_ticks_L45 n h134 w127 x128 x129 (0 : Int32)
    )
  )
def F_X11_ticks (n : Nat) (h : zH) (a0 : Nat) (p0 : Int32) (p1 : Int32) : Option (Int32 × zH) :=
  if p0 = (-1 : Int32) then (
    F_X11_ticks_J16 n h a0 p0 p1
  ) else (
    zcv h a0 10 51 (F_X11_isDoing n h a0 p0) fun x177 h176 =>
    if x177 = (0 : Int32) then (
      some ((-101 : Int32), h176)
    ) else (
      F_X11_ticks_J16 n h176 a0 p0 p1
    )
  )
def F_X11_still_B33 (n : Nat) (kc33 : zH × Int32 → Option (Int32 × zH)) (h7 : zH) (w5 : Nat) (x6 : Int32) : Option (Int32 × zH) :=
  zgi h7 w5 10 51 8 fun x8 =>
  if x8 ≤ x6 then (
    some ((1 : Int32), h7)
  ) else (
    zgr h7 w5 10 51 9 fun w9 =>
    zgr h7 w5 10 51 10 fun w10 =>
    zai h7 w10 20 x6 fun x11 =>
    zti h7 w9 x6 x11 fun h12 =>
    zv (x6 + (1 : Int32)) fun x13 =>
    kc33 (h12, x13)
  )
def F_X11_still_L33 (n : Nat) (h7 : zH) (w5 : Nat) (x6 : Int32) : Option (Int32 × zH) :=
  zloop (fun kc x => F_X11_still_B33 n kc x.1 w5 x.2) n (h7, x6)
def F_X11_still_B12 (n : Nat) (kc12 : zH × Int32 → Option (Int32 × zH)) (h4 : zH) (w2 : Nat) (x3 : Int32) : Option (Int32 × zH) :=
  if (24 : Int32) ≤ x3 then (
    F_X11_still_L33 n h4 w2 (0 : Int32)
  ) else (
    zgr h4 w2 10 51 3 fun w22 =>
    zti h4 w22 x3 (0 : Int32) fun h23 =>
    zv (x3 + (1 : Int32)) fun x24 =>
    kc12 (h23, x24)
  )
def F_X11_still_L12 (n : Nat) (h4 : zH) (w2 : Nat) (x3 : Int32) : Option (Int32 × zH) :=
  zloop (fun kc x => F_X11_still_B12 n kc x.1 w2 x.2) n (h4, x3)
def F_X11_still (n : Nat) (h : zH) (a0 : Nat) : Option (Int32 × zH) :=
  zgi h a0 10 51 1 fun x1 =>
  if x1 = (0 : Int32) then (
    some ((-103 : Int32), h)
  ) else (
    F_X11_still_L12 n h a0 (0 : Int32)
  )
def F_X11_round_J40 (n : Nat) (h2 : zH) (x1 : Int32) : Option (Int32 × zH) :=
  some (x1, h2)
def F_X11_round_J37 (n : Nat) (h5 : zH) : Option (Int32 × zH) :=
  F_X11_round_J40 n h5 (-1001 : Int32)
def F_X11_round (n : Nat) (h : zH) (a0 : Nat) (p0 : Int32) (p1 : Int32) : Option (Int32 × zH) :=
  zcv h a0 10 51 (F_X11_isRing n h a0 p0) fun x8 h7 =>
  if x8 = (0 : Int32) then (
    F_X11_round_J37 n h7
  ) else (
    zgr h7 a0 10 51 0 fun w9 =>
    zai h7 w9 20 (1 : Int32) fun x10 =>
    zv (x10 - (1 : Int32)) fun x11 =>
    zc (F_X11_within n h7 p1 (0 : Int32) x11) fun x13 h12 =>
    if x13 = (0 : Int32) then (
      F_X11_round_J37 n h12
    ) else (
      zgr h12 a0 10 51 3 fun w14 =>
      zv ((4 : Int32) * p0) fun x15 =>
      zv (x15 + p1) fun x16 =>
      zai h12 w14 20 x16 fun x17 =>
      F_X11_round_J40 n h12 x17
    )
  )
def F_X11_second (n : Nat) (h : zH) (a0 : Nat) (p0 : Int32) : Option (Int32 × zH) :=
  zcv h a0 10 51 (F_X11_isRing n h a0 p0) fun x2 h1 =>
  if x2 = (0 : Int32) then (
    some ((-1001 : Int32), h1)
  ) else (
    zcv h1 a0 10 51 (F_X11_loadLive n h1 a0) fun _ h3 =>
    zcv h3 a0 10 51 (F_X11_secondNow n h3 a0 p0) fun x5 h4 =>
    some (x5, h4)
  )
def F_X11_would_J16 (n : Nat) (h1 : zH) : Option (Int32 × zH) :=
  some ((-1001 : Int32), h1)
def F_X11_would_B41 (n : Nat) (kc41 : zH × Int32 → Option (Int32 × zH)) (h15 : zH) (w10 : Nat) (x11 : Int32) (x12 : Int32) (x13 : Int32) (x14 : Int32) : Option (Int32 × zH) :=
  if x12 ≤ x14 then (
    zcv h15 w10 10 51 (F_X11_secondNow n h15 w10 x13) fun x17 h16 =>
    some (x17, h16)
  ) else (
    zgr h15 w10 10 51 6 fun w18 =>
    zai h15 w18 20 x11 fun x19 =>
    zgr h15 w10 10 51 7 fun w20 =>
    zai h15 w20 20 x11 fun x21 =>
    zcv h15 w10 10 51 (F_X11_goTick n h15 w10 x19 x21) fun _ h22 =>
    zv (x14 + (1 : Int32)) fun x23 =>
    kc41 (h22, x23)
  )
def F_X11_would_L41 (n : Nat) (h15 : zH) (w10 : Nat) (x11 : Int32) (x12 : Int32) (x13 : Int32) (x14 : Int32) : Option (Int32 × zH) :=
  zloop (fun kc x => F_X11_would_B41 n kc x.1 w10 x11 x12 x13 x.2) n (h15, x14)
def F_X11_would (n : Nat) (h : zH) (a0 : Nat) (p0 : Int32) (p1 : Int32) (p2 : Int32) : Option (Int32 × zH) :=
  zcv h a0 10 51 (F_X11_isDoing n h a0 p0) fun x4 h3 =>
  if x4 = (0 : Int32) then (
    F_X11_would_J16 n h3
  ) else (
    zcv h3 a0 10 51 (F_X11_isRing n h3 a0 p2) fun x6 h5 =>
    if x6 = (0 : Int32) then (
      F_X11_would_J16 n h5
    ) else (
      zc (F_X11_within n h5 p1 (1 : Int32) (100 : Int32)) fun x8 h7 =>
      if x8 = (0 : Int32) then (
        some ((-1002 : Int32), h7)
      ) else (
        zcv h7 a0 10 51 (F_X11_loadStill n h7 a0) fun _ h9 =>
        F_X11_would_L41 n h9 a0 p0 p1 p2 (0 : Int32)
      )
    )
  )
def F_X11_isRow (n : Nat) (h : zH) (a0 : Nat) (p0 : Int32) : Option (Int32 × zH) :=
  zgi h a0 10 51 16 fun x1 =>
  zv (x1 - (1 : Int32)) fun x2 =>
  zc (F_X11_within n h p0 (0 : Int32) x2) fun x4 h3 =>
  zzr x4 (some (x4, h3))
def F_X11_begin_B6 (n : Nat) (kc6 : zH × Int32 → Option (Unit × zH)) (h4 : zH) (w2 : Nat) (x3 : Int32) : Option (Unit × zH) :=
  zgi h4 w2 10 51 8 fun x5 =>
  if x5 ≤ x3 then (
    some ((), h4)
  ) else (
    zgr h4 w2 10 51 14 fun w6 =>
    zgr h4 w2 10 51 10 fun w7 =>
    zai h4 w7 20 x3 fun x8 =>
    zti h4 w6 x3 x8 fun h9 =>
    zv (x3 + (1 : Int32)) fun x10 =>
    kc6 (h9, x10)
  )
def F_X11_begin_L6 (n : Nat) (h4 : zH) (w2 : Nat) (x3 : Int32) : Option (Unit × zH) :=
  zloop (fun kc x => F_X11_begin_B6 n kc x.1 w2 x.2) n (h4, x3)
def F_X11_begin (n : Nat) (h : zH) (a0 : Nat) : Option (Unit × zH) :=
  zcv h a0 10 51 (F_X11_loadStill n h a0) fun _ h1 =>
  F_X11_begin_L6 n h1 a0 (0 : Int32)
def F_X11_itemKind_J28 (n : Nat) (h2 : zH) (x1 : Int32) : Option (Int32 × zH) :=
  some (x1, h2)
def F_X11_itemKind (n : Nat) (h : zH) (a0 : Nat) (p0 : Int32) : Option (Int32 × zH) :=
  zgr h a0 10 51 18 fun w5 =>
  zai h w5 20 p0 fun x6 =>
  zcv h a0 10 51 (F_X11_isDoing n h a0 x6) fun x8 h7 =>
  if x8 = (0 : Int32) then (
    F_X11_itemKind_J28 n h7 (0 : Int32)
  ) else (
    zgr h7 a0 10 51 6 fun w9 =>
    zgr h7 a0 10 51 18 fun w10 =>
    zai h7 w10 20 p0 fun x11 =>
    zai h7 w9 20 x11 fun x12 =>
    F_X11_itemKind_J28 n h7 x12
  )
def F_X11_itemNumber_J28 (n : Nat) (h2 : zH) (x1 : Int32) : Option (Int32 × zH) :=
  some (x1, h2)
def F_X11_itemNumber (n : Nat) (h : zH) (a0 : Nat) (p0 : Int32) : Option (Int32 × zH) :=
  zgr h a0 10 51 18 fun w5 =>
  zai h w5 20 p0 fun x6 =>
  zcv h a0 10 51 (F_X11_isDoing n h a0 x6) fun x8 h7 =>
  if x8 = (0 : Int32) then (
    F_X11_itemNumber_J28 n h7 (0 : Int32)
  ) else (
    zgr h7 a0 10 51 7 fun w9 =>
    zgr h7 a0 10 51 18 fun w10 =>
    zai h7 w10 20 p0 fun x11 =>
    zai h7 w9 20 x11 fun x12 =>
    F_X11_itemNumber_J28 n h7 x12
  )
def F_X11_layRow_B6 (n : Nat) (kc6 : zH × Int32 → Option (Unit × zH)) (h5 : zH) (w2 : Nat) (x3 : Int32) (x4 : Int32) : Option (Unit × zH) :=
  zgr h5 w2 10 51 17 fun w6 =>
  zai h5 w6 20 x3 fun x7 =>
  if x7 ≤ x4 then (
    zcv h5 w2 10 51 (F_X11_goAll n h5 w2 (0 : Int32) (0 : Int32) (60 : Int32)) fun _ h8 =>
    some ((), h8)
  ) else (
    zv ((6 : Int32) * x3) fun x9 =>
    zv (x9 + x4) fun x10 =>
    zcv h5 w2 10 51 (F_X11_itemKind n h5 w2 x10) fun x12 h11 =>
    zv ((6 : Int32) * x3) fun x13 =>
    zv (x13 + x4) fun x14 =>
    zcv h11 w2 10 51 (F_X11_itemNumber n h11 w2 x14) fun x16 h15 =>
    zgr h15 w2 10 51 19 fun w17 =>
    zv ((6 : Int32) * x3) fun x18 =>
    zv (x18 + x4) fun x19 =>
    zai h15 w17 20 x19 fun x20 =>
    zcv h15 w2 10 51 (F_X11_goAll n h15 w2 x12 x16 x20) fun _ h21 =>
    zv (x4 + (1 : Int32)) fun x22 =>
    kc6 (h21, x22)
  )
def F_X11_layRow_L6 (n : Nat) (h5 : zH) (w2 : Nat) (x3 : Int32) (x4 : Int32) : Option (Unit × zH) :=
  zloop (fun kc x => F_X11_layRow_B6 n kc x.1 w2 x3 x.2) n (h5, x4)
def F_X11_layRow (n : Nat) (h : zH) (a0 : Nat) (p0 : Int32) : Option (Unit × zH) :=
  zcv h a0 10 51 (F_X11_begin n h a0) fun _ h1 =>
  F_X11_layRow_L6 n h1 a0 p0 (0 : Int32)
def F_X11_ends_J16 (n : Nat) (h1 : zH) : Option (Int32 × zH) :=
  some ((-101 : Int32), h1)
def F_X11_ends (n : Nat) (h : zH) (a0 : Nat) (p0 : Int32) (p1 : Int32) : Option (Int32 × zH) :=
  zcv h a0 10 51 (F_X11_isRow n h a0 p0) fun x4 h3 =>
  if x4 = (0 : Int32) then (
    F_X11_ends_J16 n h3
  ) else (
    zcv h3 a0 10 51 (F_X11_isLeaf n h3 a0 p1) fun x6 h5 =>
    if x6 = (0 : Int32) then (
      F_X11_ends_J16 n h5
    ) else (
      zcv h5 a0 10 51 (F_X11_layRow n h5 a0 p0) fun _ h7 =>
      zgr h7 a0 10 51 14 fun w8 =>
      zai h7 w8 20 p1 fun x9 =>
      some (x9, h7)
    )
  )
def F_X11_lies_J43 (n : Nat) (h2 : zH) (x1 : Int32) : Option (Int32 × zH) :=
  some (x1, h2)
def F_X11_lies (n : Nat) (h : zH) (a0 : Nat) (p0 : Int32) (p1 : Int32) : Option (Int32 × zH) :=
  zcv h a0 10 51 (F_X11_ends n h a0 p0 p1) fun x6 h5 =>
  if x6 = (-101 : Int32) then (
    F_X11_lies_J43 n h5 (-101 : Int32)
  ) else (
    if x6 = (0 : Int32) then (
      F_X11_lies_J43 n h5 (0 : Int32)
    ) else (
      zgr h5 a0 10 51 0 fun w7 =>
      zai h5 w7 20 (0 : Int32) fun x8 =>
      zv (x8 - (1 : Int32)) fun x9 =>
      if x6 = x9 then (
        F_X11_lies_J43 n h5 (2 : Int32)
      ) else (
        F_X11_lies_J43 n h5 (1 : Int32)
      )
    )
  )
def F_X11_oneEnds_B110 (n : Nat) (kc10 : zH × Int32 × Int32 → Option (Int32 × zH)) (kc110 : zH × Int32 × Int32 → Option (Int32 × zH)) (h72 : zH) (w62 : Nat) (x63 : Int32) (x64 : Int32) (x65 : Int32) (x66 : Int32) (x67 : Int32) (x68 : Int32) (x69 : Int32) (x70 : Int32) (x71 : Int32) : Option (Int32 × zH) :=
  if x70 ≤ x71 then (
    zv (x67 + (1 : Int32)) fun x73 =>
    kc10 (h72, x66, x73)
  ) else (
    zcv h72 w62 10 51 (F_X11_goTick n h72 w62 x68 x69) fun _ h74 =>
    zcv h74 w62 10 51 (F_X11_moved n h74 w62 x66 x64 x65) fun x76 h75 =>
    zv (x71 + (1 : Int32)) fun x77 =>
    kc110 (h75, x76, x77)
  )
def F_X11_oneEnds_L110 (n : Nat) (kc10 : zH × Int32 × Int32 → Option (Int32 × zH)) (h72 : zH) (w62 : Nat) (x63 : Int32) (x64 : Int32) (x65 : Int32) (x66 : Int32) (x67 : Int32) (x68 : Int32) (x69 : Int32) (x70 : Int32) (x71 : Int32) : Option (Int32 × zH) :=
  zloop (fun kc x => F_X11_oneEnds_B110 n kc10 kc x.1 w62 x63 x64 x65 x.2.1 x67 x68 x69 x70 x.2.2) n (h72, x66, x71)
def F_X11_oneEnds_J105 (n : Nat) (kc10 : zH × Int32 × Int32 → Option (Int32 × zH)) (h61 : zH) (w52 : Nat) (x53 : Int32) (x54 : Int32) (x55 : Int32) (x56 : Int32) (x57 : Int32) (x58 : Int32) (x59 : Int32) (x60 : Int32) : Option (Int32 × zH) :=
  F_X11_oneEnds_L110 n kc10 h61 w52 x53 x54 x55 x56 x57 x58 x59 x60 (0 : Int32)
def F_X11_oneEnds_J81 (n : Nat) (kc10 : zH × Int32 × Int32 → Option (Int32 × zH)) (h47 : zH) (w38 : Nat) (x39 : Int32) (x40 : Int32) (x41 : Int32) (x42 : Int32) (x43 : Int32) (x44 : Int32) (x45 : Int32) (x46 : Int32) : Option (Int32 × zH) :=
  if x44 = (0 : Int32) then (
    zgr h47 w38 10 51 19 fun w48 =>
    zv ((6 : Int32) * x39) fun x49 =>
    zv (x49 + x43) fun x50 =>
    zai h47 w48 20 x50 fun x51 =>
    F_X11_oneEnds_J105 n kc10 h47 w38 x39 x40 x41 x42 x43 x45 x46 x51
  ) else (
    F_X11_oneEnds_J105 n kc10 h47 w38 x39 x40 x41 x42 x43 x45 x46 (60 : Int32)
  )
def F_X11_oneEnds_J59 (n : Nat) (kc10 : zH × Int32 × Int32 → Option (Int32 × zH)) (h33 : zH) (w25 : Nat) (x26 : Int32) (x27 : Int32) (x28 : Int32) (x29 : Int32) (x30 : Int32) (x31 : Int32) (x32 : Int32) : Option (Int32 × zH) :=
  if x31 = (0 : Int32) then (
    zv ((6 : Int32) * x26) fun x34 =>
    zv (x34 + x30) fun x35 =>
    zcv h33 w25 10 51 (F_X11_itemNumber n h33 w25 x35) fun x37 h36 =>
    F_X11_oneEnds_J81 n kc10 h36 w25 x26 x27 x28 x29 x30 x31 x32 x37
  ) else (
    F_X11_oneEnds_J81 n kc10 h33 w25 x26 x27 x28 x29 x30 x31 x32 (0 : Int32)
  )
def F_X11_oneEnds_J37 (n : Nat) (kc10 : zH × Int32 × Int32 → Option (Int32 × zH)) (h20 : zH) (w13 : Nat) (x14 : Int32) (x15 : Int32) (x16 : Int32) (x17 : Int32) (x18 : Int32) (x19 : Int32) : Option (Int32 × zH) :=
  if x19 = (0 : Int32) then (
    zv ((6 : Int32) * x14) fun x21 =>
    zv (x21 + x18) fun x22 =>
    zcv h20 w13 10 51 (F_X11_itemKind n h20 w13 x22) fun x24 h23 =>
    F_X11_oneEnds_J59 n kc10 h23 w13 x14 x15 x16 x17 x18 x19 x24
  ) else (
    F_X11_oneEnds_J59 n kc10 h20 w13 x14 x15 x16 x17 x18 x19 (0 : Int32)
  )
def F_X11_oneEnds_B10 (n : Nat) (kc10 : zH × Int32 × Int32 → Option (Int32 × zH)) (h8 : zH) (w2 : Nat) (x3 : Int32) (x4 : Int32) (x5 : Int32) (x6 : Int32) (x7 : Int32) : Option (Int32 × zH) :=
  zgr h8 w2 10 51 17 fun w9 =>
  zai h8 w9 20 x3 fun x10 =>
  if x10 < x7 then (
    some (x6, h8)
  ) else (
    zgr h8 w2 10 51 17 fun w11 =>
    zai h8 w11 20 x3 fun x12 =>
    if x7 = x12 then (
      F_X11_oneEnds_J37 n kc10 h8 w2 x3 x4 x5 x6 x7 (1 : Int32)
    ) else (
      F_X11_oneEnds_J37 n kc10 h8 w2 x3 x4 x5 x6 x7 (0 : Int32)
    )
  )
def F_X11_oneEnds_L10 (n : Nat) (h8 : zH) (w2 : Nat) (x3 : Int32) (x4 : Int32) (x5 : Int32) (x6 : Int32) (x7 : Int32) : Option (Int32 × zH) :=
  zloop (fun kc x => F_X11_oneEnds_B10 n kc x.1 w2 x3 x4 x5 x.2.1 x.2.2) n (h8, x6, x7)
def F_X11_oneEnds (n : Nat) (h : zH) (a0 : Nat) (p0 : Int32) (p1 : Int32) (p2 : Int32) (p3 : Int32) : Option (Int32 × zH) :=
  zcv h a0 10 51 (F_X11_loadStill n h a0) fun _ h1 =>
  F_X11_oneEnds_L10 n h1 a0 p0 p2 p3 p1 (0 : Int32)
def F_X11_line_J16 (n : Nat) (h1 : zH) : Option (Int32 × zH) :=
  some ((-101 : Int32), h1)
def F_X11_line_B35 (n : Nat) (kc35 : zH × Int32 → Option (Int32 × zH)) (h14 : zH) (w9 : Nat) (x10 : Int32) (x11 : Int32) (x12 : Int32) (x13 : Int32) : Option (Int32 × zH) :=
  if (10 : Int32) ≤ x13 then (
    some ((-1 : Int32), h14)
  ) else (
    zcv h14 w9 10 51 (F_X11_oneEnds n h14 w9 x10 x11 x13 x12) fun x16 h15 =>
    if x16 = (0 : Int32) then (
      zv (x13 + (1 : Int32)) fun x17 =>
      kc35 (h15, x17)
    ) else (
      some (x13, h15)
    )
  )
def F_X11_line_L35 (n : Nat) (h14 : zH) (w9 : Nat) (x10 : Int32) (x11 : Int32) (x12 : Int32) (x13 : Int32) : Option (Int32 × zH) :=
  zloop (fun kc x => F_X11_line_B35 n kc x.1 w9 x10 x11 x12 x.2) n (h14, x13)
def F_X11_line (n : Nat) (h : zH) (a0 : Nat) (p0 : Int32) (p1 : Int32) (p2 : Int32) : Option (Int32 × zH) :=
  zcv h a0 10 51 (F_X11_isRow n h a0 p0) fun x4 h3 =>
  if x4 = (0 : Int32) then (
    F_X11_line_J16 n h3
  ) else (
    zcv h3 a0 10 51 (F_X11_isRing n h3 a0 p1) fun x6 h5 =>
    if x6 = (0 : Int32) then (
      F_X11_line_J16 n h5
    ) else (
      zc (F_X11_within n h5 p2 (0 : Int32) (9 : Int32)) fun x8 h7 =>
      if x8 = (0 : Int32) then (
        some ((-102 : Int32), h7)
      ) else (
        F_X11_line_L35 n h7 a0 p0 p1 p2 (0 : Int32)
      )
    )
  )
def F_X11_want (n : Nat) (h : zH) (a0 : Nat) (p0 : Int32) (p1 : Int32) : Option (Int32 × zH) :=
  zcv h a0 10 51 (F_X11_isRing n h a0 p0) fun x2 h1 =>
  if x2 = (0 : Int32) then (
    some ((-101 : Int32), h1)
  ) else (
    zc (F_X11_within n h1 p1 (0 : Int32) (8 : Int32)) fun x4 h3 =>
    if x4 = (0 : Int32) then (
      some ((-102 : Int32), h3)
    ) else (
      zgr h3 a0 10 51 15 fun w5 =>
      zai h3 w5 20 p0 fun x6 =>
      zgr h3 a0 10 51 15 fun w7 =>
      zti h3 w7 p0 p1 fun h8 =>
      some (x6, h8)
    )
  )
def F_X11_offNow_J45 (n : Nat) (kc4 : zH × Int32 × Int32 → Option (Int32 × zH)) (kc19 : zH × Int32 × Int32 → Option (Int32 × zH)) (h29 : zH) (w23 : Nat) (x24 : Int32) (x25 : Int32) (x26 : Int32) (x27 : Int32) (x28 : Int32) : Option (Int32 × zH) :=
  zv (x27 + x28) fun x30 =>
  zv (x26 + (1 : Int32)) fun x31 =>
  kc19 (h29, x30, x31)
def F_X11_offNow_B19 (n : Nat) (kc4 : zH × Int32 × Int32 → Option (Int32 × zH)) (kc19 : zH × Int32 × Int32 → Option (Int32 × zH)) (h12 : zH) (w7 : Nat) (x8 : Int32) (x9 : Int32) (x10 : Int32) (x11 : Int32) : Option (Int32 × zH) :=
  zgi h12 w7 10 51 8 fun x13 =>
  if x13 ≤ x11 then (
    zgr h12 w7 10 51 15 fun w14 =>
    zai h12 w14 20 x9 fun x15 =>
    zv (x10 - x15) fun x16 =>
    zc (F_X11_size n h12 x16) fun x18 h17 =>
    zv (x8 + x18) fun x19 =>
    zv (x9 + (1 : Int32)) fun x20 =>
    kc4 (h17, x19, x20)
  ) else (
    zgr h12 w7 10 51 14 fun w21 =>
    zai h12 w21 20 x11 fun x22 =>
    if x22 = x9 then (
      F_X11_offNow_J45 n kc4 kc19 h12 w7 x8 x9 x11 x10 (1 : Int32)
    ) else (
      F_X11_offNow_J45 n kc4 kc19 h12 w7 x8 x9 x11 x10 (0 : Int32)
    )
  )
def F_X11_offNow_L19 (n : Nat) (kc4 : zH × Int32 × Int32 → Option (Int32 × zH)) (h12 : zH) (w7 : Nat) (x8 : Int32) (x9 : Int32) (x10 : Int32) (x11 : Int32) : Option (Int32 × zH) :=
  zloop (fun kc x => F_X11_offNow_B19 n kc4 kc x.1 w7 x8 x9 x.2.1 x.2.2) n (h12, x10, x11)
def F_X11_offNow_B4 (n : Nat) (kc4 : zH × Int32 × Int32 → Option (Int32 × zH)) (h4 : zH) (w1 : Nat) (x2 : Int32) (x3 : Int32) : Option (Int32 × zH) :=
  zgr h4 w1 10 51 0 fun w5 =>
  zai h4 w5 20 (0 : Int32) fun x6 =>
  if x6 ≤ x3 then (
    some (x2, h4)
  ) else (
    F_X11_offNow_L19 n kc4 h4 w1 x2 x3 (0 : Int32) (0 : Int32)
  )
def F_X11_offNow_L4 (n : Nat) (h4 : zH) (w1 : Nat) (x2 : Int32) (x3 : Int32) : Option (Int32 × zH) :=
  zloop (fun kc x => F_X11_offNow_B4 n kc x.1 w1 x.2.1 x.2.2) n (h4, x2, x3)
def F_X11_offNow (n : Nat) (h : zH) (a0 : Nat) : Option (Int32 × zH) :=
  F_X11_offNow_L4 n h a0 (0 : Int32) (0 : Int32)
def F_X11_off (n : Nat) (h : zH) (a0 : Nat) (p0 : Int32) : Option (Int32 × zH) :=
  zcv h a0 10 51 (F_X11_isRow n h a0 p0) fun x2 h1 =>
  if x2 = (0 : Int32) then (
    some ((-101 : Int32), h1)
  ) else (
    zgi h1 a0 10 51 1 fun x3 =>
    if x3 = (0 : Int32) then (
      some ((-103 : Int32), h1)
    ) else (
      zcv h1 a0 10 51 (F_X11_layRow n h1 a0 p0) fun _ h4 =>
      zcv h4 a0 10 51 (F_X11_offNow n h4 a0) fun x6 h5 =>
      some (x6, h5)
    )
  )
def F_X11_found_J141 (n : Nat) (h2 : zH) (x1 : Int32) : Option (Int32 × zH) :=
  some (x1, h2)
def F_X11_found_J107 (n : Nat) (kc52 : zH × Int32 × Int32 × Int32 → Option (Int32 × zH)) (h36 : zH) (w31 : Nat) (x32 : Int32) (x33 : Int32) (x34 : Int32) (x35 : Int32) : Option (Int32 × zH) :=
  zv (x35 + (1 : Int32)) fun x37 =>
  kc52 (h36, x33, x34, x37)
def F_X11_found_B52 (n : Nat) (kc52 : zH × Int32 × Int32 × Int32 → Option (Int32 × zH)) (h17 : zH) (w12 : Nat) (x13 : Int32) (x14 : Int32) (x15 : Int32) (x16 : Int32) : Option (Int32 × zH) :=
  if (400 : Int32) ≤ x16 then (
    if x13 = (0 : Int32) then (
      zd x14 (20 : Int32) fun x20 =>
      zv (x20 + (1 : Int32)) fun x21 =>
      F_X11_found_J141 n h17 x21
    ) else (
      if x13 = (1 : Int32) then (
        zm x14 (20 : Int32) fun x18 =>
        zv (x18 + (1 : Int32)) fun x19 =>
        F_X11_found_J141 n h17 x19
      ) else (
        F_X11_found_J141 n h17 x15
      )
    )
  ) else (
    zcv h17 w12 10 51 (F_X11_begin n h17 w12) fun _ h22 =>
    zd x16 (20 : Int32) fun x23 =>
    zv (x23 + (1 : Int32)) fun x24 =>
    zm x16 (20 : Int32) fun x25 =>
    zv (x25 + (1 : Int32)) fun x26 =>
    zcv h22 w12 10 51 (F_X11_goAll n h22 w12 (1 : Int32) x24 x26) fun _ h27 =>
    zcv h27 w12 10 51 (F_X11_goAll n h27 w12 (0 : Int32) (0 : Int32) (60 : Int32)) fun _ h28 =>
    zcv h28 w12 10 51 (F_X11_offNow n h28 w12) fun x30 h29 =>
    if x15 ≤ x30 then (
      F_X11_found_J107 n kc52 h29 w12 x13 x14 x15 x16
    ) else (
      zcv h29 w12 10 51 (F_X11_offNow n h29 w12) fun x39 h38 =>
      F_X11_found_J107 n kc52 h38 w12 x13 x16 x39 x16
    )
  )
def F_X11_found_L52 (n : Nat) (h17 : zH) (w12 : Nat) (x13 : Int32) (x14 : Int32) (x15 : Int32) (x16 : Int32) : Option (Int32 × zH) :=
  zloop (fun kc x => F_X11_found_B52 n kc x.1 w12 x13 x.2.1 x.2.2.1 x.2.2.2) n (h17, x14, x15, x16)
def F_X11_found (n : Nat) (h : zH) (a0 : Nat) (p0 : Int32) : Option (Int32 × zH) :=
  zgi h a0 10 51 1 fun x5 =>
  if x5 = (0 : Int32) then (
    some ((-103 : Int32), h)
  ) else (
    zc (F_X11_within n h p0 (0 : Int32) (2 : Int32)) fun x7 h6 =>
    if x7 = (0 : Int32) then (
      some ((-102 : Int32), h6)
    ) else (
      zgi h6 a0 10 51 26 fun x8 =>
      if x8 = (12 : Int32) then (
        some ((-103 : Int32), h6)
      ) else (
        zgi h6 a0 10 51 26 fun x9 =>
        zv (x9 + (1 : Int32)) fun x10 =>
        zsi h6 a0 10 51 26 x10 fun h11 =>
        F_X11_found_L52 n h11 a0 p0 (0 : Int32) (268435456 : Int32) (0 : Int32)
      )
    )
  )
def F_X11_seen_J24 (n : Nat) (h4 : zH) (w1 : Nat) (x2 : Int32) (x3 : Int32) : Option (Int32 × zH) :=
  zgr h4 w1 10 51 13 fun w5 =>
  zai h4 w5 20 x2 fun x6 =>
  zgr h4 w1 10 51 13 fun w7 =>
  zti h4 w7 x2 x3 fun h8 =>
  some (x6, h8)
def F_X11_seen_J21 (n : Nat) (h17 : zH) : Option (Int32 × zH) :=
  some ((-101 : Int32), h17)
def F_X11_seen (n : Nat) (h : zH) (a0 : Nat) (p0 : Int32) (p1 : Int32) : Option (Int32 × zH) :=
  zcv h a0 10 51 (F_X11_isLeaf n h a0 p0) fun x20 h19 =>
  if x20 = (0 : Int32) then (
    F_X11_seen_J21 n h19
  ) else (
    if p1 = (-1 : Int32) then (
      F_X11_seen_J24 n h19 a0 p0 p1
    ) else (
      zcv h19 a0 10 51 (F_X11_isRing n h19 a0 p1) fun x22 h21 =>
      if x22 = (0 : Int32) then (
        F_X11_seen_J21 n h21
      ) else (
        F_X11_seen_J24 n h21 a0 p0 p1
      )
    )
  )
def F_X11_read_J97 (n : Nat) (kc14 : zH × Int32 × Int32 → Option (Int32 × zH)) (h19 : zH) (w15 : Nat) (x16 : Int32) (x17 : Int32) (x18 : Int32) : Option (Int32 × zH) :=
  zv (x17 ||| x18) fun x20 =>
  zv (x16 + (1 : Int32)) fun x21 =>
  kc14 (h19, x20, x21)
def F_X11_read_J78 (n : Nat) (kc14 : zH × Int32 × Int32 → Option (Int32 × zH)) (kc32 : zH × Int32 × Int32 → Option (Int32 × zH)) (h33 : zH) (w28 : Nat) (x29 : Int32) (x30 : Int32) (x31 : Int32) (x32 : Int32) : Option (Int32 × zH) :=
  zv (x31 + (1 : Int32)) fun x34 =>
  kc32 (h33, x32, x34)
def F_X11_read_J77 (n : Nat) (kc14 : zH × Int32 × Int32 → Option (Int32 × zH)) (kc32 : zH × Int32 × Int32 → Option (Int32 × zH)) (h27 : zH) (w23 : Nat) (x24 : Int32) (x25 : Int32) (x26 : Int32) : Option (Int32 × zH) :=
  F_X11_read_J78 n kc14 kc32 h27 w23 x24 x25 x26 (0 : Int32)
def F_X11_read_J73 (n : Nat) (kc14 : zH × Int32 × Int32 → Option (Int32 × zH)) (kc32 : zH × Int32 × Int32 → Option (Int32 × zH)) (h41 : zH) (w37 : Nat) (x38 : Int32) (x39 : Int32) (x40 : Int32) : Option (Int32 × zH) :=
  F_X11_read_J78 n kc14 kc32 h41 w37 x38 x39 x40 (1 : Int32)
def F_X11_read_B32 (n : Nat) (kc14 : zH × Int32 × Int32 → Option (Int32 × zH)) (kc32 : zH × Int32 × Int32 → Option (Int32 × zH)) (h13 : zH) (w8 : Nat) (x9 : Int32) (x10 : Int32) (x11 : Int32) (x12 : Int32) : Option (Int32 × zH) :=
  zgi h13 w8 10 51 8 fun x14 =>
  if x14 ≤ x12 then (
    if x11 = (0 : Int32) then (
      F_X11_read_J97 n kc14 h13 w8 x10 x9 (0 : Int32)
    ) else (
      zv ((1 : Int32) <<< (x10 &&& 31)) fun x22 =>
      F_X11_read_J97 n kc14 h13 w8 x10 x9 x22
    )
  ) else (
    if x11 = (0 : Int32) then (
      F_X11_read_J77 n kc14 kc32 h13 w8 x9 x10 x12
    ) else (
      zgr h13 w8 10 51 13 fun w35 =>
      zai h13 w35 20 x12 fun x36 =>
      if x36 = (-1 : Int32) then (
        F_X11_read_J73 n kc14 kc32 h13 w8 x9 x10 x12
      ) else (
        zgr h13 w8 10 51 13 fun w42 =>
        zai h13 w42 20 x12 fun x43 =>
        zgr h13 w8 10 51 14 fun w44 =>
        zai h13 w44 20 x12 fun x45 =>
        if x43 = x45 then (
          F_X11_read_J73 n kc14 kc32 h13 w8 x9 x10 x12
        ) else (
          F_X11_read_J77 n kc14 kc32 h13 w8 x9 x10 x12
        )
      )
    )
  )
def F_X11_read_L32 (n : Nat) (kc14 : zH × Int32 × Int32 → Option (Int32 × zH)) (h13 : zH) (w8 : Nat) (x9 : Int32) (x10 : Int32) (x11 : Int32) (x12 : Int32) : Option (Int32 × zH) :=
  zloop (fun kc x => F_X11_read_B32 n kc14 kc x.1 w8 x9 x10 x.2.1 x.2.2) n (h13, x11, x12)
def F_X11_read_B14 (n : Nat) (kc14 : zH × Int32 × Int32 → Option (Int32 × zH)) (h5 : zH) (w2 : Nat) (x3 : Int32) (x4 : Int32) : Option (Int32 × zH) :=
  zgi h5 w2 10 51 16 fun x6 =>
  if x6 ≤ x4 then (
    some (x3, h5)
  ) else (
    zcv h5 w2 10 51 (F_X11_layRow n h5 w2 x4) fun _ h7 =>
    F_X11_read_L32 n kc14 h7 w2 x3 x4 (1 : Int32) (0 : Int32)
  )
def F_X11_read_L14 (n : Nat) (h5 : zH) (w2 : Nat) (x3 : Int32) (x4 : Int32) : Option (Int32 × zH) :=
  zloop (fun kc x => F_X11_read_B14 n kc x.1 w2 x.2.1 x.2.2) n (h5, x3, x4)
def F_X11_read (n : Nat) (h : zH) (a0 : Nat) : Option (Int32 × zH) :=
  zgi h a0 10 51 1 fun x1 =>
  if x1 = (0 : Int32) then (
    some ((-103 : Int32), h)
  ) else (
    F_X11_read_L14 n h a0 (0 : Int32) (0 : Int32)
  )
def F_X11_differentNow_B33 (n : Nat) (kc33 : zH × Int32 × Int32 → Option (Int32 × zH)) (h9 : zH) (x6 : Int32) (x7 : Int32) (x8 : Int32) : Option (Int32 × zH) :=
  if (6 : Int32) ≤ x8 then (
    some (x7, h9)
  ) else (
    zv (x6 >>> (x8 &&& 31)) fun x10 =>
    zv (x10 &&& (1 : Int32)) fun x11 =>
    zv (x7 + x11) fun x12 =>
    zv (x8 + (1 : Int32)) fun x13 =>
    kc33 (h9, x12, x13)
  )
def F_X11_differentNow_L33 (n : Nat) (h9 : zH) (x6 : Int32) (x7 : Int32) (x8 : Int32) : Option (Int32 × zH) :=
  zloop (fun kc x => F_X11_differentNow_B33 n kc x.1 x6 x.2.1 x.2.2) n (h9, x7, x8)
def F_X11_differentNow_B4 (n : Nat) (kc4 : zH × Int32 × Int32 → Option (Int32 × zH)) (h4 : zH) (w1 : Nat) (x2 : Int32) (x3 : Int32) : Option (Int32 × zH) :=
  zgi h4 w1 10 51 8 fun x5 =>
  if x5 ≤ x3 then (
    F_X11_differentNow_L33 n h4 x2 (0 : Int32) (0 : Int32)
  ) else (
    zgr h4 w1 10 51 14 fun w21 =>
    zai h4 w21 20 x3 fun x22 =>
    zv ((1 : Int32) <<< (x22 &&& 31)) fun x23 =>
    zv (x2 ||| x23) fun x24 =>
    zv (x3 + (1 : Int32)) fun x25 =>
    kc4 (h4, x24, x25)
  )
def F_X11_differentNow_L4 (n : Nat) (h4 : zH) (w1 : Nat) (x2 : Int32) (x3 : Int32) : Option (Int32 × zH) :=
  zloop (fun kc x => F_X11_differentNow_B4 n kc x.1 w1 x.2.1 x.2.2) n (h4, x2, x3)
def F_X11_differentNow (n : Nat) (h : zH) (a0 : Nat) : Option (Int32 × zH) :=
  F_X11_differentNow_L4 n h a0 (0 : Int32) (0 : Int32)
def F_X11_tells_J59 (n : Nat) (kc16 : zH × Int32 × Int32 × Int32 → Option (Int32 × zH)) (h21 : zH) (w17 : Nat) (x18 : Int32) (x19 : Int32) (x20 : Int32) : Option (Int32 × zH) :=
  zv (x19 + (1 : Int32)) fun x22 =>
  kc16 (h21, x18, x20, x22)
def F_X11_tells_J46 (n : Nat) (kc16 : zH × Int32 × Int32 × Int32 → Option (Int32 × zH)) (h16 : zH) (w11 : Nat) (x12 : Int32) (x13 : Int32) (x14 : Int32) (x15 : Int32) : Option (Int32 × zH) :=
  if x14 ≤ x12 then (
    F_X11_tells_J59 n kc16 h16 w11 x15 x13 x12
  ) else (
    F_X11_tells_J59 n kc16 h16 w11 x15 x13 x14
  )
def F_X11_tells_B16 (n : Nat) (kc16 : zH × Int32 × Int32 × Int32 → Option (Int32 × zH)) (h6 : zH) (w2 : Nat) (x3 : Int32) (x4 : Int32) (x5 : Int32) : Option (Int32 × zH) :=
  zgi h6 w2 10 51 16 fun x7 =>
  if x7 ≤ x5 then (
    some (x3, h6)
  ) else (
    zcv h6 w2 10 51 (F_X11_layRow n h6 w2 x5) fun _ h8 =>
    zcv h8 w2 10 51 (F_X11_differentNow n h8 w2) fun x10 h9 =>
    if x10 ≤ x4 then (
      F_X11_tells_J46 n kc16 h9 w2 x4 x5 x10 x3
    ) else (
      F_X11_tells_J46 n kc16 h9 w2 x4 x5 x10 x5
    )
  )
def F_X11_tells_L16 (n : Nat) (h6 : zH) (w2 : Nat) (x3 : Int32) (x4 : Int32) (x5 : Int32) : Option (Int32 × zH) :=
  zloop (fun kc x => F_X11_tells_B16 n kc x.1 w2 x.2.1 x.2.2.1 x.2.2.2) n (h6, x3, x4, x5)
def F_X11_tells (n : Nat) (h : zH) (a0 : Nat) : Option (Int32 × zH) :=
  zgi h a0 10 51 1 fun x1 =>
  if x1 = (0 : Int32) then (
    some ((-103 : Int32), h)
  ) else (
    F_X11_tells_L16 n h a0 (-1 : Int32) (-1 : Int32) (0 : Int32)
  )
def F_X11_apart_J24 (n : Nat) (h1 : zH) : Option (Int32 × zH) :=
  some ((-101 : Int32), h1)
def F_X11_apart (n : Nat) (h : zH) (a0 : Nat) (p0 : Int32) (p1 : Int32) (p2 : Int32) : Option (Int32 × zH) :=
  zcv h a0 10 51 (F_X11_isRow n h a0 p0) fun x4 h3 =>
  if x4 = (0 : Int32) then (
    F_X11_apart_J24 n h3
  ) else (
    zcv h3 a0 10 51 (F_X11_isLeaf n h3 a0 p1) fun x6 h5 =>
    if x6 = (0 : Int32) then (
      F_X11_apart_J24 n h5
    ) else (
      zcv h5 a0 10 51 (F_X11_isLeaf n h5 a0 p2) fun x8 h7 =>
      if x8 = (0 : Int32) then (
        F_X11_apart_J24 n h7
      ) else (
        zcv h7 a0 10 51 (F_X11_layRow n h7 a0 p0) fun _ h9 =>
        zgr h9 a0 10 51 14 fun w10 =>
        zai h9 w10 20 p1 fun x11 =>
        zgr h9 a0 10 51 14 fun w12 =>
        zai h9 w12 20 p2 fun x13 =>
        zv (x11 - x13) fun x14 =>
        zc (F_X11_size n h9 x14) fun x16 h15 =>
        some (x16, h15)
      )
    )
  )
def F_X11_picture_J22 (n : Nat) (h1 : zH) : Option (Int32 × zH) :=
  some ((-102 : Int32), h1)
def F_X11_picture (n : Nat) (h : zH) (a0 : Nat) (p0 : Int32) (p1 : Int32) : Option (Int32 × zH) :=
  zc (F_X11_within n h p0 (-99 : Int32) (99 : Int32)) fun x4 h3 =>
  if x4 = (0 : Int32) then (
    F_X11_picture_J22 n h3
  ) else (
    zc (F_X11_within n h3 p1 (-99 : Int32) (99 : Int32)) fun x6 h5 =>
    if x6 = (0 : Int32) then (
      F_X11_picture_J22 n h5
    ) else (
      zgi h5 a0 10 51 20 fun x7 =>
      if x7 = (12 : Int32) then (
        some ((-104 : Int32), h5)
      ) else (
        zgr h5 a0 10 51 21 fun w8 =>
        zgi h5 a0 10 51 20 fun x9 =>
        zti h5 w8 x9 p0 fun h10 =>
        zgr h10 a0 10 51 22 fun w11 =>
        zgi h10 a0 10 51 20 fun x12 =>
        zti h10 w11 x12 p1 fun h13 =>
        zgi h13 a0 10 51 20 fun x14 =>
        zv (x14 + (1 : Int32)) fun x15 =>
        zsi h13 a0 10 51 20 x15 fun h16 =>
        zgi h16 a0 10 51 20 fun x17 =>
        some (x17, h16)
      )
    )
  )
def F_X11_drag_J89 (n : Nat) (kc7 : zH × Int32 × Int32 × Int32 → Option (Int32 × zH)) (h24 : zH) (w20 : Nat) (x21 : Int32) (x22 : Int32) (x23 : Int32) : Option (Int32 × zH) :=
  zv (x22 + (1 : Int32)) fun x25 =>
  kc7 (h24, x21, x23, x25)
def F_X11_drag_J76 (n : Nat) (kc7 : zH × Int32 × Int32 × Int32 → Option (Int32 × zH)) (h19 : zH) (w14 : Nat) (x15 : Int32) (x16 : Int32) (x17 : Int32) (x18 : Int32) : Option (Int32 × zH) :=
  if x15 ≤ x17 then (
    F_X11_drag_J89 n kc7 h19 w14 x18 x16 x15
  ) else (
    F_X11_drag_J89 n kc7 h19 w14 x18 x16 x17
  )
def F_X11_drag_B19 (n : Nat) (kc7 : zH × Int32 × Int32 × Int32 → Option (Int32 × zH)) (kc19 : zH × Int32 × Int32 → Option (Int32 × zH)) (h12 : zH) (w6 : Nat) (x7 : Int32) (x8 : Int32) (x9 : Int32) (x10 : Int32) (x11 : Int32) : Option (Int32 × zH) :=
  zgi h12 w6 10 51 20 fun x13 =>
  if x13 ≤ x11 then (
    if x8 ≤ x10 then (
      F_X11_drag_J76 n kc7 h12 w6 x8 x9 x10 x7
    ) else (
      F_X11_drag_J76 n kc7 h12 w6 x8 x9 x10 x9
    )
  ) else (
    zgr h12 w6 10 51 21 fun w26 =>
    zai h12 w26 20 x11 fun x27 =>
    zv ((10 : Int32) - x9) fun x28 =>
    zv (x27 * x28) fun x29 =>
    zd x29 (10 : Int32) fun x30 =>
    zgr h12 w6 10 51 22 fun w31 =>
    zai h12 w31 20 x11 fun x32 =>
    zv (x30 - x32) fun x33 =>
    zc (F_X11_size n h12 x33) fun x35 h34 =>
    zv (x10 + x35) fun x36 =>
    zv (x11 + (1 : Int32)) fun x37 =>
    kc19 (h34, x36, x37)
  )
def F_X11_drag_L19 (n : Nat) (kc7 : zH × Int32 × Int32 × Int32 → Option (Int32 × zH)) (h12 : zH) (w6 : Nat) (x7 : Int32) (x8 : Int32) (x9 : Int32) (x10 : Int32) (x11 : Int32) : Option (Int32 × zH) :=
  zloop (fun kc x => F_X11_drag_B19 n kc7 kc x.1 w6 x7 x8 x9 x.2.1 x.2.2) n (h12, x10, x11)
def F_X11_drag_B7 (n : Nat) (kc7 : zH × Int32 × Int32 × Int32 → Option (Int32 × zH)) (h5 : zH) (w1 : Nat) (x2 : Int32) (x3 : Int32) (x4 : Int32) : Option (Int32 × zH) :=
  if (10 : Int32) ≤ x4 then (
    some (x2, h5)
  ) else (
    F_X11_drag_L19 n kc7 h5 w1 x2 x3 x4 (0 : Int32) (0 : Int32)
  )
def F_X11_drag_L7 (n : Nat) (h5 : zH) (w1 : Nat) (x2 : Int32) (x3 : Int32) (x4 : Int32) : Option (Int32 × zH) :=
  zloop (fun kc x => F_X11_drag_B7 n kc x.1 w1 x.2.1 x.2.2.1 x.2.2.2) n (h5, x2, x3, x4)
def F_X11_drag (n : Nat) (h : zH) (a0 : Nat) : Option (Int32 × zH) :=
  F_X11_drag_L7 n h a0 (0 : Int32) (268435456 : Int32) (0 : Int32)
def F_X11_layBends_B2 (n : Nat) (kc2 : zH × Int32 → Option (Unit × zH)) (h3 : zH) (w1 : Nat) (x2 : Int32) : Option (Unit × zH) :=
  zgi h3 w1 10 51 23 fun x4 =>
  zv (x4 - (1 : Int32)) fun x5 =>
  if x5 ≤ x2 then (
    some ((), h3)
  ) else (
    zgr h3 w1 10 51 46 fun w6 =>
    zgr h3 w1 10 51 45 fun w7 =>
    zai h3 w7 20 x2 fun x8 =>
    zv ((2 : Int32) * x8) fun x9 =>
    zgr h3 w1 10 51 45 fun w10 =>
    zv (x2 - (1 : Int32)) fun x11 =>
    zai h3 w10 20 x11 fun x12 =>
    zv (x9 - x12) fun x13 =>
    zgr h3 w1 10 51 45 fun w14 =>
    zv (x2 + (1 : Int32)) fun x15 =>
    zai h3 w14 20 x15 fun x16 =>
    zv (x13 - x16) fun x17 =>
    zti h3 w6 x2 x17 fun h18 =>
    zv (x2 + (1 : Int32)) fun x19 =>
    kc2 (h18, x19)
  )
def F_X11_layBends_L2 (n : Nat) (h3 : zH) (w1 : Nat) (x2 : Int32) : Option (Unit × zH) :=
  zloop (fun kc x => F_X11_layBends_B2 n kc x.1 w1 x.2) n (h3, x2)
def F_X11_layBends (n : Nat) (h : zH) (a0 : Nat) : Option (Unit × zH) :=
  F_X11_layBends_L2 n h a0 (1 : Int32)
def F_X11_isFree_J22 (n : Nat) (h2 : zH) (x1 : Int32) : Option (Int32 × zH) :=
  zzr x1 (some (x1, h2))
def F_X11_isFree_J21 (n : Nat) (h5 : zH) : Option (Int32 × zH) :=
  F_X11_isFree_J22 n h5 (0 : Int32)
def F_X11_isFree (n : Nat) (h : zH) (a0 : Nat) (p0 : Int32) : Option (Int32 × zH) :=
  zgr h a0 10 51 25 fun w7 =>
  zai h w7 22 p0 fun x8 =>
  if x8 = (0 : Int32) then (
    zgi h a0 10 51 47 fun x9 =>
    if p0 = x9 then (
      F_X11_isFree_J21 n h
    ) else (
      F_X11_isFree_J22 n h (1 : Int32)
    )
  ) else (
    F_X11_isFree_J21 n h
  )
def F_X11_goYear_J242 (n : Nat) (kc88 : zH × Int32 → Option (Unit × zH)) (h54 : zH) (w50 : Nat) (x51 : Int32) (x52 : Int32) (x53 : Int32) : Option (Unit × zH) :=
  zv (x53 + (1 : Int32)) fun x55 =>
  kc88 (h54, x55)
def F_X11_goYear_J239 (n : Nat) (kc88 : zH × Int32 → Option (Unit × zH)) (h77 : zH) (w71 : Nat) (x72 : Int32) (x73 : Int32) (x74 : Int32) (w75 : Nat) (x76 : Int32) : Option (Unit × zH) :=
  zsi h77 w75 10 51 49 x76 fun h78 =>
  F_X11_goYear_J242 n kc88 h78 w71 x72 x73 x74
def F_X11_goYear_J168 (n : Nat) (kc88 : zH × Int32 → Option (Unit × zH)) (h47 : zH) (w42 : Nat) (x43 : Int32) (x44 : Int32) (x45 : Int32) (x46 : Int32) : Option (Unit × zH) :=
  zcv h47 w42 10 51 (F_X11_isFree n h47 w42 x45) fun x49 h48 =>
  if x49 = (0 : Int32) then (
    F_X11_goYear_J242 n kc88 h48 w42 x43 x44 x45
  ) else (
    if x46 = (0 : Int32) then (
      F_X11_goYear_J242 n kc88 h48 w42 x43 x44 x45
    ) else (
      zgr h48 w42 10 51 45 fun w56 =>
      zgr h48 w42 10 51 45 fun w57 =>
      zv (x45 - (1 : Int32)) fun x58 =>
      zai h48 w57 20 x58 fun x59 =>
      zgr h48 w42 10 51 45 fun w60 =>
      zv (x45 + (1 : Int32)) fun x61 =>
      zai h48 w60 20 x61 fun x62 =>
      zv (x59 + x62) fun x63 =>
      zd x63 (2 : Int32) fun x64 =>
      zti h48 w56 x45 x64 fun h65 =>
      zgi h65 w42 10 51 48 fun x66 =>
      zv (x66 + (1 : Int32)) fun x67 =>
      zsi h65 w42 10 51 48 x67 fun h68 =>
      zgi h68 w42 10 51 49 fun x69 =>
      if x69 = (-1 : Int32) then (
        F_X11_goYear_J239 n kc88 h68 w42 x43 x44 x45 w42 x43
      ) else (
        zgi h68 w42 10 51 49 fun x70 =>
        F_X11_goYear_J239 n kc88 h68 w42 x43 x44 x45 w42 x70
      )
    )
  )
def F_X11_goYear_J167 (n : Nat) (kc88 : zH × Int32 → Option (Unit × zH)) (h41 : zH) (w37 : Nat) (x38 : Int32) (x39 : Int32) (x40 : Int32) : Option (Unit × zH) :=
  F_X11_goYear_J168 n kc88 h41 w37 x38 x39 x40 (0 : Int32)
def F_X11_goYear_J163 (n : Nat) (kc88 : zH × Int32 → Option (Unit × zH)) (h84 : zH) (w80 : Nat) (x81 : Int32) (x82 : Int32) (x83 : Int32) : Option (Unit × zH) :=
  F_X11_goYear_J168 n kc88 h84 w80 x81 x82 x83 (1 : Int32)
def F_X11_goYear_J149 (n : Nat) (kc88 : zH × Int32 → Option (Unit × zH)) (h35 : zH) (w29 : Nat) (x30 : Int32) (x31 : Int32) (x32 : Int32) (x33 : Int32) (x34 : Int32) : Option (Unit × zH) :=
  zv (-x31) fun x36 =>
  if x36 ≤ x33 then (
    F_X11_goYear_J167 n kc88 h35 w29 x30 x31 x32
  ) else (
    zv (-x31) fun x79 =>
    if x79 ≤ x34 then (
      F_X11_goYear_J167 n kc88 h35 w29 x30 x31 x32
    ) else (
      F_X11_goYear_J163 n kc88 h35 w29 x30 x31 x32
    )
  )
def F_X11_goYear_B88 (n : Nat) (kc88 : zH × Int32 → Option (Unit × zH)) (h14 : zH) (w10 : Nat) (x11 : Int32) (x12 : Int32) (x13 : Int32) : Option (Unit × zH) :=
  zgi h14 w10 10 51 23 fun x15 =>
  zv (x15 - (1 : Int32)) fun x16 =>
  if x16 ≤ x13 then (
    some ((), h14)
  ) else (
    zgr h14 w10 10 51 45 fun w17 =>
    zai h14 w17 20 x13 fun x18 =>
    zgr h14 w10 10 51 45 fun w19 =>
    zv (x13 - (1 : Int32)) fun x20 =>
    zai h14 w19 20 x20 fun x21 =>
    zv (x18 - x21) fun x22 =>
    zgr h14 w10 10 51 45 fun w23 =>
    zai h14 w23 20 x13 fun x24 =>
    zgr h14 w10 10 51 45 fun w25 =>
    zv (x13 + (1 : Int32)) fun x26 =>
    zai h14 w25 20 x26 fun x27 =>
    zv (x24 - x27) fun x28 =>
    if x22 ≤ x12 then (
      F_X11_goYear_J149 n kc88 h14 w10 x11 x12 x13 x22 x28
    ) else (
      if x12 < x28 then (
        F_X11_goYear_J163 n kc88 h14 w10 x11 x12 x13
      ) else (
        F_X11_goYear_J149 n kc88 h14 w10 x11 x12 x13 x22 x28
      )
    )
  )
def F_X11_goYear_L88 (n : Nat) (h14 : zH) (w10 : Nat) (x11 : Int32) (x12 : Int32) (x13 : Int32) : Option (Unit × zH) :=
  zloop (fun kc x => F_X11_goYear_B88 n kc x.1 w10 x11 x12 x.2) n (h14, x13)
def F_X11_goYear_J79 (n : Nat) (kc7 : zH × Int32 → Option (Unit × zH)) (h146 : zH) (w141 : Nat) (x142 : Int32) (x143 : Int32) (x144 : Int32) (x145 : Int32) : Option (Unit × zH) :=
  zv (x145 + (1 : Int32)) fun x147 =>
  kc7 (h146, x147)
def F_X11_goYear_J78 (n : Nat) (kc7 : zH × Int32 → Option (Unit × zH)) (h164 : zH) (w156 : Nat) (x157 : Int32) (x158 : Int32) (x159 : Int32) (x160 : Int32) (w161 : Nat) (x162 : Int32) (x163 : Int32) : Option (Unit × zH) :=
  zti h164 w161 x162 x163 fun h165 =>
  F_X11_goYear_J79 n kc7 h165 w156 x157 x158 x159 x160
def F_X11_goYear_B7 (n : Nat) (kc7 : zH × Int32 → Option (Unit × zH)) (h7 : zH) (w2 : Nat) (x3 : Int32) (x4 : Int32) (x5 : Int32) (x6 : Int32) : Option (Unit × zH) :=
  zgi h7 w2 10 51 23 fun x8 =>
  zv (x8 - (1 : Int32)) fun x9 =>
  if x9 ≤ x6 then (
    F_X11_goYear_L88 n h7 w2 x3 x5 (1 : Int32)
  ) else (
    zcv h7 w2 10 51 (F_X11_isFree n h7 w2 x6) fun x140 h139 =>
    if x140 = (0 : Int32) then (
      F_X11_goYear_J79 n kc7 h139 w2 x3 x4 x5 x6
    ) else (
      zgr h139 w2 10 51 45 fun w148 =>
      zai h139 w148 20 x6 fun x149 =>
      zgr h139 w2 10 51 46 fun w150 =>
      zai h139 w150 20 x6 fun x151 =>
      zv (x151 * x4) fun x152 =>
      zd x152 (20 : Int32) fun x153 =>
      zv (x149 + x153) fun x154 =>
      zgr h139 w2 10 51 45 fun w155 =>
      if (0 : Int32) ≤ x154 then (
        if x154 ≤ (99 : Int32) then (
          F_X11_goYear_J78 n kc7 h139 w2 x3 x4 x5 x6 w155 x6 x154
        ) else (
          F_X11_goYear_J78 n kc7 h139 w2 x3 x4 x5 x6 w155 x6 (99 : Int32)
        )
      ) else (
        F_X11_goYear_J78 n kc7 h139 w2 x3 x4 x5 x6 w155 x6 (0 : Int32)
      )
    )
  )
def F_X11_goYear_L7 (n : Nat) (h7 : zH) (w2 : Nat) (x3 : Int32) (x4 : Int32) (x5 : Int32) (x6 : Int32) : Option (Unit × zH) :=
  zloop (fun kc x => F_X11_goYear_B7 n kc x.1 w2 x3 x4 x5 x.2) n (h7, x6)
def F_X11_goYear (n : Nat) (h : zH) (a0 : Nat) (p0 : Int32) (p1 : Int32) (p2 : Int32) : Option (Unit × zH) :=
  zcv h a0 10 51 (F_X11_layBends n h a0) fun _ h1 =>
  F_X11_goYear_L7 n h1 a0 p0 p1 p2 (1 : Int32)
def F_X11_layYears_B51 (n : Nat) (kc51 : zH × Int32 → Option (Unit × zH)) (h16 : zH) (w11 : Nat) (x12 : Int32) (x13 : Int32) (x14 : Int32) (x15 : Int32) : Option (Unit × zH) :=
  if x12 ≤ x15 then (
    some ((), h16)
  ) else (
    zcv h16 w11 10 51 (F_X11_goYear n h16 w11 x15 x13 x14) fun _ h17 =>
    zv (x15 + (1 : Int32)) fun x18 =>
    kc51 (h17, x18)
  )
def F_X11_layYears_L51 (n : Nat) (h16 : zH) (w11 : Nat) (x12 : Int32) (x13 : Int32) (x14 : Int32) (x15 : Int32) : Option (Unit × zH) :=
  zloop (fun kc x => F_X11_layYears_B51 n kc x.1 w11 x12 x13 x14 x.2) n (h16, x15)
def F_X11_layYears_B19 (n : Nat) (kc19 : zH × Int32 → Option (Unit × zH)) (h9 : zH) (w4 : Nat) (x5 : Int32) (x6 : Int32) (x7 : Int32) (x8 : Int32) : Option (Unit × zH) :=
  zgi h9 w4 10 51 23 fun x10 =>
  if x10 ≤ x8 then (
    F_X11_layYears_L51 n h9 w4 x5 x6 x7 (0 : Int32)
  ) else (
    zgr h9 w4 10 51 45 fun w23 =>
    zgr h9 w4 10 51 24 fun w24 =>
    zai h9 w24 20 x8 fun x25 =>
    zti h9 w23 x8 x25 fun h26 =>
    zv (x8 + (1 : Int32)) fun x27 =>
    kc19 (h26, x27)
  )
def F_X11_layYears_L19 (n : Nat) (h9 : zH) (w4 : Nat) (x5 : Int32) (x6 : Int32) (x7 : Int32) (x8 : Int32) : Option (Unit × zH) :=
  zloop (fun kc x => F_X11_layYears_B19 n kc x.1 w4 x5 x6 x7 x.2) n (h9, x8)
def F_X11_layYears (n : Nat) (h : zH) (a0 : Nat) (p0 : Int32) (p1 : Int32) (p2 : Int32) (p3 : Int32) : Option (Unit × zH) :=
  zsi h a0 10 51 47 p3 fun h1 =>
  zsi h1 a0 10 51 48 (0 : Int32) fun h2 =>
  zsi h2 a0 10 51 49 (-1 : Int32) fun h3 =>
  F_X11_layYears_L19 n h3 a0 p0 p1 p2 (0 : Int32)
def F_X11_areYears_J35 (n : Nat) (h2 : zH) (x1 : Int32) : Option (Int32 × zH) :=
  zzr x1 (some (x1, h2))
def F_X11_areYears_J34 (n : Nat) (h5 : zH) : Option (Int32 × zH) :=
  F_X11_areYears_J35 n h5 (0 : Int32)
def F_X11_areYears (n : Nat) (h : zH) (p0 : Int32) (p1 : Int32) (p2 : Int32) : Option (Int32 × zH) :=
  zc (F_X11_within n h p0 (0 : Int32) (99 : Int32)) fun x8 h7 =>
  if x8 = (0 : Int32) then (
    F_X11_areYears_J34 n h7
  ) else (
    zc (F_X11_within n h7 p1 (0 : Int32) (9 : Int32)) fun x10 h9 =>
    if x10 = (0 : Int32) then (
      F_X11_areYears_J34 n h9
    ) else (
      zc (F_X11_within n h9 p2 (1 : Int32) (99 : Int32)) fun x12 h11 =>
      if x12 = (0 : Int32) then (
        F_X11_areYears_J34 n h11
      ) else (
        F_X11_areYears_J35 n h11 (1 : Int32)
      )
    )
  )
def F_X11_point (n : Nat) (h : zH) (a0 : Nat) (p0 : Int32) (p1 : Int32) (p2 : Int32) (p3 : Int32) : Option (Int32 × zH) :=
  zgi h a0 10 51 23 fun x1 =>
  zv (x1 - (1 : Int32)) fun x2 =>
  zc (F_X11_within n h p0 (0 : Int32) x2) fun x4 h3 =>
  if x4 = (0 : Int32) then (
    some ((-101 : Int32), h3)
  ) else (
    zc (F_X11_areYears n h3 p1 p2 p3) fun x6 h5 =>
    if x6 = (0 : Int32) then (
      some ((-102 : Int32), h5)
    ) else (
      zcv h5 a0 10 51 (F_X11_layYears n h5 a0 p1 p2 p3 (-1 : Int32)) fun _ h7 =>
      zgr h7 a0 10 51 45 fun w8 =>
      zai h7 w8 20 p0 fun x9 =>
      some (x9, h7)
    )
  )
def F_X11_cuts (n : Nat) (h : zH) (a0 : Nat) (p0 : Int32) (p1 : Int32) (p2 : Int32) : Option (Int32 × zH) :=
  zgi h a0 10 51 23 fun x1 =>
  if x1 = (0 : Int32) then (
    some ((-103 : Int32), h)
  ) else (
    zc (F_X11_areYears n h p0 p1 p2) fun x3 h2 =>
    if x3 = (0 : Int32) then (
      some ((-102 : Int32), h2)
    ) else (
      zcv h2 a0 10 51 (F_X11_layYears n h2 a0 p0 p1 p2 (-1 : Int32)) fun _ h4 =>
      zgi h4 a0 10 51 48 fun x5 =>
      some (x5, h4)
    )
  )
def F_X11_firstCut (n : Nat) (h : zH) (a0 : Nat) (p0 : Int32) (p1 : Int32) : Option (Int32 × zH) :=
  zgi h a0 10 51 23 fun x1 =>
  if x1 = (0 : Int32) then (
    some ((-103 : Int32), h)
  ) else (
    zc (F_X11_areYears n h (0 : Int32) p0 p1) fun x3 h2 =>
    if x3 = (0 : Int32) then (
      some ((-102 : Int32), h2)
    ) else (
      zcv h2 a0 10 51 (F_X11_layYears n h2 a0 (100 : Int32) p0 p1 (-1 : Int32)) fun _ h4 =>
      zgi h4 a0 10 51 49 fun x5 =>
      some (x5, h4)
    )
  )
def F_X11_saves_J188 (n : Nat) (kc34 : zH × Int32 × Int32 × Int32 × Int32 → Option (Int32 × zH)) (h25 : zH) (w17 : Nat) (x18 : Int32) (x19 : Int32) (x20 : Int32) (x21 : Int32) (x22 : Int32) (x23 : Int32) (x24 : Int32) : Option (Int32 × zH) :=
  zv (x24 + (1 : Int32)) fun x26 =>
  kc34 (h25, x21, x22, x23, x26)
def F_X11_saves_J186 (n : Nat) (kc34 : zH × Int32 × Int32 × Int32 × Int32 → Option (Int32 × zH)) (h93 : zH) (w85 : Nat) (x86 : Int32) (x87 : Int32) (x88 : Int32) (x89 : Int32) (x90 : Int32) (x91 : Int32) (x92 : Int32) : Option (Int32 × zH) :=
  F_X11_saves_J188 n kc34 h93 w85 x86 x87 x88 x89 x90 x92 x91
def F_X11_saves_J172 (n : Nat) (kc34 : zH × Int32 × Int32 × Int32 × Int32 → Option (Int32 × zH)) (h84 : zH) (w74 : Nat) (x75 : Int32) (x76 : Int32) (x77 : Int32) (x78 : Int32) (x79 : Int32) (x80 : Int32) (x81 : Int32) (x82 : Int32) (x83 : Int32) : Option (Int32 × zH) :=
  if x82 = (0 : Int32) then (
    F_X11_saves_J186 n kc34 h84 w74 x75 x76 x77 x78 x83 x80 x79
  ) else (
    F_X11_saves_J186 n kc34 h84 w74 x75 x76 x77 x78 x83 x80 x81
  )
def F_X11_saves_J156 (n : Nat) (kc34 : zH × Int32 × Int32 × Int32 × Int32 → Option (Int32 × zH)) (h73 : zH) (w63 : Nat) (x64 : Int32) (x65 : Int32) (x66 : Int32) (x67 : Int32) (x68 : Int32) (x69 : Int32) (x70 : Int32) (x71 : Int32) (x72 : Int32) : Option (Int32 × zH) :=
  if x71 = (0 : Int32) then (
    F_X11_saves_J172 n kc34 h73 w63 x64 x65 x66 x72 x68 x69 x70 x71 x67
  ) else (
    zgi h73 w63 10 51 48 fun x94 =>
    F_X11_saves_J172 n kc34 h73 w63 x64 x65 x66 x72 x68 x69 x70 x71 x94
  )
def F_X11_saves_J142 (n : Nat) (kc34 : zH × Int32 × Int32 × Int32 × Int32 → Option (Int32 × zH)) (h62 : zH) (w52 : Nat) (x53 : Int32) (x54 : Int32) (x55 : Int32) (x56 : Int32) (x57 : Int32) (x58 : Int32) (x59 : Int32) (x60 : Int32) (x61 : Int32) : Option (Int32 × zH) :=
  if x61 = (0 : Int32) then (
    F_X11_saves_J156 n kc34 h62 w52 x53 x54 x55 x57 x58 x59 x60 x61 x56
  ) else (
    F_X11_saves_J156 n kc34 h62 w52 x53 x54 x55 x57 x58 x59 x60 x61 x59
  )
def F_X11_saves_J137 (n : Nat) (kc34 : zH × Int32 × Int32 × Int32 × Int32 → Option (Int32 × zH)) (h51 : zH) (w42 : Nat) (x43 : Int32) (x44 : Int32) (x45 : Int32) (x46 : Int32) (x47 : Int32) (x48 : Int32) (x49 : Int32) (x50 : Int32) : Option (Int32 × zH) :=
  F_X11_saves_J142 n kc34 h51 w42 x43 x44 x45 x46 x47 x48 x49 x50 (1 : Int32)
def F_X11_saves_J141 (n : Nat) (kc34 : zH × Int32 × Int32 × Int32 × Int32 → Option (Int32 × zH)) (h106 : zH) (w97 : Nat) (x98 : Int32) (x99 : Int32) (x100 : Int32) (x101 : Int32) (x102 : Int32) (x103 : Int32) (x104 : Int32) (x105 : Int32) : Option (Int32 × zH) :=
  F_X11_saves_J142 n kc34 h106 w97 x98 x99 x100 x101 x102 x103 x104 x105 (0 : Int32)
def F_X11_saves_B74 (n : Nat) (kc34 : zH × Int32 × Int32 × Int32 × Int32 → Option (Int32 × zH)) (kc74 : zH × Int32 × Int32 → Option (Int32 × zH)) (h39 : zH) (w29 : Nat) (x30 : Int32) (x31 : Int32) (x32 : Int32) (x33 : Int32) (x34 : Int32) (x35 : Int32) (x36 : Int32) (x37 : Int32) (x38 : Int32) : Option (Int32 × zH) :=
  zgi h39 w29 10 51 23 fun x40 =>
  zv (x40 - (1 : Int32)) fun x41 =>
  if x41 ≤ x38 then (
    if x33 = (-1 : Int32) then (
      F_X11_saves_J137 n kc34 h39 w29 x30 x31 x32 x33 x34 x35 x36 x37
    ) else (
      zgi h39 w29 10 51 48 fun x95 =>
      if x95 < x34 then (
        F_X11_saves_J137 n kc34 h39 w29 x30 x31 x32 x33 x34 x35 x36 x37
      ) else (
        zgi h39 w29 10 51 48 fun x96 =>
        if x96 = x34 then (
          if x35 ≤ x37 then (
            F_X11_saves_J141 n kc34 h39 w29 x30 x31 x32 x33 x34 x35 x36 x37
          ) else (
            F_X11_saves_J137 n kc34 h39 w29 x30 x31 x32 x33 x34 x35 x36 x37
          )
        ) else (
          F_X11_saves_J141 n kc34 h39 w29 x30 x31 x32 x33 x34 x35 x36 x37
        )
      )
    )
  ) else (
    zgr h39 w29 10 51 46 fun w107 =>
    zai h39 w107 20 x38 fun x108 =>
    zc (F_X11_size n h39 x108) fun x110 h109 =>
    zv (x37 + x110) fun x111 =>
    zv (x38 + (1 : Int32)) fun x112 =>
    kc74 (h109, x111, x112)
  )
def F_X11_saves_L74 (n : Nat) (kc34 : zH × Int32 × Int32 × Int32 × Int32 → Option (Int32 × zH)) (h39 : zH) (w29 : Nat) (x30 : Int32) (x31 : Int32) (x32 : Int32) (x33 : Int32) (x34 : Int32) (x35 : Int32) (x36 : Int32) (x37 : Int32) (x38 : Int32) : Option (Int32 × zH) :=
  zloop (fun kc x => F_X11_saves_B74 n kc34 kc x.1 w29 x30 x31 x32 x33 x34 x35 x36 x.2.1 x.2.2) n (h39, x37, x38)
def F_X11_saves_B34 (n : Nat) (kc34 : zH × Int32 × Int32 × Int32 × Int32 → Option (Int32 × zH)) (h12 : zH) (w4 : Nat) (x5 : Int32) (x6 : Int32) (x7 : Int32) (x8 : Int32) (x9 : Int32) (x10 : Int32) (x11 : Int32) : Option (Int32 × zH) :=
  zgi h12 w4 10 51 23 fun x13 =>
  zv (x13 - (1 : Int32)) fun x14 =>
  if x14 ≤ x11 then (
    some (x8, h12)
  ) else (
    zgr h12 w4 10 51 25 fun w15 =>
    zai h12 w15 22 x11 fun x16 =>
    if x16 = (0 : Int32) then (
      zcv h12 w4 10 51 (F_X11_layYears n h12 w4 x5 x6 x7 x11) fun _ h27 =>
      zcv h27 w4 10 51 (F_X11_layBends n h27 w4) fun _ h28 =>
      F_X11_saves_L74 n kc34 h28 w4 x5 x6 x7 x8 x9 x10 x11 (0 : Int32) (1 : Int32)
    ) else (
      F_X11_saves_J188 n kc34 h12 w4 x5 x6 x7 x8 x9 x10 x11
    )
  )
def F_X11_saves_L34 (n : Nat) (h12 : zH) (w4 : Nat) (x5 : Int32) (x6 : Int32) (x7 : Int32) (x8 : Int32) (x9 : Int32) (x10 : Int32) (x11 : Int32) : Option (Int32 × zH) :=
  zloop (fun kc x => F_X11_saves_B34 n kc x.1 w4 x5 x6 x7 x.2.1 x.2.2.1 x.2.2.2.1 x.2.2.2.2) n (h12, x8, x9, x10, x11)
def F_X11_saves (n : Nat) (h : zH) (a0 : Nat) (p0 : Int32) (p1 : Int32) (p2 : Int32) : Option (Int32 × zH) :=
  zgi h a0 10 51 23 fun x1 =>
  if x1 = (0 : Int32) then (
    some ((-103 : Int32), h)
  ) else (
    zc (F_X11_areYears n h p0 p1 p2) fun x3 h2 =>
    if x3 = (0 : Int32) then (
      some ((-102 : Int32), h2)
    ) else (
      F_X11_saves_L34 n h2 a0 p0 p1 p2 (-1 : Int32) (0 : Int32) (0 : Int32) (1 : Int32)
    )
  )
def F_X11_image_B99 (n : Nat) (kc99 : zH × Int32 → Option (Int32 × zH)) (h16 : zH) (w14 : Nat) (x15 : Int32) : Option (Int32 × zH) :=
  if (6 : Int32) ≤ x15 then (
    zgi h16 w14 10 51 8 fun x17 =>
    some (x17, h16)
  ) else (
    zgr h16 w14 10 51 35 fun w18 =>
    zgr h16 w14 10 51 15 fun w19 =>
    zai h16 w19 20 x15 fun x20 =>
    zti h16 w18 x15 x20 fun h21 =>
    zv (x15 + (1 : Int32)) fun x22 =>
    kc99 (h21, x22)
  )
def F_X11_image_L99 (n : Nat) (h16 : zH) (w14 : Nat) (x15 : Int32) : Option (Int32 × zH) :=
  zloop (fun kc x => F_X11_image_B99 n kc x.1 w14 x.2) n (h16, x15)
def F_X11_image_B59 (n : Nat) (kc59 : zH × Int32 → Option (Int32 × zH)) (h12 : zH) (w10 : Nat) (x11 : Int32) : Option (Int32 × zH) :=
  zgi h12 w10 10 51 8 fun x13 =>
  if x13 ≤ x11 then (
    F_X11_image_L99 n h12 w10 (0 : Int32)
  ) else (
    zgr h12 w10 10 51 33 fun w31 =>
    zgr h12 w10 10 51 9 fun w32 =>
    zai h12 w32 20 x11 fun x33 =>
    zti h12 w31 x11 x33 fun h34 =>
    zgr h34 w10 10 51 34 fun w35 =>
    zgr h34 w10 10 51 13 fun w36 =>
    zai h34 w36 20 x11 fun x37 =>
    zti h34 w35 x11 x37 fun h38 =>
    zv (x11 + (1 : Int32)) fun x39 =>
    kc59 (h38, x39)
  )
def F_X11_image_L59 (n : Nat) (h12 : zH) (w10 : Nat) (x11 : Int32) : Option (Int32 × zH) :=
  zloop (fun kc x => F_X11_image_B59 n kc x.1 w10 x.2) n (h12, x11)
def F_X11_image_B33 (n : Nat) (kc33 : zH × Int32 → Option (Int32 × zH)) (h9 : zH) (w7 : Nat) (x8 : Int32) : Option (Int32 × zH) :=
  if (24 : Int32) ≤ x8 then (
    F_X11_image_L59 n h9 w7 (0 : Int32)
  ) else (
    zgr h9 w7 10 51 32 fun w60 =>
    zgr h9 w7 10 51 3 fun w61 =>
    zai h9 w61 20 x8 fun x62 =>
    zti h9 w60 x8 x62 fun h63 =>
    zv (x8 + (1 : Int32)) fun x64 =>
    kc33 (h63, x64)
  )
def F_X11_image_L33 (n : Nat) (h9 : zH) (w7 : Nat) (x8 : Int32) : Option (Int32 × zH) :=
  zloop (fun kc x => F_X11_image_B33 n kc x.1 w7 x.2) n (h9, x8)
def F_X11_image (n : Nat) (h : zH) (a0 : Nat) : Option (Int32 × zH) :=
  zgi h a0 10 51 1 fun x1 =>
  if x1 = (0 : Int32) then (
    some ((-103 : Int32), h)
  ) else (
    zsb h a0 10 51 29 (1 : Int32) fun h2 =>
    zgi h2 a0 10 51 2 fun x3 =>
    zsi h2 a0 10 51 30 x3 fun h4 =>
    zgi h4 a0 10 51 8 fun x5 =>
    zsi h4 a0 10 51 31 x5 fun h6 =>
    F_X11_image_L33 n h6 a0 (0 : Int32)
  )
def F_X11_restore_J18 (n : Nat) (h1 : zH) : Option (Int32 × zH) :=
  some ((-103 : Int32), h1)
def F_X11_restore_B89 (n : Nat) (kc89 : zH × Int32 → Option (Int32 × zH)) (h15 : zH) (w13 : Nat) (x14 : Int32) : Option (Int32 × zH) :=
  if (6 : Int32) ≤ x14 then (
    zgi h15 w13 10 51 8 fun x16 =>
    some (x16, h15)
  ) else (
    zgr h15 w13 10 51 15 fun w17 =>
    zgr h15 w13 10 51 35 fun w18 =>
    zai h15 w18 20 x14 fun x19 =>
    zti h15 w17 x14 x19 fun h20 =>
    zv (x14 + (1 : Int32)) fun x21 =>
    kc89 (h20, x21)
  )
def F_X11_restore_L89 (n : Nat) (h15 : zH) (w13 : Nat) (x14 : Int32) : Option (Int32 × zH) :=
  zloop (fun kc x => F_X11_restore_B89 n kc x.1 w13 x.2) n (h15, x14)
def F_X11_restore_B49 (n : Nat) (kc49 : zH × Int32 → Option (Int32 × zH)) (h11 : zH) (w9 : Nat) (x10 : Int32) : Option (Int32 × zH) :=
  zgi h11 w9 10 51 31 fun x12 =>
  if x12 ≤ x10 then (
    F_X11_restore_L89 n h11 w9 (0 : Int32)
  ) else (
    zgr h11 w9 10 51 9 fun w30 =>
    zgr h11 w9 10 51 33 fun w31 =>
    zai h11 w31 20 x10 fun x32 =>
    zti h11 w30 x10 x32 fun h33 =>
    zgr h33 w9 10 51 13 fun w34 =>
    zgr h33 w9 10 51 34 fun w35 =>
    zai h33 w35 20 x10 fun x36 =>
    zti h33 w34 x10 x36 fun h37 =>
    zv (x10 + (1 : Int32)) fun x38 =>
    kc49 (h37, x38)
  )
def F_X11_restore_L49 (n : Nat) (h11 : zH) (w9 : Nat) (x10 : Int32) : Option (Int32 × zH) :=
  zloop (fun kc x => F_X11_restore_B49 n kc x.1 w9 x.2) n (h11, x10)
def F_X11_restore_B23 (n : Nat) (kc23 : zH × Int32 → Option (Int32 × zH)) (h8 : zH) (w6 : Nat) (x7 : Int32) : Option (Int32 × zH) :=
  if (24 : Int32) ≤ x7 then (
    F_X11_restore_L49 n h8 w6 (0 : Int32)
  ) else (
    zgr h8 w6 10 51 3 fun w59 =>
    zgr h8 w6 10 51 32 fun w60 =>
    zai h8 w60 20 x7 fun x61 =>
    zti h8 w59 x7 x61 fun h62 =>
    zv (x7 + (1 : Int32)) fun x63 =>
    kc23 (h62, x63)
  )
def F_X11_restore_L23 (n : Nat) (h8 : zH) (w6 : Nat) (x7 : Int32) : Option (Int32 × zH) :=
  zloop (fun kc x => F_X11_restore_B23 n kc x.1 w6 x.2) n (h8, x7)
def F_X11_restore (n : Nat) (h : zH) (a0 : Nat) : Option (Int32 × zH) :=
  zgi h a0 10 51 29 fun x3 =>
  if x3 = (0 : Int32) then (
    F_X11_restore_J18 n h
  ) else (
    zgi h a0 10 51 30 fun x4 =>
    zgi h a0 10 51 2 fun x5 =>
    if x4 = x5 then (
      F_X11_restore_L23 n h a0 (0 : Int32)
    ) else (
      F_X11_restore_J18 n h
    )
  )
def F_X11_howMany_J69 (n : Nat) (h2 : zH) (x1 : Int32) : Option (Int32 × zH) :=
  some (x1, h2)
def F_X11_howMany (n : Nat) (h : zH) (a0 : Nat) (p0 : Int32) : Option (Int32 × zH) :=
  if (p0).toInt < 0 ∨ 8 < (p0).toInt then (
    some ((-102 : Int32), h)
  ) else
  if p0 = (0 : Int32) then (
    zgi h a0 10 51 1 fun x5 =>
    if x5 = (0 : Int32) then (
      F_X11_howMany_J69 n h (0 : Int32)
    ) else (
      zgr h a0 10 51 0 fun w6 =>
      zai h w6 20 (0 : Int32) fun x7 =>
      F_X11_howMany_J69 n h x7
    )
  ) else
  if p0 = (1 : Int32) then (
    zgi h a0 10 51 5 fun x8 =>
    some (x8, h)
  ) else
  if p0 = (2 : Int32) then (
    zgi h a0 10 51 8 fun x9 =>
    some (x9, h)
  ) else
  if p0 = (3 : Int32) then (
    zgi h a0 10 51 16 fun x10 =>
    some (x10, h)
  ) else
  if p0 = (4 : Int32) then (
    zgi h a0 10 51 20 fun x11 =>
    some (x11, h)
  ) else
  if p0 = (5 : Int32) then (
    zgi h a0 10 51 23 fun x12 =>
    some (x12, h)
  ) else
  if p0 = (6 : Int32) then (
    zgi h a0 10 51 27 fun x13 =>
    some (x13, h)
  ) else
  if p0 = (7 : Int32) then (
    zgi h a0 10 51 2 fun x14 =>
    some (x14, h)
  ) else
  if p0 = (8 : Int32) then (
    zgi h a0 10 51 26 fun x15 =>
    some (x15, h)
  ) else
  none
def F_X11_count (n : Nat) (h : zH) (a0 : Nat) (p0 : Int32) : Option (Int32 × zH) :=
  zcv h a0 10 51 (F_X11_howMany n h a0 p0) fun x2 h1 =>
  some (x2, h1)
def F_X11_mix (n : Nat) (h : zH) (a0 : Nat) (p0 : Int64) : Option (Unit × zH) :=
  zgl h a0 10 51 50 fun j1 =>
  zv ((31 : Int64) * j1) fun j2 =>
  zv (j2 + p0) fun j3 =>
  zsl h a0 10 51 50 j3 fun h4 =>
  some ((), h4)
def F_X11_mixCup_B110 (n : Nat) (kc110 : zH × Int32 → Option (Unit × zH)) (h17 : zH) (w15 : Nat) (x16 : Int32) : Option (Unit × zH) :=
  zgr h17 w15 10 51 0 fun w18 =>
  zai h17 w18 20 (0 : Int32) fun x19 =>
  if x19 ≤ x16 then (
    some ((), h17)
  ) else (
    zgr h17 w15 10 51 15 fun w20 =>
    zai h17 w20 20 x16 fun x21 =>
    zv ((x21).toInt64) fun j22 =>
    zcv h17 w15 10 51 (F_X11_mix n h17 w15 j22) fun _ h23 =>
    zv (x16 + (1 : Int32)) fun x24 =>
    kc110 (h23, x24)
  )
def F_X11_mixCup_L110 (n : Nat) (h17 : zH) (w15 : Nat) (x16 : Int32) : Option (Unit × zH) :=
  zloop (fun kc x => F_X11_mixCup_B110 n kc x.1 w15 x.2) n (h17, x16)
def F_X11_mixCup_B82 (n : Nat) (kc82 : zH × Int32 → Option (Unit × zH)) (h12 : zH) (w10 : Nat) (x11 : Int32) : Option (Unit × zH) :=
  zgr h12 w10 10 51 0 fun w13 =>
  zai h12 w13 20 (0 : Int32) fun x14 =>
  if x14 ≤ x11 then (
    F_X11_mixCup_L110 n h12 w10 (0 : Int32)
  ) else (
    zcv h12 w10 10 51 (F_X11_secondNow n h12 w10 x11) fun x35 h34 =>
    zv ((x35).toInt64) fun j36 =>
    zcv h34 w10 10 51 (F_X11_mix n h34 w10 j36) fun _ h37 =>
    zv (x11 + (1 : Int32)) fun x38 =>
    kc82 (h37, x38)
  )
def F_X11_mixCup_L82 (n : Nat) (h12 : zH) (w10 : Nat) (x11 : Int32) : Option (Unit × zH) :=
  zloop (fun kc x => F_X11_mixCup_B82 n kc x.1 w10 x.2) n (h12, x11)
def F_X11_mixCup_B39 (n : Nat) (kc27 : zH × Int32 → Option (Unit × zH)) (kc39 : zH × Int32 → Option (Unit × zH)) (h60 : zH) (w57 : Nat) (x58 : Int32) (x59 : Int32) : Option (Unit × zH) :=
  zgr h60 w57 10 51 0 fun w61 =>
  zai h60 w61 20 (1 : Int32) fun x62 =>
  if x62 ≤ x59 then (
    zv (x58 + (1 : Int32)) fun x63 =>
    kc27 (h60, x63)
  ) else (
    zgr h60 w57 10 51 3 fun w64 =>
    zv ((4 : Int32) * x58) fun x65 =>
    zv (x65 + x59) fun x66 =>
    zai h60 w64 20 x66 fun x67 =>
    zv ((x67).toInt64) fun j68 =>
    zcv h60 w57 10 51 (F_X11_mix n h60 w57 j68) fun _ h69 =>
    zv (x59 + (1 : Int32)) fun x70 =>
    kc39 (h69, x70)
  )
def F_X11_mixCup_L39 (n : Nat) (kc27 : zH × Int32 → Option (Unit × zH)) (h60 : zH) (w57 : Nat) (x58 : Int32) (x59 : Int32) : Option (Unit × zH) :=
  zloop (fun kc x => F_X11_mixCup_B39 n kc27 kc x.1 w57 x58 x.2) n (h60, x59)
def F_X11_mixCup_B27 (n : Nat) (kc27 : zH × Int32 → Option (Unit × zH)) (h6 : zH) (w4 : Nat) (x5 : Int32) : Option (Unit × zH) :=
  zgr h6 w4 10 51 0 fun w7 =>
  zai h6 w7 20 (0 : Int32) fun x8 =>
  if x8 ≤ x5 then (
    zcv h6 w4 10 51 (F_X11_loadLive n h6 w4) fun _ h9 =>
    F_X11_mixCup_L82 n h9 w4 (0 : Int32)
  ) else (
    F_X11_mixCup_L39 n kc27 h6 w4 x5 (0 : Int32)
  )
def F_X11_mixCup_L27 (n : Nat) (h6 : zH) (w4 : Nat) (x5 : Int32) : Option (Unit × zH) :=
  zloop (fun kc x => F_X11_mixCup_B27 n kc x.1 w4 x.2) n (h6, x5)
def F_X11_mixCup_B2 (n : Nat) (kc2 : zH × Int32 → Option (Unit × zH)) (h3 : zH) (w1 : Nat) (x2 : Int32) : Option (Unit × zH) :=
  if (6 : Int32) ≤ x2 then (
    F_X11_mixCup_L27 n h3 w1 (0 : Int32)
  ) else (
    zgr h3 w1 10 51 0 fun w118 =>
    zai h3 w118 20 x2 fun x119 =>
    zv ((x119).toInt64) fun j120 =>
    zcv h3 w1 10 51 (F_X11_mix n h3 w1 j120) fun _ h121 =>
    zv (x2 + (1 : Int32)) fun x122 =>
    kc2 (h121, x122)
  )
def F_X11_mixCup_L2 (n : Nat) (h3 : zH) (w1 : Nat) (x2 : Int32) : Option (Unit × zH) :=
  zloop (fun kc x => F_X11_mixCup_B2 n kc x.1 w1 x.2) n (h3, x2)
def F_X11_mixCup (n : Nat) (h : zH) (a0 : Nat) : Option (Unit × zH) :=
  F_X11_mixCup_L2 n h a0 (0 : Int32)
def F_X11_mixRow_J100 (n : Nat) (h1 : zH) : Option (Unit × zH) :=
  some ((), h1)
def F_X11_mixRow_B75 (n : Nat) (kc75 : zH × Int32 → Option (Unit × zH)) (h17 : zH) (w15 : Nat) (x16 : Int32) : Option (Unit × zH) :=
  zgi h17 w15 10 51 8 fun x18 =>
  if x18 ≤ x16 then (
    F_X11_mixRow_J100 n h17
  ) else (
    zgr h17 w15 10 51 14 fun w19 =>
    zai h17 w19 20 x16 fun x20 =>
    zv ((x20).toInt64) fun j21 =>
    zcv h17 w15 10 51 (F_X11_mix n h17 w15 j21) fun _ h22 =>
    zv (x16 + (1 : Int32)) fun x23 =>
    kc75 (h22, x23)
  )
def F_X11_mixRow_L75 (n : Nat) (h17 : zH) (w15 : Nat) (x16 : Int32) : Option (Unit × zH) :=
  zloop (fun kc x => F_X11_mixRow_B75 n kc x.1 w15 x.2) n (h17, x16)
def F_X11_mixRow_B13 (n : Nat) (kc13 : zH × Int32 → Option (Unit × zH)) (h10 : zH) (w7 : Nat) (x8 : Int32) (x9 : Int32) : Option (Unit × zH) :=
  zgr h10 w7 10 51 17 fun w11 =>
  zai h10 w11 20 x8 fun x12 =>
  if x12 ≤ x9 then (
    zgi h10 w7 10 51 1 fun x13 =>
    if x13 = (0 : Int32) then (
      F_X11_mixRow_J100 n h10
    ) else (
      zcv h10 w7 10 51 (F_X11_layRow n h10 w7 x8) fun _ h14 =>
      F_X11_mixRow_L75 n h14 w7 (0 : Int32)
    )
  ) else (
    zgr h10 w7 10 51 18 fun w32 =>
    zv ((6 : Int32) * x8) fun x33 =>
    zv (x33 + x9) fun x34 =>
    zai h10 w32 20 x34 fun x35 =>
    zv ((x35).toInt64) fun j36 =>
    zcv h10 w7 10 51 (F_X11_mix n h10 w7 j36) fun _ h37 =>
    zgr h37 w7 10 51 19 fun w38 =>
    zv ((6 : Int32) * x8) fun x39 =>
    zv (x39 + x9) fun x40 =>
    zai h37 w38 20 x40 fun x41 =>
    zv ((x41).toInt64) fun j42 =>
    zcv h37 w7 10 51 (F_X11_mix n h37 w7 j42) fun _ h43 =>
    zv (x9 + (1 : Int32)) fun x44 =>
    kc13 (h43, x44)
  )
def F_X11_mixRow_L13 (n : Nat) (h10 : zH) (w7 : Nat) (x8 : Int32) (x9 : Int32) : Option (Unit × zH) :=
  zloop (fun kc x => F_X11_mixRow_B13 n kc x.1 w7 x8 x.2) n (h10, x9)
def F_X11_mixRow (n : Nat) (h : zH) (a0 : Nat) (p0 : Int32) : Option (Unit × zH) :=
  zgr h a0 10 51 17 fun w3 =>
  zai h w3 20 p0 fun x4 =>
  zv ((x4).toInt64) fun j5 =>
  zcv h a0 10 51 (F_X11_mix n h a0 j5) fun _ h6 =>
  F_X11_mixRow_L13 n h6 a0 p0 (0 : Int32)
def F_X11_digest_B230 (n : Nat) (kc230 : zH × Int32 → Option (Int64 × zH)) (h29 : zH) (w27 : Nat) (x28 : Int32) : Option (Int64 × zH) :=
  if (9 : Int32) ≤ x28 then (
    zgl h29 w27 10 51 50 fun j30 =>
    some (j30, h29)
  ) else (
    zcv h29 w27 10 51 (F_X11_howMany n h29 w27 x28) fun x32 h31 =>
    zv ((x32).toInt64) fun j33 =>
    zcv h31 w27 10 51 (F_X11_mix n h31 w27 j33) fun _ h34 =>
    zv (x28 + (1 : Int32)) fun x35 =>
    kc230 (h34, x35)
  )
def F_X11_digest_L230 (n : Nat) (h29 : zH) (w27 : Nat) (x28 : Int32) : Option (Int64 × zH) :=
  zloop (fun kc x => F_X11_digest_B230 n kc x.1 w27 x.2) n (h29, x28)
def F_X11_digest_B203 (n : Nat) (kc203 : zH × Int32 → Option (Int64 × zH)) (h25 : zH) (w23 : Nat) (x24 : Int32) : Option (Int64 × zH) :=
  zgi h25 w23 10 51 27 fun x26 =>
  if x26 ≤ x24 then (
    F_X11_digest_L230 n h25 w23 (0 : Int32)
  ) else (
    zgr h25 w23 10 51 28 fun w44 =>
    zai h25 w44 21 x24 fun x45 =>
    zv ((x45).toInt64) fun j46 =>
    zcv h25 w23 10 51 (F_X11_mix n h25 w23 j46) fun _ h47 =>
    zv (x24 + (1 : Int32)) fun x48 =>
    kc203 (h47, x48)
  )
def F_X11_digest_L203 (n : Nat) (h25 : zH) (w23 : Nat) (x24 : Int32) : Option (Int64 × zH) :=
  zloop (fun kc x => F_X11_digest_B203 n kc x.1 w23 x.2) n (h25, x24)
def F_X11_digest_J192 (n : Nat) (kc158 : zH × Int32 → Option (Int64 × zH)) (h75 : zH) (w71 : Nat) (x72 : Int32) (w73 : Nat) (j74 : Int64) : Option (Int64 × zH) :=
  zcv h75 w73 10 51 (F_X11_mix n h75 w73 j74) fun _ h76 =>
  zv (x72 + (1 : Int32)) fun x77 =>
  kc158 (h76, x77)
def F_X11_digest_B158 (n : Nat) (kc158 : zH × Int32 → Option (Int64 × zH)) (h21 : zH) (w19 : Nat) (x20 : Int32) : Option (Int64 × zH) :=
  zgi h21 w19 10 51 23 fun x22 =>
  if x22 ≤ x20 then (
    F_X11_digest_L203 n h21 w19 (0 : Int32)
  ) else (
    zgr h21 w19 10 51 24 fun w65 =>
    zai h21 w65 20 x20 fun x66 =>
    zv ((x66).toInt64) fun j67 =>
    zcv h21 w19 10 51 (F_X11_mix n h21 w19 j67) fun _ h68 =>
    zgr h68 w19 10 51 25 fun w69 =>
    zai h68 w69 22 x20 fun x70 =>
    if x70 = (0 : Int32) then (
      F_X11_digest_J192 n kc158 h68 w19 x20 w19 (0 : Int64)
    ) else (
      F_X11_digest_J192 n kc158 h68 w19 x20 w19 (1 : Int64)
    )
  )
def F_X11_digest_L158 (n : Nat) (h21 : zH) (w19 : Nat) (x20 : Int32) : Option (Int64 × zH) :=
  zloop (fun kc x => F_X11_digest_B158 n kc x.1 w19 x.2) n (h21, x20)
def F_X11_digest_B120 (n : Nat) (kc120 : zH × Int32 → Option (Int64 × zH)) (h17 : zH) (w15 : Nat) (x16 : Int32) : Option (Int64 × zH) :=
  zgi h17 w15 10 51 20 fun x18 =>
  if x18 ≤ x16 then (
    F_X11_digest_L158 n h17 w15 (0 : Int32)
  ) else (
    zgr h17 w15 10 51 21 fun w109 =>
    zai h17 w109 20 x16 fun x110 =>
    zv ((x110).toInt64) fun j111 =>
    zcv h17 w15 10 51 (F_X11_mix n h17 w15 j111) fun _ h112 =>
    zgr h112 w15 10 51 22 fun w113 =>
    zai h112 w113 20 x16 fun x114 =>
    zv ((x114).toInt64) fun j115 =>
    zcv h112 w15 10 51 (F_X11_mix n h112 w15 j115) fun _ h116 =>
    zv (x16 + (1 : Int32)) fun x117 =>
    kc120 (h116, x117)
  )
def F_X11_digest_L120 (n : Nat) (h17 : zH) (w15 : Nat) (x16 : Int32) : Option (Int64 × zH) :=
  zloop (fun kc x => F_X11_digest_B120 n kc x.1 w15 x.2) n (h17, x16)
def F_X11_digest_B99 (n : Nat) (kc99 : zH × Int32 → Option (Int64 × zH)) (h13 : zH) (w11 : Nat) (x12 : Int32) : Option (Int64 × zH) :=
  zgi h13 w11 10 51 16 fun x14 =>
  if x14 ≤ x12 then (
    F_X11_digest_L120 n h13 w11 (0 : Int32)
  ) else (
    zcv h13 w11 10 51 (F_X11_mixRow n h13 w11 x12) fun _ h161 =>
    zv (x12 + (1 : Int32)) fun x162 =>
    kc99 (h161, x162)
  )
def F_X11_digest_L99 (n : Nat) (h13 : zH) (w11 : Nat) (x12 : Int32) : Option (Int64 × zH) :=
  zloop (fun kc x => F_X11_digest_B99 n kc x.1 w11 x.2) n (h13, x12)
def F_X11_digest_B68 (n : Nat) (kc58 : zH × Int32 → Option (Int64 × zH)) (kc68 : zH × Int32 → Option (Int64 × zH)) (h214 : zH) (w211 : Nat) (x212 : Int32) (x213 : Int32) : Option (Int64 × zH) :=
  if (6 : Int32) ≤ x213 then (
    zv (x212 + (1 : Int32)) fun x215 =>
    kc58 (h214, x215)
  ) else (
    zcv h214 w211 10 51 (F_X11_leafTold n h214 w211 x212 x213) fun x217 h216 =>
    zv ((x217).toInt64) fun j218 =>
    zcv h216 w211 10 51 (F_X11_mix n h216 w211 j218) fun _ h219 =>
    zv (x213 + (1 : Int32)) fun x220 =>
    kc68 (h219, x220)
  )
def F_X11_digest_L68 (n : Nat) (kc58 : zH × Int32 → Option (Int64 × zH)) (h214 : zH) (w211 : Nat) (x212 : Int32) (x213 : Int32) : Option (Int64 × zH) :=
  zloop (fun kc x => F_X11_digest_B68 n kc58 kc x.1 w211 x212 x.2) n (h214, x213)
def F_X11_digest_B58 (n : Nat) (kc58 : zH × Int32 → Option (Int64 × zH)) (h9 : zH) (w7 : Nat) (x8 : Int32) : Option (Int64 × zH) :=
  zgi h9 w7 10 51 8 fun x10 =>
  if x10 ≤ x8 then (
    F_X11_digest_L99 n h9 w7 (0 : Int32)
  ) else (
    F_X11_digest_L68 n kc58 h9 w7 x8 (0 : Int32)
  )
def F_X11_digest_L58 (n : Nat) (h9 : zH) (w7 : Nat) (x8 : Int32) : Option (Int64 × zH) :=
  zloop (fun kc x => F_X11_digest_B58 n kc x.1 w7 x.2) n (h9, x8)
def F_X11_digest_B20 (n : Nat) (kc20 : zH × Int32 → Option (Int64 × zH)) (h5 : zH) (w3 : Nat) (x4 : Int32) : Option (Int64 × zH) :=
  zgi h5 w3 10 51 5 fun x6 =>
  if x6 ≤ x4 then (
    F_X11_digest_L58 n h5 w3 (0 : Int32)
  ) else (
    zgr h5 w3 10 51 6 fun w288 =>
    zai h5 w288 20 x4 fun x289 =>
    zv ((x289).toInt64) fun j290 =>
    zcv h5 w3 10 51 (F_X11_mix n h5 w3 j290) fun _ h291 =>
    zgr h291 w3 10 51 7 fun w292 =>
    zai h291 w292 20 x4 fun x293 =>
    zv ((x293).toInt64) fun j294 =>
    zcv h291 w3 10 51 (F_X11_mix n h291 w3 j294) fun _ h295 =>
    zv (x4 + (1 : Int32)) fun x296 =>
    kc20 (h295, x296)
  )
def F_X11_digest_L20 (n : Nat) (h5 : zH) (w3 : Nat) (x4 : Int32) : Option (Int64 × zH) :=
  zloop (fun kc x => F_X11_digest_B20 n kc x.1 w3 x.2) n (h5, x4)
def F_X11_digest_J18 (n : Nat) (h2 : zH) (w1 : Nat) : Option (Int64 × zH) :=
  F_X11_digest_L20 n h2 w1 (0 : Int32)
def F_X11_digest (n : Nat) (h : zH) (a0 : Nat) : Option (Int64 × zH) :=
  zsl h a0 10 51 50 (443 : Int64) fun h441 =>
  zgi h441 a0 10 51 1 fun x442 =>
  if x442 = (0 : Int32) then (
    F_X11_digest_J18 n h441 a0
  ) else (
    zcv h441 a0 10 51 (F_X11_mixCup n h441 a0) fun _ h443 =>
    F_X11_digest_J18 n h443 a0
  )
