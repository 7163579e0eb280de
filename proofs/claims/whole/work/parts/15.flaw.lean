def F_L_law_J1201 (n : Nat) (xs : Nat → Int32) (L : Nat) (kc18 : zH × Int32 × Nat → Option Unit) (gn : Nat) (h18 : zH) (w15 : Nat) (w16 : Nat) (x17 : Int32) : Option Unit :=
  zv (x17 + (5 : Int32)) fun x19 =>
  kc18 (h18, x19, gn + 1)
def F_L_law_B18 (n : Nat) (xs : Nat → Int32) (L : Nat) (kc18 : zH × Int32 × Nat → Option Unit) (gn : Nat) (h10 : zH) (w7 : Nat) (w8 : Nat) (x9 : Int32) : Option Unit :=
  if gn < 513 then (
    zv (Int32.ofNat L) fun x11 =>
    zv (x11 - (5 : Int32)) fun x12 =>
    if x12 < x9 then (
      some ()
    ) else (
      zsx xs L x9 fun x13 =>
      zv (x13 &&& (63 : Int32)) fun x14 =>
      if (x14).toInt < 0 ∨ 35 < (x14).toInt then (
        F_L_law_J1201 n xs L kc18 gn h10 w7 w8 x9
      ) else
      if x14 = (0 : Int32) then (
        zv (x9 + (1 : Int32)) fun x20 =>
        zsx xs L x20 fun x21 =>
        zv ((x21).toInt64) fun j22 =>
        zv (j22 <<< (((32 : Int32)).toInt64 &&& 63)) fun j23 =>
        zv (x9 + (2 : Int32)) fun x24 =>
        zsx xs L x24 fun x25 =>
        zv ((x25).toInt64) fun j26 =>
        zv (j26 &&& (4294967295 : Int64)) fun j27 =>
        zv (j23 ||| j27) fun j28 =>
        zcv h10 w7 9 20 (F_X10_letters n h10 w7 j28) fun x30 h29 =>
        zv (x9 + (1 : Int32)) fun x31 =>
        zsx xs L x31 fun x32 =>
        zv ((x32).toInt64) fun j33 =>
        zv (j33 <<< (((32 : Int32)).toInt64 &&& 63)) fun j34 =>
        zv (x9 + (2 : Int32)) fun x35 =>
        zsx xs L x35 fun x36 =>
        zv ((x36).toInt64) fun j37 =>
        zv (j37 &&& (4294967295 : Int64)) fun j38 =>
        zv (j34 ||| j38) fun j39 =>
        zcv h29 w8 10 51 (F_X11_letters n h29 w8 j39) fun x41 h40 =>
        if x30 = x41 then (
          F_L_law_J1201 n xs L kc18 gn h40 w7 w8 x9
        ) else (
          none
        )
      ) else
      if x14 = (1 : Int32) then (
        zcv h10 w7 9 20 (F_X10_blank n h10 w7) fun x43 h42 =>
        zcv h42 w8 10 51 (F_X11_blank n h42 w8) fun x45 h44 =>
        if x43 = x45 then (
          F_L_law_J1201 n xs L kc18 gn h44 w7 w8 x9
        ) else (
          none
        )
      ) else
      if x14 = (2 : Int32) then (
        zv (x9 + (1 : Int32)) fun x46 =>
        zsx xs L x46 fun x47 =>
        zcv h10 w7 9 20 (F_X10_fault n h10 w7 x47) fun x49 h48 =>
        zv (x9 + (1 : Int32)) fun x50 =>
        zsx xs L x50 fun x51 =>
        zcv h48 w8 10 51 (F_X11_fault n h48 w8 x51) fun x53 h52 =>
        if x49 = x53 then (
          F_L_law_J1201 n xs L kc18 gn h52 w7 w8 x9
        ) else (
          none
        )
      ) else
      if x14 = (3 : Int32) then (
        zcv h10 w7 9 20 (F_X10_cup n h10 w7) fun x55 h54 =>
        zcv h54 w8 10 51 (F_X11_cup n h54 w8) fun x57 h56 =>
        if x55 = x57 then (
          F_L_law_J1201 n xs L kc18 gn h56 w7 w8 x9
        ) else (
          none
        )
      ) else
      if x14 = (4 : Int32) then (
        zcv h10 w7 9 20 (F_X10_row n h10 w7) fun x59 h58 =>
        zcv h58 w8 10 51 (F_X11_row n h58 w8) fun x61 h60 =>
        if x59 = x61 then (
          F_L_law_J1201 n xs L kc18 gn h60 w7 w8 x9
        ) else (
          none
        )
      ) else
      if x14 = (5 : Int32) then (
        zcv h10 w7 9 20 (F_X10_river n h10 w7) fun x63 h62 =>
        zcv h62 w8 10 51 (F_X11_river n h62 w8) fun x65 h64 =>
        if x63 = x65 then (
          F_L_law_J1201 n xs L kc18 gn h64 w7 w8 x9
        ) else (
          none
        )
      ) else
      if x14 = (6 : Int32) then (
        zv (x9 + (1 : Int32)) fun x66 =>
        zsx xs L x66 fun x67 =>
        zcv h10 w7 9 20 (F_X10_cupTold n h10 w7 x67) fun x69 h68 =>
        zv (x9 + (1 : Int32)) fun x70 =>
        zsx xs L x70 fun x71 =>
        zcv h68 w8 10 51 (F_X11_cupTold n h68 w8 x71) fun x73 h72 =>
        if x69 = x73 then (
          F_L_law_J1201 n xs L kc18 gn h72 w7 w8 x9
        ) else (
          none
        )
      ) else
      if x14 = (7 : Int32) then (
        zv (x9 + (1 : Int32)) fun x74 =>
        zsx xs L x74 fun x75 =>
        zv (x9 + (2 : Int32)) fun x76 =>
        zsx xs L x76 fun x77 =>
        zcv h10 w7 9 20 (F_X10_doing n h10 w7 x75 x77) fun x79 h78 =>
        zv (x9 + (1 : Int32)) fun x80 =>
        zsx xs L x80 fun x81 =>
        zv (x9 + (2 : Int32)) fun x82 =>
        zsx xs L x82 fun x83 =>
        zcv h78 w8 10 51 (F_X11_doing n h78 w8 x81 x83) fun x85 h84 =>
        if x79 = x85 then (
          F_L_law_J1201 n xs L kc18 gn h84 w7 w8 x9
        ) else (
          none
        )
      ) else
      if x14 = (8 : Int32) then (
        zv (x9 + (1 : Int32)) fun x86 =>
        zsx xs L x86 fun x87 =>
        zv (x9 + (2 : Int32)) fun x88 =>
        zsx xs L x88 fun x89 =>
        zcv h10 w7 9 20 (F_X10_as n h10 w7 x87 x89) fun x91 h90 =>
        zv (x9 + (1 : Int32)) fun x92 =>
        zsx xs L x92 fun x93 =>
        zv (x9 + (2 : Int32)) fun x94 =>
        zsx xs L x94 fun x95 =>
        zcv h90 w8 10 51 (F_X11_as n h90 w8 x93 x95) fun x97 h96 =>
        if x91 = x97 then (
          F_L_law_J1201 n xs L kc18 gn h96 w7 w8 x9
        ) else (
          none
        )
      ) else
      if x14 = (9 : Int32) then (
        zv (x9 + (1 : Int32)) fun x98 =>
        zsx xs L x98 fun x99 =>
        zv (x9 + (2 : Int32)) fun x100 =>
        zsx xs L x100 fun x101 =>
        zv (x9 + (3 : Int32)) fun x102 =>
        zsx xs L x102 fun x103 =>
        zcv h10 w7 9 20 (F_X10_leaf n h10 w7 x99 x101 x103) fun x105 h104 =>
        zv (x9 + (1 : Int32)) fun x106 =>
        zsx xs L x106 fun x107 =>
        zv (x9 + (2 : Int32)) fun x108 =>
        zsx xs L x108 fun x109 =>
        zv (x9 + (3 : Int32)) fun x110 =>
        zsx xs L x110 fun x111 =>
        zcv h104 w8 10 51 (F_X11_leaf n h104 w8 x107 x109 x111) fun x113 h112 =>
        if x105 = x113 then (
          F_L_law_J1201 n xs L kc18 gn h112 w7 w8 x9
        ) else (
          none
        )
      ) else
      if x14 = (10 : Int32) then (
        zv (x9 + (1 : Int32)) fun x114 =>
        zsx xs L x114 fun x115 =>
        zv (x9 + (2 : Int32)) fun x116 =>
        zsx xs L x116 fun x117 =>
        zcv h10 w7 9 20 (F_X10_about n h10 w7 x115 x117) fun x119 h118 =>
        zv (x9 + (1 : Int32)) fun x120 =>
        zsx xs L x120 fun x121 =>
        zv (x9 + (2 : Int32)) fun x122 =>
        zsx xs L x122 fun x123 =>
        zcv h118 w8 10 51 (F_X11_about n h118 w8 x121 x123) fun x125 h124 =>
        if x119 = x125 then (
          F_L_law_J1201 n xs L kc18 gn h124 w7 w8 x9
        ) else (
          none
        )
      ) else
      if x14 = (11 : Int32) then (
        zv (x9 + (1 : Int32)) fun x126 =>
        zsx xs L x126 fun x127 =>
        zv (x9 + (2 : Int32)) fun x128 =>
        zsx xs L x128 fun x129 =>
        zcv h10 w7 9 20 (F_X10_ticks n h10 w7 x127 x129) fun x131 h130 =>
        zv (x9 + (1 : Int32)) fun x132 =>
        zsx xs L x132 fun x133 =>
        zv (x9 + (2 : Int32)) fun x134 =>
        zsx xs L x134 fun x135 =>
        zcv h130 w8 10 51 (F_X11_ticks n h130 w8 x133 x135) fun x137 h136 =>
        if x131 = x137 then (
          F_L_law_J1201 n xs L kc18 gn h136 w7 w8 x9
        ) else (
          none
        )
      ) else
      if x14 = (12 : Int32) then (
        zcv h10 w7 9 20 (F_X10_still n h10 w7) fun x139 h138 =>
        zcv h138 w8 10 51 (F_X11_still n h138 w8) fun x141 h140 =>
        if x139 = x141 then (
          F_L_law_J1201 n xs L kc18 gn h140 w7 w8 x9
        ) else (
          none
        )
      ) else
      if x14 = (13 : Int32) then (
        zv (x9 + (1 : Int32)) fun x142 =>
        zsx xs L x142 fun x143 =>
        zv (x9 + (2 : Int32)) fun x144 =>
        zsx xs L x144 fun x145 =>
        zcv h10 w7 9 20 (F_X10_round n h10 w7 x143 x145) fun x147 h146 =>
        zv (x9 + (1 : Int32)) fun x148 =>
        zsx xs L x148 fun x149 =>
        zv (x9 + (2 : Int32)) fun x150 =>
        zsx xs L x150 fun x151 =>
        zcv h146 w8 10 51 (F_X11_round n h146 w8 x149 x151) fun x153 h152 =>
        if x147 = x153 then (
          F_L_law_J1201 n xs L kc18 gn h152 w7 w8 x9
        ) else (
          none
        )
      ) else
      if x14 = (14 : Int32) then (
        zv (x9 + (1 : Int32)) fun x154 =>
        zsx xs L x154 fun x155 =>
        zcv h10 w7 9 20 (F_X10_second n h10 w7 x155) fun x157 h156 =>
        zv (x9 + (1 : Int32)) fun x158 =>
        zsx xs L x158 fun x159 =>
        zcv h156 w8 10 51 (F_X11_second n h156 w8 x159) fun x161 h160 =>
        if x157 = x161 then (
          F_L_law_J1201 n xs L kc18 gn h160 w7 w8 x9
        ) else (
          none
        )
      ) else
      if x14 = (15 : Int32) then (
        zv (x9 + (1 : Int32)) fun x162 =>
        zsx xs L x162 fun x163 =>
        zv (x9 + (2 : Int32)) fun x164 =>
        zsx xs L x164 fun x165 =>
        zv (x9 + (3 : Int32)) fun x166 =>
        zsx xs L x166 fun x167 =>
        zcv h10 w7 9 20 (F_X10_would n h10 w7 x163 x165 x167) fun x169 h168 =>
        zv (x9 + (1 : Int32)) fun x170 =>
        zsx xs L x170 fun x171 =>
        zv (x9 + (2 : Int32)) fun x172 =>
        zsx xs L x172 fun x173 =>
        zv (x9 + (3 : Int32)) fun x174 =>
        zsx xs L x174 fun x175 =>
        zcv h168 w8 10 51 (F_X11_would n h168 w8 x171 x173 x175) fun x177 h176 =>
        if x169 = x177 then (
          F_L_law_J1201 n xs L kc18 gn h176 w7 w8 x9
        ) else (
          none
        )
      ) else
      if x14 = (16 : Int32) then (
        zv (x9 + (1 : Int32)) fun x178 =>
        zsx xs L x178 fun x179 =>
        zv (x9 + (2 : Int32)) fun x180 =>
        zsx xs L x180 fun x181 =>
        zcv h10 w7 9 20 (F_X10_ends n h10 w7 x179 x181) fun x183 h182 =>
        zv (x9 + (1 : Int32)) fun x184 =>
        zsx xs L x184 fun x185 =>
        zv (x9 + (2 : Int32)) fun x186 =>
        zsx xs L x186 fun x187 =>
        zcv h182 w8 10 51 (F_X11_ends n h182 w8 x185 x187) fun x189 h188 =>
        if x183 = x189 then (
          F_L_law_J1201 n xs L kc18 gn h188 w7 w8 x9
        ) else (
          none
        )
      ) else
      if x14 = (17 : Int32) then (
        zv (x9 + (1 : Int32)) fun x190 =>
        zsx xs L x190 fun x191 =>
        zv (x9 + (2 : Int32)) fun x192 =>
        zsx xs L x192 fun x193 =>
        zcv h10 w7 9 20 (F_X10_lies n h10 w7 x191 x193) fun x195 h194 =>
        zv (x9 + (1 : Int32)) fun x196 =>
        zsx xs L x196 fun x197 =>
        zv (x9 + (2 : Int32)) fun x198 =>
        zsx xs L x198 fun x199 =>
        zcv h194 w8 10 51 (F_X11_lies n h194 w8 x197 x199) fun x201 h200 =>
        if x195 = x201 then (
          F_L_law_J1201 n xs L kc18 gn h200 w7 w8 x9
        ) else (
          none
        )
      ) else
      if x14 = (18 : Int32) then (
        zv (x9 + (1 : Int32)) fun x202 =>
        zsx xs L x202 fun x203 =>
        zv (x9 + (2 : Int32)) fun x204 =>
        zsx xs L x204 fun x205 =>
        zv (x9 + (3 : Int32)) fun x206 =>
        zsx xs L x206 fun x207 =>
        zcv h10 w7 9 20 (F_X10_line n h10 w7 x203 x205 x207) fun x209 h208 =>
        zv (x9 + (1 : Int32)) fun x210 =>
        zsx xs L x210 fun x211 =>
        zv (x9 + (2 : Int32)) fun x212 =>
        zsx xs L x212 fun x213 =>
        zv (x9 + (3 : Int32)) fun x214 =>
        zsx xs L x214 fun x215 =>
        zcv h208 w8 10 51 (F_X11_line n h208 w8 x211 x213 x215) fun x217 h216 =>
        if x209 = x217 then (
          F_L_law_J1201 n xs L kc18 gn h216 w7 w8 x9
        ) else (
          none
        )
      ) else
      if x14 = (19 : Int32) then (
        zv (x9 + (1 : Int32)) fun x218 =>
        zsx xs L x218 fun x219 =>
        zv (x9 + (2 : Int32)) fun x220 =>
        zsx xs L x220 fun x221 =>
        zcv h10 w7 9 20 (F_X10_want n h10 w7 x219 x221) fun x223 h222 =>
        zv (x9 + (1 : Int32)) fun x224 =>
        zsx xs L x224 fun x225 =>
        zv (x9 + (2 : Int32)) fun x226 =>
        zsx xs L x226 fun x227 =>
        zcv h222 w8 10 51 (F_X11_want n h222 w8 x225 x227) fun x229 h228 =>
        if x223 = x229 then (
          F_L_law_J1201 n xs L kc18 gn h228 w7 w8 x9
        ) else (
          none
        )
      ) else
      if x14 = (20 : Int32) then (
        zv (x9 + (1 : Int32)) fun x230 =>
        zsx xs L x230 fun x231 =>
        zcv h10 w7 9 20 (F_X10_off n h10 w7 x231) fun x233 h232 =>
        zv (x9 + (1 : Int32)) fun x234 =>
        zsx xs L x234 fun x235 =>
        zcv h232 w8 10 51 (F_X11_off n h232 w8 x235) fun x237 h236 =>
        if x233 = x237 then (
          F_L_law_J1201 n xs L kc18 gn h236 w7 w8 x9
        ) else (
          none
        )
      ) else
      if x14 = (21 : Int32) then (
        zv (x9 + (1 : Int32)) fun x238 =>
        zsx xs L x238 fun x239 =>
        zcv h10 w7 9 20 (F_X10_found n h10 w7 x239) fun x241 h240 =>
        zv (x9 + (1 : Int32)) fun x242 =>
        zsx xs L x242 fun x243 =>
        zcv h240 w8 10 51 (F_X11_found n h240 w8 x243) fun x245 h244 =>
        if x241 = x245 then (
          F_L_law_J1201 n xs L kc18 gn h244 w7 w8 x9
        ) else (
          none
        )
      ) else
      if x14 = (22 : Int32) then (
        zv (x9 + (1 : Int32)) fun x246 =>
        zsx xs L x246 fun x247 =>
        zv (x9 + (2 : Int32)) fun x248 =>
        zsx xs L x248 fun x249 =>
        zcv h10 w7 9 20 (F_X10_seen n h10 w7 x247 x249) fun x251 h250 =>
        zv (x9 + (1 : Int32)) fun x252 =>
        zsx xs L x252 fun x253 =>
        zv (x9 + (2 : Int32)) fun x254 =>
        zsx xs L x254 fun x255 =>
        zcv h250 w8 10 51 (F_X11_seen n h250 w8 x253 x255) fun x257 h256 =>
        if x251 = x257 then (
          F_L_law_J1201 n xs L kc18 gn h256 w7 w8 x9
        ) else (
          none
        )
      ) else
      if x14 = (23 : Int32) then (
        zcv h10 w7 9 20 (F_X10_read n h10 w7) fun x259 h258 =>
        zcv h258 w8 10 51 (F_X11_read n h258 w8) fun x261 h260 =>
        if x259 = x261 then (
          F_L_law_J1201 n xs L kc18 gn h260 w7 w8 x9
        ) else (
          none
        )
      ) else
      if x14 = (24 : Int32) then (
        zcv h10 w7 9 20 (F_X10_tells n h10 w7) fun x263 h262 =>
        zcv h262 w8 10 51 (F_X11_tells n h262 w8) fun x265 h264 =>
        if x263 = x265 then (
          F_L_law_J1201 n xs L kc18 gn h264 w7 w8 x9
        ) else (
          none
        )
      ) else
      if x14 = (25 : Int32) then (
        zv (x9 + (1 : Int32)) fun x266 =>
        zsx xs L x266 fun x267 =>
        zv (x9 + (2 : Int32)) fun x268 =>
        zsx xs L x268 fun x269 =>
        zv (x9 + (3 : Int32)) fun x270 =>
        zsx xs L x270 fun x271 =>
        zcv h10 w7 9 20 (F_X10_apart n h10 w7 x267 x269 x271) fun x273 h272 =>
        zv (x9 + (1 : Int32)) fun x274 =>
        zsx xs L x274 fun x275 =>
        zv (x9 + (2 : Int32)) fun x276 =>
        zsx xs L x276 fun x277 =>
        zv (x9 + (3 : Int32)) fun x278 =>
        zsx xs L x278 fun x279 =>
        zcv h272 w8 10 51 (F_X11_apart n h272 w8 x275 x277 x279) fun x281 h280 =>
        if x273 = x281 then (
          F_L_law_J1201 n xs L kc18 gn h280 w7 w8 x9
        ) else (
          none
        )
      ) else
      if x14 = (26 : Int32) then (
        zv (x9 + (1 : Int32)) fun x282 =>
        zsx xs L x282 fun x283 =>
        zv (x9 + (2 : Int32)) fun x284 =>
        zsx xs L x284 fun x285 =>
        zcv h10 w7 9 20 (F_X10_picture n h10 w7 x283 x285) fun x287 h286 =>
        zv (x9 + (1 : Int32)) fun x288 =>
        zsx xs L x288 fun x289 =>
        zv (x9 + (2 : Int32)) fun x290 =>
        zsx xs L x290 fun x291 =>
        zcv h286 w8 10 51 (F_X11_picture n h286 w8 x289 x291) fun x293 h292 =>
        if x287 = x293 then (
          F_L_law_J1201 n xs L kc18 gn h292 w7 w8 x9
        ) else (
          none
        )
      ) else
      if x14 = (27 : Int32) then (
        zcv h10 w7 9 20 (F_X10_drag n h10 w7) fun x295 h294 =>
        zcv h294 w8 10 51 (F_X11_drag n h294 w8) fun x297 h296 =>
        if x295 = x297 then (
          F_L_law_J1201 n xs L kc18 gn h296 w7 w8 x9
        ) else (
          none
        )
      ) else
      if x14 = (28 : Int32) then (
        zv (x9 + (1 : Int32)) fun x298 =>
        zsx xs L x298 fun x299 =>
        zv (x9 + (2 : Int32)) fun x300 =>
        zsx xs L x300 fun x301 =>
        zv (x9 + (3 : Int32)) fun x302 =>
        zsx xs L x302 fun x303 =>
        zv (x9 + (4 : Int32)) fun x304 =>
        zsx xs L x304 fun x305 =>
        zcv h10 w7 9 20 (F_X10_point n h10 w7 x299 x301 x303 x305) fun x307 h306 =>
        zv (x9 + (1 : Int32)) fun x308 =>
        zsx xs L x308 fun x309 =>
        zv (x9 + (2 : Int32)) fun x310 =>
        zsx xs L x310 fun x311 =>
        zv (x9 + (3 : Int32)) fun x312 =>
        zsx xs L x312 fun x313 =>
        zv (x9 + (4 : Int32)) fun x314 =>
        zsx xs L x314 fun x315 =>
        zcv h306 w8 10 51 (F_X11_point n h306 w8 x309 x311 x313 x315) fun x317 h316 =>
        if x307 = x317 then (
          F_L_law_J1201 n xs L kc18 gn h316 w7 w8 x9
        ) else (
          none
        )
      ) else
      if x14 = (29 : Int32) then (
        zv (x9 + (1 : Int32)) fun x318 =>
        zsx xs L x318 fun x319 =>
        zv (x9 + (2 : Int32)) fun x320 =>
        zsx xs L x320 fun x321 =>
        zv (x9 + (3 : Int32)) fun x322 =>
        zsx xs L x322 fun x323 =>
        zcv h10 w7 9 20 (F_X10_cuts n h10 w7 x319 x321 x323) fun x325 h324 =>
        zv (x9 + (1 : Int32)) fun x326 =>
        zsx xs L x326 fun x327 =>
        zv (x9 + (2 : Int32)) fun x328 =>
        zsx xs L x328 fun x329 =>
        zv (x9 + (3 : Int32)) fun x330 =>
        zsx xs L x330 fun x331 =>
        zcv h324 w8 10 51 (F_X11_cuts n h324 w8 x327 x329 x331) fun x333 h332 =>
        if x325 = x333 then (
          F_L_law_J1201 n xs L kc18 gn h332 w7 w8 x9
        ) else (
          none
        )
      ) else
      if x14 = (30 : Int32) then (
        zv (x9 + (1 : Int32)) fun x334 =>
        zsx xs L x334 fun x335 =>
        zv (x9 + (2 : Int32)) fun x336 =>
        zsx xs L x336 fun x337 =>
        zcv h10 w7 9 20 (F_X10_firstCut n h10 w7 x335 x337) fun x339 h338 =>
        zv (x9 + (1 : Int32)) fun x340 =>
        zsx xs L x340 fun x341 =>
        zv (x9 + (2 : Int32)) fun x342 =>
        zsx xs L x342 fun x343 =>
        zcv h338 w8 10 51 (F_X11_firstCut n h338 w8 x341 x343) fun x345 h344 =>
        if x339 = x345 then (
          F_L_law_J1201 n xs L kc18 gn h344 w7 w8 x9
        ) else (
          none
        )
      ) else
      if x14 = (31 : Int32) then (
        zv (x9 + (1 : Int32)) fun x346 =>
        zsx xs L x346 fun x347 =>
        zv (x9 + (2 : Int32)) fun x348 =>
        zsx xs L x348 fun x349 =>
        zv (x9 + (3 : Int32)) fun x350 =>
        zsx xs L x350 fun x351 =>
        zcv h10 w7 9 20 (F_X10_saves n h10 w7 x347 x349 x351) fun x353 h352 =>
        zv (x9 + (1 : Int32)) fun x354 =>
        zsx xs L x354 fun x355 =>
        zv (x9 + (2 : Int32)) fun x356 =>
        zsx xs L x356 fun x357 =>
        zv (x9 + (3 : Int32)) fun x358 =>
        zsx xs L x358 fun x359 =>
        zcv h352 w8 10 51 (F_X11_saves n h352 w8 x355 x357 x359) fun x361 h360 =>
        if x353 = x361 then (
          F_L_law_J1201 n xs L kc18 gn h360 w7 w8 x9
        ) else (
          none
        )
      ) else
      if x14 = (32 : Int32) then (
        zcv h10 w7 9 20 (F_X10_image n h10 w7) fun x363 h362 =>
        zcv h362 w8 10 51 (F_X11_image n h362 w8) fun x365 h364 =>
        if x363 = x365 then (
          F_L_law_J1201 n xs L kc18 gn h364 w7 w8 x9
        ) else (
          none
        )
      ) else
      if x14 = (33 : Int32) then (
        zcv h10 w7 9 20 (F_X10_restore n h10 w7) fun x367 h366 =>
        zcv h366 w8 10 51 (F_X11_restore n h366 w8) fun x369 h368 =>
        if x367 = x369 then (
          F_L_law_J1201 n xs L kc18 gn h368 w7 w8 x9
        ) else (
          none
        )
      ) else
      if x14 = (34 : Int32) then (
        zv (x9 + (1 : Int32)) fun x370 =>
        zsx xs L x370 fun x371 =>
        zcv h10 w7 9 20 (F_X10_count n h10 w7 x371) fun x373 h372 =>
        zv (x9 + (1 : Int32)) fun x374 =>
        zsx xs L x374 fun x375 =>
        zcv h372 w8 10 51 (F_X11_count n h372 w8 x375) fun x377 h376 =>
        if x373 = x377 then (
          F_L_law_J1201 n xs L kc18 gn h376 w7 w8 x9
        ) else (
          none
        )
      ) else
      if x14 = (35 : Int32) then (
        zcv h10 w7 9 20 (F_X10_digest n h10 w7) fun j379 h378 =>
        zcv h378 w8 10 51 (F_X11_digest n h378 w8) fun j381 h380 =>
        zv (lg_cmp j379 j381) fun x382 =>
        if x382 = (0 : Int32) then (
          F_L_law_J1201 n xs L kc18 gn h380 w7 w8 x9
        ) else (
          none
        )
      ) else
      none
    )
  ) else none
def F_L_law_L18 (n : Nat) (xs : Nat → Int32) (L : Nat) (gn : Nat) (h10 : zH) (w7 : Nat) (w8 : Nat) (x9 : Int32) : Option Unit :=
  zloop (fun kc x => F_L_law_B18 n xs L kc x.2.2 x.1 w7 w8 x.2.1) n (h10, x9, gn)
def F_L_law (n : Nat) (xs : Nat → Int32) (L : Nat) (h : zH) : Option Unit :=
  zno h 9 20 fun w1 h2 =>
  zc (F_X10_init n h2 w1) fun _ h3 =>
  zno h3 10 51 fun w4 h5 =>
  zc (F_X11_init n h5 w4) fun _ h6 =>
  F_L_law_L18 n xs L 0 h6 w1 w4 (0 : Int32)
