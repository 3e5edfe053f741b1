theorem b_484 : Cond.methodLink RL 13 yX11_feed ∈ BIG := bi (tin_2 _ (List.mem_of_getElem? (i := 191) rfl)) rfl
theorem b_485 : Cond.methodLink RL 17 yX12_feed ∈ BIG := bi (tin_6 _ (List.mem_of_getElem? (i := 201) rfl)) rfl
theorem b_486 : Cond.methodLink RL 18 yX11_end ∈ BIG := bi (tin_2 _ (List.mem_of_getElem? (i := 199) rfl)) rfl
theorem b_487 : Cond.methodLink RL 22 yX12_end ∈ BIG := bi (tin_6 _ (List.mem_of_getElem? (i := 205) rfl)) rfl
theorem b_488 : Cond.methodLink RL 23 yX11_desk ∈ BIG := bi (tin_2 _ (List.mem_of_getElem? (i := 203) rfl)) rfl
theorem b_489 : Cond.methodLink RL 27 yX12_desk ∈ BIG := bi (tin_6 _ (List.mem_of_getElem? (i := 213) rfl)) rfl
theorem b_490 : Cond.methodLink RL 28 yX11_fault ∈ BIG := bi (tin_3 _ (List.mem_of_getElem? (i := 132) rfl)) rfl
theorem b_491 : Cond.methodLink RL 31 yX12_fault ∈ BIG := bi (tin_6 _ (List.mem_of_getElem? (i := 209) rfl)) rfl
theorem b_492 : Cond.methodLink RL 32 yX11_grade ∈ BIG := bi (tin_3 _ (List.mem_of_getElem? (i := 136) rfl)) rfl
theorem b_493 : Cond.methodLink RL 35 yX12_grade ∈ BIG := bi (tin_7 _ (List.mem_of_getElem? (i := 75) rfl)) rfl
theorem b_494 : Cond.methodLink RL 36 yX11_thinks ∈ BIG := bi (tin_3 _ (List.mem_of_getElem? (i := 144) rfl)) rfl
theorem b_495 : Cond.methodLink RL 40 yX12_thinks ∈ BIG := bi (tin_7 _ (List.mem_of_getElem? (i := 83) rfl)) rfl
theorem b_496 : Cond.methodLink RL 41 yX11_word ∈ BIG := bi (tin_3 _ (List.mem_of_getElem? (i := 156) rfl)) rfl
theorem b_497 : Cond.methodLink RL 44 yX12_word ∈ BIG := bi (tin_7 _ (List.mem_of_getElem? (i := 99) rfl)) rfl
theorem b_498 : Cond.methodLink RL 45 yX11_plan ∈ BIG := bi (tin_3 _ (List.mem_of_getElem? (i := 168) rfl)) rfl
theorem b_499 : Cond.methodLink RL 48 yX12_plan ∈ BIG := bi (tin_7 _ (List.mem_of_getElem? (i := 118) rfl)) rfl
theorem b_500 : Cond.methodLink RL 49 yX11_news ∈ BIG := bi (tin_3 _ (List.mem_of_getElem? (i := 180) rfl)) rfl
theorem b_501 : Cond.methodLink RL 52 yX12_news ∈ BIG := bi (tin_7 _ (List.mem_of_getElem? (i := 134) rfl)) rfl
theorem b_502 : Cond.methodLink RL 53 yX11_tells ∈ BIG := bi (tin_3 _ (List.mem_of_getElem? (i := 188) rfl)) rfl
theorem b_503 : Cond.methodLink RL 56 yX12_tells ∈ BIG := bi (tin_7 _ (List.mem_of_getElem? (i := 138) rfl)) rfl
theorem b_504 : Cond.methodLink RL 57 yX11_mean ∈ BIG := bi (tin_3 _ (List.mem_of_getElem? (i := 192) rfl)) rfl
theorem b_505 : Cond.methodLink RL 60 yX12_mean ∈ BIG := bi (tin_7 _ (List.mem_of_getElem? (i := 142) rfl)) rfl
theorem b_506 : Cond.methodLink RL 61 yX11_chance ∈ BIG := bi (tin_3 _ (List.mem_of_getElem? (i := 209) rfl)) rfl
theorem b_507 : Cond.methodLink RL 65 yX12_chance ∈ BIG := bi (tin_7 _ (List.mem_of_getElem? (i := 165) rfl)) rfl
theorem b_508 : Cond.methodLink RL 66 yX11_behind ∈ BIG := bi (tin_3 _ (List.mem_of_getElem? (i := 226) rfl)) rfl
theorem b_509 : Cond.methodLink RL 69 yX12_behind ∈ BIG := bi (tin_7 _ (List.mem_of_getElem? (i := 179) rfl)) rfl
theorem b_510 : Cond.methodLink RL 70 yX11_hurt ∈ BIG := bi (tin_3 _ (List.mem_of_getElem? (i := 239) rfl)) rfl
theorem b_511 : Cond.methodLink RL 74 yX12_hurt ∈ BIG := bi (tin_7 _ (List.mem_of_getElem? (i := 192) rfl)) rfl
theorem b_512 : Cond.methodLink RL 75 yX11_softest ∈ BIG := bi (tin_4 _ (List.mem_of_getElem? (i := 11) rfl)) rfl
theorem b_513 : Cond.methodLink RL 78 yX12_softest ∈ BIG := bi (tin_7 _ (List.mem_of_getElem? (i := 204) rfl)) rfl
theorem b_514 : Cond.methodLink RL 79 yX11_believes ∈ BIG := bi (tin_4 _ (List.mem_of_getElem? (i := 16) rfl)) rfl
theorem b_515 : Cond.methodLink RL 82 yX12_believes ∈ BIG := bi (tin_7 _ (List.mem_of_getElem? (i := 208) rfl)) rfl
theorem b_516 : Cond.methodLink RL 83 yX11_hurts ∈ BIG := bi (tin_4 _ (List.mem_of_getElem? (i := 50) rfl)) rfl
theorem b_517 : Cond.methodLink RL 86 yX12_hurts ∈ BIG := bi (tin_7 _ (List.mem_of_getElem? (i := 228) rfl)) rfl
theorem b_518 : Cond.methodLink RL 87 yX11_worst ∈ BIG := bi (tin_4 _ (List.mem_of_getElem? (i := 67) rfl)) rfl
theorem b_519 : Cond.methodLink RL 90 yX12_worst ∈ BIG := bi (tin_8 _ (List.mem_of_getElem? (i := 2) rfl)) rfl
theorem b_520 : Cond.methodLink RL 91 yX11_left ∈ BIG := bi (tin_4 _ (List.mem_of_getElem? (i := 78) rfl)) rfl
theorem b_521 : Cond.methodLink RL 94 yX12_left ∈ BIG := bi (tin_8 _ (List.mem_of_getElem? (i := 6) rfl)) rfl
theorem b_522 : Cond.methodLink RL 95 yX11_lies ∈ BIG := bi (tin_4 _ (List.mem_of_getElem? (i := 91) rfl)) rfl
theorem b_523 : Cond.methodLink RL 98 yX12_lies ∈ BIG := bi (tin_8 _ (List.mem_of_getElem? (i := 10) rfl)) rfl
theorem b_524 : Cond.methodLink RL 99 yX11_shames ∈ BIG := bi (tin_4 _ (List.mem_of_getElem? (i := 100) rfl)) rfl
theorem b_525 : Cond.methodLink RL 102 yX12_shames ∈ BIG := bi (tin_8 _ (List.mem_of_getElem? (i := 14) rfl)) rfl
theorem b_526 : Cond.methodLink RL 103 yX11_known ∈ BIG := bi (tin_4 _ (List.mem_of_getElem? (i := 113) rfl)) rfl
theorem b_527 : Cond.methodLink RL 106 yX12_known ∈ BIG := bi (tin_8 _ (List.mem_of_getElem? (i := 22) rfl)) rfl
theorem b_528 : Cond.methodLink RL 107 yX11_softer ∈ BIG := bi (tin_4 _ (List.mem_of_getElem? (i := 125) rfl)) rfl
theorem b_529 : Cond.methodLink RL 110 yX12_softer ∈ BIG := bi (tin_8 _ (List.mem_of_getElem? (i := 136) rfl)) rfl
theorem b_530 : Cond.methodLink RL 111 yX11_ordered ∈ BIG := bi (tin_4 _ (List.mem_of_getElem? (i := 162) rfl)) rfl
theorem b_531 : Cond.methodLink RL 114 yX12_ordered ∈ BIG := bi (tin_8 _ (List.mem_of_getElem? (i := 160) rfl)) rfl
theorem b_532 : Cond.methodLink RL 115 yX11_rest ∈ BIG := bi (tin_4 _ (List.mem_of_getElem? (i := 166) rfl)) rfl
theorem b_533 : Cond.methodLink RL 118 yX12_rest ∈ BIG := bi (tin_8 _ (List.mem_of_getElem? (i := 132) rfl)) rfl
theorem b_534 : Cond.methodLink RL 119 yX11_least ∈ BIG := bi (tin_4 _ (List.mem_of_getElem? (i := 217) rfl)) rfl
theorem b_535 : Cond.methodLink RL 122 yX12_least ∈ BIG := bi (tin_8 _ (List.mem_of_getElem? (i := 30) rfl)) rfl
theorem b_536 : Cond.methodLink RL 123 yX11_step ∈ BIG := bi (tin_4 _ (List.mem_of_getElem? (i := 221) rfl)) rfl
theorem b_537 : Cond.methodLink RL 126 yX12_step ∈ BIG := bi (tin_8 _ (List.mem_of_getElem? (i := 56) rfl)) rfl
theorem b_538 : Cond.methodLink RL 127 yX11_truly ∈ BIG := bi (tin_4 _ (List.mem_of_getElem? (i := 233) rfl)) rfl
theorem b_539 : Cond.methodLink RL 130 yX12_truly ∈ BIG := bi (tin_8 _ (List.mem_of_getElem? (i := 72) rfl)) rfl
theorem b_540 : Cond.methodLink RL 131 yX11_honest ∈ BIG := bi (tin_4 _ (List.mem_of_getElem? (i := 237) rfl)) rfl
theorem b_541 : Cond.methodLink RL 134 yX12_honest ∈ BIG := bi (tin_8 _ (List.mem_of_getElem? (i := 76) rfl)) rfl
theorem b_542 : Cond.methodLink RL 135 yX11_gentlest ∈ BIG := bi (tin_5 _ (List.mem_of_getElem? (i := 1) rfl)) rfl
theorem b_543 : Cond.methodLink RL 138 yX12_gentlest ∈ BIG := bi (tin_8 _ (List.mem_of_getElem? (i := 80) rfl)) rfl
theorem b_544 : Cond.methodLink RL 139 yX11_gently ∈ BIG := bi (tin_5 _ (List.mem_of_getElem? (i := 5) rfl)) rfl
theorem b_545 : Cond.methodLink RL 142 yX12_gently ∈ BIG := bi (tin_8 _ (List.mem_of_getElem? (i := 84) rfl)) rfl
theorem b_546 : Cond.methodLink RL 143 yX11_tender ∈ BIG := bi (tin_5 _ (List.mem_of_getElem? (i := 9) rfl)) rfl
theorem b_547 : Cond.methodLink RL 146 yX12_tender ∈ BIG := bi (tin_8 _ (List.mem_of_getElem? (i := 88) rfl)) rfl
theorem b_548 : Cond.methodLink RL 147 yX11_tenderly ∈ BIG := bi (tin_5 _ (List.mem_of_getElem? (i := 13) rfl)) rfl
theorem b_549 : Cond.methodLink RL 150 yX12_tenderly ∈ BIG := bi (tin_8 _ (List.mem_of_getElem? (i := 92) rfl)) rfl
theorem b_550 : Cond.methodLink RL 151 yX11_hope ∈ BIG := bi (tin_5 _ (List.mem_of_getElem? (i := 17) rfl)) rfl
theorem b_551 : Cond.methodLink RL 154 yX12_hope ∈ BIG := bi (tin_8 _ (List.mem_of_getElem? (i := 96) rfl)) rfl
theorem b_552 : Cond.methodLink RL 155 yX11_fewest ∈ BIG := bi (tin_5 _ (List.mem_of_getElem? (i := 21) rfl)) rfl
theorem b_553 : Cond.methodLink RL 158 yX12_fewest ∈ BIG := bi (tin_8 _ (List.mem_of_getElem? (i := 100) rfl)) rfl
theorem b_554 : Cond.methodLink RL 159 yX11_once ∈ BIG := bi (tin_5 _ (List.mem_of_getElem? (i := 25) rfl)) rfl
theorem b_555 : Cond.methodLink RL 162 yX12_once ∈ BIG := bi (tin_8 _ (List.mem_of_getElem? (i := 104) rfl)) rfl
theorem b_556 : Cond.methodLink RL 163 yX11_late ∈ BIG := bi (tin_5 _ (List.mem_of_getElem? (i := 35) rfl)) rfl
theorem b_557 : Cond.methodLink RL 166 yX12_late ∈ BIG := bi (tin_8 _ (List.mem_of_getElem? (i := 108) rfl)) rfl
theorem b_558 : Cond.methodLink RL 167 yX11_calm ∈ BIG := bi (tin_5 _ (List.mem_of_getElem? (i := 40) rfl)) rfl
theorem b_559 : Cond.methodLink RL 170 yX12_calm ∈ BIG := bi (tin_8 _ (List.mem_of_getElem? (i := 112) rfl)) rfl
theorem b_560 : Cond.methodLink RL 171 yX11_shock ∈ BIG := bi (tin_5 _ (List.mem_of_getElem? (i := 44) rfl)) rfl
theorem b_561 : Cond.methodLink RL 174 yX12_shock ∈ BIG := bi (tin_8 _ (List.mem_of_getElem? (i := 116) rfl)) rfl
theorem b_562 : Cond.methodLink RL 175 yX11_unsaid ∈ BIG := bi (tin_5 _ (List.mem_of_getElem? (i := 48) rfl)) rfl
theorem b_563 : Cond.methodLink RL 178 yX12_unsaid ∈ BIG := bi (tin_8 _ (List.mem_of_getElem? (i := 120) rfl)) rfl
theorem b_564 : Cond.methodLink RL 179 yX11_idle ∈ BIG := bi (tin_5 _ (List.mem_of_getElem? (i := 56) rfl)) rfl
theorem b_565 : Cond.methodLink RL 182 yX12_idle ∈ BIG := bi (tin_8 _ (List.mem_of_getElem? (i := 124) rfl)) rfl
theorem b_566 : Cond.methodLink RL 183 yX11_enough ∈ BIG := bi (tin_5 _ (List.mem_of_getElem? (i := 64) rfl)) rfl
theorem b_567 : Cond.methodLink RL 186 yX12_enough ∈ BIG := bi (tin_8 _ (List.mem_of_getElem? (i := 128) rfl)) rfl
theorem b_568 : Cond.methodLink RL 187 yX11_even ∈ BIG := bi (tin_5 _ (List.mem_of_getElem? (i := 69) rfl)) rfl
theorem b_569 : Cond.methodLink RL 190 yX12_even ∈ BIG := bi (tin_8 _ (List.mem_of_getElem? (i := 164) rfl)) rfl
theorem b_570 : Cond.methodLink RL 191 yX11_steps ∈ BIG := bi (tin_5 _ (List.mem_of_getElem? (i := 76) rfl)) rfl
theorem b_571 : Cond.methodLink RL 194 yX12_steps ∈ BIG := bi (tin_8 _ (List.mem_of_getElem? (i := 172) rfl)) rfl
theorem b_572 : Cond.methodLink RL 195 yX11_risk ∈ BIG := bi (tin_5 _ (List.mem_of_getElem? (i := 81) rfl)) rfl
theorem b_573 : Cond.methodLink RL 198 yX12_risk ∈ BIG := bi (tin_8 _ (List.mem_of_getElem? (i := 177) rfl)) rfl
theorem b_574 : Cond.methodLink RL 199 yX11_now ∈ BIG := bi (tin_5 _ (List.mem_of_getElem? (i := 108) rfl)) rfl
theorem b_575 : Cond.methodLink RL 202 yX12_now ∈ BIG := bi (tin_8 _ (List.mem_of_getElem? (i := 181) rfl)) rfl
theorem b_576 : Cond.methodLink RL 203 yX11_soon ∈ BIG := bi (tin_5 _ (List.mem_of_getElem? (i := 112) rfl)) rfl
theorem b_577 : Cond.methodLink RL 206 yX12_soon ∈ BIG := bi (tin_8 _ (List.mem_of_getElem? (i := 185) rfl)) rfl
theorem b_578 : Cond.methodLink RL 207 yX11_suspects ∈ BIG := bi (tin_5 _ (List.mem_of_getElem? (i := 122) rfl)) rfl
theorem b_579 : Cond.methodLink RL 210 yX12_suspects ∈ BIG := bi (tin_8 _ (List.mem_of_getElem? (i := 193) rfl)) rfl
theorem b_580 : Cond.methodLink RL 211 yX11_knew ∈ BIG := bi (tin_5 _ (List.mem_of_getElem? (i := 140) rfl)) rfl
theorem b_581 : Cond.methodLink RL 214 yX12_knew ∈ BIG := bi (tin_8 _ (List.mem_of_getElem? (i := 201) rfl)) rfl
theorem b_582 : Cond.methodLink RL 215 yX11_reckoned ∈ BIG := bi (tin_5 _ (List.mem_of_getElem? (i := 148) rfl)) rfl
theorem b_583 : Cond.methodLink RL 218 yX12_reckoned ∈ BIG := bi (tin_8 _ (List.mem_of_getElem? (i := 209) rfl)) rfl
theorem b_584 : Cond.methodLink RL 219 yX11_ends ∈ BIG := bi (tin_5 _ (List.mem_of_getElem? (i := 161) rfl)) rfl
theorem b_585 : Cond.methodLink RL 222 yX12_ends ∈ BIG := bi (tin_8 _ (List.mem_of_getElem? (i := 217) rfl)) rfl
theorem b_586 : Cond.methodLink RL 223 yX11_joined ∈ BIG := bi (tin_5 _ (List.mem_of_getElem? (i := 165) rfl)) rfl
theorem b_587 : Cond.methodLink RL 226 yX12_joined ∈ BIG := bi (tin_8 _ (List.mem_of_getElem? (i := 221) rfl)) rfl
theorem b_588 : Cond.methodLink RL 227 yX11_letter ∈ BIG := bi (tin_5 _ (List.mem_of_getElem? (i := 187) rfl)) rfl
theorem b_589 : Cond.methodLink RL 230 yX12_letter ∈ BIG := bi (tin_9 _ (List.mem_of_getElem? (i := 2) rfl)) rfl
theorem b_590 : Cond.methodLink RL 231 yX11_all ∈ BIG := bi (tin_5 _ (List.mem_of_getElem? (i := 191) rfl)) rfl
theorem b_591 : Cond.methodLink RL 234 yX12_all ∈ BIG := bi (tin_9 _ (List.mem_of_getElem? (i := 6) rfl)) rfl
theorem b_592 : Cond.methodLink RL 235 yX11_heard ∈ BIG := bi (tin_5 _ (List.mem_of_getElem? (i := 195) rfl)) rfl
theorem b_593 : Cond.methodLink RL 238 yX12_heard ∈ BIG := bi (tin_9 _ (List.mem_of_getElem? (i := 10) rfl)) rfl
theorem b_594 : Cond.methodLink RL 239 yX11_whom ∈ BIG := bi (tin_5 _ (List.mem_of_getElem? (i := 207) rfl)) rfl
theorem b_595 : Cond.methodLink RL 242 yX12_whom ∈ BIG := bi (tin_9 _ (List.mem_of_getElem? (i := 22) rfl)) rfl
theorem b_596 : Cond.methodLink RL 243 yX11_first ∈ BIG := bi (tin_5 _ (List.mem_of_getElem? (i := 218) rfl)) rfl
theorem b_597 : Cond.methodLink RL 246 yX12_first ∈ BIG := bi (tin_9 _ (List.mem_of_getElem? (i := 30) rfl)) rfl
theorem b_598 : Cond.methodLink RL 247 yX11_read ∈ BIG := bi (tin_5 _ (List.mem_of_getElem? (i := 222) rfl)) rfl
theorem b_599 : Cond.methodLink RL 250 yX12_read ∈ BIG := bi (tin_9 _ (List.mem_of_getElem? (i := 34) rfl)) rfl
theorem b_600 : Cond.methodLink RL 251 yX11_guess ∈ BIG := bi (tin_5 _ (List.mem_of_getElem? (i := 230) rfl)) rfl
theorem b_601 : Cond.methodLink RL 254 yX12_guess ∈ BIG := bi (tin_9 _ (List.mem_of_getElem? (i := 42) rfl)) rfl
theorem b_602 : Cond.methodLink RL 255 yX11_worsen ∈ BIG := bi (tin_5 _ (List.mem_of_getElem? (i := 234) rfl)) rfl
theorem b_603 : Cond.methodLink RL 258 yX12_worsen ∈ BIG := bi (tin_9 _ (List.mem_of_getElem? (i := 46) rfl)) rfl
theorem b_604 : Cond.methodLink RL 259 yX11_really ∈ BIG := bi (tin_6 _ (List.mem_of_getElem? (i := 14) rfl)) rfl
theorem b_605 : Cond.methodLink RL 262 yX12_really ∈ BIG := bi (tin_9 _ (List.mem_of_getElem? (i := 55) rfl)) rfl
theorem b_606 : Cond.methodLink RL 263 yX11_doubt ∈ BIG := bi (tin_6 _ (List.mem_of_getElem? (i := 18) rfl)) rfl
theorem b_607 : Cond.methodLink RL 266 yX12_doubt ∈ BIG := bi (tin_9 _ (List.mem_of_getElem? (i := 59) rfl)) rfl
theorem b_608 : Cond.methodLink RL 267 yX11_undo ∈ BIG := bi (tin_6 _ (List.mem_of_getElem? (i := 22) rfl)) rfl
theorem b_609 : Cond.methodLink RL 270 yX12_undo ∈ BIG := bi (tin_9 _ (List.mem_of_getElem? (i := 64) rfl)) rfl
theorem b_610 : Cond.methodLink RL 271 yX11_drawn ∈ BIG := bi (tin_6 _ (List.mem_of_getElem? (i := 26) rfl)) rfl
theorem b_611 : Cond.methodLink RL 274 yX12_drawn ∈ BIG := bi (tin_9 _ (List.mem_of_getElem? (i := 68) rfl)) rfl
theorem b_612 : Cond.methodLink RL 275 yX11_leaks ∈ BIG := bi (tin_6 _ (List.mem_of_getElem? (i := 48) rfl)) rfl
theorem b_613 : Cond.methodLink RL 278 yX12_leaks ∈ BIG := bi (tin_9 _ (List.mem_of_getElem? (i := 84) rfl)) rfl
theorem b_614 : Cond.methodLink RL 279 yX11_count ∈ BIG := bi (tin_6 _ (List.mem_of_getElem? (i := 52) rfl)) rfl
theorem b_615 : Cond.methodLink RL 282 yX12_count ∈ BIG := bi (tin_9 _ (List.mem_of_getElem? (i := 88) rfl)) rfl
theorem b_616 : Cond.methodLink RL 283 yX11_image ∈ BIG := bi (tin_6 _ (List.mem_of_getElem? (i := 60) rfl)) rfl
theorem b_617 : Cond.methodLink RL 286 yX12_image ∈ BIG := bi (tin_6 _ (List.mem_of_getElem? (i := 189) rfl)) rfl
theorem b_618 : Cond.methodLink RL 287 yX11_back ∈ BIG := bi (tin_6 _ (List.mem_of_getElem? (i := 64) rfl)) rfl
theorem b_619 : Cond.methodLink RL 290 yX12_back ∈ BIG := bi (tin_6 _ (List.mem_of_getElem? (i := 197) rfl)) rfl
theorem b_620 : Cond.methodLink RL 291 yX11_row ∈ BIG := bi (tin_6 _ (List.mem_of_getElem? (i := 68) rfl)) rfl
theorem b_621 : Cond.methodLink RL 294 yX12_row ∈ BIG := bi (tin_9 _ (List.mem_of_getElem? (i := 93) rfl)) rfl
theorem b_622 : Cond.constantLong RL 295 (4294967295) ∈ BIG := bi (tin_9 _ (List.mem_of_getElem? (i := 108) rfl)) rfl
theorem b_623 : Cond.methodLink RL 297 yX11_write ∈ BIG := bi (tin_6 _ (List.mem_of_getElem? (i := 79) rfl)) rfl
theorem b_624 : Cond.methodLink RL 301 yX12_write ∈ BIG := bi (tin_9 _ (List.mem_of_getElem? (i := 97) rfl)) rfl
theorem b_625 : Cond.methodLink RL 302 yX11_paste ∈ BIG := bi (tin_6 _ (List.mem_of_getElem? (i := 87) rfl)) rfl
theorem b_626 : Cond.methodLink RL 305 yX12_paste ∈ BIG := bi (tin_9 _ (List.mem_of_getElem? (i := 104) rfl)) rfl
theorem b_627 : Cond.code yX11_all cX11_all 1 (some .int) ∈ BIG := bi (tin_5 _ (List.mem_of_getElem? (i := 194) rfl)) rfl
theorem b_628 : Cond.instanceMethod yX11_all ∈ BIG := bi (tin_5 _ (List.mem_of_getElem? (i := 192) rfl)) rfl
theorem b_629 : Cond.selects RX11 yX11_all yX11_all ∈ BIG := bi (tin_5 _ (List.mem_of_getElem? (i := 193) rfl)) rfl
theorem b_630 : Cond.code yX11_back cX11_back 3 (some .int) ∈ BIG := bi (tin_6 _ (List.mem_of_getElem? (i := 67) rfl)) rfl
theorem b_631 : Cond.instanceMethod yX11_back ∈ BIG := bi (tin_6 _ (List.mem_of_getElem? (i := 65) rfl)) rfl
theorem b_632 : Cond.selects RX11 yX11_back yX11_back ∈ BIG := bi (tin_6 _ (List.mem_of_getElem? (i := 66) rfl)) rfl
theorem b_633 : Cond.code yX11_behind cX11_behind 3 (some .int) ∈ BIG := bi (tin_3 _ (List.mem_of_getElem? (i := 229) rfl)) rfl
theorem b_634 : Cond.instanceMethod yX11_behind ∈ BIG := bi (tin_3 _ (List.mem_of_getElem? (i := 227) rfl)) rfl
theorem b_635 : Cond.selects RX11 yX11_behind yX11_behind ∈ BIG := bi (tin_3 _ (List.mem_of_getElem? (i := 228) rfl)) rfl
theorem b_636 : Cond.code yX11_believes cX11_believes 3 (some .int) ∈ BIG := bi (tin_4 _ (List.mem_of_getElem? (i := 19) rfl)) rfl
theorem b_637 : Cond.instanceMethod yX11_believes ∈ BIG := bi (tin_4 _ (List.mem_of_getElem? (i := 17) rfl)) rfl
theorem b_638 : Cond.selects RX11 yX11_believes yX11_believes ∈ BIG := bi (tin_4 _ (List.mem_of_getElem? (i := 18) rfl)) rfl
theorem b_639 : Cond.code yX11_calm cX11_calm 5 (some .int) ∈ BIG := bi (tin_5 _ (List.mem_of_getElem? (i := 43) rfl)) rfl
theorem b_640 : Cond.instanceMethod yX11_calm ∈ BIG := bi (tin_5 _ (List.mem_of_getElem? (i := 41) rfl)) rfl
theorem b_641 : Cond.selects RX11 yX11_calm yX11_calm ∈ BIG := bi (tin_5 _ (List.mem_of_getElem? (i := 42) rfl)) rfl
theorem b_642 : Cond.code yX11_chance cX11_chance 5 (some .int) ∈ BIG := bi (tin_3 _ (List.mem_of_getElem? (i := 212) rfl)) rfl
theorem b_643 : Cond.instanceMethod yX11_chance ∈ BIG := bi (tin_3 _ (List.mem_of_getElem? (i := 210) rfl)) rfl
theorem b_644 : Cond.selects RX11 yX11_chance yX11_chance ∈ BIG := bi (tin_3 _ (List.mem_of_getElem? (i := 211) rfl)) rfl
theorem b_645 : Cond.code yX11_count cX11_count 2 (some .int) ∈ BIG := bi (tin_6 _ (List.mem_of_getElem? (i := 55) rfl)) rfl
theorem b_646 : Cond.instanceMethod yX11_count ∈ BIG := bi (tin_6 _ (List.mem_of_getElem? (i := 53) rfl)) rfl
theorem b_647 : Cond.selects RX11 yX11_count yX11_count ∈ BIG := bi (tin_6 _ (List.mem_of_getElem? (i := 54) rfl)) rfl
theorem b_648 : Cond.code yX11_desk cX11_desk 1 (some .int) ∈ BIG := bi (tin_2 _ (List.mem_of_getElem? (i := 206) rfl)) rfl
theorem b_649 : Cond.instanceMethod yX11_desk ∈ BIG := bi (tin_2 _ (List.mem_of_getElem? (i := 204) rfl)) rfl
theorem b_650 : Cond.selects RX11 yX11_desk yX11_desk ∈ BIG := bi (tin_2 _ (List.mem_of_getElem? (i := 205) rfl)) rfl
theorem b_651 : Cond.code yX11_doubt cX11_doubt 4 (some .int) ∈ BIG := bi (tin_6 _ (List.mem_of_getElem? (i := 21) rfl)) rfl
theorem b_652 : Cond.instanceMethod yX11_doubt ∈ BIG := bi (tin_6 _ (List.mem_of_getElem? (i := 19) rfl)) rfl
theorem b_653 : Cond.selects RX11 yX11_doubt yX11_doubt ∈ BIG := bi (tin_6 _ (List.mem_of_getElem? (i := 20) rfl)) rfl
theorem b_654 : Cond.code yX11_drawn cX11_drawn 7 (some .int) ∈ BIG := bi (tin_6 _ (List.mem_of_getElem? (i := 29) rfl)) rfl
theorem b_655 : Cond.instanceMethod yX11_drawn ∈ BIG := bi (tin_6 _ (List.mem_of_getElem? (i := 27) rfl)) rfl
theorem b_656 : Cond.selects RX11 yX11_drawn yX11_drawn ∈ BIG := bi (tin_6 _ (List.mem_of_getElem? (i := 28) rfl)) rfl
theorem b_657 : Cond.code yX11_end cX11_end 2 (some .int) ∈ BIG := bi (tin_2 _ (List.mem_of_getElem? (i := 202) rfl)) rfl
theorem b_658 : Cond.instanceMethod yX11_end ∈ BIG := bi (tin_2 _ (List.mem_of_getElem? (i := 200) rfl)) rfl
theorem b_659 : Cond.selects RX11 yX11_end yX11_end ∈ BIG := bi (tin_2 _ (List.mem_of_getElem? (i := 201) rfl)) rfl
theorem b_660 : Cond.code yX11_ends cX11_ends 2 (some .int) ∈ BIG := bi (tin_5 _ (List.mem_of_getElem? (i := 164) rfl)) rfl
theorem b_661 : Cond.instanceMethod yX11_ends ∈ BIG := bi (tin_5 _ (List.mem_of_getElem? (i := 162) rfl)) rfl
theorem b_662 : Cond.selects RX11 yX11_ends yX11_ends ∈ BIG := bi (tin_5 _ (List.mem_of_getElem? (i := 163) rfl)) rfl
theorem b_663 : Cond.code yX11_enough cX11_enough 4 (some .int) ∈ BIG := bi (tin_5 _ (List.mem_of_getElem? (i := 67) rfl)) rfl
theorem b_664 : Cond.instanceMethod yX11_enough ∈ BIG := bi (tin_5 _ (List.mem_of_getElem? (i := 65) rfl)) rfl
theorem b_665 : Cond.selects RX11 yX11_enough yX11_enough ∈ BIG := bi (tin_5 _ (List.mem_of_getElem? (i := 66) rfl)) rfl
theorem b_666 : Cond.code yX11_even cX11_even 3 (some .int) ∈ BIG := bi (tin_5 _ (List.mem_of_getElem? (i := 72) rfl)) rfl
theorem b_667 : Cond.instanceMethod yX11_even ∈ BIG := bi (tin_5 _ (List.mem_of_getElem? (i := 70) rfl)) rfl
theorem b_668 : Cond.selects RX11 yX11_even yX11_even ∈ BIG := bi (tin_5 _ (List.mem_of_getElem? (i := 71) rfl)) rfl
theorem b_669 : Cond.code yX11_fault cX11_fault 2 (some .int) ∈ BIG := bi (tin_3 _ (List.mem_of_getElem? (i := 135) rfl)) rfl
theorem b_670 : Cond.instanceMethod yX11_fault ∈ BIG := bi (tin_3 _ (List.mem_of_getElem? (i := 133) rfl)) rfl
theorem b_671 : Cond.selects RX11 yX11_fault yX11_fault ∈ BIG := bi (tin_3 _ (List.mem_of_getElem? (i := 134) rfl)) rfl
theorem b_672 : Cond.code yX11_feed cX11_feed 7 (some .int) ∈ BIG := bi (tin_2 _ (List.mem_of_getElem? (i := 194) rfl)) rfl
theorem b_673 : Cond.instanceMethod yX11_feed ∈ BIG := bi (tin_2 _ (List.mem_of_getElem? (i := 192) rfl)) rfl
theorem b_674 : Cond.selects RX11 yX11_feed yX11_feed ∈ BIG := bi (tin_2 _ (List.mem_of_getElem? (i := 193) rfl)) rfl
theorem b_675 : Cond.code yX11_fewest cX11_fewest 2 (some .int) ∈ BIG := bi (tin_5 _ (List.mem_of_getElem? (i := 24) rfl)) rfl
theorem b_676 : Cond.instanceMethod yX11_fewest ∈ BIG := bi (tin_5 _ (List.mem_of_getElem? (i := 22) rfl)) rfl
theorem b_677 : Cond.selects RX11 yX11_fewest yX11_fewest ∈ BIG := bi (tin_5 _ (List.mem_of_getElem? (i := 23) rfl)) rfl
theorem b_678 : Cond.code yX11_first cX11_first 1 (some .int) ∈ BIG := bi (tin_5 _ (List.mem_of_getElem? (i := 221) rfl)) rfl
theorem b_679 : Cond.instanceMethod yX11_first ∈ BIG := bi (tin_5 _ (List.mem_of_getElem? (i := 219) rfl)) rfl
theorem b_680 : Cond.selects RX11 yX11_first yX11_first ∈ BIG := bi (tin_5 _ (List.mem_of_getElem? (i := 220) rfl)) rfl
theorem b_681 : Cond.code yX11_gentlest cX11_gentlest 2 (some .int) ∈ BIG := bi (tin_5 _ (List.mem_of_getElem? (i := 4) rfl)) rfl
theorem b_682 : Cond.instanceMethod yX11_gentlest ∈ BIG := bi (tin_5 _ (List.mem_of_getElem? (i := 2) rfl)) rfl
theorem b_683 : Cond.selects RX11 yX11_gentlest yX11_gentlest ∈ BIG := bi (tin_5 _ (List.mem_of_getElem? (i := 3) rfl)) rfl
theorem b_684 : Cond.code yX11_gently cX11_gently 3 (some .int) ∈ BIG := bi (tin_5 _ (List.mem_of_getElem? (i := 8) rfl)) rfl
theorem b_685 : Cond.instanceMethod yX11_gently ∈ BIG := bi (tin_5 _ (List.mem_of_getElem? (i := 6) rfl)) rfl
theorem b_686 : Cond.selects RX11 yX11_gently yX11_gently ∈ BIG := bi (tin_5 _ (List.mem_of_getElem? (i := 7) rfl)) rfl
theorem b_687 : Cond.code yX11_grade cX11_grade 2 (some .int) ∈ BIG := bi (tin_3 _ (List.mem_of_getElem? (i := 139) rfl)) rfl
theorem b_688 : Cond.instanceMethod yX11_grade ∈ BIG := bi (tin_3 _ (List.mem_of_getElem? (i := 137) rfl)) rfl
theorem b_689 : Cond.selects RX11 yX11_grade yX11_grade ∈ BIG := bi (tin_3 _ (List.mem_of_getElem? (i := 138) rfl)) rfl
theorem b_690 : Cond.code yX11_guess cX11_guess 5 (some .int) ∈ BIG := bi (tin_5 _ (List.mem_of_getElem? (i := 233) rfl)) rfl
theorem b_691 : Cond.instanceMethod yX11_guess ∈ BIG := bi (tin_5 _ (List.mem_of_getElem? (i := 231) rfl)) rfl
theorem b_692 : Cond.selects RX11 yX11_guess yX11_guess ∈ BIG := bi (tin_5 _ (List.mem_of_getElem? (i := 232) rfl)) rfl
theorem b_693 : Cond.code yX11_heard cX11_heard 3 (some .int) ∈ BIG := bi (tin_5 _ (List.mem_of_getElem? (i := 198) rfl)) rfl
theorem b_694 : Cond.instanceMethod yX11_heard ∈ BIG := bi (tin_5 _ (List.mem_of_getElem? (i := 196) rfl)) rfl
theorem b_695 : Cond.selects RX11 yX11_heard yX11_heard ∈ BIG := bi (tin_5 _ (List.mem_of_getElem? (i := 197) rfl)) rfl
theorem b_696 : Cond.code yX11_honest cX11_honest 3 (some .int) ∈ BIG := bi (tin_5 _ (List.mem_of_getElem? (i := 0) rfl)) rfl
theorem b_697 : Cond.instanceMethod yX11_honest ∈ BIG := bi (tin_4 _ (List.mem_of_getElem? (i := 238) rfl)) rfl
theorem b_698 : Cond.selects RX11 yX11_honest yX11_honest ∈ BIG := bi (tin_4 _ (List.mem_of_getElem? (i := 239) rfl)) rfl
theorem b_699 : Cond.code yX11_hope cX11_hope 6 (some .int) ∈ BIG := bi (tin_5 _ (List.mem_of_getElem? (i := 20) rfl)) rfl
theorem b_700 : Cond.instanceMethod yX11_hope ∈ BIG := bi (tin_5 _ (List.mem_of_getElem? (i := 18) rfl)) rfl
theorem b_701 : Cond.selects RX11 yX11_hope yX11_hope ∈ BIG := bi (tin_5 _ (List.mem_of_getElem? (i := 19) rfl)) rfl
theorem b_702 : Cond.code yX11_hurt cX11_hurt 4 (some .int) ∈ BIG := bi (tin_4 _ (List.mem_of_getElem? (i := 2) rfl)) rfl
theorem b_703 : Cond.instanceMethod yX11_hurt ∈ BIG := bi (tin_4 _ (List.mem_of_getElem? (i := 0) rfl)) rfl
theorem b_704 : Cond.selects RX11 yX11_hurt yX11_hurt ∈ BIG := bi (tin_4 _ (List.mem_of_getElem? (i := 1) rfl)) rfl
theorem b_705 : Cond.code yX11_hurts cX11_hurts 4 (some .int) ∈ BIG := bi (tin_4 _ (List.mem_of_getElem? (i := 53) rfl)) rfl
theorem b_706 : Cond.instanceMethod yX11_hurts ∈ BIG := bi (tin_4 _ (List.mem_of_getElem? (i := 51) rfl)) rfl
theorem b_707 : Cond.selects RX11 yX11_hurts yX11_hurts ∈ BIG := bi (tin_4 _ (List.mem_of_getElem? (i := 52) rfl)) rfl
theorem b_708 : Cond.code yX11_idle cX11_idle 3 (some .int) ∈ BIG := bi (tin_5 _ (List.mem_of_getElem? (i := 59) rfl)) rfl
theorem b_709 : Cond.instanceMethod yX11_idle ∈ BIG := bi (tin_5 _ (List.mem_of_getElem? (i := 57) rfl)) rfl
theorem b_710 : Cond.selects RX11 yX11_idle yX11_idle ∈ BIG := bi (tin_5 _ (List.mem_of_getElem? (i := 58) rfl)) rfl
theorem b_711 : Cond.code yX11_image cX11_image 3 (some .int) ∈ BIG := bi (tin_6 _ (List.mem_of_getElem? (i := 63) rfl)) rfl
theorem b_712 : Cond.instanceMethod yX11_image ∈ BIG := bi (tin_6 _ (List.mem_of_getElem? (i := 61) rfl)) rfl
theorem b_713 : Cond.selects RX11 yX11_image yX11_image ∈ BIG := bi (tin_6 _ (List.mem_of_getElem? (i := 62) rfl)) rfl
theorem b_714 : Cond.code yX11_joined cX11_joined 2 (some .int) ∈ BIG := bi (tin_5 _ (List.mem_of_getElem? (i := 168) rfl)) rfl
theorem b_715 : Cond.instanceMethod yX11_joined ∈ BIG := bi (tin_5 _ (List.mem_of_getElem? (i := 166) rfl)) rfl
theorem b_716 : Cond.selects RX11 yX11_joined yX11_joined ∈ BIG := bi (tin_5 _ (List.mem_of_getElem? (i := 167) rfl)) rfl
theorem b_717 : Cond.code yX11_knew cX11_knew 4 (some .int) ∈ BIG := bi (tin_5 _ (List.mem_of_getElem? (i := 143) rfl)) rfl
theorem b_718 : Cond.instanceMethod yX11_knew ∈ BIG := bi (tin_5 _ (List.mem_of_getElem? (i := 141) rfl)) rfl
theorem b_719 : Cond.selects RX11 yX11_knew yX11_knew ∈ BIG := bi (tin_5 _ (List.mem_of_getElem? (i := 142) rfl)) rfl
theorem b_720 : Cond.code yX11_known cX11_known 3 (some .int) ∈ BIG := bi (tin_4 _ (List.mem_of_getElem? (i := 116) rfl)) rfl
theorem b_721 : Cond.instanceMethod yX11_known ∈ BIG := bi (tin_4 _ (List.mem_of_getElem? (i := 114) rfl)) rfl
theorem b_722 : Cond.selects RX11 yX11_known yX11_known ∈ BIG := bi (tin_4 _ (List.mem_of_getElem? (i := 115) rfl)) rfl
theorem b_723 : Cond.code yX11_late cX11_late 5 (some .int) ∈ BIG := bi (tin_5 _ (List.mem_of_getElem? (i := 38) rfl)) rfl
theorem b_724 : Cond.instanceMethod yX11_late ∈ BIG := bi (tin_5 _ (List.mem_of_getElem? (i := 36) rfl)) rfl
theorem b_725 : Cond.selects RX11 yX11_late yX11_late ∈ BIG := bi (tin_5 _ (List.mem_of_getElem? (i := 37) rfl)) rfl
theorem b_726 : Cond.code yX11_leaks cX11_leaks 5 (some .int) ∈ BIG := bi (tin_6 _ (List.mem_of_getElem? (i := 51) rfl)) rfl
theorem b_727 : Cond.instanceMethod yX11_leaks ∈ BIG := bi (tin_6 _ (List.mem_of_getElem? (i := 49) rfl)) rfl
theorem b_728 : Cond.selects RX11 yX11_leaks yX11_leaks ∈ BIG := bi (tin_6 _ (List.mem_of_getElem? (i := 50) rfl)) rfl
theorem b_729 : Cond.code yX11_least cX11_least 2 (some .int) ∈ BIG := bi (tin_4 _ (List.mem_of_getElem? (i := 220) rfl)) rfl
theorem b_730 : Cond.instanceMethod yX11_least ∈ BIG := bi (tin_4 _ (List.mem_of_getElem? (i := 218) rfl)) rfl
theorem b_731 : Cond.selects RX11 yX11_least yX11_least ∈ BIG := bi (tin_4 _ (List.mem_of_getElem? (i := 219) rfl)) rfl
theorem b_732 : Cond.code yX11_left cX11_left 4 (some .int) ∈ BIG := bi (tin_4 _ (List.mem_of_getElem? (i := 81) rfl)) rfl
theorem b_733 : Cond.instanceMethod yX11_left ∈ BIG := bi (tin_4 _ (List.mem_of_getElem? (i := 79) rfl)) rfl
theorem b_734 : Cond.selects RX11 yX11_left yX11_left ∈ BIG := bi (tin_4 _ (List.mem_of_getElem? (i := 80) rfl)) rfl
theorem b_735 : Cond.code yX11_letter cX11_letter 3 (some .int) ∈ BIG := bi (tin_5 _ (List.mem_of_getElem? (i := 190) rfl)) rfl
theorem b_736 : Cond.instanceMethod yX11_letter ∈ BIG := bi (tin_5 _ (List.mem_of_getElem? (i := 188) rfl)) rfl
theorem b_737 : Cond.selects RX11 yX11_letter yX11_letter ∈ BIG := bi (tin_5 _ (List.mem_of_getElem? (i := 189) rfl)) rfl
theorem b_738 : Cond.code yX11_lies cX11_lies 3 (some .int) ∈ BIG := bi (tin_4 _ (List.mem_of_getElem? (i := 94) rfl)) rfl
theorem b_739 : Cond.instanceMethod yX11_lies ∈ BIG := bi (tin_4 _ (List.mem_of_getElem? (i := 92) rfl)) rfl
theorem b_740 : Cond.selects RX11 yX11_lies yX11_lies ∈ BIG := bi (tin_4 _ (List.mem_of_getElem? (i := 93) rfl)) rfl
theorem b_741 : Cond.code yX11_mean cX11_mean 3 (some .int) ∈ BIG := bi (tin_3 _ (List.mem_of_getElem? (i := 195) rfl)) rfl
theorem b_742 : Cond.instanceMethod yX11_mean ∈ BIG := bi (tin_3 _ (List.mem_of_getElem? (i := 193) rfl)) rfl
theorem b_743 : Cond.selects RX11 yX11_mean yX11_mean ∈ BIG := bi (tin_3 _ (List.mem_of_getElem? (i := 194) rfl)) rfl
theorem b_744 : Cond.code yX11_news cX11_news 2 (some .int) ∈ BIG := bi (tin_3 _ (List.mem_of_getElem? (i := 183) rfl)) rfl
theorem b_745 : Cond.instanceMethod yX11_news ∈ BIG := bi (tin_3 _ (List.mem_of_getElem? (i := 181) rfl)) rfl
theorem b_746 : Cond.selects RX11 yX11_news yX11_news ∈ BIG := bi (tin_3 _ (List.mem_of_getElem? (i := 182) rfl)) rfl
theorem b_747 : Cond.code yX11_now cX11_now 4 (some .int) ∈ BIG := bi (tin_5 _ (List.mem_of_getElem? (i := 111) rfl)) rfl
theorem b_748 : Cond.instanceMethod yX11_now ∈ BIG := bi (tin_5 _ (List.mem_of_getElem? (i := 109) rfl)) rfl
theorem b_749 : Cond.selects RX11 yX11_now yX11_now ∈ BIG := bi (tin_5 _ (List.mem_of_getElem? (i := 110) rfl)) rfl
theorem b_750 : Cond.code yX11_once cX11_once 2 (some .int) ∈ BIG := bi (tin_5 _ (List.mem_of_getElem? (i := 28) rfl)) rfl
theorem b_751 : Cond.instanceMethod yX11_once ∈ BIG := bi (tin_5 _ (List.mem_of_getElem? (i := 26) rfl)) rfl
theorem b_752 : Cond.selects RX11 yX11_once yX11_once ∈ BIG := bi (tin_5 _ (List.mem_of_getElem? (i := 27) rfl)) rfl
theorem b_753 : Cond.code yX11_ordered cX11_ordered 5 (some .int) ∈ BIG := bi (tin_4 _ (List.mem_of_getElem? (i := 165) rfl)) rfl
theorem b_754 : Cond.instanceMethod yX11_ordered ∈ BIG := bi (tin_4 _ (List.mem_of_getElem? (i := 163) rfl)) rfl
theorem b_755 : Cond.selects RX11 yX11_ordered yX11_ordered ∈ BIG := bi (tin_4 _ (List.mem_of_getElem? (i := 164) rfl)) rfl
theorem b_756 : Cond.code yX11_paste cX11_paste 8 (some .int) ∈ BIG := bi (tin_6 _ (List.mem_of_getElem? (i := 90) rfl)) rfl
theorem b_757 : Cond.instanceMethod yX11_paste ∈ BIG := bi (tin_6 _ (List.mem_of_getElem? (i := 88) rfl)) rfl
theorem b_758 : Cond.selects RX11 yX11_paste yX11_paste ∈ BIG := bi (tin_6 _ (List.mem_of_getElem? (i := 89) rfl)) rfl
theorem b_759 : Cond.code yX11_plan cX11_plan 3 (some .int) ∈ BIG := bi (tin_3 _ (List.mem_of_getElem? (i := 171) rfl)) rfl
theorem b_760 : Cond.instanceMethod yX11_plan ∈ BIG := bi (tin_3 _ (List.mem_of_getElem? (i := 169) rfl)) rfl
theorem b_761 : Cond.selects RX11 yX11_plan yX11_plan ∈ BIG := bi (tin_3 _ (List.mem_of_getElem? (i := 170) rfl)) rfl
theorem b_762 : Cond.code yX11_read cX11_read 3 (some .int) ∈ BIG := bi (tin_5 _ (List.mem_of_getElem? (i := 225) rfl)) rfl
theorem b_763 : Cond.instanceMethod yX11_read ∈ BIG := bi (tin_5 _ (List.mem_of_getElem? (i := 223) rfl)) rfl
theorem b_764 : Cond.selects RX11 yX11_read yX11_read ∈ BIG := bi (tin_5 _ (List.mem_of_getElem? (i := 224) rfl)) rfl
theorem b_765 : Cond.code yX11_really cX11_really 2 (some .int) ∈ BIG := bi (tin_6 _ (List.mem_of_getElem? (i := 17) rfl)) rfl
theorem b_766 : Cond.instanceMethod yX11_really ∈ BIG := bi (tin_6 _ (List.mem_of_getElem? (i := 15) rfl)) rfl
theorem b_767 : Cond.selects RX11 yX11_really yX11_really ∈ BIG := bi (tin_6 _ (List.mem_of_getElem? (i := 16) rfl)) rfl
theorem b_768 : Cond.code yX11_reckoned cX11_reckoned 4 (some .int) ∈ BIG := bi (tin_5 _ (List.mem_of_getElem? (i := 151) rfl)) rfl
theorem b_769 : Cond.instanceMethod yX11_reckoned ∈ BIG := bi (tin_5 _ (List.mem_of_getElem? (i := 149) rfl)) rfl
theorem b_770 : Cond.selects RX11 yX11_reckoned yX11_reckoned ∈ BIG := bi (tin_5 _ (List.mem_of_getElem? (i := 150) rfl)) rfl
theorem b_771 : Cond.code yX11_rest cX11_rest 5 (some .int) ∈ BIG := bi (tin_4 _ (List.mem_of_getElem? (i := 169) rfl)) rfl
theorem b_772 : Cond.instanceMethod yX11_rest ∈ BIG := bi (tin_4 _ (List.mem_of_getElem? (i := 167) rfl)) rfl
theorem b_773 : Cond.selects RX11 yX11_rest yX11_rest ∈ BIG := bi (tin_4 _ (List.mem_of_getElem? (i := 168) rfl)) rfl
theorem b_774 : Cond.code yX11_risk cX11_risk 2 (some .int) ∈ BIG := bi (tin_5 _ (List.mem_of_getElem? (i := 84) rfl)) rfl
theorem b_775 : Cond.instanceMethod yX11_risk ∈ BIG := bi (tin_5 _ (List.mem_of_getElem? (i := 82) rfl)) rfl
theorem b_776 : Cond.selects RX11 yX11_risk yX11_risk ∈ BIG := bi (tin_5 _ (List.mem_of_getElem? (i := 83) rfl)) rfl
theorem b_777 : Cond.code yX11_row cX11_row 5 (some .int) ∈ BIG := bi (tin_6 _ (List.mem_of_getElem? (i := 71) rfl)) rfl
theorem b_778 : Cond.instanceMethod yX11_row ∈ BIG := bi (tin_6 _ (List.mem_of_getElem? (i := 69) rfl)) rfl
theorem b_779 : Cond.selects RX11 yX11_row yX11_row ∈ BIG := bi (tin_6 _ (List.mem_of_getElem? (i := 70) rfl)) rfl
theorem b_780 : Cond.code yX11_shames cX11_shames 3 (some .int) ∈ BIG := bi (tin_4 _ (List.mem_of_getElem? (i := 103) rfl)) rfl
theorem b_781 : Cond.instanceMethod yX11_shames ∈ BIG := bi (tin_4 _ (List.mem_of_getElem? (i := 101) rfl)) rfl
theorem b_782 : Cond.selects RX11 yX11_shames yX11_shames ∈ BIG := bi (tin_4 _ (List.mem_of_getElem? (i := 102) rfl)) rfl
theorem b_783 : Cond.code yX11_shock cX11_shock 6 (some .int) ∈ BIG := bi (tin_5 _ (List.mem_of_getElem? (i := 47) rfl)) rfl
theorem b_784 : Cond.instanceMethod yX11_shock ∈ BIG := bi (tin_5 _ (List.mem_of_getElem? (i := 45) rfl)) rfl
theorem b_785 : Cond.selects RX11 yX11_shock yX11_shock ∈ BIG := bi (tin_5 _ (List.mem_of_getElem? (i := 46) rfl)) rfl
theorem b_786 : Cond.code yX11_softer cX11_softer 4 (some .int) ∈ BIG := bi (tin_4 _ (List.mem_of_getElem? (i := 128) rfl)) rfl
theorem b_787 : Cond.instanceMethod yX11_softer ∈ BIG := bi (tin_4 _ (List.mem_of_getElem? (i := 126) rfl)) rfl
theorem b_788 : Cond.selects RX11 yX11_softer yX11_softer ∈ BIG := bi (tin_4 _ (List.mem_of_getElem? (i := 127) rfl)) rfl
theorem b_789 : Cond.code yX11_softest cX11_softest 7 (some .int) ∈ BIG := bi (tin_4 _ (List.mem_of_getElem? (i := 14) rfl)) rfl
theorem b_790 : Cond.instanceMethod yX11_softest ∈ BIG := bi (tin_4 _ (List.mem_of_getElem? (i := 12) rfl)) rfl
theorem b_791 : Cond.selects RX11 yX11_softest yX11_softest ∈ BIG := bi (tin_4 _ (List.mem_of_getElem? (i := 13) rfl)) rfl
theorem b_792 : Cond.code yX11_soon cX11_soon 8 (some .int) ∈ BIG := bi (tin_5 _ (List.mem_of_getElem? (i := 115) rfl)) rfl
theorem b_793 : Cond.instanceMethod yX11_soon ∈ BIG := bi (tin_5 _ (List.mem_of_getElem? (i := 113) rfl)) rfl
theorem b_794 : Cond.selects RX11 yX11_soon yX11_soon ∈ BIG := bi (tin_5 _ (List.mem_of_getElem? (i := 114) rfl)) rfl
theorem b_795 : Cond.code yX11_step cX11_step 3 (some .int) ∈ BIG := bi (tin_4 _ (List.mem_of_getElem? (i := 224) rfl)) rfl
theorem b_796 : Cond.instanceMethod yX11_step ∈ BIG := bi (tin_4 _ (List.mem_of_getElem? (i := 222) rfl)) rfl
theorem b_797 : Cond.selects RX11 yX11_step yX11_step ∈ BIG := bi (tin_4 _ (List.mem_of_getElem? (i := 223) rfl)) rfl
theorem b_798 : Cond.code yX11_steps cX11_steps 7 (some .int) ∈ BIG := bi (tin_5 _ (List.mem_of_getElem? (i := 79) rfl)) rfl
theorem b_799 : Cond.instanceMethod yX11_steps ∈ BIG := bi (tin_5 _ (List.mem_of_getElem? (i := 77) rfl)) rfl
theorem b_800 : Cond.selects RX11 yX11_steps yX11_steps ∈ BIG := bi (tin_5 _ (List.mem_of_getElem? (i := 78) rfl)) rfl
theorem b_801 : Cond.code yX11_suspects cX11_suspects 3 (some .int) ∈ BIG := bi (tin_5 _ (List.mem_of_getElem? (i := 125) rfl)) rfl
theorem b_802 : Cond.instanceMethod yX11_suspects ∈ BIG := bi (tin_5 _ (List.mem_of_getElem? (i := 123) rfl)) rfl
theorem b_803 : Cond.selects RX11 yX11_suspects yX11_suspects ∈ BIG := bi (tin_5 _ (List.mem_of_getElem? (i := 124) rfl)) rfl
theorem b_804 : Cond.code yX11_tells cX11_tells 2 (some .int) ∈ BIG := bi (tin_3 _ (List.mem_of_getElem? (i := 191) rfl)) rfl
theorem b_805 : Cond.instanceMethod yX11_tells ∈ BIG := bi (tin_3 _ (List.mem_of_getElem? (i := 189) rfl)) rfl
theorem b_806 : Cond.selects RX11 yX11_tells yX11_tells ∈ BIG := bi (tin_3 _ (List.mem_of_getElem? (i := 190) rfl)) rfl
theorem b_807 : Cond.code yX11_tender cX11_tender 2 (some .int) ∈ BIG := bi (tin_5 _ (List.mem_of_getElem? (i := 12) rfl)) rfl
theorem b_808 : Cond.instanceMethod yX11_tender ∈ BIG := bi (tin_5 _ (List.mem_of_getElem? (i := 10) rfl)) rfl
theorem b_809 : Cond.selects RX11 yX11_tender yX11_tender ∈ BIG := bi (tin_5 _ (List.mem_of_getElem? (i := 11) rfl)) rfl
theorem b_810 : Cond.code yX11_tenderly cX11_tenderly 3 (some .int) ∈ BIG := bi (tin_5 _ (List.mem_of_getElem? (i := 16) rfl)) rfl
theorem b_811 : Cond.instanceMethod yX11_tenderly ∈ BIG := bi (tin_5 _ (List.mem_of_getElem? (i := 14) rfl)) rfl
theorem b_812 : Cond.selects RX11 yX11_tenderly yX11_tenderly ∈ BIG := bi (tin_5 _ (List.mem_of_getElem? (i := 15) rfl)) rfl
theorem b_813 : Cond.code yX11_thinks cX11_thinks 3 (some .int) ∈ BIG := bi (tin_3 _ (List.mem_of_getElem? (i := 147) rfl)) rfl
theorem b_814 : Cond.instanceMethod yX11_thinks ∈ BIG := bi (tin_3 _ (List.mem_of_getElem? (i := 145) rfl)) rfl
theorem b_815 : Cond.selects RX11 yX11_thinks yX11_thinks ∈ BIG := bi (tin_3 _ (List.mem_of_getElem? (i := 146) rfl)) rfl
theorem b_816 : Cond.code yX11_truly cX11_truly 2 (some .int) ∈ BIG := bi (tin_4 _ (List.mem_of_getElem? (i := 236) rfl)) rfl
theorem b_817 : Cond.instanceMethod yX11_truly ∈ BIG := bi (tin_4 _ (List.mem_of_getElem? (i := 234) rfl)) rfl
theorem b_818 : Cond.selects RX11 yX11_truly yX11_truly ∈ BIG := bi (tin_4 _ (List.mem_of_getElem? (i := 235) rfl)) rfl
theorem b_819 : Cond.code yX11_undo cX11_undo 2 (some .int) ∈ BIG := bi (tin_6 _ (List.mem_of_getElem? (i := 25) rfl)) rfl
theorem b_820 : Cond.instanceMethod yX11_undo ∈ BIG := bi (tin_6 _ (List.mem_of_getElem? (i := 23) rfl)) rfl
theorem b_821 : Cond.selects RX11 yX11_undo yX11_undo ∈ BIG := bi (tin_6 _ (List.mem_of_getElem? (i := 24) rfl)) rfl
theorem b_822 : Cond.code yX11_unsaid cX11_unsaid 3 (some .int) ∈ BIG := bi (tin_5 _ (List.mem_of_getElem? (i := 51) rfl)) rfl
theorem b_823 : Cond.instanceMethod yX11_unsaid ∈ BIG := bi (tin_5 _ (List.mem_of_getElem? (i := 49) rfl)) rfl
theorem b_824 : Cond.selects RX11 yX11_unsaid yX11_unsaid ∈ BIG := bi (tin_5 _ (List.mem_of_getElem? (i := 50) rfl)) rfl
theorem b_825 : Cond.code yX11_whom cX11_whom 1 (some .int) ∈ BIG := bi (tin_5 _ (List.mem_of_getElem? (i := 210) rfl)) rfl
theorem b_826 : Cond.instanceMethod yX11_whom ∈ BIG := bi (tin_5 _ (List.mem_of_getElem? (i := 208) rfl)) rfl
theorem b_827 : Cond.selects RX11 yX11_whom yX11_whom ∈ BIG := bi (tin_5 _ (List.mem_of_getElem? (i := 209) rfl)) rfl
theorem b_828 : Cond.code yX11_word cX11_word 3 (some .int) ∈ BIG := bi (tin_3 _ (List.mem_of_getElem? (i := 159) rfl)) rfl
theorem b_829 : Cond.instanceMethod yX11_word ∈ BIG := bi (tin_3 _ (List.mem_of_getElem? (i := 157) rfl)) rfl
theorem b_830 : Cond.selects RX11 yX11_word yX11_word ∈ BIG := bi (tin_3 _ (List.mem_of_getElem? (i := 158) rfl)) rfl
theorem b_831 : Cond.code yX11_worsen cX11_worsen 3 (some .int) ∈ BIG := bi (tin_5 _ (List.mem_of_getElem? (i := 237) rfl)) rfl
theorem b_832 : Cond.instanceMethod yX11_worsen ∈ BIG := bi (tin_5 _ (List.mem_of_getElem? (i := 235) rfl)) rfl
theorem b_833 : Cond.selects RX11 yX11_worsen yX11_worsen ∈ BIG := bi (tin_5 _ (List.mem_of_getElem? (i := 236) rfl)) rfl
theorem b_834 : Cond.code yX11_worst cX11_worst 4 (some .int) ∈ BIG := bi (tin_4 _ (List.mem_of_getElem? (i := 70) rfl)) rfl
theorem b_835 : Cond.instanceMethod yX11_worst ∈ BIG := bi (tin_4 _ (List.mem_of_getElem? (i := 68) rfl)) rfl
theorem b_836 : Cond.selects RX11 yX11_worst yX11_worst ∈ BIG := bi (tin_4 _ (List.mem_of_getElem? (i := 69) rfl)) rfl
theorem b_837 : Cond.code yX11_write cX11_write 6 (some .int) ∈ BIG := bi (tin_6 _ (List.mem_of_getElem? (i := 82) rfl)) rfl
theorem b_838 : Cond.instanceMethod yX11_write ∈ BIG := bi (tin_6 _ (List.mem_of_getElem? (i := 80) rfl)) rfl
theorem b_839 : Cond.selects RX11 yX11_write yX11_write ∈ BIG := bi (tin_6 _ (List.mem_of_getElem? (i := 81) rfl)) rfl
theorem b_840 : Cond.code yX12_all cX12_all 1 (some .int) ∈ BIG := bi (tin_9 _ (List.mem_of_getElem? (i := 9) rfl)) rfl
theorem b_841 : Cond.instanceMethod yX12_all ∈ BIG := bi (tin_9 _ (List.mem_of_getElem? (i := 7) rfl)) rfl
theorem b_842 : Cond.selects RX12 yX12_all yX12_all ∈ BIG := bi (tin_9 _ (List.mem_of_getElem? (i := 8) rfl)) rfl
theorem b_843 : Cond.code yX12_back cX12_back 3 (some .int) ∈ BIG := bi (tin_6 _ (List.mem_of_getElem? (i := 200) rfl)) rfl
theorem b_844 : Cond.instanceMethod yX12_back ∈ BIG := bi (tin_6 _ (List.mem_of_getElem? (i := 198) rfl)) rfl
theorem b_845 : Cond.selects RX12 yX12_back yX12_back ∈ BIG := bi (tin_6 _ (List.mem_of_getElem? (i := 199) rfl)) rfl
theorem b_846 : Cond.code yX12_behind cX12_behind 3 (some .int) ∈ BIG := bi (tin_7 _ (List.mem_of_getElem? (i := 182) rfl)) rfl
theorem b_847 : Cond.instanceMethod yX12_behind ∈ BIG := bi (tin_7 _ (List.mem_of_getElem? (i := 180) rfl)) rfl
theorem b_848 : Cond.selects RX12 yX12_behind yX12_behind ∈ BIG := bi (tin_7 _ (List.mem_of_getElem? (i := 181) rfl)) rfl
theorem b_849 : Cond.code yX12_believes cX12_believes 5 (some .int) ∈ BIG := bi (tin_7 _ (List.mem_of_getElem? (i := 211) rfl)) rfl
theorem b_850 : Cond.instanceMethod yX12_believes ∈ BIG := bi (tin_7 _ (List.mem_of_getElem? (i := 209) rfl)) rfl
theorem b_851 : Cond.selects RX12 yX12_believes yX12_believes ∈ BIG := bi (tin_7 _ (List.mem_of_getElem? (i := 210) rfl)) rfl
theorem b_852 : Cond.code yX12_calm cX12_calm 5 (some .int) ∈ BIG := bi (tin_8 _ (List.mem_of_getElem? (i := 115) rfl)) rfl
theorem b_853 : Cond.instanceMethod yX12_calm ∈ BIG := bi (tin_8 _ (List.mem_of_getElem? (i := 113) rfl)) rfl
theorem b_854 : Cond.selects RX12 yX12_calm yX12_calm ∈ BIG := bi (tin_8 _ (List.mem_of_getElem? (i := 114) rfl)) rfl
theorem b_855 : Cond.code yX12_chance cX12_chance 5 (some .int) ∈ BIG := bi (tin_7 _ (List.mem_of_getElem? (i := 168) rfl)) rfl
theorem b_856 : Cond.instanceMethod yX12_chance ∈ BIG := bi (tin_7 _ (List.mem_of_getElem? (i := 166) rfl)) rfl
theorem b_857 : Cond.selects RX12 yX12_chance yX12_chance ∈ BIG := bi (tin_7 _ (List.mem_of_getElem? (i := 167) rfl)) rfl
theorem b_858 : Cond.code yX12_count cX12_count 4 (some .int) ∈ BIG := bi (tin_9 _ (List.mem_of_getElem? (i := 91) rfl)) rfl
theorem b_859 : Cond.instanceMethod yX12_count ∈ BIG := bi (tin_9 _ (List.mem_of_getElem? (i := 89) rfl)) rfl
theorem b_860 : Cond.selects RX12 yX12_count yX12_count ∈ BIG := bi (tin_9 _ (List.mem_of_getElem? (i := 90) rfl)) rfl
theorem b_861 : Cond.code yX12_desk cX12_desk 2 (some .int) ∈ BIG := bi (tin_6 _ (List.mem_of_getElem? (i := 216) rfl)) rfl
theorem b_862 : Cond.instanceMethod yX12_desk ∈ BIG := bi (tin_6 _ (List.mem_of_getElem? (i := 214) rfl)) rfl
theorem b_863 : Cond.selects RX12 yX12_desk yX12_desk ∈ BIG := bi (tin_6 _ (List.mem_of_getElem? (i := 215) rfl)) rfl
theorem b_864 : Cond.code yX12_doubt cX12_doubt 4 (some .int) ∈ BIG := bi (tin_9 _ (List.mem_of_getElem? (i := 62) rfl)) rfl
theorem b_865 : Cond.instanceMethod yX12_doubt ∈ BIG := bi (tin_9 _ (List.mem_of_getElem? (i := 60) rfl)) rfl
theorem b_866 : Cond.selects RX12 yX12_doubt yX12_doubt ∈ BIG := bi (tin_9 _ (List.mem_of_getElem? (i := 61) rfl)) rfl
theorem b_867 : Cond.code yX12_drawn cX12_drawn 11 (some .int) ∈ BIG := bi (tin_9 _ (List.mem_of_getElem? (i := 71) rfl)) rfl
theorem b_868 : Cond.instanceMethod yX12_drawn ∈ BIG := bi (tin_9 _ (List.mem_of_getElem? (i := 69) rfl)) rfl
theorem b_869 : Cond.selects RX12 yX12_drawn yX12_drawn ∈ BIG := bi (tin_9 _ (List.mem_of_getElem? (i := 70) rfl)) rfl
theorem b_870 : Cond.code yX12_end cX12_end 2 (some .int) ∈ BIG := bi (tin_6 _ (List.mem_of_getElem? (i := 208) rfl)) rfl
theorem b_871 : Cond.instanceMethod yX12_end ∈ BIG := bi (tin_6 _ (List.mem_of_getElem? (i := 206) rfl)) rfl
theorem b_872 : Cond.selects RX12 yX12_end yX12_end ∈ BIG := bi (tin_6 _ (List.mem_of_getElem? (i := 207) rfl)) rfl
theorem b_873 : Cond.code yX12_ends cX12_ends 2 (some .int) ∈ BIG := bi (tin_8 _ (List.mem_of_getElem? (i := 220) rfl)) rfl
theorem b_874 : Cond.instanceMethod yX12_ends ∈ BIG := bi (tin_8 _ (List.mem_of_getElem? (i := 218) rfl)) rfl
theorem b_875 : Cond.selects RX12 yX12_ends yX12_ends ∈ BIG := bi (tin_8 _ (List.mem_of_getElem? (i := 219) rfl)) rfl
theorem b_876 : Cond.code yX12_enough cX12_enough 4 (some .int) ∈ BIG := bi (tin_8 _ (List.mem_of_getElem? (i := 131) rfl)) rfl
theorem b_877 : Cond.instanceMethod yX12_enough ∈ BIG := bi (tin_8 _ (List.mem_of_getElem? (i := 129) rfl)) rfl
theorem b_878 : Cond.selects RX12 yX12_enough yX12_enough ∈ BIG := bi (tin_8 _ (List.mem_of_getElem? (i := 130) rfl)) rfl
theorem b_879 : Cond.code yX12_even cX12_even 3 (some .int) ∈ BIG := bi (tin_8 _ (List.mem_of_getElem? (i := 167) rfl)) rfl
theorem b_880 : Cond.instanceMethod yX12_even ∈ BIG := bi (tin_8 _ (List.mem_of_getElem? (i := 165) rfl)) rfl
theorem b_881 : Cond.selects RX12 yX12_even yX12_even ∈ BIG := bi (tin_8 _ (List.mem_of_getElem? (i := 166) rfl)) rfl
theorem b_882 : Cond.code yX12_fault cX12_fault 2 (some .int) ∈ BIG := bi (tin_6 _ (List.mem_of_getElem? (i := 212) rfl)) rfl
theorem b_883 : Cond.instanceMethod yX12_fault ∈ BIG := bi (tin_6 _ (List.mem_of_getElem? (i := 210) rfl)) rfl
theorem b_884 : Cond.selects RX12 yX12_fault yX12_fault ∈ BIG := bi (tin_6 _ (List.mem_of_getElem? (i := 211) rfl)) rfl
theorem b_885 : Cond.code yX12_feed cX12_feed 7 (some .int) ∈ BIG := bi (tin_6 _ (List.mem_of_getElem? (i := 204) rfl)) rfl
theorem b_886 : Cond.instanceMethod yX12_feed ∈ BIG := bi (tin_6 _ (List.mem_of_getElem? (i := 202) rfl)) rfl
theorem b_887 : Cond.selects RX12 yX12_feed yX12_feed ∈ BIG := bi (tin_6 _ (List.mem_of_getElem? (i := 203) rfl)) rfl
theorem b_888 : Cond.code yX12_fewest cX12_fewest 1 (some .int) ∈ BIG := bi (tin_8 _ (List.mem_of_getElem? (i := 103) rfl)) rfl
theorem b_889 : Cond.instanceMethod yX12_fewest ∈ BIG := bi (tin_8 _ (List.mem_of_getElem? (i := 101) rfl)) rfl
theorem b_890 : Cond.selects RX12 yX12_fewest yX12_fewest ∈ BIG := bi (tin_8 _ (List.mem_of_getElem? (i := 102) rfl)) rfl
theorem b_891 : Cond.code yX12_first cX12_first 1 (some .int) ∈ BIG := bi (tin_9 _ (List.mem_of_getElem? (i := 33) rfl)) rfl
theorem b_892 : Cond.instanceMethod yX12_first ∈ BIG := bi (tin_9 _ (List.mem_of_getElem? (i := 31) rfl)) rfl
theorem b_893 : Cond.selects RX12 yX12_first yX12_first ∈ BIG := bi (tin_9 _ (List.mem_of_getElem? (i := 32) rfl)) rfl
theorem b_894 : Cond.code yX12_gentlest cX12_gentlest 2 (some .int) ∈ BIG := bi (tin_8 _ (List.mem_of_getElem? (i := 83) rfl)) rfl
theorem b_895 : Cond.instanceMethod yX12_gentlest ∈ BIG := bi (tin_8 _ (List.mem_of_getElem? (i := 81) rfl)) rfl
theorem b_896 : Cond.selects RX12 yX12_gentlest yX12_gentlest ∈ BIG := bi (tin_8 _ (List.mem_of_getElem? (i := 82) rfl)) rfl
theorem b_897 : Cond.code yX12_gently cX12_gently 3 (some .int) ∈ BIG := bi (tin_8 _ (List.mem_of_getElem? (i := 87) rfl)) rfl
theorem b_898 : Cond.instanceMethod yX12_gently ∈ BIG := bi (tin_8 _ (List.mem_of_getElem? (i := 85) rfl)) rfl
theorem b_899 : Cond.selects RX12 yX12_gently yX12_gently ∈ BIG := bi (tin_8 _ (List.mem_of_getElem? (i := 86) rfl)) rfl
theorem b_900 : Cond.code yX12_grade cX12_grade 2 (some .int) ∈ BIG := bi (tin_7 _ (List.mem_of_getElem? (i := 78) rfl)) rfl
theorem b_901 : Cond.instanceMethod yX12_grade ∈ BIG := bi (tin_7 _ (List.mem_of_getElem? (i := 76) rfl)) rfl
theorem b_902 : Cond.selects RX12 yX12_grade yX12_grade ∈ BIG := bi (tin_7 _ (List.mem_of_getElem? (i := 77) rfl)) rfl
theorem b_903 : Cond.code yX12_guess cX12_guess 4 (some .int) ∈ BIG := bi (tin_9 _ (List.mem_of_getElem? (i := 45) rfl)) rfl
theorem b_904 : Cond.instanceMethod yX12_guess ∈ BIG := bi (tin_9 _ (List.mem_of_getElem? (i := 43) rfl)) rfl
theorem b_905 : Cond.selects RX12 yX12_guess yX12_guess ∈ BIG := bi (tin_9 _ (List.mem_of_getElem? (i := 44) rfl)) rfl
theorem b_906 : Cond.code yX12_heard cX12_heard 3 (some .int) ∈ BIG := bi (tin_9 _ (List.mem_of_getElem? (i := 13) rfl)) rfl
theorem b_907 : Cond.instanceMethod yX12_heard ∈ BIG := bi (tin_9 _ (List.mem_of_getElem? (i := 11) rfl)) rfl
theorem b_908 : Cond.selects RX12 yX12_heard yX12_heard ∈ BIG := bi (tin_9 _ (List.mem_of_getElem? (i := 12) rfl)) rfl
theorem b_909 : Cond.code yX12_honest cX12_honest 3 (some .int) ∈ BIG := bi (tin_8 _ (List.mem_of_getElem? (i := 79) rfl)) rfl
theorem b_910 : Cond.instanceMethod yX12_honest ∈ BIG := bi (tin_8 _ (List.mem_of_getElem? (i := 77) rfl)) rfl
theorem b_911 : Cond.selects RX12 yX12_honest yX12_honest ∈ BIG := bi (tin_8 _ (List.mem_of_getElem? (i := 78) rfl)) rfl
theorem b_912 : Cond.code yX12_hope cX12_hope 8 (some .int) ∈ BIG := bi (tin_8 _ (List.mem_of_getElem? (i := 99) rfl)) rfl
theorem b_913 : Cond.instanceMethod yX12_hope ∈ BIG := bi (tin_8 _ (List.mem_of_getElem? (i := 97) rfl)) rfl
theorem b_914 : Cond.selects RX12 yX12_hope yX12_hope ∈ BIG := bi (tin_8 _ (List.mem_of_getElem? (i := 98) rfl)) rfl
theorem b_915 : Cond.code yX12_hurt cX12_hurt 4 (some .int) ∈ BIG := bi (tin_7 _ (List.mem_of_getElem? (i := 195) rfl)) rfl
theorem b_916 : Cond.instanceMethod yX12_hurt ∈ BIG := bi (tin_7 _ (List.mem_of_getElem? (i := 193) rfl)) rfl
theorem b_917 : Cond.selects RX12 yX12_hurt yX12_hurt ∈ BIG := bi (tin_7 _ (List.mem_of_getElem? (i := 194) rfl)) rfl
theorem b_918 : Cond.code yX12_hurts cX12_hurts 4 (some .int) ∈ BIG := bi (tin_7 _ (List.mem_of_getElem? (i := 231) rfl)) rfl
theorem b_919 : Cond.instanceMethod yX12_hurts ∈ BIG := bi (tin_7 _ (List.mem_of_getElem? (i := 229) rfl)) rfl
theorem b_920 : Cond.selects RX12 yX12_hurts yX12_hurts ∈ BIG := bi (tin_7 _ (List.mem_of_getElem? (i := 230) rfl)) rfl
theorem b_921 : Cond.code yX12_idle cX12_idle 5 (some .int) ∈ BIG := bi (tin_8 _ (List.mem_of_getElem? (i := 127) rfl)) rfl
theorem b_922 : Cond.instanceMethod yX12_idle ∈ BIG := bi (tin_8 _ (List.mem_of_getElem? (i := 125) rfl)) rfl
theorem b_923 : Cond.selects RX12 yX12_idle yX12_idle ∈ BIG := bi (tin_8 _ (List.mem_of_getElem? (i := 126) rfl)) rfl
theorem b_924 : Cond.code yX12_image cX12_image 3 (some .int) ∈ BIG := bi (tin_6 _ (List.mem_of_getElem? (i := 192) rfl)) rfl
theorem b_925 : Cond.instanceMethod yX12_image ∈ BIG := bi (tin_6 _ (List.mem_of_getElem? (i := 190) rfl)) rfl
theorem b_926 : Cond.selects RX12 yX12_image yX12_image ∈ BIG := bi (tin_6 _ (List.mem_of_getElem? (i := 191) rfl)) rfl
theorem b_927 : Cond.code yX12_joined cX12_joined 2 (some .int) ∈ BIG := bi (tin_8 _ (List.mem_of_getElem? (i := 224) rfl)) rfl
theorem b_928 : Cond.instanceMethod yX12_joined ∈ BIG := bi (tin_8 _ (List.mem_of_getElem? (i := 222) rfl)) rfl
theorem b_929 : Cond.selects RX12 yX12_joined yX12_joined ∈ BIG := bi (tin_8 _ (List.mem_of_getElem? (i := 223) rfl)) rfl
theorem b_930 : Cond.code yX12_knew cX12_knew 4 (some .int) ∈ BIG := bi (tin_8 _ (List.mem_of_getElem? (i := 204) rfl)) rfl
theorem b_931 : Cond.instanceMethod yX12_knew ∈ BIG := bi (tin_8 _ (List.mem_of_getElem? (i := 202) rfl)) rfl
theorem b_932 : Cond.selects RX12 yX12_knew yX12_knew ∈ BIG := bi (tin_8 _ (List.mem_of_getElem? (i := 203) rfl)) rfl
theorem b_933 : Cond.code yX12_known cX12_known 6 (some .int) ∈ BIG := bi (tin_8 _ (List.mem_of_getElem? (i := 25) rfl)) rfl
theorem b_934 : Cond.instanceMethod yX12_known ∈ BIG := bi (tin_8 _ (List.mem_of_getElem? (i := 23) rfl)) rfl
theorem b_935 : Cond.selects RX12 yX12_known yX12_known ∈ BIG := bi (tin_8 _ (List.mem_of_getElem? (i := 24) rfl)) rfl
theorem b_936 : Cond.code yX12_late cX12_late 5 (some .int) ∈ BIG := bi (tin_8 _ (List.mem_of_getElem? (i := 111) rfl)) rfl
theorem b_937 : Cond.instanceMethod yX12_late ∈ BIG := bi (tin_8 _ (List.mem_of_getElem? (i := 109) rfl)) rfl
theorem b_938 : Cond.selects RX12 yX12_late yX12_late ∈ BIG := bi (tin_8 _ (List.mem_of_getElem? (i := 110) rfl)) rfl
theorem b_939 : Cond.code yX12_leaks cX12_leaks 5 (some .int) ∈ BIG := bi (tin_9 _ (List.mem_of_getElem? (i := 87) rfl)) rfl
theorem b_940 : Cond.instanceMethod yX12_leaks ∈ BIG := bi (tin_9 _ (List.mem_of_getElem? (i := 85) rfl)) rfl
theorem b_941 : Cond.selects RX12 yX12_leaks yX12_leaks ∈ BIG := bi (tin_9 _ (List.mem_of_getElem? (i := 86) rfl)) rfl
theorem b_942 : Cond.code yX12_least cX12_least 2 (some .int) ∈ BIG := bi (tin_8 _ (List.mem_of_getElem? (i := 33) rfl)) rfl
theorem b_943 : Cond.instanceMethod yX12_least ∈ BIG := bi (tin_8 _ (List.mem_of_getElem? (i := 31) rfl)) rfl
theorem b_944 : Cond.selects RX12 yX12_least yX12_least ∈ BIG := bi (tin_8 _ (List.mem_of_getElem? (i := 32) rfl)) rfl
theorem b_945 : Cond.code yX12_left cX12_left 4 (some .int) ∈ BIG := bi (tin_8 _ (List.mem_of_getElem? (i := 9) rfl)) rfl
theorem b_946 : Cond.instanceMethod yX12_left ∈ BIG := bi (tin_8 _ (List.mem_of_getElem? (i := 7) rfl)) rfl
theorem b_947 : Cond.selects RX12 yX12_left yX12_left ∈ BIG := bi (tin_8 _ (List.mem_of_getElem? (i := 8) rfl)) rfl
theorem b_948 : Cond.code yX12_letter cX12_letter 3 (some .int) ∈ BIG := bi (tin_9 _ (List.mem_of_getElem? (i := 5) rfl)) rfl
theorem b_949 : Cond.instanceMethod yX12_letter ∈ BIG := bi (tin_9 _ (List.mem_of_getElem? (i := 3) rfl)) rfl
theorem b_950 : Cond.selects RX12 yX12_letter yX12_letter ∈ BIG := bi (tin_9 _ (List.mem_of_getElem? (i := 4) rfl)) rfl
theorem b_951 : Cond.code yX12_lies cX12_lies 4 (some .int) ∈ BIG := bi (tin_8 _ (List.mem_of_getElem? (i := 13) rfl)) rfl
theorem b_952 : Cond.instanceMethod yX12_lies ∈ BIG := bi (tin_8 _ (List.mem_of_getElem? (i := 11) rfl)) rfl
theorem b_953 : Cond.selects RX12 yX12_lies yX12_lies ∈ BIG := bi (tin_8 _ (List.mem_of_getElem? (i := 12) rfl)) rfl
theorem b_954 : Cond.code yX12_mean cX12_mean 3 (some .int) ∈ BIG := bi (tin_7 _ (List.mem_of_getElem? (i := 145) rfl)) rfl
theorem b_955 : Cond.instanceMethod yX12_mean ∈ BIG := bi (tin_7 _ (List.mem_of_getElem? (i := 143) rfl)) rfl
theorem b_956 : Cond.selects RX12 yX12_mean yX12_mean ∈ BIG := bi (tin_7 _ (List.mem_of_getElem? (i := 144) rfl)) rfl
theorem b_957 : Cond.code yX12_news cX12_news 2 (some .int) ∈ BIG := bi (tin_7 _ (List.mem_of_getElem? (i := 137) rfl)) rfl
theorem b_958 : Cond.instanceMethod yX12_news ∈ BIG := bi (tin_7 _ (List.mem_of_getElem? (i := 135) rfl)) rfl
theorem b_959 : Cond.selects RX12 yX12_news yX12_news ∈ BIG := bi (tin_7 _ (List.mem_of_getElem? (i := 136) rfl)) rfl
theorem b_960 : Cond.code yX12_now cX12_now 4 (some .int) ∈ BIG := bi (tin_8 _ (List.mem_of_getElem? (i := 184) rfl)) rfl
theorem b_961 : Cond.instanceMethod yX12_now ∈ BIG := bi (tin_8 _ (List.mem_of_getElem? (i := 182) rfl)) rfl
theorem b_962 : Cond.selects RX12 yX12_now yX12_now ∈ BIG := bi (tin_8 _ (List.mem_of_getElem? (i := 183) rfl)) rfl
theorem b_963 : Cond.code yX12_once cX12_once 2 (some .int) ∈ BIG := bi (tin_8 _ (List.mem_of_getElem? (i := 107) rfl)) rfl
theorem b_964 : Cond.instanceMethod yX12_once ∈ BIG := bi (tin_8 _ (List.mem_of_getElem? (i := 105) rfl)) rfl
theorem b_965 : Cond.selects RX12 yX12_once yX12_once ∈ BIG := bi (tin_8 _ (List.mem_of_getElem? (i := 106) rfl)) rfl
theorem b_966 : Cond.code yX12_ordered cX12_ordered 5 (some .int) ∈ BIG := bi (tin_8 _ (List.mem_of_getElem? (i := 163) rfl)) rfl
theorem b_967 : Cond.instanceMethod yX12_ordered ∈ BIG := bi (tin_8 _ (List.mem_of_getElem? (i := 161) rfl)) rfl
theorem b_968 : Cond.selects RX12 yX12_ordered yX12_ordered ∈ BIG := bi (tin_8 _ (List.mem_of_getElem? (i := 162) rfl)) rfl
theorem b_969 : Cond.code yX12_paste cX12_paste 7 (some .int) ∈ BIG := bi (tin_9 _ (List.mem_of_getElem? (i := 107) rfl)) rfl
theorem b_970 : Cond.instanceMethod yX12_paste ∈ BIG := bi (tin_9 _ (List.mem_of_getElem? (i := 105) rfl)) rfl
theorem b_971 : Cond.selects RX12 yX12_paste yX12_paste ∈ BIG := bi (tin_9 _ (List.mem_of_getElem? (i := 106) rfl)) rfl
theorem b_972 : Cond.code yX12_plan cX12_plan 3 (some .int) ∈ BIG := bi (tin_7 _ (List.mem_of_getElem? (i := 121) rfl)) rfl
theorem b_973 : Cond.instanceMethod yX12_plan ∈ BIG := bi (tin_7 _ (List.mem_of_getElem? (i := 119) rfl)) rfl
theorem b_974 : Cond.selects RX12 yX12_plan yX12_plan ∈ BIG := bi (tin_7 _ (List.mem_of_getElem? (i := 120) rfl)) rfl
theorem b_975 : Cond.code yX12_read cX12_read 3 (some .int) ∈ BIG := bi (tin_9 _ (List.mem_of_getElem? (i := 37) rfl)) rfl
theorem b_976 : Cond.instanceMethod yX12_read ∈ BIG := bi (tin_9 _ (List.mem_of_getElem? (i := 35) rfl)) rfl
theorem b_977 : Cond.selects RX12 yX12_read yX12_read ∈ BIG := bi (tin_9 _ (List.mem_of_getElem? (i := 36) rfl)) rfl
theorem b_978 : Cond.code yX12_really cX12_really 2 (some .int) ∈ BIG := bi (tin_9 _ (List.mem_of_getElem? (i := 58) rfl)) rfl
theorem b_979 : Cond.instanceMethod yX12_really ∈ BIG := bi (tin_9 _ (List.mem_of_getElem? (i := 56) rfl)) rfl
theorem b_980 : Cond.selects RX12 yX12_really yX12_really ∈ BIG := bi (tin_9 _ (List.mem_of_getElem? (i := 57) rfl)) rfl
theorem b_981 : Cond.code yX12_reckoned cX12_reckoned 10 (some .int) ∈ BIG := bi (tin_8 _ (List.mem_of_getElem? (i := 212) rfl)) rfl
theorem b_982 : Cond.instanceMethod yX12_reckoned ∈ BIG := bi (tin_8 _ (List.mem_of_getElem? (i := 210) rfl)) rfl
theorem b_983 : Cond.selects RX12 yX12_reckoned yX12_reckoned ∈ BIG := bi (tin_8 _ (List.mem_of_getElem? (i := 211) rfl)) rfl
theorem b_984 : Cond.code yX12_rest cX12_rest 7 (some .int) ∈ BIG := bi (tin_8 _ (List.mem_of_getElem? (i := 135) rfl)) rfl
theorem b_985 : Cond.instanceMethod yX12_rest ∈ BIG := bi (tin_8 _ (List.mem_of_getElem? (i := 133) rfl)) rfl
theorem b_986 : Cond.selects RX12 yX12_rest yX12_rest ∈ BIG := bi (tin_8 _ (List.mem_of_getElem? (i := 134) rfl)) rfl
theorem b_987 : Cond.code yX12_risk cX12_risk 2 (some .int) ∈ BIG := bi (tin_8 _ (List.mem_of_getElem? (i := 180) rfl)) rfl
theorem b_988 : Cond.instanceMethod yX12_risk ∈ BIG := bi (tin_8 _ (List.mem_of_getElem? (i := 178) rfl)) rfl
theorem b_989 : Cond.selects RX12 yX12_risk yX12_risk ∈ BIG := bi (tin_8 _ (List.mem_of_getElem? (i := 179) rfl)) rfl
theorem b_990 : Cond.code yX12_row cX12_row 5 (some .int) ∈ BIG := bi (tin_9 _ (List.mem_of_getElem? (i := 96) rfl)) rfl
theorem b_991 : Cond.instanceMethod yX12_row ∈ BIG := bi (tin_9 _ (List.mem_of_getElem? (i := 94) rfl)) rfl
theorem b_992 : Cond.selects RX12 yX12_row yX12_row ∈ BIG := bi (tin_9 _ (List.mem_of_getElem? (i := 95) rfl)) rfl
theorem b_993 : Cond.code yX12_shames cX12_shames 5 (some .int) ∈ BIG := bi (tin_8 _ (List.mem_of_getElem? (i := 17) rfl)) rfl
theorem b_994 : Cond.instanceMethod yX12_shames ∈ BIG := bi (tin_8 _ (List.mem_of_getElem? (i := 15) rfl)) rfl
theorem b_995 : Cond.selects RX12 yX12_shames yX12_shames ∈ BIG := bi (tin_8 _ (List.mem_of_getElem? (i := 16) rfl)) rfl
theorem b_996 : Cond.code yX12_shock cX12_shock 4 (some .int) ∈ BIG := bi (tin_8 _ (List.mem_of_getElem? (i := 119) rfl)) rfl
theorem b_997 : Cond.instanceMethod yX12_shock ∈ BIG := bi (tin_8 _ (List.mem_of_getElem? (i := 117) rfl)) rfl
theorem b_998 : Cond.selects RX12 yX12_shock yX12_shock ∈ BIG := bi (tin_8 _ (List.mem_of_getElem? (i := 118) rfl)) rfl
theorem b_999 : Cond.code yX12_softer cX12_softer 4 (some .int) ∈ BIG := bi (tin_8 _ (List.mem_of_getElem? (i := 139) rfl)) rfl
theorem b_1000 : Cond.instanceMethod yX12_softer ∈ BIG := bi (tin_8 _ (List.mem_of_getElem? (i := 137) rfl)) rfl
theorem b_1001 : Cond.selects RX12 yX12_softer yX12_softer ∈ BIG := bi (tin_8 _ (List.mem_of_getElem? (i := 138) rfl)) rfl
theorem b_1002 : Cond.code yX12_softest cX12_softest 5 (some .int) ∈ BIG := bi (tin_7 _ (List.mem_of_getElem? (i := 207) rfl)) rfl
theorem b_1003 : Cond.instanceMethod yX12_softest ∈ BIG := bi (tin_7 _ (List.mem_of_getElem? (i := 205) rfl)) rfl
theorem b_1004 : Cond.selects RX12 yX12_softest yX12_softest ∈ BIG := bi (tin_7 _ (List.mem_of_getElem? (i := 206) rfl)) rfl
theorem b_1005 : Cond.code yX12_soon cX12_soon 5 (some .int) ∈ BIG := bi (tin_8 _ (List.mem_of_getElem? (i := 188) rfl)) rfl
theorem b_1006 : Cond.instanceMethod yX12_soon ∈ BIG := bi (tin_8 _ (List.mem_of_getElem? (i := 186) rfl)) rfl
theorem b_1007 : Cond.selects RX12 yX12_soon yX12_soon ∈ BIG := bi (tin_8 _ (List.mem_of_getElem? (i := 187) rfl)) rfl
theorem b_1008 : Cond.code yX12_step cX12_step 3 (some .int) ∈ BIG := bi (tin_8 _ (List.mem_of_getElem? (i := 59) rfl)) rfl
theorem b_1009 : Cond.instanceMethod yX12_step ∈ BIG := bi (tin_8 _ (List.mem_of_getElem? (i := 57) rfl)) rfl
theorem b_1010 : Cond.selects RX12 yX12_step yX12_step ∈ BIG := bi (tin_8 _ (List.mem_of_getElem? (i := 58) rfl)) rfl
theorem b_1011 : Cond.code yX12_steps cX12_steps 5 (some .int) ∈ BIG := bi (tin_8 _ (List.mem_of_getElem? (i := 175) rfl)) rfl
theorem b_1012 : Cond.instanceMethod yX12_steps ∈ BIG := bi (tin_8 _ (List.mem_of_getElem? (i := 173) rfl)) rfl
theorem b_1013 : Cond.selects RX12 yX12_steps yX12_steps ∈ BIG := bi (tin_8 _ (List.mem_of_getElem? (i := 174) rfl)) rfl
theorem b_1014 : Cond.code yX12_suspects cX12_suspects 3 (some .int) ∈ BIG := bi (tin_8 _ (List.mem_of_getElem? (i := 196) rfl)) rfl
theorem b_1015 : Cond.instanceMethod yX12_suspects ∈ BIG := bi (tin_8 _ (List.mem_of_getElem? (i := 194) rfl)) rfl
theorem b_1016 : Cond.selects RX12 yX12_suspects yX12_suspects ∈ BIG := bi (tin_8 _ (List.mem_of_getElem? (i := 195) rfl)) rfl
theorem b_1017 : Cond.code yX12_tells cX12_tells 2 (some .int) ∈ BIG := bi (tin_7 _ (List.mem_of_getElem? (i := 141) rfl)) rfl
theorem b_1018 : Cond.instanceMethod yX12_tells ∈ BIG := bi (tin_7 _ (List.mem_of_getElem? (i := 139) rfl)) rfl
theorem b_1019 : Cond.selects RX12 yX12_tells yX12_tells ∈ BIG := bi (tin_7 _ (List.mem_of_getElem? (i := 140) rfl)) rfl
theorem b_1020 : Cond.code yX12_tender cX12_tender 2 (some .int) ∈ BIG := bi (tin_8 _ (List.mem_of_getElem? (i := 91) rfl)) rfl
theorem b_1021 : Cond.instanceMethod yX12_tender ∈ BIG := bi (tin_8 _ (List.mem_of_getElem? (i := 89) rfl)) rfl
theorem b_1022 : Cond.selects RX12 yX12_tender yX12_tender ∈ BIG := bi (tin_8 _ (List.mem_of_getElem? (i := 90) rfl)) rfl
theorem b_1023 : Cond.code yX12_tenderly cX12_tenderly 3 (some .int) ∈ BIG := bi (tin_8 _ (List.mem_of_getElem? (i := 95) rfl)) rfl
theorem b_1024 : Cond.instanceMethod yX12_tenderly ∈ BIG := bi (tin_8 _ (List.mem_of_getElem? (i := 93) rfl)) rfl
theorem b_1025 : Cond.selects RX12 yX12_tenderly yX12_tenderly ∈ BIG := bi (tin_8 _ (List.mem_of_getElem? (i := 94) rfl)) rfl
theorem b_1026 : Cond.code yX12_thinks cX12_thinks 3 (some .int) ∈ BIG := bi (tin_7 _ (List.mem_of_getElem? (i := 86) rfl)) rfl
theorem b_1027 : Cond.instanceMethod yX12_thinks ∈ BIG := bi (tin_7 _ (List.mem_of_getElem? (i := 84) rfl)) rfl
theorem b_1028 : Cond.selects RX12 yX12_thinks yX12_thinks ∈ BIG := bi (tin_7 _ (List.mem_of_getElem? (i := 85) rfl)) rfl
theorem b_1029 : Cond.code yX12_truly cX12_truly 2 (some .int) ∈ BIG := bi (tin_8 _ (List.mem_of_getElem? (i := 75) rfl)) rfl
theorem b_1030 : Cond.instanceMethod yX12_truly ∈ BIG := bi (tin_8 _ (List.mem_of_getElem? (i := 73) rfl)) rfl
theorem b_1031 : Cond.selects RX12 yX12_truly yX12_truly ∈ BIG := bi (tin_8 _ (List.mem_of_getElem? (i := 74) rfl)) rfl
theorem b_1032 : Cond.code yX12_undo cX12_undo 1 (some .int) ∈ BIG := bi (tin_9 _ (List.mem_of_getElem? (i := 67) rfl)) rfl
theorem b_1033 : Cond.instanceMethod yX12_undo ∈ BIG := bi (tin_9 _ (List.mem_of_getElem? (i := 65) rfl)) rfl
theorem b_1034 : Cond.selects RX12 yX12_undo yX12_undo ∈ BIG := bi (tin_9 _ (List.mem_of_getElem? (i := 66) rfl)) rfl
theorem b_1035 : Cond.code yX12_unsaid cX12_unsaid 5 (some .int) ∈ BIG := bi (tin_8 _ (List.mem_of_getElem? (i := 123) rfl)) rfl
theorem b_1036 : Cond.instanceMethod yX12_unsaid ∈ BIG := bi (tin_8 _ (List.mem_of_getElem? (i := 121) rfl)) rfl
theorem b_1037 : Cond.selects RX12 yX12_unsaid yX12_unsaid ∈ BIG := bi (tin_8 _ (List.mem_of_getElem? (i := 122) rfl)) rfl
theorem b_1038 : Cond.code yX12_whom cX12_whom 1 (some .int) ∈ BIG := bi (tin_9 _ (List.mem_of_getElem? (i := 25) rfl)) rfl
theorem b_1039 : Cond.instanceMethod yX12_whom ∈ BIG := bi (tin_9 _ (List.mem_of_getElem? (i := 23) rfl)) rfl
theorem b_1040 : Cond.selects RX12 yX12_whom yX12_whom ∈ BIG := bi (tin_9 _ (List.mem_of_getElem? (i := 24) rfl)) rfl
theorem b_1041 : Cond.code yX12_word cX12_word 3 (some .int) ∈ BIG := bi (tin_7 _ (List.mem_of_getElem? (i := 102) rfl)) rfl
theorem b_1042 : Cond.instanceMethod yX12_word ∈ BIG := bi (tin_7 _ (List.mem_of_getElem? (i := 100) rfl)) rfl
theorem b_1043 : Cond.selects RX12 yX12_word yX12_word ∈ BIG := bi (tin_7 _ (List.mem_of_getElem? (i := 101) rfl)) rfl
theorem b_1044 : Cond.code yX12_worsen cX12_worsen 3 (some .int) ∈ BIG := bi (tin_9 _ (List.mem_of_getElem? (i := 49) rfl)) rfl
theorem b_1045 : Cond.instanceMethod yX12_worsen ∈ BIG := bi (tin_9 _ (List.mem_of_getElem? (i := 47) rfl)) rfl
theorem b_1046 : Cond.selects RX12 yX12_worsen yX12_worsen ∈ BIG := bi (tin_9 _ (List.mem_of_getElem? (i := 48) rfl)) rfl
theorem b_1047 : Cond.code yX12_worst cX12_worst 4 (some .int) ∈ BIG := bi (tin_8 _ (List.mem_of_getElem? (i := 5) rfl)) rfl
theorem b_1048 : Cond.instanceMethod yX12_worst ∈ BIG := bi (tin_8 _ (List.mem_of_getElem? (i := 3) rfl)) rfl
theorem b_1049 : Cond.selects RX12 yX12_worst yX12_worst ∈ BIG := bi (tin_8 _ (List.mem_of_getElem? (i := 4) rfl)) rfl
theorem b_1050 : Cond.code yX12_write cX12_write 5 (some .int) ∈ BIG := bi (tin_9 _ (List.mem_of_getElem? (i := 100) rfl)) rfl
theorem b_1051 : Cond.instanceMethod yX12_write ∈ BIG := bi (tin_9 _ (List.mem_of_getElem? (i := 98) rfl)) rfl
theorem b_1052 : Cond.selects RX12 yX12_write yX12_write ∈ BIG := bi (tin_9 _ (List.mem_of_getElem? (i := 99) rfl)) rfl
theorem m_yX11_all : MV yX11_all cX11_all 1 (some .int) 0 := ⟨b_627, b_628, b_629, b_27, by decide +kernel⟩
theorem m_yX11_back : MV yX11_back cX11_back 3 (some .int) 1 := ⟨b_630, b_631, b_632, b_27, by decide +kernel⟩
theorem m_yX11_behind : MV yX11_behind cX11_behind 3 (some .int) 2 := ⟨b_633, b_634, b_635, b_27, by decide +kernel⟩
theorem m_yX11_believes : MV yX11_believes cX11_believes 3 (some .int) 1 := ⟨b_636, b_637, b_638, b_27, by decide +kernel⟩
theorem m_yX11_calm : MV yX11_calm cX11_calm 5 (some .int) 2 := ⟨b_639, b_640, b_641, b_27, by decide +kernel⟩
theorem m_yX11_chance : MV yX11_chance cX11_chance 5 (some .int) 4 := ⟨b_642, b_643, b_644, b_27, by decide +kernel⟩
theorem m_yX11_count : MV yX11_count cX11_count 2 (some .int) 1 := ⟨b_645, b_646, b_647, b_27, by decide +kernel⟩
theorem m_yX11_desk : MV yX11_desk cX11_desk 1 (some .int) 0 := ⟨b_648, b_649, b_650, b_27, by decide +kernel⟩
theorem m_yX11_doubt : MV yX11_doubt cX11_doubt 4 (some .int) 3 := ⟨b_651, b_652, b_653, b_27, by decide +kernel⟩
theorem m_yX11_drawn : MV yX11_drawn cX11_drawn 7 (some .int) 4 := ⟨b_654, b_655, b_656, b_27, by decide +kernel⟩
theorem m_yX11_end : MV yX11_end cX11_end 2 (some .int) 1 := ⟨b_657, b_658, b_659, b_27, by decide +kernel⟩
theorem m_yX11_ends : MV yX11_ends cX11_ends 2 (some .int) 1 := ⟨b_660, b_661, b_662, b_27, by decide +kernel⟩
theorem m_yX11_enough : MV yX11_enough cX11_enough 4 (some .int) 1 := ⟨b_663, b_664, b_665, b_27, by decide +kernel⟩
theorem m_yX11_even : MV yX11_even cX11_even 3 (some .int) 2 := ⟨b_666, b_667, b_668, b_27, by decide +kernel⟩
theorem m_yX11_fault : MV yX11_fault cX11_fault 2 (some .int) 1 := ⟨b_669, b_670, b_671, b_27, by decide +kernel⟩
theorem m_yX11_feed : MV yX11_feed cX11_feed 7 (some .int) 5 := ⟨b_672, b_673, b_674, b_27, by decide +kernel⟩
theorem m_yX11_fewest : MV yX11_fewest cX11_fewest 2 (some .int) 0 := ⟨b_675, b_676, b_677, b_27, by decide +kernel⟩
theorem m_yX11_first : MV yX11_first cX11_first 1 (some .int) 0 := ⟨b_678, b_679, b_680, b_27, by decide +kernel⟩
theorem m_yX11_gentlest : MV yX11_gentlest cX11_gentlest 2 (some .int) 1 := ⟨b_681, b_682, b_683, b_27, by decide +kernel⟩
theorem m_yX11_gently : MV yX11_gently cX11_gently 3 (some .int) 2 := ⟨b_684, b_685, b_686, b_27, by decide +kernel⟩
theorem m_yX11_grade : MV yX11_grade cX11_grade 2 (some .int) 1 := ⟨b_687, b_688, b_689, b_27, by decide +kernel⟩
theorem m_yX11_guess : MV yX11_guess cX11_guess 5 (some .int) 2 := ⟨b_690, b_691, b_692, b_27, by decide +kernel⟩
theorem m_yX11_heard : MV yX11_heard cX11_heard 3 (some .int) 2 := ⟨b_693, b_694, b_695, b_27, by decide +kernel⟩
theorem m_yX11_honest : MV yX11_honest cX11_honest 3 (some .int) 2 := ⟨b_696, b_697, b_698, b_27, by decide +kernel⟩
theorem m_yX11_hope : MV yX11_hope cX11_hope 6 (some .int) 4 := ⟨b_699, b_700, b_701, b_27, by decide +kernel⟩
theorem m_yX11_hurt : MV yX11_hurt cX11_hurt 4 (some .int) 3 := ⟨b_702, b_703, b_704, b_27, by decide +kernel⟩
theorem m_yX11_hurts : MV yX11_hurts cX11_hurts 4 (some .int) 2 := ⟨b_705, b_706, b_707, b_27, by decide +kernel⟩
theorem m_yX11_idle : MV yX11_idle cX11_idle 3 (some .int) 0 := ⟨b_708, b_709, b_710, b_27, by decide +kernel⟩
theorem m_yX11_image : MV yX11_image cX11_image 3 (some .int) 1 := ⟨b_711, b_712, b_713, b_27, by decide +kernel⟩
theorem m_yX11_joined : MV yX11_joined cX11_joined 2 (some .int) 1 := ⟨b_714, b_715, b_716, b_27, by decide +kernel⟩
theorem m_yX11_knew : MV yX11_knew cX11_knew 4 (some .int) 2 := ⟨b_717, b_718, b_719, b_27, by decide +kernel⟩
theorem m_yX11_known : MV yX11_known cX11_known 3 (some .int) 1 := ⟨b_720, b_721, b_722, b_27, by decide +kernel⟩
theorem m_yX11_late : MV yX11_late cX11_late 5 (some .int) 2 := ⟨b_723, b_724, b_725, b_27, by decide +kernel⟩
theorem m_yX11_leaks : MV yX11_leaks cX11_leaks 5 (some .int) 2 := ⟨b_726, b_727, b_728, b_27, by decide +kernel⟩
theorem m_yX11_least : MV yX11_least cX11_least 2 (some .int) 1 := ⟨b_729, b_730, b_731, b_27, by decide +kernel⟩
theorem m_yX11_left : MV yX11_left cX11_left 4 (some .int) 2 := ⟨b_732, b_733, b_734, b_27, by decide +kernel⟩
theorem m_yX11_letter : MV yX11_letter cX11_letter 3 (some .int) 2 := ⟨b_735, b_736, b_737, b_27, by decide +kernel⟩
theorem m_yX11_lies : MV yX11_lies cX11_lies 3 (some .int) 1 := ⟨b_738, b_739, b_740, b_27, by decide +kernel⟩
theorem m_yX11_mean : MV yX11_mean cX11_mean 3 (some .int) 2 := ⟨b_741, b_742, b_743, b_27, by decide +kernel⟩
theorem m_yX11_news : MV yX11_news cX11_news 2 (some .int) 1 := ⟨b_744, b_745, b_746, b_27, by decide +kernel⟩
theorem m_yX11_now : MV yX11_now cX11_now 4 (some .int) 3 := ⟨b_747, b_748, b_749, b_27, by decide +kernel⟩
theorem m_yX11_once : MV yX11_once cX11_once 2 (some .int) 1 := ⟨b_750, b_751, b_752, b_27, by decide +kernel⟩
theorem m_yX11_ordered : MV yX11_ordered cX11_ordered 5 (some .int) 3 := ⟨b_753, b_754, b_755, b_27, by decide +kernel⟩
theorem m_yX11_paste : MV yX11_paste cX11_paste 8 (some .int) 5 := ⟨b_756, b_757, b_758, b_27, by decide +kernel⟩
theorem m_yX11_plan : MV yX11_plan cX11_plan 3 (some .int) 2 := ⟨b_759, b_760, b_761, b_27, by decide +kernel⟩
theorem m_yX11_read : MV yX11_read cX11_read 3 (some .int) 1 := ⟨b_762, b_763, b_764, b_27, by decide +kernel⟩
theorem m_yX11_really : MV yX11_really cX11_really 2 (some .int) 1 := ⟨b_765, b_766, b_767, b_27, by decide +kernel⟩
theorem m_yX11_reckoned : MV yX11_reckoned cX11_reckoned 4 (some .int) 2 := ⟨b_768, b_769, b_770, b_27, by decide +kernel⟩
theorem m_yX11_rest : MV yX11_rest cX11_rest 5 (some .int) 1 := ⟨b_771, b_772, b_773, b_27, by decide +kernel⟩
theorem m_yX11_risk : MV yX11_risk cX11_risk 2 (some .int) 1 := ⟨b_774, b_775, b_776, b_27, by decide +kernel⟩
theorem m_yX11_row : MV yX11_row cX11_row 5 (some .int) 3 := ⟨b_777, b_778, b_779, b_27, by decide +kernel⟩
theorem m_yX11_shames : MV yX11_shames cX11_shames 3 (some .int) 1 := ⟨b_780, b_781, b_782, b_27, by decide +kernel⟩
theorem m_yX11_shock : MV yX11_shock cX11_shock 6 (some .int) 1 := ⟨b_783, b_784, b_785, b_27, by decide +kernel⟩
theorem m_yX11_softer : MV yX11_softer cX11_softer 4 (some .int) 2 := ⟨b_786, b_787, b_788, b_27, by decide +kernel⟩
theorem m_yX11_softest : MV yX11_softest cX11_softest 7 (some .int) 2 := ⟨b_789, b_790, b_791, b_27, by decide +kernel⟩
theorem m_yX11_soon : MV yX11_soon cX11_soon 8 (some .int) 2 := ⟨b_792, b_793, b_794, b_27, by decide +kernel⟩
theorem m_yX11_step : MV yX11_step cX11_step 3 (some .int) 2 := ⟨b_795, b_796, b_797, b_27, by decide +kernel⟩
theorem m_yX11_steps : MV yX11_steps cX11_steps 7 (some .int) 2 := ⟨b_798, b_799, b_800, b_27, by decide +kernel⟩
theorem m_yX11_suspects : MV yX11_suspects cX11_suspects 3 (some .int) 1 := ⟨b_801, b_802, b_803, b_27, by decide +kernel⟩
theorem m_yX11_tells : MV yX11_tells cX11_tells 2 (some .int) 1 := ⟨b_804, b_805, b_806, b_27, by decide +kernel⟩
theorem m_yX11_tender : MV yX11_tender cX11_tender 2 (some .int) 1 := ⟨b_807, b_808, b_809, b_27, by decide +kernel⟩
theorem m_yX11_tenderly : MV yX11_tenderly cX11_tenderly 3 (some .int) 2 := ⟨b_810, b_811, b_812, b_27, by decide +kernel⟩
theorem m_yX11_thinks : MV yX11_thinks cX11_thinks 3 (some .int) 2 := ⟨b_813, b_814, b_815, b_27, by decide +kernel⟩
theorem m_yX11_truly : MV yX11_truly cX11_truly 2 (some .int) 1 := ⟨b_816, b_817, b_818, b_27, by decide +kernel⟩
theorem m_yX11_undo : MV yX11_undo cX11_undo 2 (some .int) 0 := ⟨b_819, b_820, b_821, b_27, by decide +kernel⟩
theorem m_yX11_unsaid : MV yX11_unsaid cX11_unsaid 3 (some .int) 0 := ⟨b_822, b_823, b_824, b_27, by decide +kernel⟩
theorem m_yX11_whom : MV yX11_whom cX11_whom 1 (some .int) 0 := ⟨b_825, b_826, b_827, b_27, by decide +kernel⟩
theorem m_yX11_word : MV yX11_word cX11_word 3 (some .int) 2 := ⟨b_828, b_829, b_830, b_27, by decide +kernel⟩
theorem m_yX11_worsen : MV yX11_worsen cX11_worsen 3 (some .int) 2 := ⟨b_831, b_832, b_833, b_27, by decide +kernel⟩
theorem m_yX11_worst : MV yX11_worst cX11_worst 4 (some .int) 2 := ⟨b_834, b_835, b_836, b_27, by decide +kernel⟩
theorem m_yX11_write : MV yX11_write cX11_write 6 (some .int) 3 := ⟨b_837, b_838, b_839, b_27, by decide +kernel⟩
theorem m_yX12_all : MV yX12_all cX12_all 1 (some .int) 0 := ⟨b_840, b_841, b_842, b_377, by decide +kernel⟩
theorem m_yX12_back : MV yX12_back cX12_back 3 (some .int) 1 := ⟨b_843, b_844, b_845, b_377, by decide +kernel⟩
theorem m_yX12_behind : MV yX12_behind cX12_behind 3 (some .int) 2 := ⟨b_846, b_847, b_848, b_377, by decide +kernel⟩
theorem m_yX12_believes : MV yX12_believes cX12_believes 5 (some .int) 1 := ⟨b_849, b_850, b_851, b_377, by decide +kernel⟩
theorem m_yX12_calm : MV yX12_calm cX12_calm 5 (some .int) 2 := ⟨b_852, b_853, b_854, b_377, by decide +kernel⟩
theorem m_yX12_chance : MV yX12_chance cX12_chance 5 (some .int) 4 := ⟨b_855, b_856, b_857, b_377, by decide +kernel⟩
theorem m_yX12_count : MV yX12_count cX12_count 4 (some .int) 1 := ⟨b_858, b_859, b_860, b_377, by decide +kernel⟩
theorem m_yX12_desk : MV yX12_desk cX12_desk 2 (some .int) 0 := ⟨b_861, b_862, b_863, b_377, by decide +kernel⟩
theorem m_yX12_doubt : MV yX12_doubt cX12_doubt 4 (some .int) 3 := ⟨b_864, b_865, b_866, b_377, by decide +kernel⟩
theorem m_yX12_drawn : MV yX12_drawn cX12_drawn 11 (some .int) 4 := ⟨b_867, b_868, b_869, b_377, by decide +kernel⟩
theorem m_yX12_end : MV yX12_end cX12_end 2 (some .int) 1 := ⟨b_870, b_871, b_872, b_377, by decide +kernel⟩
theorem m_yX12_ends : MV yX12_ends cX12_ends 2 (some .int) 1 := ⟨b_873, b_874, b_875, b_377, by decide +kernel⟩
theorem m_yX12_enough : MV yX12_enough cX12_enough 4 (some .int) 1 := ⟨b_876, b_877, b_878, b_377, by decide +kernel⟩
theorem m_yX12_even : MV yX12_even cX12_even 3 (some .int) 2 := ⟨b_879, b_880, b_881, b_377, by decide +kernel⟩
theorem m_yX12_fault : MV yX12_fault cX12_fault 2 (some .int) 1 := ⟨b_882, b_883, b_884, b_377, by decide +kernel⟩
theorem m_yX12_feed : MV yX12_feed cX12_feed 7 (some .int) 5 := ⟨b_885, b_886, b_887, b_377, by decide +kernel⟩
theorem m_yX12_fewest : MV yX12_fewest cX12_fewest 1 (some .int) 0 := ⟨b_888, b_889, b_890, b_377, by decide +kernel⟩
theorem m_yX12_first : MV yX12_first cX12_first 1 (some .int) 0 := ⟨b_891, b_892, b_893, b_377, by decide +kernel⟩
theorem m_yX12_gentlest : MV yX12_gentlest cX12_gentlest 2 (some .int) 1 := ⟨b_894, b_895, b_896, b_377, by decide +kernel⟩
theorem m_yX12_gently : MV yX12_gently cX12_gently 3 (some .int) 2 := ⟨b_897, b_898, b_899, b_377, by decide +kernel⟩
theorem m_yX12_grade : MV yX12_grade cX12_grade 2 (some .int) 1 := ⟨b_900, b_901, b_902, b_377, by decide +kernel⟩
theorem m_yX12_guess : MV yX12_guess cX12_guess 4 (some .int) 2 := ⟨b_903, b_904, b_905, b_377, by decide +kernel⟩
theorem m_yX12_heard : MV yX12_heard cX12_heard 3 (some .int) 2 := ⟨b_906, b_907, b_908, b_377, by decide +kernel⟩
theorem m_yX12_honest : MV yX12_honest cX12_honest 3 (some .int) 2 := ⟨b_909, b_910, b_911, b_377, by decide +kernel⟩
theorem m_yX12_hope : MV yX12_hope cX12_hope 8 (some .int) 4 := ⟨b_912, b_913, b_914, b_377, by decide +kernel⟩
theorem m_yX12_hurt : MV yX12_hurt cX12_hurt 4 (some .int) 3 := ⟨b_915, b_916, b_917, b_377, by decide +kernel⟩
theorem m_yX12_hurts : MV yX12_hurts cX12_hurts 4 (some .int) 2 := ⟨b_918, b_919, b_920, b_377, by decide +kernel⟩
theorem m_yX12_idle : MV yX12_idle cX12_idle 5 (some .int) 0 := ⟨b_921, b_922, b_923, b_377, by decide +kernel⟩
theorem m_yX12_image : MV yX12_image cX12_image 3 (some .int) 1 := ⟨b_924, b_925, b_926, b_377, by decide +kernel⟩
theorem m_yX12_joined : MV yX12_joined cX12_joined 2 (some .int) 1 := ⟨b_927, b_928, b_929, b_377, by decide +kernel⟩
theorem m_yX12_knew : MV yX12_knew cX12_knew 4 (some .int) 2 := ⟨b_930, b_931, b_932, b_377, by decide +kernel⟩
theorem m_yX12_known : MV yX12_known cX12_known 6 (some .int) 1 := ⟨b_933, b_934, b_935, b_377, by decide +kernel⟩
theorem m_yX12_late : MV yX12_late cX12_late 5 (some .int) 2 := ⟨b_936, b_937, b_938, b_377, by decide +kernel⟩
theorem m_yX12_leaks : MV yX12_leaks cX12_leaks 5 (some .int) 2 := ⟨b_939, b_940, b_941, b_377, by decide +kernel⟩
theorem m_yX12_least : MV yX12_least cX12_least 2 (some .int) 1 := ⟨b_942, b_943, b_944, b_377, by decide +kernel⟩
theorem m_yX12_left : MV yX12_left cX12_left 4 (some .int) 2 := ⟨b_945, b_946, b_947, b_377, by decide +kernel⟩
theorem m_yX12_letter : MV yX12_letter cX12_letter 3 (some .int) 2 := ⟨b_948, b_949, b_950, b_377, by decide +kernel⟩
theorem m_yX12_lies : MV yX12_lies cX12_lies 4 (some .int) 1 := ⟨b_951, b_952, b_953, b_377, by decide +kernel⟩
theorem m_yX12_mean : MV yX12_mean cX12_mean 3 (some .int) 2 := ⟨b_954, b_955, b_956, b_377, by decide +kernel⟩
theorem m_yX12_news : MV yX12_news cX12_news 2 (some .int) 1 := ⟨b_957, b_958, b_959, b_377, by decide +kernel⟩
theorem m_yX12_now : MV yX12_now cX12_now 4 (some .int) 3 := ⟨b_960, b_961, b_962, b_377, by decide +kernel⟩
theorem m_yX12_once : MV yX12_once cX12_once 2 (some .int) 1 := ⟨b_963, b_964, b_965, b_377, by decide +kernel⟩
theorem m_yX12_ordered : MV yX12_ordered cX12_ordered 5 (some .int) 3 := ⟨b_966, b_967, b_968, b_377, by decide +kernel⟩
theorem m_yX12_paste : MV yX12_paste cX12_paste 7 (some .int) 5 := ⟨b_969, b_970, b_971, b_377, by decide +kernel⟩
theorem m_yX12_plan : MV yX12_plan cX12_plan 3 (some .int) 2 := ⟨b_972, b_973, b_974, b_377, by decide +kernel⟩
theorem m_yX12_read : MV yX12_read cX12_read 3 (some .int) 1 := ⟨b_975, b_976, b_977, b_377, by decide +kernel⟩
theorem m_yX12_really : MV yX12_really cX12_really 2 (some .int) 1 := ⟨b_978, b_979, b_980, b_377, by decide +kernel⟩
theorem m_yX12_reckoned : MV yX12_reckoned cX12_reckoned 10 (some .int) 2 := ⟨b_981, b_982, b_983, b_377, by decide +kernel⟩
theorem m_yX12_rest : MV yX12_rest cX12_rest 7 (some .int) 1 := ⟨b_984, b_985, b_986, b_377, by decide +kernel⟩
theorem m_yX12_risk : MV yX12_risk cX12_risk 2 (some .int) 1 := ⟨b_987, b_988, b_989, b_377, by decide +kernel⟩
theorem m_yX12_row : MV yX12_row cX12_row 5 (some .int) 3 := ⟨b_990, b_991, b_992, b_377, by decide +kernel⟩
theorem m_yX12_shames : MV yX12_shames cX12_shames 5 (some .int) 1 := ⟨b_993, b_994, b_995, b_377, by decide +kernel⟩
theorem m_yX12_shock : MV yX12_shock cX12_shock 4 (some .int) 1 := ⟨b_996, b_997, b_998, b_377, by decide +kernel⟩
theorem m_yX12_softer : MV yX12_softer cX12_softer 4 (some .int) 2 := ⟨b_999, b_1000, b_1001, b_377, by decide +kernel⟩
theorem m_yX12_softest : MV yX12_softest cX12_softest 5 (some .int) 2 := ⟨b_1002, b_1003, b_1004, b_377, by decide +kernel⟩
theorem m_yX12_soon : MV yX12_soon cX12_soon 5 (some .int) 2 := ⟨b_1005, b_1006, b_1007, b_377, by decide +kernel⟩
theorem m_yX12_step : MV yX12_step cX12_step 3 (some .int) 2 := ⟨b_1008, b_1009, b_1010, b_377, by decide +kernel⟩
theorem m_yX12_steps : MV yX12_steps cX12_steps 5 (some .int) 2 := ⟨b_1011, b_1012, b_1013, b_377, by decide +kernel⟩
theorem m_yX12_suspects : MV yX12_suspects cX12_suspects 3 (some .int) 1 := ⟨b_1014, b_1015, b_1016, b_377, by decide +kernel⟩
theorem m_yX12_tells : MV yX12_tells cX12_tells 2 (some .int) 1 := ⟨b_1017, b_1018, b_1019, b_377, by decide +kernel⟩
theorem m_yX12_tender : MV yX12_tender cX12_tender 2 (some .int) 1 := ⟨b_1020, b_1021, b_1022, b_377, by decide +kernel⟩
theorem m_yX12_tenderly : MV yX12_tenderly cX12_tenderly 3 (some .int) 2 := ⟨b_1023, b_1024, b_1025, b_377, by decide +kernel⟩
theorem m_yX12_thinks : MV yX12_thinks cX12_thinks 3 (some .int) 2 := ⟨b_1026, b_1027, b_1028, b_377, by decide +kernel⟩
theorem m_yX12_truly : MV yX12_truly cX12_truly 2 (some .int) 1 := ⟨b_1029, b_1030, b_1031, b_377, by decide +kernel⟩
theorem m_yX12_undo : MV yX12_undo cX12_undo 1 (some .int) 0 := ⟨b_1032, b_1033, b_1034, b_377, by decide +kernel⟩
theorem m_yX12_unsaid : MV yX12_unsaid cX12_unsaid 5 (some .int) 0 := ⟨b_1035, b_1036, b_1037, b_377, by decide +kernel⟩
theorem m_yX12_whom : MV yX12_whom cX12_whom 1 (some .int) 0 := ⟨b_1038, b_1039, b_1040, b_377, by decide +kernel⟩
theorem m_yX12_word : MV yX12_word cX12_word 3 (some .int) 2 := ⟨b_1041, b_1042, b_1043, b_377, by decide +kernel⟩
theorem m_yX12_worsen : MV yX12_worsen cX12_worsen 3 (some .int) 2 := ⟨b_1044, b_1045, b_1046, b_377, by decide +kernel⟩
theorem m_yX12_worst : MV yX12_worst cX12_worst 4 (some .int) 2 := ⟨b_1047, b_1048, b_1049, b_377, by decide +kernel⟩
theorem m_yX12_write : MV yX12_write cX12_write 5 (some .int) 3 := ⟨b_1050, b_1051, b_1052, b_377, by decide +kernel⟩
theorem dL_law_332 : decode cL_law 332 = .ok (.aload_n 1, 1) := by decide +kernel
theorem dL_law_333 : decode cL_law 333 = .ok (.aload_n 0, 1) := by decide +kernel
theorem dL_law_334 : decode cL_law 334 = .ok (.iload_n 3, 1) := by decide +kernel
theorem dL_law_335 : decode cL_law 335 = .ok (.iconst 1, 1) := by decide +kernel
theorem dL_law_336 : decode cL_law 336 = .ok (.iadd, 1) := by decide +kernel
theorem dL_law_337 : decode cL_law 337 = .ok (.iaload, 1) := by decide +kernel
theorem dL_law_338 : decode cL_law 338 = .ok (.aload_n 0, 1) := by decide +kernel
theorem dL_law_339 : decode cL_law 339 = .ok (.iload_n 3, 1) := by decide +kernel
theorem dL_law_340 : decode cL_law 340 = .ok (.iconst 2, 1) := by decide +kernel
theorem dL_law_341 : decode cL_law 341 = .ok (.iadd, 1) := by decide +kernel
theorem dL_law_342 : decode cL_law 342 = .ok (.iaload, 1) := by decide +kernel
theorem dL_law_343 : decode cL_law 343 = .ok (.aload_n 0, 1) := by decide +kernel
theorem dL_law_344 : decode cL_law 344 = .ok (.iload_n 3, 1) := by decide +kernel
theorem dL_law_345 : decode cL_law 345 = .ok (.iconst 3, 1) := by decide +kernel
theorem dL_law_346 : decode cL_law 346 = .ok (.iadd, 1) := by decide +kernel
theorem dL_law_347 : decode cL_law 347 = .ok (.iaload, 1) := by decide +kernel
theorem dL_law_348 : decode cL_law 348 = .ok (.aload_n 0, 1) := by decide +kernel
theorem dL_law_349 : decode cL_law 349 = .ok (.iload_n 3, 1) := by decide +kernel
theorem dL_law_350 : decode cL_law 350 = .ok (.iconst 4, 1) := by decide +kernel
theorem dL_law_351 : decode cL_law 351 = .ok (.iadd, 1) := by decide +kernel
theorem dL_law_352 : decode cL_law 352 = .ok (.iaload, 1) := by decide +kernel
theorem dL_law_353 : decode cL_law 353 = .ok (.aload_n 0, 1) := by decide +kernel
theorem dL_law_354 : decode cL_law 354 = .ok (.iload_n 3, 1) := by decide +kernel
theorem dL_law_355 : decode cL_law 355 = .ok (.iconst 5, 1) := by decide +kernel
theorem dL_law_356 : decode cL_law 356 = .ok (.iadd, 1) := by decide +kernel
theorem dL_law_357 : decode cL_law 357 = .ok (.iaload, 1) := by decide +kernel
theorem dL_law_358 : decode cL_law 358 = .ok (.invokevirtual 13, 3) := by decide +kernel
theorem dL_law_361 : decode cL_law 361 = .ok (.aload_n 2, 1) := by decide +kernel
theorem dL_law_362 : decode cL_law 362 = .ok (.aload_n 0, 1) := by decide +kernel
theorem dL_law_363 : decode cL_law 363 = .ok (.iload_n 3, 1) := by decide +kernel
theorem dL_law_364 : decode cL_law 364 = .ok (.iconst 1, 1) := by decide +kernel
theorem dL_law_365 : decode cL_law 365 = .ok (.iadd, 1) := by decide +kernel
theorem dL_law_366 : decode cL_law 366 = .ok (.iaload, 1) := by decide +kernel
theorem dL_law_367 : decode cL_law 367 = .ok (.aload_n 0, 1) := by decide +kernel
theorem dL_law_368 : decode cL_law 368 = .ok (.iload_n 3, 1) := by decide +kernel
theorem dL_law_369 : decode cL_law 369 = .ok (.iconst 2, 1) := by decide +kernel
theorem dL_law_370 : decode cL_law 370 = .ok (.iadd, 1) := by decide +kernel
theorem dL_law_371 : decode cL_law 371 = .ok (.iaload, 1) := by decide +kernel
theorem dL_law_372 : decode cL_law 372 = .ok (.aload_n 0, 1) := by decide +kernel
theorem dL_law_373 : decode cL_law 373 = .ok (.iload_n 3, 1) := by decide +kernel
theorem dL_law_374 : decode cL_law 374 = .ok (.iconst 3, 1) := by decide +kernel
theorem dL_law_375 : decode cL_law 375 = .ok (.iadd, 1) := by decide +kernel
theorem dL_law_376 : decode cL_law 376 = .ok (.iaload, 1) := by decide +kernel
theorem dL_law_377 : decode cL_law 377 = .ok (.aload_n 0, 1) := by decide +kernel
theorem dL_law_378 : decode cL_law 378 = .ok (.iload_n 3, 1) := by decide +kernel
theorem dL_law_379 : decode cL_law 379 = .ok (.iconst 4, 1) := by decide +kernel
theorem dL_law_380 : decode cL_law 380 = .ok (.iadd, 1) := by decide +kernel
theorem dL_law_381 : decode cL_law 381 = .ok (.iaload, 1) := by decide +kernel
theorem dL_law_382 : decode cL_law 382 = .ok (.aload_n 0, 1) := by decide +kernel
theorem dL_law_383 : decode cL_law 383 = .ok (.iload_n 3, 1) := by decide +kernel
theorem dL_law_384 : decode cL_law 384 = .ok (.iconst 5, 1) := by decide +kernel
theorem dL_law_385 : decode cL_law 385 = .ok (.iadd, 1) := by decide +kernel
theorem dL_law_386 : decode cL_law 386 = .ok (.iaload, 1) := by decide +kernel
theorem dL_law_387 : decode cL_law 387 = .ok (.invokevirtual 17, 3) := by decide +kernel
theorem dL_law_390 : decode cL_law 390 = .ok (.if_icmp .eq 2075, 3) := by decide +kernel
theorem dL_law_395 : decode cL_law 395 = .ok (.aload_n 1, 1) := by decide +kernel
theorem dL_law_396 : decode cL_law 396 = .ok (.aload_n 0, 1) := by decide +kernel
theorem dL_law_397 : decode cL_law 397 = .ok (.iload_n 3, 1) := by decide +kernel
theorem dL_law_398 : decode cL_law 398 = .ok (.iconst 1, 1) := by decide +kernel
theorem dL_law_399 : decode cL_law 399 = .ok (.iadd, 1) := by decide +kernel
theorem dL_law_400 : decode cL_law 400 = .ok (.iaload, 1) := by decide +kernel
theorem dL_law_401 : decode cL_law 401 = .ok (.invokevirtual 18, 3) := by decide +kernel
theorem dL_law_404 : decode cL_law 404 = .ok (.aload_n 2, 1) := by decide +kernel
theorem dL_law_405 : decode cL_law 405 = .ok (.aload_n 0, 1) := by decide +kernel
theorem dL_law_406 : decode cL_law 406 = .ok (.iload_n 3, 1) := by decide +kernel
theorem dL_law_407 : decode cL_law 407 = .ok (.iconst 1, 1) := by decide +kernel
theorem dL_law_408 : decode cL_law 408 = .ok (.iadd, 1) := by decide +kernel
theorem dL_law_409 : decode cL_law 409 = .ok (.iaload, 1) := by decide +kernel
theorem dL_law_410 : decode cL_law 410 = .ok (.invokevirtual 22, 3) := by decide +kernel
theorem dL_law_413 : decode cL_law 413 = .ok (.if_icmp .eq 2052, 3) := by decide +kernel
theorem dL_law_418 : decode cL_law 418 = .ok (.aload_n 1, 1) := by decide +kernel
theorem dL_law_419 : decode cL_law 419 = .ok (.invokevirtual 23, 3) := by decide +kernel
theorem dL_law_422 : decode cL_law 422 = .ok (.aload_n 2, 1) := by decide +kernel
theorem dL_law_423 : decode cL_law 423 = .ok (.invokevirtual 27, 3) := by decide +kernel
theorem dL_law_426 : decode cL_law 426 = .ok (.if_icmp .eq 2039, 3) := by decide +kernel
theorem dL_law_431 : decode cL_law 431 = .ok (.aload_n 1, 1) := by decide +kernel
theorem dL_law_432 : decode cL_law 432 = .ok (.aload_n 0, 1) := by decide +kernel
theorem dL_law_433 : decode cL_law 433 = .ok (.iload_n 3, 1) := by decide +kernel
theorem dL_law_434 : decode cL_law 434 = .ok (.iconst 1, 1) := by decide +kernel
theorem dL_law_435 : decode cL_law 435 = .ok (.iadd, 1) := by decide +kernel
theorem dL_law_436 : decode cL_law 436 = .ok (.iaload, 1) := by decide +kernel
theorem dL_law_437 : decode cL_law 437 = .ok (.invokevirtual 28, 3) := by decide +kernel
theorem dL_law_440 : decode cL_law 440 = .ok (.aload_n 2, 1) := by decide +kernel
theorem dL_law_441 : decode cL_law 441 = .ok (.aload_n 0, 1) := by decide +kernel
theorem dL_law_442 : decode cL_law 442 = .ok (.iload_n 3, 1) := by decide +kernel
theorem dL_law_443 : decode cL_law 443 = .ok (.iconst 1, 1) := by decide +kernel
theorem dL_law_444 : decode cL_law 444 = .ok (.iadd, 1) := by decide +kernel
theorem dL_law_445 : decode cL_law 445 = .ok (.iaload, 1) := by decide +kernel
theorem dL_law_446 : decode cL_law 446 = .ok (.invokevirtual 31, 3) := by decide +kernel
theorem dL_law_449 : decode cL_law 449 = .ok (.if_icmp .eq 2016, 3) := by decide +kernel
theorem dL_law_454 : decode cL_law 454 = .ok (.aload_n 1, 1) := by decide +kernel
theorem dL_law_455 : decode cL_law 455 = .ok (.aload_n 0, 1) := by decide +kernel
theorem dL_law_456 : decode cL_law 456 = .ok (.iload_n 3, 1) := by decide +kernel
theorem dL_law_457 : decode cL_law 457 = .ok (.iconst 1, 1) := by decide +kernel
theorem dL_law_458 : decode cL_law 458 = .ok (.iadd, 1) := by decide +kernel
theorem dL_law_459 : decode cL_law 459 = .ok (.iaload, 1) := by decide +kernel
theorem dL_law_460 : decode cL_law 460 = .ok (.invokevirtual 32, 3) := by decide +kernel
theorem dL_law_463 : decode cL_law 463 = .ok (.aload_n 2, 1) := by decide +kernel
theorem dL_law_464 : decode cL_law 464 = .ok (.aload_n 0, 1) := by decide +kernel
theorem dL_law_465 : decode cL_law 465 = .ok (.iload_n 3, 1) := by decide +kernel
theorem dL_law_466 : decode cL_law 466 = .ok (.iconst 1, 1) := by decide +kernel
theorem dL_law_467 : decode cL_law 467 = .ok (.iadd, 1) := by decide +kernel
theorem dL_law_468 : decode cL_law 468 = .ok (.iaload, 1) := by decide +kernel
theorem dL_law_469 : decode cL_law 469 = .ok (.invokevirtual 35, 3) := by decide +kernel
theorem dL_law_472 : decode cL_law 472 = .ok (.if_icmp .eq 1993, 3) := by decide +kernel
theorem dL_law_477 : decode cL_law 477 = .ok (.aload_n 1, 1) := by decide +kernel
theorem dL_law_478 : decode cL_law 478 = .ok (.aload_n 0, 1) := by decide +kernel
theorem dL_law_479 : decode cL_law 479 = .ok (.iload_n 3, 1) := by decide +kernel
theorem dL_law_480 : decode cL_law 480 = .ok (.iconst 1, 1) := by decide +kernel
theorem dL_law_481 : decode cL_law 481 = .ok (.iadd, 1) := by decide +kernel
theorem dL_law_482 : decode cL_law 482 = .ok (.iaload, 1) := by decide +kernel
theorem dL_law_483 : decode cL_law 483 = .ok (.aload_n 0, 1) := by decide +kernel
theorem dL_law_484 : decode cL_law 484 = .ok (.iload_n 3, 1) := by decide +kernel
theorem dL_law_485 : decode cL_law 485 = .ok (.iconst 2, 1) := by decide +kernel
theorem dL_law_486 : decode cL_law 486 = .ok (.iadd, 1) := by decide +kernel
theorem dL_law_487 : decode cL_law 487 = .ok (.iaload, 1) := by decide +kernel
theorem dL_law_488 : decode cL_law 488 = .ok (.invokevirtual 36, 3) := by decide +kernel
theorem dL_law_491 : decode cL_law 491 = .ok (.aload_n 2, 1) := by decide +kernel
theorem dL_law_492 : decode cL_law 492 = .ok (.aload_n 0, 1) := by decide +kernel
theorem dL_law_493 : decode cL_law 493 = .ok (.iload_n 3, 1) := by decide +kernel
theorem dL_law_494 : decode cL_law 494 = .ok (.iconst 1, 1) := by decide +kernel
theorem dL_law_495 : decode cL_law 495 = .ok (.iadd, 1) := by decide +kernel
theorem dL_law_496 : decode cL_law 496 = .ok (.iaload, 1) := by decide +kernel
theorem dL_law_497 : decode cL_law 497 = .ok (.aload_n 0, 1) := by decide +kernel
theorem dL_law_498 : decode cL_law 498 = .ok (.iload_n 3, 1) := by decide +kernel
theorem dL_law_499 : decode cL_law 499 = .ok (.iconst 2, 1) := by decide +kernel
theorem dL_law_500 : decode cL_law 500 = .ok (.iadd, 1) := by decide +kernel
theorem dL_law_501 : decode cL_law 501 = .ok (.iaload, 1) := by decide +kernel
theorem dL_law_502 : decode cL_law 502 = .ok (.invokevirtual 40, 3) := by decide +kernel
theorem dL_law_505 : decode cL_law 505 = .ok (.if_icmp .eq 1960, 3) := by decide +kernel
theorem dL_law_510 : decode cL_law 510 = .ok (.aload_n 1, 1) := by decide +kernel
theorem dL_law_511 : decode cL_law 511 = .ok (.aload_n 0, 1) := by decide +kernel
theorem dL_law_512 : decode cL_law 512 = .ok (.iload_n 3, 1) := by decide +kernel
theorem dL_law_513 : decode cL_law 513 = .ok (.iconst 1, 1) := by decide +kernel
theorem dL_law_514 : decode cL_law 514 = .ok (.iadd, 1) := by decide +kernel
theorem dL_law_515 : decode cL_law 515 = .ok (.iaload, 1) := by decide +kernel
theorem dL_law_516 : decode cL_law 516 = .ok (.aload_n 0, 1) := by decide +kernel
theorem dL_law_517 : decode cL_law 517 = .ok (.iload_n 3, 1) := by decide +kernel
theorem dL_law_518 : decode cL_law 518 = .ok (.iconst 2, 1) := by decide +kernel
theorem dL_law_519 : decode cL_law 519 = .ok (.iadd, 1) := by decide +kernel
theorem dL_law_520 : decode cL_law 520 = .ok (.iaload, 1) := by decide +kernel
theorem dL_law_521 : decode cL_law 521 = .ok (.invokevirtual 41, 3) := by decide +kernel
theorem dL_law_524 : decode cL_law 524 = .ok (.aload_n 2, 1) := by decide +kernel
theorem dL_law_525 : decode cL_law 525 = .ok (.aload_n 0, 1) := by decide +kernel
theorem dL_law_526 : decode cL_law 526 = .ok (.iload_n 3, 1) := by decide +kernel
theorem dL_law_527 : decode cL_law 527 = .ok (.iconst 1, 1) := by decide +kernel
theorem dL_law_528 : decode cL_law 528 = .ok (.iadd, 1) := by decide +kernel
theorem dL_law_529 : decode cL_law 529 = .ok (.iaload, 1) := by decide +kernel
theorem dL_law_530 : decode cL_law 530 = .ok (.aload_n 0, 1) := by decide +kernel
theorem dL_law_531 : decode cL_law 531 = .ok (.iload_n 3, 1) := by decide +kernel
theorem dL_law_532 : decode cL_law 532 = .ok (.iconst 2, 1) := by decide +kernel
theorem dL_law_533 : decode cL_law 533 = .ok (.iadd, 1) := by decide +kernel
theorem dL_law_534 : decode cL_law 534 = .ok (.iaload, 1) := by decide +kernel
theorem dL_law_535 : decode cL_law 535 = .ok (.invokevirtual 44, 3) := by decide +kernel
theorem dL_law_538 : decode cL_law 538 = .ok (.if_icmp .eq 1927, 3) := by decide +kernel
theorem dL_law_543 : decode cL_law 543 = .ok (.aload_n 1, 1) := by decide +kernel
theorem dL_law_544 : decode cL_law 544 = .ok (.aload_n 0, 1) := by decide +kernel
theorem dL_law_545 : decode cL_law 545 = .ok (.iload_n 3, 1) := by decide +kernel
theorem dL_law_546 : decode cL_law 546 = .ok (.iconst 1, 1) := by decide +kernel
theorem dL_law_547 : decode cL_law 547 = .ok (.iadd, 1) := by decide +kernel
theorem dL_law_548 : decode cL_law 548 = .ok (.iaload, 1) := by decide +kernel
theorem dL_law_549 : decode cL_law 549 = .ok (.aload_n 0, 1) := by decide +kernel
theorem dL_law_550 : decode cL_law 550 = .ok (.iload_n 3, 1) := by decide +kernel
theorem dL_law_551 : decode cL_law 551 = .ok (.iconst 2, 1) := by decide +kernel
theorem dL_law_552 : decode cL_law 552 = .ok (.iadd, 1) := by decide +kernel
theorem dL_law_553 : decode cL_law 553 = .ok (.iaload, 1) := by decide +kernel
theorem dL_law_554 : decode cL_law 554 = .ok (.invokevirtual 45, 3) := by decide +kernel
theorem dL_law_557 : decode cL_law 557 = .ok (.aload_n 2, 1) := by decide +kernel
theorem dL_law_558 : decode cL_law 558 = .ok (.aload_n 0, 1) := by decide +kernel
theorem dL_law_559 : decode cL_law 559 = .ok (.iload_n 3, 1) := by decide +kernel
theorem dL_law_560 : decode cL_law 560 = .ok (.iconst 1, 1) := by decide +kernel
theorem dL_law_561 : decode cL_law 561 = .ok (.iadd, 1) := by decide +kernel
theorem dL_law_562 : decode cL_law 562 = .ok (.iaload, 1) := by decide +kernel
theorem dL_law_563 : decode cL_law 563 = .ok (.aload_n 0, 1) := by decide +kernel
theorem dL_law_564 : decode cL_law 564 = .ok (.iload_n 3, 1) := by decide +kernel
theorem dL_law_565 : decode cL_law 565 = .ok (.iconst 2, 1) := by decide +kernel
theorem dL_law_566 : decode cL_law 566 = .ok (.iadd, 1) := by decide +kernel
theorem dL_law_567 : decode cL_law 567 = .ok (.iaload, 1) := by decide +kernel
theorem dL_law_568 : decode cL_law 568 = .ok (.invokevirtual 48, 3) := by decide +kernel
theorem dL_law_571 : decode cL_law 571 = .ok (.if_icmp .eq 1894, 3) := by decide +kernel
theorem dL_law_576 : decode cL_law 576 = .ok (.aload_n 1, 1) := by decide +kernel
theorem dL_law_577 : decode cL_law 577 = .ok (.aload_n 0, 1) := by decide +kernel
theorem dL_law_578 : decode cL_law 578 = .ok (.iload_n 3, 1) := by decide +kernel
theorem dL_law_579 : decode cL_law 579 = .ok (.iconst 1, 1) := by decide +kernel
theorem dL_law_580 : decode cL_law 580 = .ok (.iadd, 1) := by decide +kernel
theorem dL_law_581 : decode cL_law 581 = .ok (.iaload, 1) := by decide +kernel
theorem dL_law_582 : decode cL_law 582 = .ok (.invokevirtual 49, 3) := by decide +kernel
theorem dL_law_585 : decode cL_law 585 = .ok (.aload_n 2, 1) := by decide +kernel
theorem dL_law_586 : decode cL_law 586 = .ok (.aload_n 0, 1) := by decide +kernel
theorem dL_law_587 : decode cL_law 587 = .ok (.iload_n 3, 1) := by decide +kernel
theorem dL_law_588 : decode cL_law 588 = .ok (.iconst 1, 1) := by decide +kernel
theorem dL_law_589 : decode cL_law 589 = .ok (.iadd, 1) := by decide +kernel
theorem dL_law_590 : decode cL_law 590 = .ok (.iaload, 1) := by decide +kernel
theorem dL_law_591 : decode cL_law 591 = .ok (.invokevirtual 52, 3) := by decide +kernel
theorem dL_law_594 : decode cL_law 594 = .ok (.if_icmp .eq 1871, 3) := by decide +kernel
theorem dL_law_599 : decode cL_law 599 = .ok (.aload_n 1, 1) := by decide +kernel
theorem dL_law_600 : decode cL_law 600 = .ok (.aload_n 0, 1) := by decide +kernel
theorem dL_law_601 : decode cL_law 601 = .ok (.iload_n 3, 1) := by decide +kernel
theorem dL_law_602 : decode cL_law 602 = .ok (.iconst 1, 1) := by decide +kernel
theorem dL_law_603 : decode cL_law 603 = .ok (.iadd, 1) := by decide +kernel
theorem dL_law_604 : decode cL_law 604 = .ok (.iaload, 1) := by decide +kernel
theorem dL_law_605 : decode cL_law 605 = .ok (.invokevirtual 53, 3) := by decide +kernel
theorem dL_law_608 : decode cL_law 608 = .ok (.aload_n 2, 1) := by decide +kernel
theorem dL_law_609 : decode cL_law 609 = .ok (.aload_n 0, 1) := by decide +kernel
theorem dL_law_610 : decode cL_law 610 = .ok (.iload_n 3, 1) := by decide +kernel
theorem dL_law_611 : decode cL_law 611 = .ok (.iconst 1, 1) := by decide +kernel
theorem dL_law_612 : decode cL_law 612 = .ok (.iadd, 1) := by decide +kernel
theorem dL_law_613 : decode cL_law 613 = .ok (.iaload, 1) := by decide +kernel
theorem dL_law_614 : decode cL_law 614 = .ok (.invokevirtual 56, 3) := by decide +kernel
theorem dL_law_617 : decode cL_law 617 = .ok (.if_icmp .eq 1848, 3) := by decide +kernel
theorem dL_law_622 : decode cL_law 622 = .ok (.aload_n 1, 1) := by decide +kernel
theorem dL_law_623 : decode cL_law 623 = .ok (.aload_n 0, 1) := by decide +kernel
theorem dL_law_624 : decode cL_law 624 = .ok (.iload_n 3, 1) := by decide +kernel
theorem dL_law_625 : decode cL_law 625 = .ok (.iconst 1, 1) := by decide +kernel
theorem dL_law_626 : decode cL_law 626 = .ok (.iadd, 1) := by decide +kernel
theorem dL_law_627 : decode cL_law 627 = .ok (.iaload, 1) := by decide +kernel
theorem dL_law_628 : decode cL_law 628 = .ok (.aload_n 0, 1) := by decide +kernel
theorem dL_law_629 : decode cL_law 629 = .ok (.iload_n 3, 1) := by decide +kernel
theorem dL_law_630 : decode cL_law 630 = .ok (.iconst 2, 1) := by decide +kernel
theorem dL_law_631 : decode cL_law 631 = .ok (.iadd, 1) := by decide +kernel
theorem dL_law_632 : decode cL_law 632 = .ok (.iaload, 1) := by decide +kernel
theorem dL_law_633 : decode cL_law 633 = .ok (.invokevirtual 57, 3) := by decide +kernel
theorem dL_law_636 : decode cL_law 636 = .ok (.aload_n 2, 1) := by decide +kernel
theorem dL_law_637 : decode cL_law 637 = .ok (.aload_n 0, 1) := by decide +kernel
theorem dL_law_638 : decode cL_law 638 = .ok (.iload_n 3, 1) := by decide +kernel
theorem dL_law_639 : decode cL_law 639 = .ok (.iconst 1, 1) := by decide +kernel
theorem dL_law_640 : decode cL_law 640 = .ok (.iadd, 1) := by decide +kernel
theorem dL_law_641 : decode cL_law 641 = .ok (.iaload, 1) := by decide +kernel
theorem dL_law_642 : decode cL_law 642 = .ok (.aload_n 0, 1) := by decide +kernel
theorem dL_law_643 : decode cL_law 643 = .ok (.iload_n 3, 1) := by decide +kernel
theorem dL_law_644 : decode cL_law 644 = .ok (.iconst 2, 1) := by decide +kernel
theorem dL_law_645 : decode cL_law 645 = .ok (.iadd, 1) := by decide +kernel
theorem dL_law_646 : decode cL_law 646 = .ok (.iaload, 1) := by decide +kernel
theorem dL_law_647 : decode cL_law 647 = .ok (.invokevirtual 60, 3) := by decide +kernel
theorem dL_law_650 : decode cL_law 650 = .ok (.if_icmp .eq 1815, 3) := by decide +kernel
theorem dL_law_655 : decode cL_law 655 = .ok (.aload_n 1, 1) := by decide +kernel
theorem dL_law_656 : decode cL_law 656 = .ok (.aload_n 0, 1) := by decide +kernel
theorem dL_law_657 : decode cL_law 657 = .ok (.iload_n 3, 1) := by decide +kernel
theorem dL_law_658 : decode cL_law 658 = .ok (.iconst 1, 1) := by decide +kernel
theorem dL_law_659 : decode cL_law 659 = .ok (.iadd, 1) := by decide +kernel
theorem dL_law_660 : decode cL_law 660 = .ok (.iaload, 1) := by decide +kernel
theorem dL_law_661 : decode cL_law 661 = .ok (.aload_n 0, 1) := by decide +kernel
theorem dL_law_662 : decode cL_law 662 = .ok (.iload_n 3, 1) := by decide +kernel
theorem dL_law_663 : decode cL_law 663 = .ok (.iconst 2, 1) := by decide +kernel
theorem dL_law_664 : decode cL_law 664 = .ok (.iadd, 1) := by decide +kernel
theorem dL_law_665 : decode cL_law 665 = .ok (.iaload, 1) := by decide +kernel
theorem dL_law_666 : decode cL_law 666 = .ok (.aload_n 0, 1) := by decide +kernel
theorem dL_law_667 : decode cL_law 667 = .ok (.iload_n 3, 1) := by decide +kernel
theorem dL_law_668 : decode cL_law 668 = .ok (.iconst 3, 1) := by decide +kernel
theorem dL_law_669 : decode cL_law 669 = .ok (.iadd, 1) := by decide +kernel
theorem dL_law_670 : decode cL_law 670 = .ok (.iaload, 1) := by decide +kernel
theorem dL_law_671 : decode cL_law 671 = .ok (.aload_n 0, 1) := by decide +kernel
theorem dL_law_672 : decode cL_law 672 = .ok (.iload_n 3, 1) := by decide +kernel
theorem dL_law_673 : decode cL_law 673 = .ok (.iconst 4, 1) := by decide +kernel
theorem dL_law_674 : decode cL_law 674 = .ok (.iadd, 1) := by decide +kernel
theorem dL_law_675 : decode cL_law 675 = .ok (.iaload, 1) := by decide +kernel
theorem dL_law_676 : decode cL_law 676 = .ok (.invokevirtual 61, 3) := by decide +kernel
theorem dL_law_679 : decode cL_law 679 = .ok (.aload_n 2, 1) := by decide +kernel
theorem dL_law_680 : decode cL_law 680 = .ok (.aload_n 0, 1) := by decide +kernel
theorem dL_law_681 : decode cL_law 681 = .ok (.iload_n 3, 1) := by decide +kernel
theorem dL_law_682 : decode cL_law 682 = .ok (.iconst 1, 1) := by decide +kernel
theorem dL_law_683 : decode cL_law 683 = .ok (.iadd, 1) := by decide +kernel
theorem dL_law_684 : decode cL_law 684 = .ok (.iaload, 1) := by decide +kernel
theorem dL_law_685 : decode cL_law 685 = .ok (.aload_n 0, 1) := by decide +kernel
theorem dL_law_686 : decode cL_law 686 = .ok (.iload_n 3, 1) := by decide +kernel
theorem dL_law_687 : decode cL_law 687 = .ok (.iconst 2, 1) := by decide +kernel
theorem dL_law_688 : decode cL_law 688 = .ok (.iadd, 1) := by decide +kernel
theorem dL_law_689 : decode cL_law 689 = .ok (.iaload, 1) := by decide +kernel
theorem dL_law_690 : decode cL_law 690 = .ok (.aload_n 0, 1) := by decide +kernel
theorem dL_law_691 : decode cL_law 691 = .ok (.iload_n 3, 1) := by decide +kernel
theorem dL_law_692 : decode cL_law 692 = .ok (.iconst 3, 1) := by decide +kernel
theorem dL_law_693 : decode cL_law 693 = .ok (.iadd, 1) := by decide +kernel
theorem dL_law_694 : decode cL_law 694 = .ok (.iaload, 1) := by decide +kernel
theorem dL_law_695 : decode cL_law 695 = .ok (.aload_n 0, 1) := by decide +kernel
theorem dL_law_696 : decode cL_law 696 = .ok (.iload_n 3, 1) := by decide +kernel
theorem dL_law_697 : decode cL_law 697 = .ok (.iconst 4, 1) := by decide +kernel
theorem dL_law_698 : decode cL_law 698 = .ok (.iadd, 1) := by decide +kernel
theorem dL_law_699 : decode cL_law 699 = .ok (.iaload, 1) := by decide +kernel
theorem dL_law_700 : decode cL_law 700 = .ok (.invokevirtual 65, 3) := by decide +kernel
theorem dL_law_703 : decode cL_law 703 = .ok (.if_icmp .eq 1762, 3) := by decide +kernel
theorem dL_law_708 : decode cL_law 708 = .ok (.aload_n 1, 1) := by decide +kernel
theorem dL_law_709 : decode cL_law 709 = .ok (.aload_n 0, 1) := by decide +kernel
theorem dL_law_710 : decode cL_law 710 = .ok (.iload_n 3, 1) := by decide +kernel
theorem dL_law_711 : decode cL_law 711 = .ok (.iconst 1, 1) := by decide +kernel
theorem dL_law_712 : decode cL_law 712 = .ok (.iadd, 1) := by decide +kernel
theorem dL_law_713 : decode cL_law 713 = .ok (.iaload, 1) := by decide +kernel
theorem dL_law_714 : decode cL_law 714 = .ok (.aload_n 0, 1) := by decide +kernel
theorem dL_law_715 : decode cL_law 715 = .ok (.iload_n 3, 1) := by decide +kernel
theorem dL_law_716 : decode cL_law 716 = .ok (.iconst 2, 1) := by decide +kernel
theorem dL_law_717 : decode cL_law 717 = .ok (.iadd, 1) := by decide +kernel
theorem dL_law_718 : decode cL_law 718 = .ok (.iaload, 1) := by decide +kernel
theorem dL_law_719 : decode cL_law 719 = .ok (.invokevirtual 66, 3) := by decide +kernel
theorem dL_law_722 : decode cL_law 722 = .ok (.aload_n 2, 1) := by decide +kernel
theorem dL_law_723 : decode cL_law 723 = .ok (.aload_n 0, 1) := by decide +kernel
theorem dL_law_724 : decode cL_law 724 = .ok (.iload_n 3, 1) := by decide +kernel
theorem dL_law_725 : decode cL_law 725 = .ok (.iconst 1, 1) := by decide +kernel
theorem dL_law_726 : decode cL_law 726 = .ok (.iadd, 1) := by decide +kernel
theorem dL_law_727 : decode cL_law 727 = .ok (.iaload, 1) := by decide +kernel
theorem dL_law_728 : decode cL_law 728 = .ok (.aload_n 0, 1) := by decide +kernel
theorem dL_law_729 : decode cL_law 729 = .ok (.iload_n 3, 1) := by decide +kernel
theorem dL_law_730 : decode cL_law 730 = .ok (.iconst 2, 1) := by decide +kernel
theorem dL_law_731 : decode cL_law 731 = .ok (.iadd, 1) := by decide +kernel
theorem dL_law_732 : decode cL_law 732 = .ok (.iaload, 1) := by decide +kernel
theorem dL_law_733 : decode cL_law 733 = .ok (.invokevirtual 69, 3) := by decide +kernel
theorem dL_law_736 : decode cL_law 736 = .ok (.if_icmp .eq 1729, 3) := by decide +kernel
theorem dL_law_741 : decode cL_law 741 = .ok (.aload_n 1, 1) := by decide +kernel
theorem dL_law_742 : decode cL_law 742 = .ok (.aload_n 0, 1) := by decide +kernel
theorem dL_law_743 : decode cL_law 743 = .ok (.iload_n 3, 1) := by decide +kernel
theorem dL_law_744 : decode cL_law 744 = .ok (.iconst 1, 1) := by decide +kernel
theorem dL_law_745 : decode cL_law 745 = .ok (.iadd, 1) := by decide +kernel
theorem dL_law_746 : decode cL_law 746 = .ok (.iaload, 1) := by decide +kernel
theorem dL_law_747 : decode cL_law 747 = .ok (.aload_n 0, 1) := by decide +kernel
theorem dL_law_748 : decode cL_law 748 = .ok (.iload_n 3, 1) := by decide +kernel
theorem dL_law_749 : decode cL_law 749 = .ok (.iconst 2, 1) := by decide +kernel
theorem dL_law_750 : decode cL_law 750 = .ok (.iadd, 1) := by decide +kernel
theorem dL_law_751 : decode cL_law 751 = .ok (.iaload, 1) := by decide +kernel
theorem dL_law_752 : decode cL_law 752 = .ok (.aload_n 0, 1) := by decide +kernel
theorem dL_law_753 : decode cL_law 753 = .ok (.iload_n 3, 1) := by decide +kernel
theorem dL_law_754 : decode cL_law 754 = .ok (.iconst 3, 1) := by decide +kernel
theorem dL_law_755 : decode cL_law 755 = .ok (.iadd, 1) := by decide +kernel
theorem dL_law_756 : decode cL_law 756 = .ok (.iaload, 1) := by decide +kernel
theorem dL_law_757 : decode cL_law 757 = .ok (.invokevirtual 70, 3) := by decide +kernel
theorem dL_law_760 : decode cL_law 760 = .ok (.aload_n 2, 1) := by decide +kernel
theorem dL_law_761 : decode cL_law 761 = .ok (.aload_n 0, 1) := by decide +kernel
theorem dL_law_762 : decode cL_law 762 = .ok (.iload_n 3, 1) := by decide +kernel
theorem dL_law_763 : decode cL_law 763 = .ok (.iconst 1, 1) := by decide +kernel
theorem dL_law_764 : decode cL_law 764 = .ok (.iadd, 1) := by decide +kernel
theorem dL_law_765 : decode cL_law 765 = .ok (.iaload, 1) := by decide +kernel
theorem dL_law_766 : decode cL_law 766 = .ok (.aload_n 0, 1) := by decide +kernel
theorem dL_law_767 : decode cL_law 767 = .ok (.iload_n 3, 1) := by decide +kernel
theorem dL_law_768 : decode cL_law 768 = .ok (.iconst 2, 1) := by decide +kernel
theorem dL_law_769 : decode cL_law 769 = .ok (.iadd, 1) := by decide +kernel
theorem dL_law_770 : decode cL_law 770 = .ok (.iaload, 1) := by decide +kernel
theorem dL_law_771 : decode cL_law 771 = .ok (.aload_n 0, 1) := by decide +kernel
theorem dL_law_772 : decode cL_law 772 = .ok (.iload_n 3, 1) := by decide +kernel
theorem dL_law_773 : decode cL_law 773 = .ok (.iconst 3, 1) := by decide +kernel
theorem dL_law_774 : decode cL_law 774 = .ok (.iadd, 1) := by decide +kernel
theorem dL_law_775 : decode cL_law 775 = .ok (.iaload, 1) := by decide +kernel
theorem dL_law_776 : decode cL_law 776 = .ok (.invokevirtual 74, 3) := by decide +kernel
theorem dL_law_779 : decode cL_law 779 = .ok (.if_icmp .eq 1686, 3) := by decide +kernel
theorem dL_law_784 : decode cL_law 784 = .ok (.aload_n 1, 1) := by decide +kernel
theorem dL_law_785 : decode cL_law 785 = .ok (.aload_n 0, 1) := by decide +kernel
theorem dL_law_786 : decode cL_law 786 = .ok (.iload_n 3, 1) := by decide +kernel
theorem dL_law_787 : decode cL_law 787 = .ok (.iconst 1, 1) := by decide +kernel
theorem dL_law_788 : decode cL_law 788 = .ok (.iadd, 1) := by decide +kernel
theorem dL_law_789 : decode cL_law 789 = .ok (.iaload, 1) := by decide +kernel
theorem dL_law_790 : decode cL_law 790 = .ok (.aload_n 0, 1) := by decide +kernel
theorem dL_law_791 : decode cL_law 791 = .ok (.iload_n 3, 1) := by decide +kernel
theorem dL_law_792 : decode cL_law 792 = .ok (.iconst 2, 1) := by decide +kernel
theorem dL_law_793 : decode cL_law 793 = .ok (.iadd, 1) := by decide +kernel
theorem dL_law_794 : decode cL_law 794 = .ok (.iaload, 1) := by decide +kernel
theorem dL_law_795 : decode cL_law 795 = .ok (.invokevirtual 75, 3) := by decide +kernel
theorem dL_law_798 : decode cL_law 798 = .ok (.aload_n 2, 1) := by decide +kernel
theorem dL_law_799 : decode cL_law 799 = .ok (.aload_n 0, 1) := by decide +kernel
theorem dL_law_800 : decode cL_law 800 = .ok (.iload_n 3, 1) := by decide +kernel
theorem dL_law_801 : decode cL_law 801 = .ok (.iconst 1, 1) := by decide +kernel
theorem dL_law_802 : decode cL_law 802 = .ok (.iadd, 1) := by decide +kernel
theorem dL_law_803 : decode cL_law 803 = .ok (.iaload, 1) := by decide +kernel
theorem dL_law_804 : decode cL_law 804 = .ok (.aload_n 0, 1) := by decide +kernel
theorem dL_law_805 : decode cL_law 805 = .ok (.iload_n 3, 1) := by decide +kernel
theorem dL_law_806 : decode cL_law 806 = .ok (.iconst 2, 1) := by decide +kernel
theorem dL_law_807 : decode cL_law 807 = .ok (.iadd, 1) := by decide +kernel
theorem dL_law_808 : decode cL_law 808 = .ok (.iaload, 1) := by decide +kernel
theorem dL_law_809 : decode cL_law 809 = .ok (.invokevirtual 78, 3) := by decide +kernel
theorem dL_law_812 : decode cL_law 812 = .ok (.if_icmp .eq 1653, 3) := by decide +kernel
theorem dL_law_817 : decode cL_law 817 = .ok (.aload_n 1, 1) := by decide +kernel
theorem dL_law_818 : decode cL_law 818 = .ok (.aload_n 0, 1) := by decide +kernel
theorem dL_law_819 : decode cL_law 819 = .ok (.iload_n 3, 1) := by decide +kernel
theorem dL_law_820 : decode cL_law 820 = .ok (.iconst 1, 1) := by decide +kernel
theorem dL_law_821 : decode cL_law 821 = .ok (.iadd, 1) := by decide +kernel
theorem dL_law_822 : decode cL_law 822 = .ok (.iaload, 1) := by decide +kernel
theorem dL_law_823 : decode cL_law 823 = .ok (.invokevirtual 79, 3) := by decide +kernel
theorem dL_law_826 : decode cL_law 826 = .ok (.aload_n 2, 1) := by decide +kernel
theorem dL_law_827 : decode cL_law 827 = .ok (.aload_n 0, 1) := by decide +kernel
theorem dL_law_828 : decode cL_law 828 = .ok (.iload_n 3, 1) := by decide +kernel
theorem dL_law_829 : decode cL_law 829 = .ok (.iconst 1, 1) := by decide +kernel
theorem dL_law_830 : decode cL_law 830 = .ok (.iadd, 1) := by decide +kernel
theorem dL_law_831 : decode cL_law 831 = .ok (.iaload, 1) := by decide +kernel
theorem dL_law_832 : decode cL_law 832 = .ok (.invokevirtual 82, 3) := by decide +kernel
theorem dL_law_835 : decode cL_law 835 = .ok (.if_icmp .eq 1630, 3) := by decide +kernel
theorem dL_law_840 : decode cL_law 840 = .ok (.aload_n 1, 1) := by decide +kernel
theorem dL_law_841 : decode cL_law 841 = .ok (.aload_n 0, 1) := by decide +kernel
theorem dL_law_842 : decode cL_law 842 = .ok (.iload_n 3, 1) := by decide +kernel
theorem dL_law_843 : decode cL_law 843 = .ok (.iconst 1, 1) := by decide +kernel
theorem dL_law_844 : decode cL_law 844 = .ok (.iadd, 1) := by decide +kernel
theorem dL_law_845 : decode cL_law 845 = .ok (.iaload, 1) := by decide +kernel
theorem dL_law_846 : decode cL_law 846 = .ok (.aload_n 0, 1) := by decide +kernel
theorem dL_law_847 : decode cL_law 847 = .ok (.iload_n 3, 1) := by decide +kernel
theorem dL_law_848 : decode cL_law 848 = .ok (.iconst 2, 1) := by decide +kernel
theorem dL_law_849 : decode cL_law 849 = .ok (.iadd, 1) := by decide +kernel
theorem dL_law_850 : decode cL_law 850 = .ok (.iaload, 1) := by decide +kernel
theorem dL_law_851 : decode cL_law 851 = .ok (.invokevirtual 83, 3) := by decide +kernel
theorem dL_law_854 : decode cL_law 854 = .ok (.aload_n 2, 1) := by decide +kernel
theorem dL_law_855 : decode cL_law 855 = .ok (.aload_n 0, 1) := by decide +kernel
theorem dL_law_856 : decode cL_law 856 = .ok (.iload_n 3, 1) := by decide +kernel
theorem dL_law_857 : decode cL_law 857 = .ok (.iconst 1, 1) := by decide +kernel
theorem dL_law_858 : decode cL_law 858 = .ok (.iadd, 1) := by decide +kernel
theorem dL_law_859 : decode cL_law 859 = .ok (.iaload, 1) := by decide +kernel
theorem dL_law_860 : decode cL_law 860 = .ok (.aload_n 0, 1) := by decide +kernel
theorem dL_law_861 : decode cL_law 861 = .ok (.iload_n 3, 1) := by decide +kernel
theorem dL_law_862 : decode cL_law 862 = .ok (.iconst 2, 1) := by decide +kernel
theorem dL_law_863 : decode cL_law 863 = .ok (.iadd, 1) := by decide +kernel
theorem dL_law_864 : decode cL_law 864 = .ok (.iaload, 1) := by decide +kernel
theorem dL_law_865 : decode cL_law 865 = .ok (.invokevirtual 86, 3) := by decide +kernel
theorem dL_law_868 : decode cL_law 868 = .ok (.if_icmp .eq 1597, 3) := by decide +kernel
theorem dL_law_873 : decode cL_law 873 = .ok (.aload_n 1, 1) := by decide +kernel
theorem dL_law_874 : decode cL_law 874 = .ok (.aload_n 0, 1) := by decide +kernel
theorem dL_law_875 : decode cL_law 875 = .ok (.iload_n 3, 1) := by decide +kernel
theorem dL_law_876 : decode cL_law 876 = .ok (.iconst 1, 1) := by decide +kernel
theorem dL_law_877 : decode cL_law 877 = .ok (.iadd, 1) := by decide +kernel
theorem dL_law_878 : decode cL_law 878 = .ok (.iaload, 1) := by decide +kernel
theorem dL_law_879 : decode cL_law 879 = .ok (.aload_n 0, 1) := by decide +kernel
theorem dL_law_880 : decode cL_law 880 = .ok (.iload_n 3, 1) := by decide +kernel
theorem dL_law_881 : decode cL_law 881 = .ok (.iconst 2, 1) := by decide +kernel
theorem dL_law_882 : decode cL_law 882 = .ok (.iadd, 1) := by decide +kernel
theorem dL_law_883 : decode cL_law 883 = .ok (.iaload, 1) := by decide +kernel
theorem dL_law_884 : decode cL_law 884 = .ok (.invokevirtual 87, 3) := by decide +kernel
theorem dL_law_887 : decode cL_law 887 = .ok (.aload_n 2, 1) := by decide +kernel
theorem dL_law_888 : decode cL_law 888 = .ok (.aload_n 0, 1) := by decide +kernel
theorem dL_law_889 : decode cL_law 889 = .ok (.iload_n 3, 1) := by decide +kernel
theorem dL_law_890 : decode cL_law 890 = .ok (.iconst 1, 1) := by decide +kernel
theorem dL_law_891 : decode cL_law 891 = .ok (.iadd, 1) := by decide +kernel
theorem dL_law_892 : decode cL_law 892 = .ok (.iaload, 1) := by decide +kernel
theorem dL_law_893 : decode cL_law 893 = .ok (.aload_n 0, 1) := by decide +kernel
theorem dL_law_894 : decode cL_law 894 = .ok (.iload_n 3, 1) := by decide +kernel
theorem dL_law_895 : decode cL_law 895 = .ok (.iconst 2, 1) := by decide +kernel
theorem dL_law_896 : decode cL_law 896 = .ok (.iadd, 1) := by decide +kernel
theorem dL_law_897 : decode cL_law 897 = .ok (.iaload, 1) := by decide +kernel
theorem dL_law_898 : decode cL_law 898 = .ok (.invokevirtual 90, 3) := by decide +kernel
theorem dL_law_901 : decode cL_law 901 = .ok (.if_icmp .eq 1564, 3) := by decide +kernel
theorem dL_law_906 : decode cL_law 906 = .ok (.aload_n 1, 1) := by decide +kernel
theorem dL_law_907 : decode cL_law 907 = .ok (.aload_n 0, 1) := by decide +kernel
theorem dL_law_908 : decode cL_law 908 = .ok (.iload_n 3, 1) := by decide +kernel
theorem dL_law_909 : decode cL_law 909 = .ok (.iconst 1, 1) := by decide +kernel
theorem dL_law_910 : decode cL_law 910 = .ok (.iadd, 1) := by decide +kernel
theorem dL_law_911 : decode cL_law 911 = .ok (.iaload, 1) := by decide +kernel
theorem dL_law_912 : decode cL_law 912 = .ok (.aload_n 0, 1) := by decide +kernel
theorem dL_law_913 : decode cL_law 913 = .ok (.iload_n 3, 1) := by decide +kernel
theorem dL_law_914 : decode cL_law 914 = .ok (.iconst 2, 1) := by decide +kernel
theorem dL_law_915 : decode cL_law 915 = .ok (.iadd, 1) := by decide +kernel
theorem dL_law_916 : decode cL_law 916 = .ok (.iaload, 1) := by decide +kernel
theorem dL_law_917 : decode cL_law 917 = .ok (.invokevirtual 91, 3) := by decide +kernel
theorem dL_law_920 : decode cL_law 920 = .ok (.aload_n 2, 1) := by decide +kernel
theorem dL_law_921 : decode cL_law 921 = .ok (.aload_n 0, 1) := by decide +kernel
theorem dL_law_922 : decode cL_law 922 = .ok (.iload_n 3, 1) := by decide +kernel
theorem dL_law_923 : decode cL_law 923 = .ok (.iconst 1, 1) := by decide +kernel
theorem dL_law_924 : decode cL_law 924 = .ok (.iadd, 1) := by decide +kernel
theorem dL_law_925 : decode cL_law 925 = .ok (.iaload, 1) := by decide +kernel
theorem dL_law_926 : decode cL_law 926 = .ok (.aload_n 0, 1) := by decide +kernel
theorem dL_law_927 : decode cL_law 927 = .ok (.iload_n 3, 1) := by decide +kernel
theorem dL_law_928 : decode cL_law 928 = .ok (.iconst 2, 1) := by decide +kernel
theorem dL_law_929 : decode cL_law 929 = .ok (.iadd, 1) := by decide +kernel
theorem dL_law_930 : decode cL_law 930 = .ok (.iaload, 1) := by decide +kernel
theorem dL_law_931 : decode cL_law 931 = .ok (.invokevirtual 94, 3) := by decide +kernel
theorem dL_law_934 : decode cL_law 934 = .ok (.if_icmp .eq 1531, 3) := by decide +kernel
theorem dL_law_939 : decode cL_law 939 = .ok (.aload_n 1, 1) := by decide +kernel
theorem dL_law_940 : decode cL_law 940 = .ok (.aload_n 0, 1) := by decide +kernel
theorem dL_law_941 : decode cL_law 941 = .ok (.iload_n 3, 1) := by decide +kernel
theorem dL_law_942 : decode cL_law 942 = .ok (.iconst 1, 1) := by decide +kernel
theorem dL_law_943 : decode cL_law 943 = .ok (.iadd, 1) := by decide +kernel
theorem dL_law_944 : decode cL_law 944 = .ok (.iaload, 1) := by decide +kernel
theorem dL_law_945 : decode cL_law 945 = .ok (.invokevirtual 95, 3) := by decide +kernel
theorem dL_law_948 : decode cL_law 948 = .ok (.aload_n 2, 1) := by decide +kernel
theorem dL_law_949 : decode cL_law 949 = .ok (.aload_n 0, 1) := by decide +kernel
theorem dL_law_950 : decode cL_law 950 = .ok (.iload_n 3, 1) := by decide +kernel
theorem dL_law_951 : decode cL_law 951 = .ok (.iconst 1, 1) := by decide +kernel
theorem dL_law_952 : decode cL_law 952 = .ok (.iadd, 1) := by decide +kernel
theorem dL_law_953 : decode cL_law 953 = .ok (.iaload, 1) := by decide +kernel
theorem dL_law_954 : decode cL_law 954 = .ok (.invokevirtual 98, 3) := by decide +kernel
theorem dL_law_957 : decode cL_law 957 = .ok (.if_icmp .eq 1508, 3) := by decide +kernel
theorem dL_law_962 : decode cL_law 962 = .ok (.aload_n 1, 1) := by decide +kernel
theorem dL_law_963 : decode cL_law 963 = .ok (.aload_n 0, 1) := by decide +kernel
theorem dL_law_964 : decode cL_law 964 = .ok (.iload_n 3, 1) := by decide +kernel
theorem dL_law_965 : decode cL_law 965 = .ok (.iconst 1, 1) := by decide +kernel
theorem dL_law_966 : decode cL_law 966 = .ok (.iadd, 1) := by decide +kernel
theorem dL_law_967 : decode cL_law 967 = .ok (.iaload, 1) := by decide +kernel
theorem dL_law_968 : decode cL_law 968 = .ok (.invokevirtual 99, 3) := by decide +kernel
theorem dL_law_971 : decode cL_law 971 = .ok (.aload_n 2, 1) := by decide +kernel
theorem dL_law_972 : decode cL_law 972 = .ok (.aload_n 0, 1) := by decide +kernel
theorem dL_law_973 : decode cL_law 973 = .ok (.iload_n 3, 1) := by decide +kernel
theorem dL_law_974 : decode cL_law 974 = .ok (.iconst 1, 1) := by decide +kernel
theorem dL_law_975 : decode cL_law 975 = .ok (.iadd, 1) := by decide +kernel
theorem dL_law_976 : decode cL_law 976 = .ok (.iaload, 1) := by decide +kernel
theorem dL_law_977 : decode cL_law 977 = .ok (.invokevirtual 102, 3) := by decide +kernel
theorem dL_law_980 : decode cL_law 980 = .ok (.if_icmp .eq 1485, 3) := by decide +kernel
theorem dL_law_985 : decode cL_law 985 = .ok (.aload_n 1, 1) := by decide +kernel
theorem dL_law_986 : decode cL_law 986 = .ok (.aload_n 0, 1) := by decide +kernel
theorem dL_law_987 : decode cL_law 987 = .ok (.iload_n 3, 1) := by decide +kernel
theorem dL_law_988 : decode cL_law 988 = .ok (.iconst 1, 1) := by decide +kernel
theorem dL_law_989 : decode cL_law 989 = .ok (.iadd, 1) := by decide +kernel
theorem dL_law_990 : decode cL_law 990 = .ok (.iaload, 1) := by decide +kernel
theorem dL_law_991 : decode cL_law 991 = .ok (.invokevirtual 103, 3) := by decide +kernel
theorem dL_law_994 : decode cL_law 994 = .ok (.aload_n 2, 1) := by decide +kernel
theorem dL_law_995 : decode cL_law 995 = .ok (.aload_n 0, 1) := by decide +kernel
theorem dL_law_996 : decode cL_law 996 = .ok (.iload_n 3, 1) := by decide +kernel
theorem dL_law_997 : decode cL_law 997 = .ok (.iconst 1, 1) := by decide +kernel
theorem dL_law_998 : decode cL_law 998 = .ok (.iadd, 1) := by decide +kernel
theorem dL_law_999 : decode cL_law 999 = .ok (.iaload, 1) := by decide +kernel
theorem dL_law_1000 : decode cL_law 1000 = .ok (.invokevirtual 106, 3) := by decide +kernel
theorem dL_law_1003 : decode cL_law 1003 = .ok (.if_icmp .eq 1462, 3) := by decide +kernel
theorem dL_law_1008 : decode cL_law 1008 = .ok (.aload_n 1, 1) := by decide +kernel
theorem dL_law_1009 : decode cL_law 1009 = .ok (.aload_n 0, 1) := by decide +kernel
theorem dL_law_1010 : decode cL_law 1010 = .ok (.iload_n 3, 1) := by decide +kernel
theorem dL_law_1011 : decode cL_law 1011 = .ok (.iconst 1, 1) := by decide +kernel
theorem dL_law_1012 : decode cL_law 1012 = .ok (.iadd, 1) := by decide +kernel
theorem dL_law_1013 : decode cL_law 1013 = .ok (.iaload, 1) := by decide +kernel
theorem dL_law_1014 : decode cL_law 1014 = .ok (.aload_n 0, 1) := by decide +kernel
theorem dL_law_1015 : decode cL_law 1015 = .ok (.iload_n 3, 1) := by decide +kernel
theorem dL_law_1016 : decode cL_law 1016 = .ok (.iconst 2, 1) := by decide +kernel
theorem dL_law_1017 : decode cL_law 1017 = .ok (.iadd, 1) := by decide +kernel
theorem dL_law_1018 : decode cL_law 1018 = .ok (.iaload, 1) := by decide +kernel
theorem dL_law_1019 : decode cL_law 1019 = .ok (.invokevirtual 107, 3) := by decide +kernel
theorem dL_law_1022 : decode cL_law 1022 = .ok (.aload_n 2, 1) := by decide +kernel
theorem dL_law_1023 : decode cL_law 1023 = .ok (.aload_n 0, 1) := by decide +kernel
theorem dL_law_1024 : decode cL_law 1024 = .ok (.iload_n 3, 1) := by decide +kernel
theorem dL_law_1025 : decode cL_law 1025 = .ok (.iconst 1, 1) := by decide +kernel
theorem dL_law_1026 : decode cL_law 1026 = .ok (.iadd, 1) := by decide +kernel
theorem dL_law_1027 : decode cL_law 1027 = .ok (.iaload, 1) := by decide +kernel
theorem dL_law_1028 : decode cL_law 1028 = .ok (.aload_n 0, 1) := by decide +kernel
theorem dL_law_1029 : decode cL_law 1029 = .ok (.iload_n 3, 1) := by decide +kernel
theorem dL_law_1030 : decode cL_law 1030 = .ok (.iconst 2, 1) := by decide +kernel
theorem dL_law_1031 : decode cL_law 1031 = .ok (.iadd, 1) := by decide +kernel
theorem dL_law_1032 : decode cL_law 1032 = .ok (.iaload, 1) := by decide +kernel
theorem dL_law_1033 : decode cL_law 1033 = .ok (.invokevirtual 110, 3) := by decide +kernel
theorem dL_law_1036 : decode cL_law 1036 = .ok (.if_icmp .eq 1429, 3) := by decide +kernel
theorem dL_law_1041 : decode cL_law 1041 = .ok (.aload_n 1, 1) := by decide +kernel
theorem dL_law_1042 : decode cL_law 1042 = .ok (.aload_n 0, 1) := by decide +kernel
theorem dL_law_1043 : decode cL_law 1043 = .ok (.iload_n 3, 1) := by decide +kernel
theorem dL_law_1044 : decode cL_law 1044 = .ok (.iconst 1, 1) := by decide +kernel
theorem dL_law_1045 : decode cL_law 1045 = .ok (.iadd, 1) := by decide +kernel
theorem dL_law_1046 : decode cL_law 1046 = .ok (.iaload, 1) := by decide +kernel
theorem dL_law_1047 : decode cL_law 1047 = .ok (.aload_n 0, 1) := by decide +kernel
theorem dL_law_1048 : decode cL_law 1048 = .ok (.iload_n 3, 1) := by decide +kernel
theorem dL_law_1049 : decode cL_law 1049 = .ok (.iconst 2, 1) := by decide +kernel
theorem dL_law_1050 : decode cL_law 1050 = .ok (.iadd, 1) := by decide +kernel
theorem dL_law_1051 : decode cL_law 1051 = .ok (.iaload, 1) := by decide +kernel
theorem dL_law_1052 : decode cL_law 1052 = .ok (.aload_n 0, 1) := by decide +kernel
theorem dL_law_1053 : decode cL_law 1053 = .ok (.iload_n 3, 1) := by decide +kernel
theorem dL_law_1054 : decode cL_law 1054 = .ok (.iconst 3, 1) := by decide +kernel
theorem dL_law_1055 : decode cL_law 1055 = .ok (.iadd, 1) := by decide +kernel
theorem dL_law_1056 : decode cL_law 1056 = .ok (.iaload, 1) := by decide +kernel
theorem dL_law_1057 : decode cL_law 1057 = .ok (.invokevirtual 111, 3) := by decide +kernel
theorem dL_law_1060 : decode cL_law 1060 = .ok (.aload_n 2, 1) := by decide +kernel
theorem dL_law_1061 : decode cL_law 1061 = .ok (.aload_n 0, 1) := by decide +kernel
theorem dL_law_1062 : decode cL_law 1062 = .ok (.iload_n 3, 1) := by decide +kernel
theorem dL_law_1063 : decode cL_law 1063 = .ok (.iconst 1, 1) := by decide +kernel
theorem dL_law_1064 : decode cL_law 1064 = .ok (.iadd, 1) := by decide +kernel
theorem dL_law_1065 : decode cL_law 1065 = .ok (.iaload, 1) := by decide +kernel
theorem dL_law_1066 : decode cL_law 1066 = .ok (.aload_n 0, 1) := by decide +kernel
theorem dL_law_1067 : decode cL_law 1067 = .ok (.iload_n 3, 1) := by decide +kernel
theorem dL_law_1068 : decode cL_law 1068 = .ok (.iconst 2, 1) := by decide +kernel
theorem dL_law_1069 : decode cL_law 1069 = .ok (.iadd, 1) := by decide +kernel
theorem dL_law_1070 : decode cL_law 1070 = .ok (.iaload, 1) := by decide +kernel
theorem dL_law_1071 : decode cL_law 1071 = .ok (.aload_n 0, 1) := by decide +kernel
theorem dL_law_1072 : decode cL_law 1072 = .ok (.iload_n 3, 1) := by decide +kernel
theorem dL_law_1073 : decode cL_law 1073 = .ok (.iconst 3, 1) := by decide +kernel
theorem dL_law_1074 : decode cL_law 1074 = .ok (.iadd, 1) := by decide +kernel
theorem dL_law_1075 : decode cL_law 1075 = .ok (.iaload, 1) := by decide +kernel
theorem dL_law_1076 : decode cL_law 1076 = .ok (.invokevirtual 114, 3) := by decide +kernel
theorem dL_law_1079 : decode cL_law 1079 = .ok (.if_icmp .eq 1386, 3) := by decide +kernel
theorem dL_law_1084 : decode cL_law 1084 = .ok (.aload_n 1, 1) := by decide +kernel
theorem dL_law_1085 : decode cL_law 1085 = .ok (.aload_n 0, 1) := by decide +kernel
theorem dL_law_1086 : decode cL_law 1086 = .ok (.iload_n 3, 1) := by decide +kernel
theorem dL_law_1087 : decode cL_law 1087 = .ok (.iconst 1, 1) := by decide +kernel
theorem dL_law_1088 : decode cL_law 1088 = .ok (.iadd, 1) := by decide +kernel
theorem dL_law_1089 : decode cL_law 1089 = .ok (.iaload, 1) := by decide +kernel
theorem dL_law_1090 : decode cL_law 1090 = .ok (.invokevirtual 115, 3) := by decide +kernel
theorem dL_law_1093 : decode cL_law 1093 = .ok (.aload_n 2, 1) := by decide +kernel
theorem dL_law_1094 : decode cL_law 1094 = .ok (.aload_n 0, 1) := by decide +kernel
theorem dL_law_1095 : decode cL_law 1095 = .ok (.iload_n 3, 1) := by decide +kernel
theorem dL_law_1096 : decode cL_law 1096 = .ok (.iconst 1, 1) := by decide +kernel
theorem dL_law_1097 : decode cL_law 1097 = .ok (.iadd, 1) := by decide +kernel
theorem dL_law_1098 : decode cL_law 1098 = .ok (.iaload, 1) := by decide +kernel
theorem dL_law_1099 : decode cL_law 1099 = .ok (.invokevirtual 118, 3) := by decide +kernel
theorem dL_law_1102 : decode cL_law 1102 = .ok (.if_icmp .eq 1363, 3) := by decide +kernel
theorem dL_law_1107 : decode cL_law 1107 = .ok (.aload_n 1, 1) := by decide +kernel
theorem dL_law_1108 : decode cL_law 1108 = .ok (.aload_n 0, 1) := by decide +kernel
theorem dL_law_1109 : decode cL_law 1109 = .ok (.iload_n 3, 1) := by decide +kernel
theorem dL_law_1110 : decode cL_law 1110 = .ok (.iconst 1, 1) := by decide +kernel
theorem dL_law_1111 : decode cL_law 1111 = .ok (.iadd, 1) := by decide +kernel
theorem dL_law_1112 : decode cL_law 1112 = .ok (.iaload, 1) := by decide +kernel
theorem dL_law_1113 : decode cL_law 1113 = .ok (.invokevirtual 119, 3) := by decide +kernel
theorem dL_law_1116 : decode cL_law 1116 = .ok (.aload_n 2, 1) := by decide +kernel
theorem dL_law_1117 : decode cL_law 1117 = .ok (.aload_n 0, 1) := by decide +kernel
theorem dL_law_1118 : decode cL_law 1118 = .ok (.iload_n 3, 1) := by decide +kernel
theorem dL_law_1119 : decode cL_law 1119 = .ok (.iconst 1, 1) := by decide +kernel
theorem dL_law_1120 : decode cL_law 1120 = .ok (.iadd, 1) := by decide +kernel
theorem dL_law_1121 : decode cL_law 1121 = .ok (.iaload, 1) := by decide +kernel
theorem dL_law_1122 : decode cL_law 1122 = .ok (.invokevirtual 122, 3) := by decide +kernel
theorem dL_law_1125 : decode cL_law 1125 = .ok (.if_icmp .eq 1340, 3) := by decide +kernel
theorem dL_law_1130 : decode cL_law 1130 = .ok (.aload_n 1, 1) := by decide +kernel
theorem dL_law_1131 : decode cL_law 1131 = .ok (.aload_n 0, 1) := by decide +kernel
theorem dL_law_1132 : decode cL_law 1132 = .ok (.iload_n 3, 1) := by decide +kernel
theorem dL_law_1133 : decode cL_law 1133 = .ok (.iconst 1, 1) := by decide +kernel
theorem dL_law_1134 : decode cL_law 1134 = .ok (.iadd, 1) := by decide +kernel
theorem dL_law_1135 : decode cL_law 1135 = .ok (.iaload, 1) := by decide +kernel
theorem dL_law_1136 : decode cL_law 1136 = .ok (.aload_n 0, 1) := by decide +kernel
theorem dL_law_1137 : decode cL_law 1137 = .ok (.iload_n 3, 1) := by decide +kernel
theorem dL_law_1138 : decode cL_law 1138 = .ok (.iconst 2, 1) := by decide +kernel
theorem dL_law_1139 : decode cL_law 1139 = .ok (.iadd, 1) := by decide +kernel
theorem dL_law_1140 : decode cL_law 1140 = .ok (.iaload, 1) := by decide +kernel
theorem dL_law_1141 : decode cL_law 1141 = .ok (.invokevirtual 123, 3) := by decide +kernel
theorem dL_law_1144 : decode cL_law 1144 = .ok (.aload_n 2, 1) := by decide +kernel
theorem dL_law_1145 : decode cL_law 1145 = .ok (.aload_n 0, 1) := by decide +kernel
theorem dL_law_1146 : decode cL_law 1146 = .ok (.iload_n 3, 1) := by decide +kernel
theorem dL_law_1147 : decode cL_law 1147 = .ok (.iconst 1, 1) := by decide +kernel
theorem dL_law_1148 : decode cL_law 1148 = .ok (.iadd, 1) := by decide +kernel
theorem dL_law_1149 : decode cL_law 1149 = .ok (.iaload, 1) := by decide +kernel
theorem dL_law_1150 : decode cL_law 1150 = .ok (.aload_n 0, 1) := by decide +kernel
theorem dL_law_1151 : decode cL_law 1151 = .ok (.iload_n 3, 1) := by decide +kernel
theorem dL_law_1152 : decode cL_law 1152 = .ok (.iconst 2, 1) := by decide +kernel
theorem dL_law_1153 : decode cL_law 1153 = .ok (.iadd, 1) := by decide +kernel
theorem dL_law_1154 : decode cL_law 1154 = .ok (.iaload, 1) := by decide +kernel
theorem dL_law_1155 : decode cL_law 1155 = .ok (.invokevirtual 126, 3) := by decide +kernel
theorem dL_law_1158 : decode cL_law 1158 = .ok (.if_icmp .eq 1307, 3) := by decide +kernel
theorem dL_law_1163 : decode cL_law 1163 = .ok (.aload_n 1, 1) := by decide +kernel
theorem dL_law_1164 : decode cL_law 1164 = .ok (.aload_n 0, 1) := by decide +kernel
theorem dL_law_1165 : decode cL_law 1165 = .ok (.iload_n 3, 1) := by decide +kernel
theorem dL_law_1166 : decode cL_law 1166 = .ok (.iconst 1, 1) := by decide +kernel
theorem dL_law_1167 : decode cL_law 1167 = .ok (.iadd, 1) := by decide +kernel
theorem dL_law_1168 : decode cL_law 1168 = .ok (.iaload, 1) := by decide +kernel
theorem dL_law_1169 : decode cL_law 1169 = .ok (.invokevirtual 127, 3) := by decide +kernel
theorem dL_law_1172 : decode cL_law 1172 = .ok (.aload_n 2, 1) := by decide +kernel
theorem dL_law_1173 : decode cL_law 1173 = .ok (.aload_n 0, 1) := by decide +kernel
theorem dL_law_1174 : decode cL_law 1174 = .ok (.iload_n 3, 1) := by decide +kernel
theorem dL_law_1175 : decode cL_law 1175 = .ok (.iconst 1, 1) := by decide +kernel
theorem dL_law_1176 : decode cL_law 1176 = .ok (.iadd, 1) := by decide +kernel
theorem dL_law_1177 : decode cL_law 1177 = .ok (.iaload, 1) := by decide +kernel
theorem dL_law_1178 : decode cL_law 1178 = .ok (.invokevirtual 130, 3) := by decide +kernel
theorem dL_law_1181 : decode cL_law 1181 = .ok (.if_icmp .eq 1284, 3) := by decide +kernel
theorem dL_law_1186 : decode cL_law 1186 = .ok (.aload_n 1, 1) := by decide +kernel
theorem dL_law_1187 : decode cL_law 1187 = .ok (.aload_n 0, 1) := by decide +kernel
theorem dL_law_1188 : decode cL_law 1188 = .ok (.iload_n 3, 1) := by decide +kernel
theorem dL_law_1189 : decode cL_law 1189 = .ok (.iconst 1, 1) := by decide +kernel
theorem dL_law_1190 : decode cL_law 1190 = .ok (.iadd, 1) := by decide +kernel
theorem dL_law_1191 : decode cL_law 1191 = .ok (.iaload, 1) := by decide +kernel
theorem dL_law_1192 : decode cL_law 1192 = .ok (.aload_n 0, 1) := by decide +kernel
theorem dL_law_1193 : decode cL_law 1193 = .ok (.iload_n 3, 1) := by decide +kernel
theorem dL_law_1194 : decode cL_law 1194 = .ok (.iconst 2, 1) := by decide +kernel
theorem dL_law_1195 : decode cL_law 1195 = .ok (.iadd, 1) := by decide +kernel
theorem dL_law_1196 : decode cL_law 1196 = .ok (.iaload, 1) := by decide +kernel
theorem dL_law_1197 : decode cL_law 1197 = .ok (.invokevirtual 131, 3) := by decide +kernel
theorem dL_law_1200 : decode cL_law 1200 = .ok (.aload_n 2, 1) := by decide +kernel
theorem dL_law_1201 : decode cL_law 1201 = .ok (.aload_n 0, 1) := by decide +kernel
theorem dL_law_1202 : decode cL_law 1202 = .ok (.iload_n 3, 1) := by decide +kernel
theorem dL_law_1203 : decode cL_law 1203 = .ok (.iconst 1, 1) := by decide +kernel
theorem dL_law_1204 : decode cL_law 1204 = .ok (.iadd, 1) := by decide +kernel
theorem dL_law_1205 : decode cL_law 1205 = .ok (.iaload, 1) := by decide +kernel
theorem dL_law_1206 : decode cL_law 1206 = .ok (.aload_n 0, 1) := by decide +kernel
theorem dL_law_1207 : decode cL_law 1207 = .ok (.iload_n 3, 1) := by decide +kernel
theorem dL_law_1208 : decode cL_law 1208 = .ok (.iconst 2, 1) := by decide +kernel
theorem dL_law_1209 : decode cL_law 1209 = .ok (.iadd, 1) := by decide +kernel
theorem dL_law_1210 : decode cL_law 1210 = .ok (.iaload, 1) := by decide +kernel
theorem dL_law_1211 : decode cL_law 1211 = .ok (.invokevirtual 134, 3) := by decide +kernel
theorem dL_law_1214 : decode cL_law 1214 = .ok (.if_icmp .eq 1251, 3) := by decide +kernel
theorem dL_law_1219 : decode cL_law 1219 = .ok (.aload_n 1, 1) := by decide +kernel
theorem dL_law_1220 : decode cL_law 1220 = .ok (.aload_n 0, 1) := by decide +kernel
theorem dL_law_1221 : decode cL_law 1221 = .ok (.iload_n 3, 1) := by decide +kernel
theorem dL_law_1222 : decode cL_law 1222 = .ok (.iconst 1, 1) := by decide +kernel
theorem dL_law_1223 : decode cL_law 1223 = .ok (.iadd, 1) := by decide +kernel
theorem dL_law_1224 : decode cL_law 1224 = .ok (.iaload, 1) := by decide +kernel
theorem dL_law_1225 : decode cL_law 1225 = .ok (.invokevirtual 135, 3) := by decide +kernel
theorem dL_law_1228 : decode cL_law 1228 = .ok (.aload_n 2, 1) := by decide +kernel
theorem dL_law_1229 : decode cL_law 1229 = .ok (.aload_n 0, 1) := by decide +kernel
theorem dL_law_1230 : decode cL_law 1230 = .ok (.iload_n 3, 1) := by decide +kernel
theorem dL_law_1231 : decode cL_law 1231 = .ok (.iconst 1, 1) := by decide +kernel
theorem dL_law_1232 : decode cL_law 1232 = .ok (.iadd, 1) := by decide +kernel
theorem dL_law_1233 : decode cL_law 1233 = .ok (.iaload, 1) := by decide +kernel
theorem dL_law_1234 : decode cL_law 1234 = .ok (.invokevirtual 138, 3) := by decide +kernel
theorem dL_law_1237 : decode cL_law 1237 = .ok (.if_icmp .eq 1228, 3) := by decide +kernel
theorem dL_law_1242 : decode cL_law 1242 = .ok (.aload_n 1, 1) := by decide +kernel
theorem dL_law_1243 : decode cL_law 1243 = .ok (.aload_n 0, 1) := by decide +kernel
theorem dL_law_1244 : decode cL_law 1244 = .ok (.iload_n 3, 1) := by decide +kernel
theorem dL_law_1245 : decode cL_law 1245 = .ok (.iconst 1, 1) := by decide +kernel
theorem dL_law_1246 : decode cL_law 1246 = .ok (.iadd, 1) := by decide +kernel
theorem dL_law_1247 : decode cL_law 1247 = .ok (.iaload, 1) := by decide +kernel
theorem dL_law_1248 : decode cL_law 1248 = .ok (.aload_n 0, 1) := by decide +kernel
theorem dL_law_1249 : decode cL_law 1249 = .ok (.iload_n 3, 1) := by decide +kernel
theorem dL_law_1250 : decode cL_law 1250 = .ok (.iconst 2, 1) := by decide +kernel
theorem dL_law_1251 : decode cL_law 1251 = .ok (.iadd, 1) := by decide +kernel
theorem dL_law_1252 : decode cL_law 1252 = .ok (.iaload, 1) := by decide +kernel
theorem dL_law_1253 : decode cL_law 1253 = .ok (.invokevirtual 139, 3) := by decide +kernel
theorem dL_law_1256 : decode cL_law 1256 = .ok (.aload_n 2, 1) := by decide +kernel
theorem dL_law_1257 : decode cL_law 1257 = .ok (.aload_n 0, 1) := by decide +kernel
theorem dL_law_1258 : decode cL_law 1258 = .ok (.iload_n 3, 1) := by decide +kernel
theorem dL_law_1259 : decode cL_law 1259 = .ok (.iconst 1, 1) := by decide +kernel
theorem dL_law_1260 : decode cL_law 1260 = .ok (.iadd, 1) := by decide +kernel
theorem dL_law_1261 : decode cL_law 1261 = .ok (.iaload, 1) := by decide +kernel
theorem dL_law_1262 : decode cL_law 1262 = .ok (.aload_n 0, 1) := by decide +kernel
theorem dL_law_1263 : decode cL_law 1263 = .ok (.iload_n 3, 1) := by decide +kernel
theorem dL_law_1264 : decode cL_law 1264 = .ok (.iconst 2, 1) := by decide +kernel
theorem dL_law_1265 : decode cL_law 1265 = .ok (.iadd, 1) := by decide +kernel
theorem dL_law_1266 : decode cL_law 1266 = .ok (.iaload, 1) := by decide +kernel
theorem dL_law_1267 : decode cL_law 1267 = .ok (.invokevirtual 142, 3) := by decide +kernel
theorem dL_law_1270 : decode cL_law 1270 = .ok (.if_icmp .eq 1195, 3) := by decide +kernel
theorem dL_law_1275 : decode cL_law 1275 = .ok (.aload_n 1, 1) := by decide +kernel
theorem dL_law_1276 : decode cL_law 1276 = .ok (.aload_n 0, 1) := by decide +kernel
theorem dL_law_1277 : decode cL_law 1277 = .ok (.iload_n 3, 1) := by decide +kernel
theorem dL_law_1278 : decode cL_law 1278 = .ok (.iconst 1, 1) := by decide +kernel
theorem dL_law_1279 : decode cL_law 1279 = .ok (.iadd, 1) := by decide +kernel
theorem dL_law_1280 : decode cL_law 1280 = .ok (.iaload, 1) := by decide +kernel
theorem dL_law_1281 : decode cL_law 1281 = .ok (.invokevirtual 143, 3) := by decide +kernel
theorem dL_law_1284 : decode cL_law 1284 = .ok (.aload_n 2, 1) := by decide +kernel
theorem dL_law_1285 : decode cL_law 1285 = .ok (.aload_n 0, 1) := by decide +kernel
theorem dL_law_1286 : decode cL_law 1286 = .ok (.iload_n 3, 1) := by decide +kernel
theorem dL_law_1287 : decode cL_law 1287 = .ok (.iconst 1, 1) := by decide +kernel
theorem dL_law_1288 : decode cL_law 1288 = .ok (.iadd, 1) := by decide +kernel
theorem dL_law_1289 : decode cL_law 1289 = .ok (.iaload, 1) := by decide +kernel
theorem dL_law_1290 : decode cL_law 1290 = .ok (.invokevirtual 146, 3) := by decide +kernel
theorem dL_law_1293 : decode cL_law 1293 = .ok (.if_icmp .eq 1172, 3) := by decide +kernel
theorem dL_law_1298 : decode cL_law 1298 = .ok (.aload_n 1, 1) := by decide +kernel
theorem dL_law_1299 : decode cL_law 1299 = .ok (.aload_n 0, 1) := by decide +kernel
theorem dL_law_1300 : decode cL_law 1300 = .ok (.iload_n 3, 1) := by decide +kernel
theorem dL_law_1301 : decode cL_law 1301 = .ok (.iconst 1, 1) := by decide +kernel
theorem dL_law_1302 : decode cL_law 1302 = .ok (.iadd, 1) := by decide +kernel
theorem dL_law_1303 : decode cL_law 1303 = .ok (.iaload, 1) := by decide +kernel
theorem dL_law_1304 : decode cL_law 1304 = .ok (.aload_n 0, 1) := by decide +kernel
theorem dL_law_1305 : decode cL_law 1305 = .ok (.iload_n 3, 1) := by decide +kernel
theorem dL_law_1306 : decode cL_law 1306 = .ok (.iconst 2, 1) := by decide +kernel
theorem dL_law_1307 : decode cL_law 1307 = .ok (.iadd, 1) := by decide +kernel
theorem dL_law_1308 : decode cL_law 1308 = .ok (.iaload, 1) := by decide +kernel
theorem dL_law_1309 : decode cL_law 1309 = .ok (.invokevirtual 147, 3) := by decide +kernel
theorem dL_law_1312 : decode cL_law 1312 = .ok (.aload_n 2, 1) := by decide +kernel
theorem dL_law_1313 : decode cL_law 1313 = .ok (.aload_n 0, 1) := by decide +kernel
theorem dL_law_1314 : decode cL_law 1314 = .ok (.iload_n 3, 1) := by decide +kernel
theorem dL_law_1315 : decode cL_law 1315 = .ok (.iconst 1, 1) := by decide +kernel
theorem dL_law_1316 : decode cL_law 1316 = .ok (.iadd, 1) := by decide +kernel
theorem dL_law_1317 : decode cL_law 1317 = .ok (.iaload, 1) := by decide +kernel
theorem dL_law_1318 : decode cL_law 1318 = .ok (.aload_n 0, 1) := by decide +kernel
theorem dL_law_1319 : decode cL_law 1319 = .ok (.iload_n 3, 1) := by decide +kernel
theorem dL_law_1320 : decode cL_law 1320 = .ok (.iconst 2, 1) := by decide +kernel
theorem dL_law_1321 : decode cL_law 1321 = .ok (.iadd, 1) := by decide +kernel
theorem dL_law_1322 : decode cL_law 1322 = .ok (.iaload, 1) := by decide +kernel
theorem dL_law_1323 : decode cL_law 1323 = .ok (.invokevirtual 150, 3) := by decide +kernel
theorem dL_law_1326 : decode cL_law 1326 = .ok (.if_icmp .eq 1139, 3) := by decide +kernel
theorem dL_law_1331 : decode cL_law 1331 = .ok (.aload_n 1, 1) := by decide +kernel
theorem dL_law_1332 : decode cL_law 1332 = .ok (.aload_n 0, 1) := by decide +kernel
theorem dL_law_1333 : decode cL_law 1333 = .ok (.iload_n 3, 1) := by decide +kernel
theorem dL_law_1334 : decode cL_law 1334 = .ok (.iconst 1, 1) := by decide +kernel
theorem dL_law_1335 : decode cL_law 1335 = .ok (.iadd, 1) := by decide +kernel
theorem dL_law_1336 : decode cL_law 1336 = .ok (.iaload, 1) := by decide +kernel
theorem dL_law_1337 : decode cL_law 1337 = .ok (.aload_n 0, 1) := by decide +kernel
theorem dL_law_1338 : decode cL_law 1338 = .ok (.iload_n 3, 1) := by decide +kernel
theorem dL_law_1339 : decode cL_law 1339 = .ok (.iconst 2, 1) := by decide +kernel
theorem dL_law_1340 : decode cL_law 1340 = .ok (.iadd, 1) := by decide +kernel
theorem dL_law_1341 : decode cL_law 1341 = .ok (.iaload, 1) := by decide +kernel
theorem dL_law_1342 : decode cL_law 1342 = .ok (.aload_n 0, 1) := by decide +kernel
theorem dL_law_1343 : decode cL_law 1343 = .ok (.iload_n 3, 1) := by decide +kernel
theorem dL_law_1344 : decode cL_law 1344 = .ok (.iconst 3, 1) := by decide +kernel
theorem dL_law_1345 : decode cL_law 1345 = .ok (.iadd, 1) := by decide +kernel
theorem dL_law_1346 : decode cL_law 1346 = .ok (.iaload, 1) := by decide +kernel
theorem dL_law_1347 : decode cL_law 1347 = .ok (.aload_n 0, 1) := by decide +kernel
theorem dL_law_1348 : decode cL_law 1348 = .ok (.iload_n 3, 1) := by decide +kernel
theorem dL_law_1349 : decode cL_law 1349 = .ok (.iconst 4, 1) := by decide +kernel
theorem dL_law_1350 : decode cL_law 1350 = .ok (.iadd, 1) := by decide +kernel
theorem dL_law_1351 : decode cL_law 1351 = .ok (.iaload, 1) := by decide +kernel
theorem dL_law_1352 : decode cL_law 1352 = .ok (.invokevirtual 151, 3) := by decide +kernel
theorem dL_law_1355 : decode cL_law 1355 = .ok (.aload_n 2, 1) := by decide +kernel
theorem dL_law_1356 : decode cL_law 1356 = .ok (.aload_n 0, 1) := by decide +kernel
theorem dL_law_1357 : decode cL_law 1357 = .ok (.iload_n 3, 1) := by decide +kernel
theorem dL_law_1358 : decode cL_law 1358 = .ok (.iconst 1, 1) := by decide +kernel
theorem dL_law_1359 : decode cL_law 1359 = .ok (.iadd, 1) := by decide +kernel
theorem dL_law_1360 : decode cL_law 1360 = .ok (.iaload, 1) := by decide +kernel
theorem dL_law_1361 : decode cL_law 1361 = .ok (.aload_n 0, 1) := by decide +kernel
theorem dL_law_1362 : decode cL_law 1362 = .ok (.iload_n 3, 1) := by decide +kernel
theorem dL_law_1363 : decode cL_law 1363 = .ok (.iconst 2, 1) := by decide +kernel
theorem dL_law_1364 : decode cL_law 1364 = .ok (.iadd, 1) := by decide +kernel
theorem dL_law_1365 : decode cL_law 1365 = .ok (.iaload, 1) := by decide +kernel
theorem dL_law_1366 : decode cL_law 1366 = .ok (.aload_n 0, 1) := by decide +kernel
theorem dL_law_1367 : decode cL_law 1367 = .ok (.iload_n 3, 1) := by decide +kernel
theorem dL_law_1368 : decode cL_law 1368 = .ok (.iconst 3, 1) := by decide +kernel
theorem dL_law_1369 : decode cL_law 1369 = .ok (.iadd, 1) := by decide +kernel
theorem dL_law_1370 : decode cL_law 1370 = .ok (.iaload, 1) := by decide +kernel
theorem dL_law_1371 : decode cL_law 1371 = .ok (.aload_n 0, 1) := by decide +kernel
theorem dL_law_1372 : decode cL_law 1372 = .ok (.iload_n 3, 1) := by decide +kernel
theorem dL_law_1373 : decode cL_law 1373 = .ok (.iconst 4, 1) := by decide +kernel
theorem dL_law_1374 : decode cL_law 1374 = .ok (.iadd, 1) := by decide +kernel
theorem dL_law_1375 : decode cL_law 1375 = .ok (.iaload, 1) := by decide +kernel
theorem dL_law_1376 : decode cL_law 1376 = .ok (.invokevirtual 154, 3) := by decide +kernel
theorem dL_law_1379 : decode cL_law 1379 = .ok (.if_icmp .eq 1086, 3) := by decide +kernel
theorem dL_law_1384 : decode cL_law 1384 = .ok (.aload_n 1, 1) := by decide +kernel
theorem dL_law_1385 : decode cL_law 1385 = .ok (.invokevirtual 155, 3) := by decide +kernel
theorem dL_law_1388 : decode cL_law 1388 = .ok (.aload_n 2, 1) := by decide +kernel
theorem dL_law_1389 : decode cL_law 1389 = .ok (.invokevirtual 158, 3) := by decide +kernel
theorem dL_law_1392 : decode cL_law 1392 = .ok (.if_icmp .eq 1073, 3) := by decide +kernel
theorem dL_law_1397 : decode cL_law 1397 = .ok (.aload_n 1, 1) := by decide +kernel
theorem dL_law_1398 : decode cL_law 1398 = .ok (.aload_n 0, 1) := by decide +kernel
theorem dL_law_1399 : decode cL_law 1399 = .ok (.iload_n 3, 1) := by decide +kernel
theorem dL_law_1400 : decode cL_law 1400 = .ok (.iconst 1, 1) := by decide +kernel
theorem dL_law_1401 : decode cL_law 1401 = .ok (.iadd, 1) := by decide +kernel
theorem dL_law_1402 : decode cL_law 1402 = .ok (.iaload, 1) := by decide +kernel
theorem dL_law_1403 : decode cL_law 1403 = .ok (.invokevirtual 159, 3) := by decide +kernel
theorem dL_law_1406 : decode cL_law 1406 = .ok (.aload_n 2, 1) := by decide +kernel
theorem dL_law_1407 : decode cL_law 1407 = .ok (.aload_n 0, 1) := by decide +kernel
theorem dL_law_1408 : decode cL_law 1408 = .ok (.iload_n 3, 1) := by decide +kernel
theorem dL_law_1409 : decode cL_law 1409 = .ok (.iconst 1, 1) := by decide +kernel
theorem dL_law_1410 : decode cL_law 1410 = .ok (.iadd, 1) := by decide +kernel
theorem dL_law_1411 : decode cL_law 1411 = .ok (.iaload, 1) := by decide +kernel
theorem dL_law_1412 : decode cL_law 1412 = .ok (.invokevirtual 162, 3) := by decide +kernel
theorem dL_law_1415 : decode cL_law 1415 = .ok (.if_icmp .eq 1050, 3) := by decide +kernel
theorem dL_law_1420 : decode cL_law 1420 = .ok (.aload_n 1, 1) := by decide +kernel
theorem dL_law_1421 : decode cL_law 1421 = .ok (.aload_n 0, 1) := by decide +kernel
theorem dL_law_1422 : decode cL_law 1422 = .ok (.iload_n 3, 1) := by decide +kernel
theorem dL_law_1423 : decode cL_law 1423 = .ok (.iconst 1, 1) := by decide +kernel
theorem dL_law_1424 : decode cL_law 1424 = .ok (.iadd, 1) := by decide +kernel
theorem dL_law_1425 : decode cL_law 1425 = .ok (.iaload, 1) := by decide +kernel
theorem dL_law_1426 : decode cL_law 1426 = .ok (.aload_n 0, 1) := by decide +kernel
theorem dL_law_1427 : decode cL_law 1427 = .ok (.iload_n 3, 1) := by decide +kernel
theorem dL_law_1428 : decode cL_law 1428 = .ok (.iconst 2, 1) := by decide +kernel
theorem dL_law_1429 : decode cL_law 1429 = .ok (.iadd, 1) := by decide +kernel
theorem dL_law_1430 : decode cL_law 1430 = .ok (.iaload, 1) := by decide +kernel
theorem dL_law_1431 : decode cL_law 1431 = .ok (.invokevirtual 163, 3) := by decide +kernel
theorem dL_law_1434 : decode cL_law 1434 = .ok (.aload_n 2, 1) := by decide +kernel
theorem dL_law_1435 : decode cL_law 1435 = .ok (.aload_n 0, 1) := by decide +kernel
theorem dL_law_1436 : decode cL_law 1436 = .ok (.iload_n 3, 1) := by decide +kernel
theorem dL_law_1437 : decode cL_law 1437 = .ok (.iconst 1, 1) := by decide +kernel
theorem dL_law_1438 : decode cL_law 1438 = .ok (.iadd, 1) := by decide +kernel
theorem dL_law_1439 : decode cL_law 1439 = .ok (.iaload, 1) := by decide +kernel
theorem dL_law_1440 : decode cL_law 1440 = .ok (.aload_n 0, 1) := by decide +kernel
theorem dL_law_1441 : decode cL_law 1441 = .ok (.iload_n 3, 1) := by decide +kernel
theorem dL_law_1442 : decode cL_law 1442 = .ok (.iconst 2, 1) := by decide +kernel
theorem dL_law_1443 : decode cL_law 1443 = .ok (.iadd, 1) := by decide +kernel
theorem dL_law_1444 : decode cL_law 1444 = .ok (.iaload, 1) := by decide +kernel
theorem dL_law_1445 : decode cL_law 1445 = .ok (.invokevirtual 166, 3) := by decide +kernel
theorem dL_law_1448 : decode cL_law 1448 = .ok (.if_icmp .eq 1017, 3) := by decide +kernel
theorem dL_law_1453 : decode cL_law 1453 = .ok (.aload_n 1, 1) := by decide +kernel
theorem dL_law_1454 : decode cL_law 1454 = .ok (.aload_n 0, 1) := by decide +kernel
theorem dL_law_1455 : decode cL_law 1455 = .ok (.iload_n 3, 1) := by decide +kernel
theorem dL_law_1456 : decode cL_law 1456 = .ok (.iconst 1, 1) := by decide +kernel
theorem dL_law_1457 : decode cL_law 1457 = .ok (.iadd, 1) := by decide +kernel
theorem dL_law_1458 : decode cL_law 1458 = .ok (.iaload, 1) := by decide +kernel
theorem dL_law_1459 : decode cL_law 1459 = .ok (.aload_n 0, 1) := by decide +kernel
theorem dL_law_1460 : decode cL_law 1460 = .ok (.iload_n 3, 1) := by decide +kernel
theorem dL_law_1461 : decode cL_law 1461 = .ok (.iconst 2, 1) := by decide +kernel
theorem dL_law_1462 : decode cL_law 1462 = .ok (.iadd, 1) := by decide +kernel
theorem dL_law_1463 : decode cL_law 1463 = .ok (.iaload, 1) := by decide +kernel
theorem dL_law_1464 : decode cL_law 1464 = .ok (.invokevirtual 167, 3) := by decide +kernel
theorem dL_law_1467 : decode cL_law 1467 = .ok (.aload_n 2, 1) := by decide +kernel
theorem dL_law_1468 : decode cL_law 1468 = .ok (.aload_n 0, 1) := by decide +kernel
theorem dL_law_1469 : decode cL_law 1469 = .ok (.iload_n 3, 1) := by decide +kernel
theorem dL_law_1470 : decode cL_law 1470 = .ok (.iconst 1, 1) := by decide +kernel
theorem dL_law_1471 : decode cL_law 1471 = .ok (.iadd, 1) := by decide +kernel
theorem dL_law_1472 : decode cL_law 1472 = .ok (.iaload, 1) := by decide +kernel
theorem dL_law_1473 : decode cL_law 1473 = .ok (.aload_n 0, 1) := by decide +kernel
theorem dL_law_1474 : decode cL_law 1474 = .ok (.iload_n 3, 1) := by decide +kernel
theorem dL_law_1475 : decode cL_law 1475 = .ok (.iconst 2, 1) := by decide +kernel
theorem dL_law_1476 : decode cL_law 1476 = .ok (.iadd, 1) := by decide +kernel
theorem dL_law_1477 : decode cL_law 1477 = .ok (.iaload, 1) := by decide +kernel
theorem dL_law_1478 : decode cL_law 1478 = .ok (.invokevirtual 170, 3) := by decide +kernel
theorem dL_law_1481 : decode cL_law 1481 = .ok (.if_icmp .eq 984, 3) := by decide +kernel
theorem dL_law_1486 : decode cL_law 1486 = .ok (.aload_n 1, 1) := by decide +kernel
theorem dL_law_1487 : decode cL_law 1487 = .ok (.aload_n 0, 1) := by decide +kernel
theorem dL_law_1488 : decode cL_law 1488 = .ok (.iload_n 3, 1) := by decide +kernel
theorem dL_law_1489 : decode cL_law 1489 = .ok (.iconst 1, 1) := by decide +kernel
theorem dL_law_1490 : decode cL_law 1490 = .ok (.iadd, 1) := by decide +kernel
theorem dL_law_1491 : decode cL_law 1491 = .ok (.iaload, 1) := by decide +kernel
theorem dL_law_1492 : decode cL_law 1492 = .ok (.invokevirtual 171, 3) := by decide +kernel
theorem dL_law_1495 : decode cL_law 1495 = .ok (.aload_n 2, 1) := by decide +kernel
theorem dL_law_1496 : decode cL_law 1496 = .ok (.aload_n 0, 1) := by decide +kernel
theorem dL_law_1497 : decode cL_law 1497 = .ok (.iload_n 3, 1) := by decide +kernel
theorem dL_law_1498 : decode cL_law 1498 = .ok (.iconst 1, 1) := by decide +kernel
theorem dL_law_1499 : decode cL_law 1499 = .ok (.iadd, 1) := by decide +kernel
theorem dL_law_1500 : decode cL_law 1500 = .ok (.iaload, 1) := by decide +kernel
theorem dL_law_1501 : decode cL_law 1501 = .ok (.invokevirtual 174, 3) := by decide +kernel
theorem dL_law_1504 : decode cL_law 1504 = .ok (.if_icmp .eq 961, 3) := by decide +kernel
theorem dL_law_1509 : decode cL_law 1509 = .ok (.aload_n 1, 1) := by decide +kernel
theorem dL_law_1510 : decode cL_law 1510 = .ok (.invokevirtual 175, 3) := by decide +kernel
theorem dL_law_1513 : decode cL_law 1513 = .ok (.aload_n 2, 1) := by decide +kernel
theorem dL_law_1514 : decode cL_law 1514 = .ok (.invokevirtual 178, 3) := by decide +kernel
theorem dL_law_1517 : decode cL_law 1517 = .ok (.if_icmp .eq 948, 3) := by decide +kernel
theorem dL_law_1522 : decode cL_law 1522 = .ok (.aload_n 1, 1) := by decide +kernel
theorem dL_law_1523 : decode cL_law 1523 = .ok (.invokevirtual 179, 3) := by decide +kernel
theorem dL_law_1526 : decode cL_law 1526 = .ok (.aload_n 2, 1) := by decide +kernel
theorem dL_law_1527 : decode cL_law 1527 = .ok (.invokevirtual 182, 3) := by decide +kernel
theorem dL_law_1530 : decode cL_law 1530 = .ok (.if_icmp .eq 935, 3) := by decide +kernel
theorem dL_law_1535 : decode cL_law 1535 = .ok (.aload_n 1, 1) := by decide +kernel
theorem dL_law_1536 : decode cL_law 1536 = .ok (.aload_n 0, 1) := by decide +kernel
theorem dL_law_1537 : decode cL_law 1537 = .ok (.iload_n 3, 1) := by decide +kernel
theorem dL_law_1538 : decode cL_law 1538 = .ok (.iconst 1, 1) := by decide +kernel
theorem dL_law_1539 : decode cL_law 1539 = .ok (.iadd, 1) := by decide +kernel
theorem dL_law_1540 : decode cL_law 1540 = .ok (.iaload, 1) := by decide +kernel
theorem dL_law_1541 : decode cL_law 1541 = .ok (.invokevirtual 183, 3) := by decide +kernel
theorem dL_law_1544 : decode cL_law 1544 = .ok (.aload_n 2, 1) := by decide +kernel
theorem dL_law_1545 : decode cL_law 1545 = .ok (.aload_n 0, 1) := by decide +kernel
theorem dL_law_1546 : decode cL_law 1546 = .ok (.iload_n 3, 1) := by decide +kernel
theorem dL_law_1547 : decode cL_law 1547 = .ok (.iconst 1, 1) := by decide +kernel
theorem dL_law_1548 : decode cL_law 1548 = .ok (.iadd, 1) := by decide +kernel
theorem dL_law_1549 : decode cL_law 1549 = .ok (.iaload, 1) := by decide +kernel
theorem dL_law_1550 : decode cL_law 1550 = .ok (.invokevirtual 186, 3) := by decide +kernel
theorem dL_law_1553 : decode cL_law 1553 = .ok (.if_icmp .eq 912, 3) := by decide +kernel
theorem dL_law_1558 : decode cL_law 1558 = .ok (.aload_n 1, 1) := by decide +kernel
theorem dL_law_1559 : decode cL_law 1559 = .ok (.aload_n 0, 1) := by decide +kernel
theorem dL_law_1560 : decode cL_law 1560 = .ok (.iload_n 3, 1) := by decide +kernel
theorem dL_law_1561 : decode cL_law 1561 = .ok (.iconst 1, 1) := by decide +kernel
theorem dL_law_1562 : decode cL_law 1562 = .ok (.iadd, 1) := by decide +kernel
theorem dL_law_1563 : decode cL_law 1563 = .ok (.iaload, 1) := by decide +kernel
theorem dL_law_1564 : decode cL_law 1564 = .ok (.aload_n 0, 1) := by decide +kernel
theorem dL_law_1565 : decode cL_law 1565 = .ok (.iload_n 3, 1) := by decide +kernel
theorem dL_law_1566 : decode cL_law 1566 = .ok (.iconst 2, 1) := by decide +kernel
theorem dL_law_1567 : decode cL_law 1567 = .ok (.iadd, 1) := by decide +kernel
theorem dL_law_1568 : decode cL_law 1568 = .ok (.iaload, 1) := by decide +kernel
theorem dL_law_1569 : decode cL_law 1569 = .ok (.invokevirtual 187, 3) := by decide +kernel
theorem dL_law_1572 : decode cL_law 1572 = .ok (.aload_n 2, 1) := by decide +kernel
theorem dL_law_1573 : decode cL_law 1573 = .ok (.aload_n 0, 1) := by decide +kernel
theorem dL_law_1574 : decode cL_law 1574 = .ok (.iload_n 3, 1) := by decide +kernel
theorem dL_law_1575 : decode cL_law 1575 = .ok (.iconst 1, 1) := by decide +kernel
theorem dL_law_1576 : decode cL_law 1576 = .ok (.iadd, 1) := by decide +kernel
theorem dL_law_1577 : decode cL_law 1577 = .ok (.iaload, 1) := by decide +kernel
theorem dL_law_1578 : decode cL_law 1578 = .ok (.aload_n 0, 1) := by decide +kernel
theorem dL_law_1579 : decode cL_law 1579 = .ok (.iload_n 3, 1) := by decide +kernel
theorem dL_law_1580 : decode cL_law 1580 = .ok (.iconst 2, 1) := by decide +kernel
theorem dL_law_1581 : decode cL_law 1581 = .ok (.iadd, 1) := by decide +kernel
theorem dL_law_1582 : decode cL_law 1582 = .ok (.iaload, 1) := by decide +kernel
theorem dL_law_1583 : decode cL_law 1583 = .ok (.invokevirtual 190, 3) := by decide +kernel
theorem dL_law_1586 : decode cL_law 1586 = .ok (.if_icmp .eq 879, 3) := by decide +kernel
theorem dL_law_1591 : decode cL_law 1591 = .ok (.aload_n 1, 1) := by decide +kernel
theorem dL_law_1592 : decode cL_law 1592 = .ok (.aload_n 0, 1) := by decide +kernel
theorem dL_law_1593 : decode cL_law 1593 = .ok (.iload_n 3, 1) := by decide +kernel
theorem dL_law_1594 : decode cL_law 1594 = .ok (.iconst 1, 1) := by decide +kernel
theorem dL_law_1595 : decode cL_law 1595 = .ok (.iadd, 1) := by decide +kernel
theorem dL_law_1596 : decode cL_law 1596 = .ok (.iaload, 1) := by decide +kernel
theorem dL_law_1597 : decode cL_law 1597 = .ok (.aload_n 0, 1) := by decide +kernel
theorem dL_law_1598 : decode cL_law 1598 = .ok (.iload_n 3, 1) := by decide +kernel
theorem dL_law_1599 : decode cL_law 1599 = .ok (.iconst 2, 1) := by decide +kernel
theorem dL_law_1600 : decode cL_law 1600 = .ok (.iadd, 1) := by decide +kernel
theorem dL_law_1601 : decode cL_law 1601 = .ok (.iaload, 1) := by decide +kernel
theorem dL_law_1602 : decode cL_law 1602 = .ok (.invokevirtual 191, 3) := by decide +kernel
theorem dL_law_1605 : decode cL_law 1605 = .ok (.aload_n 2, 1) := by decide +kernel
theorem dL_law_1606 : decode cL_law 1606 = .ok (.aload_n 0, 1) := by decide +kernel
theorem dL_law_1607 : decode cL_law 1607 = .ok (.iload_n 3, 1) := by decide +kernel
theorem dL_law_1608 : decode cL_law 1608 = .ok (.iconst 1, 1) := by decide +kernel
theorem dL_law_1609 : decode cL_law 1609 = .ok (.iadd, 1) := by decide +kernel
theorem dL_law_1610 : decode cL_law 1610 = .ok (.iaload, 1) := by decide +kernel
theorem dL_law_1611 : decode cL_law 1611 = .ok (.aload_n 0, 1) := by decide +kernel
theorem dL_law_1612 : decode cL_law 1612 = .ok (.iload_n 3, 1) := by decide +kernel
theorem dL_law_1613 : decode cL_law 1613 = .ok (.iconst 2, 1) := by decide +kernel
theorem dL_law_1614 : decode cL_law 1614 = .ok (.iadd, 1) := by decide +kernel
theorem dL_law_1615 : decode cL_law 1615 = .ok (.iaload, 1) := by decide +kernel
theorem dL_law_1616 : decode cL_law 1616 = .ok (.invokevirtual 194, 3) := by decide +kernel
theorem dL_law_1619 : decode cL_law 1619 = .ok (.if_icmp .eq 846, 3) := by decide +kernel
theorem dL_law_1624 : decode cL_law 1624 = .ok (.aload_n 1, 1) := by decide +kernel
theorem dL_law_1625 : decode cL_law 1625 = .ok (.aload_n 0, 1) := by decide +kernel
theorem dL_law_1626 : decode cL_law 1626 = .ok (.iload_n 3, 1) := by decide +kernel
theorem dL_law_1627 : decode cL_law 1627 = .ok (.iconst 1, 1) := by decide +kernel
theorem dL_law_1628 : decode cL_law 1628 = .ok (.iadd, 1) := by decide +kernel
theorem dL_law_1629 : decode cL_law 1629 = .ok (.iaload, 1) := by decide +kernel
theorem dL_law_1630 : decode cL_law 1630 = .ok (.invokevirtual 195, 3) := by decide +kernel
theorem dL_law_1633 : decode cL_law 1633 = .ok (.aload_n 2, 1) := by decide +kernel
theorem dL_law_1634 : decode cL_law 1634 = .ok (.aload_n 0, 1) := by decide +kernel
theorem dL_law_1635 : decode cL_law 1635 = .ok (.iload_n 3, 1) := by decide +kernel
theorem dL_law_1636 : decode cL_law 1636 = .ok (.iconst 1, 1) := by decide +kernel
theorem dL_law_1637 : decode cL_law 1637 = .ok (.iadd, 1) := by decide +kernel
theorem dL_law_1638 : decode cL_law 1638 = .ok (.iaload, 1) := by decide +kernel
theorem dL_law_1639 : decode cL_law 1639 = .ok (.invokevirtual 198, 3) := by decide +kernel
theorem dL_law_1642 : decode cL_law 1642 = .ok (.if_icmp .eq 823, 3) := by decide +kernel
theorem dL_law_1647 : decode cL_law 1647 = .ok (.aload_n 1, 1) := by decide +kernel
theorem dL_law_1648 : decode cL_law 1648 = .ok (.aload_n 0, 1) := by decide +kernel
theorem dL_law_1649 : decode cL_law 1649 = .ok (.iload_n 3, 1) := by decide +kernel
theorem dL_law_1650 : decode cL_law 1650 = .ok (.iconst 1, 1) := by decide +kernel
theorem dL_law_1651 : decode cL_law 1651 = .ok (.iadd, 1) := by decide +kernel
theorem dL_law_1652 : decode cL_law 1652 = .ok (.iaload, 1) := by decide +kernel
theorem dL_law_1653 : decode cL_law 1653 = .ok (.aload_n 0, 1) := by decide +kernel
theorem dL_law_1654 : decode cL_law 1654 = .ok (.iload_n 3, 1) := by decide +kernel
theorem dL_law_1655 : decode cL_law 1655 = .ok (.iconst 2, 1) := by decide +kernel
theorem dL_law_1656 : decode cL_law 1656 = .ok (.iadd, 1) := by decide +kernel
theorem dL_law_1657 : decode cL_law 1657 = .ok (.iaload, 1) := by decide +kernel
theorem dL_law_1658 : decode cL_law 1658 = .ok (.aload_n 0, 1) := by decide +kernel
theorem dL_law_1659 : decode cL_law 1659 = .ok (.iload_n 3, 1) := by decide +kernel
theorem dL_law_1660 : decode cL_law 1660 = .ok (.iconst 3, 1) := by decide +kernel
theorem dL_law_1661 : decode cL_law 1661 = .ok (.iadd, 1) := by decide +kernel
theorem dL_law_1662 : decode cL_law 1662 = .ok (.iaload, 1) := by decide +kernel
theorem dL_law_1663 : decode cL_law 1663 = .ok (.invokevirtual 199, 3) := by decide +kernel
theorem dL_law_1666 : decode cL_law 1666 = .ok (.aload_n 2, 1) := by decide +kernel
theorem dL_law_1667 : decode cL_law 1667 = .ok (.aload_n 0, 1) := by decide +kernel
theorem dL_law_1668 : decode cL_law 1668 = .ok (.iload_n 3, 1) := by decide +kernel
theorem dL_law_1669 : decode cL_law 1669 = .ok (.iconst 1, 1) := by decide +kernel
theorem dL_law_1670 : decode cL_law 1670 = .ok (.iadd, 1) := by decide +kernel
theorem dL_law_1671 : decode cL_law 1671 = .ok (.iaload, 1) := by decide +kernel
theorem dL_law_1672 : decode cL_law 1672 = .ok (.aload_n 0, 1) := by decide +kernel
theorem dL_law_1673 : decode cL_law 1673 = .ok (.iload_n 3, 1) := by decide +kernel
theorem dL_law_1674 : decode cL_law 1674 = .ok (.iconst 2, 1) := by decide +kernel
theorem dL_law_1675 : decode cL_law 1675 = .ok (.iadd, 1) := by decide +kernel
theorem dL_law_1676 : decode cL_law 1676 = .ok (.iaload, 1) := by decide +kernel
theorem dL_law_1677 : decode cL_law 1677 = .ok (.aload_n 0, 1) := by decide +kernel
theorem dL_law_1678 : decode cL_law 1678 = .ok (.iload_n 3, 1) := by decide +kernel
theorem dL_law_1679 : decode cL_law 1679 = .ok (.iconst 3, 1) := by decide +kernel
theorem dL_law_1680 : decode cL_law 1680 = .ok (.iadd, 1) := by decide +kernel
theorem dL_law_1681 : decode cL_law 1681 = .ok (.iaload, 1) := by decide +kernel
theorem dL_law_1682 : decode cL_law 1682 = .ok (.invokevirtual 202, 3) := by decide +kernel
theorem dL_law_1685 : decode cL_law 1685 = .ok (.if_icmp .eq 780, 3) := by decide +kernel
theorem dL_law_1690 : decode cL_law 1690 = .ok (.aload_n 1, 1) := by decide +kernel
theorem dL_law_1691 : decode cL_law 1691 = .ok (.aload_n 0, 1) := by decide +kernel
theorem dL_law_1692 : decode cL_law 1692 = .ok (.iload_n 3, 1) := by decide +kernel
theorem dL_law_1693 : decode cL_law 1693 = .ok (.iconst 1, 1) := by decide +kernel
theorem dL_law_1694 : decode cL_law 1694 = .ok (.iadd, 1) := by decide +kernel
theorem dL_law_1695 : decode cL_law 1695 = .ok (.iaload, 1) := by decide +kernel
theorem dL_law_1696 : decode cL_law 1696 = .ok (.aload_n 0, 1) := by decide +kernel
theorem dL_law_1697 : decode cL_law 1697 = .ok (.iload_n 3, 1) := by decide +kernel
theorem dL_law_1698 : decode cL_law 1698 = .ok (.iconst 2, 1) := by decide +kernel
theorem dL_law_1699 : decode cL_law 1699 = .ok (.iadd, 1) := by decide +kernel
theorem dL_law_1700 : decode cL_law 1700 = .ok (.iaload, 1) := by decide +kernel
theorem dL_law_1701 : decode cL_law 1701 = .ok (.invokevirtual 203, 3) := by decide +kernel
theorem dL_law_1704 : decode cL_law 1704 = .ok (.aload_n 2, 1) := by decide +kernel
theorem dL_law_1705 : decode cL_law 1705 = .ok (.aload_n 0, 1) := by decide +kernel
theorem dL_law_1706 : decode cL_law 1706 = .ok (.iload_n 3, 1) := by decide +kernel
theorem dL_law_1707 : decode cL_law 1707 = .ok (.iconst 1, 1) := by decide +kernel
theorem dL_law_1708 : decode cL_law 1708 = .ok (.iadd, 1) := by decide +kernel
theorem dL_law_1709 : decode cL_law 1709 = .ok (.iaload, 1) := by decide +kernel
theorem dL_law_1710 : decode cL_law 1710 = .ok (.aload_n 0, 1) := by decide +kernel
theorem dL_law_1711 : decode cL_law 1711 = .ok (.iload_n 3, 1) := by decide +kernel
theorem dL_law_1712 : decode cL_law 1712 = .ok (.iconst 2, 1) := by decide +kernel
theorem dL_law_1713 : decode cL_law 1713 = .ok (.iadd, 1) := by decide +kernel
theorem dL_law_1714 : decode cL_law 1714 = .ok (.iaload, 1) := by decide +kernel
theorem dL_law_1715 : decode cL_law 1715 = .ok (.invokevirtual 206, 3) := by decide +kernel
theorem dL_law_1718 : decode cL_law 1718 = .ok (.if_icmp .eq 747, 3) := by decide +kernel
theorem dL_law_1723 : decode cL_law 1723 = .ok (.aload_n 1, 1) := by decide +kernel
theorem dL_law_1724 : decode cL_law 1724 = .ok (.aload_n 0, 1) := by decide +kernel
theorem dL_law_1725 : decode cL_law 1725 = .ok (.iload_n 3, 1) := by decide +kernel
theorem dL_law_1726 : decode cL_law 1726 = .ok (.iconst 1, 1) := by decide +kernel
theorem dL_law_1727 : decode cL_law 1727 = .ok (.iadd, 1) := by decide +kernel
theorem dL_law_1728 : decode cL_law 1728 = .ok (.iaload, 1) := by decide +kernel
theorem dL_law_1729 : decode cL_law 1729 = .ok (.invokevirtual 207, 3) := by decide +kernel
theorem dL_law_1732 : decode cL_law 1732 = .ok (.aload_n 2, 1) := by decide +kernel
theorem dL_law_1733 : decode cL_law 1733 = .ok (.aload_n 0, 1) := by decide +kernel
theorem dL_law_1734 : decode cL_law 1734 = .ok (.iload_n 3, 1) := by decide +kernel
theorem dL_law_1735 : decode cL_law 1735 = .ok (.iconst 1, 1) := by decide +kernel
theorem dL_law_1736 : decode cL_law 1736 = .ok (.iadd, 1) := by decide +kernel
theorem dL_law_1737 : decode cL_law 1737 = .ok (.iaload, 1) := by decide +kernel
theorem dL_law_1738 : decode cL_law 1738 = .ok (.invokevirtual 210, 3) := by decide +kernel
theorem dL_law_1741 : decode cL_law 1741 = .ok (.if_icmp .eq 724, 3) := by decide +kernel
theorem dL_law_1746 : decode cL_law 1746 = .ok (.aload_n 1, 1) := by decide +kernel
theorem dL_law_1747 : decode cL_law 1747 = .ok (.aload_n 0, 1) := by decide +kernel
theorem dL_law_1748 : decode cL_law 1748 = .ok (.iload_n 3, 1) := by decide +kernel
theorem dL_law_1749 : decode cL_law 1749 = .ok (.iconst 1, 1) := by decide +kernel
theorem dL_law_1750 : decode cL_law 1750 = .ok (.iadd, 1) := by decide +kernel
theorem dL_law_1751 : decode cL_law 1751 = .ok (.iaload, 1) := by decide +kernel
theorem dL_law_1752 : decode cL_law 1752 = .ok (.aload_n 0, 1) := by decide +kernel
theorem dL_law_1753 : decode cL_law 1753 = .ok (.iload_n 3, 1) := by decide +kernel
theorem dL_law_1754 : decode cL_law 1754 = .ok (.iconst 2, 1) := by decide +kernel
theorem dL_law_1755 : decode cL_law 1755 = .ok (.iadd, 1) := by decide +kernel
theorem dL_law_1756 : decode cL_law 1756 = .ok (.iaload, 1) := by decide +kernel
theorem dL_law_1757 : decode cL_law 1757 = .ok (.invokevirtual 211, 3) := by decide +kernel
theorem dL_law_1760 : decode cL_law 1760 = .ok (.aload_n 2, 1) := by decide +kernel
theorem dL_law_1761 : decode cL_law 1761 = .ok (.aload_n 0, 1) := by decide +kernel
theorem dL_law_1762 : decode cL_law 1762 = .ok (.iload_n 3, 1) := by decide +kernel
theorem dL_law_1763 : decode cL_law 1763 = .ok (.iconst 1, 1) := by decide +kernel
theorem dL_law_1764 : decode cL_law 1764 = .ok (.iadd, 1) := by decide +kernel
theorem dL_law_1765 : decode cL_law 1765 = .ok (.iaload, 1) := by decide +kernel
theorem dL_law_1766 : decode cL_law 1766 = .ok (.aload_n 0, 1) := by decide +kernel
theorem dL_law_1767 : decode cL_law 1767 = .ok (.iload_n 3, 1) := by decide +kernel
theorem dL_law_1768 : decode cL_law 1768 = .ok (.iconst 2, 1) := by decide +kernel
theorem dL_law_1769 : decode cL_law 1769 = .ok (.iadd, 1) := by decide +kernel
theorem dL_law_1770 : decode cL_law 1770 = .ok (.iaload, 1) := by decide +kernel
theorem dL_law_1771 : decode cL_law 1771 = .ok (.invokevirtual 214, 3) := by decide +kernel
theorem dL_law_1774 : decode cL_law 1774 = .ok (.if_icmp .eq 691, 3) := by decide +kernel
theorem dL_law_1779 : decode cL_law 1779 = .ok (.aload_n 1, 1) := by decide +kernel
theorem dL_law_1780 : decode cL_law 1780 = .ok (.aload_n 0, 1) := by decide +kernel
theorem dL_law_1781 : decode cL_law 1781 = .ok (.iload_n 3, 1) := by decide +kernel
theorem dL_law_1782 : decode cL_law 1782 = .ok (.iconst 1, 1) := by decide +kernel
theorem dL_law_1783 : decode cL_law 1783 = .ok (.iadd, 1) := by decide +kernel
theorem dL_law_1784 : decode cL_law 1784 = .ok (.iaload, 1) := by decide +kernel
theorem dL_law_1785 : decode cL_law 1785 = .ok (.aload_n 0, 1) := by decide +kernel
theorem dL_law_1786 : decode cL_law 1786 = .ok (.iload_n 3, 1) := by decide +kernel
theorem dL_law_1787 : decode cL_law 1787 = .ok (.iconst 2, 1) := by decide +kernel
theorem dL_law_1788 : decode cL_law 1788 = .ok (.iadd, 1) := by decide +kernel
theorem dL_law_1789 : decode cL_law 1789 = .ok (.iaload, 1) := by decide +kernel
theorem dL_law_1790 : decode cL_law 1790 = .ok (.invokevirtual 215, 3) := by decide +kernel
theorem dL_law_1793 : decode cL_law 1793 = .ok (.aload_n 2, 1) := by decide +kernel
theorem dL_law_1794 : decode cL_law 1794 = .ok (.aload_n 0, 1) := by decide +kernel
theorem dL_law_1795 : decode cL_law 1795 = .ok (.iload_n 3, 1) := by decide +kernel
theorem dL_law_1796 : decode cL_law 1796 = .ok (.iconst 1, 1) := by decide +kernel
theorem dL_law_1797 : decode cL_law 1797 = .ok (.iadd, 1) := by decide +kernel
theorem dL_law_1798 : decode cL_law 1798 = .ok (.iaload, 1) := by decide +kernel
theorem dL_law_1799 : decode cL_law 1799 = .ok (.aload_n 0, 1) := by decide +kernel
theorem dL_law_1800 : decode cL_law 1800 = .ok (.iload_n 3, 1) := by decide +kernel
theorem dL_law_1801 : decode cL_law 1801 = .ok (.iconst 2, 1) := by decide +kernel
theorem dL_law_1802 : decode cL_law 1802 = .ok (.iadd, 1) := by decide +kernel
theorem dL_law_1803 : decode cL_law 1803 = .ok (.iaload, 1) := by decide +kernel
theorem dL_law_1804 : decode cL_law 1804 = .ok (.invokevirtual 218, 3) := by decide +kernel
theorem dL_law_1807 : decode cL_law 1807 = .ok (.if_icmp .eq 658, 3) := by decide +kernel
theorem dL_law_1812 : decode cL_law 1812 = .ok (.aload_n 1, 1) := by decide +kernel
theorem dL_law_1813 : decode cL_law 1813 = .ok (.aload_n 0, 1) := by decide +kernel
theorem dL_law_1814 : decode cL_law 1814 = .ok (.iload_n 3, 1) := by decide +kernel
theorem dL_law_1815 : decode cL_law 1815 = .ok (.iconst 1, 1) := by decide +kernel
theorem dL_law_1816 : decode cL_law 1816 = .ok (.iadd, 1) := by decide +kernel
theorem dL_law_1817 : decode cL_law 1817 = .ok (.iaload, 1) := by decide +kernel
theorem dL_law_1818 : decode cL_law 1818 = .ok (.invokevirtual 219, 3) := by decide +kernel
theorem dL_law_1821 : decode cL_law 1821 = .ok (.aload_n 2, 1) := by decide +kernel
theorem dL_law_1822 : decode cL_law 1822 = .ok (.aload_n 0, 1) := by decide +kernel
theorem dL_law_1823 : decode cL_law 1823 = .ok (.iload_n 3, 1) := by decide +kernel
theorem dL_law_1824 : decode cL_law 1824 = .ok (.iconst 1, 1) := by decide +kernel
theorem dL_law_1825 : decode cL_law 1825 = .ok (.iadd, 1) := by decide +kernel
theorem dL_law_1826 : decode cL_law 1826 = .ok (.iaload, 1) := by decide +kernel
theorem dL_law_1827 : decode cL_law 1827 = .ok (.invokevirtual 222, 3) := by decide +kernel
theorem dL_law_1830 : decode cL_law 1830 = .ok (.if_icmp .eq 635, 3) := by decide +kernel
theorem dL_law_1835 : decode cL_law 1835 = .ok (.aload_n 1, 1) := by decide +kernel
theorem dL_law_1836 : decode cL_law 1836 = .ok (.aload_n 0, 1) := by decide +kernel
theorem dL_law_1837 : decode cL_law 1837 = .ok (.iload_n 3, 1) := by decide +kernel
theorem dL_law_1838 : decode cL_law 1838 = .ok (.iconst 1, 1) := by decide +kernel
theorem dL_law_1839 : decode cL_law 1839 = .ok (.iadd, 1) := by decide +kernel
theorem dL_law_1840 : decode cL_law 1840 = .ok (.iaload, 1) := by decide +kernel
theorem dL_law_1841 : decode cL_law 1841 = .ok (.invokevirtual 223, 3) := by decide +kernel
theorem dL_law_1844 : decode cL_law 1844 = .ok (.aload_n 2, 1) := by decide +kernel
theorem dL_law_1845 : decode cL_law 1845 = .ok (.aload_n 0, 1) := by decide +kernel
theorem dL_law_1846 : decode cL_law 1846 = .ok (.iload_n 3, 1) := by decide +kernel
theorem dL_law_1847 : decode cL_law 1847 = .ok (.iconst 1, 1) := by decide +kernel
theorem dL_law_1848 : decode cL_law 1848 = .ok (.iadd, 1) := by decide +kernel
theorem dL_law_1849 : decode cL_law 1849 = .ok (.iaload, 1) := by decide +kernel
theorem dL_law_1850 : decode cL_law 1850 = .ok (.invokevirtual 226, 3) := by decide +kernel
theorem dL_law_1853 : decode cL_law 1853 = .ok (.if_icmp .eq 612, 3) := by decide +kernel
theorem dL_law_1858 : decode cL_law 1858 = .ok (.aload_n 1, 1) := by decide +kernel
theorem dL_law_1859 : decode cL_law 1859 = .ok (.aload_n 0, 1) := by decide +kernel
theorem dL_law_1860 : decode cL_law 1860 = .ok (.iload_n 3, 1) := by decide +kernel
theorem dL_law_1861 : decode cL_law 1861 = .ok (.iconst 1, 1) := by decide +kernel
theorem dL_law_1862 : decode cL_law 1862 = .ok (.iadd, 1) := by decide +kernel
theorem dL_law_1863 : decode cL_law 1863 = .ok (.iaload, 1) := by decide +kernel
theorem dL_law_1864 : decode cL_law 1864 = .ok (.aload_n 0, 1) := by decide +kernel
theorem dL_law_1865 : decode cL_law 1865 = .ok (.iload_n 3, 1) := by decide +kernel
theorem dL_law_1866 : decode cL_law 1866 = .ok (.iconst 2, 1) := by decide +kernel
theorem dL_law_1867 : decode cL_law 1867 = .ok (.iadd, 1) := by decide +kernel
theorem dL_law_1868 : decode cL_law 1868 = .ok (.iaload, 1) := by decide +kernel
theorem dL_law_1869 : decode cL_law 1869 = .ok (.invokevirtual 227, 3) := by decide +kernel
theorem dL_law_1872 : decode cL_law 1872 = .ok (.aload_n 2, 1) := by decide +kernel
theorem dL_law_1873 : decode cL_law 1873 = .ok (.aload_n 0, 1) := by decide +kernel
theorem dL_law_1874 : decode cL_law 1874 = .ok (.iload_n 3, 1) := by decide +kernel
theorem dL_law_1875 : decode cL_law 1875 = .ok (.iconst 1, 1) := by decide +kernel
theorem dL_law_1876 : decode cL_law 1876 = .ok (.iadd, 1) := by decide +kernel
theorem dL_law_1877 : decode cL_law 1877 = .ok (.iaload, 1) := by decide +kernel
theorem dL_law_1878 : decode cL_law 1878 = .ok (.aload_n 0, 1) := by decide +kernel
theorem dL_law_1879 : decode cL_law 1879 = .ok (.iload_n 3, 1) := by decide +kernel
theorem dL_law_1880 : decode cL_law 1880 = .ok (.iconst 2, 1) := by decide +kernel
theorem dL_law_1881 : decode cL_law 1881 = .ok (.iadd, 1) := by decide +kernel
theorem dL_law_1882 : decode cL_law 1882 = .ok (.iaload, 1) := by decide +kernel
theorem dL_law_1883 : decode cL_law 1883 = .ok (.invokevirtual 230, 3) := by decide +kernel
theorem dL_law_1886 : decode cL_law 1886 = .ok (.if_icmp .eq 579, 3) := by decide +kernel
theorem dL_law_1891 : decode cL_law 1891 = .ok (.aload_n 1, 1) := by decide +kernel
theorem dL_law_1892 : decode cL_law 1892 = .ok (.invokevirtual 231, 3) := by decide +kernel
theorem dL_law_1895 : decode cL_law 1895 = .ok (.aload_n 2, 1) := by decide +kernel
theorem dL_law_1896 : decode cL_law 1896 = .ok (.invokevirtual 234, 3) := by decide +kernel
theorem dL_law_1899 : decode cL_law 1899 = .ok (.if_icmp .eq 566, 3) := by decide +kernel
theorem dL_law_1904 : decode cL_law 1904 = .ok (.aload_n 1, 1) := by decide +kernel
theorem dL_law_1905 : decode cL_law 1905 = .ok (.aload_n 0, 1) := by decide +kernel
theorem dL_law_1906 : decode cL_law 1906 = .ok (.iload_n 3, 1) := by decide +kernel
theorem dL_law_1907 : decode cL_law 1907 = .ok (.iconst 1, 1) := by decide +kernel
theorem dL_law_1908 : decode cL_law 1908 = .ok (.iadd, 1) := by decide +kernel
theorem dL_law_1909 : decode cL_law 1909 = .ok (.iaload, 1) := by decide +kernel
theorem dL_law_1910 : decode cL_law 1910 = .ok (.aload_n 0, 1) := by decide +kernel
theorem dL_law_1911 : decode cL_law 1911 = .ok (.iload_n 3, 1) := by decide +kernel
theorem dL_law_1912 : decode cL_law 1912 = .ok (.iconst 2, 1) := by decide +kernel
theorem dL_law_1913 : decode cL_law 1913 = .ok (.iadd, 1) := by decide +kernel
theorem dL_law_1914 : decode cL_law 1914 = .ok (.iaload, 1) := by decide +kernel
theorem dL_law_1915 : decode cL_law 1915 = .ok (.invokevirtual 235, 3) := by decide +kernel
theorem dL_law_1918 : decode cL_law 1918 = .ok (.aload_n 2, 1) := by decide +kernel
theorem dL_law_1919 : decode cL_law 1919 = .ok (.aload_n 0, 1) := by decide +kernel
theorem dL_law_1920 : decode cL_law 1920 = .ok (.iload_n 3, 1) := by decide +kernel
theorem dL_law_1921 : decode cL_law 1921 = .ok (.iconst 1, 1) := by decide +kernel
theorem dL_law_1922 : decode cL_law 1922 = .ok (.iadd, 1) := by decide +kernel
theorem dL_law_1923 : decode cL_law 1923 = .ok (.iaload, 1) := by decide +kernel
theorem dL_law_1924 : decode cL_law 1924 = .ok (.aload_n 0, 1) := by decide +kernel
theorem dL_law_1925 : decode cL_law 1925 = .ok (.iload_n 3, 1) := by decide +kernel
theorem dL_law_1926 : decode cL_law 1926 = .ok (.iconst 2, 1) := by decide +kernel
theorem dL_law_1927 : decode cL_law 1927 = .ok (.iadd, 1) := by decide +kernel
theorem dL_law_1928 : decode cL_law 1928 = .ok (.iaload, 1) := by decide +kernel
theorem dL_law_1929 : decode cL_law 1929 = .ok (.invokevirtual 238, 3) := by decide +kernel
theorem dL_law_1932 : decode cL_law 1932 = .ok (.if_icmp .eq 533, 3) := by decide +kernel
theorem dL_law_1937 : decode cL_law 1937 = .ok (.aload_n 1, 1) := by decide +kernel
theorem dL_law_1938 : decode cL_law 1938 = .ok (.invokevirtual 239, 3) := by decide +kernel
theorem dL_law_1941 : decode cL_law 1941 = .ok (.aload_n 2, 1) := by decide +kernel
theorem dL_law_1942 : decode cL_law 1942 = .ok (.invokevirtual 242, 3) := by decide +kernel
theorem dL_law_1945 : decode cL_law 1945 = .ok (.if_icmp .eq 520, 3) := by decide +kernel
theorem dL_law_1950 : decode cL_law 1950 = .ok (.aload_n 1, 1) := by decide +kernel
theorem dL_law_1951 : decode cL_law 1951 = .ok (.invokevirtual 243, 3) := by decide +kernel
theorem dL_law_1954 : decode cL_law 1954 = .ok (.aload_n 2, 1) := by decide +kernel
theorem dL_law_1955 : decode cL_law 1955 = .ok (.invokevirtual 246, 3) := by decide +kernel
theorem dL_law_1958 : decode cL_law 1958 = .ok (.if_icmp .eq 507, 3) := by decide +kernel
theorem dL_law_1963 : decode cL_law 1963 = .ok (.aload_n 1, 1) := by decide +kernel
theorem dL_law_1964 : decode cL_law 1964 = .ok (.aload_n 0, 1) := by decide +kernel
theorem dL_law_1965 : decode cL_law 1965 = .ok (.iload_n 3, 1) := by decide +kernel
theorem dL_law_1966 : decode cL_law 1966 = .ok (.iconst 1, 1) := by decide +kernel
theorem dL_law_1967 : decode cL_law 1967 = .ok (.iadd, 1) := by decide +kernel
theorem dL_law_1968 : decode cL_law 1968 = .ok (.iaload, 1) := by decide +kernel
theorem dL_law_1969 : decode cL_law 1969 = .ok (.invokevirtual 247, 3) := by decide +kernel
theorem dL_law_1972 : decode cL_law 1972 = .ok (.aload_n 2, 1) := by decide +kernel
theorem dL_law_1973 : decode cL_law 1973 = .ok (.aload_n 0, 1) := by decide +kernel
theorem dL_law_1974 : decode cL_law 1974 = .ok (.iload_n 3, 1) := by decide +kernel
theorem dL_law_1975 : decode cL_law 1975 = .ok (.iconst 1, 1) := by decide +kernel
theorem dL_law_1976 : decode cL_law 1976 = .ok (.iadd, 1) := by decide +kernel
theorem dL_law_1977 : decode cL_law 1977 = .ok (.iaload, 1) := by decide +kernel
theorem dL_law_1978 : decode cL_law 1978 = .ok (.invokevirtual 250, 3) := by decide +kernel
theorem dL_law_1981 : decode cL_law 1981 = .ok (.if_icmp .eq 484, 3) := by decide +kernel
theorem dL_law_1986 : decode cL_law 1986 = .ok (.aload_n 1, 1) := by decide +kernel
theorem dL_law_1987 : decode cL_law 1987 = .ok (.aload_n 0, 1) := by decide +kernel
theorem dL_law_1988 : decode cL_law 1988 = .ok (.iload_n 3, 1) := by decide +kernel
theorem dL_law_1989 : decode cL_law 1989 = .ok (.iconst 1, 1) := by decide +kernel
theorem dL_law_1990 : decode cL_law 1990 = .ok (.iadd, 1) := by decide +kernel
theorem dL_law_1991 : decode cL_law 1991 = .ok (.iaload, 1) := by decide +kernel
theorem dL_law_1992 : decode cL_law 1992 = .ok (.aload_n 0, 1) := by decide +kernel
theorem dL_law_1993 : decode cL_law 1993 = .ok (.iload_n 3, 1) := by decide +kernel
theorem dL_law_1994 : decode cL_law 1994 = .ok (.iconst 2, 1) := by decide +kernel
theorem dL_law_1995 : decode cL_law 1995 = .ok (.iadd, 1) := by decide +kernel
theorem dL_law_1996 : decode cL_law 1996 = .ok (.iaload, 1) := by decide +kernel
theorem dL_law_1997 : decode cL_law 1997 = .ok (.invokevirtual 251, 3) := by decide +kernel
theorem dL_law_2000 : decode cL_law 2000 = .ok (.aload_n 2, 1) := by decide +kernel
theorem dL_law_2001 : decode cL_law 2001 = .ok (.aload_n 0, 1) := by decide +kernel
theorem dL_law_2002 : decode cL_law 2002 = .ok (.iload_n 3, 1) := by decide +kernel
theorem dL_law_2003 : decode cL_law 2003 = .ok (.iconst 1, 1) := by decide +kernel
theorem dL_law_2004 : decode cL_law 2004 = .ok (.iadd, 1) := by decide +kernel
theorem dL_law_2005 : decode cL_law 2005 = .ok (.iaload, 1) := by decide +kernel
theorem dL_law_2006 : decode cL_law 2006 = .ok (.aload_n 0, 1) := by decide +kernel
theorem dL_law_2007 : decode cL_law 2007 = .ok (.iload_n 3, 1) := by decide +kernel
theorem dL_law_2008 : decode cL_law 2008 = .ok (.iconst 2, 1) := by decide +kernel
theorem dL_law_2009 : decode cL_law 2009 = .ok (.iadd, 1) := by decide +kernel
theorem dL_law_2010 : decode cL_law 2010 = .ok (.iaload, 1) := by decide +kernel
theorem dL_law_2011 : decode cL_law 2011 = .ok (.invokevirtual 254, 3) := by decide +kernel
theorem dL_law_2014 : decode cL_law 2014 = .ok (.if_icmp .eq 451, 3) := by decide +kernel
theorem dL_law_2019 : decode cL_law 2019 = .ok (.aload_n 1, 1) := by decide +kernel
theorem dL_law_2020 : decode cL_law 2020 = .ok (.aload_n 0, 1) := by decide +kernel
theorem dL_law_2021 : decode cL_law 2021 = .ok (.iload_n 3, 1) := by decide +kernel
theorem dL_law_2022 : decode cL_law 2022 = .ok (.iconst 1, 1) := by decide +kernel
theorem dL_law_2023 : decode cL_law 2023 = .ok (.iadd, 1) := by decide +kernel
theorem dL_law_2024 : decode cL_law 2024 = .ok (.iaload, 1) := by decide +kernel
theorem dL_law_2025 : decode cL_law 2025 = .ok (.aload_n 0, 1) := by decide +kernel
theorem dL_law_2026 : decode cL_law 2026 = .ok (.iload_n 3, 1) := by decide +kernel
theorem dL_law_2027 : decode cL_law 2027 = .ok (.iconst 2, 1) := by decide +kernel
theorem dL_law_2028 : decode cL_law 2028 = .ok (.iadd, 1) := by decide +kernel
theorem dL_law_2029 : decode cL_law 2029 = .ok (.iaload, 1) := by decide +kernel
theorem dL_law_2030 : decode cL_law 2030 = .ok (.invokevirtual 255, 3) := by decide +kernel
theorem dL_law_2033 : decode cL_law 2033 = .ok (.aload_n 2, 1) := by decide +kernel
theorem dL_law_2034 : decode cL_law 2034 = .ok (.aload_n 0, 1) := by decide +kernel
theorem dL_law_2035 : decode cL_law 2035 = .ok (.iload_n 3, 1) := by decide +kernel
theorem dL_law_2036 : decode cL_law 2036 = .ok (.iconst 1, 1) := by decide +kernel
theorem dL_law_2037 : decode cL_law 2037 = .ok (.iadd, 1) := by decide +kernel
theorem dL_law_2038 : decode cL_law 2038 = .ok (.iaload, 1) := by decide +kernel
theorem dL_law_2039 : decode cL_law 2039 = .ok (.aload_n 0, 1) := by decide +kernel
theorem dL_law_2040 : decode cL_law 2040 = .ok (.iload_n 3, 1) := by decide +kernel
theorem dL_law_2041 : decode cL_law 2041 = .ok (.iconst 2, 1) := by decide +kernel
theorem dL_law_2042 : decode cL_law 2042 = .ok (.iadd, 1) := by decide +kernel
theorem dL_law_2043 : decode cL_law 2043 = .ok (.iaload, 1) := by decide +kernel
theorem dL_law_2044 : decode cL_law 2044 = .ok (.invokevirtual 258, 3) := by decide +kernel
theorem dL_law_2047 : decode cL_law 2047 = .ok (.if_icmp .eq 418, 3) := by decide +kernel
theorem dL_law_2052 : decode cL_law 2052 = .ok (.aload_n 1, 1) := by decide +kernel
theorem dL_law_2053 : decode cL_law 2053 = .ok (.aload_n 0, 1) := by decide +kernel
theorem dL_law_2054 : decode cL_law 2054 = .ok (.iload_n 3, 1) := by decide +kernel
theorem dL_law_2055 : decode cL_law 2055 = .ok (.iconst 1, 1) := by decide +kernel
theorem dL_law_2056 : decode cL_law 2056 = .ok (.iadd, 1) := by decide +kernel
theorem dL_law_2057 : decode cL_law 2057 = .ok (.iaload, 1) := by decide +kernel
theorem dL_law_2058 : decode cL_law 2058 = .ok (.invokevirtual 259, 3) := by decide +kernel
theorem dL_law_2061 : decode cL_law 2061 = .ok (.aload_n 2, 1) := by decide +kernel
theorem dL_law_2062 : decode cL_law 2062 = .ok (.aload_n 0, 1) := by decide +kernel
theorem dL_law_2063 : decode cL_law 2063 = .ok (.iload_n 3, 1) := by decide +kernel
theorem dL_law_2064 : decode cL_law 2064 = .ok (.iconst 1, 1) := by decide +kernel
theorem dL_law_2065 : decode cL_law 2065 = .ok (.iadd, 1) := by decide +kernel
theorem dL_law_2066 : decode cL_law 2066 = .ok (.iaload, 1) := by decide +kernel
theorem dL_law_2067 : decode cL_law 2067 = .ok (.invokevirtual 262, 3) := by decide +kernel
theorem dL_law_2070 : decode cL_law 2070 = .ok (.if_icmp .eq 395, 3) := by decide +kernel
theorem dL_law_2075 : decode cL_law 2075 = .ok (.aload_n 1, 1) := by decide +kernel
theorem dL_law_2076 : decode cL_law 2076 = .ok (.aload_n 0, 1) := by decide +kernel
theorem dL_law_2077 : decode cL_law 2077 = .ok (.iload_n 3, 1) := by decide +kernel
theorem dL_law_2078 : decode cL_law 2078 = .ok (.iconst 1, 1) := by decide +kernel
theorem dL_law_2079 : decode cL_law 2079 = .ok (.iadd, 1) := by decide +kernel
theorem dL_law_2080 : decode cL_law 2080 = .ok (.iaload, 1) := by decide +kernel
theorem dL_law_2081 : decode cL_law 2081 = .ok (.aload_n 0, 1) := by decide +kernel
theorem dL_law_2082 : decode cL_law 2082 = .ok (.iload_n 3, 1) := by decide +kernel
theorem dL_law_2083 : decode cL_law 2083 = .ok (.iconst 2, 1) := by decide +kernel
theorem dL_law_2084 : decode cL_law 2084 = .ok (.iadd, 1) := by decide +kernel
theorem dL_law_2085 : decode cL_law 2085 = .ok (.iaload, 1) := by decide +kernel
theorem dL_law_2086 : decode cL_law 2086 = .ok (.aload_n 0, 1) := by decide +kernel
theorem dL_law_2087 : decode cL_law 2087 = .ok (.iload_n 3, 1) := by decide +kernel
theorem dL_law_2088 : decode cL_law 2088 = .ok (.iconst 3, 1) := by decide +kernel
theorem dL_law_2089 : decode cL_law 2089 = .ok (.iadd, 1) := by decide +kernel
theorem dL_law_2090 : decode cL_law 2090 = .ok (.iaload, 1) := by decide +kernel
theorem dL_law_2091 : decode cL_law 2091 = .ok (.invokevirtual 263, 3) := by decide +kernel
theorem dL_law_2094 : decode cL_law 2094 = .ok (.aload_n 2, 1) := by decide +kernel
theorem dL_law_2095 : decode cL_law 2095 = .ok (.aload_n 0, 1) := by decide +kernel
theorem dL_law_2096 : decode cL_law 2096 = .ok (.iload_n 3, 1) := by decide +kernel
theorem dL_law_2097 : decode cL_law 2097 = .ok (.iconst 1, 1) := by decide +kernel
theorem dL_law_2098 : decode cL_law 2098 = .ok (.iadd, 1) := by decide +kernel
theorem dL_law_2099 : decode cL_law 2099 = .ok (.iaload, 1) := by decide +kernel
theorem dL_law_2100 : decode cL_law 2100 = .ok (.aload_n 0, 1) := by decide +kernel
theorem dL_law_2101 : decode cL_law 2101 = .ok (.iload_n 3, 1) := by decide +kernel
theorem dL_law_2102 : decode cL_law 2102 = .ok (.iconst 2, 1) := by decide +kernel
theorem dL_law_2103 : decode cL_law 2103 = .ok (.iadd, 1) := by decide +kernel
theorem dL_law_2104 : decode cL_law 2104 = .ok (.iaload, 1) := by decide +kernel
theorem dL_law_2105 : decode cL_law 2105 = .ok (.aload_n 0, 1) := by decide +kernel
theorem dL_law_2106 : decode cL_law 2106 = .ok (.iload_n 3, 1) := by decide +kernel
theorem dL_law_2107 : decode cL_law 2107 = .ok (.iconst 3, 1) := by decide +kernel
theorem dL_law_2108 : decode cL_law 2108 = .ok (.iadd, 1) := by decide +kernel
theorem dL_law_2109 : decode cL_law 2109 = .ok (.iaload, 1) := by decide +kernel
theorem dL_law_2110 : decode cL_law 2110 = .ok (.invokevirtual 266, 3) := by decide +kernel
theorem dL_law_2113 : decode cL_law 2113 = .ok (.if_icmp .eq 352, 3) := by decide +kernel
theorem dL_law_2118 : decode cL_law 2118 = .ok (.aload_n 1, 1) := by decide +kernel
theorem dL_law_2119 : decode cL_law 2119 = .ok (.invokevirtual 267, 3) := by decide +kernel
theorem dL_law_2122 : decode cL_law 2122 = .ok (.aload_n 2, 1) := by decide +kernel
theorem dL_law_2123 : decode cL_law 2123 = .ok (.invokevirtual 270, 3) := by decide +kernel
theorem dL_law_2126 : decode cL_law 2126 = .ok (.if_icmp .eq 339, 3) := by decide +kernel
theorem dL_law_2131 : decode cL_law 2131 = .ok (.aload_n 1, 1) := by decide +kernel
theorem dL_law_2132 : decode cL_law 2132 = .ok (.aload_n 0, 1) := by decide +kernel
theorem dL_law_2133 : decode cL_law 2133 = .ok (.iload_n 3, 1) := by decide +kernel
theorem dL_law_2134 : decode cL_law 2134 = .ok (.iconst 1, 1) := by decide +kernel
theorem dL_law_2135 : decode cL_law 2135 = .ok (.iadd, 1) := by decide +kernel
theorem dL_law_2136 : decode cL_law 2136 = .ok (.iaload, 1) := by decide +kernel
theorem dL_law_2137 : decode cL_law 2137 = .ok (.aload_n 0, 1) := by decide +kernel
theorem dL_law_2138 : decode cL_law 2138 = .ok (.iload_n 3, 1) := by decide +kernel
theorem dL_law_2139 : decode cL_law 2139 = .ok (.iconst 2, 1) := by decide +kernel
theorem dL_law_2140 : decode cL_law 2140 = .ok (.iadd, 1) := by decide +kernel
theorem dL_law_2141 : decode cL_law 2141 = .ok (.iaload, 1) := by decide +kernel
theorem dL_law_2142 : decode cL_law 2142 = .ok (.aload_n 0, 1) := by decide +kernel
theorem dL_law_2143 : decode cL_law 2143 = .ok (.iload_n 3, 1) := by decide +kernel
theorem dL_law_2144 : decode cL_law 2144 = .ok (.iconst 3, 1) := by decide +kernel
theorem dL_law_2145 : decode cL_law 2145 = .ok (.iadd, 1) := by decide +kernel
theorem dL_law_2146 : decode cL_law 2146 = .ok (.iaload, 1) := by decide +kernel
theorem dL_law_2147 : decode cL_law 2147 = .ok (.aload_n 0, 1) := by decide +kernel
theorem dL_law_2148 : decode cL_law 2148 = .ok (.iload_n 3, 1) := by decide +kernel
theorem dL_law_2149 : decode cL_law 2149 = .ok (.iconst 4, 1) := by decide +kernel
theorem dL_law_2150 : decode cL_law 2150 = .ok (.iadd, 1) := by decide +kernel
theorem dL_law_2151 : decode cL_law 2151 = .ok (.iaload, 1) := by decide +kernel
theorem dL_law_2152 : decode cL_law 2152 = .ok (.invokevirtual 271, 3) := by decide +kernel
theorem dL_law_2155 : decode cL_law 2155 = .ok (.aload_n 2, 1) := by decide +kernel
theorem dL_law_2156 : decode cL_law 2156 = .ok (.aload_n 0, 1) := by decide +kernel
theorem dL_law_2157 : decode cL_law 2157 = .ok (.iload_n 3, 1) := by decide +kernel
theorem dL_law_2158 : decode cL_law 2158 = .ok (.iconst 1, 1) := by decide +kernel
theorem dL_law_2159 : decode cL_law 2159 = .ok (.iadd, 1) := by decide +kernel
theorem dL_law_2160 : decode cL_law 2160 = .ok (.iaload, 1) := by decide +kernel
theorem dL_law_2161 : decode cL_law 2161 = .ok (.aload_n 0, 1) := by decide +kernel
theorem dL_law_2162 : decode cL_law 2162 = .ok (.iload_n 3, 1) := by decide +kernel
theorem dL_law_2163 : decode cL_law 2163 = .ok (.iconst 2, 1) := by decide +kernel
theorem dL_law_2164 : decode cL_law 2164 = .ok (.iadd, 1) := by decide +kernel
theorem dL_law_2165 : decode cL_law 2165 = .ok (.iaload, 1) := by decide +kernel
theorem dL_law_2166 : decode cL_law 2166 = .ok (.aload_n 0, 1) := by decide +kernel
theorem dL_law_2167 : decode cL_law 2167 = .ok (.iload_n 3, 1) := by decide +kernel
theorem dL_law_2168 : decode cL_law 2168 = .ok (.iconst 3, 1) := by decide +kernel
theorem dL_law_2169 : decode cL_law 2169 = .ok (.iadd, 1) := by decide +kernel
theorem dL_law_2170 : decode cL_law 2170 = .ok (.iaload, 1) := by decide +kernel
theorem dL_law_2171 : decode cL_law 2171 = .ok (.aload_n 0, 1) := by decide +kernel
theorem dL_law_2172 : decode cL_law 2172 = .ok (.iload_n 3, 1) := by decide +kernel
theorem dL_law_2173 : decode cL_law 2173 = .ok (.iconst 4, 1) := by decide +kernel
theorem dL_law_2174 : decode cL_law 2174 = .ok (.iadd, 1) := by decide +kernel
theorem dL_law_2175 : decode cL_law 2175 = .ok (.iaload, 1) := by decide +kernel
theorem dL_law_2176 : decode cL_law 2176 = .ok (.invokevirtual 274, 3) := by decide +kernel
theorem dL_law_2179 : decode cL_law 2179 = .ok (.if_icmp .eq 286, 3) := by decide +kernel
theorem dL_law_2184 : decode cL_law 2184 = .ok (.aload_n 1, 1) := by decide +kernel
theorem dL_law_2185 : decode cL_law 2185 = .ok (.aload_n 0, 1) := by decide +kernel
theorem dL_law_2186 : decode cL_law 2186 = .ok (.iload_n 3, 1) := by decide +kernel
theorem dL_law_2187 : decode cL_law 2187 = .ok (.iconst 1, 1) := by decide +kernel
theorem dL_law_2188 : decode cL_law 2188 = .ok (.iadd, 1) := by decide +kernel
theorem dL_law_2189 : decode cL_law 2189 = .ok (.iaload, 1) := by decide +kernel
theorem dL_law_2190 : decode cL_law 2190 = .ok (.aload_n 0, 1) := by decide +kernel
theorem dL_law_2191 : decode cL_law 2191 = .ok (.iload_n 3, 1) := by decide +kernel
theorem dL_law_2192 : decode cL_law 2192 = .ok (.iconst 2, 1) := by decide +kernel
theorem dL_law_2193 : decode cL_law 2193 = .ok (.iadd, 1) := by decide +kernel
theorem dL_law_2194 : decode cL_law 2194 = .ok (.iaload, 1) := by decide +kernel
theorem dL_law_2195 : decode cL_law 2195 = .ok (.invokevirtual 275, 3) := by decide +kernel
theorem dL_law_2198 : decode cL_law 2198 = .ok (.aload_n 2, 1) := by decide +kernel
theorem dL_law_2199 : decode cL_law 2199 = .ok (.aload_n 0, 1) := by decide +kernel
theorem dL_law_2200 : decode cL_law 2200 = .ok (.iload_n 3, 1) := by decide +kernel
theorem dL_law_2201 : decode cL_law 2201 = .ok (.iconst 1, 1) := by decide +kernel
theorem dL_law_2202 : decode cL_law 2202 = .ok (.iadd, 1) := by decide +kernel
theorem dL_law_2203 : decode cL_law 2203 = .ok (.iaload, 1) := by decide +kernel
theorem dL_law_2204 : decode cL_law 2204 = .ok (.aload_n 0, 1) := by decide +kernel
theorem dL_law_2205 : decode cL_law 2205 = .ok (.iload_n 3, 1) := by decide +kernel
theorem dL_law_2206 : decode cL_law 2206 = .ok (.iconst 2, 1) := by decide +kernel
theorem dL_law_2207 : decode cL_law 2207 = .ok (.iadd, 1) := by decide +kernel
theorem dL_law_2208 : decode cL_law 2208 = .ok (.iaload, 1) := by decide +kernel
theorem dL_law_2209 : decode cL_law 2209 = .ok (.invokevirtual 278, 3) := by decide +kernel
theorem dL_law_2212 : decode cL_law 2212 = .ok (.if_icmp .eq 253, 3) := by decide +kernel
theorem dL_law_2217 : decode cL_law 2217 = .ok (.aload_n 1, 1) := by decide +kernel
theorem dL_law_2218 : decode cL_law 2218 = .ok (.aload_n 0, 1) := by decide +kernel
theorem dL_law_2219 : decode cL_law 2219 = .ok (.iload_n 3, 1) := by decide +kernel
theorem dL_law_2220 : decode cL_law 2220 = .ok (.iconst 1, 1) := by decide +kernel
theorem dL_law_2221 : decode cL_law 2221 = .ok (.iadd, 1) := by decide +kernel
theorem dL_law_2222 : decode cL_law 2222 = .ok (.iaload, 1) := by decide +kernel
theorem dL_law_2223 : decode cL_law 2223 = .ok (.invokevirtual 279, 3) := by decide +kernel
theorem dL_law_2226 : decode cL_law 2226 = .ok (.aload_n 2, 1) := by decide +kernel
theorem dL_law_2227 : decode cL_law 2227 = .ok (.aload_n 0, 1) := by decide +kernel
theorem dL_law_2228 : decode cL_law 2228 = .ok (.iload_n 3, 1) := by decide +kernel
theorem dL_law_2229 : decode cL_law 2229 = .ok (.iconst 1, 1) := by decide +kernel
theorem dL_law_2230 : decode cL_law 2230 = .ok (.iadd, 1) := by decide +kernel
theorem dL_law_2231 : decode cL_law 2231 = .ok (.iaload, 1) := by decide +kernel
theorem dL_law_2232 : decode cL_law 2232 = .ok (.invokevirtual 282, 3) := by decide +kernel
theorem dL_law_2235 : decode cL_law 2235 = .ok (.if_icmp .eq 230, 3) := by decide +kernel
theorem dL_law_2240 : decode cL_law 2240 = .ok (.aload_n 1, 1) := by decide +kernel
theorem dL_law_2241 : decode cL_law 2241 = .ok (.aload_n 0, 1) := by decide +kernel
theorem dL_law_2242 : decode cL_law 2242 = .ok (.iload_n 3, 1) := by decide +kernel
theorem dL_law_2243 : decode cL_law 2243 = .ok (.iconst 1, 1) := by decide +kernel
theorem dL_law_2244 : decode cL_law 2244 = .ok (.iadd, 1) := by decide +kernel
theorem dL_law_2245 : decode cL_law 2245 = .ok (.iaload, 1) := by decide +kernel
theorem dL_law_2246 : decode cL_law 2246 = .ok (.invokevirtual 283, 3) := by decide +kernel
theorem dL_law_2249 : decode cL_law 2249 = .ok (.aload_n 2, 1) := by decide +kernel
theorem dL_law_2250 : decode cL_law 2250 = .ok (.aload_n 0, 1) := by decide +kernel
theorem dL_law_2251 : decode cL_law 2251 = .ok (.iload_n 3, 1) := by decide +kernel
theorem dL_law_2252 : decode cL_law 2252 = .ok (.iconst 1, 1) := by decide +kernel
theorem dL_law_2253 : decode cL_law 2253 = .ok (.iadd, 1) := by decide +kernel
theorem dL_law_2254 : decode cL_law 2254 = .ok (.iaload, 1) := by decide +kernel
theorem dL_law_2255 : decode cL_law 2255 = .ok (.invokevirtual 286, 3) := by decide +kernel
theorem dL_law_2258 : decode cL_law 2258 = .ok (.if_icmp .eq 207, 3) := by decide +kernel
theorem dL_law_2263 : decode cL_law 2263 = .ok (.aload_n 1, 1) := by decide +kernel
theorem dL_law_2264 : decode cL_law 2264 = .ok (.aload_n 0, 1) := by decide +kernel
theorem dL_law_2265 : decode cL_law 2265 = .ok (.iload_n 3, 1) := by decide +kernel
theorem dL_law_2266 : decode cL_law 2266 = .ok (.iconst 1, 1) := by decide +kernel
theorem dL_law_2267 : decode cL_law 2267 = .ok (.iadd, 1) := by decide +kernel
theorem dL_law_2268 : decode cL_law 2268 = .ok (.iaload, 1) := by decide +kernel
theorem dL_law_2269 : decode cL_law 2269 = .ok (.invokevirtual 287, 3) := by decide +kernel
theorem dL_law_2272 : decode cL_law 2272 = .ok (.aload_n 2, 1) := by decide +kernel
theorem dL_law_2273 : decode cL_law 2273 = .ok (.aload_n 0, 1) := by decide +kernel
theorem dL_law_2274 : decode cL_law 2274 = .ok (.iload_n 3, 1) := by decide +kernel
theorem dL_law_2275 : decode cL_law 2275 = .ok (.iconst 1, 1) := by decide +kernel
theorem dL_law_2276 : decode cL_law 2276 = .ok (.iadd, 1) := by decide +kernel
theorem dL_law_2277 : decode cL_law 2277 = .ok (.iaload, 1) := by decide +kernel
theorem dL_law_2278 : decode cL_law 2278 = .ok (.invokevirtual 290, 3) := by decide +kernel
theorem dL_law_2281 : decode cL_law 2281 = .ok (.if_icmp .eq 184, 3) := by decide +kernel
theorem dL_law_2286 : decode cL_law 2286 = .ok (.aload_n 1, 1) := by decide +kernel
theorem dL_law_2287 : decode cL_law 2287 = .ok (.aload_n 0, 1) := by decide +kernel
theorem dL_law_2288 : decode cL_law 2288 = .ok (.iload_n 3, 1) := by decide +kernel
theorem dL_law_2289 : decode cL_law 2289 = .ok (.iconst 1, 1) := by decide +kernel
theorem dL_law_2290 : decode cL_law 2290 = .ok (.iadd, 1) := by decide +kernel
theorem dL_law_2291 : decode cL_law 2291 = .ok (.iaload, 1) := by decide +kernel
theorem dL_law_2292 : decode cL_law 2292 = .ok (.aload_n 0, 1) := by decide +kernel
theorem dL_law_2293 : decode cL_law 2293 = .ok (.iload_n 3, 1) := by decide +kernel
theorem dL_law_2294 : decode cL_law 2294 = .ok (.iconst 2, 1) := by decide +kernel
theorem dL_law_2295 : decode cL_law 2295 = .ok (.iadd, 1) := by decide +kernel
theorem dL_law_2296 : decode cL_law 2296 = .ok (.iaload, 1) := by decide +kernel
theorem dL_law_2297 : decode cL_law 2297 = .ok (.aload_n 0, 1) := by decide +kernel
theorem dL_law_2298 : decode cL_law 2298 = .ok (.iload_n 3, 1) := by decide +kernel
theorem dL_law_2299 : decode cL_law 2299 = .ok (.iconst 3, 1) := by decide +kernel
theorem dL_law_2300 : decode cL_law 2300 = .ok (.iadd, 1) := by decide +kernel
theorem dL_law_2301 : decode cL_law 2301 = .ok (.iaload, 1) := by decide +kernel
theorem dL_law_2302 : decode cL_law 2302 = .ok (.invokevirtual 291, 3) := by decide +kernel
theorem dL_law_2305 : decode cL_law 2305 = .ok (.aload_n 2, 1) := by decide +kernel
theorem dL_law_2306 : decode cL_law 2306 = .ok (.aload_n 0, 1) := by decide +kernel
theorem dL_law_2307 : decode cL_law 2307 = .ok (.iload_n 3, 1) := by decide +kernel
theorem dL_law_2308 : decode cL_law 2308 = .ok (.iconst 1, 1) := by decide +kernel
theorem dL_law_2309 : decode cL_law 2309 = .ok (.iadd, 1) := by decide +kernel
theorem dL_law_2310 : decode cL_law 2310 = .ok (.iaload, 1) := by decide +kernel
theorem dL_law_2311 : decode cL_law 2311 = .ok (.aload_n 0, 1) := by decide +kernel
theorem dL_law_2312 : decode cL_law 2312 = .ok (.iload_n 3, 1) := by decide +kernel
theorem dL_law_2313 : decode cL_law 2313 = .ok (.iconst 2, 1) := by decide +kernel
theorem dL_law_2314 : decode cL_law 2314 = .ok (.iadd, 1) := by decide +kernel
theorem dL_law_2315 : decode cL_law 2315 = .ok (.iaload, 1) := by decide +kernel
theorem dL_law_2316 : decode cL_law 2316 = .ok (.aload_n 0, 1) := by decide +kernel
theorem dL_law_2317 : decode cL_law 2317 = .ok (.iload_n 3, 1) := by decide +kernel
theorem dL_law_2318 : decode cL_law 2318 = .ok (.iconst 3, 1) := by decide +kernel
theorem dL_law_2319 : decode cL_law 2319 = .ok (.iadd, 1) := by decide +kernel
theorem dL_law_2320 : decode cL_law 2320 = .ok (.iaload, 1) := by decide +kernel
theorem dL_law_2321 : decode cL_law 2321 = .ok (.invokevirtual 294, 3) := by decide +kernel
theorem dL_law_2324 : decode cL_law 2324 = .ok (.if_icmp .eq 141, 3) := by decide +kernel
theorem dL_law_2329 : decode cL_law 2329 = .ok (.aload_n 1, 1) := by decide +kernel
theorem dL_law_2330 : decode cL_law 2330 = .ok (.aload_n 0, 1) := by decide +kernel
theorem dL_law_2331 : decode cL_law 2331 = .ok (.iload_n 3, 1) := by decide +kernel
theorem dL_law_2332 : decode cL_law 2332 = .ok (.iconst 1, 1) := by decide +kernel
theorem dL_law_2333 : decode cL_law 2333 = .ok (.iadd, 1) := by decide +kernel
theorem dL_law_2334 : decode cL_law 2334 = .ok (.iaload, 1) := by decide +kernel
theorem dL_law_2335 : decode cL_law 2335 = .ok (.aload_n 0, 1) := by decide +kernel
theorem dL_law_2336 : decode cL_law 2336 = .ok (.iload_n 3, 1) := by decide +kernel
theorem dL_law_2337 : decode cL_law 2337 = .ok (.iconst 2, 1) := by decide +kernel
theorem dL_law_2338 : decode cL_law 2338 = .ok (.iadd, 1) := by decide +kernel
theorem dL_law_2339 : decode cL_law 2339 = .ok (.iaload, 1) := by decide +kernel
theorem dL_law_2340 : decode cL_law 2340 = .ok (.aload_n 0, 1) := by decide +kernel
theorem dL_law_2341 : decode cL_law 2341 = .ok (.iload_n 3, 1) := by decide +kernel
theorem dL_law_2342 : decode cL_law 2342 = .ok (.iconst 3, 1) := by decide +kernel
theorem dL_law_2343 : decode cL_law 2343 = .ok (.iadd, 1) := by decide +kernel
theorem dL_law_2344 : decode cL_law 2344 = .ok (.iaload, 1) := by decide +kernel
theorem dL_law_2345 : decode cL_law 2345 = .ok (.i2l, 1) := by decide +kernel
theorem dL_law_2346 : decode cL_law 2346 = .ok (.bipush 32, 2) := by decide +kernel
theorem dL_law_2348 : decode cL_law 2348 = .ok (.lshl, 1) := by decide +kernel
theorem dL_law_2349 : decode cL_law 2349 = .ok (.aload_n 0, 1) := by decide +kernel
theorem dL_law_2350 : decode cL_law 2350 = .ok (.iload_n 3, 1) := by decide +kernel
theorem dL_law_2351 : decode cL_law 2351 = .ok (.iconst 4, 1) := by decide +kernel
theorem dL_law_2352 : decode cL_law 2352 = .ok (.iadd, 1) := by decide +kernel
theorem dL_law_2353 : decode cL_law 2353 = .ok (.iaload, 1) := by decide +kernel
theorem dL_law_2354 : decode cL_law 2354 = .ok (.i2l, 1) := by decide +kernel
theorem dL_law_2355 : decode cL_law 2355 = .ok (.ldc2_w 295, 3) := by decide +kernel
theorem dL_law_2358 : decode cL_law 2358 = .ok (.land, 1) := by decide +kernel
theorem dL_law_2359 : decode cL_law 2359 = .ok (.lor, 1) := by decide +kernel
theorem dL_law_2360 : decode cL_law 2360 = .ok (.invokevirtual 297, 3) := by decide +kernel
theorem dL_law_2363 : decode cL_law 2363 = .ok (.aload_n 2, 1) := by decide +kernel
theorem dL_law_2364 : decode cL_law 2364 = .ok (.aload_n 0, 1) := by decide +kernel
theorem dL_law_2365 : decode cL_law 2365 = .ok (.iload_n 3, 1) := by decide +kernel
theorem dL_law_2366 : decode cL_law 2366 = .ok (.iconst 1, 1) := by decide +kernel
theorem dL_law_2367 : decode cL_law 2367 = .ok (.iadd, 1) := by decide +kernel
theorem dL_law_2368 : decode cL_law 2368 = .ok (.iaload, 1) := by decide +kernel
theorem dL_law_2369 : decode cL_law 2369 = .ok (.aload_n 0, 1) := by decide +kernel
theorem dL_law_2370 : decode cL_law 2370 = .ok (.iload_n 3, 1) := by decide +kernel
theorem dL_law_2371 : decode cL_law 2371 = .ok (.iconst 2, 1) := by decide +kernel
theorem dL_law_2372 : decode cL_law 2372 = .ok (.iadd, 1) := by decide +kernel
theorem dL_law_2373 : decode cL_law 2373 = .ok (.iaload, 1) := by decide +kernel
theorem dL_law_2374 : decode cL_law 2374 = .ok (.aload_n 0, 1) := by decide +kernel
theorem dL_law_2375 : decode cL_law 2375 = .ok (.iload_n 3, 1) := by decide +kernel
theorem dL_law_2376 : decode cL_law 2376 = .ok (.iconst 3, 1) := by decide +kernel
theorem dL_law_2377 : decode cL_law 2377 = .ok (.iadd, 1) := by decide +kernel
theorem dL_law_2378 : decode cL_law 2378 = .ok (.iaload, 1) := by decide +kernel
theorem dL_law_2379 : decode cL_law 2379 = .ok (.i2l, 1) := by decide +kernel
theorem dL_law_2380 : decode cL_law 2380 = .ok (.bipush 32, 2) := by decide +kernel
theorem dL_law_2382 : decode cL_law 2382 = .ok (.lshl, 1) := by decide +kernel
theorem dL_law_2383 : decode cL_law 2383 = .ok (.aload_n 0, 1) := by decide +kernel
theorem dL_law_2384 : decode cL_law 2384 = .ok (.iload_n 3, 1) := by decide +kernel
theorem dL_law_2385 : decode cL_law 2385 = .ok (.iconst 4, 1) := by decide +kernel
theorem dL_law_2386 : decode cL_law 2386 = .ok (.iadd, 1) := by decide +kernel
theorem dL_law_2387 : decode cL_law 2387 = .ok (.iaload, 1) := by decide +kernel
theorem dL_law_2388 : decode cL_law 2388 = .ok (.i2l, 1) := by decide +kernel
theorem dL_law_2389 : decode cL_law 2389 = .ok (.ldc2_w 295, 3) := by decide +kernel
theorem dL_law_2392 : decode cL_law 2392 = .ok (.land, 1) := by decide +kernel
theorem dL_law_2393 : decode cL_law 2393 = .ok (.lor, 1) := by decide +kernel
theorem dL_law_2394 : decode cL_law 2394 = .ok (.invokevirtual 301, 3) := by decide +kernel
theorem dL_law_2397 : decode cL_law 2397 = .ok (.if_icmp .eq 68, 3) := by decide +kernel
theorem dL_law_2402 : decode cL_law 2402 = .ok (.aload_n 1, 1) := by decide +kernel
theorem dL_law_2403 : decode cL_law 2403 = .ok (.aload_n 0, 1) := by decide +kernel
theorem dL_law_2404 : decode cL_law 2404 = .ok (.iload_n 3, 1) := by decide +kernel
theorem dL_law_2405 : decode cL_law 2405 = .ok (.iconst 1, 1) := by decide +kernel
theorem dL_law_2406 : decode cL_law 2406 = .ok (.iadd, 1) := by decide +kernel
theorem dL_law_2407 : decode cL_law 2407 = .ok (.iaload, 1) := by decide +kernel
theorem dL_law_2408 : decode cL_law 2408 = .ok (.aload_n 0, 1) := by decide +kernel
theorem dL_law_2409 : decode cL_law 2409 = .ok (.iload_n 3, 1) := by decide +kernel
theorem dL_law_2410 : decode cL_law 2410 = .ok (.iconst 2, 1) := by decide +kernel
theorem dL_law_2411 : decode cL_law 2411 = .ok (.iadd, 1) := by decide +kernel
theorem dL_law_2412 : decode cL_law 2412 = .ok (.iaload, 1) := by decide +kernel
theorem dL_law_2413 : decode cL_law 2413 = .ok (.aload_n 0, 1) := by decide +kernel
theorem dL_law_2414 : decode cL_law 2414 = .ok (.iload_n 3, 1) := by decide +kernel
theorem dL_law_2415 : decode cL_law 2415 = .ok (.iconst 3, 1) := by decide +kernel
theorem dL_law_2416 : decode cL_law 2416 = .ok (.iadd, 1) := by decide +kernel
theorem dL_law_2417 : decode cL_law 2417 = .ok (.iaload, 1) := by decide +kernel
theorem dL_law_2418 : decode cL_law 2418 = .ok (.aload_n 0, 1) := by decide +kernel
theorem dL_law_2419 : decode cL_law 2419 = .ok (.iload_n 3, 1) := by decide +kernel
theorem dL_law_2420 : decode cL_law 2420 = .ok (.iconst 4, 1) := by decide +kernel
theorem dL_law_2421 : decode cL_law 2421 = .ok (.iadd, 1) := by decide +kernel
theorem dL_law_2422 : decode cL_law 2422 = .ok (.iaload, 1) := by decide +kernel
theorem dL_law_2423 : decode cL_law 2423 = .ok (.aload_n 0, 1) := by decide +kernel
theorem dL_law_2424 : decode cL_law 2424 = .ok (.iload_n 3, 1) := by decide +kernel
theorem dL_law_2425 : decode cL_law 2425 = .ok (.iconst 5, 1) := by decide +kernel
theorem dL_law_2426 : decode cL_law 2426 = .ok (.iadd, 1) := by decide +kernel
theorem dL_law_2427 : decode cL_law 2427 = .ok (.iaload, 1) := by decide +kernel
theorem dL_law_2428 : decode cL_law 2428 = .ok (.invokevirtual 302, 3) := by decide +kernel
theorem dL_law_2431 : decode cL_law 2431 = .ok (.aload_n 2, 1) := by decide +kernel
theorem dL_law_2432 : decode cL_law 2432 = .ok (.aload_n 0, 1) := by decide +kernel
theorem dL_law_2433 : decode cL_law 2433 = .ok (.iload_n 3, 1) := by decide +kernel
theorem dL_law_2434 : decode cL_law 2434 = .ok (.iconst 1, 1) := by decide +kernel
theorem dL_law_2435 : decode cL_law 2435 = .ok (.iadd, 1) := by decide +kernel
theorem dL_law_2436 : decode cL_law 2436 = .ok (.iaload, 1) := by decide +kernel
theorem dL_law_2437 : decode cL_law 2437 = .ok (.aload_n 0, 1) := by decide +kernel
theorem dL_law_2438 : decode cL_law 2438 = .ok (.iload_n 3, 1) := by decide +kernel
theorem dL_law_2439 : decode cL_law 2439 = .ok (.iconst 2, 1) := by decide +kernel
theorem dL_law_2440 : decode cL_law 2440 = .ok (.iadd, 1) := by decide +kernel
theorem dL_law_2441 : decode cL_law 2441 = .ok (.iaload, 1) := by decide +kernel
theorem dL_law_2442 : decode cL_law 2442 = .ok (.aload_n 0, 1) := by decide +kernel
theorem dL_law_2443 : decode cL_law 2443 = .ok (.iload_n 3, 1) := by decide +kernel
theorem dL_law_2444 : decode cL_law 2444 = .ok (.iconst 3, 1) := by decide +kernel
theorem dL_law_2445 : decode cL_law 2445 = .ok (.iadd, 1) := by decide +kernel
theorem dL_law_2446 : decode cL_law 2446 = .ok (.iaload, 1) := by decide +kernel
theorem dL_law_2447 : decode cL_law 2447 = .ok (.aload_n 0, 1) := by decide +kernel
theorem dL_law_2448 : decode cL_law 2448 = .ok (.iload_n 3, 1) := by decide +kernel
theorem dL_law_2449 : decode cL_law 2449 = .ok (.iconst 4, 1) := by decide +kernel
theorem dL_law_2450 : decode cL_law 2450 = .ok (.iadd, 1) := by decide +kernel
theorem dL_law_2451 : decode cL_law 2451 = .ok (.iaload, 1) := by decide +kernel
theorem dL_law_2452 : decode cL_law 2452 = .ok (.aload_n 0, 1) := by decide +kernel
theorem dL_law_2453 : decode cL_law 2453 = .ok (.iload_n 3, 1) := by decide +kernel
theorem dL_law_2454 : decode cL_law 2454 = .ok (.iconst 5, 1) := by decide +kernel
theorem dL_law_2455 : decode cL_law 2455 = .ok (.iadd, 1) := by decide +kernel
theorem dL_law_2456 : decode cL_law 2456 = .ok (.iaload, 1) := by decide +kernel
theorem dL_law_2457 : decode cL_law 2457 = .ok (.invokevirtual 305, 3) := by decide +kernel
theorem dL_law_2460 : decode cL_law 2460 = .ok (.if_icmp .eq 5, 3) := by decide +kernel
theorem dL_law_18 : decode cL_law 18 = .ok (.iload_n 3, 1) := by decide +kernel
theorem dL_law_19 : decode cL_law 19 = .ok (.aload_n 0, 1) := by decide +kernel
theorem dL_law_20 : decode cL_law 20 = .ok (.arraylength, 1) := by decide +kernel
theorem dL_law_21 : decode cL_law 21 = .ok (.bipush 6, 2) := by decide +kernel
theorem dL_law_23 : decode cL_law 23 = .ok (.isub, 1) := by decide +kernel
theorem dL_law_24 : decode cL_law 24 = .ok (.if_icmp .gt 2447, 3) := by decide +kernel
theorem dL_law_2465 : decode cL_law 2465 = .ok (.iinc 3 6, 3) := by decide +kernel
theorem dL_law_2468 : decode cL_law 2468 = .ok (.goto (-2450), 3) := by decide +kernel
theorem dL_law_2471 : decode cL_law 2471 = .ok (.iconst 1, 1) := by decide +kernel
theorem dL_law_2472 : decode cL_law 2472 = .ok (.ireturn, 1) := by decide +kernel
/-! THE CLAIM OUT OF ONE WALK OF THE LAW'S BODY. Your part is whole_start (and what it stands on); all else here is the same for every law, but numbers. -/
def R_law : String := "GentleLettersLaw"
def lw_P (b : Addr) (xs : List Int32) (args : Array Value) (s : State) : Prop := args = #[.ref b] ∧ s.IntsAt b xs ∧ xs.length ≤ 6 ∧ (Jvm.Cond.and given_1 narrow_1).before args s = true
def lw_Q (_ : Array Value) (s : State) (o : Outcome) (t : State) : Prop := o = .returned (some (.int 1)) ∧ Framed s o t [] 600000 7302250
def lw_Z (below : List Frame) (a : Array Value) (s : State) : State → Prop := fun t => ∃ o, t.status = .running ∧ Ended t below o ∧ lw_Q a s o t
/-- the law's own end, with 1 on the stack, nothing written that was there before, its room as the claim has it -/
theorem lw_ret {p : Program} {l : Launch} {e : Env} {s : State} {m : MethodId} {below : List Frame} {meth : Method} {c : Code} {b : Nat} (hx : p.tables.exec = Jvm.exec) (hb : c.code = code) (hr : meth.sig.returnType = ret) (hlocks : meth.locks = false) {pc : Nat} {H : Heap} {ls : Array Slot} (hdg : decode code pc = .ok (.ireturn, 1)) : W p l e room_1 s m #[Value.ref b] below meth c H [] 600000 7302250 (lw_Z below #[Value.ref b] s) (F0 m pc ls [.int 1]) := by
  intro T hT X
  obtain ⟨fs, hret, hrun, hended, hW, hframe⟩ := X.leave (v := some (.int 1)) (hlocks := hlocks) (fun h => by rw [hr] at h; cases h)
  have hmeth' : T.vm.method? m = some meth := X.method'
  refine ⟨T.setFrames fs, ?_, .returned (some (.int 1)), hrun, hended, rfl, ⟨_, rfl⟩, hW, hframe⟩
  jvm_step X.here [X.here.top, hx, hb, hdg, hmeth', hr, ret, narrow_b1]
  (try refine ⟨rfl, ?_⟩); (try refine ⟨rfl, ?_⟩)
  first | (intro acts; rw [hret _ acts rfl rfl rfl]) | rw [hret _ _ rfl rfl rfl]
  exact Steps.refl _
/-- what holds at the law's entry: the machine, the code, the tables' words (any of lw_tbl by 'hts w (by decide +kernel)'), the script of L ints xs at the cell b, what the Statement gives of the start (any of its parts by flat_of_before) -/
def lw_At (p : Program) (s : State) (m : MethodId) (meth : Method) (c : Code) (b L : Nat) (xs : Nat → Int32) : Prop :=
  p.tables.exec = Jvm.exec ∧ c.code = code ∧ meth.sig.returnType = ret ∧ c.maxLocals = 4 ∧ s.vm.findClass R_law = some m.cls ∧ (∀ w ∈ lw_tbl, w.before #[Value.ref b] s = true) ∧ va_X b L xs s s.heap ∧ b < s.heap.size ∧ meth.locks = false ∧ (Jvm.Cond.and given_1 narrow_1).before #[Value.ref b] s = true
def lA (s : State) : Nat → Prop := fun q => s.heap.size ≤ q
def WX (g : GG) (h0 : Nat) (u : Nat → Nat) : va_W := [(h0, .inr (11, [.ref (u 0), .ref (u 17), .ref (u 31), .ref (u 32), .ref (u 33), .ref (u 34), .ref (u 35), .ref (u 36), .ref (u 37), .ref (u 38), .ref (u 39)])), (u 0, .inr (1, [.ref (u 1), .ref (u 3), .int 0, .int (-1), .int 0])), (u 1, .inr (9, [.ref (u 2), .int 0, .int 0, .int 0, .int 0, .int 0])), (u 2, .inl (g.2 1, 900, .inl (fun _ => 0))), (u 3, .inr (0, [.int 0, .int 0, .int 0, .int 0, .int 0, .int 0, .int 0, .int 0, .int 0, .int 0, .ref (u 4), .ref (u 5), .ref (u 6), .ref (u 7), .ref (u 8), .ref (u 9), .ref (u 10), .ref (u 11), .ref (u 12), .ref (u 13)])), (u 4, .inl (g.2 0, 8, .inl (fun _ => 0))), (u 5, .inl (g.2 0, 32, .inl (fun _ => 0))), (u 6, .inl (g.2 0, 4, .inl (fun _ => 0))), (u 7, .inl (g.2 0, 4, .inl (fun _ => 0))), (u 8, .inl (g.2 0, 8, .inl (fun _ => 0))), (u 9, .inl (g.2 0, 8, .inl (fun _ => 0))), (u 10, .inl (g.2 0, 4, .inl (fun _ => 0))), (u 11, .inl (g.2 0, 20, .inl (fun _ => 0))), (u 12, .inl (g.2 0, 6, .inl (fun _ => 0))), (u 13, .inr (3, [.ref (u 14), .ref (u 15), .ref (u 16), .int 0])), (u 14, .inl (g.2 0, 60, .inl (fun _ => 0))), (u 15, .inl (g.2 0, 60, .inl (fun _ => 0))), (u 16, .inl (g.2 0, 60, .inl (fun _ => 0))), (u 17, .inr (0, [.int 0, .int 0, .int 0, .int 0, .int 0, .int 0, .int 0, .int 0, .int 0, .int 0, .ref (u 18), .ref (u 19), .ref (u 20), .ref (u 21), .ref (u 22), .ref (u 23), .ref (u 24), .ref (u 25), .ref (u 26), .ref (u 27)])), (u 18, .inl (g.2 0, 8, .inl (fun _ => 0))), (u 19, .inl (g.2 0, 32, .inl (fun _ => 0))), (u 20, .inl (g.2 0, 4, .inl (fun _ => 0))), (u 21, .inl (g.2 0, 4, .inl (fun _ => 0))), (u 22, .inl (g.2 0, 8, .inl (fun _ => 0))), (u 23, .inl (g.2 0, 8, .inl (fun _ => 0))), (u 24, .inl (g.2 0, 4, .inl (fun _ => 0))), (u 25, .inl (g.2 0, 20, .inl (fun _ => 0))), (u 26, .inl (g.2 0, 6, .inl (fun _ => 0))), (u 27, .inr (3, [.ref (u 28), .ref (u 29), .ref (u 30), .int 0])), (u 28, .inl (g.2 0, 60, .inl (fun _ => 0))), (u 29, .inl (g.2 0, 60, .inl (fun _ => 0))), (u 30, .inl (g.2 0, 60, .inl (fun _ => 0))), (u 31, .inl (g.2 4, 3, .inr (.inr (.inr (.inr (va_up (va_up (va_up (fun _ => none) 0 (some (u 40))) 1 (some (u 54))) 2 (some (u 68)))))))), (u 32, .inl (g.2 2, 3, .inl (fun _ => 0))), (u 40, .inr (0, [.int 0, .int 0, .int 0, .int 0, .int 0, .int 0, .int 0, .int 0, .int 0, .int 0, .ref (u 41), .ref (u 42), .ref (u 43), .ref (u 44), .ref (u 45), .ref (u 46), .ref (u 47), .ref (u 48), .ref (u 49), .ref (u 50)])), (u 41, .inl (g.2 0, 8, .inl (fun _ => 0))), (u 42, .inl (g.2 0, 32, .inl (fun _ => 0))), (u 43, .inl (g.2 0, 4, .inl (fun _ => 0))), (u 44, .inl (g.2 0, 4, .inl (fun _ => 0))), (u 45, .inl (g.2 0, 8, .inl (fun _ => 0))), (u 46, .inl (g.2 0, 8, .inl (fun _ => 0))), (u 47, .inl (g.2 0, 4, .inl (fun _ => 0))), (u 48, .inl (g.2 0, 20, .inl (fun _ => 0))), (u 49, .inl (g.2 0, 6, .inl (fun _ => 0))), (u 50, .inr (3, [.ref (u 51), .ref (u 52), .ref (u 53), .int 0])), (u 51, .inl (g.2 0, 60, .inl (fun _ => 0))), (u 52, .inl (g.2 0, 60, .inl (fun _ => 0))), (u 53, .inl (g.2 0, 60, .inl (fun _ => 0))), (u 54, .inr (0, [.int 0, .int 0, .int 0, .int 0, .int 0, .int 0, .int 0, .int 0, .int 0, .int 0, .ref (u 55), .ref (u 56), .ref (u 57), .ref (u 58), .ref (u 59), .ref (u 60), .ref (u 61), .ref (u 62), .ref (u 63), .ref (u 64)])), (u 55, .inl (g.2 0, 8, .inl (fun _ => 0))), (u 56, .inl (g.2 0, 32, .inl (fun _ => 0))), (u 57, .inl (g.2 0, 4, .inl (fun _ => 0))), (u 58, .inl (g.2 0, 4, .inl (fun _ => 0))), (u 59, .inl (g.2 0, 8, .inl (fun _ => 0))), (u 60, .inl (g.2 0, 8, .inl (fun _ => 0))), (u 61, .inl (g.2 0, 4, .inl (fun _ => 0))), (u 62, .inl (g.2 0, 20, .inl (fun _ => 0))), (u 63, .inl (g.2 0, 6, .inl (fun _ => 0))), (u 64, .inr (3, [.ref (u 65), .ref (u 66), .ref (u 67), .int 0])), (u 65, .inl (g.2 0, 60, .inl (fun _ => 0))), (u 66, .inl (g.2 0, 60, .inl (fun _ => 0))), (u 67, .inl (g.2 0, 60, .inl (fun _ => 0))), (u 68, .inr (0, [.int 0, .int 0, .int 0, .int 0, .int 0, .int 0, .int 0, .int 0, .int 0, .int 0, .ref (u 69), .ref (u 70), .ref (u 71), .ref (u 72), .ref (u 73), .ref (u 74), .ref (u 75), .ref (u 76), .ref (u 77), .ref (u 78)])), (u 69, .inl (g.2 0, 8, .inl (fun _ => 0))), (u 70, .inl (g.2 0, 32, .inl (fun _ => 0))), (u 71, .inl (g.2 0, 4, .inl (fun _ => 0))), (u 72, .inl (g.2 0, 4, .inl (fun _ => 0))), (u 73, .inl (g.2 0, 8, .inl (fun _ => 0))), (u 74, .inl (g.2 0, 8, .inl (fun _ => 0))), (u 75, .inl (g.2 0, 4, .inl (fun _ => 0))), (u 76, .inl (g.2 0, 20, .inl (fun _ => 0))), (u 77, .inl (g.2 0, 6, .inl (fun _ => 0))), (u 78, .inr (3, [.ref (u 79), .ref (u 80), .ref (u 81), .int 0])), (u 79, .inl (g.2 0, 60, .inl (fun _ => 0))), (u 80, .inl (g.2 0, 60, .inl (fun _ => 0))), (u 81, .inl (g.2 0, 60, .inl (fun _ => 0))), (u 33, .inl (g.2 5, 4, .inr (.inr (.inr (.inr (va_up (va_up (va_up (va_up (fun _ => none) 0 (some (u 82))) 1 (some (u 83))) 2 (some (u 84))) 3 (some (u 85)))))))), (u 82, .inr (8, [.ref (u 86), .int 0, .int 0, .int 0])), (u 86, .inl (g.2 3, 60, .inr (.inl (fun _ => 0)))), (u 83, .inr (8, [.ref (u 87), .int 0, .int 0, .int 0])), (u 87, .inl (g.2 3, 60, .inr (.inl (fun _ => 0)))), (u 84, .inr (8, [.ref (u 88), .int 0, .int 0, .int 0])), (u 88, .inl (g.2 3, 60, .inr (.inl (fun _ => 0)))), (u 85, .inr (8, [.ref (u 89), .int 0, .int 0, .int 0])), (u 89, .inl (g.2 3, 60, .inr (.inl (fun _ => 0))))]
def WM (g : GG) (h0 : Nat) (u : Nat → Nat) : va_W := [(h0, .inr (12, [.int 0, .ref (u 0), .ref (u 1), .ref (u 2), .ref (u 3), .int 0, .ref (u 4), .int 0, .int 0, .int 0, .int 0, .int 0, .int 0, .int (-1), .ref (u 5), .ref (u 6), .int 0, .int 0, .int 0, .ref (u 7), .ref (u 8), .int 0, .int 0, .ref (u 9), .ref (u 10), .ref (u 11), .ref (u 12), .ref (u 13), .ref (u 14)])), (u 0, .inl (g.2 0, 225, .inl (fun _ => 0))), (u 1, .inl (g.2 0, 675, .inl (fun _ => 0))), (u 2, .inl (g.2 2, 3, .inl (fun _ => 0))), (u 3, .inl (g.2 1, 900, .inl (fun _ => 0))), (u 4, .inl (g.2 0, 5, .inl (fun _ => 0))), (u 5, .inl (g.2 0, 225, .inl (fun _ => 0))), (u 11, .inl (g.2 0, 4, .inl mny)), (u 12, .inl (g.2 0, 4, .inl (fun _ => 0))), (u 13, .inl (g.2 3, 240, .inr (.inl (fun _ => 0))))]
/-- behind a call: the law's loop is over, and it answers true -/
theorem law_end {p : Program} {e : Env} {s : State} {m : MethodId} {below : List Frame} {meth : Method} {c : Code} {l : Launch} {b : Nat} {xs : Nat → Int32} (C0 : lw_At p s m meth c b 6 xs) {H : Heap} {locs : List Loc} {ls : Array Slot} {cells slots qx qm : Nat} (hS : va_S (lA s) s.heap H locs) (hl : lv_has ls 4 [(3, .int 0), (2, .ref qm), (1, .ref qx), (0, .ref b)]) (h1 : cells ≤ 600000) (h2 : slots ≤ 7302250) : W p l e room_1 s m #[Value.ref b] below meth c H locs cells slots (lw_Z below #[Value.ref b] s) (F0 m 2465 ls []) := by
  obtain ⟨hx, hb, hr, hml, hown, hts, hX, hbl, hlocks, hgv⟩ := id C0
  have hbA : ¬ lA s b := Nat.not_le.mpr hbl
  refine lv_iinc (v := 6) (lv' := [(3, .int 6), (2, .ref qm), (1, .ref qx), (0, .ref b)]) hx hb dL_law_2465 hl (k := 0) rfl (by decide) (by decide) rfl (fun ls hl => ?_)
  refine lv_goto (tgt := 18) hx hb dL_law_2468 (by decide) ?_
  refine lv_iload_n hx hb dL_law_18 rfl (lv_at hl 0 rfl) ?_
  refine lv_aload_n hx hb dL_law_19 rfl (lv_at hl 3 rfl) ?_
  refine va_slen hx hb hX hbl hbA hS dL_law_20 ?_
  refine tp_i (v := 6) rfl ?_
  refine lv_bipush (v := 6) hx hb dL_law_21 (by decide) ?_
  refine lv_isub hx hb dL_law_23 ?_
  refine tp_i (v := 0) (by decide) ?_
  refine lv_icmp_gt (tgt := 2471) hx hb dL_law_24 (by decide) (fun _ => ?_) (fun h => absurd h (by decide))
  refine lv_iconst (v := 1) hx hb dL_law_2471 (by decide) ?_
  refine va_forget (fun q hq => hS.2.2 q hq) ?_
  refine W.widen (k := 600000) (n := 7302250) h1 h2 ?_
  exact lw_ret hx hb hr hlocks dL_law_2472
