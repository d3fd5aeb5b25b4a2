/-! what the law calls: its words are the tables' own -/
theorem hw_cons {big a : List Cond} {c : Cond} (h1 : GoodIn big [c]) (h2 : GoodIn big a) : GoodIn big (c :: a) := fun w h => (List.mem_cons.mp h).elim (fun e => h1 w (List.mem_singleton.mpr e)) (h2 w)
set_option maxRecDepth 20000 in
theorem hw_h_wsL_isRefused : GoodIn lw_tbl [.code yL_isRefused cL_isRefused 9 (some .boolean)] := goodIn_r _ [718] (by decide +kernel) (by decide +kernel)
set_option maxRecDepth 20000 in
theorem hw_wsL_isRefused_r1 : GoodIn lw_tbl wsL_isRefused_r1 := goodIn_r _ [730, 719, 720, 47, 721, 722, 723, 724, 725, 726, 727, 728, 729, 308, 309, 310, 48, 311, 272, 304, 305, 306, 307, 273] (by decide +kernel) (by decide +kernel)
set_option maxRecDepth 20000 in
theorem hw_wsL_isRefused_r2 : GoodIn lw_tbl wsL_isRefused_r2 := goodIn_r _ [612, 613, 614, 615, 264, 316, 318, 7, 319, 323, 57, 320, 321, 322, 312, 313, 314, 315, 616, 617, 618, 619, 620, 621] (by decide +kernel) (by decide +kernel)
set_option maxRecDepth 20000 in
theorem hw_wsL_isRefused_r3 : GoodIn lw_tbl wsL_isRefused_r3 := goodIn_r _ [622, 623, 624, 625, 626, 627, 628, 629, 630, 631, 632, 633, 634, 635, 731, 732, 733, 734, 735, 736, 737, 738, 739, 740] (by decide +kernel) (by decide +kernel)
set_option maxRecDepth 20000 in
theorem hw_wsL_isRefused_r4 : GoodIn lw_tbl wsL_isRefused_r4 := goodIn_r _ [741, 414, 415, 416, 417, 266, 420, 51, 9, 421, 175, 422, 423, 424, 425, 658, 659, 660, 661, 265, 395, 396, 397, 398] (by decide +kernel) (by decide +kernel)
set_option maxRecDepth 20000 in
theorem hw_wsL_isRefused_r5 : GoodIn lw_tbl wsL_isRefused_r5 := goodIn_r _ [58, 670, 671, 672, 673, 662, 663, 664, 665, 666, 667, 668, 244, 246, 2, 247, 267, 674, 675, 676, 677, 240, 242, 1] (by decide +kernel) (by decide +kernel)
set_option maxRecDepth 20000 in
theorem hw_wsL_isRefused_r6 : GoodIn lw_tbl wsL_isRefused_r6 := goodIn_r _ [243, 268, 391, 392, 393, 394, 678, 679, 680, 681, 651, 652, 653, 654, 682, 683, 684, 685, 518, 520, 23, 521, 271, 431] (by decide +kernel) (by decide +kernel)
set_option maxRecDepth 20000 in
theorem hw_wsL_isRefused_r7 : GoodIn lw_tbl wsL_isRefused_r7 := goodIn_r _ [432, 433, 434, 435, 436, 437, 438, 252, 254, 4, 255, 274, 275, 276, 258, 5, 259, 176, 177, 179, 181, 182, 262, 50] (by decide +kernel) (by decide +kernel)
set_option maxRecDepth 20000 in
theorem hw_wsL_isRefused_r8 : GoodIn lw_tbl wsL_isRefused_r8 := goodIn_r _ [6, 263, 203, 205, 742, 743, 744, 443, 745, 746, 747, 748, 450, 59, 754, 49, 46, 755, 83, 85, 87, 88, 90, 92] (by decide +kernel) (by decide +kernel)
set_option maxRecDepth 20000 in
theorem hw_wsL_isRefused_r9 : GoodIn lw_tbl wsL_isRefused_r9 := goodIn_r _ [94, 96, 98, 99, 101, 103, 105, 440, 441, 442, 444, 445, 446, 447, 449, 466, 468, 10, 469, 470, 472, 11, 473, 476] (by decide +kernel) (by decide +kernel)
set_option maxRecDepth 20000 in
theorem hw_wsL_isRefused_r10 : GoodIn lw_tbl wsL_isRefused_r10 := goodIn_r _ [12, 477, 478, 480, 13, 481, 484, 14, 485, 174, 488, 15, 489, 492, 16, 493, 494, 496, 17, 497, 500, 18, 501, 502] (by decide +kernel) (by decide +kernel)
set_option maxRecDepth 20000 in
theorem hw_wsL_isRefused_r11 : GoodIn lw_tbl wsL_isRefused_r11 := goodIn_r _ [504, 19, 505, 506, 508, 20, 509, 269, 510, 512, 21, 513, 514, 516, 22, 517, 522, 524, 24, 525, 528, 25, 529, 530] (by decide +kernel) (by decide +kernel)
set_option maxRecDepth 20000 in
theorem hw_wsL_isRefused_r12 : GoodIn lw_tbl wsL_isRefused_r12 := goodIn_r _ [531, 60, 532, 533, 534, 535, 536, 538, 26, 539, 270, 540, 542, 27, 543, 544, 546, 28, 547, 550, 53, 29, 551, 225] (by decide +kernel) (by decide +kernel)
set_option maxRecDepth 20000 in
theorem hw_wsL_isRefused_r13 : GoodIn lw_tbl wsL_isRefused_r13 := goodIn_r _ [227, 554, 30, 555, 556, 558, 31, 559, 562, 32, 563, 223, 567, 33, 568, 571, 52, 34, 572, 153, 156, 159, 162, 574] (by decide +kernel) (by decide +kernel)
set_option maxRecDepth 20000 in
theorem hw_wsL_isRefused_r14 : GoodIn lw_tbl wsL_isRefused_r14 := goodIn_r _ [576, 35, 577, 578, 580, 36, 581, 582, 584, 37, 585, 588, 38, 589, 592, 39, 593, 594, 595, 596, 598, 40, 599, 600] (by decide +kernel) (by decide +kernel)
set_option maxRecDepth 20000 in
theorem hw_wsL_isRefused_r15 : GoodIn lw_tbl wsL_isRefused_r15 := goodIn_r _ [602, 41, 603, 756, 757, 758, 759, 760, 761, 762, 764, 765, 766, 767, 768, 769, 770, 687, 688, 689, 608, 609, 610, 611] (by decide +kernel) (by decide +kernel)
set_option maxRecDepth 20000 in
theorem hw_wsX50 : GoodIn lw_tbl wsX50 := goodIn_of _ (by decide +kernel)
set_option maxRecDepth 20000 in
theorem hw_wsX00 : GoodIn lw_tbl wsX00 := goodIn_of _ (by decide +kernel)
set_option maxRecDepth 20000 in
theorem hw_wsX20 : GoodIn lw_tbl wsX20 := goodIn_of _ (by decide +kernel)
set_option maxRecDepth 20000 in
theorem hw_wsX10 : GoodIn lw_tbl wsX10 := goodIn_of _ (by decide +kernel)
set_option maxRecDepth 20000 in
theorem hw_wsX40 : GoodIn lw_tbl wsX40 := goodIn_of _ (by decide +kernel)
set_option maxRecDepth 20000 in
theorem hw_wsX30 : GoodIn lw_tbl wsX30 := goodIn_of _ (by decide +kernel)
set_option maxRecDepth 20000 in
theorem hw_at_338 : GoodIn lw_tbl ((vx_atS RX5 338 "java/lang/IndexOutOfBoundsException" ["java/lang/RuntimeException", "java/lang/Exception"]).filter goodWord) := goodIn_of _ (by decide +kernel)
set_option maxRecDepth 20000 in
theorem hw_at_111 : GoodIn lw_tbl ((vx_atS RX5 111 "java/lang/IllegalArgumentException" ["java/lang/RuntimeException", "java/lang/Exception"]).filter goodWord) := goodIn_of _ (by decide +kernel)
set_option maxRecDepth 20000 in
theorem hw_at_125 : GoodIn lw_tbl ((vx_atS RX5 125 "java/lang/IllegalStateException" ["java/lang/RuntimeException", "java/lang/Exception"]).filter goodWord) := goodIn_of _ (by decide +kernel)
set_option maxRecDepth 20000 in
theorem hg_wsL_isRefused : GoodIn lw_tbl wsL_isRefused := hw_cons hw_h_wsL_isRefused (goodIn_app (goodIn_app (goodIn_app (goodIn_app (goodIn_app (goodIn_app (goodIn_app (goodIn_app (goodIn_app (goodIn_app hw_wsL_isRefused_r1 (goodIn_app hw_wsL_isRefused_r2 (goodIn_app hw_wsL_isRefused_r3 (goodIn_app hw_wsL_isRefused_r4 (goodIn_app hw_wsL_isRefused_r5 (goodIn_app hw_wsL_isRefused_r6 (goodIn_app hw_wsL_isRefused_r7 (goodIn_app hw_wsL_isRefused_r8 (goodIn_app hw_wsL_isRefused_r9 (goodIn_app hw_wsL_isRefused_r10 (goodIn_app hw_wsL_isRefused_r11 (goodIn_app hw_wsL_isRefused_r12 (goodIn_app hw_wsL_isRefused_r13 (goodIn_app hw_wsL_isRefused_r14 hw_wsL_isRefused_r15)))))))))))))) hw_wsX50) hw_wsX00) hw_wsX20) hw_wsX10) hw_wsX40) hw_wsX30) hw_at_338) hw_at_111) hw_at_125)
set_option maxRecDepth 20000 in
theorem hL_isRefused : GoodIn lw_tbl (va_wsS RL 177 yL_isRefused wsL_isRefused) := goodIn_app (goodIn_of _ (by decide +kernel)) hg_wsL_isRefused
set_option maxRecDepth 20000 in
theorem hw_h_wsL_dice : GoodIn lw_tbl [.code yL_dice cL_dice 2 (some .int)] := goodIn_r _ [428] (by decide +kernel) (by decide +kernel)
set_option maxRecDepth 20000 in
theorem hw_i30 : GoodIn lw_tbl ([.constant RL 7 (608135816), .constant RL 8 (2147483647)] : List Cond) := goodIn_r _ [429, 430] (by decide +kernel) (by decide +kernel)
set_option maxRecDepth 20000 in
theorem hg_wsL_dice : GoodIn lw_tbl wsL_dice := hw_cons hw_h_wsL_dice hw_i30
set_option maxRecDepth 20000 in
theorem hL_dice : GoodIn lw_tbl (va_wsS RL 181 yL_dice wsL_dice) := goodIn_app (goodIn_of _ (by decide +kernel)) hg_wsL_dice
set_option maxRecDepth 20000 in
theorem hw_h_wsL_reset : GoodIn lw_tbl [.codeWith yL_reset cL_reset 5 (some .int) [(0, 8, 9, 15)]] := goodIn_r _ [433] (by decide +kernel) (by decide +kernel)
set_option maxRecDepth 20000 in
theorem hw_wsL_reset_r1 : GoodIn lw_tbl wsL_reset_r1 := goodIn_r _ [434, 435, 436, 437, 48, 438, 398, 58, 320, 321, 322, 252, 254, 4, 255, 274, 275, 276, 272, 273, 266, 265, 271, 258] (by decide +kernel) (by decide +kernel)
set_option maxRecDepth 20000 in
theorem hw_wsL_reset_r2 : GoodIn lw_tbl wsL_reset_r2 := goodIn_r _ [51, 5, 259, 175, 176, 177, 179, 181, 182, 262, 50, 6, 263, 203, 205] (by decide +kernel) (by decide +kernel)
set_option maxRecDepth 20000 in
theorem hg_wsL_reset : GoodIn lw_tbl wsL_reset := hw_cons hw_h_wsL_reset (goodIn_app (goodIn_app (goodIn_app (goodIn_app (goodIn_app hw_wsL_reset_r1 hw_wsL_reset_r2) hw_wsX50) hw_wsX20) hw_wsX10) hw_at_111)
set_option maxRecDepth 20000 in
theorem hL_reset : GoodIn lw_tbl (va_wsS RL 164 yL_reset wsL_reset) := goodIn_app (goodIn_of _ (by decide +kernel)) hg_wsL_reset
set_option maxRecDepth 20000 in
theorem hw_h_wsL_isAdded : GoodIn lw_tbl [.code yL_isAdded cL_isAdded 11 (some .boolean)] := goodIn_r _ [777] (by decide +kernel) (by decide +kernel)
set_option maxRecDepth 20000 in
theorem hw_wsL_isAdded_r1 : GoodIn lw_tbl wsL_isAdded_r1 := goodIn_r _ [308, 309, 310, 48, 311, 272, 304, 305, 306, 307, 273, 731, 732, 47, 733, 734, 735, 727, 736, 737, 738, 739, 740, 741] (by decide +kernel) (by decide +kernel)
set_option maxRecDepth 20000 in
theorem hw_wsL_isAdded_r2 : GoodIn lw_tbl wsL_isAdded_r2 := goodIn_r _ [414, 415, 416, 417, 266, 420, 51, 9, 421, 175, 422, 423, 424, 425, 658, 659, 660, 661, 265, 395, 396, 397, 398, 58] (by decide +kernel) (by decide +kernel)
set_option maxRecDepth 20000 in
theorem hw_wsL_isAdded_r3 : GoodIn lw_tbl wsL_isAdded_r3 := goodIn_r _ [320, 321, 322, 670, 671, 672, 673, 662, 663, 664, 665, 666, 667, 668, 244, 246, 2, 247, 267, 674, 675, 676, 677, 240] (by decide +kernel) (by decide +kernel)
set_option maxRecDepth 20000 in
theorem hw_wsL_isAdded_r4 : GoodIn lw_tbl wsL_isAdded_r4 := goodIn_r _ [242, 1, 243, 268, 391, 392, 393, 394, 678, 679, 680, 681, 651, 652, 653, 654, 682, 683, 684, 685, 518, 520, 23, 521] (by decide +kernel) (by decide +kernel)
set_option maxRecDepth 20000 in
theorem hw_wsL_isAdded_r5 : GoodIn lw_tbl wsL_isAdded_r5 := goodIn_r _ [271, 742, 743, 744, 434, 443, 745, 746, 747, 748, 450, 59, 264, 754, 49, 46, 755, 83, 85, 87, 88, 90, 92, 94] (by decide +kernel) (by decide +kernel)
set_option maxRecDepth 20000 in
theorem hw_wsL_isAdded_r6 : GoodIn lw_tbl wsL_isAdded_r6 := goodIn_r _ [96, 98, 99, 101, 103, 105, 612, 613, 614, 615, 316, 318, 7, 319, 323, 57, 624, 625, 626, 627, 632, 633, 634, 635] (by decide +kernel) (by decide +kernel)
set_option maxRecDepth 20000 in
theorem hg_wsL_isAdded : GoodIn lw_tbl wsL_isAdded := hw_cons hw_h_wsL_isAdded (goodIn_app (goodIn_app (goodIn_app (goodIn_app (goodIn_app (goodIn_app (goodIn_app (goodIn_app hw_wsL_isAdded_r1 (goodIn_app hw_wsL_isAdded_r2 (goodIn_app hw_wsL_isAdded_r3 (goodIn_app hw_wsL_isAdded_r4 (goodIn_app hw_wsL_isAdded_r5 hw_wsL_isAdded_r6))))) hw_wsX50) hw_wsX20) hw_wsX10) hw_wsX00) hw_at_111) hw_at_125) hw_at_338)
set_option maxRecDepth 20000 in
theorem hL_isAdded : GoodIn lw_tbl (va_wsS RL 184 yL_isAdded wsL_isAdded) := goodIn_app (goodIn_of _ (by decide +kernel)) hg_wsL_isAdded
set_option maxRecDepth 20000 in
theorem hw_h_wsL_isCutting : GoodIn lw_tbl [.code yL_isCutting cL_isCutting 13 (some .boolean)] := goodIn_r _ [780] (by decide +kernel) (by decide +kernel)
set_option maxRecDepth 20000 in
theorem hw_wsL_isCutting_r1 : GoodIn lw_tbl wsL_isCutting_r1 := goodIn_r _ [662, 663, 664, 48, 665, 666, 667, 668, 398, 58, 320, 321, 322, 244, 246, 2, 247, 267, 674, 675, 676, 677, 240, 242] (by decide +kernel) (by decide +kernel)
set_option maxRecDepth 20000 in
theorem hw_wsL_isCutting_r2 : GoodIn lw_tbl wsL_isCutting_r2 := goodIn_r _ [1, 243, 268, 719, 720, 47, 721, 722, 723, 724, 725, 726, 727, 728, 729, 730, 308, 309, 310, 311, 272, 304, 305, 306] (by decide +kernel) (by decide +kernel)
set_option maxRecDepth 20000 in
theorem hw_wsL_isCutting_r3 : GoodIn lw_tbl wsL_isCutting_r3 := goodIn_r _ [307, 273, 612, 613, 614, 615, 264, 316, 318, 7, 319, 323, 57, 312, 313, 314, 315, 616, 617, 618, 619, 620, 621, 622] (by decide +kernel) (by decide +kernel)
set_option maxRecDepth 20000 in
theorem hw_wsL_isCutting_r4 : GoodIn lw_tbl wsL_isCutting_r4 := goodIn_r _ [623, 624, 625, 626, 627, 628, 629, 630, 631, 632, 633, 634, 635, 756, 757, 758, 434, 443, 759, 760, 761, 762, 450, 59] (by decide +kernel) (by decide +kernel)
set_option maxRecDepth 20000 in
theorem hw_wsL_isCutting_r5 : GoodIn lw_tbl wsL_isCutting_r5 := goodIn_r _ [271, 502, 504, 19, 505, 764, 765, 766, 767, 768, 769, 770, 530, 531, 60, 532, 533, 534, 535] (by decide +kernel) (by decide +kernel)
set_option maxRecDepth 20000 in
theorem hg_wsL_isCutting : GoodIn lw_tbl wsL_isCutting := hw_cons hw_h_wsL_isCutting (goodIn_app (goodIn_app (goodIn_app (goodIn_app (goodIn_app (goodIn_app (goodIn_app hw_wsL_isCutting_r1 (goodIn_app hw_wsL_isCutting_r2 (goodIn_app hw_wsL_isCutting_r3 (goodIn_app hw_wsL_isCutting_r4 hw_wsL_isCutting_r5)))) hw_wsX20) hw_wsX50) hw_wsX00) hw_at_111) hw_at_338) hw_at_125)
set_option maxRecDepth 20000 in
theorem hL_isCutting : GoodIn lw_tbl (va_wsS RL 188 yL_isCutting wsL_isCutting) := goodIn_app (goodIn_of _ (by decide +kernel)) hg_wsL_isCutting
set_option maxRecDepth 20000 in
theorem hw_h_wsL_isTick : GoodIn lw_tbl [.code yL_isTick cL_isTick 12 (some .boolean)] := goodIn_r _ [774] (by decide +kernel) (by decide +kernel)
set_option maxRecDepth 20000 in
theorem hw_wsL_isTick_r1 : GoodIn lw_tbl wsL_isTick_r1 := goodIn_r _ [304, 305, 306, 48, 307, 273, 414, 415, 416, 417, 266, 420, 51, 9, 421, 175, 422, 423, 424, 425, 308, 309, 310, 311] (by decide +kernel) (by decide +kernel)
set_option maxRecDepth 20000 in
theorem hw_wsL_isTick_r2 : GoodIn lw_tbl wsL_isTick_r2 := goodIn_r _ [272, 612, 613, 614, 615, 264, 316, 318, 7, 319, 323, 57, 320, 321, 322, 616, 617, 618, 619, 312, 313, 314, 315, 670] (by decide +kernel) (by decide +kernel)
set_option maxRecDepth 20000 in
theorem hw_wsL_isTick_r3 : GoodIn lw_tbl wsL_isTick_r3 := goodIn_r _ [671, 672, 673, 265, 395, 396, 397, 398, 58, 440, 441, 47, 442, 434, 443, 444, 445, 446, 447, 450, 59, 449, 466, 468] (by decide +kernel) (by decide +kernel)
set_option maxRecDepth 20000 in
theorem hw_wsL_isTick_r4 : GoodIn lw_tbl wsL_isTick_r4 := goodIn_r _ [10, 469, 274, 470, 472, 11, 473, 476, 12, 477, 179, 478, 480, 13, 481, 484, 14, 485, 174, 176, 488, 49, 15, 489] (by decide +kernel) (by decide +kernel)
set_option maxRecDepth 20000 in
theorem hw_wsL_isTick_r5 : GoodIn lw_tbl wsL_isTick_r5 := goodIn_r _ [92, 98, 96, 87, 99, 492, 16, 493, 177, 494, 496, 17, 497, 244, 246, 2, 247, 267, 500, 18, 501, 85, 502, 504] (by decide +kernel) (by decide +kernel)
set_option maxRecDepth 20000 in
theorem hw_wsL_isTick_r6 : GoodIn lw_tbl wsL_isTick_r6 := goodIn_r _ [19, 505, 271, 506, 508, 20, 509, 269, 510, 512, 21, 513, 514, 516, 22, 517, 518, 520, 23, 521, 522, 524, 24, 525] (by decide +kernel) (by decide +kernel)
set_option maxRecDepth 20000 in
theorem hw_wsL_isTick_r7 : GoodIn lw_tbl wsL_isTick_r7 := goodIn_r _ [528, 25, 529, 83, 530, 531, 60, 532, 533, 534, 535, 536, 538, 26, 539, 270, 540, 542, 27, 543, 544, 546, 28, 547] (by decide +kernel) (by decide +kernel)
set_option maxRecDepth 20000 in
theorem hw_wsL_isTick_r8 : GoodIn lw_tbl wsL_isTick_r8 := goodIn_r _ [550, 53, 29, 551, 225, 227, 554, 30, 555, 182, 181, 556, 558, 31, 559, 562, 32, 563, 223, 567, 33, 568, 571, 52] (by decide +kernel) (by decide +kernel)
set_option maxRecDepth 20000 in
theorem hw_wsL_isTick_r9 : GoodIn lw_tbl wsL_isTick_r9 := goodIn_r _ [34, 572, 153, 156, 159, 162, 574, 576, 35, 577, 578, 580, 36, 581, 582, 584, 37, 585, 276, 588, 38, 589, 90, 94] (by decide +kernel) (by decide +kernel)
set_option maxRecDepth 20000 in
theorem hw_wsL_isTick_r10 : GoodIn lw_tbl wsL_isTick_r10 := goodIn_r _ [592, 39, 593, 594, 595, 596, 598, 40, 599, 600, 602, 41, 603, 275] (by decide +kernel) (by decide +kernel)
set_option maxRecDepth 20000 in
theorem hg_wsL_isTick : GoodIn lw_tbl wsL_isTick := hw_cons hw_h_wsL_isTick (goodIn_app (goodIn_app (goodIn_app (goodIn_app (goodIn_app (goodIn_app (goodIn_app (goodIn_app (goodIn_app (goodIn_app hw_wsL_isTick_r1 (goodIn_app hw_wsL_isTick_r2 (goodIn_app hw_wsL_isTick_r3 (goodIn_app hw_wsL_isTick_r4 (goodIn_app hw_wsL_isTick_r5 (goodIn_app hw_wsL_isTick_r6 (goodIn_app hw_wsL_isTick_r7 (goodIn_app hw_wsL_isTick_r8 (goodIn_app hw_wsL_isTick_r9 hw_wsL_isTick_r10))))))))) hw_wsX50) hw_wsX20) hw_wsX00) hw_wsX10) hw_wsX40) hw_wsX30) hw_at_338) hw_at_111) hw_at_125)
set_option maxRecDepth 20000 in
theorem hL_isTick : GoodIn lw_tbl (va_wsS RL 192 yL_isTick wsL_isTick) := goodIn_app (goodIn_of _ (by decide +kernel)) hg_wsL_isTick
set_option maxRecDepth 20000 in
theorem hw_h_wsL_areFlows : GoodIn lw_tbl [.code yL_areFlows cL_areFlows 9 (some .boolean)] := goodIn_r _ [607] (by decide +kernel) (by decide +kernel)
set_option maxRecDepth 20000 in
theorem hw_wsL_areFlows_r1 : GoodIn lw_tbl wsL_areFlows_r1 := goodIn_r _ [304, 305, 306, 48, 307, 273, 308, 309, 310, 311, 272, 608, 609, 47, 610, 611, 612, 613, 614, 615, 264, 316, 318, 7] (by decide +kernel) (by decide +kernel)
set_option maxRecDepth 20000 in
theorem hw_wsL_areFlows_r2 : GoodIn lw_tbl wsL_areFlows_r2 := goodIn_r _ [319, 323, 57, 320, 321, 322, 312, 313, 314, 315, 616, 617, 618, 619, 620, 621, 622, 623, 624, 625, 626, 627, 628, 629] (by decide +kernel) (by decide +kernel)
set_option maxRecDepth 20000 in
theorem hw_wsL_areFlows_r3 : GoodIn lw_tbl wsL_areFlows_r3 := goodIn_r _ [630, 631, 632, 633, 634, 635, 636, 637, 638, 639, 640, 641, 642, 643, 644, 645, 646, 647, 648, 649, 650, 651, 652, 653] (by decide +kernel) (by decide +kernel)
set_option maxRecDepth 20000 in
theorem hw_wsL_areFlows_r4 : GoodIn lw_tbl wsL_areFlows_r4 := goodIn_r _ [654, 265, 395, 396, 397, 398, 58] (by decide +kernel) (by decide +kernel)
set_option maxRecDepth 20000 in
theorem hg_wsL_areFlows : GoodIn lw_tbl wsL_areFlows := hw_cons hw_h_wsL_areFlows (goodIn_app (goodIn_app (goodIn_app (goodIn_app (goodIn_app (goodIn_app hw_wsL_areFlows_r1 (goodIn_app hw_wsL_areFlows_r2 (goodIn_app hw_wsL_areFlows_r3 hw_wsL_areFlows_r4))) hw_wsX50) hw_wsX00) hw_wsX10) hw_at_338) hw_at_111)
set_option maxRecDepth 20000 in
theorem hL_areFlows : GoodIn lw_tbl (va_wsS RL 196 yL_areFlows wsL_areFlows) := goodIn_app (goodIn_of _ (by decide +kernel)) hg_wsL_areFlows
set_option maxRecDepth 20000 in
theorem hw_h_wsL_pass : GoodIn lw_tbl [.codeWith yL_pass cL_pass 3 (some .int) [(0, 5, 6, 15), (0, 5, 10, 21)]] := goodIn_r _ [442] (by decide +kernel) (by decide +kernel)
set_option maxRecDepth 20000 in
theorem hw_wsL_pass_r1 : GoodIn lw_tbl wsL_pass_r1 := goodIn_r _ [434, 443, 444, 445, 446, 48, 447, 398, 58, 450, 59, 273, 449, 320, 321, 322, 466, 468, 10, 469, 274, 470, 472, 11] (by decide +kernel) (by decide +kernel)
set_option maxRecDepth 20000 in
theorem hw_wsL_pass_r2 : GoodIn lw_tbl wsL_pass_r2 := goodIn_r _ [473, 266, 476, 51, 12, 477, 179, 175, 478, 480, 13, 481, 265, 264, 484, 14, 485, 174, 176, 488, 49, 15, 489, 92] (by decide +kernel) (by decide +kernel)
set_option maxRecDepth 20000 in
theorem hw_wsL_pass_r3 : GoodIn lw_tbl wsL_pass_r3 := goodIn_r _ [98, 96, 87, 99, 492, 16, 493, 177, 494, 496, 17, 497, 244, 246, 2, 247, 267, 500, 18, 501, 85, 502, 504, 19] (by decide +kernel) (by decide +kernel)
set_option maxRecDepth 20000 in
theorem hw_wsL_pass_r4 : GoodIn lw_tbl wsL_pass_r4 := goodIn_r _ [505, 271, 506, 508, 20, 509, 269, 510, 512, 21, 513, 514, 516, 22, 517, 518, 520, 23, 521, 522, 524, 24, 525, 528] (by decide +kernel) (by decide +kernel)
set_option maxRecDepth 20000 in
theorem hw_wsL_pass_r5 : GoodIn lw_tbl wsL_pass_r5 := goodIn_r _ [25, 529, 83, 530, 531, 60, 532, 533, 534, 535, 536, 538, 26, 539, 270, 540, 542, 27, 543, 544, 546, 28, 547, 550] (by decide +kernel) (by decide +kernel)
set_option maxRecDepth 20000 in
theorem hw_wsL_pass_r6 : GoodIn lw_tbl wsL_pass_r6 := goodIn_r _ [53, 29, 551, 225, 227, 554, 30, 555, 182, 181, 556, 558, 31, 559, 562, 32, 563, 223, 567, 33, 568, 571, 52, 34] (by decide +kernel) (by decide +kernel)
set_option maxRecDepth 20000 in
theorem hw_wsL_pass_r7 : GoodIn lw_tbl wsL_pass_r7 := goodIn_r _ [572, 153, 156, 159, 162, 574, 576, 35, 577, 578, 580, 36, 581, 272, 582, 584, 37, 585, 276, 588, 38, 589, 90, 94] (by decide +kernel) (by decide +kernel)
set_option maxRecDepth 20000 in
theorem hw_wsL_pass_r8 : GoodIn lw_tbl wsL_pass_r8 := goodIn_r _ [592, 39, 593, 594, 595, 596, 598, 40, 599, 600, 602, 41, 603, 275] (by decide +kernel) (by decide +kernel)
set_option maxRecDepth 20000 in
theorem hg_wsL_pass : GoodIn lw_tbl wsL_pass := hw_cons hw_h_wsL_pass (goodIn_app (goodIn_app (goodIn_app (goodIn_app (goodIn_app (goodIn_app (goodIn_app (goodIn_app (goodIn_app hw_wsL_pass_r1 (goodIn_app hw_wsL_pass_r2 (goodIn_app hw_wsL_pass_r3 (goodIn_app hw_wsL_pass_r4 (goodIn_app hw_wsL_pass_r5 (goodIn_app hw_wsL_pass_r6 (goodIn_app hw_wsL_pass_r7 hw_wsL_pass_r8))))))) hw_wsX50) hw_wsX20) hw_wsX10) hw_wsX40) hw_wsX00) hw_wsX30) hw_at_111) hw_at_125)
set_option maxRecDepth 20000 in
theorem hL_pass : GoodIn lw_tbl (va_wsS RL 169 yL_pass wsL_pass) := goodIn_app (goodIn_of _ (by decide +kernel)) hg_wsL_pass
set_option maxRecDepth 20000 in
theorem hw_h_wsL_areLinks : GoodIn lw_tbl [.code yL_areLinks cL_areLinks 13 (some .boolean)] := goodIn_r _ [657] (by decide +kernel) (by decide +kernel)
set_option maxRecDepth 20000 in
theorem hw_wsL_areLinks_r1 : GoodIn lw_tbl wsL_areLinks_r1 := goodIn_r _ [658, 659, 660, 48, 661, 265, 395, 396, 397, 398, 58, 320, 321, 322, 662, 663, 664, 665, 666, 667, 668, 244, 246, 2] (by decide +kernel) (by decide +kernel)
set_option maxRecDepth 20000 in
theorem hw_wsL_areLinks_r2 : GoodIn lw_tbl wsL_areLinks_r2 := goodIn_r _ [247, 267, 670, 671, 672, 673, 674, 675, 676, 677, 240, 242, 1, 243, 268, 651, 652, 653, 654, 391, 392, 393, 394, 678] (by decide +kernel) (by decide +kernel)
set_option maxRecDepth 20000 in
theorem hw_wsL_areLinks_r3 : GoodIn lw_tbl wsL_areLinks_r3 := goodIn_r _ [679, 680, 681, 682, 683, 684, 685, 518, 520, 23, 521, 271, 687, 688, 47, 689, 434, 422, 423, 424, 425, 266, 414, 415] (by decide +kernel) (by decide +kernel)
set_option maxRecDepth 20000 in
theorem hw_wsL_areLinks_r4 : GoodIn lw_tbl wsL_areLinks_r4 := goodIn_r _ [416, 417, 420, 51, 9, 421, 175] (by decide +kernel) (by decide +kernel)
set_option maxRecDepth 20000 in
theorem hg_wsL_areLinks : GoodIn lw_tbl wsL_areLinks := hw_cons hw_h_wsL_areLinks (goodIn_app (goodIn_app (goodIn_app (goodIn_app (goodIn_app hw_wsL_areLinks_r1 (goodIn_app hw_wsL_areLinks_r2 (goodIn_app hw_wsL_areLinks_r3 hw_wsL_areLinks_r4))) hw_wsX50) hw_wsX10) hw_wsX20) hw_at_111)
set_option maxRecDepth 20000 in
theorem hL_areLinks : GoodIn lw_tbl (va_wsS RL 199 yL_areLinks wsL_areLinks) := goodIn_app (goodIn_of _ (by decide +kernel)) hg_wsL_areLinks
set_option maxRecDepth 20000 in
theorem hw_h_wsL_isLeast : GoodIn lw_tbl [.code yL_isLeast cL_isLeast 10 (some .boolean)] := goodIn_r _ [692] (by decide +kernel) (by decide +kernel)
set_option maxRecDepth 20000 in
theorem hw_wsL_isLeast_r1 : GoodIn lw_tbl wsL_isLeast_r1 := goodIn_r _ [693, 694, 695, 48, 696, 705, 706, 61, 707, 271, 697, 699, 42, 700, 272, 264, 588, 49, 38, 589, 87, 90, 94, 701] (by decide +kernel) (by decide +kernel)
set_option maxRecDepth 20000 in
theorem hw_wsL_isLeast_r2 : GoodIn lw_tbl wsL_isLeast_r2 := goodIn_r _ [703, 43, 704, 708, 710, 44, 711, 592, 39, 593, 594, 528, 25, 529, 83, 595, 500, 18, 501, 85, 712, 714, 45, 715] (by decide +kernel) (by decide +kernel)
set_option maxRecDepth 20000 in
theorem hw_wsL_isLeast_r3 : GoodIn lw_tbl wsL_isLeast_r3 := goodIn_r _ [530, 531, 60, 532, 533, 534, 535, 308, 309, 310, 311, 636, 637, 47, 638, 612, 613, 614, 615, 316, 318, 7, 319, 323] (by decide +kernel) (by decide +kernel)
set_option maxRecDepth 20000 in
theorem hw_wsL_isLeast_r4 : GoodIn lw_tbl wsL_isLeast_r4 := goodIn_r _ [57, 320, 321, 322, 616, 617, 618, 619, 645, 646, 647, 648, 649, 650, 642, 643, 644] (by decide +kernel) (by decide +kernel)
set_option maxRecDepth 20000 in
theorem hg_wsL_isLeast : GoodIn lw_tbl wsL_isLeast := hw_cons hw_h_wsL_isLeast (goodIn_app (goodIn_app (goodIn_app (goodIn_app hw_wsL_isLeast_r1 (goodIn_app hw_wsL_isLeast_r2 (goodIn_app hw_wsL_isLeast_r3 hw_wsL_isLeast_r4))) hw_wsX50) hw_wsX00) hw_at_338)
set_option maxRecDepth 20000 in
theorem hL_isLeast : GoodIn lw_tbl (va_wsS RL 203 yL_isLeast wsL_isLeast) := goodIn_app (goodIn_of _ (by decide +kernel)) hg_wsL_isLeast
set_option maxRecDepth 20000 in
theorem hw_h_wsX5_clock : GoodIn lw_tbl [.code yX5_clock cX5_clock 1 (some .int)] := goodIn_r _ [307] (by decide +kernel) (by decide +kernel)
set_option maxRecDepth 20000 in
theorem hw_i101 : GoodIn lw_tbl ([.fieldLink RX5 96 "Fabricsim" "nextTick" "I"] : List Cond) := goodIn_r _ [273] (by decide +kernel) (by decide +kernel)
set_option maxRecDepth 20000 in
theorem hg_wsX5_clock : GoodIn lw_tbl wsX5_clock := hw_cons hw_h_wsX5_clock (goodIn_app hw_i101 hw_wsX50)
set_option maxRecDepth 20000 in
theorem hX_clock : GoodIn lw_tbl (wsV RL 98 RX5 yX5_clock wsX5_clock) := goodIn_app (goodIn_of _ (by decide +kernel)) hg_wsX5_clock
set_option maxRecDepth 20000 in
theorem hw_h_wsX5_flows : GoodIn lw_tbl [.code yX5_flows cX5_flows 1 (some .int)] := goodIn_r _ [311] (by decide +kernel) (by decide +kernel)
set_option maxRecDepth 20000 in
theorem hw_i105 : GoodIn lw_tbl ([.fieldLink RX5 93 "Fabricsim" "flowCount" "I"] : List Cond) := goodIn_r _ [272] (by decide +kernel) (by decide +kernel)
set_option maxRecDepth 20000 in
theorem hg_wsX5_flows : GoodIn lw_tbl wsX5_flows := hw_cons hw_h_wsX5_flows (goodIn_app hw_i105 hw_wsX50)
set_option maxRecDepth 20000 in
theorem hX_flows : GoodIn lw_tbl (wsV RL 92 RX5 yX5_flows wsX5_flows) := goodIn_app (goodIn_of _ (by decide +kernel)) hg_wsX5_flows
set_option maxRecDepth 20000 in
theorem hw_h_wsX5_queued : GoodIn lw_tbl [.code yX5_queued cX5_queued 3 (some .int)] := goodIn_r _ [425] (by decide +kernel) (by decide +kernel)
set_option maxRecDepth 20000 in
theorem hw_i109 : GoodIn lw_tbl ([.fieldLink RX5 23 "Fabricsim" "links" "[LFabricsim$Link;"] : List Cond) := goodIn_r _ [266] (by decide +kernel) (by decide +kernel)
set_option maxRecDepth 20000 in
theorem hg_wsX5_queued : GoodIn lw_tbl wsX5_queued := hw_cons hw_h_wsX5_queued (goodIn_app (goodIn_app hw_i109 hw_wsX50) hw_wsX20)
set_option maxRecDepth 20000 in
theorem hX_queued : GoodIn lw_tbl (wsV RL 120 RX5 yX5_queued wsX5_queued) := goodIn_app (goodIn_of _ (by decide +kernel)) hg_wsX5_queued
set_option maxRecDepth 20000 in
theorem hw_h_wsX5_returning : GoodIn lw_tbl [.code yX5_returning cX5_returning 3 (some .int)] := goodIn_r _ [417] (by decide +kernel) (by decide +kernel)
set_option maxRecDepth 20000 in
theorem hw_i113 : GoodIn lw_tbl ([.fieldLink RX5 23 "Fabricsim" "links" "[LFabricsim$Link;", .instanceMethod yX2_onTheWayBack, .initialized RX2, .selects RX2 yX2_onTheWayBack yX2_onTheWayBack, .code yX2_onTheWayBack cX2_onTheWayBack 3 (some .int), .fieldLink RX2 17 "Fabricsim$Link" "backInSlot" "[I"] : List Cond) := goodIn_r _ [266, 420, 51, 9, 421, 175] (by decide +kernel) (by decide +kernel)
set_option maxRecDepth 20000 in
theorem hg_wsX5_returning : GoodIn lw_tbl wsX5_returning := hw_cons hw_h_wsX5_returning (goodIn_app (goodIn_app hw_i113 hw_wsX50) hw_wsX20)
set_option maxRecDepth 20000 in
theorem hX_returning : GoodIn lw_tbl (wsV RL 117 RX5 yX5_returning wsX5_returning) := goodIn_app (goodIn_of _ (by decide +kernel)) hg_wsX5_returning
set_option maxRecDepth 20000 in
theorem hw_h_wsX5_upCredits : GoodIn lw_tbl [.code yX5_upCredits cX5_upCredits 2 (some .int)] := goodIn_r _ [394] (by decide +kernel) (by decide +kernel)
set_option maxRecDepth 20000 in
theorem hw_i117 : GoodIn lw_tbl ([.fieldLink RX5 17 "Fabricsim" "hosts" "[LFabricsim$Host;", .methodLink RX5 114 yX5_checkHost, .static yX5_checkHost, .initialized RX5, .code yX5_checkHost cX5_checkHost 1 none, .classLink RX5 107 "java/lang/IllegalArgumentException", .initialized "java/lang/IllegalArgumentException", .methodLink RX5 103 yX5_isOutside, .static yX5_isOutside, .code yX5_isOutside cX5_isOutside 3 (some .boolean)] : List Cond) := goodIn_r _ [265, 395, 396, 48, 397, 398, 58, 320, 321, 322] (by decide +kernel) (by decide +kernel)
set_option maxRecDepth 20000 in
theorem hg_wsX5_upCredits : GoodIn lw_tbl wsX5_upCredits := hw_cons hw_h_wsX5_upCredits (goodIn_app (goodIn_app (goodIn_app (goodIn_app hw_i117 hw_wsX50) hw_wsX10) hw_wsX20) hw_at_111)
set_option maxRecDepth 20000 in
theorem hX_upCredits : GoodIn lw_tbl (wsV RL 63 RX5 yX5_upCredits wsX5_upCredits) := goodIn_app (goodIn_of _ (by decide +kernel)) hg_wsX5_upCredits
set_option maxRecDepth 20000 in
theorem hw_h_wsX5_delivered : GoodIn lw_tbl [.code yX5_delivered cX5_delivered 2 (some .int)] := goodIn_r _ [315] (by decide +kernel) (by decide +kernel)
set_option maxRecDepth 20000 in
theorem hw_i121 : GoodIn lw_tbl ([.fieldLink RX5 11 "Fabricsim" "flowRows" "[LFabricsim$Flow;", .methodLink RX5 158 yX5_checkFlow, .instanceMethod yX5_checkFlow, .selects RX5 yX5_checkFlow yX5_checkFlow, .initialized RX5, .code yX5_checkFlow cX5_checkFlow 2 none, .classLink RX5 334 "java/lang/IndexOutOfBoundsException", .initialized "java/lang/IndexOutOfBoundsException", .fieldLink RX5 93 "Fabricsim" "flowCount" "I", .methodLink RX5 103 yX5_isOutside, .static yX5_isOutside, .code yX5_isOutside cX5_isOutside 3 (some .boolean)] : List Cond) := goodIn_r _ [264, 316, 318, 7, 48, 319, 323, 57, 272, 320, 321, 322] (by decide +kernel) (by decide +kernel)
set_option maxRecDepth 20000 in
theorem hg_wsX5_delivered : GoodIn lw_tbl wsX5_delivered := hw_cons hw_h_wsX5_delivered (goodIn_app (goodIn_app (goodIn_app hw_i121 hw_wsX50) hw_wsX00) hw_at_338)
set_option maxRecDepth 20000 in
theorem hX_delivered : GoodIn lw_tbl (wsV RL 37 RX5 yX5_delivered wsX5_delivered) := goodIn_app (goodIn_of _ (by decide +kernel)) hg_wsX5_delivered
set_option maxRecDepth 20000 in
theorem hw_h_wsX5_init : GoodIn lw_tbl [.code yX5_init cX5_init 2 none] := goodIn_r _ [66] (by decide +kernel) (by decide +kernel)
set_option maxRecDepth 20000 in
theorem hw_wsX5_init_r1 : GoodIn lw_tbl wsX5_init_r1 := goodIn_r _ [67, 68, 69, 70, 264, 72, 265, 74, 266, 267, 268, 76, 269, 270, 134, 271, 78, 49, 135, 50, 141, 51, 217, 53] (by decide +kernel) (by decide +kernel)
set_option maxRecDepth 20000 in
theorem hw_wsX5_init_r2 : GoodIn lw_tbl wsX5_init_r2 := goodIn_r _ [80, 81, 82, 137, 138, 139, 140, 199, 201, 143, 144, 145, 146, 174, 175, 148, 52, 150, 151, 152, 219, 220, 221, 222] (by decide +kernel) (by decide +kernel)
set_option maxRecDepth 20000 in
theorem hw_wsX5_init_r3 : GoodIn lw_tbl wsX5_init_r3 := goodIn_r _ [223, 225, 227, 236, 238, 0, 48, 239, 240, 242, 1, 243, 244, 246, 2, 247, 248, 250, 3, 251, 252, 254, 4, 255] (by decide +kernel) (by decide +kernel)
set_option maxRecDepth 20000 in
theorem hw_wsX5_init_r4 : GoodIn lw_tbl wsX5_init_r4 := goodIn_r _ [274, 275, 276, 272, 273, 258, 5, 259, 176, 177, 179, 181, 182, 262, 6, 263, 203, 205] (by decide +kernel) (by decide +kernel)
set_option maxRecDepth 20000 in
theorem hg_wsX5_init : GoodIn lw_tbl wsX5_init := hw_cons hw_h_wsX5_init (goodIn_app (goodIn_app (goodIn_app (goodIn_app (goodIn_app (goodIn_app (goodIn_app hw_wsX5_init_r1 (goodIn_app hw_wsX5_init_r2 (goodIn_app hw_wsX5_init_r3 hw_wsX5_init_r4))) hw_wsX50) hw_wsX00) hw_wsX10) hw_wsX20) hw_wsX30) hw_wsX40)
