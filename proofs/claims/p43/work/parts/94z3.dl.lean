set_option maxRecDepth 20000 in
theorem gp_wsL_lay_r1 : GoodIn wsL_law wsL_lay_r1 := goodIn_r _ [430, 431, 65, 432, 433, 434, 435, 436, 437, 438, 439, 440, 74, 441, 442, 443, 444, 445, 446, 2, 447, 14, 256, 448] (by decide +kernel) (by decide +kernel)
set_option maxRecDepth 20000 in
theorem gp_wsL_lay_r2 : GoodIn wsL_law wsL_lay_r2 := goodIn_r _ [449, 450, 368, 369, 370, 357, 358, 354, 355, 356, 91, 92, 93, 25, 94, 95, 451, 452, 453, 454, 455, 456, 457, 458] (by decide +kernel) (by decide +kernel)
set_option maxRecDepth 20000 in
theorem gp_wsL_lay_r3 : GoodIn wsL_law wsL_lay_r3 := goodIn_r _ [459, 9, 10, 460, 461, 462, 463, 464, 465, 466, 467, 468, 469, 37, 470, 471, 472, 473, 474, 475, 476, 477, 478, 479] (by decide +kernel) (by decide +kernel)
set_option maxRecDepth 20000 in
theorem gp_wsL_lay_r4 : GoodIn wsL_law wsL_lay_r4 := goodIn_r _ [480, 481, 36, 482, 154, 155, 156, 483, 484, 485, 486, 487, 488, 489, 490, 491, 492, 493, 494, 142, 495, 496, 497, 498] (by decide +kernel) (by decide +kernel)
set_option maxRecDepth 20000 in
theorem gp_wsL_lay_r5 : GoodIn wsL_law wsL_lay_r5 := goodIn_r _ [499, 500, 501, 502, 503, 504, 505, 506, 507, 508, 509, 510, 511, 512, 513, 514, 515, 516, 517, 252, 253, 254, 255, 88] (by decide +kernel) (by decide +kernel)
set_option maxRecDepth 20000 in
theorem gp_wsL_lay_r6 : GoodIn wsL_law wsL_lay_r6 := goodIn_r _ [89, 96, 97, 98, 268, 114, 115, 116, 117, 118, 119, 120, 121, 122, 123, 124, 125, 126, 127, 128, 518, 519, 520, 521] (by decide +kernel) (by decide +kernel)
set_option maxRecDepth 20000 in
theorem gp_wsL_lay_r7 : GoodIn wsL_law wsL_lay_r7 := goodIn_r _ [522, 523, 524, 525, 526, 527, 528, 3, 529, 530, 531, 532, 533, 534, 535, 293, 294, 536, 537, 538, 539, 540, 541, 542] (by decide +kernel) (by decide +kernel)
set_option maxRecDepth 20000 in
theorem gp_wsL_lay_r8 : GoodIn wsL_law wsL_lay_r8 := goodIn_r _ [543, 544, 545, 546, 547, 548, 549, 550, 551, 552, 553, 554, 90, 555, 556, 557, 558, 559, 560, 561, 562, 24, 563, 564] (by decide +kernel) (by decide +kernel)
set_option maxRecDepth 20000 in
theorem gp_wsL_lay_r9 : GoodIn wsL_law wsL_lay_r9 := goodIn_r _ [565, 34, 35, 38, 39, 40, 41, 42, 43, 44, 45, 46, 47, 566, 567, 568, 569, 570, 571, 572, 18, 19, 573, 84] (by decide +kernel) (by decide +kernel)
set_option maxRecDepth 20000 in
theorem gp_wsL_lay_r10 : GoodIn wsL_law wsL_lay_r10 := goodIn_r _ [85, 86, 87, 574, 575, 576, 577, 578, 579, 580, 581, 582, 583, 584, 585, 99, 100, 101, 17, 102, 62, 103, 52, 104] (by decide +kernel) (by decide +kernel)
set_option maxRecDepth 20000 in
theorem gp_wsL_lay_r11 : GoodIn wsL_law wsL_lay_r11 := goodIn_r _ [53, 105, 106, 107, 108, 109, 110, 111, 112, 113, 129, 130, 131, 132, 133, 134, 135, 136, 137, 138, 139, 54, 140, 141] (by decide +kernel) (by decide +kernel)
set_option maxRecDepth 20000 in
theorem gp_wsL_lay_r12 : GoodIn wsL_law wsL_lay_r12 := goodIn_r _ [143, 144, 145, 146, 147, 148, 149, 150, 151, 152, 153, 586, 587, 588, 589, 590, 591, 592, 593, 594, 595, 596, 597, 598] (by decide +kernel) (by decide +kernel)
set_option maxRecDepth 20000 in
theorem gp_wsL_lay_r13 : GoodIn wsL_law wsL_lay_r13 := goodIn_r _ [599, 600, 601, 602, 603, 604, 605, 606, 607, 608, 609, 610, 611, 612, 613, 614, 615, 616, 617, 618, 619, 620, 273, 621] (by decide +kernel) (by decide +kernel)
set_option maxRecDepth 20000 in
theorem gp_wsL_lay_r14 : GoodIn wsL_law wsL_lay_r14 := goodIn_r _ [622, 623, 624, 625, 626, 627, 628, 629, 630, 631, 632, 633, 261, 262, 634, 263, 264, 265, 266, 267, 635, 636, 637, 638] (by decide +kernel) (by decide +kernel)
set_option maxRecDepth 20000 in
theorem gp_wsL_lay_r15 : GoodIn wsL_law wsL_lay_r15 := goodIn_r _ [412, 413, 274, 275, 639, 640, 641, 642, 643, 288, 644, 645, 646, 647, 648, 649, 650, 651, 652, 653, 654, 655, 656, 657] (by decide +kernel) (by decide +kernel)
set_option maxRecDepth 20000 in
theorem gp_wsL_lay_r16 : GoodIn wsL_law wsL_lay_r16 := goodIn_r _ [658, 659, 284, 285, 286, 287, 660, 661, 662, 663, 664, 665, 666, 667, 668, 669, 670, 671, 672, 673, 674, 675, 676, 289] (by decide +kernel) (by decide +kernel)
set_option maxRecDepth 20000 in
theorem gp_wsL_lay_r17 : GoodIn wsL_law wsL_lay_r17 := goodIn_r _ [290, 291, 292, 677, 678, 679, 680, 681, 682, 683, 312, 684, 685, 686, 687, 688, 689, 690, 691, 692, 693, 694, 695, 696] (by decide +kernel) (by decide +kernel)
set_option maxRecDepth 20000 in
theorem gp_wsL_lay_r18 : GoodIn wsL_law wsL_lay_r18 := goodIn_r _ [697, 698, 308, 309, 310, 311, 699, 700, 701, 702, 703, 704, 705, 706, 707, 708, 709, 710, 711, 276, 277, 278, 279, 712] (by decide +kernel) (by decide +kernel)
set_option maxRecDepth 20000 in
theorem gp_wsL_lay_r19 : GoodIn wsL_law wsL_lay_r19 := goodIn_r _ [713, 714, 715, 716, 717, 718, 719, 720, 721, 722, 723, 724, 725, 726] (by decide +kernel) (by decide +kernel)
set_option maxRecDepth 20000 in
theorem gp_lay_wsX100 : GoodIn wsL_law wsX100 := goodIn_r _ [756, 757, 758] (by decide +kernel) (by decide +kernel)
set_option maxRecDepth 20000 in
theorem gp_lay_wsX60 : GoodIn wsL_law wsX60 := goodIn_r _ [759, 760, 761, 762, 763, 764, 765] (by decide +kernel) (by decide +kernel)
set_option maxRecDepth 20000 in
theorem gp_lay_wsX70 : GoodIn wsL_law wsX70 := goodIn_r _ [792, 793, 794, 795] (by decide +kernel) (by decide +kernel)
set_option maxRecDepth 20000 in
theorem gp_lay_wsJx4a65c0 : GoodIn wsL_law wsJx4a65c0 := goodIn_r _ [775, 776, 777] (by decide +kernel) (by decide +kernel)
set_option maxRecDepth 20000 in
theorem gp_lay_wsX10 : GoodIn wsL_law wsX10 := goodIn_r _ [785, 786, 787] (by decide +kernel) (by decide +kernel)
set_option maxRecDepth 20000 in
theorem gp_lay_wsX30 : GoodIn wsL_law wsX30 := goodIn_r _ [780, 781] (by decide +kernel) (by decide +kernel)
set_option maxRecDepth 20000 in
theorem gp_lay_wsX00 : GoodIn wsL_law wsX00 := goodIn_r _ [782, 783, 784] (by decide +kernel) (by decide +kernel)
set_option maxRecDepth 20000 in
theorem gp_lay_wsX20 : GoodIn wsL_law wsX20 := goodIn_r _ [766, 767, 768, 769, 770, 771, 772, 773, 774] (by decide +kernel) (by decide +kernel)
set_option maxRecDepth 20000 in
theorem gp_lay_wsX90 : GoodIn wsL_law wsX90 := goodIn_r _ [778, 779] (by decide +kernel) (by decide +kernel)
set_option maxRecDepth 20000 in
theorem gp_lay_wsX40 : GoodIn wsL_law wsX40 := goodIn_r _ [788, 789] (by decide +kernel) (by decide +kernel)
set_option maxRecDepth 20000 in
theorem gp_lay_wsX80 : GoodIn wsL_law wsX80 := goodIn_r _ [796, 797] (by decide +kernel) (by decide +kernel)
set_option maxRecDepth 20000 in
theorem gp_lay_wsX50 : GoodIn wsL_law wsX50 := goodIn_r _ [790, 791] (by decide +kernel) (by decide +kernel)
set_option maxRecDepth 20000 in
theorem ggL_law_L_lay : GoodIn wsL_law wsL_lay := goodIn_ca (goodIn_ca (goodIn_ca (goodIn_ca (goodIn_ca (goodIn_ca (goodIn_ca (goodIn_cn (List.mem_of_getElem? (i := 429) rfl) (goodIn_app (goodIn_app (goodIn_app (goodIn_app (goodIn_app (goodIn_app (goodIn_app (goodIn_app (goodIn_app (goodIn_app (goodIn_app (goodIn_app (goodIn_app gp_wsL_lay_r1 (goodIn_app gp_wsL_lay_r2 (goodIn_app gp_wsL_lay_r3 (goodIn_app gp_wsL_lay_r4 (goodIn_app gp_wsL_lay_r5 (goodIn_app gp_wsL_lay_r6 (goodIn_app gp_wsL_lay_r7 (goodIn_app gp_wsL_lay_r8 (goodIn_app gp_wsL_lay_r9 (goodIn_app gp_wsL_lay_r10 (goodIn_app gp_wsL_lay_r11 (goodIn_app gp_wsL_lay_r12 (goodIn_app gp_wsL_lay_r13 (goodIn_app gp_wsL_lay_r14 (goodIn_app gp_wsL_lay_r15 (goodIn_app gp_wsL_lay_r16 (goodIn_app gp_wsL_lay_r17 (goodIn_app gp_wsL_lay_r18 gp_wsL_lay_r19)))))))))))))))))) gp_lay_wsX100) gp_lay_wsX60) gp_lay_wsX70) gp_lay_wsJx4a65c0) gp_lay_wsX10) gp_lay_wsX30) gp_lay_wsX00) gp_lay_wsX20) gp_lay_wsX90) gp_lay_wsX40) gp_lay_wsX80) gp_lay_wsX50)) (goodIn_sub (fun _ h => List.mem_append_left _ (List.mem_append_left _ (List.mem_append_left _ (List.mem_append_left _ (List.mem_append_left _ (List.mem_append_left _ (List.mem_append_left _ (List.mem_append_right _ h)))))))) (by decide +kernel))) (goodIn_sub (fun _ h => List.mem_append_left _ (List.mem_append_left _ (List.mem_append_left _ (List.mem_append_left _ (List.mem_append_left _ (List.mem_append_right _ h)))))) (by decide +kernel))) (goodIn_sub (fun _ h => List.mem_append_left _ (List.mem_append_left _ (List.mem_append_left _ (List.mem_append_right _ h)))) (by decide +kernel))) (goodIn_sub (fun _ h => List.mem_append_right _ h) (by decide +kernel))) (goodIn_sub (fun _ h => List.mem_append_left _ (List.mem_append_left _ (List.mem_append_left _ (List.mem_append_left _ (List.mem_append_left _ (List.mem_append_left _ (List.mem_append_right _ h))))))) (by decide +kernel))) (goodIn_sub (fun _ h => List.mem_append_left _ (List.mem_append_left _ (List.mem_append_left _ (List.mem_append_left _ (List.mem_append_right _ h))))) (by decide +kernel))) (goodIn_sub (fun _ h => List.mem_append_left _ (List.mem_append_right _ h)) (by decide +kernel))
set_option maxRecDepth 20000 in
theorem gL_law_L_lay : GoodIn wsL_law (va_wsS RL 215 yL_lay wsL_lay) := goodIn_app (goodIn_of _ (by decide +kernel)) ggL_law_L_lay
set_option maxRecDepth 20000 in
theorem ggL_law_X10_isSound : GoodIn wsL_law wsX10_isSound := goodIn_ca (goodIn_ca (goodIn_r _ [730, 19, 18, 161, 162, 163, 2, 164, 99, 100, 101, 17, 102, 62, 103, 52, 104, 53, 105, 92, 93, 25, 94, 95, 106, 107, 108, 109, 110, 111, 112, 113, 114, 115, 116, 117, 118, 119, 120, 121, 122, 123, 124, 125, 126, 127, 128, 37, 129, 130, 131, 132, 133, 134, 135, 136, 137, 138, 139, 54, 140, 141, 142, 143, 144, 145, 146, 147, 148, 149, 150, 151, 152, 153, 154, 155, 156, 165, 166, 167, 168, 169, 170, 171, 172, 57, 173, 174, 175, 176, 177, 178, 179, 180, 181, 182, 183, 184, 185, 186, 187, 188, 189, 190, 191, 192, 193, 58, 194, 195, 196, 197, 198, 199, 200, 59, 201, 202, 203, 204, 205, 206, 207, 208, 209, 210, 211, 212, 60, 213, 214, 215, 216, 217, 218, 61, 219, 220, 221, 222, 223, 224, 225, 226, 227, 228, 229, 230, 231, 232, 233, 234, 235, 236, 237, 238, 239, 240, 241, 242, 243, 391, 300, 301, 302, 303, 245, 246, 247, 731, 732, 733, 734, 735, 347, 348, 349, 736, 737, 738, 739, 740, 741, 742, 743, 744, 360, 361, 362, 363, 745, 746, 747, 748, 749, 322, 323, 324, 325, 326, 327, 328, 329, 330, 331, 332, 333, 334, 335, 336, 756, 757, 758, 766, 767, 768, 769, 770, 771, 772, 773, 774, 759, 760, 761, 762, 763, 764, 765, 775, 776, 777, 778, 779, 780, 781, 782, 783, 784, 785, 786, 787, 788, 789, 790, 791, 792, 793, 794, 795] (by decide +kernel) (by decide +kernel)) (goodIn_sub (fun _ h => List.mem_append_left _ (List.mem_append_left _ (List.mem_append_left _ (List.mem_append_left _ (List.mem_append_left _ (List.mem_append_left _ (List.mem_append_left _ (List.mem_append_right _ h)))))))) (by decide +kernel))) (goodIn_sub (fun _ h => List.mem_append_left _ (List.mem_append_left _ (List.mem_append_left _ (List.mem_append_left _ (List.mem_append_left _ (List.mem_append_right _ h)))))) (by decide +kernel))
set_option maxRecDepth 20000 in
theorem gL_law_X10_isSound : GoodIn wsL_law (wsV RL 220 RX10 yX10_isSound wsX10_isSound) := goodIn_app (goodIn_of _ (by decide +kernel)) ggL_law_X10_isSound
set_option maxRecDepth 20000 in
theorem gp_wsL_isTurned_r1 : GoodIn wsL_law wsL_isTurned_r1 := goodIn_r _ [75, 397, 398, 399, 2, 400, 19, 18, 161, 162, 163, 164, 99, 100, 101, 17, 102, 62, 103, 52, 104, 53, 105, 92] (by decide +kernel) (by decide +kernel)
set_option maxRecDepth 20000 in
theorem gp_wsL_isTurned_r2 : GoodIn wsL_law wsL_isTurned_r2 := goodIn_r _ [93, 25, 94, 95, 106, 107, 108, 109, 110, 111, 112, 113, 114, 115, 116, 117, 118, 119, 120, 121, 122, 123, 124, 125] (by decide +kernel) (by decide +kernel)
set_option maxRecDepth 20000 in
theorem gp_wsL_isTurned_r3 : GoodIn wsL_law wsL_isTurned_r3 := goodIn_r _ [126, 127, 128, 37, 129, 130, 131, 132, 133, 134, 135, 136, 137, 138, 139, 54, 140, 141, 142, 143, 144, 145, 146, 147] (by decide +kernel) (by decide +kernel)
set_option maxRecDepth 20000 in
theorem gp_wsL_isTurned_r4 : GoodIn wsL_law wsL_isTurned_r4 := goodIn_r _ [148, 149, 150, 151, 152, 153, 154, 155, 156, 165, 166, 167, 168, 169, 170, 171, 172, 57, 173, 174, 175, 176, 177, 178] (by decide +kernel) (by decide +kernel)
set_option maxRecDepth 20000 in
theorem gp_wsL_isTurned_r5 : GoodIn wsL_law wsL_isTurned_r5 := goodIn_r _ [179, 180, 181, 182, 183, 184, 185, 186, 187, 188, 189, 190, 191, 192, 193, 58, 194, 195, 196, 197, 198, 199, 200, 59] (by decide +kernel) (by decide +kernel)
set_option maxRecDepth 20000 in
theorem gp_wsL_isTurned_r6 : GoodIn wsL_law wsL_isTurned_r6 := goodIn_r _ [201, 202, 203, 204, 205, 206, 207, 208, 209, 210, 211, 212, 60, 213, 214, 215, 216, 217, 218, 61, 219, 220, 221, 222] (by decide +kernel) (by decide +kernel)
set_option maxRecDepth 20000 in
theorem gp_wsL_isTurned_r7 : GoodIn wsL_law wsL_isTurned_r7 := goodIn_r _ [223, 224, 225, 226, 227, 228, 229, 230, 231, 232, 233, 234, 235, 236, 237, 238, 239, 240, 241, 242, 243, 295, 296, 297] (by decide +kernel) (by decide +kernel)
set_option maxRecDepth 20000 in
theorem gp_wsL_isTurned_r8 : GoodIn wsL_law wsL_isTurned_r8 := goodIn_r _ [298, 299, 300, 301, 302, 303, 245, 246, 247, 71, 72, 65, 73, 74, 69, 70, 76, 77, 78, 79, 80, 81, 82, 83] (by decide +kernel) (by decide +kernel)
set_option maxRecDepth 20000 in
theorem gp_wsL_isTurned_r9 : GoodIn wsL_law wsL_isTurned_r9 := goodIn_r _ [84, 85, 86, 87, 88, 89, 14, 90, 91, 96, 97, 98, 157, 158, 159, 160, 244, 248, 249, 250, 251, 252, 253, 254] (by decide +kernel) (by decide +kernel)
set_option maxRecDepth 20000 in
theorem gp_wsL_isTurned_r10 : GoodIn wsL_law wsL_isTurned_r10 := goodIn_r _ [255, 256, 257, 258, 259, 260, 261, 262, 263, 264, 265, 266, 267, 268, 269, 270, 271, 272, 273, 274, 275, 276, 277, 278] (by decide +kernel) (by decide +kernel)
set_option maxRecDepth 20000 in
theorem gp_wsL_isTurned_r11 : GoodIn wsL_law wsL_isTurned_r11 := goodIn_r _ [279, 280, 281, 282, 283, 284, 285, 286, 287, 288, 289, 290, 291, 292, 293, 294, 304, 305, 306, 307, 308, 309, 310, 311] (by decide +kernel) (by decide +kernel)
set_option maxRecDepth 20000 in
theorem gp_wsL_isTurned_r12 : GoodIn wsL_law wsL_isTurned_r12 := goodIn_r _ [312, 313, 314, 315, 316, 317, 318, 319, 320, 321, 322, 323, 324, 325, 326, 327, 328, 329, 330, 331, 332, 333, 334, 335] (by decide +kernel) (by decide +kernel)
set_option maxRecDepth 20000 in
theorem gp_wsL_isTurned_r13 : GoodIn wsL_law wsL_isTurned_r13 := goodIn_r _ [336, 337, 338, 339, 340, 341, 342, 343, 344, 345, 346, 347, 348, 349, 350, 351, 352, 353, 354, 355, 356, 357, 358, 359] (by decide +kernel) (by decide +kernel)
set_option maxRecDepth 20000 in
theorem gp_wsL_isTurned_r14 : GoodIn wsL_law wsL_isTurned_r14 := goodIn_r _ [360, 361, 362, 363, 364, 365, 366, 367, 368, 369, 370, 371, 372, 373, 374, 375, 376, 377, 378, 379, 380, 381, 382, 383] (by decide +kernel) (by decide +kernel)
set_option maxRecDepth 20000 in
theorem gp_wsL_isTurned_r15 : GoodIn wsL_law wsL_isTurned_r15 := goodIn_r _ [384, 385, 386, 438, 439, 440, 441, 442, 443, 444, 445, 446, 447, 448, 449, 450, 451, 452, 453, 454, 455, 456, 457, 458] (by decide +kernel) (by decide +kernel)
set_option maxRecDepth 20000 in
theorem gp_wsL_isTurned_r16 : GoodIn wsL_law wsL_isTurned_r16 := goodIn_r _ [459, 9, 10, 460, 461, 462, 463, 464, 465, 466, 467, 468, 469, 470, 471, 472, 473, 474, 475, 476, 477, 478, 479, 480] (by decide +kernel) (by decide +kernel)
set_option maxRecDepth 20000 in
theorem gp_wsL_isTurned_r17 : GoodIn wsL_law wsL_isTurned_r17 := goodIn_r _ [481, 36, 482, 483, 484, 485, 486, 487, 488, 489, 490, 491, 492, 493, 494, 495, 496, 497, 498, 499, 500, 501, 502, 503] (by decide +kernel) (by decide +kernel)
set_option maxRecDepth 20000 in
theorem gp_wsL_isTurned_r18 : GoodIn wsL_law wsL_isTurned_r18 := goodIn_r _ [504, 505, 506, 507, 508, 509, 510, 511, 512, 513, 514, 515, 516, 517, 518, 519, 520, 521, 522, 523, 524, 525, 526, 527] (by decide +kernel) (by decide +kernel)
set_option maxRecDepth 20000 in
theorem gp_wsL_isTurned_r19 : GoodIn wsL_law wsL_isTurned_r19 := goodIn_r _ [528, 3, 529, 530, 531, 532, 533, 534, 535, 536, 537, 538, 539, 540, 541, 542, 543, 544, 545, 546, 547, 548, 549, 550] (by decide +kernel) (by decide +kernel)
set_option maxRecDepth 20000 in
theorem gp_wsL_isTurned_r20 : GoodIn wsL_law wsL_isTurned_r20 := goodIn_r _ [551, 552, 553, 554, 555, 556, 557, 558, 559, 560, 561, 562, 24, 563, 564, 565, 34, 35, 38, 39, 40, 41, 42, 43] (by decide +kernel) (by decide +kernel)
set_option maxRecDepth 20000 in
theorem gp_wsL_isTurned_r21 : GoodIn wsL_law wsL_isTurned_r21 := goodIn_r _ [44, 45, 46, 47, 566, 567, 568, 569, 570, 571, 572, 573, 574, 575, 576, 577, 578, 579, 580, 581, 582, 583, 584, 585] (by decide +kernel) (by decide +kernel)
set_option maxRecDepth 20000 in
theorem gp_wsL_isTurned_r22 : GoodIn wsL_law wsL_isTurned_r22 := goodIn_r _ [586, 587, 588, 589, 590, 591, 592, 593, 594, 595, 596, 597, 598, 599, 600, 601, 602, 603, 604, 605, 606, 607, 608, 609] (by decide +kernel) (by decide +kernel)
set_option maxRecDepth 20000 in
theorem gp_wsL_isTurned_r23 : GoodIn wsL_law wsL_isTurned_r23 := goodIn_r _ [610, 611, 612, 613, 614, 615, 616, 617, 618, 619, 620, 621, 622, 623, 624, 625, 626, 627, 628, 629, 630, 631, 632, 633] (by decide +kernel) (by decide +kernel)
set_option maxRecDepth 20000 in
theorem gp_wsL_isTurned_r24 : GoodIn wsL_law wsL_isTurned_r24 := goodIn_r _ [634, 635, 636, 637, 638, 412, 413, 639, 640, 641, 642, 643, 644, 645, 646, 647, 648, 649, 650, 651, 652, 653, 654, 655] (by decide +kernel) (by decide +kernel)
set_option maxRecDepth 20000 in
theorem gp_wsL_isTurned_r25 : GoodIn wsL_law wsL_isTurned_r25 := goodIn_r _ [656, 657, 658, 659, 660, 661, 662, 663, 664, 665, 666, 667, 668, 669, 670, 671, 672, 673, 674, 675, 676, 677, 678, 679] (by decide +kernel) (by decide +kernel)
set_option maxRecDepth 20000 in
theorem gp_wsL_isTurned_r26 : GoodIn wsL_law wsL_isTurned_r26 := goodIn_r _ [680, 681, 682, 683, 684, 685, 686, 687, 688, 689, 690, 691, 692, 693, 694, 695, 696, 697, 698, 63, 64, 66, 67, 68] (by decide +kernel) (by decide +kernel)
set_option maxRecDepth 20000 in
theorem gp_wsL_isTurned_r27 : GoodIn wsL_law wsL_isTurned_r27 := goodIn_r _ [387, 388, 389, 390, 391, 392, 393, 394, 395, 396, 401, 402, 403, 404, 405, 406, 407, 408, 409, 410, 411, 414, 415, 416] (by decide +kernel) (by decide +kernel)
set_option maxRecDepth 20000 in
theorem gp_wsL_isTurned_r28 : GoodIn wsL_law wsL_isTurned_r28 := goodIn_r _ [417] (by decide +kernel) (by decide +kernel)
set_option maxRecDepth 20000 in
theorem gp_isTurned_wsX100 : GoodIn wsL_law wsX100 := goodIn_r _ [756, 757, 758] (by decide +kernel) (by decide +kernel)
set_option maxRecDepth 20000 in
theorem gp_isTurned_wsX20 : GoodIn wsL_law wsX20 := goodIn_r _ [766, 767, 768, 769, 770, 771, 772, 773, 774] (by decide +kernel) (by decide +kernel)
set_option maxRecDepth 20000 in
theorem gp_isTurned_wsX60 : GoodIn wsL_law wsX60 := goodIn_r _ [759, 760, 761, 762, 763, 764, 765] (by decide +kernel) (by decide +kernel)
set_option maxRecDepth 20000 in
theorem gp_isTurned_wsJx4a65c0 : GoodIn wsL_law wsJx4a65c0 := goodIn_r _ [775, 776, 777] (by decide +kernel) (by decide +kernel)
set_option maxRecDepth 20000 in
theorem gp_isTurned_wsX90 : GoodIn wsL_law wsX90 := goodIn_r _ [778, 779] (by decide +kernel) (by decide +kernel)
set_option maxRecDepth 20000 in
theorem gp_isTurned_wsX30 : GoodIn wsL_law wsX30 := goodIn_r _ [780, 781] (by decide +kernel) (by decide +kernel)
set_option maxRecDepth 20000 in
theorem gp_isTurned_wsX00 : GoodIn wsL_law wsX00 := goodIn_r _ [782, 783, 784] (by decide +kernel) (by decide +kernel)
set_option maxRecDepth 20000 in
theorem gp_isTurned_wsX10 : GoodIn wsL_law wsX10 := goodIn_r _ [785, 786, 787] (by decide +kernel) (by decide +kernel)
set_option maxRecDepth 20000 in
theorem gp_isTurned_wsX40 : GoodIn wsL_law wsX40 := goodIn_r _ [788, 789] (by decide +kernel) (by decide +kernel)
set_option maxRecDepth 20000 in
theorem gp_isTurned_wsX50 : GoodIn wsL_law wsX50 := goodIn_r _ [790, 791] (by decide +kernel) (by decide +kernel)
set_option maxRecDepth 20000 in
theorem gp_isTurned_wsX70 : GoodIn wsL_law wsX70 := goodIn_r _ [792, 793, 794, 795] (by decide +kernel) (by decide +kernel)
set_option maxRecDepth 20000 in
theorem gp_isTurned_wsX80 : GoodIn wsL_law wsX80 := goodIn_r _ [796, 797] (by decide +kernel) (by decide +kernel)
set_option maxRecDepth 20000 in
theorem ggL_law_L_isTurned : GoodIn wsL_law wsL_isTurned := goodIn_ca (goodIn_ca (goodIn_ca (goodIn_ca (goodIn_ca (goodIn_ca (goodIn_ca (goodIn_ca (goodIn_cn (List.mem_of_getElem? (i := 752) rfl) (goodIn_app (goodIn_app (goodIn_app (goodIn_app (goodIn_app (goodIn_app (goodIn_app (goodIn_app (goodIn_app (goodIn_app (goodIn_app (goodIn_app (goodIn_app gp_wsL_isTurned_r1 (goodIn_app gp_wsL_isTurned_r2 (goodIn_app gp_wsL_isTurned_r3 (goodIn_app gp_wsL_isTurned_r4 (goodIn_app gp_wsL_isTurned_r5 (goodIn_app gp_wsL_isTurned_r6 (goodIn_app gp_wsL_isTurned_r7 (goodIn_app gp_wsL_isTurned_r8 (goodIn_app gp_wsL_isTurned_r9 (goodIn_app gp_wsL_isTurned_r10 (goodIn_app gp_wsL_isTurned_r11 (goodIn_app gp_wsL_isTurned_r12 (goodIn_app gp_wsL_isTurned_r13 (goodIn_app gp_wsL_isTurned_r14 (goodIn_app gp_wsL_isTurned_r15 (goodIn_app gp_wsL_isTurned_r16 (goodIn_app gp_wsL_isTurned_r17 (goodIn_app gp_wsL_isTurned_r18 (goodIn_app gp_wsL_isTurned_r19 (goodIn_app gp_wsL_isTurned_r20 (goodIn_app gp_wsL_isTurned_r21 (goodIn_app gp_wsL_isTurned_r22 (goodIn_app gp_wsL_isTurned_r23 (goodIn_app gp_wsL_isTurned_r24 (goodIn_app gp_wsL_isTurned_r25 (goodIn_app gp_wsL_isTurned_r26 (goodIn_app gp_wsL_isTurned_r27 gp_wsL_isTurned_r28))))))))))))))))))))))))))) gp_isTurned_wsX100) gp_isTurned_wsX20) gp_isTurned_wsX60) gp_isTurned_wsJx4a65c0) gp_isTurned_wsX90) gp_isTurned_wsX30) gp_isTurned_wsX00) gp_isTurned_wsX10) gp_isTurned_wsX40) gp_isTurned_wsX50) gp_isTurned_wsX70) gp_isTurned_wsX80)) (goodIn_sub (fun _ h => List.mem_append_left _ (List.mem_append_left _ (List.mem_append_left _ (List.mem_append_left _ (List.mem_append_left _ (List.mem_append_left _ (List.mem_append_left _ (List.mem_append_right _ h)))))))) (by decide +kernel))) (goodIn_sub (fun _ h => List.mem_append_left _ (List.mem_append_left _ (List.mem_append_left _ (List.mem_append_left _ (List.mem_append_left _ (List.mem_append_right _ h)))))) (by decide +kernel))) (goodIn_sub (fun _ h => List.mem_append_left _ (List.mem_append_left _ (List.mem_append_left _ (List.mem_append_left _ (List.mem_append_left _ (List.mem_append_left _ (List.mem_append_right _ h))))))) (by decide +kernel))) (goodIn_sub (fun _ h => List.mem_append_left _ (List.mem_append_left _ (List.mem_append_left _ (List.mem_append_left _ (List.mem_append_right _ h))))) (by decide +kernel))) (goodIn_sub (fun _ h => List.mem_append_left _ (List.mem_append_left _ (List.mem_append_left _ (List.mem_append_right _ h)))) (by decide +kernel))) (goodIn_sub (fun _ h => List.mem_append_left _ (List.mem_append_left _ (List.mem_append_right _ h))) (by decide +kernel))) (goodIn_sub (fun _ h => List.mem_append_right _ h) (by decide +kernel))) (goodIn_sub (fun _ h => List.mem_append_left _ (List.mem_append_right _ h)) (by decide +kernel))
set_option maxRecDepth 20000 in
theorem gL_law_L_isTurned : GoodIn wsL_law (va_wsS RL 224 yL_isTurned wsL_isTurned) := goodIn_app (goodIn_of _ (by decide +kernel)) ggL_law_L_isTurned
set_option maxRecDepth 20000 in
theorem gp_wsL_isCheapest_r1 : GoodIn wsL_law wsL_isCheapest_r1 := goodIn_r _ [421, 423, 424, 425, 2, 426, 14, 288, 18, 91, 92, 93, 25, 94, 95, 99, 100, 101, 17, 102, 62, 103, 52, 104] (by decide +kernel) (by decide +kernel)
set_option maxRecDepth 20000 in
theorem gp_wsL_isCheapest_r2 : GoodIn wsL_law wsL_isCheapest_r2 := goodIn_r _ [53, 105, 106, 107, 108, 109, 110, 111, 112, 113, 114, 115, 116, 117, 118, 119, 120, 121, 122, 123, 124, 125, 126, 127] (by decide +kernel) (by decide +kernel)
set_option maxRecDepth 20000 in
theorem gp_wsL_isCheapest_r3 : GoodIn wsL_law wsL_isCheapest_r3 := goodIn_r _ [128, 37, 129, 130, 131, 132, 133, 134, 135, 136, 137, 138, 139, 54, 140, 141, 142, 143, 144, 145, 146, 147, 148, 149] (by decide +kernel) (by decide +kernel)
set_option maxRecDepth 20000 in
theorem gp_wsL_isCheapest_r4 : GoodIn wsL_law wsL_isCheapest_r4 := goodIn_r _ [150, 151, 152, 153, 154, 155, 156, 165, 166, 167, 168, 169, 170, 171, 172, 57, 173, 174, 175, 176, 177, 178, 179, 180] (by decide +kernel) (by decide +kernel)
set_option maxRecDepth 20000 in
theorem gp_wsL_isCheapest_r5 : GoodIn wsL_law wsL_isCheapest_r5 := goodIn_r _ [181, 182, 183, 184, 185, 186, 187, 188, 189, 190, 191, 192, 193, 58, 194, 195, 196, 197, 198, 199, 200, 59, 201, 202] (by decide +kernel) (by decide +kernel)
set_option maxRecDepth 20000 in
theorem gp_wsL_isCheapest_r6 : GoodIn wsL_law wsL_isCheapest_r6 := goodIn_r _ [203, 204, 205, 206, 207, 208, 209, 210, 211, 212, 60, 213, 214, 215, 216, 217, 218, 61, 219, 220, 221, 222, 223, 224] (by decide +kernel) (by decide +kernel)
set_option maxRecDepth 20000 in
theorem gp_wsL_isCheapest_r7 : GoodIn wsL_law wsL_isCheapest_r7 := goodIn_r _ [225, 226, 227, 228, 229, 230, 231, 232, 233, 234, 235, 236, 237, 238, 239, 240, 241, 242, 243, 295, 296, 297, 298, 299] (by decide +kernel) (by decide +kernel)
set_option maxRecDepth 20000 in
theorem gp_wsL_isCheapest_r8 : GoodIn wsL_law wsL_isCheapest_r8 := goodIn_r _ [300, 301, 302, 303, 245, 246, 247, 438, 439, 65, 440, 74, 441, 442, 443, 444, 445, 446, 447, 256, 448, 449, 450, 368] (by decide +kernel) (by decide +kernel)
set_option maxRecDepth 20000 in
theorem gp_wsL_isCheapest_r9 : GoodIn wsL_law wsL_isCheapest_r9 := goodIn_r _ [369, 370, 357, 358, 354, 355, 356, 451, 452, 453, 454, 455, 456, 457, 458, 459, 9, 10, 460, 461, 462, 463, 464, 465] (by decide +kernel) (by decide +kernel)
set_option maxRecDepth 20000 in
theorem gp_wsL_isCheapest_r10 : GoodIn wsL_law wsL_isCheapest_r10 := goodIn_r _ [466, 467, 468, 469, 470, 471, 472, 473, 474, 475, 476, 477, 478, 479, 480, 481, 36, 482, 483, 484, 485, 486, 487, 488] (by decide +kernel) (by decide +kernel)
set_option maxRecDepth 20000 in
theorem gp_wsL_isCheapest_r11 : GoodIn wsL_law wsL_isCheapest_r11 := goodIn_r _ [489, 490, 491, 492, 493, 494, 495, 496, 497, 498, 499, 500, 501, 502, 503, 504, 505, 506, 507, 508, 509, 510, 511, 512] (by decide +kernel) (by decide +kernel)
set_option maxRecDepth 20000 in
theorem gp_wsL_isCheapest_r12 : GoodIn wsL_law wsL_isCheapest_r12 := goodIn_r _ [513, 514, 515, 516, 517, 252, 253, 254, 255, 88, 89, 96, 97, 98, 268, 518, 519, 520, 521, 522, 523, 524, 525, 526] (by decide +kernel) (by decide +kernel)
set_option maxRecDepth 20000 in
theorem gp_wsL_isCheapest_r13 : GoodIn wsL_law wsL_isCheapest_r13 := goodIn_r _ [527, 528, 3, 529, 530, 531, 532, 533, 534, 535, 293, 294, 536, 537, 538, 539, 540, 541, 542, 543, 544, 545, 546, 547] (by decide +kernel) (by decide +kernel)
set_option maxRecDepth 20000 in
theorem gp_wsL_isCheapest_r14 : GoodIn wsL_law wsL_isCheapest_r14 := goodIn_r _ [548, 549, 550, 551, 552, 553, 554, 90, 555, 556, 557, 558, 559, 560, 561, 562, 24, 563, 564, 565, 34, 35, 38, 39] (by decide +kernel) (by decide +kernel)
set_option maxRecDepth 20000 in
theorem gp_wsL_isCheapest_r15 : GoodIn wsL_law wsL_isCheapest_r15 := goodIn_r _ [40, 41, 42, 43, 44, 45, 46, 47, 566, 567, 568, 569, 570, 571, 572, 19, 573, 84, 85, 86, 87, 574, 575, 576] (by decide +kernel) (by decide +kernel)
set_option maxRecDepth 20000 in
theorem gp_wsL_isCheapest_r16 : GoodIn wsL_law wsL_isCheapest_r16 := goodIn_r _ [577, 578, 579, 580, 581, 582, 583, 584, 585, 586, 587, 588, 589, 590, 591, 592, 593, 594, 595, 596, 597, 598, 599, 600] (by decide +kernel) (by decide +kernel)
set_option maxRecDepth 20000 in
theorem gp_wsL_isCheapest_r17 : GoodIn wsL_law wsL_isCheapest_r17 := goodIn_r _ [601, 602, 603, 604, 605, 606, 607, 608, 609, 610, 611, 612, 613, 614, 615, 616, 617, 618, 619, 620, 273, 621, 622, 623] (by decide +kernel) (by decide +kernel)
set_option maxRecDepth 20000 in
theorem gp_wsL_isCheapest_r18 : GoodIn wsL_law wsL_isCheapest_r18 := goodIn_r _ [624, 625, 626, 627, 628, 629, 630, 631, 632, 633, 261, 262, 634, 263, 264, 265, 266, 267, 635, 636, 637, 638, 412, 413] (by decide +kernel) (by decide +kernel)
set_option maxRecDepth 20000 in
theorem gp_wsL_isCheapest_r19 : GoodIn wsL_law wsL_isCheapest_r19 := goodIn_r _ [274, 275, 639, 640, 641, 642, 643, 644, 645, 646, 647, 648, 649, 650, 651, 652, 653, 654, 655, 656, 657, 658, 659, 284] (by decide +kernel) (by decide +kernel)
set_option maxRecDepth 20000 in
theorem gp_wsL_isCheapest_r20 : GoodIn wsL_law wsL_isCheapest_r20 := goodIn_r _ [285, 286, 287, 660, 661, 662, 663, 664, 665, 666, 667, 668, 669, 670, 671, 672, 673, 674, 675, 676, 289, 290, 291, 292] (by decide +kernel) (by decide +kernel)
set_option maxRecDepth 20000 in
theorem gp_wsL_isCheapest_r21 : GoodIn wsL_law wsL_isCheapest_r21 := goodIn_r _ [677, 678, 679, 680, 681, 682, 683, 312, 684, 685, 686, 687, 688, 689, 690, 691, 692, 693, 694, 695, 696, 697, 698, 308] (by decide +kernel) (by decide +kernel)
set_option maxRecDepth 20000 in
theorem gp_wsL_isCheapest_r22 : GoodIn wsL_law wsL_isCheapest_r22 := goodIn_r _ [309, 310, 311, 397, 398, 399, 400, 161, 162, 163, 164] (by decide +kernel) (by decide +kernel)
set_option maxRecDepth 20000 in
theorem gp_isCheapest_wsX100 : GoodIn wsL_law wsX100 := goodIn_r _ [756, 757, 758] (by decide +kernel) (by decide +kernel)
set_option maxRecDepth 20000 in
theorem gp_isCheapest_wsX60 : GoodIn wsL_law wsX60 := goodIn_r _ [759, 760, 761, 762, 763, 764, 765] (by decide +kernel) (by decide +kernel)
set_option maxRecDepth 20000 in
theorem gp_isCheapest_wsJx4a65c0 : GoodIn wsL_law wsJx4a65c0 := goodIn_r _ [775, 776, 777] (by decide +kernel) (by decide +kernel)
set_option maxRecDepth 20000 in
theorem gp_isCheapest_wsX20 : GoodIn wsL_law wsX20 := goodIn_r _ [766, 767, 768, 769, 770, 771, 772, 773, 774] (by decide +kernel) (by decide +kernel)
set_option maxRecDepth 20000 in
theorem gp_isCheapest_wsX90 : GoodIn wsL_law wsX90 := goodIn_r _ [778, 779] (by decide +kernel) (by decide +kernel)
set_option maxRecDepth 20000 in
theorem gp_isCheapest_wsX30 : GoodIn wsL_law wsX30 := goodIn_r _ [780, 781] (by decide +kernel) (by decide +kernel)
set_option maxRecDepth 20000 in
theorem gp_isCheapest_wsX00 : GoodIn wsL_law wsX00 := goodIn_r _ [782, 783, 784] (by decide +kernel) (by decide +kernel)
set_option maxRecDepth 20000 in
theorem gp_isCheapest_wsX10 : GoodIn wsL_law wsX10 := goodIn_r _ [785, 786, 787] (by decide +kernel) (by decide +kernel)
set_option maxRecDepth 20000 in
theorem gp_isCheapest_wsX40 : GoodIn wsL_law wsX40 := goodIn_r _ [788, 789] (by decide +kernel) (by decide +kernel)
set_option maxRecDepth 20000 in
theorem gp_isCheapest_wsX50 : GoodIn wsL_law wsX50 := goodIn_r _ [790, 791] (by decide +kernel) (by decide +kernel)
set_option maxRecDepth 20000 in
theorem gp_isCheapest_wsX70 : GoodIn wsL_law wsX70 := goodIn_r _ [792, 793, 794, 795] (by decide +kernel) (by decide +kernel)
set_option maxRecDepth 20000 in
theorem gp_isCheapest_wsX80 : GoodIn wsL_law wsX80 := goodIn_r _ [796, 797] (by decide +kernel) (by decide +kernel)
set_option maxRecDepth 20000 in
theorem ggL_law_L_isCheapest : GoodIn wsL_law wsL_isCheapest := goodIn_ca (goodIn_ca (goodIn_ca (goodIn_ca (goodIn_ca (goodIn_ca (goodIn_ca (goodIn_cn (List.mem_of_getElem? (i := 755) rfl) (goodIn_app (goodIn_app (goodIn_app (goodIn_app (goodIn_app (goodIn_app (goodIn_app (goodIn_app (goodIn_app (goodIn_app (goodIn_app (goodIn_app (goodIn_app gp_wsL_isCheapest_r1 (goodIn_app gp_wsL_isCheapest_r2 (goodIn_app gp_wsL_isCheapest_r3 (goodIn_app gp_wsL_isCheapest_r4 (goodIn_app gp_wsL_isCheapest_r5 (goodIn_app gp_wsL_isCheapest_r6 (goodIn_app gp_wsL_isCheapest_r7 (goodIn_app gp_wsL_isCheapest_r8 (goodIn_app gp_wsL_isCheapest_r9 (goodIn_app gp_wsL_isCheapest_r10 (goodIn_app gp_wsL_isCheapest_r11 (goodIn_app gp_wsL_isCheapest_r12 (goodIn_app gp_wsL_isCheapest_r13 (goodIn_app gp_wsL_isCheapest_r14 (goodIn_app gp_wsL_isCheapest_r15 (goodIn_app gp_wsL_isCheapest_r16 (goodIn_app gp_wsL_isCheapest_r17 (goodIn_app gp_wsL_isCheapest_r18 (goodIn_app gp_wsL_isCheapest_r19 (goodIn_app gp_wsL_isCheapest_r20 (goodIn_app gp_wsL_isCheapest_r21 gp_wsL_isCheapest_r22))))))))))))))))))))) gp_isCheapest_wsX100) gp_isCheapest_wsX60) gp_isCheapest_wsJx4a65c0) gp_isCheapest_wsX20) gp_isCheapest_wsX90) gp_isCheapest_wsX30) gp_isCheapest_wsX00) gp_isCheapest_wsX10) gp_isCheapest_wsX40) gp_isCheapest_wsX50) gp_isCheapest_wsX70) gp_isCheapest_wsX80)) (goodIn_sub (fun _ h => List.mem_append_left _ (List.mem_append_left _ (List.mem_append_left _ (List.mem_append_left _ (List.mem_append_left _ (List.mem_append_left _ (List.mem_append_left _ (List.mem_append_right _ h)))))))) (by decide +kernel))) (goodIn_sub (fun _ h => List.mem_append_left _ (List.mem_append_left _ (List.mem_append_left _ (List.mem_append_left _ (List.mem_append_left _ (List.mem_append_right _ h)))))) (by decide +kernel))) (goodIn_sub (fun _ h => List.mem_append_left _ (List.mem_append_left _ (List.mem_append_left _ (List.mem_append_right _ h)))) (by decide +kernel))) (goodIn_sub (fun _ h => List.mem_append_right _ h) (by decide +kernel))) (goodIn_sub (fun _ h => List.mem_append_left _ (List.mem_append_left _ (List.mem_append_left _ (List.mem_append_left _ (List.mem_append_left _ (List.mem_append_left _ (List.mem_append_right _ h))))))) (by decide +kernel))) (goodIn_sub (fun _ h => List.mem_append_left _ (List.mem_append_left _ (List.mem_append_left _ (List.mem_append_left _ (List.mem_append_right _ h))))) (by decide +kernel))) (goodIn_sub (fun _ h => List.mem_append_left _ (List.mem_append_right _ h)) (by decide +kernel))
set_option maxRecDepth 20000 in
theorem gL_law_L_isCheapest : GoodIn wsL_law (va_wsS RL 228 yL_isCheapest wsL_isCheapest) := goodIn_app (goodIn_of _ (by decide +kernel)) ggL_law_L_isCheapest
