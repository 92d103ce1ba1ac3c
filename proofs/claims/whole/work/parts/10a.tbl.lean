set_option maxRecDepth 20000 in
theorem zwsL_law0_r1 : ∀ w ∈ wsL_law0_r1, w ∈ lw_tbl := fun w h => (goodIn_r wsL_law0_r1 [42, 43, 30, 549, 550, 32, 820, 44, 45, 46, 47, 48, 49, 50, 89, 88, 91, 92, 93, 52, 31, 95, 53, 54] (by decide +kernel) (by decide +kernel) w h).1
set_option maxRecDepth 20000 in
theorem zwsL_law0_r2 : ∀ w ∈ wsL_law0_r2, w ∈ lw_tbl := fun w h => (goodIn_r wsL_law0_r2 [55, 56, 63, 64, 65, 66, 57, 58, 59, 60, 551, 552, 553, 554, 603, 605, 607, 609, 611, 613, 555, 556, 33, 614] (by decide +kernel) (by decide +kernel) w h).1
set_option maxRecDepth 20000 in
theorem zwsL_law0_r3 : ∀ w ∈ wsL_law0_r3, w ∈ lw_tbl := fun w h => (goodIn_r wsL_law0_r3 [615, 557, 558, 559, 578, 560, 563, 565, 567, 569, 571, 573, 575, 600, 577, 201, 202, 29, 203, 204, 205, 206, 207, 208] (by decide +kernel) (by decide +kernel) w h).1
set_option maxRecDepth 20000 in
theorem zwsL_law0_r4 : ∀ w ∈ wsL_law0_r4, w ∈ lw_tbl := fun w h => (goodIn_r wsL_law0_r4 [209, 213, 37, 281, 38, 90, 210, 211, 212, 641, 642, 643, 644, 601, 602, 645, 646, 647, 648, 650, 17, 651, 637, 638] (by decide +kernel) (by decide +kernel) w h).1
set_option maxRecDepth 20000 in
theorem zwsL_law0_r5 : ∀ w ∈ wsL_law0_r5, w ∈ lw_tbl := fun w h => (goodIn_r wsL_law0_r5 [639, 640, 297, 298, 299, 300, 301, 302, 303, 304, 308, 39, 305, 306, 307, 652, 653, 654, 655, 326, 327, 328, 329, 330] (by decide +kernel) (by decide +kernel) w h).1
set_option maxRecDepth 20000 in
theorem zwsL_law0_r6 : ∀ w ∈ wsL_law0_r6, w ∈ lw_tbl := fun w h => (goodIn_r wsL_law0_r6 [331, 332, 656, 657, 658, 659, 335, 336, 337, 338, 339, 340, 341, 342, 344, 9, 345, 346, 347, 348, 349, 350, 351, 352] (by decide +kernel) (by decide +kernel) w h).1
set_option maxRecDepth 20000 in
theorem zwsL_law0_r7 : ∀ w ∈ wsL_law0_r7, w ∈ lw_tbl := fun w h => (goodIn_r wsL_law0_r7 [353, 355, 356, 357, 359, 360, 361, 362, 119, 120, 121, 122, 123, 124, 125, 126, 363, 364, 365, 367, 368, 369, 370, 371] (by decide +kernel) (by decide +kernel) w h).1
set_option maxRecDepth 20000 in
theorem zwsL_law0_r8 : ∀ w ∈ wsL_law0_r8, w ∈ lw_tbl := fun w h => (goodIn_r wsL_law0_r8 [189, 190, 191, 192, 660, 661, 662, 663, 664, 666, 18, 667, 668, 670, 19, 671, 672, 674, 20, 675, 676, 678, 21, 679] (by decide +kernel) (by decide +kernel) w h).1
set_option maxRecDepth 20000 in
theorem zwsL_law0_r9 : ∀ w ∈ wsL_law0_r9, w ∈ lw_tbl := fun w h => (goodIn_r wsL_law0_r9 [680, 681, 682, 683, 685, 686, 687, 688, 689, 690, 691, 692, 693, 694, 372, 373, 374, 375, 376, 377, 378, 379, 181, 182] (by decide +kernel) (by decide +kernel) w h).1
set_option maxRecDepth 20000 in
theorem zwsL_law0_r10 : ∀ w ∈ wsL_law0_r10, w ∈ lw_tbl := fun w h => (goodIn_r wsL_law0_r10 [183, 184, 695, 696, 697, 698, 381, 382, 383, 384, 385, 386, 387, 389, 390, 391, 392, 394, 395, 396, 397, 398, 399, 40] (by decide +kernel) (by decide +kernel) w h).1
set_option maxRecDepth 20000 in
theorem zwsL_law0_r11 : ∀ w ∈ wsL_law0_r11, w ∈ lw_tbl := fun w h => (goodIn_r wsL_law0_r11 [400, 401, 699, 700, 701, 702, 703, 704, 705, 706, 707, 402, 403, 404, 405, 406, 407, 408, 411, 412, 413, 414, 708, 709] (by decide +kernel) (by decide +kernel) w h).1
set_option maxRecDepth 20000 in
theorem zwsL_law0_r12 : ∀ w ∈ wsL_law0_r12, w ∈ lw_tbl := fun w h => (goodIn_r wsL_law0_r12 [710, 711, 415, 416, 417, 418, 419, 420, 421, 185, 186, 187, 188, 193, 195, 6, 196, 197, 199, 7, 200, 712, 713, 714] (by decide +kernel) (by decide +kernel) w h).1
set_option maxRecDepth 20000 in
theorem zwsL_law0_r13 : ∀ w ∈ wsL_law0_r13, w ∈ lw_tbl := fun w h => (goodIn_r wsL_law0_r13 [715, 716, 718, 22, 719, 720, 721, 722, 723, 724, 423, 424, 425, 426, 427, 428, 429, 149, 150, 151, 152, 61, 62, 153] (by decide +kernel) (by decide +kernel) w h).1
set_option maxRecDepth 20000 in
theorem zwsL_law0_r14 : ∀ w ∈ wsL_law0_r14, w ∈ lw_tbl := fun w h => (goodIn_r wsL_law0_r14 [116, 117, 118, 154, 128, 129, 130, 131, 133, 0, 134, 155, 156, 157, 158, 725, 726, 727, 728, 729, 731, 23, 732, 733] (by decide +kernel) (by decide +kernel) w h).1
set_option maxRecDepth 20000 in
theorem zwsL_law0_r15 : ∀ w ∈ wsL_law0_r15, w ∈ lw_tbl := fun w h => (goodIn_r wsL_law0_r15 [734, 735, 736, 737, 738, 739, 740, 741, 742, 743, 744, 431, 432, 433, 434, 435, 436, 437, 141, 143, 1, 144, 94, 145] (by decide +kernel) (by decide +kernel) w h).1
set_option maxRecDepth 20000 in
theorem zwsL_law0_r16 : ∀ w ∈ wsL_law0_r16, w ∈ lw_tbl := fun w h => (goodIn_r wsL_law0_r16 [147, 2, 148, 159, 161, 3, 162, 163, 165, 4, 166, 167, 168, 40, 169, 170, 172, 5, 173, 745, 746, 747, 748, 749] (by decide +kernel) (by decide +kernel) w h).1
set_option maxRecDepth 20000 in
theorem zwsL_law0_r17 : ∀ w ∈ wsL_law0_r17, w ∈ lw_tbl := fun w h => (goodIn_r wsL_law0_r17 [751, 24, 752, 439, 440, 441, 442, 443, 444, 445, 447, 448, 449, 450, 451, 452, 453, 454, 455, 457, 10, 458, 463, 464] (by decide +kernel) (by decide +kernel) w h).1
set_option maxRecDepth 20000 in
theorem zwsL_law0_r18 : ∀ w ∈ wsL_law0_r18, w ∈ lw_tbl := fun w h => (goodIn_r wsL_law0_r18 [465, 459, 461, 11, 462, 466, 468, 12, 469, 470, 472, 13, 473, 474, 476, 14, 477, 478, 480, 15, 481, 482, 483, 484] (by decide +kernel) (by decide +kernel) w h).1
set_option maxRecDepth 20000 in
theorem zwsL_law0_r19 : ∀ w ∈ wsL_law0_r19, w ∈ lw_tbl := fun w h => (goodIn_r wsL_law0_r19 [485, 753, 754, 755, 756, 757, 758, 759, 760, 775, 761, 763, 25, 764, 765, 766, 768, 26, 769, 770, 771, 772, 773, 774] (by decide +kernel) (by decide +kernel) w h).1
set_option maxRecDepth 20000 in
theorem zwsL_law0_r20 : ∀ w ∈ wsL_law0_r20, w ∈ lw_tbl := fun w h => (goodIn_r wsL_law0_r20 [486, 487, 488, 489, 490, 491, 492, 494, 495, 496, 497, 776, 777, 778, 779, 780, 498, 499, 500, 501, 502, 503, 504, 505] (by decide +kernel) (by decide +kernel) w h).1
set_option maxRecDepth 20000 in
theorem zwsL_law0_r21 : ∀ w ∈ wsL_law0_r21, w ∈ lw_tbl := fun w h => (goodIn_r wsL_law0_r21 [506, 507, 508, 509, 510, 512, 511, 41, 781, 782, 783, 784, 785, 786, 787, 788, 561, 789, 791, 27, 792, 793, 513, 514] (by decide +kernel) (by decide +kernel) w h).1
set_option maxRecDepth 20000 in
theorem zwsL_law0_r22 : ∀ w ∈ wsL_law0_r22, w ∈ lw_tbl := fun w h => (goodIn_r wsL_law0_r22 [515, 516, 517, 518, 519, 115, 522, 523, 524, 525, 794, 795, 796, 797, 526, 527, 528, 529, 530, 531, 532, 534, 536, 16] (by decide +kernel) (by decide +kernel) w h).1
set_option maxRecDepth 20000 in
theorem zwsL_law0_r23 : ∀ w ∈ wsL_law0_r23, w ∈ lw_tbl := fun w h => (goodIn_r wsL_law0_r23 [537, 538, 539, 177, 178, 179, 180, 540, 798, 799, 800, 801, 802, 804, 28, 805, 541, 542, 543, 544, 545, 546, 547, 806] (by decide +kernel) (by decide +kernel) w h).1
set_option maxRecDepth 20000 in
theorem zwsL_law0_r24 : ∀ w ∈ wsL_law0_r24, w ∈ lw_tbl := fun w h => (goodIn_r wsL_law0_r24 [807, 808, 809, 111, 112, 113, 114, 127, 810, 811, 812, 813, 135, 136, 137, 138, 139, 140, 174, 175, 176, 814, 815, 816] (by decide +kernel) (by decide +kernel) w h).1
set_option maxRecDepth 20000 in
theorem zwsL_law0_r25 : ∀ w ∈ wsL_law0_r25, w ∈ lw_tbl := fun w h => (goodIn_r wsL_law0_r25 [817, 818, 819] (by decide +kernel) (by decide +kernel) w h).1
set_option maxRecDepth 20000 in
theorem zwsX00 : ∀ w ∈ wsX00, w ∈ lw_tbl := fun w h => (goodIn_r wsX00 [67, 69, 71, 73, 75, 77, 79, 81, 83, 85] (by decide +kernel) (by decide +kernel) w h).1
set_option maxRecDepth 20000 in
theorem zwsX10 : ∀ w ∈ wsX10, w ∈ lw_tbl := fun w h => (goodIn_r wsX10 [96, 98, 100, 102, 104, 106, 108] (by decide +kernel) (by decide +kernel) w h).1
set_option maxRecDepth 20000 in
theorem zwsX20 : ∀ w ∈ wsX20, w ∈ lw_tbl := fun w h => (goodIn_r wsX20 [579, 581, 583, 585, 587, 589, 591, 593, 595, 597] (by decide +kernel) (by decide +kernel) w h).1
set_option maxRecDepth 20000 in
theorem zwsX30 : ∀ w ∈ wsX30, w ∈ lw_tbl := fun w h => (goodIn_r wsX30 [616, 618, 620, 622, 624, 626, 628, 630, 632, 634] (by decide +kernel) (by decide +kernel) w h).1
theorem wsL_law_in0 : ∀ w ∈ wsL_law0, w ∈ lw_tbl := by
  show ∀ w ∈ (wsL_law0_r1 ++ (wsL_law0_r2 ++ (wsL_law0_r3 ++ (wsL_law0_r4 ++ (wsL_law0_r5 ++ (wsL_law0_r6 ++ (wsL_law0_r7 ++ (wsL_law0_r8 ++ (wsL_law0_r9 ++ (wsL_law0_r10 ++ (wsL_law0_r11 ++ (wsL_law0_r12 ++ (wsL_law0_r13 ++ (wsL_law0_r14 ++ (wsL_law0_r15 ++ (wsL_law0_r16 ++ (wsL_law0_r17 ++ (wsL_law0_r18 ++ (wsL_law0_r19 ++ (wsL_law0_r20 ++ (wsL_law0_r21 ++ (wsL_law0_r22 ++ (wsL_law0_r23 ++ (wsL_law0_r24 ++ wsL_law0_r25)))))))))))))))))))))))) ++ wsX10 ++ wsX30 ++ wsX00 ++ wsX20 ++ ([] : List Cond), w ∈ lw_tbl
  exact (List.forall_mem_append.mpr ⟨(List.forall_mem_append.mpr ⟨(List.forall_mem_append.mpr ⟨(List.forall_mem_append.mpr ⟨(List.forall_mem_append.mpr ⟨(List.forall_mem_append.mpr ⟨zwsL_law0_r1, List.forall_mem_append.mpr ⟨zwsL_law0_r2, List.forall_mem_append.mpr ⟨zwsL_law0_r3, List.forall_mem_append.mpr ⟨zwsL_law0_r4, List.forall_mem_append.mpr ⟨zwsL_law0_r5, List.forall_mem_append.mpr ⟨zwsL_law0_r6, List.forall_mem_append.mpr ⟨zwsL_law0_r7, List.forall_mem_append.mpr ⟨zwsL_law0_r8, List.forall_mem_append.mpr ⟨zwsL_law0_r9, List.forall_mem_append.mpr ⟨zwsL_law0_r10, List.forall_mem_append.mpr ⟨zwsL_law0_r11, List.forall_mem_append.mpr ⟨zwsL_law0_r12, List.forall_mem_append.mpr ⟨zwsL_law0_r13, List.forall_mem_append.mpr ⟨zwsL_law0_r14, List.forall_mem_append.mpr ⟨zwsL_law0_r15, List.forall_mem_append.mpr ⟨zwsL_law0_r16, List.forall_mem_append.mpr ⟨zwsL_law0_r17, List.forall_mem_append.mpr ⟨zwsL_law0_r18, List.forall_mem_append.mpr ⟨zwsL_law0_r19, List.forall_mem_append.mpr ⟨zwsL_law0_r20, List.forall_mem_append.mpr ⟨zwsL_law0_r21, List.forall_mem_append.mpr ⟨zwsL_law0_r22, List.forall_mem_append.mpr ⟨zwsL_law0_r23, List.forall_mem_append.mpr ⟨zwsL_law0_r24, zwsL_law0_r25⟩⟩⟩⟩⟩⟩⟩⟩⟩⟩⟩⟩⟩⟩⟩⟩⟩⟩⟩⟩⟩⟩⟩⟩), zwsX10⟩), zwsX30⟩), zwsX00⟩), zwsX20⟩), fun _ h => nomatch h⟩)
