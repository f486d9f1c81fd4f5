/-! the words of the law in the tables: by their places -/
theorem mem_pos {big : List Cond} (ws : List Cond) (ps : List Nat) (hp : ws = ps.filterMap (fun i => big[i]?)) : ∀ w ∈ ws, w ∈ big := by
  intro w hw
  rw [hp] at hw
  obtain ⟨i, -, hi⟩ := List.mem_filterMap.mp hw
  exact List.mem_of_getElem? hi
theorem wsL_r1 : ∀ w ∈ wsL_law0_r1, w ∈ lw_tbl := mem_pos _ [56, 57, 43, 556, 557, 45, 782, 58, 59, 60, 61, 62, 63, 64, 65, 44, 78, 77, 79, 80, 88, 89, 90, 91] (by decide +kernel)
theorem wsL_r2 : ∀ w ∈ wsL_law0_r2, w ∈ lw_tbl := mem_pos _ [67, 68, 69, 70, 558, 559, 560, 561, 611, 568, 572, 577, 125, 126, 42, 127, 128, 129, 130, 131, 132, 151, 50, 82] (by decide +kernel)
theorem wsL_r3 : ∀ w ∈ wsL_law0_r3, w ∈ lw_tbl := mem_pos _ [83, 84, 85, 86, 87, 81, 133, 134, 135, 136, 137, 138, 139, 140, 46, 141, 142, 143, 144, 145, 146, 147, 148, 149] (by decide +kernel)
theorem wsL_r4 : ∀ w ∈ wsL_law0_r4, w ∈ lw_tbl := mem_pos _ [150, 220, 222, 1, 223, 224, 225, 51, 226, 227, 229, 2, 230, 231, 232, 233, 236, 3, 237, 71, 238, 240, 241, 242] (by decide +kernel)
theorem wsL_r5 : ∀ w ∈ wsL_law0_r5, w ∈ lw_tbl := mem_pos _ [244, 246, 4, 247, 250, 252, 5, 253, 254, 255, 256, 257, 259, 6, 260, 263, 7, 264, 265, 267, 8, 268, 616, 617] (by decide +kernel)
theorem wsL_r6 : ∀ w ∈ wsL_law0_r6, w ∈ lw_tbl := mem_pos _ [618, 619, 562, 564, 565, 566, 567, 569, 563, 570, 571, 574, 620, 621, 622, 623, 624, 625, 626, 627, 628, 629, 630, 631] (by decide +kernel)
theorem wsL_r7 : ∀ w ∈ wsL_law0_r7, w ∈ lw_tbl := mem_pos _ [632, 634, 27, 635, 573, 575, 576, 636, 638, 28, 639, 612, 613, 614, 615, 121, 122, 123, 124, 640, 641, 642, 643, 269] (by decide +kernel)
theorem wsL_r8 : ∀ w ∈ wsL_law0_r8, w ∈ lw_tbl := mem_pos _ [270, 271, 272, 273, 274, 275, 276, 277, 278, 279, 281, 9, 282, 283, 52, 299, 301, 10, 302, 303, 53, 320, 321, 322] (by decide +kernel)
theorem wsL_r9 : ∀ w ∈ wsL_law0_r9, w ∈ lw_tbl := mem_pos _ [323, 324, 325, 326, 328, 11, 329, 342, 54, 330, 332, 12, 333, 336, 13, 337, 338, 339, 340, 360, 14, 361, 644, 645] (by decide +kernel)
theorem wsL_r10 : ∀ w ∈ wsL_law0_r10, w ∈ lw_tbl := mem_pos _ [646, 647, 648, 650, 29, 651, 652, 654, 30, 655, 656, 657, 658, 659, 660, 661, 662, 664, 31, 665, 362, 363, 364, 365] (by decide +kernel)
theorem wsL_r11 : ∀ w ∈ wsL_law0_r11, w ∈ lw_tbl := mem_pos _ [366, 367, 368, 666, 667, 668, 669, 370, 371, 372, 373, 374, 375, 376, 377, 379, 15, 380, 383, 385, 16, 386, 670, 671] (by decide +kernel)
theorem wsL_r12 : ∀ w ∈ wsL_law0_r12, w ∈ lw_tbl := mem_pos _ [672, 673, 674, 676, 32, 677, 387, 388, 389, 390, 391, 392, 393, 394, 396, 17, 397, 398, 400, 18, 401, 678, 679, 680] (by decide +kernel)
theorem wsL_r13 : ∀ w ∈ wsL_law0_r13, w ∈ lw_tbl := mem_pos _ [681, 682, 684, 33, 685, 402, 403, 404, 405, 406, 407, 408, 409, 411, 19, 412, 686, 687, 688, 689, 415, 416, 417, 418] (by decide +kernel)
theorem wsL_r14 : ∀ w ∈ wsL_law0_r14, w ∈ lw_tbl := mem_pos _ [419, 420, 421, 690, 691, 692, 693, 423, 424, 425, 426, 427, 428, 429, 694, 695, 696, 697, 431, 432, 433, 434, 435, 436] (by decide +kernel)
theorem wsL_r15 : ∀ w ∈ wsL_law0_r15, w ∈ lw_tbl := mem_pos _ [437, 438, 440, 20, 441, 698, 699, 700, 701, 442, 443, 444, 445, 446, 447, 448, 702, 703, 704, 705, 706, 708, 34, 709] (by decide +kernel)
theorem wsL_r16 : ∀ w ∈ wsL_law0_r16, w ∈ lw_tbl := mem_pos _ [449, 450, 451, 452, 453, 454, 455, 710, 711, 712, 713, 456, 457, 458, 459, 460, 461, 462, 714, 715, 716, 717, 463, 464] (by decide +kernel)
theorem wsL_r17 : ∀ w ∈ wsL_law0_r17, w ∈ lw_tbl := mem_pos _ [465, 466, 467, 468, 469, 718, 719, 720, 721, 470, 471, 472, 473, 474, 475, 476, 477, 479, 21, 480, 722, 723, 724, 725] (by decide +kernel)
theorem wsL_r18 : ∀ w ∈ wsL_law0_r18, w ∈ lw_tbl := mem_pos _ [726, 728, 35, 729, 730, 732, 36, 733, 734, 736, 37, 737, 738, 740, 38, 741, 481, 482, 483, 484, 485, 486, 487, 491] (by decide +kernel)
theorem wsL_r19 : ∀ w ∈ wsL_law0_r19, w ∈ lw_tbl := mem_pos _ [22, 492, 742, 743, 744, 745, 746, 748, 39, 749, 495, 496, 497, 498, 499, 500, 501, 504, 23, 505, 750, 751, 752, 753] (by decide +kernel)
theorem wsL_r20 : ∀ w ∈ wsL_law0_r20, w ∈ lw_tbl := mem_pos _ [754, 756, 40, 757, 506, 507, 508, 509, 510, 511, 512, 515, 24, 516, 758, 759, 760, 761, 517, 518, 519, 520, 521, 522] (by decide +kernel)
theorem wsL_r21 : ∀ w ∈ wsL_law0_r21, w ∈ lw_tbl := mem_pos _ [523, 526, 25, 527, 762, 763, 764, 765, 528, 529, 530, 531, 532, 533, 534, 766, 767, 768, 769, 770, 772, 41, 773, 535] (by decide +kernel)
theorem wsL_r22 : ∀ w ∈ wsL_law0_r22, w ∈ lw_tbl := mem_pos _ [536, 537, 538, 539, 540, 541, 542, 543, 55, 544, 774, 775, 776, 777, 545, 546, 547, 548, 549, 550, 551, 554, 26, 555] (by decide +kernel)
theorem wsL_r23 : ∀ w ∈ wsL_law0_r23, w ∈ lw_tbl := mem_pos _ [778, 779, 780, 781] (by decide +kernel)
