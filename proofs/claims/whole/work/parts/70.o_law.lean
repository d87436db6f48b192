theorem in_places {big : List Cond} (ws : List Cond) (ps : List Nat) (h : ws = ps.filterMap (fun i => big[i]?)) : ∀ w ∈ ws, w ∈ big := by
  intro w hw
  rw [h] at hw
  obtain ⟨i, -, hi⟩ := List.mem_filterMap.mp hw
  exact List.mem_of_getElem? hi
theorem in_app {big a b : List Cond} (ha : ∀ w ∈ a, w ∈ big) (hb : ∀ w ∈ b, w ∈ big) : ∀ w ∈ a ++ b, w ∈ big := fun w h => (List.mem_append.mp h).elim (ha w) (hb w)
theorem in_law_r1 : ∀ w ∈ wsL_law0_r1, w ∈ lw_tbl := in_places _ [50, 51, 36, 506, 507, 42, 103, 190, 191, 35, 192, 52, 53, 54, 55, 56, 57, 150, 153, 67, 68, 38, 147, 105] (by decide +kernel)
theorem in_law_r2 : ∀ w ∈ wsL_law0_r2, w ∈ lw_tbl := in_places _ [106, 39, 148, 137, 138, 41, 149, 104, 151, 152, 58, 59, 60, 61, 62, 37, 63, 64, 65, 66, 69, 70, 71, 72] (by decide +kernel)
theorem in_law_r3 : ∀ w ∈ wsL_law0_r3, w ∈ lw_tbl := in_places _ [73, 76, 85, 87, 82, 79, 107, 108, 109, 110, 111, 112, 40, 128, 127, 129, 114, 115, 116, 117, 118, 119, 139, 140] (by decide +kernel)
theorem in_law_r4 : ∀ w ∈ wsL_law0_r4, w ∈ lw_tbl := in_places _ [141, 142, 143, 508, 509, 510, 511, 517, 518, 519, 512, 523, 524, 525, 526, 513, 527, 528, 529, 530, 531, 572, 532, 515] (by decide +kernel)
theorem in_law_r5 : ∀ w ∈ wsL_law0_r5, w ∈ lw_tbl := in_places _ [516, 193, 194, 195, 196, 197, 198, 199, 200, 201, 206, 46, 283, 47, 202, 204, 0, 205, 274, 276, 2, 277, 278, 174] (by decide +kernel)
theorem in_law_r6 : ∀ w ∈ wsL_law0_r6, w ∈ lw_tbl := in_places _ [175, 176, 177, 178, 179, 180, 181, 182, 183, 184, 185, 186, 187, 188, 279, 281, 3, 282, 299, 170, 171, 172, 300, 301] (by decide +kernel)
theorem in_law_r7 : ∀ w ∈ wsL_law0_r7, w ∈ lw_tbl := in_places _ [302, 303, 577, 578, 579, 580, 520, 521, 581, 583, 18, 584, 585, 587, 19, 588, 589, 591, 20, 592, 593, 595, 21, 596] (by decide +kernel)
theorem in_law_r8 : ∀ w ∈ wsL_law0_r8, w ∈ lw_tbl := in_places _ [597, 599, 22, 600, 514, 573, 574, 575, 576, 304, 305, 306, 307, 308, 309, 310, 312, 601, 602, 603, 604, 169, 605, 606] (by decide +kernel)
theorem in_law_r9 : ∀ w ∈ wsL_law0_r9, w ∈ lw_tbl := in_places _ [607, 608, 173, 609, 610, 611, 612, 313, 314, 315, 316, 317, 318, 319, 320, 321, 48, 613, 614, 615, 616, 189, 617, 618] (by decide +kernel)
theorem in_law_r10 : ∀ w ∈ wsL_law0_r10, w ∈ lw_tbl := in_places _ [619, 620, 337, 338, 339, 340, 341, 342, 343, 344, 345, 346, 348, 349, 350, 351, 352, 353, 49, 354, 355, 356, 357, 621] (by decide +kernel)
theorem in_law_r11 : ∀ w ∈ wsL_law0_r11, w ∈ lw_tbl := in_places _ [622, 623, 624, 625, 627, 23, 628, 629, 630, 631, 632, 633, 634, 635, 637, 24, 638, 358, 359, 360, 361, 362, 363, 364] (by decide +kernel)
theorem in_law_r12 : ∀ w ∈ wsL_law0_r12, w ∈ lw_tbl := in_places _ [365, 367, 4, 368, 369, 370, 371, 372, 376, 373, 374, 375, 377, 639, 640, 641, 642, 643, 645, 25, 646, 378, 379, 380] (by decide +kernel)
theorem in_law_r13 : ∀ w ∈ wsL_law0_r13, w ∈ lw_tbl := in_places _ [381, 382, 383, 384, 385, 387, 5, 388, 390, 392, 6, 393, 394, 396, 7, 397, 400, 8, 401, 402, 403, 404, 405, 406] (by decide +kernel)
theorem in_law_r14 : ∀ w ∈ wsL_law0_r14, w ∈ lw_tbl := in_places _ [407, 408, 409, 411, 410, 412, 414, 9, 415, 441, 442, 416, 417, 418, 419, 420, 421, 422, 423, 424, 425, 426, 427, 428] (by decide +kernel)
theorem in_law_r15 : ∀ w ∈ wsL_law0_r15, w ∈ lw_tbl := in_places _ [430, 10, 431, 432, 433, 434, 435, 436, 437, 439, 11, 440, 443, 445, 12, 448, 449, 450, 451, 446, 447, 452, 454, 13] (by decide +kernel)
theorem in_law_r16 : ∀ w ∈ wsL_law0_r16, w ∈ lw_tbl := in_places _ [455, 456, 457, 458, 647, 648, 649, 650, 651, 653, 26, 654, 655, 657, 27, 658, 522, 659, 661, 28, 662, 663, 665, 29] (by decide +kernel)
theorem in_law_r17 : ∀ w ∈ wsL_law0_r17, w ∈ lw_tbl := in_places _ [666, 667, 669, 30, 670, 671, 673, 31, 674, 675, 677, 32, 678, 679, 681, 33, 682, 683, 684, 685, 686, 687, 688, 459] (by decide +kernel)
theorem in_law_r18 : ∀ w ∈ wsL_law0_r18, w ∈ lw_tbl := in_places _ [460, 461, 462, 463, 464, 465, 467, 469, 14, 470, 689, 690, 691, 692, 471, 472, 473, 474, 475, 476, 477, 693, 694, 695] (by decide +kernel)
theorem in_law_r19 : ∀ w ∈ wsL_law0_r19, w ∈ lw_tbl := in_places _ [696, 478, 479, 480, 481, 482, 483, 484, 485, 487, 15, 488, 490, 491, 492, 493, 496, 494, 495, 497, 499, 16, 500, 501] (by decide +kernel)
theorem in_law_r20 : ∀ w ∈ wsL_law0_r20, w ∈ lw_tbl := in_places _ [503, 17, 504, 505, 697, 698, 699, 700, 701, 703, 34, 704] (by decide +kernel)
theorem in_law_X0 : ∀ w ∈ wsX00, w ∈ lw_tbl := by decide +kernel
theorem in_law_X1 : ∀ w ∈ wsX10, w ∈ lw_tbl := by decide +kernel
theorem in_law_X2 : ∀ w ∈ wsX20, w ∈ lw_tbl := by decide +kernel
theorem in_law_X3 : ∀ w ∈ wsX30, w ∈ lw_tbl := by decide +kernel
theorem in_law_X4 : ∀ w ∈ wsX40, w ∈ lw_tbl := by decide +kernel
theorem in_law_X5 : ∀ w ∈ wsX50, w ∈ lw_tbl := by decide +kernel
theorem wsL_law_in0 : ∀ w ∈ wsL_law0, w ∈ lw_tbl := in_app (in_app (in_app (in_app (in_app (in_app (in_app (in_app in_law_r1 (in_app in_law_r2 (in_app in_law_r3 (in_app in_law_r4 (in_app in_law_r5 (in_app in_law_r6 (in_app in_law_r7 (in_app in_law_r8 (in_app in_law_r9 (in_app in_law_r10 (in_app in_law_r11 (in_app in_law_r12 (in_app in_law_r13 (in_app in_law_r14 (in_app in_law_r15 (in_app in_law_r16 (in_app in_law_r17 (in_app in_law_r18 (in_app in_law_r19 (in_law_r20)))))))))))))))))))) in_law_X4) in_law_X5) in_law_X1) in_law_X3) in_law_X0) in_law_X2) (fun _ h => absurd h List.not_mem_nil)
