theorem mem_at {big ws : List Cond} (ps : List Nat) (hp : ws = ps.filterMap (fun i => big[i]?)) : ∀ w ∈ ws, w ∈ big := by
  intro w hw
  rw [hp] at hw
  obtain ⟨i, -, hi⟩ := List.mem_filterMap.mp hw
  exact List.mem_of_getElem? hi
set_option maxRecDepth 40000 in
theorem in_wsL_law0_r1 : ∀ w ∈ wsL_law0_r1, w ∈ lw_tbl := mem_at [60, 61, 48, 576, 577, 54, 809, 62, 63, 64, 65, 66, 67, 68, 69, 49, 232, 117, 118, 50, 233, 234, 158, 159] rfl
set_option maxRecDepth 40000 in
theorem in_wsL_law0_r2 : ∀ w ∈ wsL_law0_r2, w ∈ lw_tbl := mem_at [51, 235, 200, 236, 202, 52, 237, 116, 238, 239, 240, 241, 242, 243, 244, 230, 71, 72, 73, 74, 76, 78, 81, 84] rfl
set_option maxRecDepth 40000 in
theorem in_wsL_law0_r3 : ∀ w ∈ wsL_law0_r3, w ∈ lw_tbl := mem_at [86, 88, 91, 94, 120, 121, 122, 123, 125, 127, 129, 131, 134, 136, 157, 138, 161, 162, 163, 167, 170, 173, 175, 177] rfl
set_option maxRecDepth 40000 in
theorem in_wsL_law0_r4 : ∀ w ∈ wsL_law0_r4, w ∈ lw_tbl := mem_at [179, 164, 165, 166, 204, 205, 206, 210, 212, 214, 216, 217, 207, 208, 53, 209, 231, 578, 579, 580, 581, 584, 585, 586] rfl
set_option maxRecDepth 40000 in
theorem in_wsL_law0_r5 : ∀ w ∈ wsL_law0_r5, w ∈ lw_tbl := mem_at [587, 588, 589, 590, 591, 592, 593, 594, 595, 596, 597, 598, 599, 600, 603, 604, 606, 607, 272, 273, 274, 275, 276, 277] rfl
set_option maxRecDepth 40000 in
theorem in_wsL_law0_r6 : ∀ w ∈ wsL_law0_r6, w ∈ lw_tbl := mem_at [278, 279, 281, 0, 282, 665, 666, 667, 668, 582, 583, 669, 670, 671, 283, 284, 285, 286, 672, 673, 674, 675, 287, 288] rfl
set_option maxRecDepth 40000 in
theorem in_wsL_law0_r7 : ∀ w ∈ wsL_law0_r7, w ∈ lw_tbl := mem_at [289, 290, 291, 292, 293, 676, 677, 678, 679, 680, 681, 682, 294, 295, 296, 297, 298, 299, 300, 301, 302, 303, 304, 306] rfl
set_option maxRecDepth 40000 in
theorem in_wsL_law0_r8 : ∀ w ∈ wsL_law0_r8, w ∈ lw_tbl := mem_at [1, 307, 683, 684, 685, 686, 308, 309, 310, 311, 687, 688, 689, 690, 312, 313, 314, 315, 691, 692, 693, 694, 316, 317] rfl
set_option maxRecDepth 40000 in
theorem in_wsL_law0_r9 : ∀ w ∈ wsL_law0_r9, w ∈ lw_tbl := mem_at [318, 319, 695, 696, 697, 698, 320, 321, 322, 323, 324, 325, 326, 699, 700, 701, 702, 703, 704, 705, 327, 328, 329, 330] rfl
set_option maxRecDepth 40000 in
theorem in_wsL_law0_r10 : ∀ w ∈ wsL_law0_r10, w ∈ lw_tbl := mem_at [706, 707, 708, 709, 601, 331, 332, 333, 334, 710, 711, 712, 713, 602, 335, 336, 337, 338, 339, 340, 341, 342, 344, 2] rfl
set_option maxRecDepth 40000 in
theorem in_wsL_law0_r11 : ∀ w ∈ wsL_law0_r11, w ∈ lw_tbl := mem_at [345, 348, 3, 349, 384, 382, 55, 383, 400, 398, 399, 350, 352, 4, 353, 356, 5, 357, 360, 6, 361, 362, 364, 7] rfl
set_option maxRecDepth 40000 in
theorem in_wsL_law0_r12 : ∀ w ∈ wsL_law0_r12, w ∈ lw_tbl := mem_at [365, 370, 371, 372, 368, 8, 369, 375, 9, 376, 379, 10, 380, 381, 385, 387, 11, 388, 391, 12, 392, 395, 13, 396] rfl
set_option maxRecDepth 40000 in
theorem in_wsL_law0_r13 : ∀ w ∈ wsL_law0_r13, w ∈ lw_tbl := mem_at [397, 401, 403, 14, 404, 407, 15, 408, 410, 411, 413, 414, 417, 16, 418, 782, 783, 784, 785, 786, 787, 788, 789, 791] rfl
set_option maxRecDepth 40000 in
theorem in_wsL_law0_r14 : ∀ w ∈ wsL_law0_r14, w ∈ lw_tbl := mem_at [45, 792, 735, 737, 36, 738, 739, 741, 37, 742, 743, 744, 745, 746, 748, 38, 749, 750, 752, 39, 753, 754, 756, 40] rfl
set_option maxRecDepth 40000 in
theorem in_wsL_law0_r15 : ∀ w ∈ wsL_law0_r15, w ∈ lw_tbl := mem_at [757, 419, 420, 421, 422, 423, 425, 17, 426, 427, 429, 18, 430, 433, 19, 434, 435, 436, 438, 20, 439, 440, 441, 443] rfl
set_option maxRecDepth 40000 in
theorem in_wsL_law0_r16 : ∀ w ∈ wsL_law0_r16, w ∈ lw_tbl := mem_at [21, 444, 449, 447, 22, 448, 452, 23, 453, 454, 455, 457, 24, 458, 459, 461, 25, 462, 463, 465, 26, 466, 469, 27] rfl
set_option maxRecDepth 40000 in
theorem in_wsL_law0_r17 : ∀ w ∈ wsL_law0_r17, w ∈ lw_tbl := mem_at [470, 714, 715, 716, 717, 718, 720, 32, 721, 722, 724, 33, 725, 726, 728, 34, 729, 730, 731, 733, 35, 734, 758, 760] rfl
set_option maxRecDepth 40000 in
theorem in_wsL_law0_r18 : ∀ w ∈ wsL_law0_r18, w ∈ lw_tbl := mem_at [41, 761, 762, 764, 42, 765, 766, 768, 43, 769, 471, 472, 473, 474, 475, 477, 28, 478, 770, 771, 772, 773, 774, 776] rfl
set_option maxRecDepth 40000 in
theorem in_wsL_law0_r19 : ∀ w ∈ wsL_law0_r19, w ∈ lw_tbl := mem_at [44, 777, 479, 480, 481, 482, 483, 778, 779, 780, 781, 501, 502, 47, 503, 504, 505, 506, 507, 508, 509, 59, 488, 490] rfl
set_option maxRecDepth 40000 in
theorem in_wsL_law0_r20 : ∀ w ∈ wsL_law0_r20, w ∈ lw_tbl := mem_at [29, 491, 494, 30, 495, 496, 793, 794, 795, 796, 797, 799, 46, 800, 605, 661, 662, 663, 664, 484, 485, 486, 487, 801] rfl
set_option maxRecDepth 40000 in
theorem in_wsL_law0_r21 : ∀ w ∈ wsL_law0_r21, w ∈ lw_tbl := mem_at [802, 803, 804, 497, 498, 499, 500, 805, 806, 807, 808] rfl
set_option maxRecDepth 40000 in
theorem in_wsX00 : ∀ w ∈ wsX00, w ∈ lw_tbl := mem_at [181, 183, 185, 187, 189, 191, 193, 195, 197] rfl
set_option maxRecDepth 40000 in
theorem in_wsX10 : ∀ w ∈ wsX10, w ∈ lw_tbl := mem_at [97, 99, 101, 103, 105, 107, 109, 111, 113] rfl
set_option maxRecDepth 40000 in
theorem in_wsX20 : ∀ w ∈ wsX20, w ∈ lw_tbl := mem_at [140, 142, 144, 146, 148, 150, 152, 154] rfl
set_option maxRecDepth 40000 in
theorem in_wsX30 : ∀ w ∈ wsX30, w ∈ lw_tbl := mem_at [219, 221, 223, 225, 227] rfl
set_option maxRecDepth 40000 in
theorem in_wsX40 : ∀ w ∈ wsX40, w ∈ lw_tbl := mem_at [245, 247, 249, 251, 253, 255, 257, 259, 261, 263, 265, 267, 269] rfl
set_option maxRecDepth 40000 in
theorem in_wsX50 : ∀ w ∈ wsX50, w ∈ lw_tbl := mem_at [608, 610, 612, 614, 616, 618, 620, 622, 624, 626, 628, 630, 632, 634, 636, 638, 640, 642, 644, 646, 648, 650, 652, 654, 656, 658] rfl
theorem wsL_law_in0 : ∀ w ∈ wsL_law0, w ∈ lw_tbl := fun w => (fun h => (List.mem_append.mp h).elim (fun h => (List.mem_append.mp h).elim (fun h => (List.mem_append.mp h).elim (fun h => (List.mem_append.mp h).elim (fun h => (List.mem_append.mp h).elim (fun h => (List.mem_append.mp h).elim (fun h => (List.mem_append.mp h).elim (fun h => (List.mem_append.mp h).elim (fun h => in_wsL_law0_r1 w h) (fun h => (List.mem_append.mp h).elim (fun h => in_wsL_law0_r2 w h) (fun h => (List.mem_append.mp h).elim (fun h => in_wsL_law0_r3 w h) (fun h => (List.mem_append.mp h).elim (fun h => in_wsL_law0_r4 w h) (fun h => (List.mem_append.mp h).elim (fun h => in_wsL_law0_r5 w h) (fun h => (List.mem_append.mp h).elim (fun h => in_wsL_law0_r6 w h) (fun h => (List.mem_append.mp h).elim (fun h => in_wsL_law0_r7 w h) (fun h => (List.mem_append.mp h).elim (fun h => in_wsL_law0_r8 w h) (fun h => (List.mem_append.mp h).elim (fun h => in_wsL_law0_r9 w h) (fun h => (List.mem_append.mp h).elim (fun h => in_wsL_law0_r10 w h) (fun h => (List.mem_append.mp h).elim (fun h => in_wsL_law0_r11 w h) (fun h => (List.mem_append.mp h).elim (fun h => in_wsL_law0_r12 w h) (fun h => (List.mem_append.mp h).elim (fun h => in_wsL_law0_r13 w h) (fun h => (List.mem_append.mp h).elim (fun h => in_wsL_law0_r14 w h) (fun h => (List.mem_append.mp h).elim (fun h => in_wsL_law0_r15 w h) (fun h => (List.mem_append.mp h).elim (fun h => in_wsL_law0_r16 w h) (fun h => (List.mem_append.mp h).elim (fun h => in_wsL_law0_r17 w h) (fun h => (List.mem_append.mp h).elim (fun h => in_wsL_law0_r18 w h) (fun h => (List.mem_append.mp h).elim (fun h => in_wsL_law0_r19 w h) (fun h => (List.mem_append.mp h).elim (fun h => in_wsL_law0_r20 w h) (fun h => in_wsL_law0_r21 w h))))))))))))))))))))) (fun h => in_wsX40 w h)) (fun h => in_wsX50 w h)) (fun h => in_wsX10 w h)) (fun h => in_wsX20 w h)) (fun h => in_wsX00 w h)) (fun h => in_wsX30 w h)) (fun h => nomatch h))
theorem wsL_law_in : ∀ w ∈ wsL_law, w ∈ lw_tbl := fun w h => (List.mem_append.mp h).elim (fun h => wsL_law_in0 w h) (fun h => nsGood_in w h)
