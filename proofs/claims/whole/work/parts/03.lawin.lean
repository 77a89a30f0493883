theorem mem_r {big : List Cond} (ws : List Cond) (ps : List Nat) (hp : ws = ps.filterMap (fun i => big[i]?)) : ∀ w ∈ ws, w ∈ big := by
  intro w hw
  rw [hp] at hw
  obtain ⟨i, -, hi⟩ := List.mem_filterMap.mp hw
  exact List.mem_of_getElem? hi
set_option maxRecDepth 20000 in
theorem lin_wsL_law_r1 : ∀ w ∈ wsL_law_r1, w ∈ lw_tbl := mem_r _ [54, 55, 45, 552, 553, 50, 784, 56, 57, 58, 59, 60, 61, 62, 63, 46, 211, 212, 158, 159, 48, 213, 192, 193] (by decide +kernel)
set_option maxRecDepth 20000 in
theorem lin_wsL_law_r2 : ∀ w ∈ wsL_law_r2, w ∈ lw_tbl := mem_r _ [49, 214, 215, 64, 65, 66, 67, 70, 71, 72, 73, 74, 76, 104, 77, 78, 47, 105, 107, 108, 109, 79, 80, 81] (by decide +kernel)
set_option maxRecDepth 20000 in
theorem lin_wsL_law_r3 : ∀ w ∈ wsL_law_r3, w ∈ lw_tbl := mem_r _ [82, 103, 83, 84, 85, 88, 160, 161, 162, 163, 191, 164, 194, 195, 196, 197, 198, 200, 554, 555, 556, 557, 558, 559] (by decide +kernel)
set_option maxRecDepth 20000 in
theorem lin_wsL_law_r4 : ∀ w ∈ wsL_law_r4, w ∈ lw_tbl := mem_r _ [561, 580, 562, 563, 227, 228, 229, 230, 231, 233, 235, 236, 237, 238, 202, 201, 239, 241, 0, 242, 243, 244, 51, 245] (by decide +kernel)
set_option maxRecDepth 20000 in
theorem lin_wsL_law_r5 : ∀ w ∈ wsL_law_r5, w ∈ lw_tbl := mem_r _ [246, 247, 248, 249, 250, 251, 253, 252, 52, 110, 111, 112, 113, 114, 115, 116, 118, 119, 120, 121, 122, 254, 255, 256] (by decide +kernel)
set_option maxRecDepth 20000 in
theorem lin_wsL_law_r6 : ∀ w ∈ wsL_law_r6, w ∈ lw_tbl := mem_r _ [257, 258, 86, 89, 259, 260, 261, 262, 581, 582, 583, 584, 585, 586, 587, 588, 589, 590, 591, 592, 593, 594, 596, 19] (by decide +kernel)
set_option maxRecDepth 20000 in
theorem lin_wsL_law_r7 : ∀ w ∈ wsL_law_r7, w ∈ lw_tbl := mem_r _ [597, 560, 263, 264, 265, 266, 267, 269, 1, 270, 271, 272, 273, 274, 276, 277, 278, 279, 280, 281, 282, 283, 284, 285] (by decide +kernel)
set_option maxRecDepth 20000 in
theorem lin_wsL_law_r8 : ∀ w ∈ wsL_law_r8, w ∈ lw_tbl := mem_r _ [294, 295, 51, 296, 286, 288, 2, 289, 301, 302, 303, 290, 291, 292, 293, 297, 298, 299, 300, 304, 305, 306, 307, 308] (by decide +kernel)
set_option maxRecDepth 20000 in
theorem lin_wsL_law_r9 : ∀ w ∈ wsL_law_r9, w ∈ lw_tbl := mem_r _ [310, 3, 311, 313, 314, 315, 317, 4, 318, 322, 323, 324, 320, 321, 325, 327, 5, 328, 329, 331, 6, 332, 333, 335] (by decide +kernel)
set_option maxRecDepth 20000 in
theorem lin_wsL_law_r10 : ∀ w ∈ wsL_law_r10, w ∈ lw_tbl := mem_r _ [7, 336, 337, 339, 8, 340, 341, 343, 9, 344, 345, 346, 53, 347, 348, 349, 350, 351, 352, 353, 354, 355, 356, 598] (by decide +kernel)
set_option maxRecDepth 20000 in
theorem lin_wsL_law_r11 : ∀ w ∈ wsL_law_r11, w ∈ lw_tbl := mem_r _ [599, 600, 601, 602, 604, 20, 605, 606, 607, 608, 609, 611, 21, 612, 613, 614, 615, 616, 618, 22, 619, 620, 622, 23] (by decide +kernel)
set_option maxRecDepth 20000 in
theorem lin_wsL_law_r12 : ∀ w ∈ wsL_law_r12, w ∈ lw_tbl := mem_r _ [623, 624, 625, 626, 627, 629, 24, 630, 631, 633, 25, 634, 635, 637, 26, 638, 639, 641, 27, 642, 643, 645, 28, 646] (by decide +kernel)
set_option maxRecDepth 20000 in
theorem lin_wsL_law_r13 : ∀ w ∈ wsL_law_r13, w ∈ lw_tbl := mem_r _ [647, 649, 29, 650, 651, 652, 653, 654, 656, 30, 657, 357, 358, 359, 360, 658, 659, 660, 661, 361, 362, 363, 364, 365] (by decide +kernel)
set_option maxRecDepth 20000 in
theorem lin_wsL_law_r14 : ∀ w ∈ wsL_law_r14, w ∈ lw_tbl := mem_r _ [366, 367, 368, 369, 370, 371, 372, 374, 10, 375, 376, 377, 378, 379, 662, 663, 664, 665, 666, 668, 31, 669, 670, 672] (by decide +kernel)
set_option maxRecDepth 20000 in
theorem lin_wsL_law_r15 : ∀ w ∈ wsL_law_r15, w ∈ lw_tbl := mem_r _ [32, 673, 674, 676, 33, 677, 380, 381, 382, 383, 384, 385, 386, 387, 388, 389, 390, 391, 678, 679, 680, 681, 682, 684] (by decide +kernel)
set_option maxRecDepth 20000 in
theorem lin_wsL_law_r16 : ∀ w ∈ wsL_law_r16, w ∈ lw_tbl := mem_r _ [34, 685, 392, 393, 394, 395, 396, 397, 398, 399, 686, 687, 688, 689, 400, 401, 402, 403, 404, 405, 406, 407, 408, 410] (by decide +kernel)
set_option maxRecDepth 20000 in
theorem lin_wsL_law_r17 : ∀ w ∈ wsL_law_r17, w ∈ lw_tbl := mem_r _ [11, 411, 412, 413, 414, 415, 690, 691, 692, 693, 416, 417, 418, 419, 420, 421, 422, 423, 694, 695, 696, 697, 424, 425] (by decide +kernel)
set_option maxRecDepth 20000 in
theorem lin_wsL_law_r18 : ∀ w ∈ wsL_law_r18, w ∈ lw_tbl := mem_r _ [426, 427, 428, 429, 430, 431, 698, 699, 700, 701, 564, 432, 433, 434, 435, 436, 437, 702, 703, 704, 705, 706, 708, 35] (by decide +kernel)
set_option maxRecDepth 20000 in
theorem lin_wsL_law_r19 : ∀ w ∈ wsL_law_r19, w ∈ lw_tbl := mem_r _ [709, 438, 439, 440, 441, 442, 443, 444, 445, 446, 710, 711, 712, 713, 447, 448, 449, 450, 451, 452, 453, 714, 715, 716] (by decide +kernel)
set_option maxRecDepth 20000 in
theorem lin_wsL_law_r20 : ∀ w ∈ wsL_law_r20, w ∈ lw_tbl := mem_r _ [717, 454, 455, 456, 457, 458, 718, 719, 720, 721, 459, 460, 461, 462, 463, 464, 465, 466, 165, 470, 467, 468, 469, 471] (by decide +kernel)
set_option maxRecDepth 20000 in
theorem lin_wsL_law_r21 : ∀ w ∈ wsL_law_r21, w ∈ lw_tbl := mem_r _ [472, 722, 723, 724, 725, 726, 473, 474, 475, 476, 477, 478, 479, 480, 727, 728, 729, 730, 481, 482, 483, 484, 485, 486] (by decide +kernel)
set_option maxRecDepth 20000 in
theorem lin_wsL_law_r22 : ∀ w ∈ wsL_law_r22, w ∈ lw_tbl := mem_r _ [487, 488, 167, 489, 490, 491, 492, 493, 494, 495, 496, 168, 174, 170, 497, 499, 12, 500, 501, 503, 13, 504, 172, 505] (by decide +kernel)
set_option maxRecDepth 20000 in
theorem lin_wsL_law_r23 : ∀ w ∈ wsL_law_r23, w ∈ lw_tbl := mem_r _ [507, 14, 508, 509, 511, 15, 512, 513, 514, 515, 516, 731, 732, 733, 734, 735, 737, 36, 738, 739, 741, 37, 742, 743] (by decide +kernel)
set_option maxRecDepth 20000 in
theorem lin_wsL_law_r24 : ∀ w ∈ wsL_law_r24, w ∈ lw_tbl := mem_r _ [745, 38, 746, 747, 749, 39, 750, 751, 753, 40, 754, 517, 518, 519, 520, 521, 523, 16, 524, 525, 526, 527, 529, 17] (by decide +kernel)
set_option maxRecDepth 20000 in
theorem lin_wsL_law_r25 : ∀ w ∈ wsL_law_r25, w ∈ lw_tbl := mem_r _ [530, 531, 533, 18, 534, 535, 755, 756, 757, 758, 759, 760, 762, 41, 763, 764, 766, 42, 767, 768, 770, 43, 771, 536] (by decide +kernel)
set_option maxRecDepth 20000 in
theorem lin_wsL_law_r26 : ∀ w ∈ wsL_law_r26, w ∈ lw_tbl := mem_r _ [537, 538, 539, 540, 541, 542, 543, 772, 773, 774, 775, 544, 545, 546, 547, 776, 777, 778, 779, 548, 549, 550, 551, 780] (by decide +kernel)
set_option maxRecDepth 20000 in
theorem lin_wsL_law_r27 : ∀ w ∈ wsL_law_r27, w ∈ lw_tbl := mem_r _ [781, 782, 783] (by decide +kernel)
set_option maxRecDepth 20000 in
theorem lin_wsX40 : ∀ w ∈ wsX40, w ∈ lw_tbl := mem_r _ [216, 218, 220, 222, 224] (by decide +kernel)
set_option maxRecDepth 20000 in
theorem lin_wsX50 : ∀ w ∈ wsX50, w ∈ lw_tbl := mem_r _ [565, 567, 569, 571, 573, 575, 577] (by decide +kernel)
set_option maxRecDepth 20000 in
theorem lin_wsX30 : ∀ w ∈ wsX30, w ∈ lw_tbl := mem_r _ [123, 125, 127, 129, 131, 133, 135, 137, 139, 141, 143, 145, 147, 149, 151, 153, 155] (by decide +kernel)
set_option maxRecDepth 20000 in
theorem lin_wsX20 : ∀ w ∈ wsX20, w ∈ lw_tbl := mem_r _ [176, 178, 180, 182, 184, 186, 188] (by decide +kernel)
set_option maxRecDepth 20000 in
theorem lin_wsX10 : ∀ w ∈ wsX10, w ∈ lw_tbl := mem_r _ [204, 206, 208] (by decide +kernel)
set_option maxRecDepth 20000 in
theorem lin_wsX00 : ∀ w ∈ wsX00, w ∈ lw_tbl := mem_r _ [90, 92, 94, 96, 98, 100] (by decide +kernel)
theorem lin_rs : ∀ w ∈ (wsL_law_r1 ++ (wsL_law_r2 ++ (wsL_law_r3 ++ (wsL_law_r4 ++ (wsL_law_r5 ++ (wsL_law_r6 ++ (wsL_law_r7 ++ (wsL_law_r8 ++ (wsL_law_r9 ++ (wsL_law_r10 ++ (wsL_law_r11 ++ (wsL_law_r12 ++ (wsL_law_r13 ++ (wsL_law_r14 ++ (wsL_law_r15 ++ (wsL_law_r16 ++ (wsL_law_r17 ++ (wsL_law_r18 ++ (wsL_law_r19 ++ (wsL_law_r20 ++ (wsL_law_r21 ++ (wsL_law_r22 ++ (wsL_law_r23 ++ (wsL_law_r24 ++ (wsL_law_r25 ++ (wsL_law_r26 ++ (wsL_law_r27))))))))))))))))))))))))))), w ∈ lw_tbl := List.forall_mem_append.mpr ⟨lin_wsL_law_r1, List.forall_mem_append.mpr ⟨lin_wsL_law_r2, List.forall_mem_append.mpr ⟨lin_wsL_law_r3, List.forall_mem_append.mpr ⟨lin_wsL_law_r4, List.forall_mem_append.mpr ⟨lin_wsL_law_r5, List.forall_mem_append.mpr ⟨lin_wsL_law_r6, List.forall_mem_append.mpr ⟨lin_wsL_law_r7, List.forall_mem_append.mpr ⟨lin_wsL_law_r8, List.forall_mem_append.mpr ⟨lin_wsL_law_r9, List.forall_mem_append.mpr ⟨lin_wsL_law_r10, List.forall_mem_append.mpr ⟨lin_wsL_law_r11, List.forall_mem_append.mpr ⟨lin_wsL_law_r12, List.forall_mem_append.mpr ⟨lin_wsL_law_r13, List.forall_mem_append.mpr ⟨lin_wsL_law_r14, List.forall_mem_append.mpr ⟨lin_wsL_law_r15, List.forall_mem_append.mpr ⟨lin_wsL_law_r16, List.forall_mem_append.mpr ⟨lin_wsL_law_r17, List.forall_mem_append.mpr ⟨lin_wsL_law_r18, List.forall_mem_append.mpr ⟨lin_wsL_law_r19, List.forall_mem_append.mpr ⟨lin_wsL_law_r20, List.forall_mem_append.mpr ⟨lin_wsL_law_r21, List.forall_mem_append.mpr ⟨lin_wsL_law_r22, List.forall_mem_append.mpr ⟨lin_wsL_law_r23, List.forall_mem_append.mpr ⟨lin_wsL_law_r24, List.forall_mem_append.mpr ⟨lin_wsL_law_r25, List.forall_mem_append.mpr ⟨lin_wsL_law_r26, lin_wsL_law_r27⟩⟩⟩⟩⟩⟩⟩⟩⟩⟩⟩⟩⟩⟩⟩⟩⟩⟩⟩⟩⟩⟩⟩⟩⟩⟩
theorem wsL_law_in : ∀ w ∈ wsL_law, w ∈ lw_tbl := List.forall_mem_append.mpr ⟨List.forall_mem_append.mpr ⟨List.forall_mem_append.mpr ⟨List.forall_mem_append.mpr ⟨List.forall_mem_append.mpr ⟨List.forall_mem_append.mpr ⟨List.forall_mem_append.mpr ⟨lin_rs, lin_wsX40⟩, lin_wsX50⟩, lin_wsX30⟩, lin_wsX20⟩, lin_wsX10⟩, lin_wsX00⟩, fun _ h => absurd h List.not_mem_nil⟩
theorem inlX0 : ∀ w ∈ wsX00, w ∈ wsL_law := fun _ h => List.mem_append_left _ (List.mem_append_right _ h)
theorem inlX1 : ∀ w ∈ wsX10, w ∈ wsL_law := fun _ h => List.mem_append_left _ (List.mem_append_left _ (List.mem_append_right _ h))
theorem inlX2 : ∀ w ∈ wsX20, w ∈ wsL_law := fun _ h => List.mem_append_left _ (List.mem_append_left _ (List.mem_append_left _ (List.mem_append_right _ h)))
theorem inlX3 : ∀ w ∈ wsX30, w ∈ wsL_law := fun _ h => List.mem_append_left _ (List.mem_append_left _ (List.mem_append_left _ (List.mem_append_left _ (List.mem_append_right _ h))))
theorem inlX4 : ∀ w ∈ wsX40, w ∈ wsL_law := fun _ h => List.mem_append_left _ (List.mem_append_left _ (List.mem_append_left _ (List.mem_append_left _ (List.mem_append_left _ (List.mem_append_left _ (List.mem_append_right _ h))))))
theorem inlX5 : ∀ w ∈ wsX50, w ∈ wsL_law := fun _ h => List.mem_append_left _ (List.mem_append_left _ (List.mem_append_left _ (List.mem_append_left _ (List.mem_append_left _ (List.mem_append_right _ h)))))
