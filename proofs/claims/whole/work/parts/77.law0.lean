theorem wi_all {big : List Cond} (ws : List Cond) (ps : List Nat) (h : ws.map some = ps.map (fun i => big[i]?)) : ∀ w ∈ ws, w ∈ big := by
  intro w hw
  obtain ⟨k, hk⟩ := List.getElem?_of_mem hw
  have h1 : (ws.map some)[k]? = some (some w) := by rw [List.getElem?_map, hk]; rfl
  rw [h, List.getElem?_map] at h1
  cases hp : ps[k]? with
  | none => rw [hp] at h1; cases h1
  | some i =>
    rw [hp] at h1
    exact List.mem_of_getElem? (Option.some.inj h1)
set_option maxRecDepth 100000 in
theorem wi_r1 : ∀ w ∈ wsL_law_r1, w ∈ lw_tbl := wi_all _ [46, 47, 34, 502, 503, 41, 48, 49, 50, 51, 52, 53, 54, 55, 35, 193, 194, 195, 196, 197, 178, 179, 40, 198] (by decide +kernel)
set_option maxRecDepth 100000 in
theorem wi_r2 : ∀ w ∈ wsL_law_r2, w ∈ lw_tbl := wi_all _ [84, 199, 56, 57, 58, 59, 160, 60, 61, 36, 162, 85, 86, 37, 164, 116, 117, 38, 166, 62, 63, 64, 65, 75] (by decide +kernel)
set_option maxRecDepth 100000 in
theorem wi_r3 : ∀ w ∈ wsL_law_r3, w ∈ lw_tbl := wi_all _ [66, 67, 68, 69, 70, 72, 87, 88, 89, 90, 99, 101, 103, 91, 92, 93, 94, 95, 97, 118, 119, 120, 121, 137] (by decide +kernel)
set_option maxRecDepth 100000 in
theorem wi_r4 : ∀ w ∈ wsL_law_r4, w ∈ lw_tbl := wi_all _ [139, 141, 142, 122, 123, 124, 125, 129, 131, 133, 135, 126, 127, 39, 128, 180, 181, 182, 183, 184, 186, 504, 505, 506] (by decide +kernel)
set_option maxRecDepth 100000 in
theorem wi_r5 : ∀ w ∈ wsL_law_r5, w ∈ lw_tbl := wi_all _ [507, 512, 513, 515, 517, 519, 520, 521, 522, 508, 510, 12, 511, 215, 216, 217, 218, 163, 165, 167, 73, 219, 221, 0] (by decide +kernel)
set_option maxRecDepth 100000 in
theorem wi_r6 : ∀ w ∈ wsL_law_r6, w ∈ lw_tbl := wi_all _ [222, 223, 225, 1, 226, 227, 228, 229, 230, 231, 232, 233, 234, 235, 236, 237, 238, 239, 241, 240, 42, 242, 243, 244] (by decide +kernel)
set_option maxRecDepth 100000 in
theorem wi_r7 : ∀ w ∈ wsL_law_r7, w ∈ lw_tbl := wi_all _ [245, 246, 247, 248, 249, 546, 547, 548, 549, 550, 551, 552, 553, 555, 13, 556, 514, 250, 251, 252, 253, 130, 161, 557] (by decide +kernel)
set_option maxRecDepth 100000 in
theorem wi_r8 : ∀ w ∈ wsL_law_r8, w ∈ lw_tbl := wi_all _ [558, 559, 560, 254, 255, 256, 257, 98, 185, 187, 258, 259, 260, 261, 262, 263, 264, 265, 74, 266, 267, 268, 269, 270] (by decide +kernel)
set_option maxRecDepth 100000 in
theorem wi_r9 : ∀ w ∈ wsL_law_r9, w ∈ lw_tbl := wi_all _ [271, 272, 273, 274, 275, 43, 276, 277, 278, 279, 280, 281, 282, 283, 284, 569, 570, 571, 572, 518, 573, 575, 14, 576] (by decide +kernel)
set_option maxRecDepth 100000 in
theorem wi_r10 : ∀ w ∈ wsL_law_r10, w ∈ lw_tbl := wi_all _ [577, 579, 15, 580, 581, 583, 16, 584, 585, 587, 17, 588, 589, 591, 18, 592, 593, 595, 19, 596, 285, 286, 287, 288] (by decide +kernel)
set_option maxRecDepth 100000 in
theorem wi_r11 : ∀ w ∈ wsL_law_r11, w ∈ lw_tbl := wi_all _ [71, 597, 598, 599, 600, 289, 290, 291, 292, 102, 293, 295, 2, 296, 297, 299, 3, 300, 301, 303, 4, 304, 132, 601] (by decide +kernel)
set_option maxRecDepth 100000 in
theorem wi_r12 : ∀ w ∈ wsL_law_r12, w ∈ lw_tbl := wi_all _ [602, 603, 604, 305, 306, 307, 308, 605, 606, 607, 608, 309, 310, 311, 312, 136, 134, 313, 314, 315, 316, 317, 318, 319] (by decide +kernel)
set_option maxRecDepth 100000 in
theorem wi_r13 : ∀ w ∈ wsL_law_r13, w ∈ lw_tbl := wi_all _ [320, 321, 322, 323, 324, 325, 326, 327, 328, 329, 330, 332, 5, 333, 334, 335, 336, 337, 338, 339, 340, 341, 342, 343] (by decide +kernel)
set_option maxRecDepth 100000 in
theorem wi_r14 : ∀ w ∈ wsL_law_r14, w ∈ lw_tbl := wi_all _ [344, 345, 346, 347, 349, 6, 350, 609, 610, 611, 612, 613, 615, 20, 616, 617, 619, 21, 620, 621, 623, 22, 624, 625] (by decide +kernel)
set_option maxRecDepth 100000 in
theorem wi_r15 : ∀ w ∈ wsL_law_r15, w ∈ lw_tbl := wi_all _ [627, 23, 628, 629, 631, 24, 632, 633, 635, 25, 636, 351, 352, 353, 354, 637, 638, 639, 640, 355, 356, 357, 358, 140] (by decide +kernel)
set_option maxRecDepth 100000 in
theorem wi_r16 : ∀ w ∈ wsL_law_r16, w ∈ lw_tbl := wi_all _ [359, 360, 641, 642, 643, 644, 361, 362, 363, 364, 645, 646, 647, 648, 365, 366, 367, 368, 369, 370, 371, 372, 373, 374] (by decide +kernel)
set_option maxRecDepth 100000 in
theorem wi_r17 : ∀ w ∈ wsL_law_r17, w ∈ lw_tbl := wi_all _ [375, 561, 562, 563, 564, 376, 377, 378, 379, 565, 566, 567, 568, 380, 381, 382, 383, 649, 650, 651, 652, 384, 385, 386] (by decide +kernel)
set_option maxRecDepth 100000 in
theorem wi_r18 : ∀ w ∈ wsL_law_r18, w ∈ lw_tbl := wi_all _ [387, 653, 654, 655, 656, 516, 388, 389, 390, 391, 657, 658, 659, 660, 392, 393, 394, 395, 396, 397, 398, 399, 400, 401] (by decide +kernel)
set_option maxRecDepth 100000 in
theorem wi_r19 : ∀ w ∈ wsL_law_r19, w ∈ lw_tbl := wi_all _ [402, 403, 404, 661, 662, 663, 664, 665, 667, 26, 668, 405, 406, 407, 408, 104, 669, 670, 671, 672, 409, 410, 411, 412] (by decide +kernel)
set_option maxRecDepth 100000 in
theorem wi_r20 : ∀ w ∈ wsL_law_r20, w ∈ lw_tbl := wi_all _ [100, 673, 674, 675, 676, 413, 414, 415, 416, 138, 677, 678, 679, 680, 417, 418, 419, 420, 681, 682, 683, 684, 421, 422] (by decide +kernel)
set_option maxRecDepth 100000 in
theorem wi_r21 : ∀ w ∈ wsL_law_r21, w ∈ lw_tbl := wi_all _ [423, 424, 425, 426, 427, 428, 685, 686, 687, 688, 429, 430, 431, 432, 433, 434, 435, 436, 437, 439, 7, 440, 689, 690] (by decide +kernel)
set_option maxRecDepth 100000 in
theorem wi_r22 : ∀ w ∈ wsL_law_r22, w ∈ lw_tbl := wi_all _ [691, 692, 693, 695, 27, 696, 441, 442, 443, 444, 445, 446, 447, 448, 449, 450, 451, 452, 453, 454, 455, 456, 458, 8] (by decide +kernel)
set_option maxRecDepth 100000 in
theorem wi_r23 : ∀ w ∈ wsL_law_r23, w ∈ lw_tbl := wi_all _ [459, 697, 698, 699, 700, 701, 703, 28, 704, 705, 707, 29, 708, 460, 461, 462, 463, 464, 465, 466, 467, 468, 469, 471] (by decide +kernel)
set_option maxRecDepth 100000 in
theorem wi_r24 : ∀ w ∈ wsL_law_r24, w ∈ lw_tbl := wi_all _ [9, 472, 709, 710, 711, 712, 713, 715, 30, 716, 473, 474, 475, 476, 477, 478, 44, 479, 717, 718, 719, 720, 480, 481] (by decide +kernel)
set_option maxRecDepth 100000 in
theorem wi_r25 : ∀ w ∈ wsL_law_r25, w ∈ lw_tbl := wi_all _ [482, 483, 76, 96, 484, 486, 10, 487, 488, 490, 11, 491, 492, 493, 494, 495, 496, 497, 45, 498, 499, 500, 501, 721] (by decide +kernel)
set_option maxRecDepth 100000 in
theorem wi_r26 : ∀ w ∈ wsL_law_r26, w ∈ lw_tbl := wi_all _ [722, 723, 724, 725, 727, 31, 728, 729, 731, 32, 732] (by decide +kernel)
theorem wx_5 : ∀ w ∈ wsX50, w ∈ lw_tbl := by decide +kernel
theorem wx_6 : ∀ w ∈ wsX60, w ∈ lw_tbl := by decide +kernel
theorem wx_3 : ∀ w ∈ wsX30, w ∈ lw_tbl := by decide +kernel
theorem wx_4 : ∀ w ∈ wsX40, w ∈ lw_tbl := by decide +kernel
theorem wx_0 : ∀ w ∈ wsX00, w ∈ lw_tbl := by decide +kernel
theorem wx_2 : ∀ w ∈ wsX20, w ∈ lw_tbl := by decide +kernel
theorem wx_1 : ∀ w ∈ wsX10, w ∈ lw_tbl := by decide +kernel
theorem wsL_law_in : ∀ w ∈ wsL_law, w ∈ lw_tbl := List.forall_mem_append.mpr ⟨List.forall_mem_append.mpr ⟨List.forall_mem_append.mpr ⟨List.forall_mem_append.mpr ⟨List.forall_mem_append.mpr ⟨List.forall_mem_append.mpr ⟨List.forall_mem_append.mpr ⟨List.forall_mem_append.mpr ⟨List.forall_mem_append.mpr ⟨wi_r1, List.forall_mem_append.mpr ⟨wi_r2, List.forall_mem_append.mpr ⟨wi_r3, List.forall_mem_append.mpr ⟨wi_r4, List.forall_mem_append.mpr ⟨wi_r5, List.forall_mem_append.mpr ⟨wi_r6, List.forall_mem_append.mpr ⟨wi_r7, List.forall_mem_append.mpr ⟨wi_r8, List.forall_mem_append.mpr ⟨wi_r9, List.forall_mem_append.mpr ⟨wi_r10, List.forall_mem_append.mpr ⟨wi_r11, List.forall_mem_append.mpr ⟨wi_r12, List.forall_mem_append.mpr ⟨wi_r13, List.forall_mem_append.mpr ⟨wi_r14, List.forall_mem_append.mpr ⟨wi_r15, List.forall_mem_append.mpr ⟨wi_r16, List.forall_mem_append.mpr ⟨wi_r17, List.forall_mem_append.mpr ⟨wi_r18, List.forall_mem_append.mpr ⟨wi_r19, List.forall_mem_append.mpr ⟨wi_r20, List.forall_mem_append.mpr ⟨wi_r21, List.forall_mem_append.mpr ⟨wi_r22, List.forall_mem_append.mpr ⟨wi_r23, List.forall_mem_append.mpr ⟨wi_r24, List.forall_mem_append.mpr ⟨wi_r25, wi_r26⟩⟩⟩⟩⟩⟩⟩⟩⟩⟩⟩⟩⟩⟩⟩⟩⟩⟩⟩⟩⟩⟩⟩⟩⟩, wx_5⟩, wx_6⟩, wx_3⟩, wx_4⟩, wx_0⟩, wx_2⟩, wx_1⟩, fun _ h => absurd h List.not_mem_nil⟩
theorem inlX0 : ∀ w ∈ wsX00, w ∈ wsL_law := fun _ h => List.mem_append_left _ (List.mem_append_left _ (List.mem_append_left _ (List.mem_append_right _ h)))
theorem inX0 : ∀ w ∈ wsX00, w ∈ lw_tbl := fun w h => wsL_law_in w (inlX0 w h)
theorem inlX1 : ∀ w ∈ wsX10, w ∈ wsL_law := fun _ h => List.mem_append_left _ (List.mem_append_right _ h)
theorem inX1 : ∀ w ∈ wsX10, w ∈ lw_tbl := fun w h => wsL_law_in w (inlX1 w h)
theorem inlX2 : ∀ w ∈ wsX20, w ∈ wsL_law := fun _ h => List.mem_append_left _ (List.mem_append_left _ (List.mem_append_right _ h))
theorem inX2 : ∀ w ∈ wsX20, w ∈ lw_tbl := fun w h => wsL_law_in w (inlX2 w h)
theorem inlX3 : ∀ w ∈ wsX30, w ∈ wsL_law := fun _ h => List.mem_append_left _ (List.mem_append_left _ (List.mem_append_left _ (List.mem_append_left _ (List.mem_append_left _ (List.mem_append_right _ h)))))
theorem inX3 : ∀ w ∈ wsX30, w ∈ lw_tbl := fun w h => wsL_law_in w (inlX3 w h)
theorem inlX4 : ∀ w ∈ wsX40, w ∈ wsL_law := fun _ h => List.mem_append_left _ (List.mem_append_left _ (List.mem_append_left _ (List.mem_append_left _ (List.mem_append_right _ h))))
theorem inX4 : ∀ w ∈ wsX40, w ∈ lw_tbl := fun w h => wsL_law_in w (inlX4 w h)
theorem inlX5 : ∀ w ∈ wsX50, w ∈ wsL_law := fun _ h => List.mem_append_left _ (List.mem_append_left _ (List.mem_append_left _ (List.mem_append_left _ (List.mem_append_left _ (List.mem_append_left _ (List.mem_append_left _ (List.mem_append_right _ h)))))))
theorem inX5 : ∀ w ∈ wsX50, w ∈ lw_tbl := fun w h => wsL_law_in w (inlX5 w h)
theorem inlX6 : ∀ w ∈ wsX60, w ∈ wsL_law := fun _ h => List.mem_append_left _ (List.mem_append_left _ (List.mem_append_left _ (List.mem_append_left _ (List.mem_append_left _ (List.mem_append_left _ (List.mem_append_right _ h))))))
theorem inX6 : ∀ w ∈ wsX60, w ∈ lw_tbl := fun w h => wsL_law_in w (inlX6 w h)
theorem inJ6 : ∀ w ∈ wsJ60, w ∈ lw_tbl := by decide +kernel
theorem inJ13 : ∀ w ∈ wsJ130, w ∈ lw_tbl := by decide +kernel
theorem inJ9 : ∀ w ∈ wsJ90, w ∈ lw_tbl := by decide +kernel
theorem inJ10 : ∀ w ∈ wsJ100, w ∈ lw_tbl := by decide +kernel
theorem inJ7 : ∀ w ∈ wsJ70, w ∈ lw_tbl := by decide +kernel
