theorem mem_r {big : List Cond} (ws : List Cond) (ps : List Nat) (hp : ws = ps.filterMap (fun i => big[i]?)) : ∀ w ∈ ws, w ∈ big := by
  intro w hw
  rw [hp] at hw
  obtain ⟨i, -, hi⟩ := List.mem_filterMap.mp hw
  exact List.mem_of_getElem? hi
set_option maxRecDepth 20000 in
theorem in_wsL_law_r1 : ∀ w ∈ wsL_law_r1, w ∈ lw_tbl := mem_r wsL_law_r1 [36, 37, 27, 447, 448, 33, 38, 39, 40, 41, 42, 43, 44, 45, 28, 133, 58, 59, 29, 134, 73, 74, 30, 135] (by decide +kernel)
set_option maxRecDepth 20000 in
theorem in_wsL_law_r2 : ∀ w ∈ wsL_law_r2, w ∈ lw_tbl := mem_r wsL_law_r2 [116, 117, 32, 136, 57, 137, 138, 139, 140, 141, 142, 143, 144, 46, 47, 48, 49, 50, 51, 61, 62, 63, 64, 75] (by decide +kernel)
set_option maxRecDepth 20000 in
theorem in_wsL_law_r3 : ∀ w ∈ wsL_law_r3, w ∈ lw_tbl := mem_r wsL_law_r3 [76, 77, 78, 79, 107, 81, 31, 83, 84, 85, 86, 88, 119, 120, 121, 122, 123, 449, 450, 451, 452, 453, 454, 455] (by decide +kernel)
set_option maxRecDepth 20000 in
theorem in_wsL_law_r4 : ∀ w ∈ wsL_law_r4, w ∈ lw_tbl := mem_r wsL_law_r4 [457, 460, 461, 462, 464, 466, 467, 468, 470, 471, 170, 171, 172, 173, 174, 175, 176, 177, 178, 179, 180, 181, 182, 183] (by decide +kernel)
set_option maxRecDepth 20000 in
theorem in_wsL_law_r5 : ∀ w ∈ wsL_law_r5, w ∈ lw_tbl := mem_r wsL_law_r5 [184, 185, 186, 187, 190, 192, 0, 193, 194, 195, 196, 197, 124, 198, 199, 200, 201, 202, 204, 1, 205, 109, 206, 207] (by decide +kernel)
set_option maxRecDepth 20000 in
theorem in_wsL_law_r6 : ∀ w ∈ wsL_law_r6, w ∈ lw_tbl := mem_r wsL_law_r6 [34, 208, 210, 212, 2, 213, 214, 216, 3, 217, 218, 220, 4, 221, 222, 223, 224, 225, 227, 229, 5, 230, 231, 232] (by decide +kernel)
set_option maxRecDepth 20000 in
theorem in_wsL_law_r7 : ∀ w ∈ wsL_law_r7, w ∈ lw_tbl := mem_r wsL_law_r7 [233, 234, 235, 511, 512, 513, 514, 515, 516, 517, 518, 520, 15, 521, 458, 522, 524, 16, 525, 465, 526, 528, 17, 529] (by decide +kernel)
set_option maxRecDepth 20000 in
theorem in_wsL_law_r8 : ∀ w ∈ wsL_law_r8, w ∈ lw_tbl := mem_r wsL_law_r8 [530, 532, 18, 533, 236, 237, 238, 239, 240, 241, 242, 243, 244, 245, 246, 247, 248, 249, 250, 534, 535, 536, 537, 251] (by decide +kernel)
set_option maxRecDepth 20000 in
theorem in_wsL_law_r9 : ∀ w ∈ wsL_law_r9, w ∈ lw_tbl := mem_r wsL_law_r9 [252, 253, 254, 538, 539, 540, 541, 255, 256, 257, 258, 259, 260, 261, 262, 65, 542, 543, 544, 545, 463, 263, 264, 265] (by decide +kernel)
set_option maxRecDepth 20000 in
theorem in_wsL_law_r10 : ∀ w ∈ wsL_law_r10, w ∈ lw_tbl := mem_r wsL_law_r10 [266, 267, 268, 269, 270, 546, 547, 548, 549, 271, 272, 273, 274, 275, 276, 277, 278, 279, 280, 281, 282, 283, 284, 285] (by decide +kernel)
set_option maxRecDepth 20000 in
theorem in_wsL_law_r11 : ∀ w ∈ wsL_law_r11, w ∈ lw_tbl := mem_r wsL_law_r11 [286, 550, 551, 552, 553, 554, 556, 19, 557, 287, 288, 289, 290, 291, 292, 293, 294, 295, 296, 558, 559, 560, 561, 562] (by decide +kernel)
set_option maxRecDepth 20000 in
theorem in_wsL_law_r12 : ∀ w ∈ wsL_law_r12, w ∈ lw_tbl := mem_r wsL_law_r12 [564, 20, 565, 297, 298, 299, 300, 566, 567, 568, 569, 301, 302, 303, 304, 570, 571, 572, 573, 305, 306, 307, 308, 574] (by decide +kernel)
set_option maxRecDepth 20000 in
theorem in_wsL_law_r13 : ∀ w ∈ wsL_law_r13, w ∈ lw_tbl := mem_r wsL_law_r13 [575, 576, 577, 309, 310, 311, 312, 578, 579, 580, 581, 313, 314, 315, 316, 582, 583, 584, 585, 317, 318, 319, 320, 586] (by decide +kernel)
set_option maxRecDepth 20000 in
theorem in_wsL_law_r14 : ∀ w ∈ wsL_law_r14, w ∈ lw_tbl := mem_r wsL_law_r14 [587, 588, 589, 459, 321, 322, 323, 324, 325, 326, 327, 590, 591, 592, 593, 456, 328, 329, 330, 331, 594, 595, 596, 597] (by decide +kernel)
set_option maxRecDepth 20000 in
theorem in_wsL_law_r15 : ∀ w ∈ wsL_law_r15, w ∈ lw_tbl := mem_r wsL_law_r15 [332, 333, 334, 335, 336, 338, 6, 339, 340, 342, 7, 343, 344, 346, 8, 347, 348, 350, 9, 351, 352, 354, 10, 355] (by decide +kernel)
set_option maxRecDepth 20000 in
theorem in_wsL_law_r16 : ∀ w ∈ wsL_law_r16, w ∈ lw_tbl := mem_r wsL_law_r16 [356, 357, 35, 358, 359, 360, 361, 598, 599, 600, 601, 602, 603, 604, 362, 363, 364, 365, 366, 367, 368, 369, 370, 371] (by decide +kernel)
set_option maxRecDepth 20000 in
theorem in_wsL_law_r17 : ∀ w ∈ wsL_law_r17, w ∈ lw_tbl := mem_r wsL_law_r17 [34, 372, 605, 606, 607, 608, 373, 374, 375, 376, 609, 610, 611, 612, 377, 378, 379, 380, 613, 614, 615, 616, 381, 382] (by decide +kernel)
set_option maxRecDepth 20000 in
theorem in_wsL_law_r18 : ∀ w ∈ wsL_law_r18, w ∈ lw_tbl := mem_r wsL_law_r18 [383, 384, 617, 618, 619, 620, 385, 386, 387, 388, 621, 622, 623, 624, 389, 390, 391, 392, 393, 395, 11, 396, 397, 398] (by decide +kernel)
set_option maxRecDepth 20000 in
theorem in_wsL_law_r19 : ∀ w ∈ wsL_law_r19, w ∈ lw_tbl := mem_r wsL_law_r19 [399, 400, 401, 402, 403, 404, 405, 406, 407, 408, 625, 626, 627, 628, 629, 631, 21, 632, 469, 633, 635, 22, 636, 637] (by decide +kernel)
set_option maxRecDepth 20000 in
theorem in_wsL_law_r20 : ∀ w ∈ wsL_law_r20, w ∈ lw_tbl := mem_r wsL_law_r20 [639, 23, 640, 409, 410, 411, 412, 413, 415, 12, 416, 641, 642, 643, 644, 645, 647, 24, 648, 417, 418, 419, 420, 649] (by decide +kernel)
set_option maxRecDepth 20000 in
theorem in_wsL_law_r21 : ∀ w ∈ wsL_law_r21, w ∈ lw_tbl := mem_r wsL_law_r21 [650, 651, 652, 653, 421, 422, 423, 424, 425, 427, 13, 428, 654, 655, 656, 657, 429, 430, 431, 432, 658, 659, 660, 661] (by decide +kernel)
set_option maxRecDepth 20000 in
theorem in_wsL_law_r22 : ∀ w ∈ wsL_law_r22, w ∈ lw_tbl := mem_r wsL_law_r22 [662, 433, 434, 435, 436, 437, 439, 14, 440, 663, 664, 665, 666, 667, 669, 25, 670, 441, 442, 443, 444, 445, 671, 672] (by decide +kernel)
set_option maxRecDepth 20000 in
theorem in_wsL_law_r23 : ∀ w ∈ wsL_law_r23, w ∈ lw_tbl := mem_r wsL_law_r23 [673, 674] (by decide +kernel)
set_option maxRecDepth 20000 in
theorem in_wsX00 : ∀ w ∈ wsX00, w ∈ lw_tbl := mem_r wsX00 [52, 54] (by decide +kernel)
set_option maxRecDepth 20000 in
theorem in_wsX10 : ∀ w ∈ wsX10, w ∈ lw_tbl := mem_r wsX10 [98, 100, 102, 104] (by decide +kernel)
set_option maxRecDepth 20000 in
theorem in_wsX20 : ∀ w ∈ wsX20, w ∈ lw_tbl := mem_r wsX20 [111, 113] (by decide +kernel)
set_option maxRecDepth 20000 in
theorem in_wsX30 : ∀ w ∈ wsX30, w ∈ lw_tbl := mem_r wsX30 [126, 128, 130] (by decide +kernel)
set_option maxRecDepth 20000 in
theorem in_wsX40 : ∀ w ∈ wsX40, w ∈ lw_tbl := mem_r wsX40 [68, 70] (by decide +kernel)
set_option maxRecDepth 20000 in
theorem in_wsX50 : ∀ w ∈ wsX50, w ∈ lw_tbl := mem_r wsX50 [145, 147, 149, 151, 153, 155, 157, 159, 161, 163, 165, 167] (by decide +kernel)
set_option maxRecDepth 20000 in
theorem in_wsX60 : ∀ w ∈ wsX60, w ∈ lw_tbl := mem_r wsX60 [472, 474, 476, 478, 480, 482, 484, 486, 488, 490, 492, 494, 496, 498, 500, 502, 504, 506, 508] (by decide +kernel)
theorem wsL_law_in : ∀ w ∈ wsL_law, w ∈ lw_tbl := by
  unfold wsL_law
  simp only [List.forall_mem_append]
  exact ⟨⟨⟨⟨⟨⟨⟨⟨⟨in_wsL_law_r1, ⟨in_wsL_law_r2, ⟨in_wsL_law_r3, ⟨in_wsL_law_r4, ⟨in_wsL_law_r5, ⟨in_wsL_law_r6, ⟨in_wsL_law_r7, ⟨in_wsL_law_r8, ⟨in_wsL_law_r9, ⟨in_wsL_law_r10, ⟨in_wsL_law_r11, ⟨in_wsL_law_r12, ⟨in_wsL_law_r13, ⟨in_wsL_law_r14, ⟨in_wsL_law_r15, ⟨in_wsL_law_r16, ⟨in_wsL_law_r17, ⟨in_wsL_law_r18, ⟨in_wsL_law_r19, ⟨in_wsL_law_r20, ⟨in_wsL_law_r21, ⟨in_wsL_law_r22, in_wsL_law_r23⟩⟩⟩⟩⟩⟩⟩⟩⟩⟩⟩⟩⟩⟩⟩⟩⟩⟩⟩⟩⟩⟩, in_wsX50⟩, in_wsX60⟩, in_wsX00⟩, in_wsX40⟩, in_wsX20⟩, in_wsX30⟩, in_wsX10⟩, fun _ h => absurd h List.not_mem_nil⟩
