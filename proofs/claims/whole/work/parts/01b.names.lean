theorem mem_r {big : List Cond} (ws : List Cond) (ps : List Nat) (hp : ws = ps.filterMap (fun i => big[i]?)) : ∀ w ∈ ws, w ∈ big := by
  intro w hw
  rw [hp] at hw
  obtain ⟨i, -, hi⟩ := List.mem_filterMap.mp hw
  exact List.mem_of_getElem? hi
set_option maxRecDepth 20000 in
theorem in_wsL_law_r1 : ∀ w ∈ wsL_law_r1, w ∈ lw_tbl := mem_r wsL_law_r1 [34, 35, 25, 429, 430, 31, 36, 37, 38, 39, 40, 41, 42, 43, 26, 132, 56, 57, 27, 133, 72, 73, 28, 134] (by decide +kernel)
set_option maxRecDepth 20000 in
theorem in_wsL_law_r2 : ∀ w ∈ wsL_law_r2, w ∈ lw_tbl := mem_r wsL_law_r2 [115, 116, 30, 135, 55, 136, 137, 138, 139, 140, 141, 142, 143, 44, 45, 46, 47, 48, 49, 59, 60, 61, 62, 74] (by decide +kernel)
set_option maxRecDepth 20000 in
theorem in_wsL_law_r3 : ∀ w ∈ wsL_law_r3, w ∈ lw_tbl := mem_r wsL_law_r3 [75, 76, 77, 78, 106, 80, 29, 82, 83, 84, 85, 87, 118, 119, 120, 121, 122, 431, 432, 433, 434, 435, 436, 437] (by decide +kernel)
set_option maxRecDepth 20000 in
theorem in_wsL_law_r4 : ∀ w ∈ wsL_law_r4, w ∈ lw_tbl := mem_r wsL_law_r4 [439, 442, 443, 444, 446, 448, 449, 450, 452, 453, 169, 170, 171, 172, 173, 174, 175, 176, 177, 178, 179, 180, 181, 182] (by decide +kernel)
set_option maxRecDepth 20000 in
theorem in_wsL_law_r5 : ∀ w ∈ wsL_law_r5, w ∈ lw_tbl := mem_r wsL_law_r5 [183, 184, 185, 186, 189, 191, 0, 192, 193, 194, 195, 196, 123, 197, 198, 199, 200, 107, 202, 204, 1, 205, 206, 208] (by decide +kernel)
set_option maxRecDepth 20000 in
theorem in_wsL_law_r6 : ∀ w ∈ wsL_law_r6, w ∈ lw_tbl := mem_r wsL_law_r6 [2, 209, 210, 212, 3, 213, 214, 216, 4, 217, 218, 219, 220, 221, 222, 493, 494, 495, 496, 497, 498, 499, 500, 502] (by decide +kernel)
set_option maxRecDepth 20000 in
theorem in_wsL_law_r7 : ∀ w ∈ wsL_law_r7, w ∈ lw_tbl := mem_r wsL_law_r7 [13, 503, 440, 504, 506, 14, 507, 447, 508, 510, 15, 511, 512, 514, 16, 515, 223, 224, 225, 226, 227, 228, 229, 230] (by decide +kernel)
set_option maxRecDepth 20000 in
theorem in_wsL_law_r8 : ∀ w ∈ wsL_law_r8, w ∈ lw_tbl := mem_r wsL_law_r8 [231, 232, 233, 234, 235, 236, 237, 516, 517, 518, 519, 238, 239, 240, 241, 520, 521, 522, 523, 242, 243, 244, 245, 246] (by decide +kernel)
set_option maxRecDepth 20000 in
theorem in_wsL_law_r9 : ∀ w ∈ wsL_law_r9, w ∈ lw_tbl := mem_r wsL_law_r9 [247, 248, 249, 64, 524, 525, 526, 527, 445, 250, 251, 252, 253, 254, 255, 256, 257, 528, 529, 530, 531, 258, 259, 260] (by decide +kernel)
set_option maxRecDepth 20000 in
theorem in_wsL_law_r10 : ∀ w ∈ wsL_law_r10, w ∈ lw_tbl := mem_r wsL_law_r10 [261, 262, 263, 264, 265, 266, 267, 268, 269, 270, 271, 272, 532, 533, 534, 535, 536, 538, 17, 539, 273, 274, 275, 276] (by decide +kernel)
set_option maxRecDepth 20000 in
theorem in_wsL_law_r11 : ∀ w ∈ wsL_law_r11, w ∈ lw_tbl := mem_r wsL_law_r11 [277, 278, 279, 280, 281, 282, 540, 541, 542, 543, 544, 546, 18, 547, 283, 284, 285, 286, 548, 549, 550, 551, 287, 288] (by decide +kernel)
set_option maxRecDepth 20000 in
theorem in_wsL_law_r12 : ∀ w ∈ wsL_law_r12, w ∈ lw_tbl := mem_r wsL_law_r12 [289, 290, 552, 553, 554, 555, 291, 292, 293, 294, 556, 557, 558, 559, 295, 296, 297, 298, 560, 561, 562, 563, 299, 300] (by decide +kernel)
set_option maxRecDepth 20000 in
theorem in_wsL_law_r13 : ∀ w ∈ wsL_law_r13, w ∈ lw_tbl := mem_r wsL_law_r13 [301, 302, 564, 565, 566, 567, 303, 304, 305, 306, 568, 569, 570, 571, 441, 307, 308, 309, 310, 311, 312, 313, 572, 573] (by decide +kernel)
set_option maxRecDepth 20000 in
theorem in_wsL_law_r14 : ∀ w ∈ wsL_law_r14, w ∈ lw_tbl := mem_r wsL_law_r14 [574, 575, 438, 314, 315, 316, 317, 576, 577, 578, 579, 318, 319, 320, 321, 322, 324, 5, 325, 326, 328, 6, 329, 330] (by decide +kernel)
set_option maxRecDepth 20000 in
theorem in_wsL_law_r15 : ∀ w ∈ wsL_law_r15, w ∈ lw_tbl := mem_r wsL_law_r15 [332, 7, 333, 334, 336, 8, 337, 338, 339, 32, 340, 341, 342, 343, 580, 581, 582, 583, 584, 585, 586, 344, 345, 346] (by decide +kernel)
set_option maxRecDepth 20000 in
theorem in_wsL_law_r16 : ∀ w ∈ wsL_law_r16, w ∈ lw_tbl := mem_r wsL_law_r16 [347, 348, 349, 350, 351, 352, 353, 33, 354, 587, 588, 589, 590, 355, 356, 357, 358, 591, 592, 593, 594, 359, 360, 361] (by decide +kernel)
set_option maxRecDepth 20000 in
theorem in_wsL_law_r17 : ∀ w ∈ wsL_law_r17, w ∈ lw_tbl := mem_r wsL_law_r17 [362, 595, 596, 597, 598, 363, 364, 365, 366, 599, 600, 601, 602, 367, 368, 369, 370, 603, 604, 605, 606, 371, 372, 373] (by decide +kernel)
set_option maxRecDepth 20000 in
theorem in_wsL_law_r18 : ∀ w ∈ wsL_law_r18, w ∈ lw_tbl := mem_r wsL_law_r18 [374, 375, 377, 9, 378, 379, 380, 381, 382, 383, 384, 385, 386, 387, 388, 389, 390, 607, 608, 609, 610, 611, 613, 19] (by decide +kernel)
set_option maxRecDepth 20000 in
theorem in_wsL_law_r19 : ∀ w ∈ wsL_law_r19, w ∈ lw_tbl := mem_r wsL_law_r19 [614, 451, 615, 617, 20, 618, 619, 621, 21, 622, 391, 392, 393, 394, 395, 397, 10, 398, 623, 624, 625, 626, 627, 629] (by decide +kernel)
set_option maxRecDepth 20000 in
theorem in_wsL_law_r20 : ∀ w ∈ wsL_law_r20, w ∈ lw_tbl := mem_r wsL_law_r20 [22, 630, 399, 400, 401, 402, 631, 632, 633, 634, 635, 403, 404, 405, 406, 407, 409, 11, 410, 636, 637, 638, 639, 411] (by decide +kernel)
set_option maxRecDepth 20000 in
theorem in_wsL_law_r21 : ∀ w ∈ wsL_law_r21, w ∈ lw_tbl := mem_r wsL_law_r21 [412, 413, 414, 640, 641, 642, 643, 644, 415, 416, 417, 418, 419, 421, 12, 422, 645, 646, 647, 648, 649, 651, 23, 652] (by decide +kernel)
set_option maxRecDepth 20000 in
theorem in_wsL_law_r22 : ∀ w ∈ wsL_law_r22, w ∈ lw_tbl := mem_r wsL_law_r22 [423, 424, 425, 426, 427, 653, 654, 655, 656] (by decide +kernel)
set_option maxRecDepth 20000 in
theorem in_wsX00 : ∀ w ∈ wsX00, w ∈ lw_tbl := mem_r wsX00 [50, 52] (by decide +kernel)
set_option maxRecDepth 20000 in
theorem in_wsX10 : ∀ w ∈ wsX10, w ∈ lw_tbl := mem_r wsX10 [97, 99, 101, 103] (by decide +kernel)
set_option maxRecDepth 20000 in
theorem in_wsX20 : ∀ w ∈ wsX20, w ∈ lw_tbl := mem_r wsX20 [110, 112] (by decide +kernel)
set_option maxRecDepth 20000 in
theorem in_wsX30 : ∀ w ∈ wsX30, w ∈ lw_tbl := mem_r wsX30 [125, 127, 129] (by decide +kernel)
set_option maxRecDepth 20000 in
theorem in_wsX40 : ∀ w ∈ wsX40, w ∈ lw_tbl := mem_r wsX40 [67, 69] (by decide +kernel)
set_option maxRecDepth 20000 in
theorem in_wsX50 : ∀ w ∈ wsX50, w ∈ lw_tbl := mem_r wsX50 [144, 146, 148, 150, 152, 154, 156, 158, 160, 162, 164, 166] (by decide +kernel)
set_option maxRecDepth 20000 in
theorem in_wsX60 : ∀ w ∈ wsX60, w ∈ lw_tbl := mem_r wsX60 [454, 456, 458, 460, 462, 464, 466, 468, 470, 472, 474, 476, 478, 480, 482, 484, 486, 488, 490] (by decide +kernel)
theorem wsL_law_in : ∀ w ∈ wsL_law, w ∈ lw_tbl := by
  unfold wsL_law
  simp only [List.forall_mem_append]
  exact ⟨⟨⟨⟨⟨⟨⟨⟨⟨in_wsL_law_r1, ⟨in_wsL_law_r2, ⟨in_wsL_law_r3, ⟨in_wsL_law_r4, ⟨in_wsL_law_r5, ⟨in_wsL_law_r6, ⟨in_wsL_law_r7, ⟨in_wsL_law_r8, ⟨in_wsL_law_r9, ⟨in_wsL_law_r10, ⟨in_wsL_law_r11, ⟨in_wsL_law_r12, ⟨in_wsL_law_r13, ⟨in_wsL_law_r14, ⟨in_wsL_law_r15, ⟨in_wsL_law_r16, ⟨in_wsL_law_r17, ⟨in_wsL_law_r18, ⟨in_wsL_law_r19, ⟨in_wsL_law_r20, ⟨in_wsL_law_r21, in_wsL_law_r22⟩⟩⟩⟩⟩⟩⟩⟩⟩⟩⟩⟩⟩⟩⟩⟩⟩⟩⟩⟩⟩, in_wsX50⟩, in_wsX60⟩, in_wsX00⟩, in_wsX40⟩, in_wsX20⟩, in_wsX30⟩, in_wsX10⟩, fun _ h => absurd h List.not_mem_nil⟩
