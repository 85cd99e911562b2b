theorem mem_r {big : List Cond} (ws : List Cond) (ps : List Nat) (hp : ws = ps.filterMap (fun i => big[i]?)) : ∀ w ∈ ws, w ∈ big := by
  intro w hw
  rw [hp] at hw
  obtain ⟨i, -, hi⟩ := List.mem_filterMap.mp hw
  exact List.mem_of_getElem? hi
set_option maxRecDepth 20000 in
theorem in_wsL_law_r1 : ∀ w ∈ wsL_law_r1, w ∈ lw_tbl := mem_r wsL_law_r1 [24, 25, 16, 45, 26, 27, 28, 29, 30, 31, 32, 33, 17, 121, 46, 47, 18, 122, 61, 62, 19, 123, 104, 105] (by decide +kernel)
set_option maxRecDepth 20000 in
theorem in_wsL_law_r2 : ∀ w ∈ wsL_law_r2, w ∈ lw_tbl := mem_r wsL_law_r2 [21, 124, 125, 126, 127, 128, 129, 130, 131, 132, 34, 35, 36, 37, 38, 39, 49, 50, 51, 52, 63, 64, 65, 66] (by decide +kernel)
set_option maxRecDepth 20000 in
theorem in_wsL_law_r3 : ∀ w ∈ wsL_law_r3, w ∈ lw_tbl := mem_r wsL_law_r3 [67, 95, 69, 20, 71, 72, 73, 74, 76, 107, 108, 109, 110, 111, 370, 371, 15, 372, 440, 441, 442, 320, 321, 322] (by decide +kernel)
set_option maxRecDepth 20000 in
theorem in_wsL_law_r4 : ∀ w ∈ wsL_law_r4, w ∈ lw_tbl := mem_r wsL_law_r4 [323, 267, 269, 6, 270, 162, 163, 164, 324, 326, 11, 327, 328, 329, 330, 331, 112, 332, 298, 299, 300, 301, 302, 22] (by decide +kernel)
set_option maxRecDepth 20000 in
theorem in_wsL_law_r5 : ∀ w ∈ wsL_law_r5, w ∈ lw_tbl := mem_r wsL_law_r5 [303, 333, 334, 335, 275, 277, 8, 278, 336, 337, 338, 339, 340, 341, 342, 343, 344, 346, 12, 347, 287, 288, 23, 289] (by decide +kernel)
set_option maxRecDepth 20000 in
theorem in_wsL_law_r6 : ∀ w ∈ wsL_law_r6, w ∈ lw_tbl := mem_r wsL_law_r6 [290, 291, 292, 308, 309, 310, 311, 443, 444, 445, 446, 447, 448, 449, 450, 451, 453, 14, 454, 304, 305, 306, 307, 455] (by decide +kernel)
set_option maxRecDepth 20000 in
theorem in_wsL_law_r7 : ∀ w ∈ wsL_law_r7, w ∈ lw_tbl := mem_r wsL_law_r7 [456, 457, 458, 362, 363, 364, 365, 366, 415, 416, 417, 418, 419, 420, 421, 422, 423, 424, 425, 53, 376, 377, 378, 426] (by decide +kernel)
set_option maxRecDepth 20000 in
theorem in_wsL_law_r8 : ∀ w ∈ wsL_law_r8, w ∈ lw_tbl := mem_r wsL_law_r8 [427, 428, 429, 383, 384, 385, 430, 431, 432, 433, 158, 159, 160, 161, 165, 166, 167, 168, 169, 170, 171, 97, 173, 174] (by decide +kernel)
set_option maxRecDepth 20000 in
theorem in_wsL_law_r9 : ∀ w ∈ wsL_law_r9, w ∈ lw_tbl := mem_r wsL_law_r9 [175, 176, 177, 178, 179, 180, 182, 184, 0, 185, 186, 187, 188, 189, 190, 191, 192, 193, 194, 196, 1, 197, 198, 199] (by decide +kernel)
set_option maxRecDepth 20000 in
theorem in_wsL_law_r10 : ∀ w ∈ wsL_law_r10, w ∈ lw_tbl := mem_r wsL_law_r10 [22, 200, 201, 203, 2, 204, 205, 207, 3, 208, 209, 211, 4, 212, 213, 214, 216, 5, 217, 218, 219, 220, 221, 222] (by decide +kernel)
set_option maxRecDepth 20000 in
theorem in_wsL_law_r11 : ∀ w ∈ wsL_law_r11, w ∈ lw_tbl := mem_r wsL_law_r11 [223, 224, 225, 434, 435, 436, 412, 413, 414, 240, 241, 242, 243, 230, 244, 245, 246, 247, 248, 249, 250, 251, 259, 260] (by decide +kernel)
set_option maxRecDepth 20000 in
theorem in_wsL_law_r12 : ∀ w ∈ wsL_law_r12, w ∈ lw_tbl := mem_r wsL_law_r12 [261, 262, 293, 294, 295, 296, 297, 312, 313, 314, 315, 316, 317, 318, 319, 263, 264, 265, 266, 271, 273, 7, 274, 279] (by decide +kernel)
set_option maxRecDepth 20000 in
theorem in_wsL_law_r13 : ∀ w ∈ wsL_law_r13, w ∈ lw_tbl := mem_r wsL_law_r13 [281, 9, 282, 283, 285, 10, 286, 348, 349, 350, 351, 256, 257, 258, 352, 354, 13, 355, 356, 357, 358, 359, 360, 252] (by decide +kernel)
set_option maxRecDepth 20000 in
theorem in_wsL_law_r14 : ∀ w ∈ wsL_law_r14, w ∈ lw_tbl := mem_r wsL_law_r14 [253, 254, 255, 226, 227, 228, 229, 231, 232, 233, 234, 235, 236, 237, 238, 239, 437, 438, 439, 367, 368, 369, 373, 374] (by decide +kernel)
set_option maxRecDepth 20000 in
theorem in_wsL_law_r15 : ∀ w ∈ wsL_law_r15, w ∈ lw_tbl := mem_r wsL_law_r15 [375, 379, 380, 381, 382, 386, 387, 388, 389, 390, 393, 394, 395, 396, 397, 398, 399, 400, 401, 402, 403, 404, 405, 406] (by decide +kernel)
set_option maxRecDepth 20000 in
theorem in_wsL_law_r16 : ∀ w ∈ wsL_law_r16, w ∈ lw_tbl := mem_r wsL_law_r16 [407, 408, 409, 410, 411] (by decide +kernel)
set_option maxRecDepth 20000 in
theorem in_wsX00 : ∀ w ∈ wsX00, w ∈ lw_tbl := mem_r wsX00 [40, 42] (by decide +kernel)
set_option maxRecDepth 20000 in
theorem in_wsX10 : ∀ w ∈ wsX10, w ∈ lw_tbl := mem_r wsX10 [86, 88, 90, 92] (by decide +kernel)
set_option maxRecDepth 20000 in
theorem in_wsX20 : ∀ w ∈ wsX20, w ∈ lw_tbl := mem_r wsX20 [99, 101] (by decide +kernel)
set_option maxRecDepth 20000 in
theorem in_wsX30 : ∀ w ∈ wsX30, w ∈ lw_tbl := mem_r wsX30 [114, 116, 118] (by decide +kernel)
set_option maxRecDepth 20000 in
theorem in_wsX40 : ∀ w ∈ wsX40, w ∈ lw_tbl := mem_r wsX40 [56, 58] (by decide +kernel)
set_option maxRecDepth 20000 in
theorem in_wsX50 : ∀ w ∈ wsX50, w ∈ lw_tbl := mem_r wsX50 [133, 135, 137, 139, 141, 143, 145, 147, 149, 151, 153, 155] (by decide +kernel)
theorem wsL_law_in : ∀ w ∈ wsL_law, w ∈ lw_tbl := by
  unfold wsL_law
  simp only [List.forall_mem_append]
  exact ⟨⟨⟨⟨⟨⟨⟨⟨in_wsL_law_r1, ⟨in_wsL_law_r2, ⟨in_wsL_law_r3, ⟨in_wsL_law_r4, ⟨in_wsL_law_r5, ⟨in_wsL_law_r6, ⟨in_wsL_law_r7, ⟨in_wsL_law_r8, ⟨in_wsL_law_r9, ⟨in_wsL_law_r10, ⟨in_wsL_law_r11, ⟨in_wsL_law_r12, ⟨in_wsL_law_r13, ⟨in_wsL_law_r14, ⟨in_wsL_law_r15, in_wsL_law_r16⟩⟩⟩⟩⟩⟩⟩⟩⟩⟩⟩⟩⟩⟩⟩, in_wsX50⟩, in_wsX00⟩, in_wsX40⟩, in_wsX20⟩, in_wsX30⟩, in_wsX10⟩, fun _ h => absurd h List.not_mem_nil⟩
