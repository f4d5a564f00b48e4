theorem mem_r {big : List Cond} (ws : List Cond) (ps : List Nat) (hp : ws = ps.filterMap (fun i => big[i]?)) : ∀ w ∈ ws, w ∈ big := by
  intro w hw
  rw [hp] at hw
  obtain ⟨i, -, hi⟩ := List.mem_filterMap.mp hw
  first | exact List.mem_of_getElem? hi | exact List.getElem?_mem hi
set_option maxRecDepth 20000 in
theorem lwi_1 : ∀ w ∈ wsL_law_r1, w ∈ lw_tbl := mem_r _ [32, 33, 27, 34, 35, 36, 37, 38, 39, 40, 41, 28, 43, 44, 45, 81, 46, 49, 52, 54, 57, 60, 61, 63] (by decide +kernel)
set_option maxRecDepth 20000 in
theorem lwi_2 : ∀ w ∈ wsL_law_r2, w ∈ lw_tbl := mem_r _ [149, 82, 83, 29, 84, 85, 86, 87, 89, 90, 91, 92, 93, 88, 150, 107, 108, 30, 109, 110, 111, 112, 114, 116] (by decide +kernel)
set_option maxRecDepth 20000 in
theorem lwi_3 : ∀ w ∈ wsL_law_r3, w ∈ lw_tbl := mem_r _ [118, 119, 120, 121, 122, 123, 124, 125, 113, 151, 298, 299, 31, 300, 301, 302, 303, 304, 305, 315, 316, 317, 319, 320] (by decide +kernel)
set_option maxRecDepth 20000 in
theorem lwi_4 : ∀ w ∈ wsL_law_r4, w ∈ lw_tbl := mem_r _ [159, 160, 161, 162, 163, 164, 165, 166, 167, 169, 0, 170, 171, 173, 1, 174, 175, 177, 2, 178, 179, 181, 3, 182] (by decide +kernel)
set_option maxRecDepth 20000 in
theorem lwi_5 : ∀ w ∈ wsL_law_r5, w ∈ lw_tbl := mem_r _ [183, 185, 4, 186, 187, 188, 189, 190, 53, 191, 192, 193, 194, 50, 195, 197, 5, 198, 199, 200, 201, 202, 203, 204] (by decide +kernel)
set_option maxRecDepth 20000 in
theorem lwi_6 : ∀ w ∈ wsL_law_r6, w ∈ lw_tbl := mem_r _ [205, 206, 207, 208, 210, 6, 211, 59, 212, 213, 214, 215, 216, 217, 218, 219, 220, 221, 222, 223, 224, 226, 7, 227] (by decide +kernel)
set_option maxRecDepth 20000 in
theorem lwi_7 : ∀ w ∈ wsL_law_r7, w ∈ lw_tbl := mem_r _ [228, 229, 230, 231, 232, 234, 8, 235, 236, 237, 238, 239, 240, 241, 243, 9, 244, 47, 55, 245, 247, 10, 248, 249] (by decide +kernel)
set_option maxRecDepth 20000 in
theorem lwi_8 : ∀ w ∈ wsL_law_r8, w ∈ lw_tbl := mem_r _ [250, 251, 253, 426, 427, 428, 429, 381, 382, 383, 430, 432, 19, 433, 322, 318, 321, 434, 436, 20, 437, 438, 440, 21] (by decide +kernel)
set_option maxRecDepth 20000 in
theorem lwi_9 : ∀ w ∈ wsL_law_r9, w ∈ lw_tbl := mem_r _ [441, 442, 444, 22, 445, 446, 448, 23, 449, 325, 326, 327, 450, 452, 24, 453, 324, 323, 454, 402, 403, 404, 309, 307] (by decide +kernel)
set_option maxRecDepth 20000 in
theorem lwi_10 : ∀ w ∈ wsL_law_r10, w ∈ lw_tbl := mem_r _ [308, 306, 312, 313, 314, 405, 407, 15, 408, 455, 410, 411, 412, 413, 414, 416, 16, 417, 310, 384, 386, 11, 387, 388] (by decide +kernel)
set_option maxRecDepth 20000 in
theorem lwi_11 : ∀ w ∈ wsL_law_r11, w ∈ lw_tbl := mem_r _ [390, 12, 391, 392, 394, 13, 395, 396, 398, 14, 399, 400, 311, 418, 420, 17, 421, 422, 424, 18, 425, 456, 458, 25] (by decide +kernel)
set_option maxRecDepth 20000 in
theorem lwi_12 : ∀ w ∈ wsL_law_r12, w ∈ lw_tbl := mem_r _ [459, 255, 256, 257, 258, 58, 259, 377, 378, 379, 380, 260, 261, 262, 263, 264, 265, 266, 267, 401, 268, 269, 270, 271] (by decide +kernel)
set_option maxRecDepth 20000 in
theorem lwi_13 : ∀ w ∈ wsL_law_r13, w ∈ lw_tbl := mem_r _ [272, 273, 409, 274, 275, 276, 277, 115, 460, 461, 462, 463, 278, 279, 280, 281, 117, 464, 465, 466, 467, 282, 283, 284] (by decide +kernel)
set_option maxRecDepth 20000 in
theorem lwi_14 : ∀ w ∈ wsL_law_r14, w ∈ lw_tbl := mem_r _ [285, 48, 468, 469, 470, 471, 286, 287, 288, 289, 51, 472, 473, 474, 475, 290, 291, 292, 293, 56, 476, 477, 478, 479] (by decide +kernel)
set_option maxRecDepth 20000 in
theorem lwi_15 : ∀ w ∈ wsL_law_r15, w ∈ lw_tbl := mem_r _ [294, 295, 296, 297, 62, 480, 481, 482, 483] (by decide +kernel)
set_option maxRecDepth 20000 in
theorem inX3 : ∀ w ∈ wsX30, w ∈ lw_tbl := mem_r _ [152, 154, 156] (by decide +kernel)
set_option maxRecDepth 20000 in
theorem inX2 : ∀ w ∈ wsX20, w ∈ lw_tbl := mem_r _ [64, 66, 68, 70, 72, 74, 76, 78] (by decide +kernel)
set_option maxRecDepth 20000 in
theorem inX1 : ∀ w ∈ wsX10, w ∈ lw_tbl := mem_r _ [94, 96, 98, 100, 102, 104] (by decide +kernel)
set_option maxRecDepth 20000 in
theorem inX0 : ∀ w ∈ wsX00, w ∈ lw_tbl := mem_r _ [126, 128, 130, 132, 134, 136, 138, 140, 142, 144, 146] (by decide +kernel)
set_option maxRecDepth 20000 in
theorem inX4 : ∀ w ∈ wsX40, w ∈ lw_tbl := mem_r _ [328, 330, 332, 334, 336, 338, 340, 342, 344, 346, 348, 350, 352, 354, 356, 358, 360, 362, 364, 366, 368, 370, 372, 374] (by decide +kernel)
theorem wsL_law_in : ∀ w ∈ wsL_law, w ∈ lw_tbl := fun w h => (List.mem_append.mp h).elim (fun h => (List.mem_append.mp h).elim (fun h => (List.mem_append.mp h).elim (fun h => (List.mem_append.mp h).elim (fun h => (List.mem_append.mp h).elim (fun h => (List.mem_append.mp h).elim (fun h => lwi_1 w h) (fun h => (List.mem_append.mp h).elim (fun h => lwi_2 w h) (fun h => (List.mem_append.mp h).elim (fun h => lwi_3 w h) (fun h => (List.mem_append.mp h).elim (fun h => lwi_4 w h) (fun h => (List.mem_append.mp h).elim (fun h => lwi_5 w h) (fun h => (List.mem_append.mp h).elim (fun h => lwi_6 w h) (fun h => (List.mem_append.mp h).elim (fun h => lwi_7 w h) (fun h => (List.mem_append.mp h).elim (fun h => lwi_8 w h) (fun h => (List.mem_append.mp h).elim (fun h => lwi_9 w h) (fun h => (List.mem_append.mp h).elim (fun h => lwi_10 w h) (fun h => (List.mem_append.mp h).elim (fun h => lwi_11 w h) (fun h => (List.mem_append.mp h).elim (fun h => lwi_12 w h) (fun h => (List.mem_append.mp h).elim (fun h => lwi_13 w h) (fun h => (List.mem_append.mp h).elim (fun h => lwi_14 w h) (fun h => lwi_15 w h))))))))))))))) (fun h => inX3 w h)) (fun h => inX2 w h)) (fun h => inX1 w h)) (fun h => inX0 w h)) (fun h => inX4 w h)
