set_option maxRecDepth 40000 in
theorem jL1 : ∀ w ∈ wsL_law_r1, w ∈ lw_tbl := fun w h => (goodIn_r wsL_law_r1 [20, 21, 13, 455, 456, 59, 457, 22, 23, 24, 25, 26, 27, 28, 29, 14, 150, 60, 61, 15, 151, 76, 77, 16] (by decide +kernel) (by decide +kernel) w h).1
set_option maxRecDepth 40000 in
theorem jL2 : ∀ w ∈ wsL_law_r2, w ∈ lw_tbl := fun w h => (goodIn_r wsL_law_r2 [152, 123, 124, 17, 153, 133, 154, 135, 18, 30, 31, 32, 33, 46, 47, 34, 35, 36, 37, 48, 49, 38, 40, 0] (by decide +kernel) (by decide +kernel) w h).1
set_option maxRecDepth 40000 in
theorem jL3 : ∀ w ∈ wsL_law_r3, w ∈ lw_tbl := fun w h => (goodIn_r wsL_law_r3 [41, 42, 44, 1, 45, 63, 64, 65, 66, 67, 78, 79, 80, 81, 84, 85, 86, 122, 87, 88, 89, 82, 83, 126] (by decide +kernel) (by decide +kernel) w h).1
set_option maxRecDepth 40000 in
theorem jL4 : ∀ w ∈ wsL_law_r4, w ∈ lw_tbl := fun w h => (goodIn_r wsL_law_r4 [127, 128, 137, 138, 139, 140, 432, 433, 12, 434, 435, 436, 437, 438, 439, 170, 171, 172, 173, 174, 175, 176, 177, 178] (by decide +kernel) (by decide +kernel) w h).1
set_option maxRecDepth 40000 in
theorem jL5 : ∀ w ∈ wsL_law_r5, w ∈ lw_tbl := fun w h => (goodIn_r wsL_law_r5 [68, 179, 180, 181, 182, 90, 183, 184, 185, 186, 187, 188, 189, 190, 191, 192, 193, 194, 129, 195, 196, 197, 198, 199] (by decide +kernel) (by decide +kernel) w h).1
set_option maxRecDepth 40000 in
theorem jL6 : ∀ w ∈ wsL_law_r6, w ∈ lw_tbl := fun w h => (goodIn_r wsL_law_r6 [200, 201, 202, 203, 204, 205, 206, 207, 208, 209, 210, 222, 211, 212, 213, 214, 215, 216, 217, 218, 219, 220, 221, 223] (by decide +kernel) (by decide +kernel) w h).1
set_option maxRecDepth 40000 in
theorem jL7 : ∀ w ∈ wsL_law_r7, w ∈ lw_tbl := fun w h => (goodIn_r wsL_law_r7 [224, 225, 226, 265, 266, 267, 268, 269, 240, 241, 242, 256, 257, 258, 259, 260, 253, 254, 255, 261, 262, 263, 264, 270] (by decide +kernel) (by decide +kernel) w h).1
set_option maxRecDepth 40000 in
theorem jL8 : ∀ w ∈ wsL_law_r8, w ∈ lw_tbl := fun w h => (goodIn_r wsL_law_r8 [271, 272, 273, 274, 275, 276, 277, 278, 279, 280, 281, 247, 248, 249, 250, 251, 236, 237, 238, 239, 252, 295, 296, 297] (by decide +kernel) (by decide +kernel) w h).1
set_option maxRecDepth 40000 in
theorem jL9 : ∀ w ∈ wsL_law_r9, w ∈ lw_tbl := fun w h => (goodIn_r wsL_law_r9 [298, 286, 287, 288, 289, 290, 299, 300, 301, 302, 227, 228, 229, 230, 231, 232, 233, 234, 235, 243, 244, 245, 246, 426] (by decide +kernel) (by decide +kernel) w h).1
set_option maxRecDepth 40000 in
theorem jL10 : ∀ w ∈ wsL_law_r10, w ∈ lw_tbl := fun w h => (goodIn_r wsL_law_r10 [427, 428, 429, 318, 319, 320, 321, 430, 349, 350, 351, 352, 431, 380, 381, 382, 322, 323, 324, 325, 307, 308, 309, 326] (by decide +kernel) (by decide +kernel) w h).1
set_option maxRecDepth 40000 in
theorem jL11 : ∀ w ∈ wsL_law_r11, w ∈ lw_tbl := fun w h => (goodIn_r wsL_law_r11 [328, 4, 329, 314, 316, 3, 317, 303, 304, 305, 306, 310, 312, 2, 313, 440, 441, 442, 443, 444, 445, 446, 447, 448] (by decide +kernel) (by decide +kernel) w h).1
set_option maxRecDepth 40000 in
theorem jL12 : ∀ w ∈ wsL_law_r12, w ∈ lw_tbl := fun w h => (goodIn_r wsL_law_r12 [449, 450, 452, 453, 19, 454, 451, 358, 359, 360, 361, 330, 331, 332, 333, 334, 335, 336, 337, 92, 93, 338, 340, 5] (by decide +kernel) (by decide +kernel) w h).1
set_option maxRecDepth 40000 in
theorem jL13 : ∀ w ∈ wsL_law_r13, w ∈ lw_tbl := fun w h => (goodIn_r wsL_law_r13 [341, 91, 94, 342, 343, 345, 6, 346, 347, 348, 353, 355, 7, 356, 357, 362, 364, 8, 365, 366, 367, 368, 369, 370] (by decide +kernel) (by decide +kernel) w h).1
set_option maxRecDepth 40000 in
theorem jL14 : ∀ w ∈ wsL_law_r14, w ∈ lw_tbl := fun w h => (goodIn_r wsL_law_r14 [372, 9, 373, 386, 387, 388, 389, 374, 375, 377, 10, 378, 379, 383, 384, 385, 390, 392, 11, 393, 418, 419, 420, 421] (by decide +kernel) (by decide +kernel) w h).1
set_option maxRecDepth 40000 in
theorem jL15 : ∀ w ∈ wsL_law_r15, w ∈ lw_tbl := fun w h => (goodIn_r wsL_law_r15 [422, 423, 424, 425, 394, 395, 396, 397, 398, 399, 400, 401, 402, 403, 404, 405, 406, 407, 408, 409, 410, 411, 412, 413] (by decide +kernel) (by decide +kernel) w h).1
set_option maxRecDepth 40000 in
theorem jL16 : ∀ w ∈ wsL_law_r16, w ∈ lw_tbl := fun w h => (goodIn_r wsL_law_r16 [414, 415, 416, 417, 282, 283, 284, 285, 291, 292, 293, 294] (by decide +kernel) (by decide +kernel) w h).1
set_option maxRecDepth 40000 in
theorem jX5 : ∀ w ∈ wsX50, w ∈ lw_tbl := fun w h => (goodIn_r wsX50 [155, 157, 159, 161, 163, 165, 167] (by decide +kernel) (by decide +kernel) w h).1
set_option maxRecDepth 40000 in
theorem jX1 : ∀ w ∈ wsX10, w ∈ lw_tbl := fun w h => (goodIn_r wsX10 [50, 52, 54, 56] (by decide +kernel) (by decide +kernel) w h).1
set_option maxRecDepth 40000 in
theorem jX2 : ∀ w ∈ wsX20, w ∈ lw_tbl := fun w h => (goodIn_r wsX20 [69, 71, 73] (by decide +kernel) (by decide +kernel) w h).1
set_option maxRecDepth 40000 in
theorem jX3 : ∀ w ∈ wsX30, w ∈ lw_tbl := fun w h => (goodIn_r wsX30 [95, 97, 99, 101, 103, 105, 107, 109, 111, 113, 115, 117, 119] (by decide +kernel) (by decide +kernel) w h).1
set_option maxRecDepth 40000 in
theorem jX0 : ∀ w ∈ wsX00, w ∈ lw_tbl := fun w h => (goodIn_r wsX00 [130] (by decide +kernel) (by decide +kernel) w h).1
set_option maxRecDepth 40000 in
theorem jX4 : ∀ w ∈ wsX40, w ∈ lw_tbl := fun w h => (goodIn_r wsX40 [141, 143, 145, 147] (by decide +kernel) (by decide +kernel) w h).1
theorem wsL_law_in : ∀ w ∈ wsL_law, w ∈ lw_tbl := (List.forall_mem_append.mpr ⟨(List.forall_mem_append.mpr ⟨(List.forall_mem_append.mpr ⟨(List.forall_mem_append.mpr ⟨(List.forall_mem_append.mpr ⟨(List.forall_mem_append.mpr ⟨(List.forall_mem_append.mpr ⟨(List.forall_mem_append.mpr ⟨jL1, (List.forall_mem_append.mpr ⟨jL2, (List.forall_mem_append.mpr ⟨jL3, (List.forall_mem_append.mpr ⟨jL4, (List.forall_mem_append.mpr ⟨jL5, (List.forall_mem_append.mpr ⟨jL6, (List.forall_mem_append.mpr ⟨jL7, (List.forall_mem_append.mpr ⟨jL8, (List.forall_mem_append.mpr ⟨jL9, (List.forall_mem_append.mpr ⟨jL10, (List.forall_mem_append.mpr ⟨jL11, (List.forall_mem_append.mpr ⟨jL12, (List.forall_mem_append.mpr ⟨jL13, (List.forall_mem_append.mpr ⟨jL14, (List.forall_mem_append.mpr ⟨jL15, jL16⟩)⟩)⟩)⟩)⟩)⟩)⟩)⟩)⟩)⟩)⟩)⟩)⟩)⟩)⟩), jX5⟩), jX1⟩), jX2⟩), jX3⟩), jX0⟩), jX4⟩), fun _ h => absurd h List.not_mem_nil⟩)
theorem inlX0 : ∀ w ∈ wsX00, w ∈ wsL_law := fun _ h => List.mem_append_left _ (List.mem_append_left _ (List.mem_append_right _ h))
theorem inlX1 : ∀ w ∈ wsX10, w ∈ wsL_law := fun _ h => List.mem_append_left _ (List.mem_append_left _ (List.mem_append_left _ (List.mem_append_left _ (List.mem_append_left _ (List.mem_append_right _ h)))))
theorem inlX2 : ∀ w ∈ wsX20, w ∈ wsL_law := fun _ h => List.mem_append_left _ (List.mem_append_left _ (List.mem_append_left _ (List.mem_append_left _ (List.mem_append_right _ h))))
theorem inlX3 : ∀ w ∈ wsX30, w ∈ wsL_law := fun _ h => List.mem_append_left _ (List.mem_append_left _ (List.mem_append_left _ (List.mem_append_right _ h)))
theorem inlX4 : ∀ w ∈ wsX40, w ∈ wsL_law := fun _ h => List.mem_append_left _ (List.mem_append_right _ h)
theorem inlX5 : ∀ w ∈ wsX50, w ∈ wsL_law := fun _ h => List.mem_append_left _ (List.mem_append_left _ (List.mem_append_left _ (List.mem_append_left _ (List.mem_append_left _ (List.mem_append_left _ (List.mem_append_right _ h))))))
