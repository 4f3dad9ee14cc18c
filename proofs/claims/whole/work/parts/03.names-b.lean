theorem in_places {big : List Cond} (ws : List Cond) (ps : List Nat) (hp : ws = ps.filterMap (fun i => big[i]?)) : ∀ w ∈ ws, w ∈ big := by
  intro w hw
  rw [hp] at hw
  obtain ⟨i, -, hi⟩ := List.mem_filterMap.mp hw
  first | exact List.mem_of_getElem? hi | exact List.getElem?_mem hi
set_option maxRecDepth 20000 in
theorem wsL_r1_in : ∀ w ∈ wsL_law_r1, w ∈ lw_tbl := in_places _ [38, 39, 30, 344, 345, 36, 40, 41, 42, 43, 44, 45, 46, 47, 31, 116, 67, 68, 33, 117, 118, 119, 66, 120] (by decide +kernel)
set_option maxRecDepth 20000 in
theorem wsL_r2_in : ∀ w ∈ wsL_law_r2, w ∈ lw_tbl := in_places _ [49, 50, 51, 62, 53, 32, 54, 55, 57, 0, 58, 60, 61, 70, 71, 72, 73, 74, 34, 106, 95, 96, 35, 108] (by decide +kernel)
set_option maxRecDepth 20000 in
theorem wsL_r3_in : ∀ w ∈ wsL_law_r3, w ∈ lw_tbl := in_places _ [76, 77, 78, 79, 81, 83, 85, 98, 99, 100, 101, 346, 347, 348, 349, 357, 358, 379, 359, 360, 363, 350, 352, 18] (by decide +kernel)
set_option maxRecDepth 20000 in
theorem wsL_r4_in : ∀ w ∈ wsL_law_r4, w ∈ lw_tbl := in_places _ [353, 354, 355, 356, 132, 133, 134, 135, 136, 138, 139, 140, 380, 381, 382, 383, 384, 385, 386, 387, 388, 389, 390, 391] (by decide +kernel)
set_option maxRecDepth 20000 in
theorem wsL_r5_in : ∀ w ∈ wsL_law_r5, w ∈ lw_tbl := in_places _ [392, 141, 142, 143, 144, 145, 393, 394, 395, 396, 397, 398, 399, 400, 147, 148, 149, 150, 151, 152, 37, 153, 154, 155] (by decide +kernel)
set_option maxRecDepth 20000 in
theorem wsL_r6_in : ∀ w ∈ wsL_law_r6, w ∈ lw_tbl := in_places _ [156, 159, 1, 160, 161, 163, 2, 164, 167, 3, 168, 169, 171, 172, 401, 402, 403, 404, 405, 406, 407, 408, 410, 19] (by decide +kernel)
set_option maxRecDepth 20000 in
theorem wsL_r7_in : ∀ w ∈ wsL_law_r7, w ∈ lw_tbl := in_places _ [411, 173, 174, 175, 176, 177, 178, 179, 180, 412, 413, 414, 415, 182, 183, 184, 185, 187, 188, 189, 416, 417, 418, 419] (by decide +kernel)
set_option maxRecDepth 20000 in
theorem wsL_r8_in : ∀ w ∈ wsL_law_r8, w ∈ lw_tbl := in_places _ [420, 421, 422, 190, 191, 192, 193, 195, 196, 197, 198, 199, 201, 202, 203, 423, 424, 425, 426, 427, 428, 429, 204, 205] (by decide +kernel)
set_option maxRecDepth 20000 in
theorem wsL_r9_in : ∀ w ∈ wsL_law_r9, w ∈ lw_tbl := in_places _ [206, 207, 209, 210, 430, 431, 432, 433, 434, 435, 436, 211, 212, 213, 214, 215, 216, 437, 438, 439, 440, 441, 442, 217] (by decide +kernel)
set_option maxRecDepth 20000 in
theorem wsL_r10_in : ∀ w ∈ wsL_law_r10, w ∈ lw_tbl := in_places _ [218, 219, 220, 221, 222, 223, 225, 226, 227, 228, 229, 230, 231, 232, 443, 444, 445, 446, 447, 448, 449, 450, 451, 452] (by decide +kernel)
set_option maxRecDepth 20000 in
theorem wsL_r11_in : ∀ w ∈ wsL_law_r11, w ∈ lw_tbl := in_places _ [453, 454, 455, 456, 457, 458, 233, 234, 235, 236, 459, 460, 461, 462, 238, 239, 240, 241, 244, 4, 245, 247, 248, 463] (by decide +kernel)
set_option maxRecDepth 20000 in
theorem wsL_r12_in : ∀ w ∈ wsL_law_r12, w ∈ lw_tbl := in_places _ [464, 465, 466, 249, 250, 251, 252, 255, 5, 256, 467, 468, 469, 470, 471, 473, 20, 474, 258, 259, 260, 261, 264, 6] (by decide +kernel)
set_option maxRecDepth 20000 in
theorem wsL_r13_in : ∀ w ∈ wsL_law_r13, w ∈ lw_tbl := in_places _ [265, 266, 268, 7, 269, 270, 475, 476, 477, 478, 361, 479, 481, 21, 482, 362, 483, 485, 22, 486, 487, 489, 23, 490] (by decide +kernel)
set_option maxRecDepth 20000 in
theorem wsL_r14_in : ∀ w ∈ wsL_law_r14, w ∈ lw_tbl := in_places _ [271, 272, 273, 274, 491, 492, 493, 494, 495, 496, 497, 276, 277, 278, 279, 282, 8, 283, 498, 499, 500, 501, 284, 285] (by decide +kernel)
set_option maxRecDepth 20000 in
theorem wsL_r15_in : ∀ w ∈ wsL_law_r15, w ∈ lw_tbl := in_places _ [286, 287, 502, 503, 504, 505, 506, 507, 508, 288, 289, 290, 291, 294, 9, 295, 509, 510, 511, 512, 513, 515, 24, 516] (by decide +kernel)
set_option maxRecDepth 20000 in
theorem wsL_r16_in : ∀ w ∈ wsL_law_r16, w ∈ lw_tbl := in_places _ [296, 297, 298, 299, 300, 302, 10, 303, 304, 306, 11, 307, 308, 310, 12, 311, 312, 314, 13, 315, 318, 14, 319, 517] (by decide +kernel)
set_option maxRecDepth 20000 in
theorem wsL_r17_in : ∀ w ∈ wsL_law_r17, w ∈ lw_tbl := in_places _ [518, 519, 520, 521, 523, 25, 524, 525, 527, 26, 528, 529, 531, 27, 532, 320, 321, 322, 323, 326, 15, 327, 330, 16] (by decide +kernel)
set_option maxRecDepth 20000 in
theorem wsL_r18_in : ∀ w ∈ wsL_law_r18, w ∈ lw_tbl := in_places _ [331, 334, 17, 335, 533, 534, 535, 536, 336, 337, 338, 339, 537, 538, 539, 540, 340, 341, 342, 343, 541, 542, 543, 544] (by decide +kernel)
set_option maxRecDepth 20000 in
theorem wsL_r19_in : ∀ w ∈ wsL_law_r19, w ∈ lw_tbl := in_places _ [545, 546, 547, 548, 550, 28, 551] (by decide +kernel)
set_option maxRecDepth 20000 in
theorem inX5 : ∀ w ∈ wsX50, w ∈ lw_tbl := by decide +kernel
set_option maxRecDepth 20000 in
theorem inX6 : ∀ w ∈ wsX60, w ∈ lw_tbl := by decide +kernel
set_option maxRecDepth 20000 in
theorem inX2 : ∀ w ∈ wsX20, w ∈ lw_tbl := by decide +kernel
set_option maxRecDepth 20000 in
theorem inX1 : ∀ w ∈ wsX10, w ∈ lw_tbl := by decide +kernel
set_option maxRecDepth 20000 in
theorem inX3 : ∀ w ∈ wsX30, w ∈ lw_tbl := by decide +kernel
set_option maxRecDepth 20000 in
theorem inX4 : ∀ w ∈ wsX40, w ∈ lw_tbl := by decide +kernel
theorem wsL_s19 : ∀ w ∈ wsL_law_r19, w ∈ lw_tbl := wsL_r19_in
theorem wsL_s18 : ∀ w ∈ wsL_law_r18 ++ (wsL_law_r19), w ∈ lw_tbl := fun w h => (List.mem_append.mp h).elim (wsL_r18_in w) (wsL_s19 w)
theorem wsL_s17 : ∀ w ∈ wsL_law_r17 ++ (wsL_law_r18 ++ (wsL_law_r19)), w ∈ lw_tbl := fun w h => (List.mem_append.mp h).elim (wsL_r17_in w) (wsL_s18 w)
theorem wsL_s16 : ∀ w ∈ wsL_law_r16 ++ (wsL_law_r17 ++ (wsL_law_r18 ++ (wsL_law_r19))), w ∈ lw_tbl := fun w h => (List.mem_append.mp h).elim (wsL_r16_in w) (wsL_s17 w)
theorem wsL_s15 : ∀ w ∈ wsL_law_r15 ++ (wsL_law_r16 ++ (wsL_law_r17 ++ (wsL_law_r18 ++ (wsL_law_r19)))), w ∈ lw_tbl := fun w h => (List.mem_append.mp h).elim (wsL_r15_in w) (wsL_s16 w)
theorem wsL_s14 : ∀ w ∈ wsL_law_r14 ++ (wsL_law_r15 ++ (wsL_law_r16 ++ (wsL_law_r17 ++ (wsL_law_r18 ++ (wsL_law_r19))))), w ∈ lw_tbl := fun w h => (List.mem_append.mp h).elim (wsL_r14_in w) (wsL_s15 w)
theorem wsL_s13 : ∀ w ∈ wsL_law_r13 ++ (wsL_law_r14 ++ (wsL_law_r15 ++ (wsL_law_r16 ++ (wsL_law_r17 ++ (wsL_law_r18 ++ (wsL_law_r19)))))), w ∈ lw_tbl := fun w h => (List.mem_append.mp h).elim (wsL_r13_in w) (wsL_s14 w)
theorem wsL_s12 : ∀ w ∈ wsL_law_r12 ++ (wsL_law_r13 ++ (wsL_law_r14 ++ (wsL_law_r15 ++ (wsL_law_r16 ++ (wsL_law_r17 ++ (wsL_law_r18 ++ (wsL_law_r19))))))), w ∈ lw_tbl := fun w h => (List.mem_append.mp h).elim (wsL_r12_in w) (wsL_s13 w)
theorem wsL_s11 : ∀ w ∈ wsL_law_r11 ++ (wsL_law_r12 ++ (wsL_law_r13 ++ (wsL_law_r14 ++ (wsL_law_r15 ++ (wsL_law_r16 ++ (wsL_law_r17 ++ (wsL_law_r18 ++ (wsL_law_r19)))))))), w ∈ lw_tbl := fun w h => (List.mem_append.mp h).elim (wsL_r11_in w) (wsL_s12 w)
theorem wsL_s10 : ∀ w ∈ wsL_law_r10 ++ (wsL_law_r11 ++ (wsL_law_r12 ++ (wsL_law_r13 ++ (wsL_law_r14 ++ (wsL_law_r15 ++ (wsL_law_r16 ++ (wsL_law_r17 ++ (wsL_law_r18 ++ (wsL_law_r19))))))))), w ∈ lw_tbl := fun w h => (List.mem_append.mp h).elim (wsL_r10_in w) (wsL_s11 w)
theorem wsL_s9 : ∀ w ∈ wsL_law_r9 ++ (wsL_law_r10 ++ (wsL_law_r11 ++ (wsL_law_r12 ++ (wsL_law_r13 ++ (wsL_law_r14 ++ (wsL_law_r15 ++ (wsL_law_r16 ++ (wsL_law_r17 ++ (wsL_law_r18 ++ (wsL_law_r19)))))))))), w ∈ lw_tbl := fun w h => (List.mem_append.mp h).elim (wsL_r9_in w) (wsL_s10 w)
theorem wsL_s8 : ∀ w ∈ wsL_law_r8 ++ (wsL_law_r9 ++ (wsL_law_r10 ++ (wsL_law_r11 ++ (wsL_law_r12 ++ (wsL_law_r13 ++ (wsL_law_r14 ++ (wsL_law_r15 ++ (wsL_law_r16 ++ (wsL_law_r17 ++ (wsL_law_r18 ++ (wsL_law_r19))))))))))), w ∈ lw_tbl := fun w h => (List.mem_append.mp h).elim (wsL_r8_in w) (wsL_s9 w)
theorem wsL_s7 : ∀ w ∈ wsL_law_r7 ++ (wsL_law_r8 ++ (wsL_law_r9 ++ (wsL_law_r10 ++ (wsL_law_r11 ++ (wsL_law_r12 ++ (wsL_law_r13 ++ (wsL_law_r14 ++ (wsL_law_r15 ++ (wsL_law_r16 ++ (wsL_law_r17 ++ (wsL_law_r18 ++ (wsL_law_r19)))))))))))), w ∈ lw_tbl := fun w h => (List.mem_append.mp h).elim (wsL_r7_in w) (wsL_s8 w)
theorem wsL_s6 : ∀ w ∈ wsL_law_r6 ++ (wsL_law_r7 ++ (wsL_law_r8 ++ (wsL_law_r9 ++ (wsL_law_r10 ++ (wsL_law_r11 ++ (wsL_law_r12 ++ (wsL_law_r13 ++ (wsL_law_r14 ++ (wsL_law_r15 ++ (wsL_law_r16 ++ (wsL_law_r17 ++ (wsL_law_r18 ++ (wsL_law_r19))))))))))))), w ∈ lw_tbl := fun w h => (List.mem_append.mp h).elim (wsL_r6_in w) (wsL_s7 w)
theorem wsL_s5 : ∀ w ∈ wsL_law_r5 ++ (wsL_law_r6 ++ (wsL_law_r7 ++ (wsL_law_r8 ++ (wsL_law_r9 ++ (wsL_law_r10 ++ (wsL_law_r11 ++ (wsL_law_r12 ++ (wsL_law_r13 ++ (wsL_law_r14 ++ (wsL_law_r15 ++ (wsL_law_r16 ++ (wsL_law_r17 ++ (wsL_law_r18 ++ (wsL_law_r19)))))))))))))), w ∈ lw_tbl := fun w h => (List.mem_append.mp h).elim (wsL_r5_in w) (wsL_s6 w)
theorem wsL_s4 : ∀ w ∈ wsL_law_r4 ++ (wsL_law_r5 ++ (wsL_law_r6 ++ (wsL_law_r7 ++ (wsL_law_r8 ++ (wsL_law_r9 ++ (wsL_law_r10 ++ (wsL_law_r11 ++ (wsL_law_r12 ++ (wsL_law_r13 ++ (wsL_law_r14 ++ (wsL_law_r15 ++ (wsL_law_r16 ++ (wsL_law_r17 ++ (wsL_law_r18 ++ (wsL_law_r19))))))))))))))), w ∈ lw_tbl := fun w h => (List.mem_append.mp h).elim (wsL_r4_in w) (wsL_s5 w)
theorem wsL_s3 : ∀ w ∈ wsL_law_r3 ++ (wsL_law_r4 ++ (wsL_law_r5 ++ (wsL_law_r6 ++ (wsL_law_r7 ++ (wsL_law_r8 ++ (wsL_law_r9 ++ (wsL_law_r10 ++ (wsL_law_r11 ++ (wsL_law_r12 ++ (wsL_law_r13 ++ (wsL_law_r14 ++ (wsL_law_r15 ++ (wsL_law_r16 ++ (wsL_law_r17 ++ (wsL_law_r18 ++ (wsL_law_r19)))))))))))))))), w ∈ lw_tbl := fun w h => (List.mem_append.mp h).elim (wsL_r3_in w) (wsL_s4 w)
theorem wsL_s2 : ∀ w ∈ wsL_law_r2 ++ (wsL_law_r3 ++ (wsL_law_r4 ++ (wsL_law_r5 ++ (wsL_law_r6 ++ (wsL_law_r7 ++ (wsL_law_r8 ++ (wsL_law_r9 ++ (wsL_law_r10 ++ (wsL_law_r11 ++ (wsL_law_r12 ++ (wsL_law_r13 ++ (wsL_law_r14 ++ (wsL_law_r15 ++ (wsL_law_r16 ++ (wsL_law_r17 ++ (wsL_law_r18 ++ (wsL_law_r19))))))))))))))))), w ∈ lw_tbl := fun w h => (List.mem_append.mp h).elim (wsL_r2_in w) (wsL_s3 w)
theorem wsL_s1 : ∀ w ∈ wsL_law_r1 ++ (wsL_law_r2 ++ (wsL_law_r3 ++ (wsL_law_r4 ++ (wsL_law_r5 ++ (wsL_law_r6 ++ (wsL_law_r7 ++ (wsL_law_r8 ++ (wsL_law_r9 ++ (wsL_law_r10 ++ (wsL_law_r11 ++ (wsL_law_r12 ++ (wsL_law_r13 ++ (wsL_law_r14 ++ (wsL_law_r15 ++ (wsL_law_r16 ++ (wsL_law_r17 ++ (wsL_law_r18 ++ (wsL_law_r19)))))))))))))))))), w ∈ lw_tbl := fun w h => (List.mem_append.mp h).elim (wsL_r1_in w) (wsL_s2 w)
theorem wsL_law_in : ∀ w ∈ wsL_law, w ∈ lw_tbl := by
  intro w h
  unfold wsL_law at h
  rcases List.mem_append.mp h with h | h
  · rcases List.mem_append.mp h with h | h
    · rcases List.mem_append.mp h with h | h
      · rcases List.mem_append.mp h with h | h
        · rcases List.mem_append.mp h with h | h
          · rcases List.mem_append.mp h with h | h
            · rcases List.mem_append.mp h with h | h
              · exact wsL_s1 w h
              · exact inX5 w h
            · exact inX6 w h
          · exact inX2 w h
        · exact inX1 w h
      · exact inX3 w h
    · exact inX4 w h
  · exact absurd h List.not_mem_nil
theorem inX0 : ∀ w ∈ wsX00, w ∈ lw_tbl := by decide +kernel
theorem inlX1 : ∀ w ∈ wsX10, w ∈ wsL_law := fun _ h => List.mem_append_left _ (List.mem_append_left _ (List.mem_append_left _ (List.mem_append_right _ h)))
theorem inlX2 : ∀ w ∈ wsX20, w ∈ wsL_law := fun _ h => List.mem_append_left _ (List.mem_append_left _ (List.mem_append_left _ (List.mem_append_left _ (List.mem_append_right _ h))))
theorem inlX3 : ∀ w ∈ wsX30, w ∈ wsL_law := fun _ h => List.mem_append_left _ (List.mem_append_left _ (List.mem_append_right _ h))
theorem inlX4 : ∀ w ∈ wsX40, w ∈ wsL_law := fun _ h => List.mem_append_left _ (List.mem_append_right _ h)
theorem inlX5 : ∀ w ∈ wsX50, w ∈ wsL_law := fun _ h => List.mem_append_left _ (List.mem_append_left _ (List.mem_append_left _ (List.mem_append_left _ (List.mem_append_left _ (List.mem_append_left _ (List.mem_append_right _ h))))))
theorem inlX6 : ∀ w ∈ wsX60, w ∈ wsL_law := fun _ h => List.mem_append_left _ (List.mem_append_left _ (List.mem_append_left _ (List.mem_append_left _ (List.mem_append_left _ (List.mem_append_right _ h)))))
theorem inJ6 : ∀ w ∈ wsJ60, w ∈ lw_tbl := by decide +kernel
