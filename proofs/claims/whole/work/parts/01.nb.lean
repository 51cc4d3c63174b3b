theorem in_places {big : List Cond} (ws : List Cond) (ps : List Nat) (hp : ws = ps.filterMap (fun i => big[i]?)) : ∀ w ∈ ws, w ∈ big := by
  intro w hw
  rw [hp] at hw
  obtain ⟨i, -, hi⟩ := List.mem_filterMap.mp hw
  exact List.mem_of_getElem? hi
theorem in_app {big a b : List Cond} (ha : ∀ w ∈ a, w ∈ big) (hb : ∀ w ∈ b, w ∈ big) : ∀ w ∈ a ++ b, w ∈ big := fun w h => (List.mem_append.mp h).elim (ha w) (hb w)
set_option maxRecDepth 20000 in
theorem wsL_law_r1_in : ∀ w ∈ wsL_law_r1, w ∈ lw_tbl := in_places _ [43, 44, 33, 441, 442, 39, 45, 46, 47, 48, 49, 50, 51, 52, 34, 194, 70, 71, 35, 195, 196, 91, 92, 36] (by decide +kernel)
set_option maxRecDepth 20000 in
theorem wsL_law_r2_in : ∀ w ∈ wsL_law_r2, w ∈ lw_tbl := in_places _ [197, 136, 137, 37, 198, 152, 153, 38, 199, 200, 54, 55, 56, 69, 57, 72, 73, 74, 75, 76, 79, 94, 95, 96] (by decide +kernel)
set_option maxRecDepth 20000 in
theorem wsL_law_r3_in : ∀ w ∈ wsL_law_r3, w ∈ lw_tbl := in_places _ [97, 98, 99, 101, 135, 102, 138, 139, 140, 141, 142, 143, 144, 154, 155, 156, 157, 160, 162, 163, 164, 158, 159, 182] (by decide +kernel)
set_option maxRecDepth 20000 in
theorem wsL_law_r4_in : ∀ w ∈ wsL_law_r4, w ∈ lw_tbl := in_places _ [184, 0, 185, 186, 187, 188, 189, 106, 108, 110, 105, 190, 192, 1, 193, 443, 444, 445, 446, 456, 457, 461, 462, 465] (by decide +kernel)
set_option maxRecDepth 20000 in
theorem wsL_law_r5_in : ∀ w ∈ wsL_law_r5, w ∈ lw_tbl := in_places _ [466, 467, 468, 470, 471, 447, 448, 449, 450, 455, 458, 459, 451, 453, 14, 454, 460, 216, 217, 218, 219, 507, 220, 221] (by decide +kernel)
set_option maxRecDepth 20000 in
theorem wsL_law_r6_in : ∀ w ∈ wsL_law_r6, w ∈ lw_tbl := in_places _ [222, 223, 224, 226, 2, 227, 228, 229, 230, 231, 232, 233, 234, 60, 508, 509, 510, 511, 512, 514, 15, 515, 516, 517] (by decide +kernel)
set_option maxRecDepth 20000 in
theorem wsL_law_r7_in : ∀ w ∈ wsL_law_r7, w ∈ lw_tbl := in_places _ [518, 235, 236, 237, 238, 519, 520, 521, 522, 239, 240, 241, 242, 243, 245, 3, 246, 247, 248, 249, 250, 82, 251, 252] (by decide +kernel)
set_option maxRecDepth 20000 in
theorem wsL_law_r8_in : ∀ w ∈ wsL_law_r8, w ∈ lw_tbl := in_places _ [253, 254, 255, 256, 257, 258, 259, 261, 260, 40, 523, 524, 525, 526, 527, 529, 16, 530, 262, 263, 264, 265, 531, 532] (by decide +kernel)
set_option maxRecDepth 20000 in
theorem wsL_law_r9_in : ∀ w ∈ wsL_law_r9, w ∈ lw_tbl := in_places _ [533, 534, 266, 267, 268, 269, 270, 271, 272, 273, 312, 274, 275, 276, 277, 278, 280, 4, 281, 282, 283, 284, 285, 286] (by decide +kernel)
set_option maxRecDepth 20000 in
theorem wsL_law_r10_in : ∀ w ∈ wsL_law_r10, w ∈ lw_tbl := in_places _ [287, 288, 289, 290, 291, 292, 293, 100, 294, 296, 5, 297, 298, 300, 6, 301, 302, 303, 304, 305, 306, 104, 307, 308] (by decide +kernel)
set_option maxRecDepth 20000 in
theorem wsL_law_r11_in : ∀ w ∈ wsL_law_r11, w ∈ lw_tbl := in_places _ [310, 7, 311, 313, 314, 315, 316, 317, 319, 8, 320, 321, 322, 323, 324, 325, 327, 9, 328, 329, 330, 331, 332, 333] (by decide +kernel)
set_option maxRecDepth 20000 in
theorem wsL_law_r12_in : ∀ w ∈ wsL_law_r12, w ∈ lw_tbl := in_places _ [334, 335, 336, 337, 165, 338, 339, 41, 340, 341, 343, 10, 344, 345, 535, 536, 537, 538, 539, 541, 17, 542, 463, 543] (by decide +kernel)
set_option maxRecDepth 20000 in
theorem wsL_law_r13_in : ∀ w ∈ wsL_law_r13, w ∈ lw_tbl := in_places _ [545, 18, 546, 547, 549, 19, 550, 464, 551, 553, 20, 554, 555, 557, 21, 558, 559, 561, 22, 562, 563, 565, 23, 566] (by decide +kernel)
set_option maxRecDepth 20000 in
theorem wsL_law_r14_in : ∀ w ∈ wsL_law_r14, w ∈ lw_tbl := in_places _ [346, 347, 348, 349, 350, 351, 352, 353, 354, 355, 356, 357, 567, 568, 569, 570, 571, 573, 24, 574, 575, 577, 25, 578] (by decide +kernel)
set_option maxRecDepth 20000 in
theorem wsL_law_r15_in : ∀ w ∈ wsL_law_r15, w ∈ lw_tbl := in_places _ [579, 581, 26, 582, 358, 359, 360, 361, 362, 363, 583, 584, 585, 586, 587, 589, 27, 590, 364, 365, 366, 367, 591, 592] (by decide +kernel)
set_option maxRecDepth 20000 in
theorem wsL_law_r16_in : ∀ w ∈ wsL_law_r16, w ∈ lw_tbl := in_places _ [593, 594, 595, 597, 28, 598, 469, 368, 369, 370, 371, 372, 373, 374, 375, 376, 377, 378, 379, 599, 600, 601, 602, 603] (by decide +kernel)
set_option maxRecDepth 20000 in
theorem wsL_law_r17_in : ∀ w ∈ wsL_law_r17, w ∈ lw_tbl := in_places _ [605, 29, 606, 380, 381, 382, 383, 384, 385, 386, 387, 607, 608, 609, 610, 611, 613, 30, 614, 388, 389, 390, 391, 392] (by decide +kernel)
set_option maxRecDepth 20000 in
theorem wsL_law_r18_in : ∀ w ∈ wsL_law_r18, w ∈ lw_tbl := in_places _ [393, 394, 395, 396, 398, 11, 399, 400, 402, 12, 403, 404, 615, 616, 617, 618, 619, 621, 31, 622, 405, 406, 407, 408] (by decide +kernel)
set_option maxRecDepth 20000 in
theorem wsL_law_r19_in : ∀ w ∈ wsL_law_r19, w ∈ lw_tbl := in_places _ [417, 409, 410, 411, 412, 413, 414, 415, 416, 623, 624, 625, 626, 627, 418, 419, 420, 421, 422, 423, 424, 425, 426, 428] (by decide +kernel)
set_option maxRecDepth 20000 in
theorem wsL_law_r20_in : ∀ w ∈ wsL_law_r20, w ∈ lw_tbl := in_places _ [13, 429, 628, 629, 630, 631, 430, 431, 432, 433, 434, 435, 436, 437, 438, 439, 42, 440, 632, 633, 634, 635] (by decide +kernel)
set_option maxRecDepth 20000 in
theorem inwX5 : ∀ w ∈ wsX50, w ∈ lw_tbl := by decide +kernel
set_option maxRecDepth 20000 in
theorem inwX6 : ∀ w ∈ wsX60, w ∈ lw_tbl := by decide +kernel
set_option maxRecDepth 20000 in
theorem inwX3 : ∀ w ∈ wsX30, w ∈ lw_tbl := by decide +kernel
set_option maxRecDepth 20000 in
theorem inwX4 : ∀ w ∈ wsX40, w ∈ lw_tbl := by decide +kernel
set_option maxRecDepth 20000 in
theorem inwX1 : ∀ w ∈ wsX10, w ∈ lw_tbl := by decide +kernel
set_option maxRecDepth 20000 in
theorem inwX2 : ∀ w ∈ wsX20, w ∈ lw_tbl := by decide +kernel
set_option maxRecDepth 20000 in
theorem inwX0 : ∀ w ∈ wsX00, w ∈ lw_tbl := by decide +kernel
theorem wsL_law_in : ∀ w ∈ wsL_law, w ∈ lw_tbl := in_app (in_app (in_app (in_app (in_app (in_app (in_app (in_app (in_app wsL_law_r1_in (in_app wsL_law_r2_in (in_app wsL_law_r3_in (in_app wsL_law_r4_in (in_app wsL_law_r5_in (in_app wsL_law_r6_in (in_app wsL_law_r7_in (in_app wsL_law_r8_in (in_app wsL_law_r9_in (in_app wsL_law_r10_in (in_app wsL_law_r11_in (in_app wsL_law_r12_in (in_app wsL_law_r13_in (in_app wsL_law_r14_in (in_app wsL_law_r15_in (in_app wsL_law_r16_in (in_app wsL_law_r17_in (in_app wsL_law_r18_in (in_app wsL_law_r19_in (wsL_law_r20_in)))))))))))))))))))) inwX5) inwX6) inwX3) inwX4) inwX1) inwX2) inwX0) (fun _ h => absurd h List.not_mem_nil)
