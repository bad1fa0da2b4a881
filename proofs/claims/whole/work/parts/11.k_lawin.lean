theorem m_subr {big ws : List Cond} (ps : List Nat) (hp : ps.filterMap (fun i => big[i]?) = ws) : ∀ w ∈ ws, w ∈ big := by
  intro w hw
  rw [← hp] at hw
  obtain ⟨i, -, hi⟩ := List.mem_filterMap.mp hw
  exact List.mem_of_getElem? hi
set_option maxRecDepth 100000 in
theorem wl_r1 : ∀ w ∈ wsL_law_r1, w ∈ lw_tbl := m_subr [35, 36, 27, 420, 421, 32, 37, 38, 39, 40, 41, 42, 43, 44, 28, 111, 80, 81, 30, 112, 45, 46, 47, 48] rfl
set_option maxRecDepth 100000 in
theorem wl_r2 : ∀ w ∈ wsL_law_r2, w ∈ lw_tbl := m_subr [78, 58, 59, 62, 79, 63, 64, 49, 50, 51, 52, 53, 54, 29, 55, 56, 82, 83, 84, 85, 100, 102, 86, 87] rfl
set_option maxRecDepth 100000 in
theorem wl_r3 : ∀ w ∈ wsL_law_r3, w ∈ lw_tbl := m_subr [88, 89, 90, 98, 91, 92, 93, 94, 95, 96, 31, 97, 422, 423, 424, 425, 462, 435, 436, 437, 438, 439, 441, 442] rfl
set_option maxRecDepth 100000 in
theorem wl_r4 : ∀ w ∈ wsL_law_r4, w ∈ lw_tbl := m_subr [426, 428, 6, 429, 434, 430, 432, 7, 433, 440, 118, 119, 120, 121, 57, 122, 123, 463, 464, 465, 466, 467, 468, 469] rfl
set_option maxRecDepth 100000 in
theorem wl_r5 : ∀ w ∈ wsL_law_r5, w ∈ lw_tbl := m_subr [124, 125, 126, 127, 128, 129, 130, 131, 132, 133, 134, 135, 136, 137, 138, 139, 140, 141, 142, 143, 144, 145, 146, 470] rfl
set_option maxRecDepth 100000 in
theorem wl_r6 : ∀ w ∈ wsL_law_r6, w ∈ lw_tbl := m_subr [471, 472, 473, 474, 476, 8, 477, 147, 148, 149, 150, 478, 479, 480, 481, 151, 152, 153, 154, 158, 155, 156, 157, 159] rfl
set_option maxRecDepth 100000 in
theorem wl_r7 : ∀ w ∈ wsL_law_r7, w ∈ lw_tbl := m_subr [160, 161, 162, 175, 176, 177, 178, 163, 164, 165, 166, 167, 168, 169, 170, 172, 0, 173, 179, 181, 180, 33, 174, 482] rfl
set_option maxRecDepth 100000 in
theorem wl_r8 : ∀ w ∈ wsL_law_r8, w ∈ lw_tbl := m_subr [483, 484, 485, 489, 486, 487, 488, 490, 492, 9, 493, 494, 495, 496, 497, 182, 183, 184, 185, 60, 186, 187, 188, 189] rfl
set_option maxRecDepth 100000 in
theorem wl_r9 : ∀ w ∈ wsL_law_r9, w ∈ lw_tbl := m_subr [190, 191, 192, 193, 194, 196, 1, 197, 198, 199, 200, 503, 504, 505, 506, 507, 509, 10, 510, 511, 513, 11, 514, 515] rfl
set_option maxRecDepth 100000 in
theorem wl_r10 : ∀ w ∈ wsL_law_r10, w ∈ lw_tbl := m_subr [516, 518, 12, 519, 520, 522, 13, 523, 201, 202, 203, 204, 205, 206, 498, 499, 500, 501, 502, 207, 208, 209, 210, 211] rfl
set_option maxRecDepth 100000 in
theorem wl_r11 : ∀ w ∈ wsL_law_r11, w ∈ lw_tbl := m_subr [212, 213, 214, 215, 217, 2, 218, 524, 525, 526, 527, 528, 530, 14, 531, 532, 534, 15, 535, 219, 220, 221, 222, 536] rfl
set_option maxRecDepth 100000 in
theorem wl_r12 : ∀ w ∈ wsL_law_r12, w ∈ lw_tbl := m_subr [537, 538, 539, 223, 224, 225, 226, 227, 228, 229, 230, 235, 231, 232, 233, 234, 236, 237, 238, 540, 541, 542, 543, 544] rfl
set_option maxRecDepth 100000 in
theorem wl_r13 : ∀ w ∈ wsL_law_r13, w ∈ lw_tbl := m_subr [546, 16, 547, 548, 549, 550, 239, 240, 241, 242, 243, 244, 245, 246, 251, 247, 248, 249, 250, 252, 253, 254, 255, 256] rfl
set_option maxRecDepth 100000 in
theorem wl_r14 : ∀ w ∈ wsL_law_r14, w ∈ lw_tbl := m_subr [551, 552, 553, 554, 257, 258, 259, 260, 266, 267, 268, 261, 262, 263, 264, 265, 555, 556, 557, 558, 559, 561, 17, 562] rfl
set_option maxRecDepth 100000 in
theorem wl_r15 : ∀ w ∈ wsL_law_r15, w ∈ lw_tbl := m_subr [269, 270, 271, 272, 273, 563, 564, 565, 566, 274, 275, 276, 277, 278, 279, 280, 281, 282, 567, 568, 569, 570, 283, 284] rfl
set_option maxRecDepth 100000 in
theorem wl_r16 : ∀ w ∈ wsL_law_r16, w ∈ lw_tbl := m_subr [285, 286, 99, 287, 571, 572, 573, 574, 288, 289, 290, 291, 101, 292, 293, 294, 295, 575, 576, 577, 578, 579, 581, 18] rfl
set_option maxRecDepth 100000 in
theorem wl_r17 : ∀ w ∈ wsL_law_r17, w ∈ lw_tbl := m_subr [582, 296, 297, 298, 299, 583, 584, 585, 586, 300, 301, 302, 303, 304, 305, 306, 307, 308, 310, 3, 311, 312, 587, 588] rfl
set_option maxRecDepth 100000 in
theorem wl_r18 : ∀ w ∈ wsL_law_r18, w ∈ lw_tbl := m_subr [589, 590, 591, 593, 19, 594, 595, 597, 20, 598, 313, 314, 315, 316, 317, 318, 319, 320, 321, 599, 600, 601, 602, 322] rfl
set_option maxRecDepth 100000 in
theorem wl_r19 : ∀ w ∈ wsL_law_r19, w ∈ lw_tbl := m_subr [323, 324, 325, 326, 327, 328, 329, 330, 332, 4, 333, 334, 335, 337, 5, 338, 339, 340, 341, 342, 343, 61, 603, 604] rfl
set_option maxRecDepth 100000 in
theorem wl_r20 : ∀ w ∈ wsL_law_r20, w ∈ lw_tbl := m_subr [605, 606, 607, 609, 21, 610, 344, 345, 346, 347, 348, 611, 612, 613, 614, 349, 350, 351, 352, 353, 103, 615, 616, 617] rfl
set_option maxRecDepth 100000 in
theorem wl_r21 : ∀ w ∈ wsL_law_r21, w ∈ lw_tbl := m_subr [618, 619, 354, 355, 356, 357, 620, 621, 622, 623, 358, 359, 360, 361, 362, 363, 364, 365, 366, 367, 368, 369, 370, 371] rfl
set_option maxRecDepth 100000 in
theorem wl_r22 : ∀ w ∈ wsL_law_r22, w ∈ lw_tbl := m_subr [372, 373, 374, 34, 375, 376, 377, 378, 379, 380, 381, 382, 383, 624, 625, 626, 627, 628, 630, 22, 631, 632, 634, 23] rfl
set_option maxRecDepth 100000 in
theorem wl_r23 : ∀ w ∈ wsL_law_r23, w ∈ lw_tbl := m_subr [635, 636, 637, 638, 639, 641, 24, 642, 384, 385, 386, 387, 388, 389, 390, 391, 392, 393, 394, 643, 644, 645, 646, 395] rfl
set_option maxRecDepth 100000 in
theorem wl_r24 : ∀ w ∈ wsL_law_r24, w ∈ lw_tbl := m_subr [396, 397, 398, 399, 400, 401, 402, 403, 647, 648, 649, 650, 404, 405, 406, 407, 408, 409, 410, 411, 412, 413, 414, 415] rfl
set_option maxRecDepth 100000 in
theorem wl_r25 : ∀ w ∈ wsL_law_r25, w ∈ lw_tbl := m_subr [416, 417, 418, 419, 651, 652, 653, 654, 655, 657, 25, 658] rfl
set_option maxRecDepth 100000 in
theorem inX0 : ∀ w ∈ wsX00, w ∈ lw_tbl := m_subr [104, 106, 108] rfl
set_option maxRecDepth 100000 in
theorem inX1 : ∀ w ∈ wsX10, w ∈ lw_tbl := m_subr [65, 67, 69, 71, 73, 75] rfl
set_option maxRecDepth 100000 in
theorem inX2 : ∀ w ∈ wsX20, w ∈ lw_tbl := m_subr [113, 115] rfl
set_option maxRecDepth 100000 in
theorem inX3 : ∀ w ∈ wsX30, w ∈ lw_tbl := m_subr [443, 445, 447, 449, 451, 453, 455, 457, 459] rfl
set_option maxRecDepth 100000 in
theorem wsL_law_in : ∀ w ∈ wsL_law, w ∈ lw_tbl := fun w h => (List.mem_append.mp h).elim (fun h => (List.mem_append.mp h).elim (fun h => (List.mem_append.mp h).elim (fun h => (List.mem_append.mp h).elim (fun h => (List.mem_append.mp h).elim (fun h => (List.mem_append.mp h).elim (fun h => wl_r1 w h) (fun h => (List.mem_append.mp h).elim (fun h => wl_r2 w h) (fun h => (List.mem_append.mp h).elim (fun h => wl_r3 w h) (fun h => (List.mem_append.mp h).elim (fun h => wl_r4 w h) (fun h => (List.mem_append.mp h).elim (fun h => wl_r5 w h) (fun h => (List.mem_append.mp h).elim (fun h => wl_r6 w h) (fun h => (List.mem_append.mp h).elim (fun h => wl_r7 w h) (fun h => (List.mem_append.mp h).elim (fun h => wl_r8 w h) (fun h => (List.mem_append.mp h).elim (fun h => wl_r9 w h) (fun h => (List.mem_append.mp h).elim (fun h => wl_r10 w h) (fun h => (List.mem_append.mp h).elim (fun h => wl_r11 w h) (fun h => (List.mem_append.mp h).elim (fun h => wl_r12 w h) (fun h => (List.mem_append.mp h).elim (fun h => wl_r13 w h) (fun h => (List.mem_append.mp h).elim (fun h => wl_r14 w h) (fun h => (List.mem_append.mp h).elim (fun h => wl_r15 w h) (fun h => (List.mem_append.mp h).elim (fun h => wl_r16 w h) (fun h => (List.mem_append.mp h).elim (fun h => wl_r17 w h) (fun h => (List.mem_append.mp h).elim (fun h => wl_r18 w h) (fun h => (List.mem_append.mp h).elim (fun h => wl_r19 w h) (fun h => (List.mem_append.mp h).elim (fun h => wl_r20 w h) (fun h => (List.mem_append.mp h).elim (fun h => wl_r21 w h) (fun h => (List.mem_append.mp h).elim (fun h => wl_r22 w h) (fun h => (List.mem_append.mp h).elim (fun h => wl_r23 w h) (fun h => (List.mem_append.mp h).elim (fun h => wl_r24 w h) (fun h => wl_r25 w h))))))))))))))))))))))))) (fun h => inX2 w h)) (fun h => inX3 w h)) (fun h => inX1 w h)) (fun h => inX0 w h)) (fun h => absurd h List.not_mem_nil)
