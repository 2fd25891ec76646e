theorem wsL_law_x0 : ∀ w ∈ (vx_atS RX6 98 "java/lang/IllegalArgumentException" ["java/lang/RuntimeException", "java/lang/Exception"]).filter goodWord, w ∈ lw_tbl := by decide +kernel
theorem wsL_law_in : ∀ w ∈ wsL_law, w ∈ lw_tbl := fun w h => (List.mem_append.mp h).elim (fun h => wsL_law_in0 w h) (fun h => wsL_law_x0 w h)
theorem inlX0 : ∀ w ∈ wsX00, w ∈ wsL_law := fun _ h => List.mem_append_left _ (List.mem_append_left _ (List.mem_append_left _ (List.mem_append_right _ h)))
theorem inX0 : ∀ w ∈ wsX00, w ∈ lw_tbl := fun w h => wsL_law_in w (inlX0 w h)
theorem inlX1 : ∀ w ∈ wsX10, w ∈ wsL_law := fun _ h => List.mem_append_left _ (List.mem_append_left _ (List.mem_append_right _ h))
theorem inX1 : ∀ w ∈ wsX10, w ∈ lw_tbl := fun w h => wsL_law_in w (inlX1 w h)
theorem inlX2 : ∀ w ∈ wsX20, w ∈ wsL_law := fun _ h => List.mem_append_left _ (List.mem_append_left _ (List.mem_append_left _ (List.mem_append_left _ (List.mem_append_left _ (List.mem_append_right _ h)))))
theorem inX2 : ∀ w ∈ wsX20, w ∈ lw_tbl := fun w h => wsL_law_in w (inlX2 w h)
theorem inlX3 : ∀ w ∈ wsX30, w ∈ wsL_law := fun _ h => List.mem_append_left _ (List.mem_append_left _ (List.mem_append_left _ (List.mem_append_left _ (List.mem_append_right _ h))))
theorem inX3 : ∀ w ∈ wsX30, w ∈ lw_tbl := fun w h => wsL_law_in w (inlX3 w h)
theorem inX4 : ∀ w ∈ wsX40, w ∈ lw_tbl := by decide +kernel
theorem inlX5 : ∀ w ∈ wsX50, w ∈ wsL_law := fun _ h => List.mem_append_left _ (List.mem_append_left _ (List.mem_append_left _ (List.mem_append_left _ (List.mem_append_left _ (List.mem_append_left _ (List.mem_append_right _ h))))))
theorem inX5 : ∀ w ∈ wsX50, w ∈ lw_tbl := fun w h => wsL_law_in w (inlX5 w h)
theorem inlX6 : ∀ w ∈ wsX60, w ∈ wsL_law := fun _ h => List.mem_append_left _ (List.mem_append_left _ (List.mem_append_left _ (List.mem_append_left _ (List.mem_append_left _ (List.mem_append_left _ (List.mem_append_left _ (List.mem_append_left _ (List.mem_append_right _ h))))))))
theorem inX6 : ∀ w ∈ wsX60, w ∈ lw_tbl := fun w h => wsL_law_in w (inlX6 w h)
theorem inlX7 : ∀ w ∈ wsX70, w ∈ wsL_law := fun _ h => List.mem_append_left _ (List.mem_append_left _ (List.mem_append_left _ (List.mem_append_left _ (List.mem_append_left _ (List.mem_append_left _ (List.mem_append_left _ (List.mem_append_right _ h)))))))
theorem inX7 : ∀ w ∈ wsX70, w ∈ lw_tbl := fun w h => wsL_law_in w (inlX7 w h)
theorem inJ0 : ∀ w ∈ wsJ00, w ∈ lw_tbl := by decide +kernel
set_option maxRecDepth 20000 in
theorem ggL_encode_X6_encode : GoodIn wsL_encode wsX6_encode := goodIn_ca (goodIn_r _ [6, 7, 8, 9, 10, 11, 12, 13, 14, 15, 16, 17, 18, 19, 20, 21, 22, 23, 24, 25, 26, 27, 28, 29, 30, 31, 32, 33, 34, 35, 36, 37, 38, 39, 40, 41, 42, 43, 44, 45, 46, 47, 48, 49, 50, 51, 52, 53, 54, 55, 56, 57, 58, 59, 60, 61, 62, 63, 64, 65, 66, 67, 68, 69, 70, 71, 72, 73, 74, 75, 76, 77, 78, 79, 80, 81, 82, 83, 84, 85, 86, 87, 88, 89, 90, 91, 92, 93, 94, 95, 96, 97, 98, 99, 100, 101, 102, 103, 104, 105, 106, 107, 108, 109, 110, 111, 112, 113, 114, 115, 116, 117, 118, 119, 120, 121, 122, 123, 124, 125, 126, 127, 128, 129, 130, 131, 132, 133, 134, 135, 136, 137, 138, 139, 140, 141, 142, 143, 144, 145, 146, 147, 148, 149, 150, 151, 152, 153, 154, 155, 156, 157, 158, 159, 160, 161, 162, 163, 164, 165, 166, 167, 168, 169, 170, 171, 172, 173, 174, 175, 176, 177, 178, 179, 180, 181, 182, 183, 184, 185, 186, 187, 188, 189, 190, 191, 192, 193, 194, 195, 196, 197, 198, 199] (by decide +kernel) (by decide +kernel)) (goodIn_sub (fun _ h => List.mem_cons_of_mem _ (List.mem_append_right _ h)) (by decide +kernel))
set_option maxRecDepth 20000 in
theorem gL_encode_X6_encode : GoodIn wsL_encode (wsV RL 7 RX6 yX6_encode wsX6_encode) := goodIn_app (goodIn_of _ (by decide +kernel)) ggL_encode_X6_encode
set_option maxRecDepth 20000 in
theorem ggL_decode_X6_decode : GoodIn wsL_decode wsX6_decode := goodIn_ca (goodIn_r _ [6, 7, 8, 9, 10, 11, 12, 13, 14, 15, 16, 17, 18, 19, 20, 21, 22, 23, 24, 25, 26, 27, 28, 29, 30, 31, 32, 33, 34, 35, 36, 37, 38, 39, 40, 41, 42, 43, 44, 45, 46, 47, 48, 49, 50, 51, 52, 53, 54, 55, 56, 57, 58, 59, 60, 61, 62, 63, 64, 65, 66, 67, 68, 69, 70, 71, 72, 73, 74, 75, 76, 77, 78, 79, 80, 81, 82, 83, 84, 85, 86, 87, 88, 89, 90, 91, 92, 93, 94, 95, 96, 97, 98, 99, 100, 101, 102, 103, 104, 105, 106, 107, 108, 109, 110, 111, 112, 113, 114, 115, 116, 117, 118, 119, 120, 121, 122, 123, 124, 125, 126, 127, 128, 129, 130, 131, 132, 133, 134, 135, 136, 137, 138, 139, 140, 141, 142, 143, 144, 145, 146, 147, 148, 149, 150, 151, 152, 153, 154, 155, 156, 157, 158, 159, 160, 161, 162, 163, 164, 165, 166, 167, 168, 169, 170, 171, 172, 173, 174, 175, 176, 177, 178, 179, 180, 181, 182, 183, 184, 185, 186, 187, 188, 189, 190, 191, 192, 193, 194, 195, 196, 197, 198, 199, 200, 201, 202, 203, 204, 205, 206, 207, 208, 209, 210, 211, 212, 213, 214, 215, 216, 217, 218, 219, 220, 221, 222, 223, 224, 225, 226, 227, 228, 229, 230] (by decide +kernel) (by decide +kernel)) (goodIn_sub (fun _ h => List.mem_cons_of_mem _ (List.mem_append_right _ h)) (by decide +kernel))
set_option maxRecDepth 20000 in
theorem gL_decode_X6_decode : GoodIn wsL_decode (wsV RL 15 RX6 yX6_decode wsX6_decode) := goodIn_app (goodIn_of _ (by decide +kernel)) ggL_decode_X6_decode
set_option maxRecDepth 20000 in
theorem ggL_law_X6_init : GoodIn wsL_law wsX6_init := goodIn_r _ [10, 11, 12, 13, 14, 15, 16, 17, 18, 19, 20, 21, 22, 23, 24, 25, 26, 27, 28, 29, 30, 31, 32, 33, 34, 35, 36, 37, 38, 39, 40, 41, 42, 43, 44, 45, 46, 47, 48, 49, 50, 51, 52, 53, 54, 55, 56, 57, 58, 59, 60, 61, 62, 63, 64, 65, 66, 67, 68, 69, 70, 71, 72, 73, 74, 75, 76, 77, 78, 79, 80, 81, 82, 594, 595, 565, 566, 567, 568, 569, 570, 596, 597, 598, 599, 600, 601, 602, 603, 604, 605, 606, 607, 608, 609, 610, 611, 612, 613, 614, 615, 616, 617] rfl (by decide +kernel)
set_option maxRecDepth 20000 in
theorem gL_law_X6_init : GoodIn wsL_law (wsX6_init) := ggL_law_X6_init
set_option maxRecDepth 20000 in
theorem ggL_law_X7_init : GoodIn wsL_law wsX7_init := goodIn_r _ [85, 86, 12, 13, 44, 87, 88, 89, 90, 91, 92, 93, 94, 95, 96, 97, 98, 99, 100, 101, 5, 102, 103, 104, 105, 106, 107, 571, 572, 573, 574, 575, 576, 577, 578, 579, 580, 581, 582, 583, 584, 585, 586, 587, 588, 589, 590, 591, 592, 593] rfl (by decide +kernel)
set_option maxRecDepth 20000 in
theorem gL_law_X7_init : GoodIn wsL_law (wsX7_init) := ggL_law_X7_init
set_option maxRecDepth 20000 in
theorem ggL_law_X6_op : GoodIn wsL_law wsX6_op := goodIn_r _ [111, 18, 112, 113, 114, 35, 115, 43, 116, 117, 118, 119, 120, 121, 45, 46, 565, 566, 567, 568, 569, 570, 607, 608, 609, 610, 611, 612, 613] rfl (by decide +kernel)
set_option maxRecDepth 20000 in
theorem gL_law_X6_op : GoodIn wsL_law (wsV RL 22 RX6 yX6_op wsX6_op) := goodIn_app (goodIn_of _ (by decide +kernel)) ggL_law_X6_op
set_option maxRecDepth 20000 in
theorem ggL_law_X7_op : GoodIn wsL_law wsX7_op := goodIn_r _ [125, 126, 94, 571, 572, 573, 574, 575, 576, 577, 578, 579, 580, 581, 582, 583, 584, 585, 586, 587, 588, 589, 590, 591, 592, 593] rfl (by decide +kernel)
set_option maxRecDepth 20000 in
theorem gL_law_X7_op : GoodIn wsL_law (wsV RL 26 RX7 yX7_op wsX7_op) := goodIn_app (goodIn_of _ (by decide +kernel)) ggL_law_X7_op
set_option maxRecDepth 20000 in
theorem ggL_law_X6_operand : GoodIn wsL_law wsX6_operand := goodIn_r _ [130, 18, 131, 119, 120, 35, 121, 45, 46, 565, 566, 567, 568, 569, 570, 607, 608, 609, 610, 611, 612, 613] rfl (by decide +kernel)
set_option maxRecDepth 20000 in
theorem gL_law_X6_operand : GoodIn wsL_law (wsV RL 27 RX6 yX6_operand wsX6_operand) := goodIn_app (goodIn_of _ (by decide +kernel)) ggL_law_X6_operand
set_option maxRecDepth 20000 in
theorem ggL_law_X7_operand : GoodIn wsL_law wsX7_operand := goodIn_r _ [135, 126, 94, 571, 572, 573, 574, 575, 576, 577, 578, 579, 580, 581, 582, 583, 584, 585, 586, 587, 588, 589, 590, 591, 592, 593] rfl (by decide +kernel)
set_option maxRecDepth 20000 in
theorem gL_law_X7_operand : GoodIn wsL_law (wsV RL 31 RX7 yX7_operand wsX7_operand) := goodIn_app (goodIn_of _ (by decide +kernel)) ggL_law_X7_operand
set_option maxRecDepth 20000 in
theorem ggL_law_X6_memory : GoodIn wsL_law wsX6_memory := goodIn_r _ [139, 18, 140, 60, 61, 49, 62, 63, 64, 65, 66, 565, 566, 567, 568, 569, 570, 607, 608, 609, 610, 611, 612, 613, 614, 615, 616, 617] rfl (by decide +kernel)
set_option maxRecDepth 20000 in
theorem gL_law_X6_memory : GoodIn wsL_law (wsV RL 32 RX6 yX6_memory wsX6_memory) := goodIn_app (goodIn_of _ (by decide +kernel)) ggL_law_X6_memory
set_option maxRecDepth 20000 in
theorem ggL_law_X7_memory : GoodIn wsL_law wsX7_memory := goodIn_r _ [144, 126, 94, 571, 572, 573, 574, 575, 576, 577, 578, 579, 580, 581, 582, 583, 584, 585, 586, 587, 588, 589, 590, 591, 592, 593] rfl (by decide +kernel)
set_option maxRecDepth 20000 in
theorem gL_law_X7_memory : GoodIn wsL_law (wsV RL 36 RX7 yX7_memory wsX7_memory) := goodIn_app (goodIn_of _ (by decide +kernel)) ggL_law_X7_memory
set_option maxRecDepth 20000 in
theorem ggL_law_X6_number : GoodIn wsL_law wsX6_number := goodIn_r _ [148, 18, 565, 566, 567, 568, 569, 570, 607, 608, 609, 610, 611, 612, 613] rfl (by decide +kernel)
set_option maxRecDepth 20000 in
theorem gL_law_X6_number : GoodIn wsL_law (wsV RL 39 RX6 yX6_number wsX6_number) := goodIn_app (goodIn_of _ (by decide +kernel)) ggL_law_X6_number
set_option maxRecDepth 20000 in
theorem ggL_law_X7_number : GoodIn wsL_law wsX7_number := goodIn_r _ [152, 126, 153, 571, 572, 573, 574, 575, 576, 577, 578, 579, 580, 581, 582, 583, 584, 585, 586, 587, 588, 589, 590, 591, 592, 593] rfl (by decide +kernel)
set_option maxRecDepth 20000 in
theorem gL_law_X7_number : GoodIn wsL_law (wsV RL 43 RX7 yX7_number wsX7_number) := goodIn_app (goodIn_of _ (by decide +kernel)) ggL_law_X7_number
set_option maxRecDepth 20000 in
theorem ggL_law_L_encode : GoodIn wsL_law wsL_encode := goodIn_ca (goodIn_r _ [157, 158, 159, 160, 161, 2, 162, 163, 164, 17, 19, 23, 165, 166, 167, 168, 169, 170, 171, 172, 16, 173, 36, 174, 175, 176, 177, 178, 179, 180, 181, 182, 183, 184, 185, 186, 187, 188, 189, 190, 191, 192, 35, 193, 45, 194, 195, 196, 49, 197, 63, 64, 65, 198, 199, 200, 201, 202, 203, 204, 46, 205, 206, 207, 208, 209, 210, 211, 212, 213, 214, 215, 216, 38, 217, 218, 219, 22, 220, 221, 222, 223, 224, 225, 226, 227, 228, 71, 229, 230, 231, 232, 233, 234, 235, 236, 237, 238, 239, 240, 241, 242, 243, 244, 245, 246, 247, 248, 249, 250, 251, 252, 253, 254, 255, 256, 257, 258, 259, 260, 261, 262, 263, 264, 265, 266, 267, 268, 269, 270, 271, 272, 273, 274, 275, 276, 277, 278, 279, 280, 281, 282, 283, 66, 284, 285, 286, 287, 288, 289, 290, 291, 292, 293, 294, 295, 296, 297, 298, 299, 300, 301, 302, 303, 304, 305, 306, 307, 308, 309, 310, 311, 312, 313, 314, 315, 316, 317, 318, 565, 566, 567, 568, 569, 570, 596, 597, 594, 595, 607, 608, 609, 610, 611, 612, 613, 614, 615, 616, 617] (by decide +kernel) (by decide +kernel)) (goodIn_sub (fun _ h => List.mem_append_right _ h) (by decide +kernel))
set_option maxRecDepth 20000 in
theorem gL_law_L_encode : GoodIn wsL_law (va_wsS RL 44 yL_encode wsL_encode) := goodIn_app (goodIn_of _ (by decide +kernel)) ggL_law_L_encode
set_option maxRecDepth 20000 in
theorem ggL_law_X7_encode : GoodIn wsL_law wsX7_encode := goodIn_r _ [322, 103, 323, 96, 97, 126, 324, 325, 326, 327, 5, 328, 94, 89, 87, 88, 92, 90, 91, 153, 93, 329, 330, 331, 332, 333, 334, 335, 336, 337, 338, 339, 340, 341, 342, 343, 344, 345, 346, 347, 348, 349, 350, 351, 352, 353, 354, 355, 356, 357, 358, 359, 360, 361, 362, 363, 364, 365, 366, 367, 368, 369, 370, 371, 372, 571, 572, 573, 574, 575, 576, 577, 578, 579, 580, 581, 582, 583, 584, 585, 586, 587, 588, 589, 590, 591, 592, 593] rfl (by decide +kernel)
set_option maxRecDepth 20000 in
theorem gL_law_X7_encode : GoodIn wsL_law (wsV RL 49 RX7 yX7_encode wsX7_encode) := goodIn_app (goodIn_of _ (by decide +kernel)) ggL_law_X7_encode
set_option maxRecDepth 20000 in
theorem ggL_law_X7_thrown : GoodIn wsL_law wsX7_thrown := goodIn_r _ [376, 126, 571, 572, 573, 574, 575, 576, 577, 578, 579, 580, 581, 582, 583, 584, 585, 586, 587, 588, 589, 590, 591, 592, 593] rfl (by decide +kernel)
set_option maxRecDepth 20000 in
theorem gL_law_X7_thrown : GoodIn wsL_law (wsV RL 50 RX7 yX7_thrown wsX7_thrown) := goodIn_app (goodIn_of _ (by decide +kernel)) ggL_law_X7_thrown
set_option maxRecDepth 20000 in
theorem ggL_law_X6_octet : GoodIn wsL_law wsX6_octet := goodIn_r _ [380, 23, 381, 316, 317, 22, 318, 221, 71, 565, 566, 567, 568, 569, 570, 596, 597] rfl (by decide +kernel)
set_option maxRecDepth 20000 in
theorem gL_law_X6_octet : GoodIn wsL_law (wsV RL 53 RX6 yX6_octet wsX6_octet) := goodIn_app (goodIn_of _ (by decide +kernel)) ggL_law_X6_octet
set_option maxRecDepth 20000 in
theorem ggL_law_X7_octet : GoodIn wsL_law wsX7_octet := goodIn_r _ [385, 126, 324, 96, 571, 572, 573, 574, 575, 576, 577, 578, 579, 580, 581, 582, 583, 584, 585, 586, 587, 588, 589, 590, 591, 592, 593] rfl (by decide +kernel)
set_option maxRecDepth 20000 in
theorem gL_law_X7_octet : GoodIn wsL_law (wsV RL 57 RX7 yX7_octet wsX7_octet) := goodIn_app (goodIn_of _ (by decide +kernel)) ggL_law_X7_octet
set_option maxRecDepth 20000 in
theorem ggL_law_X6_feed : GoodIn wsL_law wsX6_feed := goodIn_r _ [389, 28, 390, 391, 392, 22, 393, 221, 394, 226, 227, 228, 71, 565, 566, 567, 568, 569, 570, 596, 597] rfl (by decide +kernel)
set_option maxRecDepth 20000 in
theorem gL_law_X6_feed : GoodIn wsL_law (wsV RL 58 RX6 yX6_feed wsX6_feed) := goodIn_app (goodIn_of _ (by decide +kernel)) ggL_law_X6_feed
set_option maxRecDepth 20000 in
theorem ggL_law_X7_feed : GoodIn wsL_law wsX7_feed := goodIn_r _ [398, 126, 399, 98, 372, 571, 572, 573, 574, 575, 576, 577, 578, 579, 580, 581, 582, 583, 584, 585, 586, 587, 588, 589, 590, 591, 592, 593] rfl (by decide +kernel)
set_option maxRecDepth 20000 in
theorem gL_law_X7_feed : GoodIn wsL_law (wsV RL 62 RX7 yX7_feed wsX7_feed) := goodIn_app (goodIn_of _ (by decide +kernel)) ggL_law_X7_feed
set_option maxRecDepth 20000 in
theorem ggL_law_L_decode : GoodIn wsL_law wsL_decode := goodIn_ca (goodIn_r _ [402, 158, 403, 404, 405, 2, 406, 163, 164, 27, 28, 18, 407, 408, 409, 26, 410, 411, 412, 413, 414, 415, 416, 78, 417, 418, 419, 420, 421, 316, 317, 22, 318, 221, 71, 422, 423, 424, 425, 426, 427, 428, 429, 430, 166, 167, 168, 169, 431, 432, 433, 434, 256, 257, 177, 178, 179, 435, 436, 437, 438, 184, 185, 439, 259, 260, 264, 199, 200, 440, 441, 442, 443, 444, 223, 224, 445, 446, 447, 448, 449, 450, 451, 452, 453, 454, 455, 273, 274, 456, 457, 458, 459, 80, 460, 461, 462, 175, 176, 463, 464, 465, 466, 467, 113, 114, 35, 115, 43, 116, 117, 118, 119, 120, 121, 45, 46, 468, 56, 57, 49, 58, 59, 60, 61, 62, 63, 64, 65, 66, 469, 262, 263, 265, 266, 267, 470, 471, 472, 473, 474, 475, 476, 477, 478, 479, 480, 481, 482, 483, 484, 485, 486, 487, 488, 489, 490, 491, 492, 493, 494, 495, 496, 249, 250, 497, 498, 499, 500, 501, 502, 206, 207, 503, 504, 505, 506, 507, 308, 309, 508, 509, 510, 511, 218, 219, 220, 512, 513, 514, 515, 50, 516, 517, 518, 191, 192, 193, 519, 202, 203, 204, 520, 565, 566, 567, 568, 569, 570, 598, 599, 600, 601, 602, 603, 604, 605, 606, 596, 597, 607, 608, 609, 610, 611, 612, 613, 614, 615, 616, 617] (by decide +kernel) (by decide +kernel)) (goodIn_sub (fun _ h => List.mem_append_right _ h) (by decide +kernel))
set_option maxRecDepth 20000 in
theorem gL_law_L_decode : GoodIn wsL_law (va_wsS RL 63 yL_decode wsL_decode) := goodIn_app (goodIn_of _ (by decide +kernel)) ggL_law_L_decode
set_option maxRecDepth 20000 in
theorem ggL_law_X7_decode : GoodIn wsL_law wsX7_decode := goodIn_r _ [524, 525, 526, 399, 98, 527, 528, 103, 94, 95, 529, 153, 126, 530, 531, 532, 5, 533, 90, 89, 91, 88, 87, 92, 93, 372, 534, 535, 536, 537, 538, 332, 333, 334, 361, 362, 363, 339, 340, 341, 349, 350, 351, 352, 539, 540, 541, 542, 543, 544, 545, 546, 346, 347, 348, 571, 572, 573, 574, 575, 576, 577, 578, 579, 580, 581, 582, 583, 584, 585, 586, 587, 588, 589, 590, 591, 592, 593] rfl (by decide +kernel)
set_option maxRecDepth 20000 in
theorem gL_law_X7_decode : GoodIn wsL_law (wsV RL 65 RX7 yX7_decode wsX7_decode) := goodIn_app (goodIn_of _ (by decide +kernel)) ggL_law_X7_decode
set_option maxRecDepth 20000 in
theorem ggL_law_X6_field : GoodIn wsL_law wsX6_field := goodIn_r _ [550, 18, 551, 191, 192, 35, 193, 45, 552, 202, 203, 204, 46, 565, 566, 567, 568, 569, 570, 607, 608, 609, 610, 611, 612, 613, 614, 615, 616, 617] rfl (by decide +kernel)
set_option maxRecDepth 20000 in
theorem gL_law_X6_field : GoodIn wsL_law (wsV RL 66 RX6 yX6_field wsX6_field) := goodIn_app (goodIn_of _ (by decide +kernel)) ggL_law_X6_field
set_option maxRecDepth 20000 in
theorem ggL_law_X7_field : GoodIn wsL_law wsX7_field := goodIn_r _ [556, 126, 94, 571, 572, 573, 574, 575, 576, 577, 578, 579, 580, 581, 582, 583, 584, 585, 586, 587, 588, 589, 590, 591, 592, 593] rfl (by decide +kernel)
set_option maxRecDepth 20000 in
theorem gL_law_X7_field : GoodIn wsL_law (wsV RL 69 RX7 yX7_field wsX7_field) := goodIn_app (goodIn_of _ (by decide +kernel)) ggL_law_X7_field
set_option maxRecDepth 20000 in
theorem ggL_law_X6_value : GoodIn wsL_law wsX6_value := goodIn_r _ [560, 18, 565, 566, 567, 568, 569, 570, 607, 608, 609, 610, 611, 612, 613] rfl (by decide +kernel)
set_option maxRecDepth 20000 in
theorem gL_law_X6_value : GoodIn wsL_law (wsV RL 70 RX6 yX6_value wsX6_value) := goodIn_app (goodIn_of _ (by decide +kernel)) ggL_law_X6_value
set_option maxRecDepth 20000 in
theorem ggL_law_X7_value : GoodIn wsL_law wsX7_value := goodIn_r _ [564, 126, 153, 571, 572, 573, 574, 575, 576, 577, 578, 579, 580, 581, 582, 583, 584, 585, 586, 587, 588, 589, 590, 591, 592, 593] rfl (by decide +kernel)
set_option maxRecDepth 20000 in
theorem gL_law_X7_value : GoodIn wsL_law (wsV RL 74 RX7 yX7_value wsX7_value) := goodIn_app (goodIn_of _ (by decide +kernel)) ggL_law_X7_value
