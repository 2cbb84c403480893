set_option maxRecDepth 20000 in
theorem ggL_law_X3_init : GoodIn wsL_law wsX3_init := goodIn_r _ [9, 10, 11, 12, 13, 14, 15, 16, 17, 18, 19, 20, 21, 22, 23, 24, 25, 26, 27, 28, 29, 30, 31, 32, 33, 34, 35, 36, 37, 38, 39, 40, 41, 42, 43, 44, 45, 46, 47, 48, 49, 50, 51, 52, 53, 54, 55, 56, 57, 58, 59, 60, 61, 62, 63, 64, 65, 66, 67, 68, 69, 70, 71, 573, 574, 575, 576, 577, 578, 579, 580, 581, 582, 583, 584, 613, 614, 615, 616, 617, 618, 619, 620, 621, 622, 623, 624, 625, 626, 627, 628, 629, 630, 631, 632, 633, 634, 635, 636] (by decide +kernel) (by decide +kernel)
set_option maxRecDepth 20000 in
theorem gL_law_X3_init : GoodIn wsL_law (wsX3_init) := ggL_law_X3_init
set_option maxRecDepth 20000 in
theorem ggL_law_X4_init : GoodIn wsL_law wsX4_init := goodIn_r _ [74, 75, 11, 12, 13, 76, 77, 39, 78, 79, 80, 64, 81, 82, 83, 84, 85, 86, 87, 88, 89, 90, 91, 585, 586, 587, 588, 589, 590, 591, 592, 593, 594, 595, 596, 597, 598, 599, 600, 601, 602, 603, 604, 605, 606, 607, 608, 609, 610, 611, 612] (by decide +kernel) (by decide +kernel)
set_option maxRecDepth 20000 in
theorem gL_law_X4_init : GoodIn wsL_law (wsX4_init) := ggL_law_X4_init
set_option maxRecDepth 20000 in
theorem ggL_law_L_push : GoodIn wsL_law wsL_push := goodIn_ca (goodIn_r _ [95, 96, 97, 98, 99, 2, 100, 101, 102, 29, 14, 573, 574, 575, 576, 577, 578, 579, 580, 581, 582, 583, 584] (by decide +kernel) (by decide +kernel)) (goodIn_sub (fun _ h => List.mem_append_left _ (List.mem_append_left _ (List.mem_append_right _ h))) (by decide +kernel))
set_option maxRecDepth 20000 in
theorem gL_law_L_push : GoodIn wsL_law (va_wsS RL 50 yL_push wsL_push) := goodIn_app (goodIn_of _ (by decide +kernel)) ggL_law_L_push
set_option maxRecDepth 20000 in
theorem ggL_law_X4_push : GoodIn wsL_law wsX4_push := goodIn_r _ [106, 107, 108, 76, 109, 110, 111, 5, 112, 585, 586, 587, 588, 589, 590, 591, 592, 593, 594, 595, 596, 597, 598, 599, 600, 601, 602, 603, 604, 605, 606, 607, 608, 609, 610, 611, 612] (by decide +kernel) (by decide +kernel)
set_option maxRecDepth 20000 in
theorem gL_law_X4_push : GoodIn wsL_law (wsV RL 55 RX4 yX4_push wsX4_push) := goodIn_app (goodIn_of _ (by decide +kernel)) ggL_law_X4_push
set_option maxRecDepth 20000 in
theorem ggL_law_X4_thrown : GoodIn wsL_law wsX4_thrown := goodIn_r _ [116, 107, 585, 586, 587, 588, 589, 590, 591, 592, 593, 594, 595, 596, 597, 598, 599, 600, 601, 602, 603, 604, 605, 606, 607, 608, 609, 610, 611, 612] (by decide +kernel) (by decide +kernel)
set_option maxRecDepth 20000 in
theorem gL_law_X4_thrown : GoodIn wsL_law (wsV RL 56 RX4 yX4_thrown wsX4_thrown) := goodIn_app (goodIn_of _ (by decide +kernel)) ggL_law_X4_thrown
set_option maxRecDepth 20000 in
theorem ggL_law_L_block : GoodIn wsL_law wsL_block := goodIn_ca (goodIn_r _ [119, 120, 121, 122, 123, 2, 124, 125, 126, 22, 127, 29, 14, 128, 129, 130, 21, 131, 55, 51, 54, 573, 574, 575, 576, 577, 578, 579, 580, 581, 582, 583, 584, 620, 621, 622, 623, 624] (by decide +kernel) (by decide +kernel)) (goodIn_sub (fun _ h => List.mem_append_left _ (List.mem_append_right _ h)) (by decide +kernel))
set_option maxRecDepth 20000 in
theorem gL_law_L_block : GoodIn wsL_law (va_wsS RL 59 yL_block wsL_block) := goodIn_app (goodIn_of _ (by decide +kernel)) ggL_law_L_block
set_option maxRecDepth 20000 in
theorem ggL_law_X4_block : GoodIn wsL_law wsX4_block := goodIn_r _ [135, 107, 136, 108, 77, 76, 109, 110, 111, 5, 112, 585, 586, 587, 588, 589, 590, 591, 592, 593, 594, 595, 596, 597, 598, 599, 600, 601, 602, 603, 604, 605, 606, 607, 608, 609, 610, 611, 612] (by decide +kernel) (by decide +kernel)
set_option maxRecDepth 20000 in
theorem gL_law_X4_block : GoodIn wsL_law (wsV RL 62 RX4 yX4_block wsX4_block) := goodIn_app (goodIn_of _ (by decide +kernel)) ggL_law_X4_block
set_option maxRecDepth 20000 in
theorem ggL_law_X3_feed : GoodIn wsL_law wsX3_feed := goodIn_r _ [140, 18, 141, 142, 143, 144, 17, 145, 46, 40, 573, 574, 575, 576, 577, 578, 579, 580, 581, 582, 583, 584, 613, 614, 615, 616, 617, 618, 619] (by decide +kernel) (by decide +kernel)
set_option maxRecDepth 20000 in
theorem gL_law_X3_feed : GoodIn wsL_law (wsV RL 63 RX3 yX3_feed wsX3_feed) := goodIn_app (goodIn_of _ (by decide +kernel)) ggL_law_X3_feed
set_option maxRecDepth 20000 in
theorem ggL_law_X4_feed : GoodIn wsL_law wsX4_feed := goodIn_r _ [149, 107, 150, 78, 585, 586, 587, 588, 589, 590, 591, 592, 593, 594, 595, 596, 597, 598, 599, 600, 601, 602, 603, 604, 605, 606, 607, 608, 609, 610, 611, 612] (by decide +kernel) (by decide +kernel)
set_option maxRecDepth 20000 in
theorem gL_law_X4_feed : GoodIn wsL_law (wsV RL 67 RX4 yX4_feed wsX4_feed) := goodIn_app (goodIn_of _ (by decide +kernel)) ggL_law_X4_feed
set_option maxRecDepth 20000 in
theorem ggL_law_L_order : GoodIn wsL_law wsL_order := goodIn_ca (goodIn_r _ [153, 96, 154, 155, 156, 2, 157, 29, 22, 127, 30, 18, 158, 34, 141, 159, 160, 161, 162, 101, 102, 163, 164, 165, 166, 17, 167, 44, 41, 42, 168, 169, 170, 171, 43, 45, 172, 173, 174, 175, 176, 177, 178, 179, 180, 181, 40, 182, 183, 184, 185, 186, 187, 188, 189, 190, 191, 192, 193, 194, 195, 196, 197, 198, 199, 200, 201, 202, 203, 204, 205, 206, 207, 208, 209, 210, 211, 212, 213, 214, 215, 216, 217, 218, 219, 220, 221, 222, 223, 224, 225, 226, 227, 228, 229, 230, 231, 232, 233, 234, 235, 236, 237, 238, 239, 240, 241, 242, 243, 244, 245, 246, 247, 248, 249, 250, 251, 252, 253, 254, 255, 256, 257, 258, 259, 260, 261, 262, 263, 264, 265, 24, 14, 35, 266, 267, 268, 21, 269, 270, 55, 271, 272, 273, 274, 51, 275, 276, 277, 278, 279, 280, 281, 282, 283, 284, 285, 286, 287, 288, 289, 290, 573, 574, 575, 576, 577, 578, 579, 580, 581, 582, 583, 584, 620, 621, 622, 623, 624, 613, 614, 615, 616, 617, 618, 619] (by decide +kernel) (by decide +kernel)) (goodIn_sub (fun _ h => List.mem_append_left _ (List.mem_append_left _ (List.mem_append_right _ h))) (by decide +kernel))
set_option maxRecDepth 20000 in
theorem gL_law_L_order : GoodIn wsL_law (va_wsS RL 68 yL_order wsL_order) := goodIn_app (goodIn_of _ (by decide +kernel)) ggL_law_L_order
set_option maxRecDepth 20000 in
theorem ggL_law_X4_order : GoodIn wsL_law wsX4_order := goodIn_r _ [294, 107, 150, 295, 108, 136, 296, 297, 298, 85, 80, 109, 110, 111, 5, 112, 299, 300, 301, 302, 303, 79, 81, 304, 305, 306, 307, 308, 309, 310, 311, 312, 313, 314, 315, 78, 316, 317, 318, 319, 320, 321, 322, 323, 198, 199, 200, 201, 202, 203, 204, 205, 206, 207, 208, 324, 210, 211, 212, 213, 214, 215, 216, 217, 218, 219, 220, 221, 222, 223, 224, 225, 226, 227, 228, 229, 230, 231, 232, 233, 234, 235, 236, 237, 238, 239, 240, 241, 242, 243, 244, 245, 325, 326, 327, 328, 329, 330, 331, 332, 333, 334, 335, 336, 337, 338, 76, 77, 585, 586, 587, 588, 589, 590, 591, 592, 593, 594, 595, 596, 597, 598, 599, 600, 601, 602, 603, 604, 605, 606, 607, 608, 609, 610, 611, 612] (by decide +kernel) (by decide +kernel)
set_option maxRecDepth 20000 in
theorem gL_law_X4_order : GoodIn wsL_law (wsV RL 71 RX4 yX4_order wsX4_order) := goodIn_app (goodIn_of _ (by decide +kernel)) ggL_law_X4_order
set_option maxRecDepth 20000 in
theorem ggL_law_X3_fault : GoodIn wsL_law wsX3_fault := goodIn_r _ [342, 34, 573, 574, 575, 576, 577, 578, 579, 580, 581, 582, 583, 584] (by decide +kernel) (by decide +kernel)
set_option maxRecDepth 20000 in
theorem gL_law_X3_fault : GoodIn wsL_law (wsV RL 72 RX3 yX3_fault wsX3_fault) := goodIn_app (goodIn_of _ (by decide +kernel)) ggL_law_X3_fault
set_option maxRecDepth 20000 in
theorem ggL_law_X4_fault : GoodIn wsL_law wsX4_fault := goodIn_r _ [346, 107, 79, 585, 586, 587, 588, 589, 590, 591, 592, 593, 594, 595, 596, 597, 598, 599, 600, 601, 602, 603, 604, 605, 606, 607, 608, 609, 610, 611, 612] (by decide +kernel) (by decide +kernel)
set_option maxRecDepth 20000 in
theorem gL_law_X4_fault : GoodIn wsL_law (wsV RL 75 RX4 yX4_fault wsX4_fault) := goodIn_app (goodIn_of _ (by decide +kernel)) ggL_law_X4_fault
set_option maxRecDepth 20000 in
theorem ggL_law_L_misfit : GoodIn wsL_law wsL_misfit := goodIn_ca (goodIn_ca (goodIn_r _ [349, 350, 96, 351, 352, 353, 2, 354, 101, 102, 29, 22, 14, 355, 356, 357, 358, 359, 360, 127, 361, 272, 273, 21, 274, 51, 573, 574, 575, 576, 577, 578, 579, 580, 581, 582, 583, 584, 620, 621, 622, 623, 624] (by decide +kernel) (by decide +kernel)) (goodIn_sub (fun _ h => List.mem_append_left _ (List.mem_append_left _ (List.mem_append_right _ h))) (by decide +kernel))) (goodIn_sub (fun _ h => List.mem_append_right _ h) (by decide +kernel))
set_option maxRecDepth 20000 in
theorem gL_law_L_misfit : GoodIn wsL_law (va_wsS RL 76 yL_misfit wsL_misfit) := goodIn_app (goodIn_of _ (by decide +kernel)) ggL_law_L_misfit
set_option maxRecDepth 20000 in
theorem ggL_law_X4_misfit : GoodIn wsL_law wsX4_misfit := goodIn_r _ [365, 108, 366, 367, 368, 5, 369, 136, 107, 109, 110, 111, 112, 335, 336, 337, 338, 76, 77, 585, 586, 587, 588, 589, 590, 591, 592, 593, 594, 595, 596, 597, 598, 599, 600, 601, 602, 603, 604, 605, 606, 607, 608, 609, 610, 611, 612] (by decide +kernel) (by decide +kernel)
set_option maxRecDepth 20000 in
theorem gL_law_X4_misfit : GoodIn wsL_law (wsV RL 79 RX4 yX4_misfit wsX4_misfit) := goodIn_app (goodIn_of _ (by decide +kernel)) ggL_law_X4_misfit
set_option maxRecDepth 20000 in
theorem ggL_law_L_told : GoodIn wsL_law wsL_told := goodIn_ca (goodIn_ca (goodIn_r _ [372, 350, 96, 373, 374, 375, 2, 376, 101, 102, 24, 377, 378, 379, 380, 359, 360, 30, 381, 382, 383, 384, 385, 386, 387, 388, 389, 390, 391, 392, 31, 573, 574, 575, 576, 577, 578, 579, 580, 581, 582, 583, 584] (by decide +kernel) (by decide +kernel)) (goodIn_sub (fun _ h => List.mem_append_left _ (List.mem_append_left _ (List.mem_append_right _ h))) (by decide +kernel))) (goodIn_sub (fun _ h => List.mem_append_right _ h) (by decide +kernel))
set_option maxRecDepth 20000 in
theorem gL_law_L_told : GoodIn wsL_law (va_wsS RL 80 yL_told wsL_told) := goodIn_app (goodIn_of _ (by decide +kernel)) ggL_law_L_told
set_option maxRecDepth 20000 in
theorem ggL_law_X4_told : GoodIn wsL_law wsX4_told := goodIn_r _ [396, 85, 397, 398, 399, 400, 5, 401, 296, 107, 109, 110, 111, 112, 585, 586, 587, 588, 589, 590, 591, 592, 593, 594, 595, 596, 597, 598, 599, 600, 601, 602, 603, 604, 605, 606, 607, 608, 609, 610, 611, 612] (by decide +kernel) (by decide +kernel)
set_option maxRecDepth 20000 in
theorem gL_law_X4_told : GoodIn wsL_law (wsV RL 82 RX4 yX4_told wsX4_told) := goodIn_app (goodIn_of _ (by decide +kernel)) ggL_law_X4_told
set_option maxRecDepth 20000 in
theorem ggL_law_L_go : GoodIn wsL_law wsL_go := goodIn_ca (goodIn_r _ [404, 350, 405, 406, 407, 2, 408, 377, 378, 379, 380, 359, 360, 30, 385, 386, 387, 388, 24, 409, 410, 411, 412, 31, 32, 22, 413, 33, 414, 415, 35, 416, 417, 418, 419, 420, 256, 421, 422, 423, 424, 425, 573, 574, 575, 576, 577, 578, 579, 580, 581, 582, 583, 584, 620, 621, 622, 623, 624] (by decide +kernel) (by decide +kernel)) (goodIn_sub (fun _ h => List.mem_append_right _ h) (by decide +kernel))
set_option maxRecDepth 20000 in
theorem gL_law_L_go : GoodIn wsL_law (va_wsS RL 83 yL_go wsL_go) := goodIn_app (goodIn_of _ (by decide +kernel)) ggL_law_L_go
set_option maxRecDepth 20000 in
theorem ggL_law_X4_go : GoodIn wsL_law wsX4_go := goodIn_r _ [429, 398, 399, 400, 5, 401, 296, 107, 430, 431, 432, 433, 85, 434, 435, 436, 437, 397, 438, 83, 82, 84, 585, 586, 587, 588, 589, 590, 591, 592, 593, 594, 595, 596, 597, 598, 599, 600, 601, 602, 603, 604, 605, 606, 607, 608, 609, 610, 611, 612] (by decide +kernel) (by decide +kernel)
set_option maxRecDepth 20000 in
theorem gL_law_X4_go : GoodIn wsL_law (wsV RL 85 RX4 yX4_go wsX4_go) := goodIn_app (goodIn_of _ (by decide +kernel)) ggL_law_X4_go
set_option maxRecDepth 20000 in
theorem ggL_law_L_wait : GoodIn wsL_law wsL_wait := goodIn_ca (goodIn_r _ [441, 96, 442, 443, 444, 2, 445, 101, 102, 31, 163, 35, 573, 574, 575, 576, 577, 578, 579, 580, 581, 582, 583, 584] (by decide +kernel) (by decide +kernel)) (goodIn_sub (fun _ h => List.mem_append_left _ (List.mem_append_left _ (List.mem_append_right _ h))) (by decide +kernel))
set_option maxRecDepth 20000 in
theorem gL_law_L_wait : GoodIn wsL_law (va_wsS RL 86 yL_wait wsL_wait) := goodIn_app (goodIn_of _ (by decide +kernel)) ggL_law_L_wait
set_option maxRecDepth 20000 in
theorem ggL_law_X4_wait : GoodIn wsL_law wsX4_wait := goodIn_r _ [449, 107, 397, 295, 109, 110, 111, 5, 112, 585, 586, 587, 588, 589, 590, 591, 592, 593, 594, 595, 596, 597, 598, 599, 600, 601, 602, 603, 604, 605, 606, 607, 608, 609, 610, 611, 612] (by decide +kernel) (by decide +kernel)
set_option maxRecDepth 20000 in
theorem gL_law_X4_wait : GoodIn wsL_law (wsV RL 88 RX4 yX4_wait wsX4_wait) := goodIn_app (goodIn_of _ (by decide +kernel)) ggL_law_X4_wait
set_option maxRecDepth 20000 in
theorem ggL_law_X3_plan : GoodIn wsL_law wsX3_plan := goodIn_r _ [453, 28, 454, 455, 456, 2, 457, 35, 31, 22, 413, 30, 458, 24, 32, 459, 460, 461, 27, 462, 69, 71, 68, 385, 386, 387, 388, 463, 464, 465, 466, 59, 60, 61, 62, 63, 65, 467, 468, 469, 470, 471, 70, 472, 473, 474, 475, 476, 477, 478, 479, 67, 66, 480, 481, 482, 483, 417, 418, 419, 420, 256, 421, 484, 485, 486, 487, 573, 574, 575, 576, 577, 578, 579, 580, 581, 582, 583, 584, 620, 621, 622, 623, 624, 625, 626, 627, 628, 629, 630, 631, 632, 633, 634, 635, 636] (by decide +kernel) (by decide +kernel)
set_option maxRecDepth 20000 in
theorem gL_law_X3_plan : GoodIn wsL_law (wsV RL 89 RX3 yX3_plan wsX3_plan) := goodIn_app (goodIn_of _ (by decide +kernel)) ggL_law_X3_plan
set_option maxRecDepth 20000 in
theorem ggL_law_X4_plan : GoodIn wsL_law wsX4_plan := goodIn_r _ [491, 107, 492, 493, 494, 495, 496, 5, 497, 296, 88, 498, 89, 90, 430, 431, 432, 433, 85, 499, 500, 501, 502, 438, 136, 91, 83, 397, 503, 504, 505, 506, 585, 586, 587, 588, 589, 590, 591, 592, 593, 594, 595, 596, 597, 598, 599, 600, 601, 602, 603, 604, 605, 606, 607, 608, 609, 610, 611, 612] (by decide +kernel) (by decide +kernel)
set_option maxRecDepth 20000 in
theorem gL_law_X4_plan : GoodIn wsL_law (wsV RL 93 RX4 yX4_plan wsX4_plan) := goodIn_app (goodIn_of _ (by decide +kernel)) ggL_law_X4_plan
set_option maxRecDepth 20000 in
theorem ggL_law_X3_planned : GoodIn wsL_law wsX3_planned := goodIn_r _ [510, 28, 454, 455, 456, 2, 457, 35, 31, 22, 413, 30, 458, 24, 32, 459, 460, 461, 27, 462, 69, 71, 68, 385, 386, 387, 388, 463, 464, 465, 466, 59, 60, 61, 62, 63, 65, 467, 468, 469, 470, 471, 70, 472, 473, 474, 475, 476, 477, 478, 479, 67, 66, 480, 481, 482, 483, 417, 418, 419, 420, 256, 421, 511, 512, 513, 514, 573, 574, 575, 576, 577, 578, 579, 580, 581, 582, 583, 584, 620, 621, 622, 623, 624, 625, 626, 627, 628, 629, 630, 631, 632, 633, 634, 635, 636] (by decide +kernel) (by decide +kernel)
set_option maxRecDepth 20000 in
theorem gL_law_X3_planned : GoodIn wsL_law (wsV RL 94 RX3 yX3_planned wsX3_planned) := goodIn_app (goodIn_of _ (by decide +kernel)) ggL_law_X3_planned
set_option maxRecDepth 20000 in
theorem ggL_law_X4_planned : GoodIn wsL_law wsX4_planned := goodIn_r _ [518, 107, 492, 88, 90, 494, 495, 496, 5, 497, 296, 498, 493, 89, 430, 431, 432, 433, 85, 499, 500, 501, 502, 438, 136, 91, 83, 397, 503, 504, 505, 506, 585, 586, 587, 588, 589, 590, 591, 592, 593, 594, 595, 596, 597, 598, 599, 600, 601, 602, 603, 604, 605, 606, 607, 608, 609, 610, 611, 612] (by decide +kernel) (by decide +kernel)
set_option maxRecDepth 20000 in
theorem gL_law_X4_planned : GoodIn wsL_law (wsV RL 97 RX4 yX4_planned wsX4_planned) := goodIn_app (goodIn_of _ (by decide +kernel)) ggL_law_X4_planned
set_option maxRecDepth 20000 in
theorem ggL_law_X3_run : GoodIn wsL_law wsX3_run := goodIn_r _ [522, 28, 458, 454, 455, 456, 2, 457, 35, 31, 22, 413, 30, 24, 32, 459, 460, 461, 27, 462, 69, 71, 68, 385, 386, 387, 388, 463, 464, 465, 466, 59, 60, 61, 62, 63, 65, 467, 468, 469, 470, 471, 70, 472, 473, 474, 475, 476, 477, 478, 479, 67, 66, 480, 481, 482, 483, 417, 418, 419, 420, 256, 421, 511, 512, 513, 514, 409, 410, 411, 412, 33, 414, 415, 416, 422, 423, 424, 425, 573, 574, 575, 576, 577, 578, 579, 580, 581, 582, 583, 584, 625, 626, 627, 628, 629, 630, 631, 632, 633, 634, 635, 636, 620, 621, 622, 623, 624] (by decide +kernel) (by decide +kernel)
set_option maxRecDepth 20000 in
theorem gL_law_X3_run : GoodIn wsL_law (wsV RL 98 RX3 yX3_run wsX3_run) := goodIn_app (goodIn_of _ (by decide +kernel)) ggL_law_X3_run
set_option maxRecDepth 20000 in
theorem ggL_law_X4_run : GoodIn wsL_law wsX4_run := goodIn_r _ [526, 107, 492, 88, 90, 494, 495, 496, 5, 497, 296, 498, 493, 89, 430, 431, 432, 433, 85, 499, 500, 501, 502, 438, 136, 91, 83, 397, 503, 504, 505, 506, 434, 435, 436, 437, 82, 84, 585, 586, 587, 588, 589, 590, 591, 592, 593, 594, 595, 596, 597, 598, 599, 600, 601, 602, 603, 604, 605, 606, 607, 608, 609, 610, 611, 612] (by decide +kernel) (by decide +kernel)
set_option maxRecDepth 20000 in
theorem gL_law_X4_run : GoodIn wsL_law (wsV RL 101 RX4 yX4_run wsX4_run) := goodIn_app (goodIn_of _ (by decide +kernel)) ggL_law_X4_run
set_option maxRecDepth 20000 in
theorem ggL_law_X3_late : GoodIn wsL_law wsX3_late := goodIn_r _ [530, 30, 531, 532, 533, 2, 534, 24, 31, 385, 386, 387, 388, 573, 574, 575, 576, 577, 578, 579, 580, 581, 582, 583, 584] (by decide +kernel) (by decide +kernel)
set_option maxRecDepth 20000 in
theorem gL_law_X3_late : GoodIn wsL_law (wsV RL 102 RX3 yX3_late wsX3_late) := goodIn_app (goodIn_of _ (by decide +kernel)) ggL_law_X3_late
set_option maxRecDepth 20000 in
theorem ggL_law_X4_late : GoodIn wsL_law wsX4_late := goodIn_r _ [538, 107, 296, 397, 85, 430, 431, 432, 5, 433, 585, 586, 587, 588, 589, 590, 591, 592, 593, 594, 595, 596, 597, 598, 599, 600, 601, 602, 603, 604, 605, 606, 607, 608, 609, 610, 611, 612] (by decide +kernel) (by decide +kernel)
set_option maxRecDepth 20000 in
theorem gL_law_X4_late : GoodIn wsL_law (wsV RL 105 RX4 yX4_late wsX4_late) := goodIn_app (goodIn_of _ (by decide +kernel)) ggL_law_X4_late
set_option maxRecDepth 20000 in
theorem ggL_law_L_fit : GoodIn wsL_law wsL_fit := goodIn_ca (goodIn_ca (goodIn_r _ [541, 350, 96, 542, 543, 544, 2, 545, 101, 102, 24, 22, 415, 377, 378, 379, 380, 359, 360, 30, 389, 390, 391, 392, 31, 385, 386, 387, 388, 573, 574, 575, 576, 577, 578, 579, 580, 581, 582, 583, 584, 620, 621, 622, 623, 624] (by decide +kernel) (by decide +kernel)) (goodIn_sub (fun _ h => List.mem_append_left _ (List.mem_append_left _ (List.mem_append_right _ h))) (by decide +kernel))) (goodIn_sub (fun _ h => List.mem_append_right _ h) (by decide +kernel))
set_option maxRecDepth 20000 in
theorem gL_law_L_fit : GoodIn wsL_law (va_wsS RL 106 yL_fit wsL_fit) := goodIn_app (goodIn_of _ (by decide +kernel)) ggL_law_L_fit
set_option maxRecDepth 20000 in
theorem ggL_law_X4_fit : GoodIn wsL_law wsX4_fit := goodIn_r _ [549, 85, 397, 87, 86, 398, 399, 400, 5, 401, 296, 107, 109, 110, 111, 112, 430, 431, 432, 433, 585, 586, 587, 588, 589, 590, 591, 592, 593, 594, 595, 596, 597, 598, 599, 600, 601, 602, 603, 604, 605, 606, 607, 608, 609, 610, 611, 612] (by decide +kernel) (by decide +kernel)
set_option maxRecDepth 20000 in
theorem gL_law_X4_fit : GoodIn wsL_law (wsV RL 108 RX4 yX4_fit wsX4_fit) := goodIn_app (goodIn_of _ (by decide +kernel)) ggL_law_X4_fit
set_option maxRecDepth 20000 in
theorem ggL_law_L_wear : GoodIn wsL_law wsL_wear := goodIn_ca (goodIn_ca (goodIn_r _ [552, 350, 96, 553, 554, 555, 2, 556, 101, 102, 22, 415, 355, 356, 357, 358, 359, 360, 127, 573, 574, 575, 576, 577, 578, 579, 580, 581, 582, 583, 584, 620, 621, 622, 623, 624] (by decide +kernel) (by decide +kernel)) (goodIn_sub (fun _ h => List.mem_append_left _ (List.mem_append_left _ (List.mem_append_right _ h))) (by decide +kernel))) (goodIn_sub (fun _ h => List.mem_append_right _ h) (by decide +kernel))
set_option maxRecDepth 20000 in
theorem gL_law_L_wear : GoodIn wsL_law (va_wsS RL 109 yL_wear wsL_wear) := goodIn_app (goodIn_of _ (by decide +kernel)) ggL_law_L_wear
set_option maxRecDepth 20000 in
theorem ggL_law_X4_wear : GoodIn wsL_law wsX4_wear := goodIn_r _ [560, 296, 85, 87, 86, 366, 367, 368, 5, 369, 136, 107, 109, 110, 111, 112, 430, 431, 432, 433, 585, 586, 587, 588, 589, 590, 591, 592, 593, 594, 595, 596, 597, 598, 599, 600, 601, 602, 603, 604, 605, 606, 607, 608, 609, 610, 611, 612] (by decide +kernel) (by decide +kernel)
set_option maxRecDepth 20000 in
theorem gL_law_X4_wear : GoodIn wsL_law (wsV RL 111 RX4 yX4_wear wsX4_wear) := goodIn_app (goodIn_of _ (by decide +kernel)) ggL_law_X4_wear
set_option maxRecDepth 20000 in
theorem ggL_law_X3_count : GoodIn wsL_law wsX3_count := goodIn_r _ [564, 22, 127, 30, 31, 29, 18, 141, 32, 565, 566, 567, 2, 568, 385, 386, 387, 388, 24, 573, 574, 575, 576, 577, 578, 579, 580, 581, 582, 583, 584, 620, 621, 622, 623, 624, 613, 614, 615, 616, 617, 618, 619] (by decide +kernel) (by decide +kernel)
set_option maxRecDepth 20000 in
theorem gL_law_X3_count : GoodIn wsL_law (wsV RL 112 RX3 yX3_count wsX3_count) := goodIn_app (goodIn_of _ (by decide +kernel)) ggL_law_X3_count
set_option maxRecDepth 20000 in
theorem ggL_law_X4_count : GoodIn wsL_law wsX4_count := goodIn_r _ [572, 107, 136, 296, 397, 108, 150, 438, 430, 431, 432, 5, 433, 85, 585, 586, 587, 588, 589, 590, 591, 592, 593, 594, 595, 596, 597, 598, 599, 600, 601, 602, 603, 604, 605, 606, 607, 608, 609, 610, 611, 612] (by decide +kernel) (by decide +kernel)
set_option maxRecDepth 20000 in
theorem gL_law_X4_count : GoodIn wsL_law (wsV RL 115 RX4 yX4_count wsX4_count) := goodIn_app (goodIn_of _ (by decide +kernel)) ggL_law_X4_count
