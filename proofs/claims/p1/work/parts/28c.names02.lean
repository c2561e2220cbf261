set_option maxRecDepth 20000 in
theorem gL_law_L_closest : GoodIn wsL_law (va_wsS RL 140 yL_closest wsL_closest) := goodIn_app (goodIn_of _ (by decide +kernel)) ggL_law_L_closest
set_option maxRecDepth 20000 in
theorem ggL_law_X5_closest : GoodIn wsL_law wsX5_closest := goodIn_r _ [827, 139, 260, 261, 262, 5, 263, 77, 143, 144, 145, 146, 147, 148, 149, 828, 829, 830, 831, 656, 571, 572, 76, 573, 310, 193, 194, 195, 85, 192, 795, 796, 797, 798, 799, 75, 83, 84, 579, 305, 89, 242, 800, 79, 80, 81, 11, 12, 82, 36, 86, 87, 88, 90, 91, 92, 93, 94, 95, 96, 97, 98, 99, 100, 101, 102, 103, 104, 801, 802, 803, 804, 363, 364, 365, 805, 806, 807, 808, 321, 322, 300, 397, 809, 810, 811, 812, 348, 349, 350, 351, 352, 353, 354, 355, 356, 357, 358, 359, 360, 361, 314, 315, 316, 362, 331, 332, 333, 334, 335, 336, 337, 338, 339, 340, 341, 342, 343, 344, 345, 346, 347, 517, 518, 519, 520, 521, 522, 523, 524, 525, 526, 527, 528, 311, 312, 313, 529, 239, 240, 241, 236, 237, 530, 531, 532, 533, 534, 535, 536, 537, 538, 539, 540, 541, 542, 543, 544, 545, 546, 547, 548, 549, 550, 551, 552, 553, 554, 555, 556, 557, 558, 559, 560, 561, 562, 563, 564, 565, 566, 567, 568, 569, 570, 574, 575, 576, 577, 578, 580, 581, 582, 583, 584, 585, 586, 587, 588, 589, 590, 591, 592, 593, 594, 595, 596, 597, 598, 599, 891, 892, 893, 926, 927, 928, 929, 930, 931, 932, 933, 934, 935, 936, 937, 938, 939] (by decide +kernel) (by decide +kernel)
set_option maxRecDepth 20000 in
theorem gL_law_X5_closest : GoodIn wsL_law (wsV RL 142 RX5 yX5_closest wsX5_closest) := goodIn_app (goodIn_of _ (by decide +kernel)) ggL_law_X5_closest
set_option maxRecDepth 20000 in
theorem ggL_law_L_lost : GoodIn wsL_law wsL_lost := goodIn_ca (goodIn_ca (goodIn_r _ [834, 109, 110, 835, 836, 837, 2, 838, 17, 16, 115, 116, 252, 253, 254, 255, 203, 122, 123, 124, 125, 126, 119, 120, 121, 127, 128, 129, 130, 131, 132, 133, 134, 775, 776, 777, 15, 778, 25, 27, 28, 29, 779, 780, 781, 24, 782, 37, 38, 40, 41, 42, 43, 44, 45, 46, 47, 783, 784, 785, 31, 786, 51, 52, 53, 54, 55, 56, 57, 58, 59, 60, 61, 62, 63, 64, 65, 66, 67, 69, 839, 840, 841, 842, 250, 774, 405, 406, 407, 408, 174, 219, 409, 336, 315, 337, 220, 410, 411, 412, 413, 414, 415, 416, 417, 418, 419, 284, 285, 226, 227, 228, 229, 230, 209, 210, 211, 420, 421, 422, 423, 424, 314, 316, 425, 426, 427, 428, 216, 429, 430, 431, 432, 433, 434, 435, 436, 437, 438, 439, 440, 441, 442, 443, 286, 287, 444, 445, 446, 447, 448, 449, 450, 451, 452, 453, 454, 455, 218, 456, 457, 458, 459, 460, 221, 461, 462, 463, 464, 465, 466, 467, 468, 469, 217, 470, 208, 471, 472, 473, 474, 475, 476, 477, 478, 479, 480, 481, 482, 483, 484, 485, 486, 487, 222, 223, 224, 225, 488, 489, 490, 491, 492, 493, 494, 495, 496, 497, 498, 499, 500, 501, 502, 503, 504, 505, 506, 507, 508, 889, 890, 894, 895, 896, 897, 898, 899, 900, 901, 902, 903, 904, 905, 906, 907, 908, 909, 910, 911, 912, 913, 914, 915, 916, 917, 918, 919, 920, 921, 922, 923, 924, 925] (by decide +kernel) (by decide +kernel)) (goodIn_sub (fun _ h => List.mem_append_left _ (List.mem_append_left _ (List.mem_append_right _ h))) (by decide +kernel))) (goodIn_sub (fun _ h => List.mem_append_left _ (List.mem_append_right _ h)) (by decide +kernel))
set_option maxRecDepth 20000 in
theorem gL_law_L_lost : GoodIn wsL_law (va_wsS RL 143 yL_lost wsL_lost) := goodIn_app (goodIn_of _ (by decide +kernel)) ggL_law_L_lost
set_option maxRecDepth 20000 in
theorem ggL_law_X5_lost : GoodIn wsL_law wsX5_lost := goodIn_r _ [846, 139, 77, 260, 261, 262, 5, 263, 143, 144, 145, 140, 141, 142, 146, 147, 148, 149, 150, 151, 152, 795, 796, 797, 76, 798, 799, 75, 83, 84, 85, 579, 305, 89, 242, 800, 79, 80, 81, 11, 12, 82, 36, 86, 87, 88, 90, 91, 92, 93, 94, 95, 96, 97, 98, 99, 100, 101, 102, 103, 104, 801, 802, 803, 804, 363, 364, 365, 805, 806, 807, 808, 321, 322, 300, 397, 809, 810, 811, 812, 348, 349, 350, 351, 352, 353, 354, 355, 356, 357, 358, 359, 360, 361, 314, 315, 316, 362, 331, 332, 333, 334, 335, 336, 337, 338, 339, 340, 341, 342, 343, 344, 345, 346, 347, 517, 518, 519, 520, 521, 522, 523, 524, 310, 193, 194, 195, 525, 526, 527, 528, 311, 312, 313, 529, 239, 240, 241, 236, 237, 530, 531, 532, 533, 534, 535, 536, 537, 538, 539, 540, 541, 542, 543, 544, 545, 546, 547, 548, 549, 550, 551, 552, 553, 554, 555, 556, 557, 558, 559, 560, 561, 562, 563, 564, 565, 566, 567, 568, 569, 570, 571, 572, 573, 574, 575, 576, 577, 578, 580, 581, 582, 583, 584, 585, 586, 587, 588, 589, 590, 591, 592, 593, 594, 595, 596, 597, 598, 599, 891, 892, 893, 926, 927, 928, 929, 930, 931, 932, 933, 934, 935, 936, 937, 938, 939] (by decide +kernel) (by decide +kernel)
set_option maxRecDepth 20000 in
theorem gL_law_X5_lost : GoodIn wsL_law (wsV RL 146 RX5 yX5_lost wsX5_lost) := goodIn_app (goodIn_of _ (by decide +kernel)) ggL_law_X5_lost
set_option maxRecDepth 20000 in
theorem ggL_law_L_worksIn : GoodIn wsL_law wsL_worksIn := goodIn_ca (goodIn_ca (goodIn_r _ [849, 109, 110, 850, 851, 852, 2, 853, 17, 16, 119, 120, 121, 122, 123, 124, 125, 126, 127, 128, 129, 130, 131, 132, 133, 134, 775, 776, 777, 15, 778, 25, 27, 28, 29, 779, 780, 781, 24, 782, 37, 38, 40, 41, 42, 43, 44, 45, 46, 47, 783, 784, 785, 31, 786, 51, 52, 53, 54, 55, 56, 57, 58, 59, 60, 61, 62, 63, 64, 65, 66, 67, 69, 272, 273, 274, 275, 174, 219, 220, 276, 277, 278, 279, 280, 281, 282, 283, 284, 285, 230, 209, 210, 211, 286, 287, 405, 406, 407, 408, 409, 336, 315, 337, 410, 411, 412, 413, 414, 415, 416, 417, 418, 419, 226, 227, 228, 229, 420, 421, 422, 423, 424, 314, 316, 425, 426, 427, 428, 216, 429, 430, 431, 432, 433, 434, 435, 436, 437, 438, 439, 440, 441, 442, 443, 444, 445, 446, 447, 448, 449, 450, 451, 452, 453, 454, 455, 218, 456, 457, 458, 459, 460, 221, 461, 462, 463, 464, 465, 466, 467, 468, 469, 217, 470, 208, 471, 472, 473, 474, 475, 476, 477, 478, 479, 480, 481, 482, 483, 484, 485, 486, 487, 222, 223, 224, 225, 488, 489, 490, 491, 492, 493, 494, 495, 496, 497, 498, 499, 500, 501, 502, 503, 504, 505, 506, 507, 508, 889, 890, 894, 895, 896, 897, 898, 899, 900, 901, 902, 903, 904, 905, 906, 907, 908, 909, 910, 911, 912, 913, 914, 915, 916, 917, 918, 919, 920, 921, 922, 923, 924, 925] (by decide +kernel) (by decide +kernel)) (goodIn_sub (fun _ h => List.mem_append_left _ (List.mem_append_left _ (List.mem_append_right _ h))) (by decide +kernel))) (goodIn_sub (fun _ h => List.mem_append_left _ (List.mem_append_right _ h)) (by decide +kernel))
set_option maxRecDepth 20000 in
theorem gL_law_L_worksIn : GoodIn wsL_law (va_wsS RL 147 yL_worksIn wsL_worksIn) := goodIn_app (goodIn_of _ (by decide +kernel)) ggL_law_L_worksIn
set_option maxRecDepth 20000 in
theorem ggL_law_X5_worksIn : GoodIn wsL_law wsX5_worksIn := goodIn_r _ [857, 139, 140, 141, 5, 142, 143, 144, 145, 146, 147, 148, 149, 858, 859, 860, 861, 77, 795, 796, 797, 76, 798, 799, 75, 83, 84, 85, 579, 305, 89, 242, 800, 79, 80, 81, 11, 12, 82, 36, 86, 87, 88, 90, 91, 92, 93, 94, 95, 96, 97, 98, 99, 100, 101, 102, 103, 104, 801, 802, 803, 804, 363, 364, 365, 805, 806, 807, 808, 321, 322, 300, 397, 809, 810, 811, 812, 348, 349, 350, 351, 352, 353, 354, 355, 356, 357, 358, 359, 360, 361, 314, 315, 316, 362, 331, 332, 333, 334, 335, 336, 337, 338, 339, 340, 341, 342, 343, 344, 345, 346, 347, 301, 302, 303, 304, 306, 307, 308, 309, 310, 193, 194, 195, 236, 237, 311, 312, 313, 813, 522, 523, 524, 525, 526, 527, 528, 529, 239, 240, 241, 530, 531, 532, 533, 534, 535, 536, 537, 538, 539, 540, 541, 542, 543, 544, 545, 546, 547, 548, 549, 550, 551, 552, 553, 554, 555, 556, 557, 558, 559, 560, 561, 562, 563, 564, 565, 566, 567, 568, 569, 570, 571, 572, 573, 574, 575, 576, 577, 578, 580, 581, 582, 583, 584, 585, 586, 587, 588, 589, 590, 591, 592, 593, 594, 595, 596, 597, 598, 599, 891, 892, 893, 926, 927, 928, 929, 930, 931, 932, 933, 934, 935, 936, 937, 938, 939] (by decide +kernel) (by decide +kernel)
set_option maxRecDepth 20000 in
theorem gL_law_X5_worksIn : GoodIn wsL_law (wsV RL 149 RX5 yX5_worksIn wsX5_worksIn) := goodIn_app (goodIn_of _ (by decide +kernel)) ggL_law_X5_worksIn
theorem q_cons {big r : List Cond} {c : Cond} (hc : GoodIn big [c]) (hr : GoodIn big r) : GoodIn big (c :: r) := fun w h => (List.mem_cons.mp h).elim (fun e => hc w (List.mem_cons.mpr (Or.inl e))) (hr w)
set_option maxRecDepth 20000 in
theorem qX3_h : GoodIn wsL_law [Cond.code yX3_digest cX3_digest 5 (some .long)] := goodIn_r _ [865] (by decide +kernel) (by decide +kernel)
set_option maxRecDepth 20000 in
theorem qX3_r1 : GoodIn wsL_law wsX3_digest_r1 := goodIn_r _ [866, 867, 16, 203, 115, 165, 868, 731, 732, 2, 733, 734, 271, 127, 128, 129, 130, 131, 132, 133, 134, 170, 171, 172] (by decide +kernel) (by decide +kernel)
set_option maxRecDepth 20000 in
theorem qX3_r2 : GoodIn wsL_law wsX3_digest_r2 := goodIn_r _ [15, 173, 28, 27, 174, 735, 736, 737, 738, 410, 739, 740, 741, 742, 456, 499, 487, 743, 744, 745, 31, 746, 55, 51] (by decide +kernel) (by decide +kernel)
set_option maxRecDepth 20000 in
theorem qX3_r3 : GoodIn wsL_law wsX3_digest_r3 := goodIn_r _ [869, 604, 605, 606, 116, 117, 118, 119, 120, 121, 122, 123, 124, 125, 126, 607, 277, 278, 279, 280, 281, 282, 283, 284] (by decide +kernel) (by decide +kernel)
set_option maxRecDepth 20000 in
theorem qX3_r4 : GoodIn wsL_law wsX3_digest_r4 := goodIn_r _ [285, 230, 209, 210, 211, 608, 609, 610, 24, 611, 47, 45, 46, 870, 629, 630, 631, 250, 632, 252, 253, 254, 255, 633] (by decide +kernel) (by decide +kernel)
set_option maxRecDepth 20000 in
theorem qX3_r5 : GoodIn wsL_law wsX3_digest_r5 := goodIn_r _ [463, 464, 465, 44, 41, 634, 436, 437, 438, 635, 636, 637, 638, 56, 57, 54, 58, 60, 61, 639, 640, 641, 642, 62] (by decide +kernel) (by decide +kernel)
set_option maxRecDepth 20000 in
theorem qX3_r6 : GoodIn wsL_law wsX3_digest_r6 := goodIn_r _ [63, 64, 65, 66, 67, 643, 644, 645, 646, 69, 68, 871, 661, 662, 663, 664, 467, 468, 469, 217, 25, 470, 219, 409] (by decide +kernel) (by decide +kernel)
set_option maxRecDepth 20000 in
theorem qX3_r7 : GoodIn wsL_law wsX3_digest_r7 := goodIn_r _ [336, 315, 337, 665, 475, 476, 872, 675, 676, 677, 678, 679, 458, 459, 460, 220, 221, 461, 424, 314, 316, 462, 466, 208] (by decide +kernel) (by decide +kernel)
set_option maxRecDepth 20000 in
theorem qX3_r8 : GoodIn wsL_law wsX3_digest_r8 := goodIn_r _ [471, 472, 473, 474, 37, 449, 873, 693, 694, 695, 696, 697, 698, 699, 420, 421, 422, 423, 425, 426, 427, 428, 216, 429] (by decide +kernel) (by decide +kernel)
set_option maxRecDepth 20000 in
theorem qX3_r9 : GoodIn wsL_law wsX3_digest_r9 := goodIn_r _ [430, 431, 432, 433, 434, 435, 439, 440, 441, 442, 29, 443, 286, 287, 444, 445, 446, 447, 448, 874, 771, 772, 773, 774] (by decide +kernel) (by decide +kernel)
set_option maxRecDepth 20000 in
theorem qX3_r10 : GoodIn wsL_law wsX3_digest_r10 := goodIn_r _ [17, 775, 776, 777, 778, 779, 780, 781, 782, 38, 40, 42, 43, 783, 784, 785, 786, 52, 53, 59, 405, 406, 407, 408] (by decide +kernel) (by decide +kernel)
set_option maxRecDepth 20000 in
theorem qX3_r11 : GoodIn wsL_law wsX3_digest_r11 := goodIn_r _ [411, 412, 413, 414, 415, 416, 417, 418, 419, 226, 227, 228, 229, 450, 451, 452, 453, 454, 455, 218, 457, 477, 478, 479] (by decide +kernel) (by decide +kernel)
set_option maxRecDepth 20000 in
theorem qX3_r12 : GoodIn wsL_law wsX3_digest_r12 := goodIn_r _ [480, 481, 482, 483, 484, 485, 486, 222, 223, 224, 225, 488, 489, 490, 491, 492, 493, 494, 495, 496, 497, 498, 500, 501] (by decide +kernel) (by decide +kernel)
set_option maxRecDepth 20000 in
theorem qX3_r13 : GoodIn wsL_law wsX3_digest_r13 := goodIn_r _ [502, 503, 504, 505, 506, 507, 508, 875, 818, 819, 820, 821, 822, 823, 876, 713, 714, 715, 716, 717, 718, 877, 851, 852] (by decide +kernel) (by decide +kernel)
set_option maxRecDepth 20000 in
theorem qX3_r14 : GoodIn wsL_law wsX3_digest_r14 := goodIn_r _ [853, 272, 273, 274, 275, 276] (by decide +kernel) (by decide +kernel)
set_option maxRecDepth 20000 in
theorem qX3_wsX30 : GoodIn wsL_law wsX30 := goodIn_r _ [889, 890] (by decide +kernel) (by decide +kernel)
set_option maxRecDepth 20000 in
theorem qX3_wsX00 : GoodIn wsL_law wsX00 := goodIn_r _ [894, 895, 896, 897] (by decide +kernel) (by decide +kernel)
set_option maxRecDepth 20000 in
theorem qX3_wsX10 : GoodIn wsL_law wsX10 := goodIn_r _ [898, 899, 900, 901, 902, 903, 904, 905, 906, 907] (by decide +kernel) (by decide +kernel)
set_option maxRecDepth 20000 in
theorem qX3_wsX20 : GoodIn wsL_law wsX20 := goodIn_r _ [908, 909, 910, 911, 912, 913, 914, 915, 916, 917, 918, 919, 920, 921, 922, 923, 924, 925] (by decide +kernel) (by decide +kernel)
theorem ggL_law_X3_digest : GoodIn wsL_law wsX3_digest := q_cons qX3_h (goodIn_app (goodIn_app (goodIn_app (goodIn_app (goodIn_app (goodIn_app (goodIn_app qX3_r1 (goodIn_app qX3_r2 (goodIn_app qX3_r3 (goodIn_app qX3_r4 (goodIn_app qX3_r5 (goodIn_app qX3_r6 (goodIn_app qX3_r7 (goodIn_app qX3_r8 (goodIn_app qX3_r9 (goodIn_app qX3_r10 (goodIn_app qX3_r11 (goodIn_app qX3_r12 (goodIn_app qX3_r13 qX3_r14))))))))))))) qX3_wsX30) qX3_wsX00) qX3_wsX10) qX3_wsX20) (goodIn_sub (fun _ h => List.mem_append_left _ (List.mem_append_right _ h)) (by decide +kernel))) (goodIn_sub (fun _ h => List.mem_append_left _ (List.mem_append_left _ (List.mem_append_right _ h))) (by decide +kernel)))
set_option maxRecDepth 20000 in
theorem gL_law_X3_digest : GoodIn wsL_law (wsV RL 150 RX3 yX3_digest wsX3_digest) := goodIn_app (goodIn_of _ (by decide +kernel)) ggL_law_X3_digest
set_option maxRecDepth 20000 in
theorem qX5_h : GoodIn wsL_law [Cond.code yX5_digest cX5_digest 3 (some .long)] := goodIn_r _ [881] (by decide +kernel) (by decide +kernel)
set_option maxRecDepth 20000 in
theorem qX5_r1 : GoodIn wsL_law wsX5_digest_r1 := goodIn_r _ [139, 882, 883, 77, 751, 752, 753, 5, 754, 36, 513, 514, 515, 76, 516, 305, 85, 296, 297, 298, 88, 299, 300, 884] (by decide +kernel) (by decide +kernel)
set_option maxRecDepth 20000 in
theorem qX5_r2 : GoodIn wsL_law wsX5_digest_r2 := goodIn_r _ [885, 886, 887, 888, 616, 617, 618, 619, 620, 621, 307, 308, 309, 310, 193, 194, 195, 236, 237, 311, 312, 313, 314, 315] (by decide +kernel) (by decide +kernel)
set_option maxRecDepth 20000 in
theorem qX5_r3 : GoodIn wsL_law wsX5_digest_r3 := goodIn_r _ [316, 622, 542, 543, 544, 545, 546, 547, 548, 549, 550, 551, 552, 11, 12, 553, 554, 322, 555, 623, 557, 558, 559, 560] (by decide +kernel) (by decide +kernel)
set_option maxRecDepth 20000 in
theorem qX5_r4 : GoodIn wsL_law wsX5_digest_r4 := goodIn_r _ [624, 562, 563, 564, 565, 566, 567, 568, 569, 143, 144, 145, 651, 652, 653, 654, 235, 655, 585, 586, 587, 579, 84, 656] (by decide +kernel) (by decide +kernel)
set_option maxRecDepth 20000 in
theorem qX5_r5 : GoodIn wsL_law wsX5_digest_r5 := goodIn_r _ [571, 572, 573, 670, 589, 590, 591, 578, 336, 337, 592, 593, 594, 595, 83, 684, 685, 686, 687, 192, 688, 581, 582, 583] (by decide +kernel) (by decide +kernel)
set_option maxRecDepth 20000 in
theorem qX5_r6 : GoodIn wsL_law wsX5_digest_r6 := goodIn_r _ [540, 584, 588, 704, 705, 706, 707, 708, 531, 532, 533, 534, 535, 536, 537, 538, 89, 539, 242, 541, 556, 561, 570, 791] (by decide +kernel) (by decide +kernel)
set_option maxRecDepth 20000 in
theorem qX5_r7 : GoodIn wsL_law wsX5_digest_r7 := goodIn_r _ [792, 793, 794, 795, 796, 797, 798, 799, 75, 800, 79, 80, 81, 82, 86, 87, 90, 91, 92, 93, 94, 95, 96, 97] (by decide +kernel) (by decide +kernel)
set_option maxRecDepth 20000 in
theorem qX5_r8 : GoodIn wsL_law wsX5_digest_r8 := goodIn_r _ [98, 99, 100, 101, 102, 103, 104, 801, 802, 803, 804, 363, 364, 365, 805, 806, 807, 808, 321, 397, 809, 810, 811, 812] (by decide +kernel) (by decide +kernel)
set_option maxRecDepth 20000 in
theorem qX5_r9 : GoodIn wsL_law wsX5_digest_r9 := goodIn_r _ [348, 349, 350, 351, 352, 353, 354, 355, 356, 357, 358, 359, 360, 361, 362, 331, 332, 333, 334, 335, 338, 339, 340, 341] (by decide +kernel) (by decide +kernel)
set_option maxRecDepth 20000 in
theorem qX5_r10 : GoodIn wsL_law wsX5_digest_r10 := goodIn_r _ [342, 343, 344, 345, 346, 347, 813, 522, 523, 524, 525, 526, 527, 528, 529, 239, 240, 241, 530, 574, 575, 576, 577, 580] (by decide +kernel) (by decide +kernel)
set_option maxRecDepth 20000 in
theorem qX5_r11 : GoodIn wsL_law wsX5_digest_r11 := goodIn_r _ [596, 597, 598, 599, 828, 829, 830, 831, 517, 518, 519, 520, 521, 858, 859, 860, 861, 301, 302, 303, 304, 306] (by decide +kernel) (by decide +kernel)
set_option maxRecDepth 20000 in
theorem qX5_wsX50 : GoodIn wsL_law wsX50 := goodIn_r _ [891, 892, 893] (by decide +kernel) (by decide +kernel)
set_option maxRecDepth 20000 in
theorem qX5_wsX40 : GoodIn wsL_law wsX40 := goodIn_r _ [926, 927, 928, 929, 930, 931, 932] (by decide +kernel) (by decide +kernel)
set_option maxRecDepth 20000 in
theorem qX5_wsJx4a65c0 : GoodIn wsL_law wsJx4a65c0 := goodIn_r _ [933, 934, 935] (by decide +kernel) (by decide +kernel)
set_option maxRecDepth 20000 in
theorem qX5_wsJx354110 : GoodIn wsL_law wsJx354110 := goodIn_r _ [936, 937, 938, 939] (by decide +kernel) (by decide +kernel)
theorem ggL_law_X5_digest : GoodIn wsL_law wsX5_digest := q_cons qX5_h (goodIn_app (goodIn_app (goodIn_app (goodIn_app (goodIn_app qX5_r1 (goodIn_app qX5_r2 (goodIn_app qX5_r3 (goodIn_app qX5_r4 (goodIn_app qX5_r5 (goodIn_app qX5_r6 (goodIn_app qX5_r7 (goodIn_app qX5_r8 (goodIn_app qX5_r9 (goodIn_app qX5_r10 qX5_r11)))))))))) qX5_wsX50) qX5_wsX40) qX5_wsJx4a65c0) qX5_wsJx354110)
set_option maxRecDepth 20000 in
theorem gL_law_X5_digest : GoodIn wsL_law (wsV RL 154 RX5 yX5_digest wsX5_digest) := goodIn_app (goodIn_of _ (by decide +kernel)) ggL_law_X5_digest
theorem dL_law_0 : decode cL_law 0 = .ok (.new 8, 3) := by decide +kernel
theorem dL_law_3 : decode cL_law 3 = .ok (.dup, 1) := by decide +kernel
theorem dL_law_4 : decode cL_law 4 = .ok (.invokespecial 75, 3) := by decide +kernel
theorem dL_law_7 : decode cL_law 7 = .ok (.astore_n 1, 1) := by decide +kernel
theorem dL_law_8 : decode cL_law 8 = .ok (.new 76, 3) := by decide +kernel
theorem dL_law_11 : decode cL_law 11 = .ok (.dup, 1) := by decide +kernel
theorem dL_law_12 : decode cL_law 12 = .ok (.invokespecial 78, 3) := by decide +kernel
theorem dL_law_15 : decode cL_law 15 = .ok (.astore_n 2, 1) := by decide +kernel
theorem dL_law_16 : decode cL_law 16 = .ok (.iconst 1, 1) := by decide +kernel
theorem dL_law_17 : decode cL_law 17 = .ok (.newarray .long, 2) := by decide +kernel
theorem dL_law_19 : decode cL_law 19 = .ok (.astore_n 3, 1) := by decide +kernel
theorem dL_law_20 : decode cL_law 20 = .ok (.iconst 0, 1) := by decide +kernel
theorem dL_law_21 : decode cL_law 21 = .ok (.istore 4, 2) := by decide +kernel
theorem dL_law_23 : decode cL_law 23 = .ok (.iload 4, 2) := by decide +kernel
theorem dL_law_25 : decode cL_law 25 = .ok (.aload_n 0, 1) := by decide +kernel
theorem dL_law_26 : decode cL_law 26 = .ok (.arraylength, 1) := by decide +kernel
theorem dL_law_27 : decode cL_law 27 = .ok (.iconst 5, 1) := by decide +kernel
theorem dL_law_28 : decode cL_law 28 = .ok (.isub, 1) := by decide +kernel
theorem dL_law_29 : decode cL_law 29 = .ok (.if_icmp .gt 1479, 3) := by decide +kernel
theorem dL_law_32 : decode cL_law 32 = .ok (.aload_n 0, 1) := by decide +kernel
theorem dL_law_33 : decode cL_law 33 = .ok (.iload 4, 2) := by decide +kernel
theorem dL_law_35 : decode cL_law 35 = .ok (.iaload, 1) := by decide +kernel
theorem dL_law_36 : decode cL_law 36 = .ok (.bipush 31, 2) := by decide +kernel
theorem dL_law_38 : decode cL_law 38 = .ok (.iand, 1) := by decide +kernel
theorem dL_law_39 : decode cL_law 39 = .ok (.tableswitch 1463 0 19 #[93, 201, 269, 377, 468, 536, 592, 648, 716, 784, 852, 908, 964, 1032, 1088, 1129, 1209, 1277, 1369, 1449], 93) := by decide +kernel
theorem dL_law_132 : decode cL_law 132 = .ok (.aload_n 1, 1) := by decide +kernel
theorem dL_law_133 : decode cL_law 133 = .ok (.aload_n 0, 1) := by decide +kernel
theorem dL_law_134 : decode cL_law 134 = .ok (.iload 4, 2) := by decide +kernel
theorem dL_law_136 : decode cL_law 136 = .ok (.iconst 1, 1) := by decide +kernel
theorem dL_law_137 : decode cL_law 137 = .ok (.iadd, 1) := by decide +kernel
theorem dL_law_138 : decode cL_law 138 = .ok (.iaload, 1) := by decide +kernel
theorem dL_law_139 : decode cL_law 139 = .ok (.aload_n 0, 1) := by decide +kernel
theorem dL_law_140 : decode cL_law 140 = .ok (.iload 4, 2) := by decide +kernel
theorem dL_law_142 : decode cL_law 142 = .ok (.iconst 2, 1) := by decide +kernel
theorem dL_law_143 : decode cL_law 143 = .ok (.iadd, 1) := by decide +kernel
theorem dL_law_144 : decode cL_law 144 = .ok (.iaload, 1) := by decide +kernel
theorem dL_law_145 : decode cL_law 145 = .ok (.aload_n 0, 1) := by decide +kernel
theorem dL_law_146 : decode cL_law 146 = .ok (.iload 4, 2) := by decide +kernel
theorem dL_law_148 : decode cL_law 148 = .ok (.iconst 3, 1) := by decide +kernel
theorem dL_law_149 : decode cL_law 149 = .ok (.iadd, 1) := by decide +kernel
theorem dL_law_150 : decode cL_law 150 = .ok (.iaload, 1) := by decide +kernel
theorem dL_law_151 : decode cL_law 151 = .ok (.aload_n 0, 1) := by decide +kernel
theorem dL_law_152 : decode cL_law 152 = .ok (.iload 4, 2) := by decide +kernel
theorem dL_law_154 : decode cL_law 154 = .ok (.iconst 4, 1) := by decide +kernel
theorem dL_law_155 : decode cL_law 155 = .ok (.iadd, 1) := by decide +kernel
theorem dL_law_156 : decode cL_law 156 = .ok (.iaload, 1) := by decide +kernel
theorem dL_law_157 : decode cL_law 157 = .ok (.ifCond .eq 7, 3) := by decide +kernel
theorem dL_law_160 : decode cL_law 160 = .ok (.iconst 1, 1) := by decide +kernel
theorem dL_law_161 : decode cL_law 161 = .ok (.goto 4, 3) := by decide +kernel
theorem dL_law_164 : decode cL_law 164 = .ok (.iconst 0, 1) := by decide +kernel
theorem dL_law_165 : decode cL_law 165 = .ok (.aload_n 3, 1) := by decide +kernel
theorem dL_law_166 : decode cL_law 166 = .ok (.invokestatic 79, 3) := by decide +kernel
theorem dL_law_169 : decode cL_law 169 = .ok (.istore 5, 2) := by decide +kernel
theorem dL_law_171 : decode cL_law 171 = .ok (.aload_n 2, 1) := by decide +kernel
theorem dL_law_172 : decode cL_law 172 = .ok (.aload_n 0, 1) := by decide +kernel
theorem dL_law_173 : decode cL_law 173 = .ok (.iload 4, 2) := by decide +kernel
theorem dL_law_175 : decode cL_law 175 = .ok (.iconst 1, 1) := by decide +kernel
theorem dL_law_176 : decode cL_law 176 = .ok (.iadd, 1) := by decide +kernel
theorem dL_law_177 : decode cL_law 177 = .ok (.iaload, 1) := by decide +kernel
theorem dL_law_178 : decode cL_law 178 = .ok (.aload_n 0, 1) := by decide +kernel
theorem dL_law_179 : decode cL_law 179 = .ok (.iload 4, 2) := by decide +kernel
theorem dL_law_181 : decode cL_law 181 = .ok (.iconst 2, 1) := by decide +kernel
theorem dL_law_182 : decode cL_law 182 = .ok (.iadd, 1) := by decide +kernel
theorem dL_law_183 : decode cL_law 183 = .ok (.iaload, 1) := by decide +kernel
theorem dL_law_184 : decode cL_law 184 = .ok (.aload_n 0, 1) := by decide +kernel
theorem dL_law_185 : decode cL_law 185 = .ok (.iload 4, 2) := by decide +kernel
theorem dL_law_187 : decode cL_law 187 = .ok (.iconst 3, 1) := by decide +kernel
theorem dL_law_188 : decode cL_law 188 = .ok (.iadd, 1) := by decide +kernel
theorem dL_law_189 : decode cL_law 189 = .ok (.iaload, 1) := by decide +kernel
theorem dL_law_190 : decode cL_law 190 = .ok (.aload_n 0, 1) := by decide +kernel
theorem dL_law_191 : decode cL_law 191 = .ok (.iload 4, 2) := by decide +kernel
theorem dL_law_193 : decode cL_law 193 = .ok (.iconst 4, 1) := by decide +kernel
theorem dL_law_194 : decode cL_law 194 = .ok (.iadd, 1) := by decide +kernel
theorem dL_law_195 : decode cL_law 195 = .ok (.iaload, 1) := by decide +kernel
theorem dL_law_196 : decode cL_law 196 = .ok (.ifCond .eq 7, 3) := by decide +kernel
theorem dL_law_199 : decode cL_law 199 = .ok (.iconst 1, 1) := by decide +kernel
theorem dL_law_200 : decode cL_law 200 = .ok (.goto 4, 3) := by decide +kernel
theorem dL_law_203 : decode cL_law 203 = .ok (.iconst 0, 1) := by decide +kernel
theorem dL_law_204 : decode cL_law 204 = .ok (.invokevirtual 84, 3) := by decide +kernel
theorem dL_law_207 : decode cL_law 207 = .ok (.istore 6, 2) := by decide +kernel
theorem dL_law_209 : decode cL_law 209 = .ok (.aload_n 2, 1) := by decide +kernel
theorem dL_law_210 : decode cL_law 210 = .ok (.invokevirtual 85, 3) := by decide +kernel
theorem dL_law_213 : decode cL_law 213 = .ok (.iload 5, 2) := by decide +kernel
theorem dL_law_215 : decode cL_law 215 = .ok (.if_icmp .eq 5, 3) := by decide +kernel
theorem dL_law_220 : decode cL_law 220 = .ok (.iload 5, 2) := by decide +kernel
theorem dL_law_222 : decode cL_law 222 = .ok (.ifCond .ne 15, 3) := by decide +kernel
theorem dL_law_225 : decode cL_law 225 = .ok (.aload_n 3, 1) := by decide +kernel
theorem dL_law_226 : decode cL_law 226 = .ok (.iconst 0, 1) := by decide +kernel
theorem dL_law_227 : decode cL_law 227 = .ok (.laload, 1) := by decide +kernel
theorem dL_law_228 : decode cL_law 228 = .ok (.iload 6, 2) := by decide +kernel
theorem dL_law_230 : decode cL_law 230 = .ok (.i2l, 1) := by decide +kernel
theorem dL_law_231 : decode cL_law 231 = .ok (.lcmp, 1) := by decide +kernel
theorem dL_law_232 : decode cL_law 232 = .ok (.ifCond .eq 5, 3) := by decide +kernel
theorem dL_law_237 : decode cL_law 237 = .ok (.goto 1265, 3) := by decide +kernel
theorem dL_law_240 : decode cL_law 240 = .ok (.aload_n 1, 1) := by decide +kernel
theorem dL_law_241 : decode cL_law 241 = .ok (.aload_n 0, 1) := by decide +kernel
theorem dL_law_242 : decode cL_law 242 = .ok (.iload 4, 2) := by decide +kernel
theorem dL_law_244 : decode cL_law 244 = .ok (.iconst 1, 1) := by decide +kernel
theorem dL_law_245 : decode cL_law 245 = .ok (.iadd, 1) := by decide +kernel
theorem dL_law_246 : decode cL_law 246 = .ok (.iaload, 1) := by decide +kernel
theorem dL_law_247 : decode cL_law 247 = .ok (.aload_n 0, 1) := by decide +kernel
theorem dL_law_248 : decode cL_law 248 = .ok (.iload 4, 2) := by decide +kernel
theorem dL_law_250 : decode cL_law 250 = .ok (.iconst 2, 1) := by decide +kernel
theorem dL_law_251 : decode cL_law 251 = .ok (.iadd, 1) := by decide +kernel
theorem dL_law_252 : decode cL_law 252 = .ok (.iaload, 1) := by decide +kernel
theorem dL_law_253 : decode cL_law 253 = .ok (.aload_n 3, 1) := by decide +kernel
theorem dL_law_254 : decode cL_law 254 = .ok (.invokestatic 89, 3) := by decide +kernel
theorem dL_law_257 : decode cL_law 257 = .ok (.istore 5, 2) := by decide +kernel
theorem dL_law_259 : decode cL_law 259 = .ok (.aload_n 2, 1) := by decide +kernel
theorem dL_law_260 : decode cL_law 260 = .ok (.aload_n 0, 1) := by decide +kernel
theorem dL_law_261 : decode cL_law 261 = .ok (.iload 4, 2) := by decide +kernel
theorem dL_law_263 : decode cL_law 263 = .ok (.iconst 1, 1) := by decide +kernel
theorem dL_law_264 : decode cL_law 264 = .ok (.iadd, 1) := by decide +kernel
theorem dL_law_265 : decode cL_law 265 = .ok (.iaload, 1) := by decide +kernel
theorem dL_law_266 : decode cL_law 266 = .ok (.aload_n 0, 1) := by decide +kernel
theorem dL_law_267 : decode cL_law 267 = .ok (.iload 4, 2) := by decide +kernel
theorem dL_law_269 : decode cL_law 269 = .ok (.iconst 2, 1) := by decide +kernel
theorem dL_law_270 : decode cL_law 270 = .ok (.iadd, 1) := by decide +kernel
theorem dL_law_271 : decode cL_law 271 = .ok (.iaload, 1) := by decide +kernel
theorem dL_law_272 : decode cL_law 272 = .ok (.invokevirtual 92, 3) := by decide +kernel
theorem dL_law_275 : decode cL_law 275 = .ok (.istore 6, 2) := by decide +kernel
theorem dL_law_277 : decode cL_law 277 = .ok (.aload_n 2, 1) := by decide +kernel
theorem dL_law_278 : decode cL_law 278 = .ok (.invokevirtual 85, 3) := by decide +kernel
theorem dL_law_281 : decode cL_law 281 = .ok (.iload 5, 2) := by decide +kernel
theorem dL_law_283 : decode cL_law 283 = .ok (.if_icmp .eq 5, 3) := by decide +kernel
theorem dL_law_288 : decode cL_law 288 = .ok (.iload 5, 2) := by decide +kernel
theorem dL_law_290 : decode cL_law 290 = .ok (.ifCond .ne 15, 3) := by decide +kernel
theorem dL_law_293 : decode cL_law 293 = .ok (.aload_n 3, 1) := by decide +kernel
theorem dL_law_294 : decode cL_law 294 = .ok (.iconst 0, 1) := by decide +kernel
theorem dL_law_295 : decode cL_law 295 = .ok (.laload, 1) := by decide +kernel
theorem dL_law_296 : decode cL_law 296 = .ok (.iload 6, 2) := by decide +kernel
theorem dL_law_298 : decode cL_law 298 = .ok (.i2l, 1) := by decide +kernel
theorem dL_law_299 : decode cL_law 299 = .ok (.lcmp, 1) := by decide +kernel
theorem dL_law_300 : decode cL_law 300 = .ok (.ifCond .eq 5, 3) := by decide +kernel
theorem dL_law_305 : decode cL_law 305 = .ok (.goto 1197, 3) := by decide +kernel
theorem dL_law_308 : decode cL_law 308 = .ok (.aload_n 1, 1) := by decide +kernel
theorem dL_law_309 : decode cL_law 309 = .ok (.aload_n 0, 1) := by decide +kernel
theorem dL_law_310 : decode cL_law 310 = .ok (.iload 4, 2) := by decide +kernel
theorem dL_law_312 : decode cL_law 312 = .ok (.iconst 1, 1) := by decide +kernel
theorem dL_law_313 : decode cL_law 313 = .ok (.iadd, 1) := by decide +kernel
theorem dL_law_314 : decode cL_law 314 = .ok (.iaload, 1) := by decide +kernel
theorem dL_law_315 : decode cL_law 315 = .ok (.aload_n 0, 1) := by decide +kernel
theorem dL_law_316 : decode cL_law 316 = .ok (.iload 4, 2) := by decide +kernel
theorem dL_law_318 : decode cL_law 318 = .ok (.iconst 2, 1) := by decide +kernel
theorem dL_law_319 : decode cL_law 319 = .ok (.iadd, 1) := by decide +kernel
