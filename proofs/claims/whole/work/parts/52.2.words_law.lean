/-! written by wip/gen/mknames.py -/
set_option maxRecDepth 20000 in
theorem ggL_law_X11_init : GoodIn wsL_law wsX11_init := goodIn_r _ [10, 11, 12, 13, 14, 15, 16, 17, 18, 19, 20, 21, 22, 23, 24, 25, 26, 27, 28, 29, 30, 31, 32, 33, 34, 35, 36, 37, 38, 39, 40, 41, 42, 43, 44, 45, 46, 47, 48, 49, 50, 51, 52, 53, 54, 55, 56, 57, 58, 59, 60, 61, 62, 63, 64, 65, 66, 67, 68, 69, 70, 71, 72, 73, 74, 75, 76, 77, 78, 79, 80, 81, 82, 83, 84, 85, 86, 87, 88, 89, 90, 91, 92, 93, 94, 95, 96, 97, 98, 99, 100, 101, 102, 103, 104, 105, 106, 107, 108, 109, 110, 111, 112, 113, 114, 115, 116, 117, 118, 119, 120, 121, 122, 123, 124, 125, 126, 127, 128, 129, 815, 816, 817, 818, 819, 820, 821, 776, 777, 778, 779, 780, 781, 782, 822, 823, 824, 825, 826, 827, 828, 829, 830, 831, 832, 833, 834, 835, 836, 837, 838, 839, 840, 841, 842, 843, 844, 845, 846, 847, 848, 849, 850, 851] (by rfl) (by decide +kernel)
set_option maxRecDepth 20000 in
theorem gL_law_X11_init : GoodIn wsL_law (wsX11_init) := ggL_law_X11_init
set_option maxRecDepth 20000 in
theorem ggL_law_X12_init : GoodIn wsL_law wsX12_init := goodIn_r _ [132, 133, 12, 13, 45, 134, 135, 136, 137, 138, 139, 140, 141, 142, 143, 144, 145, 146, 147, 148, 149, 783, 784, 785, 786, 787, 788, 789, 790, 791, 792, 793, 794, 795, 796, 797, 798, 799, 800, 801, 802, 803, 804, 805, 806, 807, 808, 809, 810, 811, 812, 813, 814] (by rfl) (by decide +kernel)
set_option maxRecDepth 20000 in
theorem gL_law_X12_init : GoodIn wsL_law (wsX12_init) := ggL_law_X12_init
set_option maxRecDepth 20000 in
theorem ggL_law_L_change : GoodIn wsL_law wsL_change := goodIn_ca (goodIn_r _ [153, 154, 155, 156, 157, 2, 158, 159, 160, 17, 161, 162, 163, 16, 164, 165, 166, 167, 168, 54, 169, 170, 171, 172, 173, 46, 47, 48, 174, 175, 176, 177, 52, 53, 178, 179, 180, 51, 181, 182, 183, 184, 185, 186, 59, 60, 187, 188, 189, 190, 191, 192, 193, 194, 195, 196, 197, 198, 199, 200, 201, 202, 203, 776, 777, 778, 779, 780, 781, 782, 815, 816, 817, 818, 819, 820, 821, 841, 842, 843, 844] (by rfl) (by decide +kernel)) (goodIn_sub (fun _ h => List.mem_append_left _ (List.mem_append_right _ h)) (by decide +kernel))
set_option maxRecDepth 20000 in
theorem gL_law_L_change : GoodIn wsL_law (va_wsS RL 49 yL_change wsL_change) := goodIn_app (goodIn_of _ (by decide +kernel)) ggL_law_L_change
set_option maxRecDepth 20000 in
theorem ggL_law_X12_change : GoodIn wsL_law wsX12_change := goodIn_r _ [207, 134, 137, 140, 135, 136, 208, 209, 5, 210, 211, 212, 213, 214, 215, 216, 217, 218, 219, 138, 783, 784, 785, 786, 787, 788, 789, 790, 791, 792, 793, 794, 795, 796, 797, 798, 799, 800, 801, 802, 803, 804, 805, 806, 807, 808, 809, 810, 811, 812, 813, 814] (by rfl) (by decide +kernel)
set_option maxRecDepth 20000 in
theorem gL_law_X12_change : GoodIn wsL_law (wsV RL 54 RX12 yX12_change wsX12_change) := goodIn_app (goodIn_of _ (by decide +kernel)) ggL_law_X12_change
set_option maxRecDepth 20000 in
theorem ggL_law_X12_thrown : GoodIn wsL_law wsX12_thrown := goodIn_r _ [223, 215, 783, 784, 785, 786, 787, 788, 789, 790, 791, 792, 793, 794, 795, 796, 797, 798, 799, 800, 801, 802, 803, 804, 805, 806, 807, 808, 809, 810, 811, 812, 813, 814] (by rfl) (by decide +kernel)
set_option maxRecDepth 20000 in
theorem gL_law_X12_thrown : GoodIn wsL_law (wsV RL 55 RX12 yX12_thrown wsX12_thrown) := goodIn_app (goodIn_of _ (by decide +kernel)) ggL_law_X12_thrown
set_option maxRecDepth 20000 in
theorem ggL_law_L_point : GoodIn wsL_law wsL_point := goodIn_ca (goodIn_r _ [226, 154, 227, 228, 229, 2, 230, 159, 160, 17, 161, 162, 163, 16, 164, 231, 232, 233, 234, 169, 170, 171, 172, 173, 46, 47, 48, 776, 777, 778, 779, 780, 781, 782, 815, 816, 817, 818, 819, 820, 821] (by rfl) (by decide +kernel)) (goodIn_sub (fun _ h => List.mem_append_left _ (List.mem_append_right _ h)) (by decide +kernel))
set_option maxRecDepth 20000 in
theorem gL_law_L_point : GoodIn wsL_law (va_wsS RL 59 yL_point wsL_point) := goodIn_app (goodIn_of _ (by decide +kernel)) ggL_law_L_point
set_option maxRecDepth 20000 in
theorem ggL_law_X12_point : GoodIn wsL_law wsX12_point := goodIn_r _ [238, 142, 134, 208, 209, 5, 210, 211, 212, 213, 214, 215, 783, 784, 785, 786, 787, 788, 789, 790, 791, 792, 793, 794, 795, 796, 797, 798, 799, 800, 801, 802, 803, 804, 805, 806, 807, 808, 809, 810, 811, 812, 813, 814] (by rfl) (by decide +kernel)
set_option maxRecDepth 20000 in
theorem gL_law_X12_point : GoodIn wsL_law (wsV RL 62 RX12 yX12_point wsX12_point) := goodIn_app (goodIn_of _ (by decide +kernel)) ggL_law_X12_point
set_option maxRecDepth 20000 in
theorem ggL_law_L_events : GoodIn wsL_law wsL_events := goodIn_ca (goodIn_r _ [241, 154, 242, 243, 244, 2, 245, 159, 160, 17, 246, 175, 176, 16, 177, 52, 53, 247, 248, 249, 51, 250, 182, 776, 777, 778, 779, 780, 781, 782, 815, 816, 817, 818, 819, 820, 821, 841, 842, 843, 844] (by rfl) (by decide +kernel)) (goodIn_sub (fun _ h => List.mem_append_left _ (List.mem_append_right _ h)) (by decide +kernel))
set_option maxRecDepth 20000 in
theorem gL_law_L_events : GoodIn wsL_law (va_wsS RL 63 yL_events wsL_events) := goodIn_app (goodIn_of _ (by decide +kernel)) ggL_law_L_events
set_option maxRecDepth 20000 in
theorem ggL_law_X12_events : GoodIn wsL_law wsX12_events := goodIn_r _ [254, 137, 208, 209, 5, 210, 211, 212, 213, 214, 215, 783, 784, 785, 786, 787, 788, 789, 790, 791, 792, 793, 794, 795, 796, 797, 798, 799, 800, 801, 802, 803, 804, 805, 806, 807, 808, 809, 810, 811, 812, 813, 814] (by rfl) (by decide +kernel)
set_option maxRecDepth 20000 in
theorem gL_law_X12_events : GoodIn wsL_law (wsV RL 66 RX12 yX12_events wsX12_events) := goodIn_app (goodIn_of _ (by decide +kernel)) ggL_law_X12_events
set_option maxRecDepth 20000 in
theorem ggL_law_L_hear : GoodIn wsL_law wsL_hear := goodIn_ca (goodIn_r _ [257, 154, 258, 259, 260, 2, 261, 159, 160, 21, 25, 29, 17, 33, 262, 263, 264, 265, 266, 267, 20, 268, 67, 269, 270, 271, 66, 272, 273, 75, 274, 275, 276, 277, 70, 278, 279, 280, 281, 282, 283, 284, 285, 286, 287, 288, 289, 290, 291, 292, 293, 294, 295, 296, 297, 69, 298, 299, 300, 40, 301, 302, 303, 304, 305, 306, 307, 308, 309, 310, 311, 312, 313, 314, 315, 316, 317, 197, 194, 198, 318, 319, 320, 321, 322, 323, 324, 325, 326, 193, 195, 327, 328, 200, 201, 202, 329, 330, 331, 332, 333, 334, 335, 24, 336, 83, 84, 85, 86, 337, 338, 339, 340, 341, 342, 343, 344, 345, 346, 347, 348, 349, 350, 351, 352, 353, 354, 355, 356, 357, 358, 359, 360, 361, 362, 363, 364, 365, 28, 366, 100, 96, 92, 367, 368, 369, 370, 371, 372, 101, 102, 373, 374, 375, 16, 376, 52, 53, 54, 377, 378, 379, 51, 380, 203, 188, 189, 190, 191, 192, 182, 196, 59, 199, 60, 381, 382, 383, 384, 385, 386, 387, 388, 389, 390, 391, 99, 392, 110, 393, 394, 395, 396, 397, 398, 399, 400, 401, 95, 402, 403, 404, 405, 406, 407, 408, 409, 410, 411, 412, 413, 414, 415, 416, 417, 418, 419, 420, 421, 422, 423, 424, 232, 233, 234, 169, 162, 163, 164, 170, 171, 172, 173, 46, 47, 48, 425, 426, 427, 428, 429, 430, 431, 432, 433, 434, 435, 436, 437, 438, 439, 175, 176, 177, 440, 441, 442, 443, 444, 248, 249, 250, 445, 446, 447, 448, 449, 450, 451, 452, 453, 454, 455, 456, 457, 458, 459, 460, 461, 462, 463, 464, 55, 465, 466, 467, 468, 469, 470, 471, 472, 112, 113, 111, 114, 473, 474, 475, 476, 477, 478, 479, 480, 481, 482, 483, 484, 485, 486, 487, 488, 489, 490, 491, 492, 493, 494, 495, 496, 497, 498, 499, 500, 501, 502, 503, 504, 505, 506, 507, 508, 509, 510, 511, 512, 513, 32, 514, 515, 516, 517, 518, 519, 520, 120, 521, 522, 523, 524, 525, 526, 527, 528, 529, 530, 122, 118, 121, 531, 532, 533, 534, 535, 536, 537, 538, 539, 123, 540, 541, 542, 543, 544, 545, 546, 547, 548, 776, 777, 778, 779, 780, 781, 782, 822, 823, 824, 845, 846, 840, 825, 826, 827, 828, 829, 830, 831, 832, 833, 815, 816, 817, 818, 819, 820, 821, 841, 842, 843, 844, 847, 848, 849, 850, 851, 834, 835, 836, 837, 838] (by rfl) (by decide +kernel)) (goodIn_sub (fun _ h => List.mem_append_left _ (List.mem_append_right _ h)) (by decide +kernel))
set_option maxRecDepth 20000 in
theorem gL_law_L_hear : GoodIn wsL_law (va_wsS RL 69 yL_hear wsL_hear) := goodIn_app (goodIn_of _ (by decide +kernel)) ggL_law_L_hear
set_option maxRecDepth 20000 in
theorem ggL_law_X12_hear : GoodIn wsL_law wsX12_hear := goodIn_r _ [552, 143, 553, 554, 211, 212, 213, 5, 214, 215, 555, 556, 557, 558, 559, 560, 561, 562, 208, 209, 210, 563, 564, 565, 566, 567, 568, 569, 570, 571, 572, 573, 574, 575, 576, 577, 578, 579, 580, 581, 582, 583, 144, 584, 585, 586, 587, 588, 589, 590, 591, 146, 592, 138, 593, 145, 147, 140, 594, 137, 141, 595, 596, 597, 598, 216, 217, 218, 219, 135, 136, 599, 600, 601, 602, 603, 604, 605, 606, 607, 608, 609, 610, 611, 612, 613, 614, 615, 616, 617, 618, 619, 620, 621, 134, 622, 623, 624, 625, 626, 627, 628, 629, 630, 631, 632, 633, 634, 635, 636, 637, 638, 639, 640, 641, 142, 642, 643, 644, 645, 646, 647, 648, 649, 650, 148, 651, 652, 653, 654, 655, 656, 783, 784, 785, 786, 787, 788, 789, 790, 791, 792, 793, 794, 795, 796, 797, 798, 799, 800, 801, 802, 803, 804, 805, 806, 807, 808, 809, 810, 811, 812, 813, 814] (by rfl) (by decide +kernel)
set_option maxRecDepth 20000 in
theorem gL_law_X12_hear : GoodIn wsL_law (wsV RL 72 RX12 yX12_hear wsX12_hear) := goodIn_app (goodIn_of _ (by decide +kernel)) ggL_law_X12_hear
set_option maxRecDepth 20000 in
theorem ggL_law_L_pass : GoodIn wsL_law wsL_pass := goodIn_ca (goodIn_r _ [659, 154, 660, 661, 662, 2, 663, 159, 160, 29, 664, 665, 666, 28, 667, 100, 668, 669, 670, 99, 671, 114, 672, 197, 194, 198, 776, 777, 778, 779, 780, 781, 782, 829, 830, 831, 832, 833, 847, 848, 849, 850, 851] (by rfl) (by decide +kernel)) (goodIn_sub (fun _ h => List.mem_append_left _ (List.mem_append_right _ h)) (by decide +kernel))
set_option maxRecDepth 20000 in
theorem gL_law_L_pass : GoodIn wsL_law (va_wsS RL 73 yL_pass wsL_pass) := goodIn_app (goodIn_of _ (by decide +kernel)) ggL_law_L_pass
set_option maxRecDepth 20000 in
theorem ggL_law_X12_pass : GoodIn wsL_law wsX12_pass := goodIn_r _ [676, 640, 208, 209, 5, 210, 211, 212, 213, 214, 215, 783, 784, 785, 786, 787, 788, 789, 790, 791, 792, 793, 794, 795, 796, 797, 798, 799, 800, 801, 802, 803, 804, 805, 806, 807, 808, 809, 810, 811, 812, 813, 814] (by rfl) (by decide +kernel)
set_option maxRecDepth 20000 in
theorem gL_law_X12_pass : GoodIn wsL_law (wsV RL 76 RX12 yX12_pass wsX12_pass) := goodIn_app (goodIn_of _ (by decide +kernel)) ggL_law_X12_pass
set_option maxRecDepth 20000 in
theorem ggL_law_L_sent : GoodIn wsL_law wsL_sent := goodIn_ca (goodIn_r _ [679, 680, 681, 682, 683, 2, 684, 685, 686, 33, 687, 688, 689, 32, 690, 121, 691, 692, 693, 694, 695, 696, 697, 698, 118, 122, 699, 776, 777, 778, 779, 780, 781, 782, 834, 835, 836, 837, 838] (by rfl) (by decide +kernel)) (goodIn_sub (fun _ h => List.mem_append_right _ h) (by decide +kernel))
set_option maxRecDepth 20000 in
theorem gL_law_L_sent : GoodIn wsL_law (va_wsS RL 77 yL_sent wsL_sent) := goodIn_app (goodIn_of _ (by decide +kernel)) ggL_law_L_sent
set_option maxRecDepth 20000 in
theorem ggL_law_X12_sent : GoodIn wsL_law wsX12_sent := goodIn_r _ [703, 651, 148, 211, 212, 213, 5, 214, 215, 783, 784, 785, 786, 787, 788, 789, 790, 791, 792, 793, 794, 795, 796, 797, 798, 799, 800, 801, 802, 803, 804, 805, 806, 807, 808, 809, 810, 811, 812, 813, 814] (by rfl) (by decide +kernel)
set_option maxRecDepth 20000 in
theorem gL_law_X12_sent : GoodIn wsL_law (wsV RL 79 RX12 yX12_sent wsX12_sent) := goodIn_app (goodIn_of _ (by decide +kernel)) ggL_law_X12_sent
set_option maxRecDepth 20000 in
theorem ggL_law_L_sum : GoodIn wsL_law wsL_sum := goodIn_ca (goodIn_r _ [706, 154, 707, 708, 709, 2, 710, 159, 160, 41, 711, 299, 300, 40, 301, 302, 262, 263, 264, 712, 304, 305, 306, 307, 713, 309, 310, 311, 312, 776, 777, 778, 779, 780, 781, 782, 840] (by rfl) (by decide +kernel)) (goodIn_sub (fun _ h => List.mem_append_left _ (List.mem_append_right _ h)) (by decide +kernel))
set_option maxRecDepth 20000 in
theorem gL_law_L_sum : GoodIn wsL_law (va_wsS RL 80 yL_sum wsL_sum) := goodIn_app (goodIn_of _ (by decide +kernel)) ggL_law_L_sum
set_option maxRecDepth 20000 in
theorem ggL_law_X12_sum : GoodIn wsL_law wsX12_sum := goodIn_r _ [717, 554, 567, 211, 212, 213, 5, 214, 215, 568, 569, 570, 571, 783, 784, 785, 786, 787, 788, 789, 790, 791, 792, 793, 794, 795, 796, 797, 798, 799, 800, 801, 802, 803, 804, 805, 806, 807, 808, 809, 810, 811, 812, 813, 814] (by rfl) (by decide +kernel)
set_option maxRecDepth 20000 in
theorem gL_law_X12_sum : GoodIn wsL_law (wsV RL 82 RX12 yX12_sum wsX12_sum) := goodIn_app (goodIn_of _ (by decide +kernel)) ggL_law_X12_sum
set_option maxRecDepth 20000 in
theorem ggL_law_L_ask : GoodIn wsL_law wsL_ask := goodIn_ca (goodIn_r _ [720, 154, 721, 722, 723, 2, 724, 159, 160, 37, 17, 725, 726, 727, 36, 728, 128, 729, 730, 342, 343, 66, 344, 273, 263, 264, 731, 732, 733, 734, 735, 270, 271, 272, 75, 736, 737, 738, 739, 740, 741, 742, 743, 744, 232, 233, 16, 234, 169, 162, 163, 164, 170, 171, 172, 173, 46, 47, 48, 745, 746, 747, 748, 749, 750, 751, 752, 753, 279, 280, 281, 776, 777, 778, 779, 780, 781, 782, 839, 845, 846, 815, 816, 817, 818, 819, 820, 821] (by rfl) (by decide +kernel)) (goodIn_sub (fun _ h => List.mem_append_left _ (List.mem_append_right _ h)) (by decide +kernel))
set_option maxRecDepth 20000 in
theorem gL_law_L_ask : GoodIn wsL_law (va_wsS RL 83 yL_ask wsL_ask) := goodIn_app (goodIn_of _ (by decide +kernel)) ggL_law_L_ask
set_option maxRecDepth 20000 in
theorem ggL_law_X12_ask : GoodIn wsL_law wsX12_ask := goodIn_r _ [757, 554, 758, 149, 134, 759, 211, 212, 213, 5, 214, 215, 760, 761, 762, 763, 208, 209, 210, 783, 784, 785, 786, 787, 788, 789, 790, 791, 792, 793, 794, 795, 796, 797, 798, 799, 800, 801, 802, 803, 804, 805, 806, 807, 808, 809, 810, 811, 812, 813, 814] (by rfl) (by decide +kernel)
set_option maxRecDepth 20000 in
theorem gL_law_X12_ask : GoodIn wsL_law (wsV RL 85 RX12 yX12_ask wsX12_ask) := goodIn_app (goodIn_of _ (by decide +kernel)) ggL_law_X12_ask
set_option maxRecDepth 20000 in
theorem ggL_law_L_told : GoodIn wsL_law wsL_told := goodIn_ca (goodIn_r _ [766, 680, 767, 768, 769, 2, 770, 685, 686, 37, 749, 750, 751, 36, 752, 128, 753, 279, 280, 66, 281, 273, 771, 291, 292, 293, 75, 776, 777, 778, 779, 780, 781, 782, 839, 845, 846] (by rfl) (by decide +kernel)) (goodIn_sub (fun _ h => List.mem_append_right _ h) (by decide +kernel))
set_option maxRecDepth 20000 in
theorem gL_law_L_told : GoodIn wsL_law (va_wsS RL 86 yL_told wsL_told) := goodIn_app (goodIn_of _ (by decide +kernel)) ggL_law_L_told
set_option maxRecDepth 20000 in
theorem ggL_law_X12_told : GoodIn wsL_law wsX12_told := goodIn_r _ [775, 759, 149, 208, 209, 5, 210, 211, 212, 213, 214, 215, 783, 784, 785, 786, 787, 788, 789, 790, 791, 792, 793, 794, 795, 796, 797, 798, 799, 800, 801, 802, 803, 804, 805, 806, 807, 808, 809, 810, 811, 812, 813, 814] (by rfl) (by decide +kernel)
set_option maxRecDepth 20000 in
theorem gL_law_X12_told : GoodIn wsL_law (wsV RL 88 RX12 yX12_told wsX12_told) := goodIn_app (goodIn_of _ (by decide +kernel)) ggL_law_X12_told
