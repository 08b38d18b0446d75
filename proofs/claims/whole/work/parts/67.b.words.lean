set_option maxRecDepth 1000000 in
set_option maxHeartbeats 8000000 in
theorem gL_lawq_L_feed : GoodIn lw_tbl (va_wsS RL 49 yL_feed wsL_feed) := goodIn_r _ [330, 331, 40, 332, 333, 334, 335, 336, 41, 337, 217, 338, 340, 7, 341, 342, 54, 410, 412, 9, 413, 414, 416, 10, 417, 216, 223, 225, 227, 229, 231, 233, 235, 50, 364, 373, 378, 381, 383, 365, 366, 65, 66, 367, 372, 379, 399, 354, 400, 356, 401, 358, 368, 370, 360, 395, 396, 398, 360, 386, 387, 388, 389, 389, 390, 391, 392, 392, 393, 394, 395, 385, 343, 351, 352, 353, 355, 357, 359, 363, 362, 361] rfl (by decide +kernel)
set_option maxRecDepth 1000000 in
set_option maxHeartbeats 8000000 in
theorem gL_lawq_L_end : GoodIn lw_tbl (va_wsS RL 58 yL_end wsL_end) := goodIn_r _ [418, 419, 40, 420, 421, 422, 423, 424, 41, 425, 217, 426, 427, 428, 429, 55, 223, 225, 227, 229, 231, 233, 235, 50, 364, 373, 378, 381, 383, 365, 366, 65, 66, 367, 372, 379, 399, 354, 400, 356, 401, 358, 368, 370, 360, 395, 396, 398, 360, 440, 441, 442, 389, 389, 390, 391, 392, 392, 393, 394, 395, 439, 430, 432, 376, 433, 434, 435, 436, 363, 362, 437] rfl (by decide +kernel)
set_option maxRecDepth 1000000 in
set_option maxHeartbeats 8000000 in
theorem gL_lawq_L_back : GoodIn lw_tbl (va_wsS RL 73 yL_back wsL_back) := goodIn_r _ [593, 594, 40, 595, 333, 596, 597, 598, 41, 599, 342, 54, 219, 218, 216, 601, 603, 602, 58, 217, 223, 225, 227, 229, 231, 233, 235, 50, 364, 373, 378, 381, 383, 365, 366, 65, 66, 367, 372, 379, 399, 354, 400, 356, 401, 358, 368, 370, 360, 395, 396, 398, 360, 386, 387, 388, 389, 389, 390, 391, 392, 392, 393, 394, 395, 385, 343, 351, 352, 353, 355, 357, 359, 363, 362, 361] rfl (by decide +kernel)
set_option maxRecDepth 1000000 in
set_option maxHeartbeats 8000000 in
theorem gL_lawq_L_patch : GoodIn lw_tbl (va_wsS RL 77 yL_patch wsL_patch) := goodIn_r _ [604, 605, 40, 606, 421, 607, 608, 609, 41, 610, 217, 216, 426, 427, 428, 429, 55, 223, 225, 227, 229, 231, 233, 235, 50, 364, 373, 378, 381, 383, 365, 366, 65, 66, 367, 372, 379, 399, 354, 400, 356, 401, 358, 368, 370, 360, 395, 396, 398, 360, 440, 441, 442, 389, 389, 390, 391, 392, 392, 393, 394, 395, 439, 430, 432, 376, 433, 434, 435, 436, 363, 362, 437] rfl (by decide +kernel)
set_option maxRecDepth 1000000 in
set_option maxHeartbeats 8000000 in
theorem gL_lawq_L_word : GoodIn lw_tbl (va_wsS RL 85 yL_word wsL_word) := goodIn_r _ [611, 612, 40, 613, 333, 614, 615, 616, 41, 617, 342, 54, 219, 218, 223, 225, 227, 229, 231, 233, 235, 50, 364, 373, 378, 381, 383, 365, 366, 65, 66, 367, 372, 379, 399, 354, 400, 356, 401, 358, 368, 370, 360, 395, 396, 398, 360, 386, 387, 388, 389, 389, 390, 391, 392, 392, 393, 394, 395, 385, 343, 351, 352, 353, 355, 357, 359, 363, 362, 361] rfl (by decide +kernel)
set_option maxRecDepth 1000000 in
set_option maxHeartbeats 8000000 in
theorem gL_lawq_L_count : GoodIn lw_tbl (va_wsS RL 88 yL_count wsL_count) := goodIn_r _ [619, 620, 40, 621, 421, 622, 623, 624, 41, 625, 217, 219, 426, 427, 428, 429, 55, 223, 225, 227, 229, 231, 233, 235, 50, 364, 373, 378, 381, 383, 365, 366, 65, 66, 367, 372, 379, 399, 354, 400, 356, 401, 358, 368, 370, 360, 395, 396, 398, 360, 440, 441, 442, 389, 389, 390, 391, 392, 392, 393, 394, 395, 439, 430, 432, 376, 433, 434, 435, 436, 363, 362, 437] rfl (by decide +kernel)
set_option maxRecDepth 1000000 in
set_option maxHeartbeats 8000000 in
theorem gL_lawq_X9_feed : GoodIn lw_tbl (wsV RL 54 RX9 yX9_feed wsX9_feed) := goodIn_r _ [734, 735, 736, 49, 737, 677, 738, 740, 22, 49, 741, 680, 742, 744, 23, 745, 676, 681, 683, 685, 687, 689, 691, 693, 695, 697, 699, 701, 703, 705, 707, 709, 711, 713, 715, 717, 719, 721, 723, 725, 727] rfl (by decide +kernel)
set_option maxRecDepth 1000000 in
set_option maxHeartbeats 8000000 in
theorem gL_lawq_X9_end : GoodIn lw_tbl (wsV RL 61 RX9 yX9_end wsX9_end) := goodIn_r _ [746, 747, 748, 49, 749, 677, 738, 740, 22, 49, 741, 680, 681, 683, 685, 687, 689, 691, 693, 695, 697, 699, 701, 703, 705, 707, 709, 711, 713, 715, 717, 719, 721, 723, 725, 727] rfl (by decide +kernel)
set_option maxRecDepth 1000000 in
set_option maxHeartbeats 8000000 in
theorem gL_lawq_X9_fill : GoodIn lw_tbl (wsV RL 65 RX9 yX9_fill wsX9_fill) := goodIn_r _ [750, 751, 752, 49, 753, 677, 754, 676, 738, 740, 22, 49, 741, 680, 681, 683, 685, 687, 689, 691, 693, 695, 697, 699, 701, 703, 705, 707, 709, 711, 713, 715, 717, 719, 721, 723, 725, 727] rfl (by decide +kernel)
set_option maxRecDepth 1000000 in
set_option maxHeartbeats 8000000 in
theorem gL_lawq_X9_back : GoodIn lw_tbl (wsV RL 76 RX9 yX9_back wsX9_back) := goodIn_r _ [847, 848, 849, 49, 850, 679, 677, 676, 678, 738, 740, 22, 49, 741, 680, 681, 683, 685, 687, 689, 691, 693, 695, 697, 699, 701, 703, 705, 707, 709, 711, 713, 715, 717, 719, 721, 723, 725, 727] rfl (by decide +kernel)
set_option maxRecDepth 1000000 in
set_option maxHeartbeats 8000000 in
theorem gL_lawq_X9_patch : GoodIn lw_tbl (wsV RL 80 RX9 yX9_patch wsX9_patch) := goodIn_r _ [851, 852, 853, 49, 854, 677, 676, 738, 740, 22, 49, 741, 680, 681, 683, 685, 687, 689, 691, 693, 695, 697, 699, 701, 703, 705, 707, 709, 711, 713, 715, 717, 719, 721, 723, 725, 727] rfl (by decide +kernel)
set_option maxRecDepth 1000000 in
set_option maxHeartbeats 8000000 in
theorem gL_lawq_X9_word : GoodIn lw_tbl (wsV RL 87 RX9 yX9_word wsX9_word) := goodIn_r _ [859, 860, 861, 49, 862, 679, 678, 863, 738, 740, 22, 49, 741, 680, 681, 683, 685, 687, 689, 691, 693, 695, 697, 699, 701, 703, 705, 707, 709, 711, 713, 715, 717, 719, 721, 723, 725, 727] rfl (by decide +kernel)
set_option maxRecDepth 1000000 in
set_option maxHeartbeats 8000000 in
theorem gL_lawq_X9_count : GoodIn lw_tbl (wsV RL 90 RX9 yX9_count wsX9_count) := goodIn_r _ [864, 865, 866, 49, 867, 677, 679, 738, 740, 22, 49, 741, 680, 681, 683, 685, 687, 689, 691, 693, 695, 697, 699, 701, 703, 705, 707, 709, 711, 713, 715, 717, 719, 721, 723, 725, 727] rfl (by decide +kernel)
set_option maxRecDepth 1000000 in
set_option maxHeartbeats 8000000 in
theorem gL_lawq_X9_sum : GoodIn lw_tbl (wsV RL 84 RX9 yX9_sum wsX9_sum) := goodIn_r _ [855, 856, 857, 49, 858, 680, 678, 679, 795, 796, 49, 797, 798, 681, 683, 685, 687, 689, 691, 693, 695, 697, 699, 701, 703, 705, 707, 709, 711, 713, 715, 717, 719, 721, 723, 725, 727] rfl (by decide +kernel)
set_option maxRecDepth 1000000 in
set_option maxHeartbeats 8000000 in
theorem gL_lawq_X9_thrown : GoodIn lw_tbl (wsV RL 55 RX9 yX9_thrown wsX9_thrown) := goodIn_r _ [730, 731, 732, 49, 733, 680, 681, 683, 685, 687, 689, 691, 693, 695, 697, 699, 701, 703, 705, 707, 709, 711, 713, 715, 717, 719, 721, 723, 725, 727] rfl (by decide +kernel)
set_option maxRecDepth 1000000 in
set_option maxHeartbeats 8000000 in
theorem gL_lawq_X9_pack_ : GoodIn lw_tbl (wsV RL 69 RX9 yX9_pack_ wsX9_pack_) := goodIn_r _ [755, 756, 757, 49, 758, 676, 677, 680, 659, 679, 678, 658, 759, 761, 24, 49, 762, 660, 763, 765, 25, 766, 767, 769, 26, 770, 771, 773, 27, 774, 775, 777, 28, 778, 779, 781, 29, 782, 783, 784, 785, 786, 787, 788, 789, 790, 791, 792, 793, 794, 795, 796, 797, 798, 681, 683, 685, 687, 689, 691, 693, 695, 697, 699, 701, 703, 705, 707, 709, 711, 713, 715, 717, 719, 721, 723, 725, 727] rfl (by decide +kernel)
set_option maxRecDepth 1000000 in
set_option maxHeartbeats 8000000 in
theorem gL_lawq_X7_sum : GoodIn lw_tbl (wsV RL 81 RX7 yX7_sum wsX7_sum) := goodIn_r _ [325, 326, 327, 41, 328, 218, 219, 329, 318, 41, 319, 320, 223, 225, 227, 229, 231, 233, 235] rfl (by decide +kernel)
set_option maxRecDepth 1000000 in
set_option maxHeartbeats 8000000 in
theorem gL_lawq_X9_initb : GoodIn lw_tbl (wsX9_initb) := goodIn_r _ [630, 631, 65, 66, 632, 633, 53, 657, 92, 658, 661, 115, 668, 669, 670, 671, 655, 672, 673, 675, 676, 678, 641, 642, 643, 636, 637, 638, 639, 640, 653, 681, 683, 685, 687, 689, 691, 693, 695, 697, 699, 701, 703, 705, 707, 709, 711, 713, 715, 717, 719, 721, 723, 725, 727, 643, 644, 645, 52, 646, 647, 648, 51, 649, 650, 651, 50, 652, 367, 65, 66, 399, 368, 400, 370, 401, 398, 636, 637, 638, 639, 640, 653, 115, 92, 655] rfl (by decide +kernel)
