set_option maxRecDepth 20000 in
theorem ggL_law_X7_init : GoodIn wsL_law wsX7_init := goodIn_r _ [9, 10, 11, 12, 13, 14, 15, 16, 17, 18, 19, 20, 21, 22, 23, 24, 25, 26, 27, 28, 29, 30, 31, 32, 33, 34, 35, 36, 37, 38, 39, 40, 41, 42, 43, 44, 45, 46, 47, 48, 49, 50, 51, 52, 53, 54, 55, 56, 57, 58, 59, 60, 61, 62, 63, 64, 65, 66, 67, 68, 69, 70, 71, 72, 73, 74, 75, 76, 77, 78, 79, 80, 81, 82, 83, 84, 85, 86, 87, 88, 89, 90, 91, 92, 93, 94, 95, 96, 97, 98, 99, 100, 101, 102, 103, 104, 105, 106, 107, 108, 109, 110, 111, 112, 113, 114, 115, 116, 117, 118, 119, 120, 121, 122, 1475, 1476, 1477, 1478, 1479, 1480, 1481, 1482, 1483, 1484, 1485, 1513, 1514, 1515, 1516, 1517, 1518, 1519, 1520, 1521, 1522, 1523, 1524, 1525, 1526, 1527, 1528, 1529, 1530, 1531, 1532, 1533, 1534, 1535, 1536, 1537, 1538, 1539, 1540, 1541, 1542, 1543, 1544, 1545, 1546, 1547, 1548, 1549, 1550, 1551, 1552, 1553, 1554, 1555] (by decide +kernel) (by decide +kernel)
set_option maxRecDepth 20000 in
theorem gL_law_X7_init : GoodIn wsL_law (wsX7_init) := ggL_law_X7_init
set_option maxRecDepth 20000 in
theorem ggL_law_X8_init : GoodIn wsL_law wsX8_init := goodIn_r _ [125, 126, 11, 12, 127, 128, 129, 13, 130, 131, 132, 133, 134, 135, 136, 137, 138, 139, 140, 1486, 1487, 1488, 1489, 1490, 1491, 1492, 1493, 1494, 1495, 1496, 1497, 1498, 1499, 1500, 1501, 1502, 1503, 1504, 1505, 1506, 1507, 1508, 1509, 1510, 1511, 1512] (by decide +kernel) (by decide +kernel)
set_option maxRecDepth 20000 in
theorem gL_law_X8_init : GoodIn wsL_law (wsX8_init) := ggL_law_X8_init
set_option maxRecDepth 20000 in
theorem ggL_law_L_append : GoodIn wsL_law wsL_append := goodIn_ca (goodIn_r _ [144, 145, 146, 147, 148, 2, 149, 150, 151, 152, 153, 154, 155, 156, 14, 157, 158, 159, 1475, 1476, 1477, 1478, 1479, 1480, 1481, 1482, 1483, 1484, 1485] (by decide +kernel) (by decide +kernel)) (goodIn_sub (fun _ h => List.mem_append_left _ (List.mem_append_left _ (List.mem_append_left _ (List.mem_append_right _ h)))) (by decide +kernel))
set_option maxRecDepth 20000 in
theorem gL_law_L_append : GoodIn wsL_law (va_wsS RL 110 yL_append wsL_append) := goodIn_app (goodIn_of _ (by decide +kernel)) ggL_law_L_append
set_option maxRecDepth 20000 in
theorem ggL_law_X8_append : GoodIn wsL_law wsX8_append := goodIn_r _ [163, 164, 165, 166, 167, 5, 168, 169, 170, 171, 172, 173, 128, 174, 175, 176, 177, 1486, 1487, 1488, 1489, 1490, 1491, 1492, 1493, 1494, 1495, 1496, 1497, 1498, 1499, 1500, 1501, 1502, 1503, 1504, 1505, 1506, 1507, 1508, 1509, 1510, 1511, 1512] (by decide +kernel) (by decide +kernel)
set_option maxRecDepth 20000 in
theorem gL_law_X8_append : GoodIn wsL_law (wsV RL 115 RX8 yX8_append wsX8_append) := goodIn_app (goodIn_of _ (by decide +kernel)) ggL_law_X8_append
set_option maxRecDepth 20000 in
theorem ggL_law_X8_thrown : GoodIn wsL_law wsX8_thrown := goodIn_r _ [181, 169, 1486, 1487, 1488, 1489, 1490, 1491, 1492, 1493, 1494, 1495, 1496, 1497, 1498, 1499, 1500, 1501, 1502, 1503, 1504, 1505, 1506, 1507, 1508, 1509, 1510, 1511, 1512] (by decide +kernel) (by decide +kernel)
set_option maxRecDepth 20000 in
theorem gL_law_X8_thrown : GoodIn wsL_law (wsV RL 116 RX8 yX8_thrown wsX8_thrown) := goodIn_app (goodIn_of _ (by decide +kernel)) ggL_law_X8_thrown
set_option maxRecDepth 20000 in
theorem ggL_law_L_truncate : GoodIn wsL_law wsL_truncate := goodIn_ca (goodIn_r _ [184, 185, 186, 187, 188, 2, 189, 190, 191, 152, 1475, 1476, 1477, 1478, 1479, 1480, 1481, 1482, 1483, 1484, 1485] (by decide +kernel) (by decide +kernel)) (goodIn_sub (fun _ h => List.mem_append_left _ (List.mem_append_left _ (List.mem_append_right _ h))) (by decide +kernel))
set_option maxRecDepth 20000 in
theorem gL_law_L_truncate : GoodIn wsL_law (va_wsS RL 119 yL_truncate wsL_truncate) := goodIn_app (goodIn_of _ (by decide +kernel)) ggL_law_L_truncate
set_option maxRecDepth 20000 in
theorem ggL_law_X8_truncate : GoodIn wsL_law wsX8_truncate := goodIn_r _ [195, 164, 196, 197, 5, 198, 165, 166, 167, 168, 169, 174, 175, 176, 177, 1486, 1487, 1488, 1489, 1490, 1491, 1492, 1493, 1494, 1495, 1496, 1497, 1498, 1499, 1500, 1501, 1502, 1503, 1504, 1505, 1506, 1507, 1508, 1509, 1510, 1511, 1512] (by decide +kernel) (by decide +kernel)
set_option maxRecDepth 20000 in
theorem gL_law_X8_truncate : GoodIn wsL_law (wsV RL 122 RX8 yX8_truncate wsX8_truncate) := goodIn_app (goodIn_of _ (by decide +kernel)) ggL_law_X8_truncate
set_option maxRecDepth 20000 in
theorem ggL_law_L_load : GoodIn wsL_law wsL_load := goodIn_ca (goodIn_r _ [201, 185, 202, 203, 204, 2, 205, 190, 191, 31, 14, 152, 35, 40, 18, 22, 206, 207, 208, 209, 30, 210, 76, 211, 77, 212, 213, 214, 215, 216, 34, 217, 218, 219, 220, 221, 222, 223, 224, 225, 226, 227, 228, 229, 230, 231, 232, 233, 234, 235, 236, 237, 238, 239, 240, 241, 242, 243, 244, 245, 246, 247, 248, 249, 250, 251, 252, 253, 254, 255, 256, 257, 258, 259, 260, 261, 262, 263, 264, 265, 266, 267, 268, 269, 270, 271, 272, 273, 274, 275, 276, 277, 278, 279, 280, 281, 282, 283, 284, 285, 286, 287, 288, 289, 290, 291, 292, 293, 294, 295, 296, 297, 298, 299, 300, 301, 302, 303, 304, 305, 306, 307, 308, 309, 310, 311, 312, 313, 314, 315, 316, 317, 318, 319, 320, 321, 322, 323, 324, 325, 326, 327, 328, 329, 330, 331, 332, 81, 158, 159, 86, 87, 88, 17, 89, 47, 90, 91, 92, 93, 94, 46, 95, 96, 97, 98, 99, 100, 101, 102, 103, 104, 105, 106, 55, 56, 57, 58, 107, 108, 109, 110, 48, 111, 112, 113, 114, 115, 116, 117, 118, 119, 120, 121, 122, 333, 334, 335, 336, 337, 49, 338, 339, 340, 341, 342, 343, 344, 345, 59, 346, 347, 348, 349, 350, 351, 352, 353, 354, 355, 356, 357, 358, 359, 360, 361, 362, 363, 364, 365, 366, 367, 368, 369, 370, 371, 372, 373, 374, 375, 376, 377, 378, 379, 380, 381, 382, 383, 384, 385, 386, 387, 50, 51, 388, 389, 390, 391, 392, 393, 394, 395, 396, 397, 398, 399, 21, 400, 401, 402, 1475, 1476, 1477, 1478, 1479, 1480, 1481, 1482, 1483, 1484, 1485, 1535, 1536, 1537, 1538, 1539, 1540, 1541, 1542, 1543, 1544, 1545, 1513, 1514, 1515, 1516, 1517, 1518, 1519, 1520, 1521, 1522, 1523, 1524, 1525, 1526, 1548, 1549, 1550, 1551, 1552, 1553, 1554, 1555, 1527, 1528, 1529, 1530] (by decide +kernel) (by decide +kernel)) (goodIn_sub (fun _ h => List.mem_append_left _ (List.mem_append_left _ (List.mem_append_right _ h))) (by decide +kernel))
set_option maxRecDepth 20000 in
theorem gL_law_L_load : GoodIn wsL_law (va_wsS RL 123 yL_load wsL_load) := goodIn_app (goodIn_of _ (by decide +kernel)) ggL_law_L_load
set_option maxRecDepth 20000 in
theorem ggL_law_X8_load : GoodIn wsL_law wsX8_load := goodIn_r _ [406, 130, 407, 408, 164, 409, 135, 410, 411, 412, 413, 5, 414, 131, 415, 416, 417, 418, 419, 129, 420, 421, 422, 423, 128, 424, 425, 426, 427, 428, 429, 430, 431, 432, 433, 434, 435, 436, 437, 438, 439, 440, 441, 442, 443, 444, 445, 446, 447, 448, 449, 450, 451, 452, 453, 454, 455, 456, 457, 458, 196, 197, 198, 459, 460, 461, 462, 463, 464, 465, 466, 467, 468, 469, 470, 471, 472, 473, 474, 475, 476, 477, 478, 479, 480, 481, 482, 483, 484, 485, 486, 487, 488, 489, 490, 491, 492, 493, 494, 495, 496, 497, 498, 499, 500, 501, 502, 503, 504, 505, 506, 507, 508, 509, 510, 511, 512, 513, 514, 515, 516, 517, 518, 519, 520, 521, 522, 523, 524, 525, 526, 527, 528, 529, 530, 531, 532, 533, 534, 535, 536, 537, 538, 539, 540, 541, 542, 543, 544, 545, 546, 547, 548, 549, 550, 551, 552, 553, 554, 555, 556, 557, 558, 559, 560, 561, 562, 563, 564, 565, 566, 567, 568, 569, 570, 571, 572, 573, 574, 575, 576, 577, 578, 579, 580, 581, 582, 583, 584, 585, 586, 587, 588, 589, 590, 591, 592, 593, 594, 595, 596, 597, 598, 599, 600, 165, 166, 167, 168, 169, 174, 175, 176, 177, 1486, 1487, 1488, 1489, 1490, 1491, 1492, 1493, 1494, 1495, 1496, 1497, 1498, 1499, 1500, 1501, 1502, 1503, 1504, 1505, 1506, 1507, 1508, 1509, 1510, 1511, 1512] (by decide +kernel) (by decide +kernel)
set_option maxRecDepth 20000 in
theorem gL_law_X8_load : GoodIn wsL_law (wsV RL 126 RX8 yX8_load wsX8_load) := goodIn_app (goodIn_of _ (by decide +kernel)) ggL_law_X8_load
set_option maxRecDepth 20000 in
theorem ggL_law_L_decode : GoodIn wsL_law wsL_decode := goodIn_ca (goodIn_r _ [603, 185, 604, 605, 606, 2, 607, 190, 191, 31, 14, 152, 27, 18, 40, 23, 206, 207, 208, 209, 30, 210, 76, 211, 77, 212, 213, 608, 609, 610, 26, 611, 70, 71, 612, 613, 93, 94, 46, 95, 96, 97, 98, 99, 100, 101, 102, 103, 104, 105, 106, 55, 56, 57, 58, 614, 615, 616, 617, 618, 226, 227, 228, 229, 230, 231, 232, 233, 234, 235, 236, 237, 238, 239, 240, 241, 242, 243, 244, 245, 246, 247, 619, 306, 307, 308, 620, 621, 622, 623, 624, 625, 626, 627, 628, 629, 630, 631, 632, 72, 633, 365, 366, 367, 634, 635, 636, 637, 396, 638, 639, 640, 641, 642, 343, 344, 345, 59, 643, 351, 352, 353, 354, 355, 356, 357, 644, 393, 394, 395, 158, 159, 645, 646, 647, 648, 649, 650, 651, 652, 653, 654, 655, 656, 657, 658, 659, 1475, 1476, 1477, 1478, 1479, 1480, 1481, 1482, 1483, 1484, 1485, 1513, 1514, 1515, 1516, 1517, 1518, 1519, 1520, 1521, 1522, 1523, 1524, 1525, 1526, 1535, 1536, 1537, 1538, 1539, 1531, 1532, 1533, 1534, 1548, 1549, 1550, 1551, 1552, 1553, 1554, 1555] (by decide +kernel) (by decide +kernel)) (goodIn_sub (fun _ h => List.mem_append_left _ (List.mem_append_left _ (List.mem_append_right _ h))) (by decide +kernel))
set_option maxRecDepth 20000 in
theorem gL_law_L_decode : GoodIn wsL_law (va_wsS RL 127 yL_decode wsL_decode) := goodIn_app (goodIn_of _ (by decide +kernel)) ggL_law_L_decode
set_option maxRecDepth 20000 in
theorem ggL_law_X8_decode : GoodIn wsL_law wsX8_decode := goodIn_r _ [663, 407, 408, 441, 164, 410, 415, 416, 417, 5, 418, 419, 129, 420, 421, 422, 423, 128, 424, 425, 426, 427, 428, 429, 430, 431, 432, 433, 434, 435, 436, 437, 438, 439, 440, 664, 665, 666, 667, 130, 668, 669, 670, 671, 672, 673, 674, 522, 523, 524, 525, 675, 676, 677, 678, 196, 197, 198, 679, 680, 681, 682, 683, 684, 685, 686, 553, 554, 555, 556, 687, 688, 689, 690, 691, 692, 693, 694, 136, 541, 542, 543, 544, 695, 696, 697, 698, 699, 700, 701, 702, 703, 704, 705, 706, 137, 707, 708, 709, 710, 711, 712, 713, 714, 138, 451, 452, 453, 454, 165, 166, 167, 168, 169, 715, 716, 717, 718, 139, 174, 175, 176, 177, 1486, 1487, 1488, 1489, 1490, 1491, 1492, 1493, 1494, 1495, 1496, 1497, 1498, 1499, 1500, 1501, 1502, 1503, 1504, 1505, 1506, 1507, 1508, 1509, 1510, 1511, 1512] (by decide +kernel) (by decide +kernel)
set_option maxRecDepth 20000 in
theorem gL_law_X8_decode : GoodIn wsL_law (wsV RL 129 RX8 yX8_decode wsX8_decode) := goodIn_app (goodIn_of _ (by decide +kernel)) ggL_law_X8_decode
set_option maxRecDepth 20000 in
theorem ggL_law_X7_errorPosition : GoodIn wsL_law wsX7_errorPosition := goodIn_r _ [722, 40, 1475, 1476, 1477, 1478, 1479, 1480, 1481, 1482, 1483, 1484, 1485] (by decide +kernel) (by decide +kernel)
set_option maxRecDepth 20000 in
theorem gL_law_X7_errorPosition : GoodIn wsL_law (wsV RL 130 RX7 yX7_errorPosition wsX7_errorPosition) := goodIn_app (goodIn_of _ (by decide +kernel)) ggL_law_X7_errorPosition
set_option maxRecDepth 20000 in
theorem ggL_law_X8_errorPosition : GoodIn wsL_law wsX8_errorPosition := goodIn_r _ [726, 129, 174, 175, 176, 5, 177, 169, 1486, 1487, 1488, 1489, 1490, 1491, 1492, 1493, 1494, 1495, 1496, 1497, 1498, 1499, 1500, 1501, 1502, 1503, 1504, 1505, 1506, 1507, 1508, 1509, 1510, 1511, 1512] (by decide +kernel) (by decide +kernel)
set_option maxRecDepth 20000 in
theorem gL_law_X8_errorPosition : GoodIn wsL_law (wsV RL 133 RX8 yX8_errorPosition wsX8_errorPosition) := goodIn_app (goodIn_of _ (by decide +kernel)) ggL_law_X8_errorPosition
set_option maxRecDepth 20000 in
theorem ggL_law_L_encode : GoodIn wsL_law wsL_encode := goodIn_ca (goodIn_ca (goodIn_r _ [729, 185, 145, 730, 731, 732, 2, 733, 150, 151, 18, 22, 734, 735, 736, 737, 190, 191, 738, 739, 740, 741, 742, 743, 744, 21, 745, 746, 402, 747, 653, 654, 655, 748, 749, 750, 751, 752, 753, 754, 755, 65, 756, 757, 758, 17, 759, 47, 90, 91, 48, 111, 49, 112, 50, 51, 113, 114, 120, 121, 122, 760, 761, 762, 46, 763, 96, 97, 102, 55, 56, 57, 58, 59, 650, 651, 652, 656, 657, 658, 659, 334, 335, 336, 337, 338, 339, 340, 341, 342, 343, 344, 345, 229, 230, 346, 347, 348, 349, 350, 351, 352, 353, 354, 355, 356, 357, 358, 359, 360, 361, 362, 363, 364, 365, 366, 367, 368, 369, 370, 371, 372, 373, 374, 375, 376, 377, 378, 379, 380, 381, 382, 383, 384, 385, 386, 387, 158, 159, 388, 389, 390, 391, 116, 117, 118, 119, 115, 99, 100, 101, 103, 104, 105, 106, 392, 393, 394, 395, 396, 1475, 1476, 1477, 1478, 1479, 1480, 1481, 1482, 1483, 1484, 1485, 1513, 1514, 1515, 1516, 1517, 1518, 1519, 1520, 1521, 1522, 1523, 1524, 1525, 1526, 1548, 1549, 1550, 1551, 1552, 1553, 1554, 1555, 1527, 1528, 1529, 1530] (by decide +kernel) (by decide +kernel)) (goodIn_sub (fun _ h => List.mem_append_left _ (List.mem_append_left _ (List.mem_append_left _ (List.mem_append_right _ h)))) (by decide +kernel))) (goodIn_sub (fun _ h => List.mem_append_left _ (List.mem_append_left _ (List.mem_append_right _ h))) (by decide +kernel))
set_option maxRecDepth 20000 in
theorem gL_law_L_encode : GoodIn wsL_law (va_wsS RL 134 yL_encode wsL_encode) := goodIn_app (goodIn_of _ (by decide +kernel)) ggL_law_L_encode
set_option maxRecDepth 20000 in
theorem ggL_law_X8_encode : GoodIn wsL_law wsX8_encode := goodIn_r _ [767, 130, 506, 507, 508, 5, 509, 196, 197, 198, 165, 166, 167, 168, 169, 411, 412, 413, 414, 131, 514, 515, 516, 517, 518, 519, 520, 521, 522, 523, 524, 525, 526, 527, 528, 529, 530, 531, 532, 533, 534, 535, 536, 537, 538, 539, 540, 541, 542, 543, 544, 545, 546, 547, 548, 549, 550, 551, 552, 553, 554, 555, 556, 557, 558, 559, 560, 561, 562, 563, 564, 565, 566, 567, 568, 569, 570, 571, 572, 573, 574, 575, 576, 577, 578, 579, 580, 581, 582, 583, 584, 585, 586, 587, 588, 589, 590, 591, 592, 485, 486, 487, 488, 593, 594, 595, 596, 768, 769, 770, 771, 409, 132, 174, 175, 176, 177, 1486, 1487, 1488, 1489, 1490, 1491, 1492, 1493, 1494, 1495, 1496, 1497, 1498, 1499, 1500, 1501, 1502, 1503, 1504, 1505, 1506, 1507, 1508, 1509, 1510, 1511, 1512] (by decide +kernel) (by decide +kernel)
set_option maxRecDepth 20000 in
theorem gL_law_X8_encode : GoodIn wsL_law (wsV RL 136 RX8 yX8_encode wsX8_encode) := goodIn_app (goodIn_of _ (by decide +kernel)) ggL_law_X8_encode
set_option maxRecDepth 20000 in
theorem ggL_law_L_encodeTape : GoodIn wsL_law wsL_encodeTape := goodIn_ca (goodIn_ca (goodIn_r _ [774, 185, 145, 775, 776, 777, 2, 778, 190, 191, 150, 151, 152, 14, 18, 22, 333, 229, 230, 738, 739, 740, 741, 742, 743, 744, 21, 745, 746, 402, 747, 653, 654, 655, 748, 749, 750, 751, 752, 753, 754, 755, 65, 756, 757, 758, 17, 759, 47, 90, 91, 48, 111, 49, 112, 50, 51, 113, 114, 120, 121, 122, 760, 761, 762, 46, 763, 96, 97, 102, 55, 56, 57, 58, 59, 650, 651, 652, 656, 657, 658, 659, 334, 335, 336, 337, 338, 339, 340, 341, 342, 343, 344, 345, 346, 347, 348, 349, 350, 351, 352, 353, 354, 355, 356, 357, 358, 359, 360, 361, 362, 363, 364, 365, 366, 367, 368, 369, 370, 371, 372, 373, 374, 375, 376, 377, 378, 379, 380, 381, 382, 383, 384, 385, 386, 387, 158, 159, 388, 389, 390, 391, 116, 117, 118, 119, 115, 99, 100, 101, 103, 104, 105, 106, 392, 393, 394, 395, 396, 1475, 1476, 1477, 1478, 1479, 1480, 1481, 1482, 1483, 1484, 1485, 1513, 1514, 1515, 1516, 1517, 1518, 1519, 1520, 1521, 1522, 1523, 1524, 1525, 1526, 1548, 1549, 1550, 1551, 1552, 1553, 1554, 1555, 1527, 1528, 1529, 1530] (by decide +kernel) (by decide +kernel)) (goodIn_sub (fun _ h => List.mem_append_left _ (List.mem_append_left _ (List.mem_append_right _ h))) (by decide +kernel))) (goodIn_sub (fun _ h => List.mem_append_left _ (List.mem_append_left _ (List.mem_append_left _ (List.mem_append_right _ h)))) (by decide +kernel))
set_option maxRecDepth 20000 in
theorem gL_law_L_encodeTape : GoodIn wsL_law (va_wsS RL 137 yL_encodeTape wsL_encodeTape) := goodIn_app (goodIn_of _ (by decide +kernel)) ggL_law_L_encodeTape
set_option maxRecDepth 20000 in
theorem ggL_law_X8_encodeTape : GoodIn wsL_law wsX8_encodeTape := goodIn_r _ [782, 164, 130, 498, 499, 500, 5, 501, 128, 502, 503, 504, 505, 506, 507, 508, 509, 196, 197, 198, 165, 166, 167, 168, 169, 411, 412, 413, 414, 131, 510, 511, 512, 513, 514, 515, 516, 517, 518, 519, 520, 521, 522, 523, 524, 525, 526, 527, 528, 529, 530, 531, 532, 533, 534, 535, 536, 537, 538, 539, 540, 541, 542, 543, 544, 545, 546, 547, 548, 549, 550, 551, 552, 553, 554, 555, 556, 557, 558, 559, 560, 561, 562, 563, 564, 565, 566, 567, 568, 569, 570, 571, 572, 573, 574, 575, 576, 577, 578, 579, 580, 581, 582, 583, 584, 585, 586, 587, 588, 589, 590, 591, 592, 485, 486, 487, 488, 593, 594, 595, 596, 768, 769, 770, 771, 409, 132, 174, 175, 176, 177, 1486, 1487, 1488, 1489, 1490, 1491, 1492, 1493, 1494, 1495, 1496, 1497, 1498, 1499, 1500, 1501, 1502, 1503, 1504, 1505, 1506, 1507, 1508, 1509, 1510, 1511, 1512] (by decide +kernel) (by decide +kernel)
set_option maxRecDepth 20000 in
theorem gL_law_X8_encodeTape : GoodIn wsL_law (wsV RL 139 RX8 yX8_encodeTape wsX8_encodeTape) := goodIn_app (goodIn_of _ (by decide +kernel)) ggL_law_X8_encodeTape
set_option maxRecDepth 20000 in
theorem ggL_law_X7_flush : GoodIn wsL_law wsX7_flush := goodIn_r _ [786, 22, 18, 742, 743, 744, 21, 745, 746, 402, 747, 653, 654, 655, 748, 749, 750, 751, 752, 753, 754, 755, 65, 756, 757, 758, 17, 759, 47, 90, 91, 48, 111, 49, 112, 50, 51, 113, 114, 120, 121, 122, 760, 761, 762, 46, 763, 96, 97, 102, 55, 56, 57, 58, 59, 650, 2, 651, 652, 656, 657, 658, 659, 787, 788, 789, 790, 380, 381, 382, 383, 364, 365, 366, 367, 229, 230, 358, 359, 360, 361, 362, 363, 384, 385, 386, 387, 158, 159, 388, 389, 390, 391, 116, 117, 118, 119, 115, 99, 100, 101, 103, 104, 105, 106, 1475, 1476, 1477, 1478, 1479, 1480, 1481, 1482, 1483, 1484, 1485, 1527, 1528, 1529, 1530, 1513, 1514, 1515, 1516, 1517, 1518, 1519, 1520, 1521, 1522, 1523, 1524, 1525, 1526, 1548, 1549, 1550, 1551, 1552, 1553, 1554, 1555] (by decide +kernel) (by decide +kernel)
set_option maxRecDepth 20000 in
theorem gL_law_X7_flush : GoodIn wsL_law (wsV RL 140 RX7 yX7_flush wsX7_flush) := goodIn_app (goodIn_of _ (by decide +kernel)) ggL_law_X7_flush
set_option maxRecDepth 20000 in
theorem ggL_law_X8_flush : GoodIn wsL_law wsX8_flush := goodIn_r _ [794, 130, 411, 412, 413, 5, 414, 131, 795, 796, 797, 798, 530, 531, 532, 533, 534, 535, 536, 537, 538, 539, 540, 522, 523, 524, 525, 541, 542, 543, 544, 589, 590, 591, 592, 485, 486, 487, 488, 768, 769, 770, 771, 409, 132, 174, 175, 176, 177, 169, 1486, 1487, 1488, 1489, 1490, 1491, 1492, 1493, 1494, 1495, 1496, 1497, 1498, 1499, 1500, 1501, 1502, 1503, 1504, 1505, 1506, 1507, 1508, 1509, 1510, 1511, 1512] (by decide +kernel) (by decide +kernel)
set_option maxRecDepth 20000 in
theorem gL_law_X8_flush : GoodIn wsL_law (wsV RL 143 RX8 yX8_flush wsX8_flush) := goodIn_app (goodIn_of _ (by decide +kernel)) ggL_law_X8_flush
set_option maxRecDepth 20000 in
theorem ggL_law_X7_restart : GoodIn wsL_law wsX7_restart := goodIn_r _ [802, 22, 18, 742, 743, 744, 21, 745, 746, 402, 747, 653, 654, 655, 748, 749, 750, 751, 752, 753, 754, 755, 65, 756, 757, 758, 17, 759, 47, 90, 91, 48, 111, 49, 112, 50, 51, 113, 114, 120, 121, 122, 760, 761, 762, 46, 763, 96, 97, 102, 55, 56, 57, 58, 59, 650, 2, 651, 652, 656, 657, 658, 659, 803, 108, 109, 110, 115, 99, 100, 101, 103, 104, 105, 106, 116, 117, 118, 119, 1475, 1476, 1477, 1478, 1479, 1480, 1481, 1482, 1483, 1484, 1485, 1513, 1514, 1515, 1516, 1517, 1518, 1519, 1520, 1521, 1522, 1523, 1524, 1525, 1526, 1527, 1528, 1529, 1530, 1548, 1549, 1550, 1551, 1552, 1553, 1554, 1555] (by decide +kernel) (by decide +kernel)
set_option maxRecDepth 20000 in
theorem gL_law_X7_restart : GoodIn wsL_law (wsV RL 144 RX7 yX7_restart wsX7_restart) := goodIn_app (goodIn_of _ (by decide +kernel)) ggL_law_X7_restart
set_option maxRecDepth 20000 in
theorem ggL_law_X8_restart : GoodIn wsL_law wsX8_restart := goodIn_r _ [807, 130, 411, 412, 413, 5, 414, 131, 481, 482, 483, 484, 485, 486, 487, 488, 768, 769, 770, 771, 409, 132, 174, 175, 176, 177, 169, 1486, 1487, 1488, 1489, 1490, 1491, 1492, 1493, 1494, 1495, 1496, 1497, 1498, 1499, 1500, 1501, 1502, 1503, 1504, 1505, 1506, 1507, 1508, 1509, 1510, 1511, 1512] (by decide +kernel) (by decide +kernel)
set_option maxRecDepth 20000 in
theorem gL_law_X8_restart : GoodIn wsL_law (wsV RL 147 RX8 yX8_restart wsX8_restart) := goodIn_app (goodIn_of _ (by decide +kernel)) ggL_law_X8_restart
set_option maxRecDepth 20000 in
theorem ggL_law_L_setPolicy : GoodIn wsL_law wsL_setPolicy := goodIn_ca (goodIn_r _ [810, 185, 811, 812, 813, 2, 814, 190, 191, 22, 18, 742, 743, 744, 21, 745, 746, 402, 747, 653, 654, 655, 748, 749, 750, 751, 752, 753, 754, 755, 65, 756, 757, 758, 17, 759, 47, 90, 91, 48, 111, 49, 112, 50, 51, 113, 114, 120, 121, 122, 760, 761, 762, 46, 763, 96, 97, 102, 55, 56, 57, 58, 59, 650, 651, 652, 656, 657, 658, 659, 1475, 1476, 1477, 1478, 1479, 1480, 1481, 1482, 1483, 1484, 1485, 1513, 1514, 1515, 1516, 1517, 1518, 1519, 1520, 1521, 1522, 1523, 1524, 1525, 1526, 1527, 1528, 1529, 1530, 1548, 1549, 1550, 1551, 1552, 1553, 1554, 1555] (by decide +kernel) (by decide +kernel)) (goodIn_sub (fun _ h => List.mem_append_left _ (List.mem_append_left _ (List.mem_append_right _ h))) (by decide +kernel))
set_option maxRecDepth 20000 in
theorem gL_law_L_setPolicy : GoodIn wsL_law (va_wsS RL 148 yL_setPolicy wsL_setPolicy) := goodIn_app (goodIn_of _ (by decide +kernel)) ggL_law_L_setPolicy
set_option maxRecDepth 20000 in
theorem ggL_law_X8_setPolicy : GoodIn wsL_law wsX8_setPolicy := goodIn_r _ [818, 130, 196, 197, 5, 198, 165, 166, 167, 168, 169, 411, 412, 413, 414, 131, 768, 769, 770, 771, 409, 132, 174, 175, 176, 177, 1486, 1487, 1488, 1489, 1490, 1491, 1492, 1493, 1494, 1495, 1496, 1497, 1498, 1499, 1500, 1501, 1502, 1503, 1504, 1505, 1506, 1507, 1508, 1509, 1510, 1511, 1512] (by decide +kernel) (by decide +kernel)
set_option maxRecDepth 20000 in
theorem gL_law_X8_setPolicy : GoodIn wsL_law (wsV RL 150 RX8 yX8_setPolicy wsX8_setPolicy) := goodIn_app (goodIn_of _ (by decide +kernel)) ggL_law_X8_setPolicy
set_option maxRecDepth 20000 in
theorem ggL_law_L_setLimit : GoodIn wsL_law wsL_setLimit := goodIn_ca (goodIn_r _ [821, 185, 822, 823, 824, 2, 825, 190, 191, 22, 18, 742, 743, 744, 21, 745, 746, 402, 747, 653, 654, 655, 748, 749, 750, 751, 752, 753, 754, 755, 65, 756, 757, 758, 17, 759, 47, 90, 91, 48, 111, 49, 112, 50, 51, 113, 114, 120, 121, 122, 760, 761, 762, 46, 763, 96, 97, 102, 55, 56, 57, 58, 59, 650, 651, 652, 656, 657, 658, 659, 1475, 1476, 1477, 1478, 1479, 1480, 1481, 1482, 1483, 1484, 1485, 1513, 1514, 1515, 1516, 1517, 1518, 1519, 1520, 1521, 1522, 1523, 1524, 1525, 1526, 1527, 1528, 1529, 1530, 1548, 1549, 1550, 1551, 1552, 1553, 1554, 1555] (by decide +kernel) (by decide +kernel)) (goodIn_sub (fun _ h => List.mem_append_left _ (List.mem_append_left _ (List.mem_append_right _ h))) (by decide +kernel))
set_option maxRecDepth 20000 in
theorem gL_law_L_setLimit : GoodIn wsL_law (va_wsS RL 151 yL_setLimit wsL_setLimit) := goodIn_app (goodIn_of _ (by decide +kernel)) ggL_law_L_setLimit
set_option maxRecDepth 20000 in
theorem ggL_law_X8_setLimit : GoodIn wsL_law wsX8_setLimit := goodIn_r _ [829, 130, 830, 831, 5, 832, 196, 197, 198, 165, 166, 167, 168, 169, 411, 412, 413, 414, 131, 768, 769, 770, 771, 409, 132, 174, 175, 176, 177, 1486, 1487, 1488, 1489, 1490, 1491, 1492, 1493, 1494, 1495, 1496, 1497, 1498, 1499, 1500, 1501, 1502, 1503, 1504, 1505, 1506, 1507, 1508, 1509, 1510, 1511, 1512] (by decide +kernel) (by decide +kernel)
set_option maxRecDepth 20000 in
theorem gL_law_X8_setLimit : GoodIn wsL_law (wsV RL 153 RX8 yX8_setLimit wsX8_setLimit) := goodIn_app (goodIn_of _ (by decide +kernel)) ggL_law_X8_setLimit
set_option maxRecDepth 20000 in
theorem ggL_law_L_save : GoodIn wsL_law wsL_save := goodIn_ca (goodIn_r _ [835, 185, 836, 837, 838, 2, 839, 22, 18, 840, 841, 842, 190, 191, 843, 844, 845, 21, 846, 401, 748, 749, 750, 751, 752, 753, 754, 755, 65, 756, 757, 758, 17, 759, 47, 90, 91, 48, 111, 49, 112, 50, 51, 113, 114, 120, 121, 122, 760, 761, 762, 46, 763, 96, 97, 102, 55, 56, 57, 58, 59, 650, 651, 652, 653, 654, 655, 656, 657, 658, 659, 1475, 1476, 1477, 1478, 1479, 1480, 1481, 1482, 1483, 1484, 1485, 1527, 1528, 1529, 1530, 1513, 1514, 1515, 1516, 1517, 1518, 1519, 1520, 1521, 1522, 1523, 1524, 1525, 1526, 1548, 1549, 1550, 1551, 1552, 1553, 1554, 1555] (by decide +kernel) (by decide +kernel)) (goodIn_sub (fun _ h => List.mem_append_left _ (List.mem_append_left _ (List.mem_append_right _ h))) (by decide +kernel))
set_option maxRecDepth 20000 in
theorem gL_law_L_save : GoodIn wsL_law (va_wsS RL 154 yL_save wsL_save) := goodIn_app (goodIn_of _ (by decide +kernel)) ggL_law_L_save
set_option maxRecDepth 20000 in
theorem ggL_law_X8_save : GoodIn wsL_law wsX8_save := goodIn_r _ [850, 169, 133, 130, 135, 851, 852, 5, 853, 196, 197, 198, 174, 175, 176, 177, 165, 166, 167, 168, 1486, 1487, 1488, 1489, 1490, 1491, 1492, 1493, 1494, 1495, 1496, 1497, 1498, 1499, 1500, 1501, 1502, 1503, 1504, 1505, 1506, 1507, 1508, 1509, 1510, 1511, 1512] (by decide +kernel) (by decide +kernel)
set_option maxRecDepth 20000 in
theorem gL_law_X8_save : GoodIn wsL_law (wsV RL 157 RX8 yX8_save wsX8_save) := goodIn_app (goodIn_of _ (by decide +kernel)) ggL_law_X8_save
set_option maxRecDepth 20000 in
theorem ggL_law_L_restore : GoodIn wsL_law wsL_restore := goodIn_ca (goodIn_ca (goodIn_r _ [856, 185, 857, 858, 859, 860, 2, 861, 862, 863, 22, 18, 840, 841, 842, 190, 191, 864, 865, 866, 21, 867, 401, 742, 743, 744, 745, 746, 402, 747, 653, 654, 655, 748, 749, 750, 751, 752, 753, 754, 755, 65, 756, 757, 758, 17, 759, 47, 90, 91, 48, 111, 49, 112, 50, 51, 113, 114, 120, 121, 122, 760, 761, 762, 46, 763, 96, 97, 102, 55, 56, 57, 58, 59, 650, 651, 652, 656, 657, 658, 659, 868, 869, 870, 871, 872, 873, 874, 875, 1475, 1476, 1477, 1478, 1479, 1480, 1481, 1482, 1483, 1484, 1485, 1513, 1514, 1515, 1516, 1517, 1518, 1519, 1520, 1521, 1522, 1523, 1524, 1525, 1526, 1527, 1528, 1529, 1530, 1548, 1549, 1550, 1551, 1552, 1553, 1554, 1555] (by decide +kernel) (by decide +kernel)) (goodIn_sub (fun _ h => List.mem_append_left _ (List.mem_append_right _ h)) (by decide +kernel))) (goodIn_sub (fun _ h => List.mem_append_left _ (List.mem_append_left _ (List.mem_append_right _ h))) (by decide +kernel))
set_option maxRecDepth 20000 in
theorem gL_law_L_restore : GoodIn wsL_law (va_wsS RL 158 yL_restore wsL_restore) := goodIn_app (goodIn_of _ (by decide +kernel)) ggL_law_L_restore
set_option maxRecDepth 20000 in
theorem ggL_law_X8_restore : GoodIn wsL_law wsX8_restore := goodIn_r _ [879, 135, 130, 133, 851, 852, 5, 853, 196, 197, 198, 165, 166, 167, 168, 169, 411, 412, 413, 414, 131, 768, 769, 770, 771, 409, 132, 174, 175, 176, 177, 1486, 1487, 1488, 1489, 1490, 1491, 1492, 1493, 1494, 1495, 1496, 1497, 1498, 1499, 1500, 1501, 1502, 1503, 1504, 1505, 1506, 1507, 1508, 1509, 1510, 1511, 1512] (by decide +kernel) (by decide +kernel)
set_option maxRecDepth 20000 in
theorem gL_law_X8_restore : GoodIn wsL_law (wsV RL 160 RX8 yX8_restore wsX8_restore) := goodIn_app (goodIn_of _ (by decide +kernel)) ggL_law_X8_restore
set_option maxRecDepth 20000 in
theorem ggL_law_L_undo : GoodIn wsL_law wsL_undo := goodIn_ca (goodIn_r _ [882, 145, 883, 884, 885, 2, 886, 150, 151, 22, 18, 887, 888, 889, 21, 890, 746, 402, 872, 873, 874, 875, 752, 753, 754, 755, 65, 756, 757, 758, 17, 759, 47, 90, 91, 48, 111, 49, 112, 50, 51, 113, 114, 120, 121, 122, 760, 761, 762, 46, 763, 96, 97, 102, 55, 56, 57, 58, 59, 650, 651, 652, 653, 654, 655, 656, 657, 658, 659, 1475, 1476, 1477, 1478, 1479, 1480, 1481, 1482, 1483, 1484, 1485, 1527, 1528, 1529, 1530, 1513, 1514, 1515, 1516, 1517, 1518, 1519, 1520, 1521, 1522, 1523, 1524, 1525, 1526, 1548, 1549, 1550, 1551, 1552, 1553, 1554, 1555] (by decide +kernel) (by decide +kernel)) (goodIn_sub (fun _ h => List.mem_append_left _ (List.mem_append_left _ (List.mem_append_left _ (List.mem_append_right _ h)))) (by decide +kernel))
set_option maxRecDepth 20000 in
theorem gL_law_L_undo : GoodIn wsL_law (va_wsS RL 161 yL_undo wsL_undo) := goodIn_app (goodIn_of _ (by decide +kernel)) ggL_law_L_undo
set_option maxRecDepth 20000 in
theorem ggL_law_X8_undo : GoodIn wsL_law wsX8_undo := goodIn_r _ [894, 409, 130, 132, 165, 166, 167, 5, 168, 169, 174, 175, 176, 177, 1486, 1487, 1488, 1489, 1490, 1491, 1492, 1493, 1494, 1495, 1496, 1497, 1498, 1499, 1500, 1501, 1502, 1503, 1504, 1505, 1506, 1507, 1508, 1509, 1510, 1511, 1512] (by decide +kernel) (by decide +kernel)
set_option maxRecDepth 20000 in
theorem gL_law_X8_undo : GoodIn wsL_law (wsV RL 163 RX8 yX8_undo wsX8_undo) := goodIn_app (goodIn_of _ (by decide +kernel)) ggL_law_X8_undo
set_option maxRecDepth 20000 in
theorem ggL_law_X7_alphabetSize : GoodIn wsL_law wsX7_alphabetSize := goodIn_r _ [898, 18, 1475, 1476, 1477, 1478, 1479, 1480, 1481, 1482, 1483, 1484, 1485, 1513, 1514, 1515, 1516, 1517, 1518, 1519, 1520, 1521, 1522, 1523, 1524, 1525, 1526, 1548, 1549, 1550, 1551, 1552, 1553, 1554, 1555] (by decide +kernel) (by decide +kernel)
set_option maxRecDepth 20000 in
theorem gL_law_X7_alphabetSize : GoodIn wsL_law (wsV RL 164 RX7 yX7_alphabetSize wsX7_alphabetSize) := goodIn_app (goodIn_of _ (by decide +kernel)) ggL_law_X7_alphabetSize
set_option maxRecDepth 20000 in
theorem ggL_law_X8_alphabetSize : GoodIn wsL_law wsX8_alphabetSize := goodIn_r _ [902, 130, 174, 175, 176, 5, 177, 169, 1486, 1487, 1488, 1489, 1490, 1491, 1492, 1493, 1494, 1495, 1496, 1497, 1498, 1499, 1500, 1501, 1502, 1503, 1504, 1505, 1506, 1507, 1508, 1509, 1510, 1511, 1512] (by decide +kernel) (by decide +kernel)
set_option maxRecDepth 20000 in
theorem gL_law_X8_alphabetSize : GoodIn wsL_law (wsV RL 167 RX8 yX8_alphabetSize wsX8_alphabetSize) := goodIn_app (goodIn_of _ (by decide +kernel)) ggL_law_X8_alphabetSize
set_option maxRecDepth 20000 in
theorem ggL_law_X7_greatestWidth : GoodIn wsL_law wsX7_greatestWidth := goodIn_r _ [906, 18, 1475, 1476, 1477, 1478, 1479, 1480, 1481, 1482, 1483, 1484, 1485, 1513, 1514, 1515, 1516, 1517, 1518, 1519, 1520, 1521, 1522, 1523, 1524, 1525, 1526, 1548, 1549, 1550, 1551, 1552, 1553, 1554, 1555] (by decide +kernel) (by decide +kernel)
set_option maxRecDepth 20000 in
theorem gL_law_X7_greatestWidth : GoodIn wsL_law (wsV RL 168 RX7 yX7_greatestWidth wsX7_greatestWidth) := goodIn_app (goodIn_of _ (by decide +kernel)) ggL_law_X7_greatestWidth
set_option maxRecDepth 20000 in
theorem ggL_law_X8_greatestWidth : GoodIn wsL_law wsX8_greatestWidth := goodIn_r _ [910, 130, 174, 175, 176, 5, 177, 169, 1486, 1487, 1488, 1489, 1490, 1491, 1492, 1493, 1494, 1495, 1496, 1497, 1498, 1499, 1500, 1501, 1502, 1503, 1504, 1505, 1506, 1507, 1508, 1509, 1510, 1511, 1512] (by decide +kernel) (by decide +kernel)
set_option maxRecDepth 20000 in
theorem gL_law_X8_greatestWidth : GoodIn wsL_law (wsV RL 171 RX8 yX8_greatestWidth wsX8_greatestWidth) := goodIn_app (goodIn_of _ (by decide +kernel)) ggL_law_X8_greatestWidth
set_option maxRecDepth 20000 in
theorem ggL_law_X7_policy : GoodIn wsL_law wsX7_policy := goodIn_r _ [914, 18, 1475, 1476, 1477, 1478, 1479, 1480, 1481, 1482, 1483, 1484, 1485, 1513, 1514, 1515, 1516, 1517, 1518, 1519, 1520, 1521, 1522, 1523, 1524, 1525, 1526] (by decide +kernel) (by decide +kernel)
set_option maxRecDepth 20000 in
theorem gL_law_X7_policy : GoodIn wsL_law (wsV RL 172 RX7 yX7_policy wsX7_policy) := goodIn_app (goodIn_of _ (by decide +kernel)) ggL_law_X7_policy
set_option maxRecDepth 20000 in
theorem ggL_law_X8_policy : GoodIn wsL_law wsX8_policy := goodIn_r _ [918, 130, 174, 175, 176, 5, 177, 169, 1486, 1487, 1488, 1489, 1490, 1491, 1492, 1493, 1494, 1495, 1496, 1497, 1498, 1499, 1500, 1501, 1502, 1503, 1504, 1505, 1506, 1507, 1508, 1509, 1510, 1511, 1512] (by decide +kernel) (by decide +kernel)
set_option maxRecDepth 20000 in
theorem gL_law_X8_policy : GoodIn wsL_law (wsV RL 175 RX8 yX8_policy wsX8_policy) := goodIn_app (goodIn_of _ (by decide +kernel)) ggL_law_X8_policy
set_option maxRecDepth 20000 in
theorem ggL_law_X7_limit : GoodIn wsL_law wsX7_limit := goodIn_r _ [922, 18, 1475, 1476, 1477, 1478, 1479, 1480, 1481, 1482, 1483, 1484, 1485, 1513, 1514, 1515, 1516, 1517, 1518, 1519, 1520, 1521, 1522, 1523, 1524, 1525, 1526] (by decide +kernel) (by decide +kernel)
set_option maxRecDepth 20000 in
theorem gL_law_X7_limit : GoodIn wsL_law (wsV RL 176 RX7 yX7_limit wsX7_limit) := goodIn_app (goodIn_of _ (by decide +kernel)) ggL_law_X7_limit
set_option maxRecDepth 20000 in
theorem ggL_law_X8_limit : GoodIn wsL_law wsX8_limit := goodIn_r _ [926, 130, 174, 175, 176, 5, 177, 169, 1486, 1487, 1488, 1489, 1490, 1491, 1492, 1493, 1494, 1495, 1496, 1497, 1498, 1499, 1500, 1501, 1502, 1503, 1504, 1505, 1506, 1507, 1508, 1509, 1510, 1511, 1512] (by decide +kernel) (by decide +kernel)
set_option maxRecDepth 20000 in
theorem gL_law_X8_limit : GoodIn wsL_law (wsV RL 179 RX8 yX8_limit wsX8_limit) := goodIn_app (goodIn_of _ (by decide +kernel)) ggL_law_X8_limit
set_option maxRecDepth 20000 in
theorem ggL_law_X7_plainWidth : GoodIn wsL_law wsX7_plainWidth := goodIn_r _ [930, 18, 931, 373, 374, 46, 375, 96, 362, 2, 363, 1475, 1476, 1477, 1478, 1479, 1480, 1481, 1482, 1483, 1484, 1485, 1513, 1514, 1515, 1516, 1517, 1518, 1519, 1520, 1521, 1522, 1523, 1524, 1525, 1526, 1548, 1549, 1550, 1551, 1552, 1553, 1554, 1555] (by decide +kernel) (by decide +kernel)
set_option maxRecDepth 20000 in
theorem gL_law_X7_plainWidth : GoodIn wsL_law (wsV RL 180 RX7 yX7_plainWidth wsX7_plainWidth) := goodIn_app (goodIn_of _ (by decide +kernel)) ggL_law_X7_plainWidth
set_option maxRecDepth 20000 in
theorem ggL_law_X8_plainWidth : GoodIn wsL_law wsX8_plainWidth := goodIn_r _ [935, 585, 586, 587, 5, 588, 130, 534, 535, 536, 174, 175, 176, 177, 169, 1486, 1487, 1488, 1489, 1490, 1491, 1492, 1493, 1494, 1495, 1496, 1497, 1498, 1499, 1500, 1501, 1502, 1503, 1504, 1505, 1506, 1507, 1508, 1509, 1510, 1511, 1512] (by decide +kernel) (by decide +kernel)
set_option maxRecDepth 20000 in
theorem gL_law_X8_plainWidth : GoodIn wsL_law (wsV RL 183 RX8 yX8_plainWidth wsX8_plainWidth) := goodIn_app (goodIn_of _ (by decide +kernel)) ggL_law_X8_plainWidth
set_option maxRecDepth 20000 in
theorem ggL_law_X7_clearCode : GoodIn wsL_law wsX7_clearCode := goodIn_r _ [939, 18, 1475, 1476, 1477, 1478, 1479, 1480, 1481, 1482, 1483, 1484, 1485, 1513, 1514, 1515, 1516, 1517, 1518, 1519, 1520, 1521, 1522, 1523, 1524, 1525, 1526, 1548, 1549, 1550, 1551, 1552, 1553, 1554, 1555] (by decide +kernel) (by decide +kernel)
set_option maxRecDepth 20000 in
theorem gL_law_X7_clearCode : GoodIn wsL_law (wsV RL 184 RX7 yX7_clearCode wsX7_clearCode) := goodIn_app (goodIn_of _ (by decide +kernel)) ggL_law_X7_clearCode
set_option maxRecDepth 20000 in
theorem ggL_law_X8_clearCode : GoodIn wsL_law wsX8_clearCode := goodIn_r _ [943, 522, 523, 524, 5, 525, 130, 174, 175, 176, 177, 169, 1486, 1487, 1488, 1489, 1490, 1491, 1492, 1493, 1494, 1495, 1496, 1497, 1498, 1499, 1500, 1501, 1502, 1503, 1504, 1505, 1506, 1507, 1508, 1509, 1510, 1511, 1512] (by decide +kernel) (by decide +kernel)
set_option maxRecDepth 20000 in
theorem gL_law_X8_clearCode : GoodIn wsL_law (wsV RL 187 RX8 yX8_clearCode wsX8_clearCode) := goodIn_app (goodIn_of _ (by decide +kernel)) ggL_law_X8_clearCode
set_option maxRecDepth 20000 in
theorem ggL_law_X7_codeCount : GoodIn wsL_law wsX7_codeCount := goodIn_r _ [947, 18, 1475, 1476, 1477, 1478, 1479, 1480, 1481, 1482, 1483, 1484, 1485, 1513, 1514, 1515, 1516, 1517, 1518, 1519, 1520, 1521, 1522, 1523, 1524, 1525, 1526, 1548, 1549, 1550, 1551, 1552, 1553, 1554, 1555] (by decide +kernel) (by decide +kernel)
set_option maxRecDepth 20000 in
theorem gL_law_X7_codeCount : GoodIn wsL_law (wsV RL 188 RX7 yX7_codeCount wsX7_codeCount) := goodIn_app (goodIn_of _ (by decide +kernel)) ggL_law_X7_codeCount
set_option maxRecDepth 20000 in
theorem ggL_law_X8_codeCount : GoodIn wsL_law wsX8_codeCount := goodIn_r _ [951, 130, 174, 175, 176, 5, 177, 169, 1486, 1487, 1488, 1489, 1490, 1491, 1492, 1493, 1494, 1495, 1496, 1497, 1498, 1499, 1500, 1501, 1502, 1503, 1504, 1505, 1506, 1507, 1508, 1509, 1510, 1511, 1512] (by decide +kernel) (by decide +kernel)
set_option maxRecDepth 20000 in
theorem gL_law_X8_codeCount : GoodIn wsL_law (wsV RL 191 RX8 yX8_codeCount wsX8_codeCount) := goodIn_app (goodIn_of _ (by decide +kernel)) ggL_law_X8_codeCount
set_option maxRecDepth 20000 in
theorem ggL_law_X7_capacity : GoodIn wsL_law wsX7_capacity := goodIn_r _ [955, 18, 956, 355, 356, 46, 357, 97, 1475, 1476, 1477, 1478, 1479, 1480, 1481, 1482, 1483, 1484, 1485, 1513, 1514, 1515, 1516, 1517, 1518, 1519, 1520, 1521, 1522, 1523, 1524, 1525, 1526, 1548, 1549, 1550, 1551, 1552, 1553, 1554, 1555] (by decide +kernel) (by decide +kernel)
set_option maxRecDepth 20000 in
theorem gL_law_X7_capacity : GoodIn wsL_law (wsV RL 192 RX7 yX7_capacity wsX7_capacity) := goodIn_app (goodIn_of _ (by decide +kernel)) ggL_law_X7_capacity
set_option maxRecDepth 20000 in
theorem ggL_law_X8_capacity : GoodIn wsL_law wsX8_capacity := goodIn_r _ [960, 553, 554, 555, 5, 556, 130, 174, 175, 176, 177, 169, 1486, 1487, 1488, 1489, 1490, 1491, 1492, 1493, 1494, 1495, 1496, 1497, 1498, 1499, 1500, 1501, 1502, 1503, 1504, 1505, 1506, 1507, 1508, 1509, 1510, 1511, 1512] (by decide +kernel) (by decide +kernel)
set_option maxRecDepth 20000 in
theorem gL_law_X8_capacity : GoodIn wsL_law (wsV RL 195 RX8 yX8_capacity wsX8_capacity) := goodIn_app (goodIn_of _ (by decide +kernel)) ggL_law_X8_capacity
set_option maxRecDepth 20000 in
theorem ggL_law_X7_isFull : GoodIn wsL_law wsX7_isFull := goodIn_r _ [964, 18, 965, 351, 352, 46, 353, 102, 354, 355, 356, 357, 97, 1475, 1476, 1477, 1478, 1479, 1480, 1481, 1482, 1483, 1484, 1485, 1513, 1514, 1515, 1516, 1517, 1518, 1519, 1520, 1521, 1522, 1523, 1524, 1525, 1526, 1548, 1549, 1550, 1551, 1552, 1553, 1554, 1555] (by decide +kernel) (by decide +kernel)
set_option maxRecDepth 20000 in
theorem gL_law_X7_isFull : GoodIn wsL_law (wsV RL 196 RX7 yX7_isFull wsX7_isFull) := goodIn_app (goodIn_of _ (by decide +kernel)) ggL_law_X7_isFull
set_option maxRecDepth 20000 in
theorem ggL_law_X8_isFull : GoodIn wsL_law wsX8_isFull := goodIn_r _ [969, 549, 550, 551, 5, 552, 130, 553, 554, 555, 556, 970, 971, 972, 973, 169, 1486, 1487, 1488, 1489, 1490, 1491, 1492, 1493, 1494, 1495, 1496, 1497, 1498, 1499, 1500, 1501, 1502, 1503, 1504, 1505, 1506, 1507, 1508, 1509, 1510, 1511, 1512] (by decide +kernel) (by decide +kernel)
set_option maxRecDepth 20000 in
theorem gL_law_X8_isFull : GoodIn wsL_law (wsV RL 200 RX8 yX8_isFull wsX8_isFull) := goodIn_app (goodIn_of _ (by decide +kernel)) ggL_law_X8_isFull
set_option maxRecDepth 20000 in
theorem ggL_law_X7_codeWidth : GoodIn wsL_law wsX7_codeWidth := goodIn_r _ [977, 18, 978, 359, 360, 46, 361, 102, 362, 2, 363, 1475, 1476, 1477, 1478, 1479, 1480, 1481, 1482, 1483, 1484, 1485, 1513, 1514, 1515, 1516, 1517, 1518, 1519, 1520, 1521, 1522, 1523, 1524, 1525, 1526, 1548, 1549, 1550, 1551, 1552, 1553, 1554, 1555] (by decide +kernel) (by decide +kernel)
set_option maxRecDepth 20000 in
theorem gL_law_X7_codeWidth : GoodIn wsL_law (wsV RL 201 RX7 yX7_codeWidth wsX7_codeWidth) := goodIn_app (goodIn_of _ (by decide +kernel)) ggL_law_X7_codeWidth
set_option maxRecDepth 20000 in
theorem ggL_law_X8_codeWidth : GoodIn wsL_law wsX8_codeWidth := goodIn_r _ [982, 130, 534, 535, 5, 536, 174, 175, 176, 177, 169, 1486, 1487, 1488, 1489, 1490, 1491, 1492, 1493, 1494, 1495, 1496, 1497, 1498, 1499, 1500, 1501, 1502, 1503, 1504, 1505, 1506, 1507, 1508, 1509, 1510, 1511, 1512] (by decide +kernel) (by decide +kernel)
set_option maxRecDepth 20000 in
theorem gL_law_X8_codeWidth : GoodIn wsL_law (wsV RL 204 RX8 yX8_codeWidth wsX8_codeWidth) := goodIn_app (goodIn_of _ (by decide +kernel)) ggL_law_X8_codeWidth
set_option maxRecDepth 20000 in
theorem ggL_law_L_phraseLength : GoodIn wsL_law wsL_phraseLength := goodIn_ca (goodIn_r _ [985, 986, 987, 988, 989, 2, 990, 18, 991, 992, 993, 994, 995, 996, 997, 998, 999, 1000, 365, 366, 46, 367, 57, 229, 230, 1475, 1476, 1477, 1478, 1479, 1480, 1481, 1482, 1483, 1484, 1485, 1513, 1514, 1515, 1516, 1517, 1518, 1519, 1520, 1521, 1522, 1523, 1524, 1525, 1526, 1548, 1549, 1550, 1551, 1552, 1553, 1554, 1555] (by decide +kernel) (by decide +kernel)) (goodIn_sub (fun _ h => List.mem_append_right _ h) (by decide +kernel))
set_option maxRecDepth 20000 in
theorem gL_law_L_phraseLength : GoodIn wsL_law (va_wsS RL 205 yL_phraseLength wsL_phraseLength) := goodIn_app (goodIn_of _ (by decide +kernel)) ggL_law_L_phraseLength
set_option maxRecDepth 20000 in
theorem ggL_law_X8_phraseLength : GoodIn wsL_law wsX8_phraseLength := goodIn_r _ [1004, 1005, 1006, 1007, 5, 1008, 130, 196, 197, 198, 165, 166, 167, 168, 169, 537, 538, 539, 540, 522, 523, 524, 525, 541, 542, 543, 544, 174, 175, 176, 177, 1486, 1487, 1488, 1489, 1490, 1491, 1492, 1493, 1494, 1495, 1496, 1497, 1498, 1499, 1500, 1501, 1502, 1503, 1504, 1505, 1506, 1507, 1508, 1509, 1510, 1511, 1512] (by decide +kernel) (by decide +kernel)
set_option maxRecDepth 20000 in
theorem gL_law_X8_phraseLength : GoodIn wsL_law (wsV RL 207 RX8 yX8_phraseLength wsX8_phraseLength) := goodIn_app (goodIn_of _ (by decide +kernel)) ggL_law_X8_phraseLength
set_option maxRecDepth 20000 in
theorem ggL_law_L_phraseSymbol : GoodIn wsL_law wsL_phraseSymbol := goodIn_ca (goodIn_r _ [1011, 986, 1012, 1013, 1014, 2, 1015, 18, 991, 992, 993, 994, 995, 996, 997, 998, 999, 1000, 365, 366, 46, 367, 57, 229, 230, 1016, 635, 636, 637, 55, 56, 396, 1475, 1476, 1477, 1478, 1479, 1480, 1481, 1482, 1483, 1484, 1485, 1513, 1514, 1515, 1516, 1517, 1518, 1519, 1520, 1521, 1522, 1523, 1524, 1525, 1526, 1548, 1549, 1550, 1551, 1552, 1553, 1554, 1555] (by decide +kernel) (by decide +kernel)) (goodIn_sub (fun _ h => List.mem_append_right _ h) (by decide +kernel))
set_option maxRecDepth 20000 in
theorem gL_law_L_phraseSymbol : GoodIn wsL_law (va_wsS RL 208 yL_phraseSymbol wsL_phraseSymbol) := goodIn_app (goodIn_of _ (by decide +kernel)) ggL_law_L_phraseSymbol
set_option maxRecDepth 20000 in
theorem ggL_law_X8_phraseSymbol : GoodIn wsL_law wsX8_phraseSymbol := goodIn_r _ [1020, 1005, 1006, 1007, 5, 1008, 130, 196, 197, 198, 165, 166, 167, 168, 169, 537, 538, 539, 540, 522, 523, 524, 525, 541, 542, 543, 544, 1021, 1022, 1023, 1024, 174, 175, 176, 177, 1486, 1487, 1488, 1489, 1490, 1491, 1492, 1493, 1494, 1495, 1496, 1497, 1498, 1499, 1500, 1501, 1502, 1503, 1504, 1505, 1506, 1507, 1508, 1509, 1510, 1511, 1512] (by decide +kernel) (by decide +kernel)
set_option maxRecDepth 20000 in
theorem gL_law_X8_phraseSymbol : GoodIn wsL_law (wsV RL 211 RX8 yX8_phraseSymbol wsX8_phraseSymbol) := goodIn_app (goodIn_of _ (by decide +kernel)) ggL_law_X8_phraseSymbol
set_option maxRecDepth 20000 in
theorem ggL_law_L_prefixOf : GoodIn wsL_law wsL_prefixOf := goodIn_ca (goodIn_ca (goodIn_r _ [1027, 986, 857, 1028, 1029, 1030, 2, 1031, 862, 863, 18, 991, 992, 993, 994, 995, 996, 997, 998, 999, 1000, 365, 366, 46, 367, 57, 229, 230, 333, 1475, 1476, 1477, 1478, 1479, 1480, 1481, 1482, 1483, 1484, 1485, 1513, 1514, 1515, 1516, 1517, 1518, 1519, 1520, 1521, 1522, 1523, 1524, 1525, 1526, 1548, 1549, 1550, 1551, 1552, 1553, 1554, 1555] (by decide +kernel) (by decide +kernel)) (goodIn_sub (fun _ h => List.mem_append_left _ (List.mem_append_right _ h)) (by decide +kernel))) (goodIn_sub (fun _ h => List.mem_append_right _ h) (by decide +kernel))
set_option maxRecDepth 20000 in
theorem gL_law_L_prefixOf : GoodIn wsL_law (va_wsS RL 212 yL_prefixOf wsL_prefixOf) := goodIn_app (goodIn_of _ (by decide +kernel)) ggL_law_L_prefixOf
set_option maxRecDepth 20000 in
theorem ggL_law_X8_prefixOf : GoodIn wsL_law wsX8_prefixOf := goodIn_r _ [1035, 130, 1005, 1006, 1007, 5, 1008, 196, 197, 198, 165, 166, 167, 168, 169, 541, 542, 543, 544, 522, 523, 524, 525, 174, 175, 176, 177, 1486, 1487, 1488, 1489, 1490, 1491, 1492, 1493, 1494, 1495, 1496, 1497, 1498, 1499, 1500, 1501, 1502, 1503, 1504, 1505, 1506, 1507, 1508, 1509, 1510, 1511, 1512] (by decide +kernel) (by decide +kernel)
set_option maxRecDepth 20000 in
theorem gL_law_X8_prefixOf : GoodIn wsL_law (wsV RL 214 RX8 yX8_prefixOf wsX8_prefixOf) := goodIn_app (goodIn_of _ (by decide +kernel)) ggL_law_X8_prefixOf
set_option maxRecDepth 20000 in
theorem ggL_law_L_extensionOf : GoodIn wsL_law wsL_extensionOf := goodIn_ca (goodIn_ca (goodIn_ca (goodIn_r _ [1038, 986, 185, 857, 1039, 1040, 1041, 2, 1042, 190, 191, 862, 863, 18, 991, 992, 993, 994, 995, 996, 997, 998, 999, 734, 735, 736, 737, 738, 739, 740, 741, 1043, 343, 344, 46, 345, 58, 96, 56, 59, 229, 230, 1475, 1476, 1477, 1478, 1479, 1480, 1481, 1482, 1483, 1484, 1485, 1513, 1514, 1515, 1516, 1517, 1518, 1519, 1520, 1521, 1522, 1523, 1524, 1525, 1526, 1548, 1549, 1550, 1551, 1552, 1553, 1554, 1555] (by decide +kernel) (by decide +kernel)) (goodIn_sub (fun _ h => List.mem_append_left _ (List.mem_append_left _ (List.mem_append_right _ h))) (by decide +kernel))) (goodIn_sub (fun _ h => List.mem_append_left _ (List.mem_append_right _ h)) (by decide +kernel))) (goodIn_sub (fun _ h => List.mem_append_right _ h) (by decide +kernel))
set_option maxRecDepth 20000 in
theorem gL_law_L_extensionOf : GoodIn wsL_law (va_wsS RL 215 yL_extensionOf wsL_extensionOf) := goodIn_app (goodIn_of _ (by decide +kernel)) ggL_law_L_extensionOf
set_option maxRecDepth 20000 in
theorem ggL_law_X8_extensionOf : GoodIn wsL_law wsX8_extensionOf := goodIn_r _ [1047, 1005, 1006, 1007, 5, 1008, 130, 196, 197, 198, 165, 166, 167, 168, 169, 506, 507, 508, 509, 522, 523, 524, 525, 518, 519, 520, 521, 174, 175, 176, 177, 1486, 1487, 1488, 1489, 1490, 1491, 1492, 1493, 1494, 1495, 1496, 1497, 1498, 1499, 1500, 1501, 1502, 1503, 1504, 1505, 1506, 1507, 1508, 1509, 1510, 1511, 1512] (by decide +kernel) (by decide +kernel)
set_option maxRecDepth 20000 in
theorem gL_law_X8_extensionOf : GoodIn wsL_law (wsV RL 217 RX8 yX8_extensionOf wsX8_extensionOf) := goodIn_app (goodIn_of _ (by decide +kernel)) ggL_law_X8_extensionOf
set_option maxRecDepth 20000 in
theorem ggL_law_L_extensionCount : GoodIn wsL_law wsL_extensionCount := goodIn_ca (goodIn_r _ [1050, 986, 1051, 1052, 1053, 2, 1054, 18, 991, 992, 993, 994, 995, 996, 997, 998, 999, 1055, 1056, 1057, 46, 1058, 58, 96, 59, 229, 230, 1475, 1476, 1477, 1478, 1479, 1480, 1481, 1482, 1483, 1484, 1485, 1513, 1514, 1515, 1516, 1517, 1518, 1519, 1520, 1521, 1522, 1523, 1524, 1525, 1526, 1548, 1549, 1550, 1551, 1552, 1553, 1554, 1555] (by decide +kernel) (by decide +kernel)) (goodIn_sub (fun _ h => List.mem_append_right _ h) (by decide +kernel))
set_option maxRecDepth 20000 in
theorem gL_law_L_extensionCount : GoodIn wsL_law (va_wsS RL 218 yL_extensionCount wsL_extensionCount) := goodIn_app (goodIn_of _ (by decide +kernel)) ggL_law_L_extensionCount
set_option maxRecDepth 20000 in
theorem ggL_law_X8_extensionCount : GoodIn wsL_law wsX8_extensionCount := goodIn_r _ [1062, 130, 1005, 1006, 1007, 5, 1008, 196, 197, 198, 165, 166, 167, 168, 169, 522, 523, 524, 525, 174, 175, 176, 177, 1486, 1487, 1488, 1489, 1490, 1491, 1492, 1493, 1494, 1495, 1496, 1497, 1498, 1499, 1500, 1501, 1502, 1503, 1504, 1505, 1506, 1507, 1508, 1509, 1510, 1511, 1512] (by decide +kernel) (by decide +kernel)
set_option maxRecDepth 20000 in
theorem gL_law_X8_extensionCount : GoodIn wsL_law (wsV RL 220 RX8 yX8_extensionCount wsX8_extensionCount) := goodIn_app (goodIn_of _ (by decide +kernel)) ggL_law_X8_extensionCount
set_option maxRecDepth 20000 in
theorem ggL_law_X7_longestPhrase : GoodIn wsL_law wsX7_longestPhrase := goodIn_r _ [1066, 18, 1067, 1068, 1069, 46, 1070, 102, 396, 365, 366, 367, 57, 229, 2, 230, 1475, 1476, 1477, 1478, 1479, 1480, 1481, 1482, 1483, 1484, 1485, 1513, 1514, 1515, 1516, 1517, 1518, 1519, 1520, 1521, 1522, 1523, 1524, 1525, 1526, 1548, 1549, 1550, 1551, 1552, 1553, 1554, 1555] (by decide +kernel) (by decide +kernel)
set_option maxRecDepth 20000 in
theorem gL_law_X7_longestPhrase : GoodIn wsL_law (wsV RL 221 RX7 yX7_longestPhrase wsX7_longestPhrase) := goodIn_app (goodIn_of _ (by decide +kernel)) ggL_law_X7_longestPhrase
set_option maxRecDepth 20000 in
theorem ggL_law_X8_longestPhrase : GoodIn wsL_law wsX8_longestPhrase := goodIn_r _ [1074, 130, 537, 538, 539, 5, 540, 522, 523, 524, 525, 541, 542, 543, 544, 174, 175, 176, 177, 169, 1486, 1487, 1488, 1489, 1490, 1491, 1492, 1493, 1494, 1495, 1496, 1497, 1498, 1499, 1500, 1501, 1502, 1503, 1504, 1505, 1506, 1507, 1508, 1509, 1510, 1511, 1512] (by decide +kernel) (by decide +kernel)
set_option maxRecDepth 20000 in
theorem gL_law_X8_longestPhrase : GoodIn wsL_law (wsV RL 224 RX8 yX8_longestPhrase wsX8_longestPhrase) := goodIn_app (goodIn_of _ (by decide +kernel)) ggL_law_X8_longestPhrase
set_option maxRecDepth 20000 in
theorem ggL_law_L_usesOf : GoodIn wsL_law wsL_usesOf := goodIn_ca (goodIn_r _ [1077, 986, 1078, 1079, 1080, 2, 1081, 18, 991, 992, 993, 994, 995, 996, 997, 998, 999, 1082, 1083, 1084, 17, 1085, 112, 50, 229, 230, 1475, 1476, 1477, 1478, 1479, 1480, 1481, 1482, 1483, 1484, 1485, 1513, 1514, 1515, 1516, 1517, 1518, 1519, 1520, 1521, 1522, 1523, 1524, 1525, 1526, 1548, 1549, 1550, 1551, 1552, 1553, 1554, 1555] (by decide +kernel) (by decide +kernel)) (goodIn_sub (fun _ h => List.mem_append_right _ h) (by decide +kernel))
set_option maxRecDepth 20000 in
theorem gL_law_L_usesOf : GoodIn wsL_law (va_wsS RL 225 yL_usesOf wsL_usesOf) := goodIn_app (goodIn_of _ (by decide +kernel)) ggL_law_L_usesOf
set_option maxRecDepth 20000 in
theorem ggL_law_X8_usesOf : GoodIn wsL_law wsX8_usesOf := goodIn_r _ [1089, 130, 1005, 1006, 1007, 5, 1008, 196, 197, 198, 165, 166, 167, 168, 169, 577, 578, 579, 580, 174, 175, 176, 177, 1486, 1487, 1488, 1489, 1490, 1491, 1492, 1493, 1494, 1495, 1496, 1497, 1498, 1499, 1500, 1501, 1502, 1503, 1504, 1505, 1506, 1507, 1508, 1509, 1510, 1511, 1512] (by decide +kernel) (by decide +kernel)
set_option maxRecDepth 20000 in
theorem gL_law_X8_usesOf : GoodIn wsL_law (wsV RL 227 RX8 yX8_usesOf wsX8_usesOf) := goodIn_app (goodIn_of _ (by decide +kernel)) ggL_law_X8_usesOf
set_option maxRecDepth 20000 in
theorem ggL_law_L_findTape : GoodIn wsL_law wsL_findTape := goodIn_ca (goodIn_r _ [1092, 857, 1093, 1094, 1095, 2, 1096, 862, 863, 1097, 1098, 1099, 1100, 152, 14, 18, 333, 229, 230, 738, 739, 740, 741, 1043, 343, 344, 46, 345, 58, 96, 56, 59, 1475, 1476, 1477, 1478, 1479, 1480, 1481, 1482, 1483, 1484, 1485, 1513, 1514, 1515, 1516, 1517, 1518, 1519, 1520, 1521, 1522, 1523, 1524, 1525, 1526, 1548, 1549, 1550, 1551, 1552, 1553, 1554, 1555] (by decide +kernel) (by decide +kernel)) (goodIn_sub (fun _ h => List.mem_append_left _ (List.mem_append_right _ h)) (by decide +kernel))
set_option maxRecDepth 20000 in
theorem gL_law_L_findTape : GoodIn wsL_law (va_wsS RL 228 yL_findTape wsL_findTape) := goodIn_app (goodIn_of _ (by decide +kernel)) ggL_law_L_findTape
set_option maxRecDepth 20000 in
theorem ggL_law_X8_findTape : GoodIn wsL_law wsX8_findTape := goodIn_r _ [1104, 1105, 1106, 1107, 5, 1108, 164, 128, 498, 499, 500, 501, 502, 503, 504, 505, 506, 507, 508, 509, 130, 196, 197, 198, 518, 519, 520, 521, 522, 523, 524, 525, 165, 166, 167, 168, 169, 174, 175, 176, 177, 1486, 1487, 1488, 1489, 1490, 1491, 1492, 1493, 1494, 1495, 1496, 1497, 1498, 1499, 1500, 1501, 1502, 1503, 1504, 1505, 1506, 1507, 1508, 1509, 1510, 1511, 1512] (by decide +kernel) (by decide +kernel)
set_option maxRecDepth 20000 in
theorem gL_law_X8_findTape : GoodIn wsL_law (wsV RL 230 RX8 yX8_findTape wsX8_findTape) := goodIn_app (goodIn_of _ (by decide +kernel)) ggL_law_X8_findTape
set_option maxRecDepth 20000 in
theorem ggL_law_X7_hasPhrase : GoodIn wsL_law wsX7_hasPhrase := goodIn_r _ [1112, 18, 1475, 1476, 1477, 1478, 1479, 1480, 1481, 1482, 1483, 1484, 1485, 1513, 1514, 1515, 1516, 1517, 1518, 1519, 1520, 1521, 1522, 1523, 1524, 1525, 1526] (by decide +kernel) (by decide +kernel)
set_option maxRecDepth 20000 in
theorem gL_law_X7_hasPhrase : GoodIn wsL_law (wsV RL 231 RX7 yX7_hasPhrase wsX7_hasPhrase) := goodIn_app (goodIn_of _ (by decide +kernel)) ggL_law_X7_hasPhrase
set_option maxRecDepth 20000 in
theorem ggL_law_X8_hasPhrase : GoodIn wsL_law wsX8_hasPhrase := goodIn_r _ [1116, 130, 970, 971, 972, 5, 973, 169, 1486, 1487, 1488, 1489, 1490, 1491, 1492, 1493, 1494, 1495, 1496, 1497, 1498, 1499, 1500, 1501, 1502, 1503, 1504, 1505, 1506, 1507, 1508, 1509, 1510, 1511, 1512] (by decide +kernel) (by decide +kernel)
set_option maxRecDepth 20000 in
theorem gL_law_X8_hasPhrase : GoodIn wsL_law (wsV RL 234 RX8 yX8_hasPhrase wsX8_hasPhrase) := goodIn_app (goodIn_of _ (by decide +kernel)) ggL_law_X8_hasPhrase
set_option maxRecDepth 20000 in
theorem ggL_law_L_currentPhrase : GoodIn wsL_law wsL_currentPhrase := goodIn_ca (goodIn_r _ [1119, 857, 1120, 1121, 1122, 2, 1123, 862, 863, 18, 1475, 1476, 1477, 1478, 1479, 1480, 1481, 1482, 1483, 1484, 1485, 1513, 1514, 1515, 1516, 1517, 1518, 1519, 1520, 1521, 1522, 1523, 1524, 1525, 1526] (by decide +kernel) (by decide +kernel)) (goodIn_sub (fun _ h => List.mem_append_left _ (List.mem_append_right _ h)) (by decide +kernel))
set_option maxRecDepth 20000 in
theorem gL_law_L_currentPhrase : GoodIn wsL_law (va_wsS RL 235 yL_currentPhrase wsL_currentPhrase) := goodIn_app (goodIn_of _ (by decide +kernel)) ggL_law_L_currentPhrase
set_option maxRecDepth 20000 in
theorem ggL_law_X8_currentPhrase : GoodIn wsL_law wsX8_currentPhrase := goodIn_r _ [1127, 130, 165, 166, 167, 5, 168, 169, 174, 175, 176, 177, 1486, 1487, 1488, 1489, 1490, 1491, 1492, 1493, 1494, 1495, 1496, 1497, 1498, 1499, 1500, 1501, 1502, 1503, 1504, 1505, 1506, 1507, 1508, 1509, 1510, 1511, 1512] (by decide +kernel) (by decide +kernel)
set_option maxRecDepth 20000 in
theorem gL_law_X8_currentPhrase : GoodIn wsL_law (wsV RL 237 RX8 yX8_currentPhrase wsX8_currentPhrase) := goodIn_app (goodIn_of _ (by decide +kernel)) ggL_law_X8_currentPhrase
set_option maxRecDepth 20000 in
theorem ggL_law_L_codesIfEncoded : GoodIn wsL_law wsL_codesIfEncoded := goodIn_ca (goodIn_r _ [1130, 185, 1131, 1132, 1133, 2, 1134, 18, 734, 735, 736, 737, 190, 191, 738, 739, 740, 741, 1135, 339, 340, 17, 341, 48, 47, 342, 343, 344, 46, 345, 58, 96, 56, 59, 229, 230, 346, 347, 348, 349, 90, 122, 121, 91, 350, 351, 352, 353, 102, 354, 355, 356, 357, 97, 358, 359, 360, 361, 362, 363, 364, 365, 366, 367, 57, 368, 369, 370, 371, 372, 373, 374, 375, 1475, 1476, 1477, 1478, 1479, 1480, 1481, 1482, 1483, 1484, 1485, 1513, 1514, 1515, 1516, 1517, 1518, 1519, 1520, 1521, 1522, 1523, 1524, 1525, 1526, 1548, 1549, 1550, 1551, 1552, 1553, 1554, 1555] (by decide +kernel) (by decide +kernel)) (goodIn_sub (fun _ h => List.mem_append_left _ (List.mem_append_left _ (List.mem_append_right _ h))) (by decide +kernel))
set_option maxRecDepth 20000 in
theorem gL_law_L_codesIfEncoded : GoodIn wsL_law (va_wsS RL 238 yL_codesIfEncoded wsL_codesIfEncoded) := goodIn_app (goodIn_of _ (by decide +kernel)) ggL_law_L_codesIfEncoded
set_option maxRecDepth 20000 in
theorem ggL_law_X8_codesIfEncoded : GoodIn wsL_law wsX8_codesIfEncoded := goodIn_r _ [1139, 506, 507, 508, 5, 509, 130, 196, 197, 198, 165, 166, 167, 168, 169, 1140, 1141, 1142, 1143, 1144, 1145, 1146, 1147, 518, 519, 520, 521, 522, 523, 524, 525, 1148, 1149, 1150, 1151, 1152, 1153, 1154, 1155, 549, 550, 551, 552, 553, 554, 555, 556, 561, 562, 563, 564, 565, 566, 567, 568, 569, 570, 571, 572, 534, 535, 536, 573, 574, 575, 576, 577, 578, 579, 580, 537, 538, 539, 540, 541, 542, 543, 544, 581, 582, 583, 584, 585, 586, 587, 588, 174, 175, 176, 177, 1486, 1487, 1488, 1489, 1490, 1491, 1492, 1493, 1494, 1495, 1496, 1497, 1498, 1499, 1500, 1501, 1502, 1503, 1504, 1505, 1506, 1507, 1508, 1509, 1510, 1511, 1512] (by decide +kernel) (by decide +kernel)
set_option maxRecDepth 20000 in
theorem gL_law_X8_codesIfEncoded : GoodIn wsL_law (wsV RL 240 RX8 yX8_codesIfEncoded wsX8_codesIfEncoded) := goodIn_app (goodIn_of _ (by decide +kernel)) ggL_law_X8_codesIfEncoded
set_option maxRecDepth 20000 in
theorem ggL_law_L_clearsIfEncoded : GoodIn wsL_law wsL_clearsIfEncoded := goodIn_ca (goodIn_r _ [1158, 185, 1159, 1160, 1161, 2, 1162, 18, 734, 735, 736, 737, 190, 191, 738, 739, 740, 741, 1135, 339, 340, 17, 341, 48, 47, 342, 343, 344, 46, 345, 58, 96, 56, 59, 229, 230, 346, 347, 348, 349, 90, 122, 121, 91, 350, 351, 352, 353, 102, 354, 355, 356, 357, 97, 358, 359, 360, 361, 362, 363, 364, 365, 366, 367, 57, 368, 369, 370, 371, 372, 373, 374, 375, 1475, 1476, 1477, 1478, 1479, 1480, 1481, 1482, 1483, 1484, 1485, 1513, 1514, 1515, 1516, 1517, 1518, 1519, 1520, 1521, 1522, 1523, 1524, 1525, 1526, 1548, 1549, 1550, 1551, 1552, 1553, 1554, 1555] (by decide +kernel) (by decide +kernel)) (goodIn_sub (fun _ h => List.mem_append_left _ (List.mem_append_left _ (List.mem_append_right _ h))) (by decide +kernel))
set_option maxRecDepth 20000 in
theorem gL_law_L_clearsIfEncoded : GoodIn wsL_law (va_wsS RL 241 yL_clearsIfEncoded wsL_clearsIfEncoded) := goodIn_app (goodIn_of _ (by decide +kernel)) ggL_law_L_clearsIfEncoded
set_option maxRecDepth 20000 in
theorem ggL_law_X8_clearsIfEncoded : GoodIn wsL_law wsX8_clearsIfEncoded := goodIn_r _ [1166, 506, 507, 508, 5, 509, 130, 196, 197, 198, 165, 166, 167, 168, 169, 1148, 1149, 1150, 1151, 1144, 1145, 1146, 1147, 518, 519, 520, 521, 522, 523, 524, 525, 1152, 1153, 1154, 1155, 549, 550, 551, 552, 553, 554, 555, 556, 561, 562, 563, 564, 565, 566, 567, 568, 569, 570, 571, 572, 534, 535, 536, 573, 574, 575, 576, 577, 578, 579, 580, 537, 538, 539, 540, 541, 542, 543, 544, 581, 582, 583, 584, 585, 586, 587, 588, 174, 175, 176, 177, 1486, 1487, 1488, 1489, 1490, 1491, 1492, 1493, 1494, 1495, 1496, 1497, 1498, 1499, 1500, 1501, 1502, 1503, 1504, 1505, 1506, 1507, 1508, 1509, 1510, 1511, 1512] (by decide +kernel) (by decide +kernel)
set_option maxRecDepth 20000 in
theorem gL_law_X8_clearsIfEncoded : GoodIn wsL_law (wsV RL 243 RX8 yX8_clearsIfEncoded wsX8_clearsIfEncoded) := goodIn_app (goodIn_of _ (by decide +kernel)) ggL_law_X8_clearsIfEncoded
set_option maxRecDepth 20000 in
theorem ggL_law_X7_encodedCount : GoodIn wsL_law wsX7_encodedCount := goodIn_r _ [1170, 18, 1475, 1476, 1477, 1478, 1479, 1480, 1481, 1482, 1483, 1484, 1485, 1513, 1514, 1515, 1516, 1517, 1518, 1519, 1520, 1521, 1522, 1523, 1524, 1525, 1526] (by decide +kernel) (by decide +kernel)
set_option maxRecDepth 20000 in
theorem gL_law_X7_encodedCount : GoodIn wsL_law (wsV RL 244 RX7 yX7_encodedCount wsX7_encodedCount) := goodIn_app (goodIn_of _ (by decide +kernel)) ggL_law_X7_encodedCount
set_option maxRecDepth 20000 in
theorem ggL_law_X8_encodedCount : GoodIn wsL_law wsX8_encodedCount := goodIn_r _ [1174, 130, 174, 175, 176, 5, 177, 169, 1486, 1487, 1488, 1489, 1490, 1491, 1492, 1493, 1494, 1495, 1496, 1497, 1498, 1499, 1500, 1501, 1502, 1503, 1504, 1505, 1506, 1507, 1508, 1509, 1510, 1511, 1512] (by decide +kernel) (by decide +kernel)
set_option maxRecDepth 20000 in
theorem gL_law_X8_encodedCount : GoodIn wsL_law (wsV RL 247 RX8 yX8_encodedCount wsX8_encodedCount) := goodIn_app (goodIn_of _ (by decide +kernel)) ggL_law_X8_encodedCount
set_option maxRecDepth 20000 in
theorem ggL_law_L_encodedSymbol : GoodIn wsL_law wsL_encodedSymbol := goodIn_ca (goodIn_r _ [1177, 986, 1178, 1179, 1180, 2, 1181, 18, 995, 996, 997, 998, 999, 333, 229, 230, 1475, 1476, 1477, 1478, 1479, 1480, 1481, 1482, 1483, 1484, 1485, 1513, 1514, 1515, 1516, 1517, 1518, 1519, 1520, 1521, 1522, 1523, 1524, 1525, 1526] (by decide +kernel) (by decide +kernel)) (goodIn_sub (fun _ h => List.mem_append_right _ h) (by decide +kernel))
set_option maxRecDepth 20000 in
theorem gL_law_L_encodedSymbol : GoodIn wsL_law (va_wsS RL 248 yL_encodedSymbol wsL_encodedSymbol) := goodIn_app (goodIn_of _ (by decide +kernel)) ggL_law_L_encodedSymbol
set_option maxRecDepth 20000 in
theorem ggL_law_X8_encodedSymbol : GoodIn wsL_law wsX8_encodedSymbol := goodIn_r _ [1185, 130, 196, 197, 5, 198, 165, 166, 167, 168, 169, 174, 175, 176, 177, 1486, 1487, 1488, 1489, 1490, 1491, 1492, 1493, 1494, 1495, 1496, 1497, 1498, 1499, 1500, 1501, 1502, 1503, 1504, 1505, 1506, 1507, 1508, 1509, 1510, 1511, 1512] (by decide +kernel) (by decide +kernel)
set_option maxRecDepth 20000 in
theorem gL_law_X8_encodedSymbol : GoodIn wsL_law (wsV RL 250 RX8 yX8_encodedSymbol wsX8_encodedSymbol) := goodIn_app (goodIn_of _ (by decide +kernel)) ggL_law_X8_encodedSymbol
set_option maxRecDepth 20000 in
theorem ggL_law_X7_writtenCount : GoodIn wsL_law wsX7_writtenCount := goodIn_r _ [1189, 18, 1475, 1476, 1477, 1478, 1479, 1480, 1481, 1482, 1483, 1484, 1485, 1513, 1514, 1515, 1516, 1517, 1518, 1519, 1520, 1521, 1522, 1523, 1524, 1525, 1526] (by decide +kernel) (by decide +kernel)
set_option maxRecDepth 20000 in
theorem gL_law_X7_writtenCount : GoodIn wsL_law (wsV RL 251 RX7 yX7_writtenCount wsX7_writtenCount) := goodIn_app (goodIn_of _ (by decide +kernel)) ggL_law_X7_writtenCount
set_option maxRecDepth 20000 in
theorem ggL_law_X8_writtenCount : GoodIn wsL_law wsX8_writtenCount := goodIn_r _ [1193, 130, 174, 175, 176, 5, 177, 169, 1486, 1487, 1488, 1489, 1490, 1491, 1492, 1493, 1494, 1495, 1496, 1497, 1498, 1499, 1500, 1501, 1502, 1503, 1504, 1505, 1506, 1507, 1508, 1509, 1510, 1511, 1512] (by decide +kernel) (by decide +kernel)
set_option maxRecDepth 20000 in
theorem gL_law_X8_writtenCount : GoodIn wsL_law (wsV RL 254 RX8 yX8_writtenCount wsX8_writtenCount) := goodIn_app (goodIn_of _ (by decide +kernel)) ggL_law_X8_writtenCount
set_option maxRecDepth 20000 in
theorem ggL_law_L_writtenCode : GoodIn wsL_law wsL_writtenCode := goodIn_ca (goodIn_r _ [1196, 986, 1197, 1198, 1199, 2, 1200, 18, 995, 996, 997, 998, 999, 333, 229, 230, 1475, 1476, 1477, 1478, 1479, 1480, 1481, 1482, 1483, 1484, 1485, 1513, 1514, 1515, 1516, 1517, 1518, 1519, 1520, 1521, 1522, 1523, 1524, 1525, 1526] (by decide +kernel) (by decide +kernel)) (goodIn_sub (fun _ h => List.mem_append_right _ h) (by decide +kernel))
set_option maxRecDepth 20000 in
theorem gL_law_L_writtenCode : GoodIn wsL_law (va_wsS RL 255 yL_writtenCode wsL_writtenCode) := goodIn_app (goodIn_of _ (by decide +kernel)) ggL_law_L_writtenCode
set_option maxRecDepth 20000 in
theorem ggL_law_X8_writtenCode : GoodIn wsL_law wsX8_writtenCode := goodIn_r _ [1204, 1205, 1206, 1207, 5, 1208, 130, 196, 197, 198, 165, 166, 167, 168, 169, 577, 578, 579, 580, 174, 175, 176, 177, 1486, 1487, 1488, 1489, 1490, 1491, 1492, 1493, 1494, 1495, 1496, 1497, 1498, 1499, 1500, 1501, 1502, 1503, 1504, 1505, 1506, 1507, 1508, 1509, 1510, 1511, 1512] (by decide +kernel) (by decide +kernel)
set_option maxRecDepth 20000 in
theorem gL_law_X8_writtenCode : GoodIn wsL_law (wsV RL 257 RX8 yX8_writtenCode wsX8_writtenCode) := goodIn_app (goodIn_of _ (by decide +kernel)) ggL_law_X8_writtenCode
set_option maxRecDepth 20000 in
theorem ggL_law_L_writtenWidth : GoodIn wsL_law wsL_writtenWidth := goodIn_ca (goodIn_r _ [1211, 986, 1212, 1213, 1214, 2, 1215, 18, 995, 996, 997, 998, 999, 333, 229, 230, 1475, 1476, 1477, 1478, 1479, 1480, 1481, 1482, 1483, 1484, 1485, 1513, 1514, 1515, 1516, 1517, 1518, 1519, 1520, 1521, 1522, 1523, 1524, 1525, 1526] (by decide +kernel) (by decide +kernel)) (goodIn_sub (fun _ h => List.mem_append_right _ h) (by decide +kernel))
set_option maxRecDepth 20000 in
theorem gL_law_L_writtenWidth : GoodIn wsL_law (va_wsS RL 258 yL_writtenWidth wsL_writtenWidth) := goodIn_app (goodIn_of _ (by decide +kernel)) ggL_law_L_writtenWidth
set_option maxRecDepth 20000 in
theorem ggL_law_X8_writtenWidth : GoodIn wsL_law wsX8_writtenWidth := goodIn_r _ [1219, 1205, 1206, 1207, 5, 1208, 130, 196, 197, 198, 165, 166, 167, 168, 169, 569, 570, 571, 572, 174, 175, 176, 177, 1486, 1487, 1488, 1489, 1490, 1491, 1492, 1493, 1494, 1495, 1496, 1497, 1498, 1499, 1500, 1501, 1502, 1503, 1504, 1505, 1506, 1507, 1508, 1509, 1510, 1511, 1512] (by decide +kernel) (by decide +kernel)
set_option maxRecDepth 20000 in
theorem gL_law_X8_writtenWidth : GoodIn wsL_law (wsV RL 260 RX8 yX8_writtenWidth wsX8_writtenWidth) := goodIn_app (goodIn_of _ (by decide +kernel)) ggL_law_X8_writtenWidth
set_option maxRecDepth 20000 in
theorem ggL_law_X7_bitCount : GoodIn wsL_law wsX7_bitCount := goodIn_r _ [1223, 18, 1475, 1476, 1477, 1478, 1479, 1480, 1481, 1482, 1483, 1484, 1485, 1513, 1514, 1515, 1516, 1517, 1518, 1519, 1520, 1521, 1522, 1523, 1524, 1525, 1526] (by decide +kernel) (by decide +kernel)
set_option maxRecDepth 20000 in
theorem gL_law_X7_bitCount : GoodIn wsL_law (wsV RL 261 RX7 yX7_bitCount wsX7_bitCount) := goodIn_app (goodIn_of _ (by decide +kernel)) ggL_law_X7_bitCount
set_option maxRecDepth 20000 in
theorem ggL_law_X8_bitCount : GoodIn wsL_law wsX8_bitCount := goodIn_r _ [1227, 1228, 1229, 1230, 5, 1231, 565, 566, 567, 568, 130, 569, 570, 571, 572, 174, 175, 176, 177, 169, 1486, 1487, 1488, 1489, 1490, 1491, 1492, 1493, 1494, 1495, 1496, 1497, 1498, 1499, 1500, 1501, 1502, 1503, 1504, 1505, 1506, 1507, 1508, 1509, 1510, 1511, 1512] (by decide +kernel) (by decide +kernel)
set_option maxRecDepth 20000 in
theorem gL_law_X8_bitCount : GoodIn wsL_law (wsV RL 264 RX8 yX8_bitCount wsX8_bitCount) := goodIn_app (goodIn_of _ (by decide +kernel)) ggL_law_X8_bitCount
set_option maxRecDepth 20000 in
theorem ggL_law_L_bitAt : GoodIn wsL_law wsL_bitAt := goodIn_ca (goodIn_r _ [1234, 986, 1235, 1236, 1237, 2, 1238, 18, 995, 996, 997, 998, 999, 1239, 1240, 1241, 17, 1242, 112, 51, 1243, 1244, 654, 1245, 50, 229, 230, 1475, 1476, 1477, 1478, 1479, 1480, 1481, 1482, 1483, 1484, 1485, 1513, 1514, 1515, 1516, 1517, 1518, 1519, 1520, 1521, 1522, 1523, 1524, 1525, 1526] (by decide +kernel) (by decide +kernel)) (goodIn_sub (fun _ h => List.mem_append_right _ h) (by decide +kernel))
set_option maxRecDepth 20000 in
theorem gL_law_L_bitAt : GoodIn wsL_law (va_wsS RL 265 yL_bitAt wsL_bitAt) := goodIn_app (goodIn_of _ (by decide +kernel)) ggL_law_L_bitAt
set_option maxRecDepth 20000 in
theorem ggL_law_X8_bitAt : GoodIn wsL_law wsX8_bitAt := goodIn_r _ [1249, 1228, 1229, 1230, 5, 1231, 565, 566, 567, 568, 130, 569, 570, 571, 572, 196, 197, 198, 165, 166, 167, 168, 169, 1250, 1251, 1252, 1253, 577, 578, 579, 580, 174, 175, 176, 177, 1486, 1487, 1488, 1489, 1490, 1491, 1492, 1493, 1494, 1495, 1496, 1497, 1498, 1499, 1500, 1501, 1502, 1503, 1504, 1505, 1506, 1507, 1508, 1509, 1510, 1511, 1512] (by decide +kernel) (by decide +kernel)
set_option maxRecDepth 20000 in
theorem gL_law_X8_bitAt : GoodIn wsL_law (wsV RL 267 RX8 yX8_bitAt wsX8_bitAt) := goodIn_app (goodIn_of _ (by decide +kernel)) ggL_law_X8_bitAt
set_option maxRecDepth 20000 in
theorem ggL_law_X7_byteCount : GoodIn wsL_law wsX7_byteCount := goodIn_r _ [1257, 18, 1475, 1476, 1477, 1478, 1479, 1480, 1481, 1482, 1483, 1484, 1485, 1513, 1514, 1515, 1516, 1517, 1518, 1519, 1520, 1521, 1522, 1523, 1524, 1525, 1526] (by decide +kernel) (by decide +kernel)
set_option maxRecDepth 20000 in
theorem gL_law_X7_byteCount : GoodIn wsL_law (wsV RL 268 RX7 yX7_byteCount wsX7_byteCount) := goodIn_app (goodIn_of _ (by decide +kernel)) ggL_law_X7_byteCount
set_option maxRecDepth 20000 in
theorem ggL_law_X8_byteCount : GoodIn wsL_law wsX8_byteCount := goodIn_r _ [1261, 1262, 1263, 1264, 5, 1265, 1228, 1229, 1230, 1231, 565, 566, 567, 568, 130, 569, 570, 571, 572, 174, 175, 176, 177, 169, 1486, 1487, 1488, 1489, 1490, 1491, 1492, 1493, 1494, 1495, 1496, 1497, 1498, 1499, 1500, 1501, 1502, 1503, 1504, 1505, 1506, 1507, 1508, 1509, 1510, 1511, 1512] (by decide +kernel) (by decide +kernel)
set_option maxRecDepth 20000 in
theorem gL_law_X8_byteCount : GoodIn wsL_law (wsV RL 271 RX8 yX8_byteCount wsX8_byteCount) := goodIn_app (goodIn_of _ (by decide +kernel)) ggL_law_X8_byteCount
set_option maxRecDepth 20000 in
theorem ggL_law_L_byteAt : GoodIn wsL_law wsL_byteAt := goodIn_ca (goodIn_r _ [1268, 986, 1269, 1270, 1271, 2, 1272, 18, 1273, 1255, 1256, 1257, 995, 996, 997, 998, 999, 1239, 1240, 1241, 17, 1242, 112, 51, 1243, 1244, 654, 1245, 50, 229, 230, 1475, 1476, 1477, 1478, 1479, 1480, 1481, 1482, 1483, 1484, 1485, 1513, 1514, 1515, 1516, 1517, 1518, 1519, 1520, 1521, 1522, 1523, 1524, 1525, 1526] (by decide +kernel) (by decide +kernel)) (goodIn_sub (fun _ h => List.mem_append_right _ h) (by decide +kernel))
set_option maxRecDepth 20000 in
theorem gL_law_L_byteAt : GoodIn wsL_law (va_wsS RL 272 yL_byteAt wsL_byteAt) := goodIn_app (goodIn_of _ (by decide +kernel)) ggL_law_L_byteAt
set_option maxRecDepth 20000 in
theorem ggL_law_X8_byteAt : GoodIn wsL_law wsX8_byteAt := goodIn_r _ [1277, 1262, 1263, 1264, 5, 1265, 1228, 1229, 1230, 1231, 565, 566, 567, 568, 130, 569, 570, 571, 572, 196, 197, 198, 165, 166, 167, 168, 169, 1250, 1251, 1252, 1253, 577, 578, 579, 580, 174, 175, 176, 177, 1486, 1487, 1488, 1489, 1490, 1491, 1492, 1493, 1494, 1495, 1496, 1497, 1498, 1499, 1500, 1501, 1502, 1503, 1504, 1505, 1506, 1507, 1508, 1509, 1510, 1511, 1512] (by decide +kernel) (by decide +kernel)
set_option maxRecDepth 20000 in
theorem gL_law_X8_byteAt : GoodIn wsL_law (wsV RL 274 RX8 yX8_byteAt wsX8_byteAt) := goodIn_app (goodIn_of _ (by decide +kernel)) ggL_law_X8_byteAt
set_option maxRecDepth 20000 in
theorem ggL_law_X7_clearCount : GoodIn wsL_law wsX7_clearCount := goodIn_r _ [1281, 18, 1475, 1476, 1477, 1478, 1479, 1480, 1481, 1482, 1483, 1484, 1485, 1513, 1514, 1515, 1516, 1517, 1518, 1519, 1520, 1521, 1522, 1523, 1524, 1525, 1526] (by decide +kernel) (by decide +kernel)
set_option maxRecDepth 20000 in
theorem gL_law_X7_clearCount : GoodIn wsL_law (wsV RL 275 RX7 yX7_clearCount wsX7_clearCount) := goodIn_app (goodIn_of _ (by decide +kernel)) ggL_law_X7_clearCount
set_option maxRecDepth 20000 in
theorem ggL_law_X8_clearCount : GoodIn wsL_law wsX8_clearCount := goodIn_r _ [1285, 130, 174, 175, 176, 5, 177, 169, 1486, 1487, 1488, 1489, 1490, 1491, 1492, 1493, 1494, 1495, 1496, 1497, 1498, 1499, 1500, 1501, 1502, 1503, 1504, 1505, 1506, 1507, 1508, 1509, 1510, 1511, 1512] (by decide +kernel) (by decide +kernel)
set_option maxRecDepth 20000 in
theorem gL_law_X8_clearCount : GoodIn wsL_law (wsV RL 278 RX8 yX8_clearCount wsX8_clearCount) := goodIn_app (goodIn_of _ (by decide +kernel)) ggL_law_X8_clearCount
set_option maxRecDepth 20000 in
theorem ggL_law_X7_codesSinceClear : GoodIn wsL_law wsX7_codesSinceClear := goodIn_r _ [1289, 18, 1475, 1476, 1477, 1478, 1479, 1480, 1481, 1482, 1483, 1484, 1485, 1513, 1514, 1515, 1516, 1517, 1518, 1519, 1520, 1521, 1522, 1523, 1524, 1525, 1526] (by decide +kernel) (by decide +kernel)
set_option maxRecDepth 20000 in
theorem gL_law_X7_codesSinceClear : GoodIn wsL_law (wsV RL 279 RX7 yX7_codesSinceClear wsX7_codesSinceClear) := goodIn_app (goodIn_of _ (by decide +kernel)) ggL_law_X7_codesSinceClear
set_option maxRecDepth 20000 in
theorem ggL_law_X8_codesSinceClear : GoodIn wsL_law wsX8_codesSinceClear := goodIn_r _ [1293, 130, 174, 175, 176, 5, 177, 169, 1486, 1487, 1488, 1489, 1490, 1491, 1492, 1493, 1494, 1495, 1496, 1497, 1498, 1499, 1500, 1501, 1502, 1503, 1504, 1505, 1506, 1507, 1508, 1509, 1510, 1511, 1512] (by decide +kernel) (by decide +kernel)
set_option maxRecDepth 20000 in
theorem gL_law_X8_codesSinceClear : GoodIn wsL_law (wsV RL 282 RX8 yX8_codesSinceClear wsX8_codesSinceClear) := goodIn_app (goodIn_of _ (by decide +kernel)) ggL_law_X8_codesSinceClear
set_option maxRecDepth 20000 in
theorem ggL_law_X7_symbolsSinceClear : GoodIn wsL_law wsX7_symbolsSinceClear := goodIn_r _ [1297, 18, 1475, 1476, 1477, 1478, 1479, 1480, 1481, 1482, 1483, 1484, 1485, 1513, 1514, 1515, 1516, 1517, 1518, 1519, 1520, 1521, 1522, 1523, 1524, 1525, 1526] (by decide +kernel) (by decide +kernel)
set_option maxRecDepth 20000 in
theorem gL_law_X7_symbolsSinceClear : GoodIn wsL_law (wsV RL 283 RX7 yX7_symbolsSinceClear wsX7_symbolsSinceClear) := goodIn_app (goodIn_of _ (by decide +kernel)) ggL_law_X7_symbolsSinceClear
set_option maxRecDepth 20000 in
theorem ggL_law_X8_symbolsSinceClear : GoodIn wsL_law wsX8_symbolsSinceClear := goodIn_r _ [1301, 573, 574, 575, 5, 576, 130, 577, 578, 579, 580, 537, 538, 539, 540, 522, 523, 524, 525, 541, 542, 543, 544, 174, 175, 176, 177, 169, 1486, 1487, 1488, 1489, 1490, 1491, 1492, 1493, 1494, 1495, 1496, 1497, 1498, 1499, 1500, 1501, 1502, 1503, 1504, 1505, 1506, 1507, 1508, 1509, 1510, 1511, 1512] (by decide +kernel) (by decide +kernel)
set_option maxRecDepth 20000 in
theorem gL_law_X8_symbolsSinceClear : GoodIn wsL_law (wsV RL 286 RX8 yX8_symbolsSinceClear wsX8_symbolsSinceClear) := goodIn_app (goodIn_of _ (by decide +kernel)) ggL_law_X8_symbolsSinceClear
set_option maxRecDepth 20000 in
theorem ggL_law_X7_bitsSinceClear : GoodIn wsL_law wsX7_bitsSinceClear := goodIn_r _ [1305, 18, 1475, 1476, 1477, 1478, 1479, 1480, 1481, 1482, 1483, 1484, 1485, 1513, 1514, 1515, 1516, 1517, 1518, 1519, 1520, 1521, 1522, 1523, 1524, 1525, 1526] (by decide +kernel) (by decide +kernel)
set_option maxRecDepth 20000 in
theorem gL_law_X7_bitsSinceClear : GoodIn wsL_law (wsV RL 287 RX7 yX7_bitsSinceClear wsX7_bitsSinceClear) := goodIn_app (goodIn_of _ (by decide +kernel)) ggL_law_X7_bitsSinceClear
set_option maxRecDepth 20000 in
theorem ggL_law_X8_bitsSinceClear : GoodIn wsL_law wsX8_bitsSinceClear := goodIn_r _ [1309, 561, 562, 563, 5, 564, 130, 565, 566, 567, 568, 569, 570, 571, 572, 174, 175, 176, 177, 169, 1486, 1487, 1488, 1489, 1490, 1491, 1492, 1493, 1494, 1495, 1496, 1497, 1498, 1499, 1500, 1501, 1502, 1503, 1504, 1505, 1506, 1507, 1508, 1509, 1510, 1511, 1512] (by decide +kernel) (by decide +kernel)
set_option maxRecDepth 20000 in
theorem gL_law_X8_bitsSinceClear : GoodIn wsL_law (wsV RL 290 RX8 yX8_bitsSinceClear wsX8_bitsSinceClear) := goodIn_app (goodIn_of _ (by decide +kernel)) ggL_law_X8_bitsSinceClear
set_option maxRecDepth 20000 in
theorem ggL_law_X7_percentSinceClear : GoodIn wsL_law wsX7_percentSinceClear := goodIn_r _ [1313, 18, 1314, 369, 370, 17, 371, 47, 372, 373, 374, 46, 375, 96, 362, 2, 363, 1475, 1476, 1477, 1478, 1479, 1480, 1481, 1482, 1483, 1484, 1485, 1513, 1514, 1515, 1516, 1517, 1518, 1519, 1520, 1521, 1522, 1523, 1524, 1525, 1526, 1548, 1549, 1550, 1551, 1552, 1553, 1554, 1555] (by decide +kernel) (by decide +kernel)
set_option maxRecDepth 20000 in
theorem gL_law_X7_percentSinceClear : GoodIn wsL_law (wsV RL 291 RX7 yX7_percentSinceClear wsX7_percentSinceClear) := goodIn_app (goodIn_of _ (by decide +kernel)) ggL_law_X7_percentSinceClear
set_option maxRecDepth 20000 in
theorem ggL_law_X8_percentSinceClear : GoodIn wsL_law wsX8_percentSinceClear := goodIn_r _ [1318, 557, 558, 559, 5, 560, 561, 562, 563, 564, 130, 565, 566, 567, 568, 569, 570, 571, 572, 573, 574, 575, 576, 577, 578, 579, 580, 537, 538, 539, 540, 522, 523, 524, 525, 541, 542, 543, 544, 581, 582, 583, 584, 585, 586, 587, 588, 534, 535, 536, 174, 175, 176, 177, 169, 1486, 1487, 1488, 1489, 1490, 1491, 1492, 1493, 1494, 1495, 1496, 1497, 1498, 1499, 1500, 1501, 1502, 1503, 1504, 1505, 1506, 1507, 1508, 1509, 1510, 1511, 1512] (by decide +kernel) (by decide +kernel)
set_option maxRecDepth 20000 in
theorem gL_law_X8_percentSinceClear : GoodIn wsL_law (wsV RL 294 RX8 yX8_percentSinceClear wsX8_percentSinceClear) := goodIn_app (goodIn_of _ (by decide +kernel)) ggL_law_X8_percentSinceClear
set_option maxRecDepth 20000 in
theorem ggL_law_X7_savedBits : GoodIn wsL_law wsX7_savedBits := goodIn_r _ [1322, 18, 1323, 1324, 1325, 17, 1326, 48, 111, 47, 364, 365, 366, 46, 367, 57, 229, 2, 230, 931, 373, 374, 375, 96, 362, 363, 1475, 1476, 1477, 1478, 1479, 1480, 1481, 1482, 1483, 1484, 1485, 1513, 1514, 1515, 1516, 1517, 1518, 1519, 1520, 1521, 1522, 1523, 1524, 1525, 1526, 1548, 1549, 1550, 1551, 1552, 1553, 1554, 1555] (by decide +kernel) (by decide +kernel)
set_option maxRecDepth 20000 in
theorem gL_law_X7_savedBits : GoodIn wsL_law (wsV RL 295 RX7 yX7_savedBits wsX7_savedBits) := goodIn_app (goodIn_of _ (by decide +kernel)) ggL_law_X7_savedBits
set_option maxRecDepth 20000 in
theorem ggL_law_X8_savedBits : GoodIn wsL_law wsX8_savedBits := goodIn_r _ [1330, 130, 585, 586, 587, 5, 588, 534, 535, 536, 1228, 1229, 1230, 1231, 565, 566, 567, 568, 569, 570, 571, 572, 174, 175, 176, 177, 169, 1486, 1487, 1488, 1489, 1490, 1491, 1492, 1493, 1494, 1495, 1496, 1497, 1498, 1499, 1500, 1501, 1502, 1503, 1504, 1505, 1506, 1507, 1508, 1509, 1510, 1511, 1512] (by decide +kernel) (by decide +kernel)
set_option maxRecDepth 20000 in
theorem gL_law_X8_savedBits : GoodIn wsL_law (wsV RL 298 RX8 yX8_savedBits wsX8_savedBits) := goodIn_app (goodIn_of _ (by decide +kernel)) ggL_law_X8_savedBits
set_option maxRecDepth 20000 in
theorem ggL_law_X7_bitsPerSymbol : GoodIn wsL_law wsX7_bitsPerSymbol := goodIn_r _ [1334, 18, 1323, 1324, 1325, 17, 1326, 48, 111, 47, 364, 365, 366, 46, 367, 57, 229, 2, 230, 1475, 1476, 1477, 1478, 1479, 1480, 1481, 1482, 1483, 1484, 1485, 1513, 1514, 1515, 1516, 1517, 1518, 1519, 1520, 1521, 1522, 1523, 1524, 1525, 1526, 1548, 1549, 1550, 1551, 1552, 1553, 1554, 1555] (by decide +kernel) (by decide +kernel)
set_option maxRecDepth 20000 in
theorem gL_law_X7_bitsPerSymbol : GoodIn wsL_law (wsV RL 299 RX7 yX7_bitsPerSymbol wsX7_bitsPerSymbol) := goodIn_app (goodIn_of _ (by decide +kernel)) ggL_law_X7_bitsPerSymbol
set_option maxRecDepth 20000 in
theorem ggL_law_X8_bitsPerSymbol : GoodIn wsL_law wsX8_bitsPerSymbol := goodIn_r _ [1338, 169, 130, 1228, 1229, 1230, 5, 1231, 565, 566, 567, 568, 569, 570, 571, 572, 1486, 1487, 1488, 1489, 1490, 1491, 1492, 1493, 1494, 1495, 1496, 1497, 1498, 1499, 1500, 1501, 1502, 1503, 1504, 1505, 1506, 1507, 1508, 1509, 1510, 1511, 1512] (by decide +kernel) (by decide +kernel)
set_option maxRecDepth 20000 in
theorem gL_law_X8_bitsPerSymbol : GoodIn wsL_law (wsV RL 303 RX8 yX8_bitsPerSymbol wsX8_bitsPerSymbol) := goodIn_app (goodIn_of _ (by decide +kernel)) ggL_law_X8_bitsPerSymbol
set_option maxRecDepth 20000 in
theorem ggL_law_X7_fillShare : GoodIn wsL_law wsX7_fillShare := goodIn_r _ [1342, 18, 956, 355, 356, 46, 357, 97, 1475, 1476, 1477, 1478, 1479, 1480, 1481, 1482, 1483, 1484, 1485, 1513, 1514, 1515, 1516, 1517, 1518, 1519, 1520, 1521, 1522, 1523, 1524, 1525, 1526, 1548, 1549, 1550, 1551, 1552, 1553, 1554, 1555] (by decide +kernel) (by decide +kernel)
set_option maxRecDepth 20000 in
theorem gL_law_X7_fillShare : GoodIn wsL_law (wsV RL 304 RX7 yX7_fillShare wsX7_fillShare) := goodIn_app (goodIn_of _ (by decide +kernel)) ggL_law_X7_fillShare
set_option maxRecDepth 20000 in
theorem ggL_law_X8_fillShare : GoodIn wsL_law wsX8_fillShare := goodIn_r _ [1346, 169, 130, 553, 554, 555, 5, 556, 1486, 1487, 1488, 1489, 1490, 1491, 1492, 1493, 1494, 1495, 1496, 1497, 1498, 1499, 1500, 1501, 1502, 1503, 1504, 1505, 1506, 1507, 1508, 1509, 1510, 1511, 1512] (by decide +kernel) (by decide +kernel)
set_option maxRecDepth 20000 in
theorem gL_law_X8_fillShare : GoodIn wsL_law (wsV RL 308 RX8 yX8_fillShare wsX8_fillShare) := goodIn_app (goodIn_of _ (by decide +kernel)) ggL_law_X8_fillShare
set_option maxRecDepth 20000 in
theorem ggL_law_X7_decodedCount : GoodIn wsL_law wsX7_decodedCount := goodIn_r _ [1350, 206, 1475, 1476, 1477, 1478, 1479, 1480, 1481, 1482, 1483, 1484, 1485] (by decide +kernel) (by decide +kernel)
set_option maxRecDepth 20000 in
theorem gL_law_X7_decodedCount : GoodIn wsL_law (wsV RL 309 RX7 yX7_decodedCount wsX7_decodedCount) := goodIn_app (goodIn_of _ (by decide +kernel)) ggL_law_X7_decodedCount
set_option maxRecDepth 20000 in
theorem ggL_law_X8_decodedCount : GoodIn wsL_law wsX8_decodedCount := goodIn_r _ [1354, 410, 174, 175, 176, 5, 177, 169, 1486, 1487, 1488, 1489, 1490, 1491, 1492, 1493, 1494, 1495, 1496, 1497, 1498, 1499, 1500, 1501, 1502, 1503, 1504, 1505, 1506, 1507, 1508, 1509, 1510, 1511, 1512] (by decide +kernel) (by decide +kernel)
set_option maxRecDepth 20000 in
theorem gL_law_X8_decodedCount : GoodIn wsL_law (wsV RL 312 RX8 yX8_decodedCount wsX8_decodedCount) := goodIn_app (goodIn_of _ (by decide +kernel)) ggL_law_X8_decodedCount
set_option maxRecDepth 20000 in
theorem ggL_law_L_decodedSymbol : GoodIn wsL_law wsL_decodedSymbol := goodIn_ca (goodIn_r _ [1357, 986, 1358, 1359, 1360, 2, 1361, 206, 23, 995, 996, 997, 998, 999, 333, 229, 230, 1475, 1476, 1477, 1478, 1479, 1480, 1481, 1482, 1483, 1484, 1485] (by decide +kernel) (by decide +kernel)) (goodIn_sub (fun _ h => List.mem_append_right _ h) (by decide +kernel))
set_option maxRecDepth 20000 in
theorem gL_law_L_decodedSymbol : GoodIn wsL_law (va_wsS RL 313 yL_decodedSymbol wsL_decodedSymbol) := goodIn_app (goodIn_of _ (by decide +kernel)) ggL_law_L_decodedSymbol
set_option maxRecDepth 20000 in
theorem ggL_law_X8_decodedSymbol : GoodIn wsL_law wsX8_decodedSymbol := goodIn_r _ [1365, 410, 139, 196, 197, 5, 198, 165, 166, 167, 168, 169, 174, 175, 176, 177, 1486, 1487, 1488, 1489, 1490, 1491, 1492, 1493, 1494, 1495, 1496, 1497, 1498, 1499, 1500, 1501, 1502, 1503, 1504, 1505, 1506, 1507, 1508, 1509, 1510, 1511, 1512] (by decide +kernel) (by decide +kernel)
set_option maxRecDepth 20000 in
theorem gL_law_X8_decodedSymbol : GoodIn wsL_law (wsV RL 315 RX8 yX8_decodedSymbol wsX8_decodedSymbol) := goodIn_app (goodIn_of _ (by decide +kernel)) ggL_law_X8_decodedSymbol
set_option maxRecDepth 20000 in
theorem ggL_law_X7_longestDecodedRun : GoodIn wsL_law wsX7_longestDecodedRun := goodIn_r _ [1369, 206, 23, 1370, 1244, 654, 1245, 333, 229, 2, 230, 1475, 1476, 1477, 1478, 1479, 1480, 1481, 1482, 1483, 1484, 1485] (by decide +kernel) (by decide +kernel)
set_option maxRecDepth 20000 in
theorem gL_law_X7_longestDecodedRun : GoodIn wsL_law (wsV RL 316 RX7 yX7_longestDecodedRun wsX7_longestDecodedRun) := goodIn_app (goodIn_of _ (by decide +kernel)) ggL_law_X7_longestDecodedRun
set_option maxRecDepth 20000 in
theorem ggL_law_X8_longestDecodedRun : GoodIn wsL_law wsX8_longestDecodedRun := goodIn_r _ [1374, 410, 139, 463, 464, 5, 465, 174, 175, 176, 177, 169, 1486, 1487, 1488, 1489, 1490, 1491, 1492, 1493, 1494, 1495, 1496, 1497, 1498, 1499, 1500, 1501, 1502, 1503, 1504, 1505, 1506, 1507, 1508, 1509, 1510, 1511, 1512] (by decide +kernel) (by decide +kernel)
set_option maxRecDepth 20000 in
theorem gL_law_X8_longestDecodedRun : GoodIn wsL_law (wsV RL 319 RX8 yX8_longestDecodedRun wsX8_longestDecodedRun) := goodIn_app (goodIn_of _ (by decide +kernel)) ggL_law_X8_longestDecodedRun
set_option maxRecDepth 20000 in
theorem ggL_law_X7_restoredCount : GoodIn wsL_law wsX7_restoredCount := goodIn_r _ [1378, 27, 18, 608, 609, 610, 26, 611, 70, 71, 612, 613, 93, 94, 46, 95, 96, 97, 98, 99, 100, 101, 102, 103, 104, 105, 106, 55, 56, 57, 58, 1379, 1380, 1381, 1382, 229, 2, 230, 620, 621, 622, 623, 624, 625, 626, 627, 628, 629, 630, 631, 632, 72, 633, 365, 366, 367, 634, 635, 636, 637, 396, 638, 639, 640, 641, 642, 343, 344, 345, 59, 643, 351, 352, 353, 354, 355, 356, 357, 644, 393, 394, 395, 158, 159, 645, 646, 647, 648, 1475, 1476, 1477, 1478, 1479, 1480, 1481, 1482, 1483, 1484, 1485, 1513, 1514, 1515, 1516, 1517, 1518, 1519, 1520, 1521, 1522, 1523, 1524, 1525, 1526, 1531, 1532, 1533, 1534, 1548, 1549, 1550, 1551, 1552, 1553, 1554, 1555] (by decide +kernel) (by decide +kernel)
set_option maxRecDepth 20000 in
theorem gL_law_X7_restoredCount : GoodIn wsL_law (wsV RL 320 RX7 yX7_restoredCount wsX7_restoredCount) := goodIn_app (goodIn_of _ (by decide +kernel)) ggL_law_X7_restoredCount
set_option maxRecDepth 20000 in
theorem ggL_law_X8_restoredCount : GoodIn wsL_law wsX8_restoredCount := goodIn_r _ [1386, 670, 1387, 1388, 1389, 5, 1390, 130, 664, 665, 666, 667, 668, 669, 671, 672, 673, 674, 522, 523, 524, 525, 675, 676, 677, 678, 196, 197, 198, 679, 680, 681, 682, 683, 684, 685, 686, 553, 554, 555, 556, 687, 688, 689, 690, 691, 692, 693, 694, 136, 541, 542, 543, 544, 695, 696, 697, 698, 699, 700, 701, 702, 703, 704, 705, 706, 137, 707, 708, 709, 710, 711, 712, 713, 714, 138, 174, 175, 176, 177, 169, 1486, 1487, 1488, 1489, 1490, 1491, 1492, 1493, 1494, 1495, 1496, 1497, 1498, 1499, 1500, 1501, 1502, 1503, 1504, 1505, 1506, 1507, 1508, 1509, 1510, 1511, 1512] (by decide +kernel) (by decide +kernel)
set_option maxRecDepth 20000 in
theorem gL_law_X8_restoredCount : GoodIn wsL_law (wsV RL 323 RX8 yX8_restoredCount wsX8_restoredCount) := goodIn_app (goodIn_of _ (by decide +kernel)) ggL_law_X8_restoredCount
set_option maxRecDepth 20000 in
theorem ggL_law_X7_isRestored : GoodIn wsL_law wsX7_isRestored := goodIn_r _ [1394, 27, 18, 608, 609, 610, 26, 611, 70, 71, 612, 613, 93, 94, 46, 95, 96, 97, 98, 99, 100, 101, 102, 103, 104, 105, 106, 55, 56, 57, 58, 1379, 1380, 1381, 1382, 229, 2, 230, 620, 621, 622, 623, 624, 625, 626, 627, 628, 629, 630, 631, 632, 72, 633, 365, 366, 367, 634, 635, 636, 637, 396, 638, 639, 640, 641, 642, 343, 344, 345, 59, 643, 351, 352, 353, 354, 355, 356, 357, 644, 393, 394, 395, 158, 159, 645, 646, 647, 648, 1323, 1324, 1325, 17, 1326, 48, 111, 47, 364, 333, 1475, 1476, 1477, 1478, 1479, 1480, 1481, 1482, 1483, 1484, 1485, 1513, 1514, 1515, 1516, 1517, 1518, 1519, 1520, 1521, 1522, 1523, 1524, 1525, 1526, 1531, 1532, 1533, 1534, 1548, 1549, 1550, 1551, 1552, 1553, 1554, 1555] (by decide +kernel) (by decide +kernel)
set_option maxRecDepth 20000 in
theorem gL_law_X7_isRestored : GoodIn wsL_law (wsV RL 324 RX7 yX7_isRestored wsX7_isRestored) := goodIn_app (goodIn_of _ (by decide +kernel)) ggL_law_X7_isRestored
set_option maxRecDepth 20000 in
theorem ggL_law_X8_isRestored : GoodIn wsL_law wsX8_isRestored := goodIn_r _ [1398, 670, 130, 1387, 1388, 1389, 5, 1390, 664, 665, 666, 667, 668, 669, 671, 672, 673, 674, 522, 523, 524, 525, 675, 676, 677, 678, 196, 197, 198, 679, 680, 681, 682, 683, 684, 685, 686, 553, 554, 555, 556, 687, 688, 689, 690, 691, 692, 693, 694, 136, 541, 542, 543, 544, 695, 696, 697, 698, 699, 700, 701, 702, 703, 704, 705, 706, 137, 707, 708, 709, 710, 711, 712, 713, 714, 138, 970, 971, 972, 973, 169, 1399, 1400, 1401, 1402, 1486, 1487, 1488, 1489, 1490, 1491, 1492, 1493, 1494, 1495, 1496, 1497, 1498, 1499, 1500, 1501, 1502, 1503, 1504, 1505, 1506, 1507, 1508, 1509, 1510, 1511, 1512] (by decide +kernel) (by decide +kernel)
set_option maxRecDepth 20000 in
theorem gL_law_X8_isRestored : GoodIn wsL_law (wsV RL 327 RX8 yX8_isRestored wsX8_isRestored) := goodIn_app (goodIn_of _ (by decide +kernel)) ggL_law_X8_isRestored
set_option maxRecDepth 20000 in
theorem ggL_law_X7_setupLength : GoodIn wsL_law wsX7_setupLength := goodIn_r _ [1406, 39, 18, 1407, 1408, 1409, 38, 1410, 1411, 1412, 1413, 1414, 1415, 1416, 253, 254, 255, 256, 257, 258, 259, 260, 261, 262, 263, 1417, 265, 266, 267, 268, 269, 270, 271, 272, 273, 274, 275, 276, 277, 278, 279, 280, 281, 282, 283, 284, 285, 286, 287, 288, 289, 290, 291, 292, 293, 294, 295, 296, 297, 298, 299, 300, 1418, 1419, 1420, 1421, 85, 158, 2, 159, 1422, 1423, 1424, 1425, 319, 320, 1426, 1427, 1428, 1429, 229, 230, 1475, 1476, 1477, 1478, 1479, 1480, 1481, 1482, 1483, 1484, 1485, 1546, 1547, 1513, 1514, 1515, 1516, 1517, 1518, 1519, 1520, 1521, 1522, 1523, 1524, 1525, 1526, 1548, 1549, 1550, 1551, 1552, 1553, 1554, 1555] (by decide +kernel) (by decide +kernel)
set_option maxRecDepth 20000 in
theorem gL_law_X7_setupLength : GoodIn wsL_law (wsV RL 328 RX7 yX7_setupLength wsX7_setupLength) := goodIn_app (goodIn_of _ (by decide +kernel)) ggL_law_X7_setupLength
set_option maxRecDepth 20000 in
theorem ggL_law_X8_setupLength : GoodIn wsL_law wsX8_setupLength := goodIn_r _ [1433, 1434, 1435, 1436, 1437, 5, 1438, 130, 1439, 1440, 1441, 1442, 446, 1443, 1444, 1445, 1446, 1447, 1448, 1449, 1450, 1451, 140, 1452, 1453, 1454, 1455, 1456, 1457, 1458, 1459, 474, 475, 476, 1460, 1461, 1462, 1463, 493, 174, 175, 176, 177, 169, 1486, 1487, 1488, 1489, 1490, 1491, 1492, 1493, 1494, 1495, 1496, 1497, 1498, 1499, 1500, 1501, 1502, 1503, 1504, 1505, 1506, 1507, 1508, 1509, 1510, 1511, 1512] (by decide +kernel) (by decide +kernel)
set_option maxRecDepth 20000 in
theorem gL_law_X8_setupLength : GoodIn wsL_law (wsV RL 331 RX8 yX8_setupLength wsX8_setupLength) := goodIn_app (goodIn_of _ (by decide +kernel)) ggL_law_X8_setupLength
set_option maxRecDepth 20000 in
theorem ggL_law_L_setupByte : GoodIn wsL_law wsL_setupByte := goodIn_ca (goodIn_r _ [1466, 986, 1467, 1468, 1469, 2, 1470, 39, 18, 1407, 1408, 1409, 38, 1410, 1411, 1412, 1413, 1414, 1415, 1416, 253, 254, 255, 256, 257, 258, 259, 260, 261, 262, 263, 1417, 265, 266, 267, 268, 269, 270, 271, 272, 273, 274, 275, 276, 277, 278, 279, 280, 281, 282, 283, 284, 285, 286, 287, 288, 289, 290, 291, 292, 293, 294, 295, 296, 297, 298, 299, 300, 1418, 1419, 1420, 1421, 85, 158, 159, 1422, 1423, 1424, 1425, 319, 320, 1426, 1427, 1428, 1429, 229, 230, 995, 996, 997, 998, 999, 333, 1475, 1476, 1477, 1478, 1479, 1480, 1481, 1482, 1483, 1484, 1485, 1546, 1547, 1513, 1514, 1515, 1516, 1517, 1518, 1519, 1520, 1521, 1522, 1523, 1524, 1525, 1526, 1548, 1549, 1550, 1551, 1552, 1553, 1554, 1555] (by decide +kernel) (by decide +kernel)) (goodIn_sub (fun _ h => List.mem_append_right _ h) (by decide +kernel))
set_option maxRecDepth 20000 in
theorem gL_law_L_setupByte : GoodIn wsL_law (va_wsS RL 332 yL_setupByte wsL_setupByte) := goodIn_app (goodIn_of _ (by decide +kernel)) ggL_law_L_setupByte
set_option maxRecDepth 20000 in
theorem ggL_law_X8_setupByte : GoodIn wsL_law wsX8_setupByte := goodIn_r _ [1474, 1434, 140, 1435, 1436, 1437, 5, 1438, 130, 1439, 1440, 1441, 1442, 446, 1443, 1444, 1445, 1446, 1447, 1448, 1449, 1450, 1451, 1452, 1453, 1454, 1455, 1456, 1457, 1458, 1459, 474, 475, 476, 1460, 1461, 1462, 1463, 493, 196, 197, 198, 165, 166, 167, 168, 169, 174, 175, 176, 177, 1486, 1487, 1488, 1489, 1490, 1491, 1492, 1493, 1494, 1495, 1496, 1497, 1498, 1499, 1500, 1501, 1502, 1503, 1504, 1505, 1506, 1507, 1508, 1509, 1510, 1511, 1512] (by decide +kernel) (by decide +kernel)
set_option maxRecDepth 20000 in
theorem gL_law_X8_setupByte : GoodIn wsL_law (wsV RL 334 RX8 yX8_setupByte wsX8_setupByte) := goodIn_app (goodIn_of _ (by decide +kernel)) ggL_law_X8_setupByte
