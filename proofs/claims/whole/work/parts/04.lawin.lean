set_option maxRecDepth 20000 in
theorem wsL_law0_r1_in : GoodIn lw_tbl wsL_law0_r1 := goodIn_r _ [29, 30, 19, 469, 470, 20, 700, 699, 31, 32, 33, 34, 35, 36, 37, 41, 42, 39, 54, 43, 44, 471, 472, 473] (by decide +kernel) (by decide +kernel)
set_option maxRecDepth 20000 in
theorem wsL_law0_r2_in : GoodIn lw_tbl wsL_law0_r2 := goodIn_r _ [474, 475, 476, 477, 478, 506, 479, 480, 482, 483, 59, 60, 18, 61, 62, 63, 64, 65, 66, 67, 68, 24, 140, 25] (by decide +kernel) (by decide +kernel)
set_option maxRecDepth 20000 in
theorem wsL_law0_r3_in : GoodIn lw_tbl wsL_law0_r3 := goodIn_r _ [156, 26, 136, 137, 138, 157, 158, 159, 160, 161, 163, 165, 167, 168, 169, 170, 171, 511, 512, 513, 514, 481, 515, 516] (by decide +kernel) (by decide +kernel)
set_option maxRecDepth 20000 in
theorem wsL_law0_r4_in : GoodIn lw_tbl wsL_law0_r4 := goodIn_r _ [517, 518, 519, 520, 521, 523, 5, 524, 484, 507, 508, 509, 510, 55, 56, 57, 58, 525, 526, 527, 528, 189, 190, 191] (by decide +kernel) (by decide +kernel)
set_option maxRecDepth 20000 in
theorem wsL_law0_r5_in : GoodIn lw_tbl wsL_law0_r5 := goodIn_r _ [192, 193, 194, 195, 196, 166, 197, 199, 1, 200, 201, 27, 217, 218, 219, 220, 221, 222, 223, 224, 226, 227, 228, 229] (by decide +kernel) (by decide +kernel)
set_option maxRecDepth 20000 in
theorem wsL_law0_r6_in : GoodIn lw_tbl wsL_law0_r6 := goodIn_r _ [230, 231, 232, 233, 234, 235, 236, 237, 238, 239, 240, 241, 242, 243, 529, 530, 531, 532, 533, 535, 6, 536, 537, 539] (by decide +kernel) (by decide +kernel)
set_option maxRecDepth 20000 in
theorem wsL_law0_r7_in : GoodIn lw_tbl wsL_law0_r7 := goodIn_r _ [7, 540, 541, 543, 8, 544, 545, 547, 9, 548, 549, 551, 10, 552, 553, 554, 555, 244, 245, 246, 247, 248, 249, 250] (by decide +kernel) (by decide +kernel)
set_option maxRecDepth 20000 in
theorem wsL_law0_r8_in : GoodIn lw_tbl wsL_law0_r8 := goodIn_r _ [162, 251, 252, 253, 254, 556, 557, 558, 559, 560, 562, 11, 563, 564, 566, 12, 567, 255, 256, 257, 258, 259, 260, 261] (by decide +kernel) (by decide +kernel)
set_option maxRecDepth 20000 in
theorem wsL_law0_r9_in : GoodIn lw_tbl wsL_law0_r9 := goodIn_r _ [263, 264, 265, 266, 267, 568, 569, 570, 571, 572, 574, 13, 575, 268, 269, 270, 271, 272, 273, 274, 275, 277, 576, 577] (by decide +kernel) (by decide +kernel)
set_option maxRecDepth 20000 in
theorem wsL_law0_r10_in : GoodIn lw_tbl wsL_law0_r10 := goodIn_r _ [578, 579, 580, 278, 279, 280, 281, 282, 283, 284, 285, 286, 287, 289, 290, 291, 293, 295, 2, 296, 581, 582, 583, 584] (by decide +kernel) (by decide +kernel)
set_option maxRecDepth 20000 in
theorem wsL_law0_r11_in : GoodIn lw_tbl wsL_law0_r11 := goodIn_r _ [585, 586, 587, 588, 589, 590, 591, 593, 14, 594, 298, 299, 300, 301, 302, 303, 304, 595, 596, 597, 598, 306, 307, 308] (by decide +kernel) (by decide +kernel)
set_option maxRecDepth 20000 in
theorem wsL_law0_r12_in : GoodIn lw_tbl wsL_law0_r12 := goodIn_r _ [309, 310, 311, 312, 599, 600, 601, 602, 313, 314, 315, 316, 317, 318, 319, 320, 322, 3, 323, 603, 604, 605, 606, 607] (by decide +kernel) (by decide +kernel)
set_option maxRecDepth 20000 in
theorem wsL_law0_r13_in : GoodIn lw_tbl wsL_law0_r13 := goodIn_r _ [609, 15, 610, 325, 326, 327, 328, 329, 330, 331, 611, 612, 613, 614, 333, 334, 335, 336, 337, 338, 339, 615, 616, 617] (by decide +kernel) (by decide +kernel)
set_option maxRecDepth 20000 in
theorem wsL_law0_r14_in : GoodIn lw_tbl wsL_law0_r14 := goodIn_r _ [618, 340, 341, 342, 343, 344, 345, 346, 619, 620, 621, 622, 347, 348, 349, 350, 351, 352, 353, 354, 356, 4, 357, 623] (by decide +kernel) (by decide +kernel)
set_option maxRecDepth 20000 in
theorem wsL_law0_r15_in : GoodIn lw_tbl wsL_law0_r15 := goodIn_r _ [624, 625, 626, 627, 629, 16, 630, 358, 359, 360, 361, 362, 363, 364, 631, 632, 633, 634, 366, 367, 368, 369, 370, 371] (by decide +kernel) (by decide +kernel)
set_option maxRecDepth 20000 in
theorem wsL_law0_r16_in : GoodIn lw_tbl wsL_law0_r16 := goodIn_r _ [372, 373, 374, 375, 376, 635, 636, 637, 638, 377, 378, 379, 380, 381, 382, 383, 392, 384, 385, 386, 388, 389, 390, 391] (by decide +kernel) (by decide +kernel)
set_option maxRecDepth 20000 in
theorem wsL_law0_r17_in : GoodIn lw_tbl wsL_law0_r17 := goodIn_r _ [639, 640, 641, 642, 647, 643, 645, 17, 646, 393, 394, 395, 396, 397, 398, 399, 400, 648, 649, 650, 651, 401, 402, 403] (by decide +kernel) (by decide +kernel)
set_option maxRecDepth 20000 in
theorem wsL_law0_r18_in : GoodIn lw_tbl wsL_law0_r18 := goodIn_r _ [404, 405, 406, 407, 164, 408, 652, 653, 654, 655, 409, 410, 411, 412, 413, 414, 415, 656, 657, 658, 659, 416, 417, 418] (by decide +kernel) (by decide +kernel)
set_option maxRecDepth 20000 in
theorem wsL_law0_r19_in : GoodIn lw_tbl wsL_law0_r19 := goodIn_r _ [419, 420, 421, 422, 427, 423, 424, 425, 660, 661, 662, 663, 667, 664, 665, 666, 428, 429, 430, 431, 432, 433, 434, 435] (by decide +kernel) (by decide +kernel)
set_option maxRecDepth 20000 in
theorem wsL_law0_r20_in : GoodIn lw_tbl wsL_law0_r20 := goodIn_r _ [436, 437, 438, 439, 440, 441, 28, 442, 668, 669, 670, 671, 672, 673, 443, 444, 445, 446, 447, 448, 449, 450, 451, 452] (by decide +kernel) (by decide +kernel)
set_option maxRecDepth 20000 in
theorem wsL_law0_r21_in : GoodIn lw_tbl wsL_law0_r21 := goodIn_r _ [453, 454, 455, 456, 457, 458, 459, 674, 675, 676, 677, 678, 679, 680, 681, 682, 683, 684, 685, 686, 687, 688, 689, 690] (by decide +kernel) (by decide +kernel)
set_option maxRecDepth 20000 in
theorem wsL_law0_r22_in : GoodIn lw_tbl wsL_law0_r22 := goodIn_r _ [691, 692, 693, 694, 461, 462, 463, 464, 465, 466, 467, 695, 696, 697, 698] (by decide +kernel) (by decide +kernel)
set_option maxRecDepth 20000 in
theorem wsL_law0_X10_in : GoodIn lw_tbl wsX10 := goodIn_of _ (by decide +kernel)
set_option maxRecDepth 20000 in
theorem wsL_law0_X20_in : GoodIn lw_tbl wsX20 := goodIn_of _ (by decide +kernel)
set_option maxRecDepth 20000 in
theorem wsL_law0_X00_in : GoodIn lw_tbl wsX00 := goodIn_of _ (by decide +kernel)
