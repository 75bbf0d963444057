/-! ===== the words lie in the tables ===== -/
/-- words of B lie in T at the places I, or in S -/
def chkI (T S : List Cond) : List Cond → List (Option Nat) → Bool
  | [], _ => true
  | w :: ws, some i :: is => decide (T[i]? = some w) && chkI T S ws is
  | w :: ws, none :: is => decide (w ∈ S) && chkI T S ws is
  | _ :: _, [] => false
theorem chkI_ok {T S : List Cond} : ∀ (B : List Cond) (I : List (Option Nat)), chkI T S B I = true → ∀ w ∈ B, w ∈ S ++ T
  | [], _, _, w, hw => absurd hw List.not_mem_nil
  | v :: B, some i :: I, h, w, hw => by
    simp only [chkI, Bool.and_eq_true, decide_eq_true_eq] at h
    rcases List.mem_cons.mp hw with rfl | hw
    · exact List.mem_append_right _ (List.mem_of_getElem? h.1)
    · exact chkI_ok B I h.2 w hw
  | v :: B, none :: I, h, w, hw => by
    simp only [chkI, Bool.and_eq_true, decide_eq_true_eq] at h
    rcases List.mem_cons.mp hw with rfl | hw
    · exact List.mem_append_left _ h.1
    · exact chkI_ok B I h.2 w hw
  | v :: B, [], h, w, hw => by cases h
theorem bt0 : ∀ w ∈ B0, w ∈ lw_tbl := chkI_ok (T := tables_1) (S := k2_sels lw_privs) B0 [some 0, some 1, some 2, some 3, some 4, some 5, some 6, some 7, some 8, some 9, some 10, some 17, some 20, some 21, some 22, some 23, some 24, some 25, some 26, some 27, some 28, some 29, some 30, some 31, some 33, some 34, some 35, some 36, some 37, some 38, some 39, some 40, some 41, some 42, some 44, some 45, some 46, some 47, some 48, some 49] (by decide +kernel)
theorem bt1 : ∀ w ∈ B1, w ∈ lw_tbl := chkI_ok (T := tables_1) (S := k2_sels lw_privs) B1 [some 50, some 51, some 52, some 53, some 54, some 55, some 56, some 57, some 58, some 59, some 60, some 61, some 62, some 63, some 65, some 66, some 67, some 68, some 69, some 70, some 71, some 72, some 73, some 74, some 75, some 76, some 77, some 78, some 79, some 80, some 81, some 82, some 83, some 84, some 85, some 86, some 87, some 88, some 89, some 90] (by decide +kernel)
theorem bt2 : ∀ w ∈ B2, w ∈ lw_tbl := chkI_ok (T := tables_1) (S := k2_sels lw_privs) B2 [some 91, some 92, some 93, some 94, some 96, some 97, some 98, some 100, some 101, some 102, some 103, some 104, some 105, some 106, some 107, some 108, some 109, some 110, some 111, some 114, some 116, some 117, some 118, some 119, some 120, some 121, some 122, some 123, some 124, some 125, some 126, some 127, some 128, some 129, some 130, some 131, some 132, some 133, some 134, some 135] (by decide +kernel)
theorem bt3 : ∀ w ∈ B3, w ∈ lw_tbl := chkI_ok (T := tables_1) (S := k2_sels lw_privs) B3 [some 136, some 137, some 138, some 139, some 140, some 141, some 142, some 143, some 144, some 146, some 147, some 148, some 149, some 150, some 151, some 152, some 153, some 154, some 155, some 156, some 157, some 158, some 159, some 160, some 161, some 162, some 163, some 164, some 165, some 166, some 167, some 168, some 169, some 170, some 171, some 172, some 173, some 174, some 175, some 176] (by decide +kernel)
theorem bt4 : ∀ w ∈ B4, w ∈ lw_tbl := chkI_ok (T := tables_1) (S := k2_sels lw_privs) B4 [some 177, some 178, some 179, some 180, some 181, some 182, some 184, some 192, some 193, some 194, some 195, some 196, some 197, some 198, some 199, some 200, some 201, some 202, some 203, some 204, some 205, some 206, some 207, some 208, some 209, some 211, some 213, some 214, some 215, some 216, some 217, some 218, some 219, some 221, some 222, some 223, some 255, some 291, some 292, some 293] (by decide +kernel)
theorem bt5 : ∀ w ∈ B5, w ∈ lw_tbl := chkI_ok (T := tables_1) (S := k2_sels lw_privs) B5 [some 294, some 301, some 302, some 390, some 392, some 442, some 443, some 444, some 445, some 446, some 447, some 448, some 449, some 450, some 451, some 452, some 454, some 455, some 456, some 457, some 458, some 459, some 460, some 461, some 462, some 463, some 464, some 465, some 490, some 492, some 493, some 494, some 496, some 497, some 498, some 500, some 501, some 502, some 503, some 504] (by decide +kernel)
theorem bt6 : ∀ w ∈ B6, w ∈ lw_tbl := chkI_ok (T := tables_1) (S := k2_sels lw_privs) B6 [some 505, some 506, some 507, some 508, some 509, some 510, some 511, some 512, some 513, some 514, some 515, some 516, some 517, some 518, some 519, some 520, some 521, some 523, some 524, some 525, some 526, some 527, some 528, some 529, some 530, some 531, some 532, some 533, some 534, some 535, some 536, some 537, some 538, some 539, some 540, some 541, some 542, some 543, some 544, some 545] (by decide +kernel)
theorem bt7 : ∀ w ∈ B7, w ∈ lw_tbl := chkI_ok (T := tables_1) (S := k2_sels lw_privs) B7 [some 546, some 547, some 548, some 549, some 550, some 551, some 552, some 553, some 554, some 556, some 557, some 558, some 560, some 561, some 562, some 563, some 564, some 565, some 566, some 567, some 568, some 569, some 570, some 571, some 572, some 574, some 575, some 576, some 577, some 578, some 579, some 580, some 581, some 582, some 583, some 584, some 585, some 586, some 587, some 588] (by decide +kernel)
theorem bt8 : ∀ w ∈ B8, w ∈ lw_tbl := chkI_ok (T := tables_1) (S := k2_sels lw_privs) B8 [some 589, some 590, some 591, some 592, some 593, some 594, some 595, some 596, some 597, some 598, some 599, some 600, some 602, some 604, some 606, some 607, some 608, some 609, some 610, some 611, some 612, some 613, some 614, some 615, some 616, some 617, some 618, some 619, some 620, some 621, some 622, some 623, some 624, some 625, some 626, some 628, some 629, some 630, some 631, some 632] (by decide +kernel)
theorem bt9 : ∀ w ∈ B9, w ∈ lw_tbl := chkI_ok (T := tables_1) (S := k2_sels lw_privs) B9 [some 633, some 634, some 635, some 637, some 638, some 639, some 641, some 642, some 643, some 645, some 646, some 647, some 648, some 649, some 650, some 651, some 652, some 653, some 654, some 655, some 656, some 657, some 658, some 659, some 660, some 662, some 663, some 664, some 665, some 666, some 667, some 668, some 669, some 670, some 671, some 672, some 673, some 675, some 676, some 677] (by decide +kernel)
theorem bt10 : ∀ w ∈ B10, w ∈ lw_tbl := chkI_ok (T := tables_1) (S := k2_sels lw_privs) B10 [some 678, some 680, some 681, some 682, some 683, some 684, some 685, some 687, some 688, some 689, some 690, some 691, some 692, some 693, some 694, some 695, some 696, some 697, some 698, some 699, some 700, some 702, some 703, some 704, some 705, some 706, some 708, some 709, some 710, some 711, some 712, some 713, some 714, some 715, some 716, some 717, some 719, some 720, some 721, some 722] (by decide +kernel)
theorem bt11 : ∀ w ∈ B11, w ∈ lw_tbl := chkI_ok (T := tables_1) (S := k2_sels lw_privs) B11 [some 723, some 724, some 726, some 727, some 728, some 729, some 730, some 731, some 732, some 733, some 734, some 735, some 736, some 737, some 738, some 739, some 740, some 741, some 742, some 743, some 744, some 745, some 746, some 747, some 748, some 749, some 750, some 751, some 752, some 753, some 754, some 755, some 756, some 757, some 758, some 759, some 760, some 761, some 762, some 763] (by decide +kernel)
theorem bt12 : ∀ w ∈ B12, w ∈ lw_tbl := chkI_ok (T := tables_1) (S := k2_sels lw_privs) B12 [some 764, some 765, some 766, some 767, some 768, some 769, some 770, some 771, some 772, some 773, some 774, some 775, some 776, some 777, some 778, some 779, some 780, some 781, some 782, some 783, some 784, some 785, some 786, some 787, some 788, some 789, some 790, some 791, some 792, some 793, some 794, some 795, some 796, some 797, some 798, some 799, some 800, some 801, some 802, some 803] (by decide +kernel)
theorem bt13 : ∀ w ∈ B13, w ∈ lw_tbl := chkI_ok (T := tables_1) (S := k2_sels lw_privs) B13 [some 804, some 805, some 806, some 807, some 808, some 810, some 811, some 812, some 813, some 814, some 815, some 816, some 818, some 819, some 820, some 822, some 823, some 824, some 825, some 826, some 827, some 828, some 829, some 830, some 831, some 832, some 834, some 835, some 836, some 838, some 839, some 840, some 842, some 843, some 844, some 845, some 846, some 847, some 848, some 849] (by decide +kernel)
theorem bt14 : ∀ w ∈ B14, w ∈ lw_tbl := chkI_ok (T := tables_1) (S := k2_sels lw_privs) B14 [some 850, some 851, some 852, some 854, some 855, some 856, some 858, some 859, some 860, some 862, some 863, some 864, some 865, some 866, some 867, some 868, some 870, some 871, some 872, some 874, some 875, some 876, some 877, some 878, some 879, some 880, some 881, some 882, some 883, some 884, some 885, some 886, some 887, some 889, some 890, some 891, some 892, some 893, some 894, some 895] (by decide +kernel)
theorem bt15 : ∀ w ∈ B15, w ∈ lw_tbl := chkI_ok (T := tables_1) (S := k2_sels lw_privs) B15 [some 897, some 898, some 899, some 901, some 902, some 903, some 905, some 906, some 907, some 909, some 910, some 911, some 913, some 914, some 915, some 917, some 918, some 919, some 920, some 921, some 922, some 923, some 925, some 926, some 927, some 929, some 930, some 931, some 932, some 933, some 934, some 935, some 936, some 937, some 938, some 939, some 940, some 941, some 942, some 943] (by decide +kernel)
theorem bt16 : ∀ w ∈ B16, w ∈ lw_tbl := chkI_ok (T := tables_1) (S := k2_sels lw_privs) B16 [some 944, some 945, some 946, some 947, some 948, none, none, none, none, none, none, none, none, none, none, none, none, none, none, none, none, none, none, none, none, none, none, none, none, none, none, none, none, none, none, none, none, none, none, none] (by decide +kernel)
theorem bt17 : ∀ w ∈ B17, w ∈ lw_tbl := chkI_ok (T := tables_1) (S := k2_sels lw_privs) B17 [none, none, none, none] (by decide +kernel)
theorem BIG_tbl : ∀ w ∈ BIG, w ∈ lw_tbl := by
  intro w hw
  simp only [BIG, List.mem_append] at hw
  rcases hw with h | h | h | h | h | h | h | h | h | h | h | h | h | h | h | h | h | h
  · exact bt0 w h
  · exact bt1 w h
  · exact bt2 w h
  · exact bt3 w h
  · exact bt4 w h
  · exact bt5 w h
  · exact bt6 w h
  · exact bt7 w h
  · exact bt8 w h
  · exact bt9 w h
  · exact bt10 w h
  · exact bt11 w h
  · exact bt12 w h
  · exact bt13 w h
  · exact bt14 w h
  · exact bt15 w h
  · exact bt16 w h
  · exact bt17 w h
