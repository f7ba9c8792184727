theorem in_places {big ws : List Cond} (ps : List Nat) (hp : ws = ps.filterMap (fun i => big[i]?)) : ∀ w ∈ ws, w ∈ big := by
  intro w hw
  rw [hp] at hw
  obtain ⟨i, -, hi⟩ := List.mem_filterMap.mp hw
  exact List.mem_of_getElem? hi
theorem in_app {a b big : List Cond} (ha : ∀ w ∈ a, w ∈ big) (hb : ∀ w ∈ b, w ∈ big) : ∀ w ∈ a ++ b, w ∈ big := fun w h => (List.mem_append.mp h).elim (ha w) (hb w)
set_option maxRecDepth 20000 in
theorem inLr1 : ∀ w ∈ wsL_law_r1, w ∈ lw_tbl := in_places [63, 64, 48, 658, 659, 55, 995, 65, 66, 67, 68, 69, 70, 71, 72, 49, 236, 101, 102, 50, 237, 238, 150, 151] (by decide +kernel)
set_option maxRecDepth 20000 in
theorem inLr2 : ∀ w ∈ wsL_law_r2, w ∈ lw_tbl := in_places [51, 239, 180, 181, 52, 240, 197, 198, 53, 241, 215, 242, 217, 54, 74, 75, 76, 100, 77, 103, 104, 105, 106, 107] (by decide +kernel)
set_option maxRecDepth 20000 in
theorem inLr3 : ∀ w ∈ wsL_law_r3, w ∈ lw_tbl := in_places [108, 109, 110, 111, 115, 118, 119, 122, 126, 129, 132, 153, 154, 155, 159, 167, 182, 183, 184, 185, 186, 189, 200, 201] (by decide +kernel)
set_option maxRecDepth 20000 in
theorem inLr4 : ∀ w ∈ wsL_law_r4, w ∈ lw_tbl := in_places [202, 214, 203, 204, 219, 220, 221, 222, 224, 232, 234, 0, 235, 660, 661, 662, 663, 670, 677, 678, 679, 690, 691, 774] (by decide +kernel)
set_option maxRecDepth 20000 in
theorem inLr5 : ∀ w ∈ wsL_law_r5, w ∈ lw_tbl := in_places [692, 693, 695, 696, 698, 699, 700, 701, 682, 683, 664, 666, 21, 667, 680, 261, 262, 263, 264, 265, 266, 267, 268, 78] (by decide +kernel)
set_option maxRecDepth 20000 in
theorem inLr6 : ∀ w ∈ wsL_law_r6, w ∈ lw_tbl := in_places [269, 270, 271, 272, 775, 776, 777, 778, 668, 671, 782, 779, 780, 781, 273, 274, 275, 276, 277, 278, 279, 280, 783, 784] (by decide +kernel)
set_option maxRecDepth 20000 in
theorem inLr7 : ∀ w ∈ wsL_law_r7, w ∈ lw_tbl := in_places [785, 786, 281, 282, 283, 284, 285, 286, 287, 288, 83, 84, 80, 82, 289, 290, 292, 1, 293, 294, 296, 2, 297, 298] (by decide +kernel)
set_option maxRecDepth 20000 in
theorem inLr8 : ∀ w ∈ wsL_law_r8, w ∈ lw_tbl := in_places [299, 300, 301, 303, 3, 304, 306, 308, 4, 309, 310, 311, 312, 56, 313, 996, 314, 315, 316, 317, 318, 997, 320, 321] (by decide +kernel)
set_option maxRecDepth 20000 in
theorem inLr9 : ∀ w ∈ wsL_law_r9, w ∈ lw_tbl := in_places [322, 323, 324, 325, 326, 327, 328, 329, 57, 330, 331, 332, 333, 334, 336, 337, 58, 338, 339, 340, 59, 341, 342, 343] (by decide +kernel)
set_option maxRecDepth 20000 in
theorem inLr10 : ∀ w ∈ wsL_law_r10, w ∈ lw_tbl := in_places [344, 345, 346, 347, 348, 349, 350, 351, 352, 354, 356, 362, 364, 5, 365, 366, 368, 6, 369, 81, 370, 372, 7, 373] (by decide +kernel)
set_option maxRecDepth 20000 in
theorem inLr11 : ∀ w ∈ wsL_law_r11, w ∈ lw_tbl := in_places [374, 376, 8, 377, 378, 379, 60, 380, 381, 382, 383, 384, 385, 387, 9, 388, 389, 391, 10, 392, 393, 394, 395, 396] (by decide +kernel)
set_option maxRecDepth 20000 in
theorem inLr12 : ∀ w ∈ wsL_law_r12, w ∈ lw_tbl := in_places [397, 399, 11, 400, 401, 402, 403, 787, 788, 789, 790, 676, 672, 685, 686, 687, 688, 689, 673, 681, 684, 697, 694, 791] (by decide +kernel)
set_option maxRecDepth 20000 in
theorem inLr13 : ∀ w ∈ wsL_law_r13, w ∈ lw_tbl := in_places [793, 22, 794, 674, 675, 795, 797, 23, 798, 799, 800, 801, 802, 803, 804, 805, 806, 807, 808, 809, 811, 24, 812, 813] (by decide +kernel)
set_option maxRecDepth 20000 in
theorem inLr14 : ∀ w ∈ wsL_law_r14, w ∈ lw_tbl := in_places [815, 25, 816, 817, 819, 26, 820, 821, 823, 27, 824, 825, 827, 28, 828, 404, 405, 406, 407, 408, 409, 410, 411, 412] (by decide +kernel)
set_option maxRecDepth 20000 in
theorem inLr15 : ∀ w ∈ wsL_law_r15, w ∈ lw_tbl := in_places [413, 414, 415, 416, 417, 418, 419, 420, 421, 422, 423, 424, 425, 426, 427, 428, 61, 429, 430, 431, 432, 829, 830, 831] (by decide +kernel)
set_option maxRecDepth 20000 in
theorem inLr16 : ∀ w ∈ wsL_law_r16, w ∈ lw_tbl := in_places [832, 833, 835, 29, 836, 837, 838, 839, 433, 434, 435, 436, 437, 438, 439, 440, 441, 840, 841, 842, 843, 844, 846, 30] (by decide +kernel)
set_option maxRecDepth 20000 in
theorem inLr17 : ∀ w ∈ wsL_law_r17, w ∈ lw_tbl := in_places [847, 442, 443, 444, 445, 446, 447, 448, 449, 450, 451, 452, 190, 453, 455, 12, 456, 457, 458, 459, 460, 156, 162, 165] (by decide +kernel)
set_option maxRecDepth 20000 in
theorem inLr18 : ∀ w ∈ wsL_law_r18, w ∈ lw_tbl := in_places [461, 463, 13, 464, 465, 466, 468, 14, 469, 470, 471, 472, 473, 475, 476, 477, 478, 474, 848, 849, 850, 851, 856, 857] (by decide +kernel)
set_option maxRecDepth 20000 in
theorem inLr19 : ∀ w ∈ wsL_law_r19, w ∈ lw_tbl := in_places [852, 854, 31, 855, 858, 860, 32, 861, 862, 864, 33, 865, 479, 480, 481, 482, 866, 867, 868, 869, 483, 484, 485, 486] (by decide +kernel)
set_option maxRecDepth 20000 in
theorem inLr20 : ∀ w ∈ wsL_law_r20, w ∈ lw_tbl := in_places [870, 871, 872, 873, 487, 488, 489, 490, 491, 492, 493, 494, 874, 875, 876, 877, 495, 496, 497, 498, 499, 500, 501, 502] (by decide +kernel)
set_option maxRecDepth 20000 in
theorem inLr21 : ∀ w ∈ wsL_law_r21, w ∈ lw_tbl := in_places [503, 504, 505, 506, 507, 508, 878, 879, 880, 881, 882, 884, 34, 885, 886, 888, 35, 889, 509, 510, 511, 512, 890, 891] (by decide +kernel)
set_option maxRecDepth 20000 in
theorem inLr22 : ∀ w ∈ wsL_law_r22, w ∈ lw_tbl := in_places [892, 893, 513, 514, 515, 516, 517, 518, 62, 519, 520, 521, 522, 523, 524, 525, 526, 527, 528, 529, 530, 531, 532, 533] (by decide +kernel)
set_option maxRecDepth 20000 in
theorem inLr23 : ∀ w ∈ wsL_law_r23, w ∈ lw_tbl := in_places [534, 535, 536, 537, 538, 539, 894, 895, 896, 897, 898, 900, 36, 901, 902, 904, 37, 905, 906, 907, 908, 909, 911, 38] (by decide +kernel)
set_option maxRecDepth 20000 in
theorem inLr24 : ∀ w ∈ wsL_law_r24, w ∈ lw_tbl := in_places [912, 913, 915, 39, 916, 917, 919, 40, 920, 540, 541, 542, 543, 544, 545, 546, 547, 548, 549, 550, 551, 552, 553, 554] (by decide +kernel)
set_option maxRecDepth 20000 in
theorem inLr25 : ∀ w ∈ wsL_law_r25, w ∈ lw_tbl := in_places [555, 556, 557, 558, 559, 560, 921, 922, 923, 924, 925, 927, 41, 928, 561, 562, 563, 564, 929, 930, 931, 932, 565, 566] (by decide +kernel)
set_option maxRecDepth 20000 in
theorem inLr26 : ∀ w ∈ wsL_law_r26, w ∈ lw_tbl := in_places [567, 568, 569, 570, 571, 572, 573, 574, 575, 576, 577, 578, 933, 934, 935, 936, 702, 937, 939, 42, 940, 941, 943, 43] (by decide +kernel)
set_option maxRecDepth 20000 in
theorem inLr27 : ∀ w ∈ wsL_law_r27, w ∈ lw_tbl := in_places [944, 945, 947, 44, 948, 949, 951, 45, 952, 579, 580, 581, 582, 583, 584, 585, 586, 587, 205, 953, 954, 955, 956, 588] (by decide +kernel)
set_option maxRecDepth 20000 in
theorem inLr28 : ∀ w ∈ wsL_law_r28, w ∈ lw_tbl := in_places [589, 590, 591, 957, 958, 959, 960, 592, 593, 594, 595, 596, 597, 598, 599, 600, 601, 602, 603, 604, 605, 606, 961, 962] (by decide +kernel)
set_option maxRecDepth 20000 in
theorem inLr29 : ∀ w ∈ wsL_law_r29, w ∈ lw_tbl := in_places [963, 964, 965, 967, 46, 968, 607, 608, 609, 610, 611, 612, 614, 15, 615, 243, 616, 618, 16, 619, 620, 621, 623, 17] (by decide +kernel)
set_option maxRecDepth 20000 in
theorem inLr30 : ∀ w ∈ wsL_law_r30, w ∈ lw_tbl := in_places [624, 625, 626, 628, 18, 629, 630, 631, 633, 19, 634, 635, 636, 638, 20, 639, 640, 969, 970, 971, 972, 973, 669, 974] (by decide +kernel)
set_option maxRecDepth 20000 in
theorem inLr31 : ∀ w ∈ wsL_law_r31, w ∈ lw_tbl := in_places [975, 976, 977, 978, 641, 642, 643, 644, 645, 979, 980, 981, 982, 646, 647, 648, 649, 983, 984, 985, 986, 650, 651, 652] (by decide +kernel)
set_option maxRecDepth 20000 in
theorem inLr32 : ∀ w ∈ wsL_law_r32, w ∈ lw_tbl := in_places [653, 987, 988, 989, 990, 654, 655, 656, 657, 991, 992, 993, 994] (by decide +kernel)
set_option maxRecDepth 20000 in
theorem inLX7 : ∀ w ∈ wsX70, w ∈ lw_tbl := in_places [244, 246, 248, 250, 252, 254, 256, 258] (by decide +kernel)
set_option maxRecDepth 20000 in
theorem inLX8 : ∀ w ∈ wsX80, w ∈ lw_tbl := in_places [703, 705, 707, 709, 711, 713, 715, 717, 719, 721, 723, 725, 727, 729, 731, 733, 735, 737, 739, 741, 743, 745, 747, 749, 751, 753, 755, 757, 759, 761, 763, 765, 767, 769, 771] (by decide +kernel)
set_option maxRecDepth 20000 in
theorem inLX6 : ∀ w ∈ wsX60, w ∈ lw_tbl := in_places [85, 87, 89, 91, 93, 95, 97] (by decide +kernel)
set_option maxRecDepth 20000 in
theorem inLX2 : ∀ w ∈ wsX20, w ∈ lw_tbl := in_places [133, 135, 137, 139, 141, 143, 145, 147] (by decide +kernel)
set_option maxRecDepth 20000 in
theorem inLX1 : ∀ w ∈ wsX10, w ∈ lw_tbl := in_places [169, 171, 173, 175, 177] (by decide +kernel)
set_option maxRecDepth 20000 in
theorem inLX3 : ∀ w ∈ wsX30, w ∈ lw_tbl := in_places [192, 194] (by decide +kernel)
set_option maxRecDepth 20000 in
theorem inLX5 : ∀ w ∈ wsX50, w ∈ lw_tbl := in_places [207, 209, 211] (by decide +kernel)
set_option maxRecDepth 20000 in
theorem inLX0 : ∀ w ∈ wsX00, w ∈ lw_tbl := in_places [227, 229] (by decide +kernel)
theorem wsL_law_in : ∀ w ∈ wsL_law, w ∈ lw_tbl := in_app (in_app (in_app (in_app (in_app (in_app (in_app (in_app (in_app (in_app inLr1 (in_app inLr2 (in_app inLr3 (in_app inLr4 (in_app inLr5 (in_app inLr6 (in_app inLr7 (in_app inLr8 (in_app inLr9 (in_app inLr10 (in_app inLr11 (in_app inLr12 (in_app inLr13 (in_app inLr14 (in_app inLr15 (in_app inLr16 (in_app inLr17 (in_app inLr18 (in_app inLr19 (in_app inLr20 (in_app inLr21 (in_app inLr22 (in_app inLr23 (in_app inLr24 (in_app inLr25 (in_app inLr26 (in_app inLr27 (in_app inLr28 (in_app inLr29 (in_app inLr30 (in_app inLr31 (inLr32)))))))))))))))))))))))))))))))) inLX7) inLX8) inLX6) inLX2) inLX1) inLX3) inLX5) inLX0) (fun _ h => absurd h List.not_mem_nil)
section MYL
variable {p : Program} {l : Launch} {e : Env} {R : Room} {s : State} {m : MethodId} {args : Array Value} {below : List Frame} {meth : Method} {c : Code} {H : Heap} {locs : List Loc} {cells slots : Nat} {Q : State → Prop}
variable {cc : ByteArray} {pc : Nat} {ls : Array Slot} {rest st0 : List Value} {D : va_G} {cB cI cZ cM cN : ClassId}
theorem muVl {y : MethodName} {ws : List Cond} {rm : Room} {bytes : ByteArray} {maxL nL n index : Nat} {ret : Option FieldType} {Ts : List Cond} {own C : String} {b : Addr} {As : List Value} {ws0 wc wr w1 ws1 : va_W} {A : Nat → Prop} {r : Int64} {ci : Nat} {q : vw_C} {fs : List Value}
    (hM : Met l y ws rm (PM D cB cI cZ cM cN (.ref b :: As) wc H.size) (QL D w1 r (va_A wc H.size)) 0 0 (va_A wc H.size)) (S : CallFix p m c cc nL s args Ts own) (cw : CallW R s args own C index y bytes maxL ret ws rm 0 0 n)
    (hP : va_P D vwCl ws0 H) (hK : KK D cB cI cZ cM cN s) (hD : va_D A ws0) (hA : ∀ q : Nat, s.heap.size ≤ q → A q) (hS : va_S A s.heap H locs)
    (isC isR pm : List Nat) (hC : isC.map (fun i => ws0[i]?) = wc.map some) (hR : isR.map (fun i => ws0[i]?) = wr.map some) (hnC : va_nd isC = true) (hn : va_nd isR = true) (hdis : ∀ i ∈ isR, i ∉ isC) (hn2 : va_nd pm = true) (hpm : pm.map (fun i => (wr ++ w1)[i]?) = ws1.map some)
    (hc : vwCl[ci]? = some q) (he : wc[0]? = some (b, .inr (ci, fs))) (hCl : q.1 = C)
    (hAn : As.length = n) (hsize : ls.size = nL) (hstack : st0 = As.reverse ++ .ref b :: rest) (hW : (rest.map fun v => v.category).sum ≤ 8) (hdg : decode cc pc = .ok (.invokevirtual index, 3)) (hf : cells + 0 ≤ R.cells ∧ slots + 0 ≤ R.slots)
    (kk : ∀ (H : Heap) (locs : List Loc), va_P D vwCl ws1 H → va_D A ws1 → va_S A s.heap H locs → W p l e R s m args below meth c H locs cells slots Q (F0 m (pc + 3) ls (.long r :: rest))) : W p l e R s m args below meth c H locs cells slots Q (F0 m pc ls st0) := by
  subst hCl
  have hPc := subC hP isC hC
  have hDc := hD.sub isC hnC hC
  have hFc := va_free hD hS hA isC hC
  refine va_calll (va_runV (g := F0 m pc ls st0) (rest := rest) S hM cw ⟨PM.blind, va_recv hK.1 hPc hc he, fun U hU hWm => ⟨rfl, by rw [hU], by rw [hU]; exact hPc, hK.warm hWm, hDc.weaken (fun _ _ _ _ => trivial)⟩⟩ rfl hAn hsize hstack (lv_room hW) hdg hf) hS (fun q _ h => hFc q h) hFc (fun z u t H1 locs ht hvm hw hB hz1 hk1 hS1 => ?_)
  subst hw
  obtain ⟨hP1, hD1⟩ := hB
  rw [ht] at hP1
  obtain ⟨a, b⟩ := backIn hP hD isC isR pm hC hR hn hdis hn2 hpm hk1 hFc hP1 hD1
  exact kk H1 locs a b hS1
end MYL
theorem lg_cmp_self (r : Int64) : lg_cmp r r = 0 := by
  unfold lg_cmp
  rw [if_neg (show ¬ r > r from Int64.lt_irrefl), if_pos rfl]
