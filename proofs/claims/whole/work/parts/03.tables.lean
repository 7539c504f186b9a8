/-! the tables of the links: by class number and constant pool place, printed by program (wip/whole/gen3.py) -/
def RR (cn : Nat) : String := [RX0, RX1, RX2, RX3, RX4, RX5, RX6, RX7, RX8, RX9, RX10, RX11, RX12, RJ6, RL].getD cn ""
def tyC (ci : Nat) : Nat → FieldType := [tyX0, tyX1, tyX2, tyX3, tyX4, tyX5, tyX6, tyX7, tyX8, tyX9, tyX10, tyX11, tyX12].getD ci (fun _ => .int)
def fTab : List (List (Nat × Nat × Nat × Nat)) := [[(9, 0, 0, 261), (15, 0, 1, 262), (18, 0, 2, 263), (21, 0, 3, 264), (24, 0, 4, 265), (28, 0, 5, 266), (32, 0, 6, 267), (35, 0, 7, 268), (39, 2, 2, 172), (63, 2, 1, 168), (70, 2, 0, 165)],
  [(9, 1, 0, 330), (15, 1, 4, 335), (18, 1, 5, 336), (21, 1, 6, 337), (24, 1, 1, 332), (28, 1, 2, 333), (31, 9, 1, 230), (37, 4, 3, 214), (43, 1, 3, 334), (48, 8, 5, 133), (58, 4, 0, 204), (76, 4, 2, 210), (79, 9, 0, 228), (83, 2, 5, 178)],
  [(9, 2, 0, 161), (15, 2, 1, 166), (18, 2, 2, 170), (21, 2, 3, 174), (24, 2, 4, 175), (27, 2, 5, 177), (31, 5, 3, 93), (36, 2, 6, 180), (42, 5, 0, 86), (49, 5, 1, 88)],
  [(9, 3, 0, 292), (15, 3, 1, 293), (18, 9, 0, 227), (34, 2, 0, 162), (44, 9, 1, 232), (48, 4, 2, 211), (53, 2, 2, 171), (56, 2, 1, 167), (73, 4, 0, 205)],
  [(9, 4, 0, 203), (15, 4, 1, 207), (18, 4, 2, 209), (21, 4, 3, 213), (25, 5, 4, 95), (31, 5, 2, 90), (45, 8, 5, 134), (70, 2, 4, 176), (73, 2, 0, 163), (80, 8, 3, 128)],
  [(9, 5, 0, 85), (15, 5, 1, 87), (20, 5, 2, 89), (23, 5, 5, 97), (44, 5, 3, 92), (48, 5, 4, 96), (51, 5, 6, 98)],
  [(11, 6, 0, 248), (20, 6, 1, 249)],
  [(9, 7, 0, 69), (15, 7, 1, 70)],
  [(9, 8, 0, 121), (15, 8, 1, 123), (18, 8, 2, 125), (21, 8, 3, 127), (24, 8, 4, 130), (27, 5, 4, 94), (33, 8, 5, 132), (36, 5, 2, 91)],
  [(10, 9, 0, 225), (21, 9, 1, 229)],
  [(9, 10, 0, 307), (17, 10, 2, 310), (21, 10, 3, 311), (24, 10, 1, 309), (28, 9, 1, 231), (32, 4, 3, 215), (41, 10, 4, 312)],
  [(10, 11, 0, 353), (19, 11, 1, 354), (26, 11, 2, 355), (35, 11, 3, 356), (42, 11, 4, 357), (46, 11, 5, 358), (50, 11, 6, 359), (56, 9, 0, 226), (63, 11, 7, 360), (72, 11, 8, 361), (81, 11, 9, 362), (88, 11, 10, 363), (118, 2, 5, 179), (124, 8, 5, 135), (131, 2, 6, 181), (134, 9, 1, 233), (150, 2, 0, 164), (154, 2, 1, 169), (157, 2, 2, 173), (164, 4, 0, 206), (167, 8, 0, 122), (170, 8, 1, 124), (173, 8, 2, 126), (176, 8, 3, 129), (179, 8, 4, 131), (182, 4, 1, 208), (185, 4, 2, 212), (219, 10, 0, 308), (223, 1, 0, 331)],
  [(7, 12, 1, 833), (13, 12, 4, 836), (17, 12, 6, 838), (20, 12, 7, 839), (23, 12, 8, 840), (26, 12, 9, 841), (29, 12, 10, 842), (32, 12, 11, 843), (35, 12, 12, 844), (38, 12, 13, 845), (41, 12, 14, 846), (44, 12, 15, 847), (47, 12, 16, 848), (50, 12, 21, 853), (53, 12, 22, 854), (56, 12, 23, 855), (59, 12, 24, 856), (62, 12, 26, 858), (65, 12, 27, 859), (69, 12, 28, 860), (72, 12, 29, 861), (75, 12, 30, 862), (78, 12, 31, 863), (81, 12, 32, 864), (84, 12, 33, 865), (87, 12, 36, 868), (90, 12, 37, 869), (93, 12, 38, 870), (96, 12, 39, 871), (99, 12, 40, 872), (102, 12, 41, 873), (105, 12, 42, 874), (108, 12, 0, 832), (115, 12, 5, 837), (122, 12, 2, 834), (125, 12, 3, 835), (128, 12, 18, 850), (131, 12, 20, 852), (141, 12, 19, 851), (156, 12, 17, 849), (159, 12, 25, 857), (169, 12, 35, 867), (179, 12, 34, 866)],
  [],
  []]
def fT (cn idx : Nat) : Option (Nat × Nat) := ((fTab.getD cn []).find? (fun q => q.1 == idx)).map (fun q => (q.2.1, q.2.2.1))
def mTab : List (List (Nat × Nat × Nat × Nat)) := [[(44, 5, 0, 801), (48, 6, 0, 805), (52, 16, 0, 809), (56, 19, 0, 810), (60, 18, 0, 811), (66, 22, 0, 812)],
  [(44, 10, 0, 699), (54, 9, 0, 710), (59, 12, 0, 714), (63, 13, 0, 718), (72, 14, 0, 724), (86, 11, 0, 703), (90, 74, 0, 707), (94, 21, 0, 708), (98, 38, 0, 709), (102, 68, 0, 722)],
  [(39, 18, 0, 468), (50, 20, 0, 559), (54, 21, 0, 645)],
  [(24, 19, 0, 640), (30, 22, 0, 641), (38, 74, 0, 654), (41, 77, 0, 655), (59, 164, 1, 750), (65, 32, 1, 756), (69, 31, 0, 759), (76, 39, 0, 763), (80, 21, 0, 764), (84, 23, 0, 765), (87, 38, 0, 769)],
  [(41, 36, 0, 568), (50, 39, 0, 584), (54, 38, 0, 592), (58, 24, 0, 596), (64, 70, 0, 603), (67, 69, 0, 607), (76, 71, 0, 611), (83, 68, 0, 588)],
  [(27, 62, 0, 415), (33, 63, 0, 419), (36, 45, 0, 424), (40, 46, 0, 428), (54, 58, 0, 432), (58, 48, 0, 436), (62, 47, 0, 448), (65, 49, 0, 440), (68, 50, 0, 444)],
  [(17, 72, 2, 247), (24, 55, 0, 547), (27, 74, 0, 551), (31, 75, 0, 623)],
  [(19, 62, 0, 423)],
  [],
  [(9, 15, 2, 157), (18, 33, 2, 199), (25, 17, 0, 464), (29, 34, 0, 475), (30, 19, 0, 555), (34, 35, 0, 563), (37, 20, 0, 627), (40, 36, 0, 628), (43, 21, 0, 576), (47, 37, 0, 580), (51, 76, 0, 659)],
  [(38, 72, 2, 306), (45, 42, 0, 672), (49, 80, 0, 676), (53, 74, 0, 680), (57, 76, 0, 681), (61, 81, 0, 682)],
  [(9, 57, 3, 65), (18, 43, 3, 79), (25, 64, 3, 117), (32, 72, 2, 151), (41, 51, 2, 241), (60, 0, 2, 257), (69, 26, 2, 288), (78, 78, 2, 301), (87, 7, 2, 326), (92, 59, 0, 391), (96, 60, 0, 395), (100, 61, 0, 403), (104, 44, 0, 411), (108, 65, 0, 456), (112, 73, 0, 460), (115, 53, 0, 479), (125, 52, 0, 487), (128, 25, 0, 491), (138, 41, 0, 495), (144, 1, 0, 499), (146, 58, 0, 503), (147, 16, 0, 508), (160, 40, 0, 512), (163, 66, 0, 520), (188, 109, 1, 540), (191, 54, 0, 543), (194, 76, 0, 572), (197, 56, 0, 619), (201, 110, 1, 633), (205, 27, 0, 636), (209, 28, 0, 650), (212, 67, 0, 664), (215, 79, 0, 668), (222, 8, 0, 695), (224, 29, 0, 736), (232, 30, 0, 746), (236, 32, 1, 770), (240, 111, 1, 771), (244, 2, 0, 781), (247, 3, 0, 789), (248, 4, 0, 797), (251, 74, 0, 821), (253, 112, 1, 774)],
  [(111, 114, 1, 967), (134, 115, 1, 994), (137, 121, 0, 982), (144, 122, 0, 990), (147, 123, 0, 997), (149, 124, 0, 986), (152, 125, 0, 978), (162, 128, 0, 1009), (165, 129, 0, 1013), (172, 116, 0, 1021), (176, 117, 0, 1029), (182, 138, 0, 1070), (185, 137, 0, 1062), (189, 139, 0, 1066), (192, 140, 0, 1058), (196, 142, 0, 1050), (199, 136, 0, 1054), (202, 118, 1, 1082), (205, 141, 0, 1085), (211, 148, 0, 1097), (214, 147, 0, 1102), (217, 151, 0, 1114), (226, 155, 1, 1133), (232, 159, 0, 1149)],
  [],
  [(9, 82, 2, 57), (12, 113, 2, 828), (15, 83, 0, 387), (19, 119, 0, 962), (20, 84, 0, 399), (24, 120, 0, 970), (25, 85, 0, 407), (28, 126, 0, 974), (29, 86, 0, 452), (32, 127, 0, 1001), (33, 87, 0, 483), (37, 130, 0, 1005), (38, 88, 0, 504), (42, 131, 0, 1017), (43, 89, 0, 516), (46, 132, 0, 1025), (47, 90, 0, 524), (50, 133, 0, 1033), (51, 91, 0, 528), (54, 134, 0, 1037), (55, 92, 0, 532), (58, 135, 0, 1041), (59, 93, 0, 536), (62, 143, 0, 1045), (63, 94, 0, 615), (66, 144, 0, 1074), (67, 95, 0, 629), (71, 145, 0, 1078), (72, 96, 0, 646), (75, 146, 0, 1089), (76, 97, 0, 660), (79, 149, 0, 1093), (80, 98, 0, 687), (83, 150, 0, 1106), (84, 99, 0, 691), (87, 152, 0, 1110), (88, 100, 0, 728), (91, 153, 0, 1118), (92, 101, 0, 732), (96, 154, 0, 1122), (97, 102, 0, 740), (101, 156, 0, 1126), (102, 103, 0, 777), (106, 157, 0, 1136), (107, 104, 0, 785), (110, 158, 0, 1141), (111, 105, 0, 793), (114, 160, 0, 1145), (115, 106, 0, 813), (119, 161, 0, 1153), (120, 107, 0, 817), (123, 162, 0, 1157), (124, 108, 0, 822), (127, 163, 0, 1161)]]
def mT (cn idx : Nat) : Option (Nat × Nat) := ((mTab.getD cn []).find? (fun q => q.1 == idx)).map (fun q => (q.2.1, q.2.2.1))
def cTab : List (List (Nat × Nat × Nat)) := [[],
  [],
  [],
  [],
  [],
  [],
  [(9, 9, 245)],
  [],
  [],
  [(7, 2, 155), (16, 4, 197)],
  [(15, 9, 305)],
  [(7, 7, 63), (16, 5, 77), (23, 8, 115), (30, 9, 149), (39, 6, 239), (54, 0, 255), (67, 3, 286), (76, 10, 299), (85, 1, 324)],
  [],
  [],
  [(7, 11, 55), (10, 12, 826)]]
def cT (cn idx : Nat) : Option Nat := ((cTab.getD cn []).find? (fun q => q.1 == idx)).map (fun q => q.2.1)
def aTab : List (List (Nat × Nat)) := [[],
  [],
  [],
  [],
  [],
  [],
  [(9, 245)],
  [],
  [],
  [],
  [(15, 305)],
  [(30, 149)],
  [],
  [],
  []]
def aT (cn idx : Nat) : Bool := ((aTab.getD cn []).find? (fun q => q.1 == idx)).isSome
def lTab : List (List (Nat × Int64 × Nat)) := [[],
  [],
  [],
  [],
  [],
  [],
  [],
  [],
  [],
  [],
  [],
  [(228, (-1), 744), (230, (-2), 745)],
  [(118, (9), 1049), (120, (8), 966), (209, (3), 1101), (220, (-1), 1130), (222, (10), 1131), (224, (-2), 1132), (230, (99), 1140)],
  [],
  [(13, (4294967295), 1165)]]
def lT (cn idx : Nat) : Option Int64 := ((lTab.getD cn []).find? (fun q => q.1 == idx)).map (fun q => q.2.1)
def iTab : List (List (Nat × Int32 × Nat)) := [[],
  [],
  [],
  [],
  [],
  [],
  [],
  [],
  [],
  [],
  [],
  [],
  [],
  [(265, (1431655765), 753), (266, (858993459), 754), (267, (252645135), 755)],
  []]
def iT (cn idx : Nat) : Option Int32 := ((iTab.getD cn []).find? (fun q => q.1 == idx)).map (fun q => q.2.1)
def oTab : List (List (Nat × Nat)) := [[(3, 260)],
  [(3, 329)],
  [(3, 160)],
  [(3, 291)],
  [(3, 202)],
  [(3, 82)],
  [(3, 244)],
  [(3, 68)],
  [(3, 120)],
  [(1, 154)],
  [(3, 304)],
  [(1, 60)],
  [(1, 831)],
  [],
  []]
def oT (cn idx : Nat) : Bool := ((oTab.getD cn []).find? (fun q => q.1 == idx)).isSome
def pTab : List (List (Nat × Nat)) := [[],
  [(66, 723)],
  [(43, 472)],
  [],
  [(35, 567)],
  [],
  [],
  [],
  [],
  [],
  [(64, 686)],
  [],
  [],
  [],
  []]
def pT (cn idx : Nat) : Bool := ((pTab.getD cn []).find? (fun q => q.1 == idx)).isSome
def bTab : List (List (Nat × Nat)) := [[],
  [],
  [(58, 600)],
  [],
  [],
  [],
  [],
  [],
  [],
  [],
  [],
  [],
  [],
  [],
  []]
def bT (cn idx : Nat) : Bool := ((bTab.getD cn []).find? (fun q => q.1 == idx)).isSome
/-- name, code, locals, what it answers, class, cells and slots that it may make, parameters -/
abbrev MI : Type := MethodName × ByteArray × Nat × Option FieldType × Nat × Nat × Nat × Nat
def mis0 : List MI := [(yX0_init, cX0_init, 3, none, 0, 5, 40, 2),
  (yX0_count, cX0_count, 1, (some .int), 0, 0, 0, 0),
  (yX0_add, cX0_add, 6, (some .int), 0, 0, 0, 5),
  (yX0_clear, cX0_clear, 2, (some .int), 0, 0, 0, 0),
  (yX0_trueTenths, cX0_trueTenths, 4, (some .int), 0, 0, 0, 1),
  (yX0_areAllTrue, cX0_areAllTrue, 4, (some .boolean), 0, 0, 0, 2),
  (yX0_isTrue, cX0_isTrue, 4, (some .boolean), 0, 0, 0, 3),
  (yX1_init, cX1_init, 3, none, 1, 4, 20, 2),
  (yX1_search, cX1_search, 8, (some .int), 1, 0, 0, 2),
  (yX1_isFree, cX1_isFree, 2, (some .boolean), 1, 0, 0, 1),
  (yX1_foresee, cX1_foresee, 5, none, 1, 0, 0, 2),
  (yX1_isReadyIn, cX1_isReadyIn, 7, (some .boolean), 1, 0, 0, 5),
  (yX1_mostPossible, cX1_mostPossible, 3, (some .int), 1, 0, 0, 0),
  (yX1_readyHere, cX1_readyHere, 5, (some .int), 1, 0, 0, 0),
  (yX1_nextPlacing, cX1_nextPlacing, 2, (some .boolean), 1, 0, 0, 0),
  (yX2_init, cX2_init, 2, none, 2, 5, 25, 0),
  (yX2_isThere, cX2_isThere, 2, (some .boolean), 2, 0, 0, 1),
  (yX2_build, cX2_build, 2, none, 2, 0, 0, 1),
  (yX2_cool, cX2_cool, 2, none, 2, 0, 0, 0),
  (yX2_copyFrom, cX2_copyFrom, 2, none, 2, 0, 0, 1),
  (yX2_copyHeat, cX2_copyHeat, 2, none, 2, 0, 0, 1),
  (yX2_burn, cX2_burn, 6, none, 2, 0, 0, 1),
  (yX2_burnAll, cX2_burnAll, 4, none, 2, 0, 0, 2),
  (yX2_blow, cX2_blow, 2, none, 2, 0, 0, 0),
  (yX2_jump, cX2_jump, 2, (some .int), 2, 0, 0, 1),
  (yX2_allHeat, cX2_allHeat, 3, (some .int), 2, 0, 0, 0),
  (yX3_init, cX3_init, 3, none, 3, 0, 0, 2),
  (yX3_heatBehind, cX3_heatBehind, 4, (some .int), 3, 0, 0, 3),
  (yX3_howBehind, cX3_howBehind, 4, (some .int), 3, 0, 0, 3),
  (yX3_fewestTenths, cX3_fewestTenths, 6, (some .int), 3, 0, 0, 4),
  (yX3_crackingWays, cX3_crackingWays, 11, (some .long), 3, 0, 0, 4),
  (yX3_isCracked, cX3_isCracked, 7, (some .boolean), 3, 0, 0, 4),
  (yX3_power, cX3_power, 5, (some .long), 3, 0, 0, 2),
  (yX4_init, cX4_init, 2, none, 4, 3, 15, 1),
  (yX4_build, cX4_build, 3, none, 4, 0, 0, 1),
  (yX4_copyFrom, cX4_copyFrom, 2, none, 4, 0, 0, 1),
  (yX4_copyHow, cX4_copyHow, 2, none, 4, 0, 0, 1),
  (yX4_feelAll, cX4_feelAll, 4, (some .int), 4, 0, 0, 1),
  (yX4_feel, cX4_feel, 5, none, 4, 0, 0, 3),
  (yX4_isSaltBelow, cX4_isSaltBelow, 3, (some .boolean), 4, 0, 0, 1)]
def mis1 : List MI := [(yX4_potsIn, cX4_potsIn, 4, (some .int), 4, 0, 0, 1),
  (yX4_howMany, cX4_howMany, 4, (some .int), 4, 0, 0, 1),
  (yX4_canBeReady, cX4_canBeReady, 5, (some .boolean), 4, 0, 0, 2),
  (yX5_init, cX5_init, 1, none, 5, 9, 50, 0),
  (yX5_read, cX5_read, 3, (some .int), 5, 0, 0, 1),
  (yX5_begin, cX5_begin, 3, none, 5, 0, 0, 1),
  (yX5_readParts, cX5_readParts, 6, (some .int), 5, 0, 0, 1),
  (yX5_readShutter, cX5_readShutter, 6, (some .int), 5, 0, 0, 2),
  (yX5_readPot, cX5_readPot, 5, (some .int), 5, 0, 0, 2),
  (yX5_leastDigit, cX5_leastDigit, 2, (some .int), 5, 0, 0, 1),
  (yX5_mostDigit, cX5_mostDigit, 2, (some .int), 5, 0, 0, 1),
  (yX6_init, cX6_init, 3, none, 6, 133, 648, 1),
  (yX6_length, cX6_length, 1, (some .int), 6, 0, 0, 0),
  (yX6_forget, cX6_forget, 1, none, 6, 0, 0, 0),
  (yX6_add, cX6_add, 2, none, 6, 0, 0, 1),
  (yX6_forgetFirst, cX6_forgetFirst, 3, none, 6, 0, 0, 0),
  (yX6_takeBack, cX6_takeBack, 2, (some .int), 6, 0, 0, 1),
  (yX7_init, cX7_init, 1, none, 7, 1, 64, 0),
  (yX7_length, cX7_length, 1, (some .int), 7, 0, 0, 0),
  (yX7_hasRoomFor, cX7_hasRoomFor, 2, (some .boolean), 7, 0, 0, 1),
  (yX7_append, cX7_append, 5, (some .int), 7, 0, 0, 2),
  (yX7_clear, cX7_clear, 2, (some .int), 7, 0, 0, 0),
  (yX7_byteAt, cX7_byteAt, 2, (some .int), 7, 0, 0, 1),
  (yX7_digitAt, cX7_digitAt, 3, (some .int), 7, 0, 0, 1),
  (yX8_init, cX8_init, 1, none, 8, 5, 25, 0),
  (yX8_copyFrom, cX8_copyFrom, 3, none, 8, 0, 0, 1),
  (yX8_isThere, cX8_isThere, 2, (some .boolean), 8, 0, 0, 1),
  (yX8_isSet, cX8_isSet, 2, (some .boolean), 8, 0, 0, 1),
  (yX8_isSalt, cX8_isSalt, 2, (some .boolean), 8, 0, 0, 1),
  (yX8_isRaw, cX8_isRaw, 2, (some .boolean), 8, 0, 0, 1),
  (yX8_mostJump, cX8_mostJump, 2, (some .int), 8, 0, 0, 1),
  (yX8_wants, cX8_wants, 3, (some .boolean), 8, 0, 0, 2),
  (yX9_init, cX9_init, 2, none, 9, 10, 51, 1),
  (yX9_build, cX9_build, 2, none, 9, 0, 0, 1),
  (yX9_copyFrom, cX9_copyFrom, 2, none, 9, 0, 0, 1),
  (yX9_goBackTo, cX9_goBackTo, 2, none, 9, 0, 0, 1),
  (yX9_fire, cX9_fire, 2, (some .int), 9, 0, 0, 1),
  (yX9_fireAll, cX9_fireAll, 4, none, 9, 0, 0, 2),
  (yX10_init, cX10_init, 3, none, 10, 36, 168, 1),
  (yX10_search, cX10_search, 4, (some .int), 10, 0, 0, 2)]
def mis2 : List MI := [(yX10_fireOn, cX10_fireOn, 6, none, 10, 0, 0, 4),
  (yX10_goOn, cX10_goOn, 5, none, 10, 0, 0, 4),
  (yX11_init, cX11_init, 2, none, 11, 247, 3000, 0),
  (yX11_write, cX11_write, 4, (some .int), 11, 0, 0, 2),
  (yX11_wipe, cX11_wipe, 1, (some .int), 11, 0, 0, 0),
  (yX11_fault, cX11_fault, 1, (some .int), 11, 0, 0, 0),
  (yX11_tower, cX11_tower, 2, (some .int), 11, 0, 0, 0),
  (yX11_about, cX11_about, 2, (some .int), 11, 0, 0, 1),
  (yX11_kiln, cX11_kiln, 3, (some .int), 11, 0, 0, 2),
  (yX11_pot, cX11_pot, 3, (some .int), 11, 0, 0, 2),
  (yX11_open, cX11_open, 4, (some .int), 11, 0, 0, 2),
  (yX11_damp, cX11_damp, 4, (some .int), 11, 0, 0, 2),
  (yX11_put, cX11_put, 4, (some .int), 11, 0, 0, 2),
  (yX11_quarter, cX11_quarter, 2, (some .int), 11, 0, 0, 1),
  (yX11_undo, cX11_undo, 1, (some .int), 11, 0, 0, 0),
  (yX11_warm, cX11_warm, 4, (some .int), 11, 0, 0, 3),
  (yX11_then, cX11_then, 4, (some .int), 11, 0, 0, 3),
  (yX11_least, cX11_least, 3, (some .int), 11, 0, 0, 2),
  (yX11_leastAt, cX11_leastAt, 4, (some .int), 11, 0, 0, 3),
  (yX11_floors, cX11_floors, 3, (some .int), 11, 0, 0, 2),
  (yX11_floorAt, cX11_floorAt, 4, (some .int), 11, 0, 0, 3),
  (yX11_openFor, cX11_openFor, 5, (some .int), 11, 0, 0, 4),
  (yX11_gales, cX11_gales, 6, (some .long), 11, 0, 0, 5),
  (yX11_cone, cX11_cone, 6, (some .int), 11, 0, 0, 5),
  (yX11_uncone, cX11_uncone, 1, (some .int), 11, 0, 0, 0),
  (yX11_blame, cX11_blame, 2, (some .int), 11, 0, 0, 1),
  (yX11_owed, cX11_owed, 3, (some .int), 11, 0, 0, 2),
  (yX11_keep, cX11_keep, 2, (some .int), 11, 0, 0, 1),
  (yX11_again, cX11_again, 2, (some .int), 11, 0, 0, 1),
  (yX11_isWood, cX11_isWood, 1, (some .boolean), 11, 0, 0, 1),
  (yX11_isSpan, cX11_isSpan, 2, (some .boolean), 11, 0, 0, 2),
  (yX11_part, cX11_part, 7, (some .long), 11, 0, 0, 3),
  (yX11_commonDivisor, cX11_commonDivisor, 11, (some .long), 11, 0, 0, 2),
  (yX12_init, cX12_init, 2, none, 12, 31, 1000, 0),
  (yX12_in, cX12_in, 6, (some .boolean), 12, 0, 0, 3),
  (yX12_has, cX12_has, 2, (some .boolean), 12, 0, 0, 2),
  (yX12_noKiln, cX12_noKiln, 2, (some .boolean), 12, 0, 0, 1),
  (yX12_noPot, cX12_noPot, 2, (some .boolean), 12, 0, 0, 1),
  (yX12_noFire, cX12_noFire, 2, (some .boolean), 12, 0, 0, 2),
  (yX12_write, cX12_write, 5, (some .int), 12, 0, 0, 2)]
def mis3 : List MI := [(yX12_wipe, cX12_wipe, 2, (some .int), 12, 0, 0, 0),
  (yX12_figure, cX12_figure, 3, (some .int), 12, 0, 0, 2),
  (yX12_readShutter, cX12_readShutter, 4, (some .boolean), 12, 0, 0, 0),
  (yX12_readPot, cX12_readPot, 8, (some .boolean), 12, 0, 0, 0),
  (yX12_readPart, cX12_readPart, 2, (some .boolean), 12, 0, 0, 0),
  (yX12_readTower, cX12_readTower, 2, (some .int), 12, 0, 0, 0),
  (yX12_fault, cX12_fault, 1, (some .int), 12, 0, 0, 0),
  (yX12_tower, cX12_tower, 2, (some .int), 12, 0, 0, 0),
  (yX12_allHeat, cX12_allHeat, 3, (some .int), 12, 0, 0, 0),
  (yX12_countHow, cX12_countHow, 4, (some .int), 12, 0, 0, 1),
  (yX12_about, cX12_about, 2, (some .int), 12, 0, 0, 1),
  (yX12_kiln, cX12_kiln, 5, (some .int), 12, 0, 0, 2),
  (yX12_pot, cX12_pot, 3, (some .int), 12, 0, 0, 2),
  (yX12_open, cX12_open, 4, (some .int), 12, 0, 0, 2),
  (yX12_damp, cX12_damp, 4, (some .int), 12, 0, 0, 2),
  (yX12_put, cX12_put, 4, (some .int), 12, 0, 0, 2),
  (yX12_begin, cX12_begin, 2, none, 12, 0, 0, 0),
  (yX12_goHeat, cX12_goHeat, 5, none, 12, 0, 0, 2),
  (yX12_isSalted, cX12_isSalted, 5, (some .boolean), 12, 0, 0, 1),
  (yX12_feel, cX12_feel, 4, (some .int), 12, 0, 0, 1),
  (yX12_go, cX12_go, 5, (some .int), 12, 0, 0, 2),
  (yX12_goMany, cX12_goMany, 4, none, 12, 0, 0, 2),
  (yX12_note, cX12_note, 3, none, 12, 0, 0, 0),
  (yX12_quarter, cX12_quarter, 4, (some .int), 12, 0, 0, 1),
  (yX12_undo, cX12_undo, 3, (some .int), 12, 0, 0, 0),
  (yX12_warm, cX12_warm, 4, (some .int), 12, 0, 0, 3),
  (yX12_then, cX12_then, 4, (some .int), 12, 0, 0, 3),
  (yX12_findLeast, cX12_findLeast, 10, (some .int), 12, 0, 0, 2),
  (yX12_noLeast, cX12_noLeast, 3, (some .boolean), 12, 0, 0, 2),
  (yX12_least, cX12_least, 3, (some .int), 12, 0, 0, 2),
  (yX12_leastAt, cX12_leastAt, 4, (some .int), 12, 0, 0, 3),
  (yX12_findFloors, cX12_findFloors, 9, (some .int), 12, 0, 0, 2),
  (yX12_floors, cX12_floors, 3, (some .int), 12, 0, 0, 2),
  (yX12_floorAt, cX12_floorAt, 4, (some .int), 12, 0, 0, 3),
  (yX12_openFor, cX12_openFor, 8, (some .int), 12, 0, 0, 4),
  (yX12_divisor, cX12_divisor, 10, (some .long), 12, 0, 0, 2),
  (yX12_gales, cX12_gales, 14, (some .long), 12, 0, 0, 5),
  (yX12_cone, cX12_cone, 6, (some .int), 12, 0, 0, 5),
  (yX12_uncone, cX12_uncone, 2, (some .int), 12, 0, 0, 0),
  (yX12_isTrue, cX12_isTrue, 3, (some .boolean), 12, 0, 0, 1)]
def mis4 : List MI := [(yX12_blame, cX12_blame, 7, (some .int), 12, 0, 0, 1),
  (yX12_owed, cX12_owed, 5, (some .int), 12, 0, 0, 2),
  (yX12_keep, cX12_keep, 4, (some .int), 12, 0, 0, 1),
  (yX12_again, cX12_again, 4, (some .int), 12, 0, 0, 1),
  (yJ6_bitCount_0f7a4, cJ6_bitCount_0f7a4, 1, (some .int), 13, 0, 0, 1)]
def mis : List MI := mis0 ++ (mis1 ++ (mis2 ++ (mis3 ++ (mis4))))
def mwi : List (Nat × Nat × Nat × Nat) := [(259, 258, 0, 47), (502, 500, 501, 47), (784, 782, 783, 47), (792, 790, 791, 47), (800, 798, 799, 47), (804, 803, 16, 47), (808, 807, 17, 47), (328, 327, 0, 50), (698, 696, 697, 50), (713, 712, 11, 50), (702, 701, 9, 50), (706, 705, 10, 50), (717, 716, 12, 50), (721, 720, 13, 50), (727, 726, 14, 50), (159, 158, 0, 44), (511, 509, 510, 44), (467, 465, 466, 44), (471, 469, 470, 44), (558, 556, 557, 44), (562, 560, 561, 44), (579, 577, 578, 44), (644, 642, 643, 44), (768, 766, 767, 44), (599, 597, 598, 44), (494, 492, 493, 44), (290, 289, 0, 48), (639, 637, 638, 48), (653, 651, 652, 48), (739, 737, 738, 48), (749, 747, 748, 48), (762, 761, 15, 48), (758, 757, 0, 48), (201, 200, 0, 45), (478, 476, 477, 45), (566, 564, 565, 45), (571, 569, 570, 45), (583, 581, 582, 45), (595, 593, 594, 45), (587, 585, 586, 45), (515, 513, 514, 45), (498, 496, 497, 45), (675, 673, 674, 45), (81, 80, 0, 41), (414, 412, 413, 41), (427, 426, 0, 41), (431, 430, 1, 41), (451, 450, 5, 41), (439, 438, 2, 41), (443, 442, 3, 41), (447, 446, 4, 41), (243, 242, 0, 46), (490, 488, 489, 46), (482, 480, 481, 46), (546, 544, 545, 46), (550, 549, 6, 46), (622, 620, 621, 46), (67, 66, 0, 40), (435, 433, 434, 40), (394, 392, 393, 40), (398, 396, 397, 40), (406, 404, 405, 40), (418, 416, 417, 40), (422, 420, 421, 40), (119, 118, 0, 42), (459, 457, 458, 42), (523, 521, 522, 42), (667, 665, 666, 42), (591, 589, 590, 42), (610, 608, 609, 42), (606, 604, 605, 42), (614, 612, 613, 42), (153, 152, 0, 43), (463, 461, 462, 43), (554, 552, 553, 43), (626, 624, 625, 43), (575, 573, 574, 43), (658, 656, 657, 43), (303, 302, 0, 49), (671, 669, 670, 49), (679, 678, 7, 49), (685, 684, 8, 49), (59, 58, 0, 39), (390, 388, 389, 39), (402, 400, 401, 39), (410, 408, 409, 39), (455, 453, 454, 39), (486, 484, 485, 39), (507, 505, 506, 39), (519, 517, 518, 39), (527, 525, 526, 39), (531, 529, 530, 39), (535, 533, 534, 39), (539, 537, 538, 39), (618, 616, 617, 39), (632, 630, 631, 39), (649, 647, 648, 39), (663, 661, 662, 39), (690, 688, 689, 39), (694, 692, 693, 39), (731, 729, 730, 39), (735, 733, 734, 39), (743, 741, 742, 39), (780, 778, 779, 39), (788, 786, 787, 39), (796, 794, 795, 39), (816, 814, 815, 39), (820, 818, 819, 39), (825, 823, 824, 39), (542, 541, 0, 39), (635, 634, 0, 39), (773, 772, 0, 39), (776, 775, 0, 39), (830, 829, 0, 51), (969, 968, 0, 51), (996, 995, 0, 51), (1024, 1023, 25, 51), (1032, 1031, 26, 51), (1084, 1083, 0, 51), (965, 963, 964, 51), (973, 971, 972, 51), (985, 984, 19, 51), (993, 992, 21, 51), (1000, 999, 22, 51), (989, 988, 20, 51), (981, 980, 18, 51), (977, 975, 976, 51), (1004, 1002, 1003, 51), (1012, 1011, 23, 51), (1016, 1015, 24, 51), (1008, 1006, 1007, 51), (1020, 1018, 1019, 51), (1028, 1026, 1027, 51), (1036, 1034, 1035, 51), (1040, 1038, 1039, 51), (1044, 1042, 1043, 51), (1057, 1056, 28, 51), (1065, 1064, 30, 51), (1073, 1072, 32, 51), (1069, 1068, 31, 51), (1061, 1060, 29, 51), (1088, 1087, 33, 51), (1053, 1052, 27, 51), (1048, 1046, 1047, 51), (1077, 1075, 1076, 51), (1081, 1079, 1080, 51), (1092, 1090, 1091, 51), (1105, 1104, 35, 51), (1100, 1099, 34, 51), (1096, 1094, 1095, 51), (1109, 1107, 1108, 51), (1117, 1116, 36, 51), (1113, 1111, 1112, 51), (1121, 1119, 1120, 51), (1125, 1123, 1124, 51), (1135, 1134, 0, 51), (1129, 1127, 1128, 51), (1139, 1137, 1138, 51), (1144, 1142, 1143, 51), (1152, 1151, 37, 51), (1148, 1146, 1147, 51), (1156, 1154, 1155, 51), (1160, 1158, 1159, 51), (1164, 1162, 1163, 51), (752, 751, 0, 54)]
def clsW : List (List Nat × Nat × Nat) := [([269, 271, 273, 275, 277, 279, 281, 283], 256, 47), ([338, 340, 342, 344, 346, 348, 350], 325, 50), ([182, 184, 186, 188, 190, 192, 194], 156, 44), ([294, 296], 287, 48), ([216, 218, 220, 222], 198, 45), ([99, 101, 103, 105, 107, 109, 111], 78, 41), ([250, 252], 240, 46), ([71, 73], 64, 40), ([136, 138, 140, 142, 144, 146], 116, 42), ([234, 236], 150, 43), ([313, 315, 317, 319, 321], 300, 49), ([364, 366, 368, 370, 372, 374, 376, 378, 380, 382, 384], 56, 39), ([875, 877, 879, 881, 883, 885, 887, 889, 891, 893, 895, 897, 899, 901, 903, 905, 907, 909, 911, 913, 915, 917, 919, 921, 923, 925, 927, 929, 931, 933, 935, 937, 939, 941, 943, 945, 947, 949, 951, 953, 955, 957, 959], 827, 51)]
/-- the words that go into every method's list -/
def TT : List Cond := lw_tbl.filter goodWord
theorem TT_lw {w : Cond} (h : w ∈ TT) : w ∈ lw_tbl := (List.mem_filter.mp h).1
theorem TT_good : GoodIn TT TT := fun w h => ⟨h, good_of_word (List.mem_filter.mp h).2⟩
/-- word w stands at place i of the tables, and may go into a list -/
def wAt (w : Cond) (i : Nat) : Bool := decide (lw_tbl[i]? = some w) && goodWord w
theorem wAt_mem {w : Cond} {i : Nat} (h : wAt w i = true) : w ∈ TT := by
  simp only [wAt, Bool.and_eq_true, decide_eq_true_eq] at h
  exact List.mem_filter.mpr ⟨List.mem_of_getElem? h.1, h.2⟩
def fOk (cn : Nat) (q : Nat × Nat × Nat × Nat) : Bool := match vwCl[q.2.1]? with
  | some (_, T, N) => decide (q.2.2.1 < N) && wAt (.fieldLink (RR cn) q.1 (T q.2.2.1).1 (T q.2.2.1).2.1 (T q.2.2.1).2.2.1) q.2.2.2
  | none => false
theorem tab_get {α : Type} {tab : List (List α)} {cn : Nat} {P : Nat → α → Bool} {p : α → Bool} {q : α} (h : (List.range 15).all (fun cn => (tab.getD cn []).all (fun q => P cn q)) = true) (hl : tab.length = 15) (hq : (tab.getD cn []).find? p = some q) : P cn q = true ∧ p q = true := by
  have hc : cn < 15 := by
    refine Nat.lt_of_not_le fun hc => ?_
    rw [List.getD_eq_getElem?_getD, List.getElem?_eq_none (by omega)] at hq
    cases hq
  have h1 := List.all_eq_true.mp h cn (List.mem_range.mpr hc)
  exact ⟨List.all_eq_true.mp h1 q (List.mem_of_find?_eq_some hq), List.find?_some hq⟩
set_option maxRecDepth 100000 in
theorem fTab_ok : (List.range 15).all (fun cn => (fTab.getD cn []).all (fun q => fOk cn q)) = true := by decide +kernel
theorem fT_ok {cn idx ci k : Nat} (h : fT cn idx = some (ci, k)) : ∃ (C : String) (T : u_T) (N : Nat), vwCl[ci]? = some (C, T, N) ∧ k < N ∧ Cond.fieldLink (RR cn) idx (T k).1 (T k).2.1 (T k).2.2.1 ∈ TT := by
  unfold fT at h
  cases hq : (fTab.getD cn []).find? (fun q => q.1 == idx) with
  | none => rw [hq] at h; cases h
  | some q =>
    rw [hq] at h
    cases h
    obtain ⟨h1, h2⟩ := tab_get fTab_ok rfl hq
    rw [← eq_of_beq h2]
    unfold fOk at h1
    split at h1
    · rename_i C T N hc
      simp only [Bool.and_eq_true, decide_eq_true_eq] at h1
      exact ⟨C, T, N, hc, h1.1, wAt_mem h1.2⟩
    · cases h1
def RRm (cn : Nat) : String := RR cn
/-- what is known of a class -/
def clsOk (ci : Nat) : Bool := match vwCl[ci]?, clsW[ci]? with
  | some (C, T, N), some (lay, w1, w2) => (List.range N).all (fun k => wAt (u_lay C T k) (lay.getD k 0) && decide (parseFieldDescriptor (T k).2.2.1 = some (tyC ci k)) && decide ((T k).1 = C) && (List.range N).all (fun j => decide (k = j) || decide ((T k).2.1 ≠ (T j).2.1))) && wAt (.instantiable C N) w1 && wAt (.initialized C) w2 && decide (RR ci = C)
  | _, _ => false
set_option maxRecDepth 100000 in
theorem cls_all : (List.range 13).all clsOk = true := by decide +kernel
theorem cls_ok {ci : Nat} {C : String} {T : u_T} {N : Nat} (h : vwCl[ci]? = some (C, T, N)) : (∀ w ∈ u_ws C T N, w ∈ TT) ∧ Cond.instantiable C N ∈ TT ∧ Cond.initialized C ∈ TT ∧ (∀ k, k < N → parseFieldDescriptor (T k).2.2.1 = some (tyC ci k)) ∧ (∀ a, a < N → ∀ b, b < N → a ≠ b → (T a).2.1 ≠ (T b).2.1) ∧ (∀ k, k < N → (T k).1 = C) ∧ RR ci = C := by
  have hc : ci < 13 := (List.getElem?_eq_some_iff.mp h).1
  have h1 := List.all_eq_true.mp cls_all ci (List.mem_range.mpr hc)
  unfold clsOk at h1
  rw [h] at h1
  split at h1
  · rename_i C' T' N' lay w1 w2 e1 e2
    cases e1
    simp only [Bool.and_eq_true, Bool.or_eq_true, decide_eq_true_eq, List.all_eq_true, List.mem_range] at h1
    obtain ⟨⟨⟨h1, h2⟩, h3⟩, h4⟩ := h1
    refine ⟨fun w hw => ?_, wAt_mem h2, wAt_mem h3, fun k hk => (h1 k hk).1.1.2, fun a ha b hb hne => ?_, fun k hk => (h1 k hk).1.2, h4⟩
    · obtain ⟨k, hk, rfl⟩ := List.mem_map.mp hw
      exact wAt_mem (h1 k (List.mem_range.mp hk)).1.1.1
    · exact ((h1 a ha).2 b hb).resolve_left hne
  · cases h1
theorem tin1 {w : Cond} {i : Nat} (hi : tables_1_1[i]? = some w) (hg : goodWord w = true) : w ∈ TT := by
  have h := List.mem_of_getElem? hi
  exact List.mem_filter.mpr ⟨List.mem_append_right _ (show w ∈ tables_1_1 ++ (tables_1_2 ++ (tables_1_3 ++ (tables_1_4 ++ tables_1_5))) from List.mem_append_left _ h), hg⟩
theorem tin2 {w : Cond} {i : Nat} (hi : tables_1_2[i]? = some w) (hg : goodWord w = true) : w ∈ TT := by
  have h := List.mem_of_getElem? hi
  exact List.mem_filter.mpr ⟨List.mem_append_right _ (show w ∈ tables_1_1 ++ (tables_1_2 ++ (tables_1_3 ++ (tables_1_4 ++ tables_1_5))) from List.mem_append_right _ (List.mem_append_left _ h)), hg⟩
theorem tin3 {w : Cond} {i : Nat} (hi : tables_1_3[i]? = some w) (hg : goodWord w = true) : w ∈ TT := by
  have h := List.mem_of_getElem? hi
  exact List.mem_filter.mpr ⟨List.mem_append_right _ (show w ∈ tables_1_1 ++ (tables_1_2 ++ (tables_1_3 ++ (tables_1_4 ++ tables_1_5))) from List.mem_append_right _ (List.mem_append_right _ (List.mem_append_left _ h))), hg⟩
theorem tin4 {w : Cond} {i : Nat} (hi : tables_1_4[i]? = some w) (hg : goodWord w = true) : w ∈ TT := by
  have h := List.mem_of_getElem? hi
  exact List.mem_filter.mpr ⟨List.mem_append_right _ (show w ∈ tables_1_1 ++ (tables_1_2 ++ (tables_1_3 ++ (tables_1_4 ++ tables_1_5))) from List.mem_append_right _ (List.mem_append_right _ (List.mem_append_right _ (List.mem_append_left _ h)))), hg⟩
theorem tin5 {w : Cond} {i : Nat} (hi : tables_1_5[i]? = some w) (hg : goodWord w = true) : w ∈ TT := by
  have h := List.mem_of_getElem? hi
  exact List.mem_filter.mpr ⟨List.mem_append_right _ (show w ∈ tables_1_1 ++ (tables_1_2 ++ (tables_1_3 ++ (tables_1_4 ++ tables_1_5))) from List.mem_append_right _ (List.mem_append_right _ (List.mem_append_right _ (List.mem_append_right _ h)))), hg⟩
set_option maxRecDepth 100000 in
theorem mc_0 : Cond.code yX0_init cX0_init 3 none ∈ TT := tin1 (i := 221) rfl rfl
set_option maxRecDepth 100000 in
theorem mc_1 : Cond.code yX0_count cX0_count 1 (some .int) ∈ TT := tin2 (i := 224) rfl rfl
set_option maxRecDepth 100000 in
theorem mc_2 : Cond.code yX0_add cX0_add 6 (some .int) ∈ TT := tin4 (i := 26) rfl rfl
set_option maxRecDepth 100000 in
theorem mc_3 : Cond.code yX0_clear cX0_clear 2 (some .int) ∈ TT := tin4 (i := 34) rfl rfl
set_option maxRecDepth 100000 in
theorem mc_4 : Cond.code yX0_trueTenths cX0_trueTenths 4 (some .int) ∈ TT := tin4 (i := 42) rfl rfl
set_option maxRecDepth 100000 in
theorem mc_5 : Cond.code yX0_areAllTrue cX0_areAllTrue 4 (some .boolean) ∈ TT := tin4 (i := 46) rfl rfl
set_option maxRecDepth 100000 in
theorem mc_6 : Cond.code yX0_isTrue cX0_isTrue 4 (some .boolean) ∈ TT := tin4 (i := 50) rfl rfl
set_option maxRecDepth 100000 in
theorem mc_7 : Cond.code yX1_init cX1_init 3 none ∈ TT := tin2 (i := 50) rfl rfl
set_option maxRecDepth 100000 in
theorem mc_8 : Cond.code yX1_search cX1_search 8 (some .int) ∈ TT := tin3 (i := 180) rfl rfl
set_option maxRecDepth 100000 in
theorem mc_9 : Cond.code yX1_isFree cX1_isFree 2 (some .boolean) ∈ TT := tin3 (i := 195) rfl rfl
set_option maxRecDepth 100000 in
theorem mc_10 : Cond.code yX1_foresee cX1_foresee 5 none ∈ TT := tin3 (i := 184) rfl rfl
set_option maxRecDepth 100000 in
theorem mc_11 : Cond.code yX1_isReadyIn cX1_isReadyIn 7 (some .boolean) ∈ TT := tin3 (i := 188) rfl rfl
set_option maxRecDepth 100000 in
theorem mc_12 : Cond.code yX1_mostPossible cX1_mostPossible 3 (some .int) ∈ TT := tin3 (i := 199) rfl rfl
set_option maxRecDepth 100000 in
theorem mc_13 : Cond.code yX1_readyHere cX1_readyHere 5 (some .int) ∈ TT := tin3 (i := 203) rfl rfl
set_option maxRecDepth 100000 in
theorem mc_14 : Cond.code yX1_nextPlacing cX1_nextPlacing 2 (some .boolean) ∈ TT := tin3 (i := 209) rfl rfl
set_option maxRecDepth 100000 in
theorem mc_15 : Cond.code yX2_init cX2_init 2 none ∈ TT := tin1 (i := 121) rfl rfl
set_option maxRecDepth 100000 in
theorem mc_16 : Cond.code yX2_isThere cX2_isThere 2 (some .boolean) ∈ TT := tin2 (i := 233) rfl rfl
set_option maxRecDepth 100000 in
theorem mc_17 : Cond.code yX2_build cX2_build 2 none ∈ TT := tin2 (i := 189) rfl rfl
set_option maxRecDepth 100000 in
theorem mc_18 : Cond.code yX2_cool cX2_cool 2 none ∈ TT := tin2 (i := 193) rfl rfl
set_option maxRecDepth 100000 in
theorem mc_19 : Cond.code yX2_copyFrom cX2_copyFrom 2 none ∈ TT := tin3 (i := 40) rfl rfl
set_option maxRecDepth 100000 in
theorem mc_20 : Cond.code yX2_copyHeat cX2_copyHeat 2 none ∈ TT := tin3 (i := 44) rfl rfl
set_option maxRecDepth 100000 in
theorem mc_21 : Cond.code yX2_burn cX2_burn 6 none ∈ TT := tin3 (i := 61) rfl rfl
set_option maxRecDepth 100000 in
theorem mc_22 : Cond.code yX2_burnAll cX2_burnAll 4 none ∈ TT := tin3 (i := 126) rfl rfl
set_option maxRecDepth 100000 in
theorem mc_23 : Cond.code yX2_blow cX2_blow 2 none ∈ TT := tin4 (i := 10) rfl rfl
set_option maxRecDepth 100000 in
theorem mc_24 : Cond.code yX2_jump cX2_jump 2 (some .int) ∈ TT := tin3 (i := 81) rfl rfl
set_option maxRecDepth 100000 in
theorem mc_25 : Cond.code yX2_allHeat cX2_allHeat 3 (some .int) ∈ TT := tin2 (i := 216) rfl rfl
set_option maxRecDepth 100000 in
theorem mc_26 : Cond.code yX3_init cX3_init 3 none ∈ TT := tin2 (i := 12) rfl rfl
set_option maxRecDepth 100000 in
theorem mc_27 : Cond.code yX3_heatBehind cX3_heatBehind 4 (some .int) ∈ TT := tin3 (i := 121) rfl rfl
set_option maxRecDepth 100000 in
theorem mc_28 : Cond.code yX3_howBehind cX3_howBehind 4 (some .int) ∈ TT := tin3 (i := 135) rfl rfl
set_option maxRecDepth 100000 in
theorem mc_29 : Cond.code yX3_fewestTenths cX3_fewestTenths 6 (some .int) ∈ TT := tin3 (i := 221) rfl rfl
set_option maxRecDepth 100000 in
theorem mc_30 : Cond.code yX3_crackingWays cX3_crackingWays 11 (some .long) ∈ TT := tin3 (i := 231) rfl rfl
set_option maxRecDepth 100000 in
theorem mc_31 : Cond.code yX3_isCracked cX3_isCracked 7 (some .boolean) ∈ TT := tin4 (i := 4) rfl rfl
set_option maxRecDepth 100000 in
theorem mc_32 : Cond.code yX3_power cX3_power 5 (some .long) ∈ TT := tin4 (i := 0) rfl rfl
set_option maxRecDepth 100000 in
theorem mc_33 : Cond.code yX4_init cX4_init 2 none ∈ TT := tin1 (i := 163) rfl rfl
set_option maxRecDepth 100000 in
theorem mc_34 : Cond.code yX4_build cX4_build 3 none ∈ TT := tin2 (i := 200) rfl rfl
set_option maxRecDepth 100000 in
theorem mc_35 : Cond.code yX4_copyFrom cX4_copyFrom 2 none ∈ TT := tin3 (i := 48) rfl rfl
set_option maxRecDepth 100000 in
theorem mc_36 : Cond.code yX4_copyHow cX4_copyHow 2 none ∈ TT := tin3 (i := 53) rfl rfl
set_option maxRecDepth 100000 in
theorem mc_37 : Cond.code yX4_feelAll cX4_feelAll 4 (some .int) ∈ TT := tin3 (i := 65) rfl rfl
set_option maxRecDepth 100000 in
theorem mc_38 : Cond.code yX4_feel cX4_feel 5 none ∈ TT := tin3 (i := 77) rfl rfl
set_option maxRecDepth 100000 in
theorem mc_39 : Cond.code yX4_isSaltBelow cX4_isSaltBelow 3 (some .boolean) ∈ TT := tin3 (i := 69) rfl rfl
set_option maxRecDepth 100000 in
theorem mc_40 : Cond.code yX4_potsIn cX4_potsIn 4 (some .int) ∈ TT := tin2 (i := 237) rfl rfl
set_option maxRecDepth 100000 in
theorem mc_41 : Cond.code yX4_howMany cX4_howMany 4 (some .int) ∈ TT := tin2 (i := 220) rfl rfl
set_option maxRecDepth 100000 in
theorem mc_42 : Cond.code yX4_canBeReady cX4_canBeReady 5 (some .boolean) ∈ TT := tin3 (i := 157) rfl rfl
set_option maxRecDepth 100000 in
theorem mc_43 : Cond.code yX5_init cX5_init 1 none ∈ TT := tin1 (i := 43) rfl rfl
set_option maxRecDepth 100000 in
theorem mc_44 : Cond.code yX5_read cX5_read 3 (some .int) ∈ TT := tin2 (i := 136) rfl rfl
set_option maxRecDepth 100000 in
theorem mc_45 : Cond.code yX5_begin cX5_begin 3 none ∈ TT := tin2 (i := 149) rfl rfl
set_option maxRecDepth 100000 in
theorem mc_46 : Cond.code yX5_readParts cX5_readParts 6 (some .int) ∈ TT := tin2 (i := 153) rfl rfl
set_option maxRecDepth 100000 in
theorem mc_47 : Cond.code yX5_readShutter cX5_readShutter 6 (some .int) ∈ TT := tin2 (i := 173) rfl rfl
set_option maxRecDepth 100000 in
theorem mc_48 : Cond.code yX5_readPot cX5_readPot 5 (some .int) ∈ TT := tin2 (i := 161) rfl rfl
set_option maxRecDepth 100000 in
theorem mc_49 : Cond.code yX5_leastDigit cX5_leastDigit 2 (some .int) ∈ TT := tin2 (i := 165) rfl rfl
set_option maxRecDepth 100000 in
theorem mc_50 : Cond.code yX5_mostDigit cX5_mostDigit 2 (some .int) ∈ TT := tin2 (i := 169) rfl rfl
set_option maxRecDepth 100000 in
theorem mc_51 : Cond.code yX6_init cX6_init 3 none ∈ TT := tin1 (i := 205) rfl rfl
set_option maxRecDepth 100000 in
theorem mc_52 : Cond.code yX6_length cX6_length 1 (some .int) ∈ TT := tin2 (i := 212) rfl rfl
set_option maxRecDepth 100000 in
theorem mc_53 : Cond.code yX6_forget cX6_forget 1 none ∈ TT := tin2 (i := 204) rfl rfl
set_option maxRecDepth 100000 in
theorem mc_54 : Cond.code yX6_add cX6_add 2 none ∈ TT := tin3 (i := 28) rfl rfl
set_option maxRecDepth 100000 in
theorem mc_55 : Cond.code yX6_forgetFirst cX6_forgetFirst 3 none ∈ TT := tin3 (i := 32) rfl rfl
set_option maxRecDepth 100000 in
theorem mc_56 : Cond.code yX6_takeBack cX6_takeBack 2 (some .int) ∈ TT := tin3 (i := 104) rfl rfl
set_option maxRecDepth 100000 in
theorem mc_57 : Cond.code yX7_init cX7_init 1 none ∈ TT := tin1 (i := 29) rfl rfl
set_option maxRecDepth 100000 in
theorem mc_58 : Cond.code yX7_length cX7_length 1 (some .int) ∈ TT := tin2 (i := 157) rfl rfl
set_option maxRecDepth 100000 in
theorem mc_59 : Cond.code yX7_hasRoomFor cX7_hasRoomFor 2 (some .boolean) ∈ TT := tin2 (i := 116) rfl rfl
set_option maxRecDepth 100000 in
theorem mc_60 : Cond.code yX7_append cX7_append 5 (some .int) ∈ TT := tin2 (i := 120) rfl rfl
set_option maxRecDepth 100000 in
theorem mc_61 : Cond.code yX7_clear cX7_clear 2 (some .int) ∈ TT := tin2 (i := 128) rfl rfl
set_option maxRecDepth 100000 in
theorem mc_62 : Cond.code yX7_byteAt cX7_byteAt 2 (some .int) ∈ TT := tin2 (i := 140) rfl rfl
set_option maxRecDepth 100000 in
theorem mc_63 : Cond.code yX7_digitAt cX7_digitAt 3 (some .int) ∈ TT := tin2 (i := 144) rfl rfl
set_option maxRecDepth 100000 in
theorem mc_64 : Cond.code yX8_init cX8_init 1 none ∈ TT := tin1 (i := 81) rfl rfl
set_option maxRecDepth 100000 in
theorem mc_65 : Cond.code yX8_copyFrom cX8_copyFrom 3 none ∈ TT := tin2 (i := 181) rfl rfl
set_option maxRecDepth 100000 in
theorem mc_66 : Cond.code yX8_isThere cX8_isThere 2 (some .boolean) ∈ TT := tin3 (i := 5) rfl rfl
set_option maxRecDepth 100000 in
theorem mc_67 : Cond.code yX8_isSet cX8_isSet 2 (some .boolean) ∈ TT := tin3 (i := 149) rfl rfl
set_option maxRecDepth 100000 in
theorem mc_68 : Cond.code yX8_isSalt cX8_isSalt 2 (some .boolean) ∈ TT := tin3 (i := 73) rfl rfl
set_option maxRecDepth 100000 in
theorem mc_69 : Cond.code yX8_isRaw cX8_isRaw 2 (some .boolean) ∈ TT := tin3 (i := 92) rfl rfl
set_option maxRecDepth 100000 in
theorem mc_70 : Cond.code yX8_mostJump cX8_mostJump 2 (some .int) ∈ TT := tin3 (i := 88) rfl rfl
set_option maxRecDepth 100000 in
theorem mc_71 : Cond.code yX8_wants cX8_wants 3 (some .boolean) ∈ TT := tin3 (i := 96) rfl rfl
set_option maxRecDepth 100000 in
theorem mc_72 : Cond.code yX9_init cX9_init 2 none ∈ TT := tin1 (i := 115) rfl rfl
set_option maxRecDepth 100000 in
theorem mc_73 : Cond.code yX9_build cX9_build 2 none ∈ TT := tin2 (i := 185) rfl rfl
set_option maxRecDepth 100000 in
theorem mc_74 : Cond.code yX9_copyFrom cX9_copyFrom 2 none ∈ TT := tin3 (i := 36) rfl rfl
set_option maxRecDepth 100000 in
theorem mc_75 : Cond.code yX9_goBackTo cX9_goBackTo 2 none ∈ TT := tin3 (i := 108) rfl rfl
set_option maxRecDepth 100000 in
theorem mc_76 : Cond.code yX9_fire cX9_fire 2 (some .int) ∈ TT := tin3 (i := 57) rfl rfl
set_option maxRecDepth 100000 in
theorem mc_77 : Cond.code yX9_fireAll cX9_fireAll 4 none ∈ TT := tin3 (i := 140) rfl rfl
set_option maxRecDepth 100000 in
theorem mc_78 : Cond.code yX10_init cX10_init 3 none ∈ TT := tin2 (i := 25) rfl rfl
set_option maxRecDepth 100000 in
theorem mc_79 : Cond.code yX10_search cX10_search 4 (some .int) ∈ TT := tin3 (i := 153) rfl rfl
set_option maxRecDepth 100000 in
theorem mc_80 : Cond.code yX10_fireOn cX10_fireOn 6 none ∈ TT := tin3 (i := 161) rfl rfl
set_option maxRecDepth 100000 in
theorem mc_81 : Cond.code yX10_goOn cX10_goOn 5 none ∈ TT := tin3 (i := 167) rfl rfl
set_option maxRecDepth 100000 in
theorem mc_82 : Cond.code yX11_init cX11_init 2 none ∈ TT := tin1 (i := 21) rfl rfl
set_option maxRecDepth 100000 in
theorem mc_83 : Cond.code yX11_write cX11_write 4 (some .int) ∈ TT := tin2 (i := 112) rfl rfl
set_option maxRecDepth 100000 in
theorem mc_84 : Cond.code yX11_wipe cX11_wipe 1 (some .int) ∈ TT := tin2 (i := 124) rfl rfl
set_option maxRecDepth 100000 in
theorem mc_85 : Cond.code yX11_fault cX11_fault 1 (some .int) ∈ TT := tin2 (i := 132) rfl rfl
set_option maxRecDepth 100000 in
theorem mc_86 : Cond.code yX11_tower cX11_tower 2 (some .int) ∈ TT := tin2 (i := 177) rfl rfl
set_option maxRecDepth 100000 in
theorem mc_87 : Cond.code yX11_about cX11_about 2 (some .int) ∈ TT := tin2 (i := 208) rfl rfl
set_option maxRecDepth 100000 in
theorem mc_88 : Cond.code yX11_kiln cX11_kiln 3 (some .int) ∈ TT := tin2 (i := 229) rfl rfl
set_option maxRecDepth 100000 in
theorem mc_89 : Cond.code yX11_pot cX11_pot 3 (some .int) ∈ TT := tin3 (i := 1) rfl rfl
set_option maxRecDepth 100000 in
theorem mc_90 : Cond.code yX11_open cX11_open 4 (some .int) ∈ TT := tin3 (i := 9) rfl rfl
set_option maxRecDepth 100000 in
theorem mc_91 : Cond.code yX11_damp cX11_damp 4 (some .int) ∈ TT := tin3 (i := 13) rfl rfl
set_option maxRecDepth 100000 in
theorem mc_92 : Cond.code yX11_put cX11_put 4 (some .int) ∈ TT := tin3 (i := 17) rfl rfl
set_option maxRecDepth 100000 in
theorem mc_93 : Cond.code yX11_quarter cX11_quarter 2 (some .int) ∈ TT := tin3 (i := 21) rfl rfl
set_option maxRecDepth 100000 in
theorem mc_94 : Cond.code yX11_undo cX11_undo 1 (some .int) ∈ TT := tin3 (i := 100) rfl rfl
set_option maxRecDepth 100000 in
theorem mc_95 : Cond.code yX11_warm cX11_warm 4 (some .int) ∈ TT := tin3 (i := 114) rfl rfl
set_option maxRecDepth 100000 in
theorem mc_96 : Cond.code yX11_then cX11_then 4 (some .int) ∈ TT := tin3 (i := 131) rfl rfl
set_option maxRecDepth 100000 in
theorem mc_97 : Cond.code yX11_least cX11_least 3 (some .int) ∈ TT := tin3 (i := 145) rfl rfl
set_option maxRecDepth 100000 in
theorem mc_98 : Cond.code yX11_leastAt cX11_leastAt 4 (some .int) ∈ TT := tin3 (i := 172) rfl rfl
set_option maxRecDepth 100000 in
theorem mc_99 : Cond.code yX11_floors cX11_floors 3 (some .int) ∈ TT := tin3 (i := 176) rfl rfl
set_option maxRecDepth 100000 in
theorem mc_100 : Cond.code yX11_floorAt cX11_floorAt 4 (some .int) ∈ TT := tin3 (i := 213) rfl rfl
set_option maxRecDepth 100000 in
theorem mc_101 : Cond.code yX11_openFor cX11_openFor 5 (some .int) ∈ TT := tin3 (i := 217) rfl rfl
set_option maxRecDepth 100000 in
theorem mc_102 : Cond.code yX11_gales cX11_gales 6 (some .long) ∈ TT := tin3 (i := 225) rfl rfl
set_option maxRecDepth 100000 in
theorem mc_103 : Cond.code yX11_cone cX11_cone 6 (some .int) ∈ TT := tin4 (i := 22) rfl rfl
set_option maxRecDepth 100000 in
theorem mc_104 : Cond.code yX11_uncone cX11_uncone 1 (some .int) ∈ TT := tin4 (i := 30) rfl rfl
set_option maxRecDepth 100000 in
theorem mc_105 : Cond.code yX11_blame cX11_blame 2 (some .int) ∈ TT := tin4 (i := 38) rfl rfl
set_option maxRecDepth 100000 in
theorem mc_106 : Cond.code yX11_owed cX11_owed 3 (some .int) ∈ TT := tin4 (i := 58) rfl rfl
set_option maxRecDepth 100000 in
theorem mc_107 : Cond.code yX11_keep cX11_keep 2 (some .int) ∈ TT := tin4 (i := 62) rfl rfl
set_option maxRecDepth 100000 in
theorem mc_108 : Cond.code yX11_again cX11_again 2 (some .int) ∈ TT := tin4 (i := 67) rfl rfl
set_option maxRecDepth 100000 in
theorem mc_109 : Cond.code yX11_isWood cX11_isWood 1 (some .boolean) ∈ TT := tin3 (i := 24) rfl rfl
set_option maxRecDepth 100000 in
theorem mc_110 : Cond.code yX11_isSpan cX11_isSpan 2 (some .boolean) ∈ TT := tin3 (i := 117) rfl rfl
set_option maxRecDepth 100000 in
theorem mc_111 : Cond.code yX11_part cX11_part 7 (some .long) ∈ TT := tin4 (i := 15) rfl rfl
set_option maxRecDepth 100000 in
theorem mc_112 : Cond.code yX11_commonDivisor cX11_commonDivisor 11 (some .long) ∈ TT := tin4 (i := 18) rfl rfl
set_option maxRecDepth 100000 in
theorem mc_113 : Cond.code yX12_init cX12_init 2 none ∈ TT := tin4 (i := 72) rfl rfl
set_option maxRecDepth 100000 in
theorem mc_114 : Cond.code yX12_in cX12_in 6 (some .boolean) ∈ TT := tin4 (i := 211) rfl rfl
set_option maxRecDepth 100000 in
theorem mc_115 : Cond.code yX12_has cX12_has 2 (some .boolean) ∈ TT := tin4 (i := 238) rfl rfl
set_option maxRecDepth 100000 in
theorem mc_116 : Cond.code yX12_noKiln cX12_noKiln 2 (some .boolean) ∈ TT := tin5 (i := 26) rfl rfl
set_option maxRecDepth 100000 in
theorem mc_117 : Cond.code yX12_noPot cX12_noPot 2 (some .boolean) ∈ TT := tin5 (i := 34) rfl rfl
set_option maxRecDepth 100000 in
theorem mc_118 : Cond.code yX12_noFire cX12_noFire 2 (some .boolean) ∈ TT := tin5 (i := 86) rfl rfl
set_option maxRecDepth 100000 in
theorem mc_119 : Cond.code yX12_write cX12_write 5 (some .int) ∈ TT := tin4 (i := 207) rfl rfl
set_option maxRecDepth 100000 in
theorem mc_120 : Cond.code yX12_wipe cX12_wipe 2 (some .int) ∈ TT := tin4 (i := 215) rfl rfl
set_option maxRecDepth 100000 in
theorem mc_121 : Cond.code yX12_figure cX12_figure 3 (some .int) ∈ TT := tin4 (i := 227) rfl rfl
set_option maxRecDepth 100000 in
theorem mc_122 : Cond.code yX12_readShutter cX12_readShutter 4 (some .boolean) ∈ TT := tin4 (i := 235) rfl rfl
set_option maxRecDepth 100000 in
theorem mc_123 : Cond.code yX12_readPot cX12_readPot 8 (some .boolean) ∈ TT := tin5 (i := 2) rfl rfl
set_option maxRecDepth 100000 in
theorem mc_124 : Cond.code yX12_readPart cX12_readPart 2 (some .boolean) ∈ TT := tin4 (i := 231) rfl rfl
set_option maxRecDepth 100000 in
theorem mc_125 : Cond.code yX12_readTower cX12_readTower 2 (some .int) ∈ TT := tin4 (i := 223) rfl rfl
set_option maxRecDepth 100000 in
theorem mc_126 : Cond.code yX12_fault cX12_fault 1 (some .int) ∈ TT := tin4 (i := 219) rfl rfl
set_option maxRecDepth 100000 in
theorem mc_127 : Cond.code yX12_tower cX12_tower 2 (some .int) ∈ TT := tin5 (i := 6) rfl rfl
set_option maxRecDepth 100000 in
theorem mc_128 : Cond.code yX12_allHeat cX12_allHeat 3 (some .int) ∈ TT := tin5 (i := 14) rfl rfl
set_option maxRecDepth 100000 in
theorem mc_129 : Cond.code yX12_countHow cX12_countHow 4 (some .int) ∈ TT := tin5 (i := 18) rfl rfl
set_option maxRecDepth 100000 in
theorem mc_130 : Cond.code yX12_about cX12_about 2 (some .int) ∈ TT := tin5 (i := 10) rfl rfl
set_option maxRecDepth 100000 in
theorem mc_131 : Cond.code yX12_kiln cX12_kiln 5 (some .int) ∈ TT := tin5 (i := 22) rfl rfl
set_option maxRecDepth 100000 in
theorem mc_132 : Cond.code yX12_pot cX12_pot 3 (some .int) ∈ TT := tin5 (i := 30) rfl rfl
set_option maxRecDepth 100000 in
theorem mc_133 : Cond.code yX12_open cX12_open 4 (some .int) ∈ TT := tin5 (i := 38) rfl rfl
set_option maxRecDepth 100000 in
theorem mc_134 : Cond.code yX12_damp cX12_damp 4 (some .int) ∈ TT := tin5 (i := 42) rfl rfl
set_option maxRecDepth 100000 in
theorem mc_135 : Cond.code yX12_put cX12_put 4 (some .int) ∈ TT := tin5 (i := 46) rfl rfl
set_option maxRecDepth 100000 in
theorem mc_136 : Cond.code yX12_begin cX12_begin 2 none ∈ TT := tin5 (i := 59) rfl rfl
set_option maxRecDepth 100000 in
theorem mc_137 : Cond.code yX12_goHeat cX12_goHeat 5 none ∈ TT := tin5 (i := 67) rfl rfl
set_option maxRecDepth 100000 in
theorem mc_138 : Cond.code yX12_isSalted cX12_isSalted 5 (some .boolean) ∈ TT := tin5 (i := 75) rfl rfl
set_option maxRecDepth 100000 in
theorem mc_139 : Cond.code yX12_feel cX12_feel 4 (some .int) ∈ TT := tin5 (i := 71) rfl rfl
set_option maxRecDepth 100000 in
theorem mc_140 : Cond.code yX12_go cX12_go 5 (some .int) ∈ TT := tin5 (i := 63) rfl rfl
set_option maxRecDepth 100000 in
theorem mc_141 : Cond.code yX12_goMany cX12_goMany 4 none ∈ TT := tin5 (i := 90) rfl rfl
set_option maxRecDepth 100000 in
theorem mc_142 : Cond.code yX12_note cX12_note 3 none ∈ TT := tin5 (i := 55) rfl rfl
set_option maxRecDepth 100000 in
theorem mc_143 : Cond.code yX12_quarter cX12_quarter 4 (some .int) ∈ TT := tin5 (i := 50) rfl rfl
set_option maxRecDepth 100000 in
theorem mc_144 : Cond.code yX12_undo cX12_undo 3 (some .int) ∈ TT := tin5 (i := 79) rfl rfl
set_option maxRecDepth 100000 in
theorem mc_145 : Cond.code yX12_warm cX12_warm 4 (some .int) ∈ TT := tin5 (i := 83) rfl rfl
set_option maxRecDepth 100000 in
theorem mc_146 : Cond.code yX12_then cX12_then 4 (some .int) ∈ TT := tin5 (i := 94) rfl rfl
set_option maxRecDepth 100000 in
theorem mc_147 : Cond.code yX12_findLeast cX12_findLeast 10 (some .int) ∈ TT := tin5 (i := 107) rfl rfl
set_option maxRecDepth 100000 in
theorem mc_148 : Cond.code yX12_noLeast cX12_noLeast 3 (some .boolean) ∈ TT := tin5 (i := 102) rfl rfl
set_option maxRecDepth 100000 in
theorem mc_149 : Cond.code yX12_least cX12_least 3 (some .int) ∈ TT := tin5 (i := 98) rfl rfl
set_option maxRecDepth 100000 in
theorem mc_150 : Cond.code yX12_leastAt cX12_leastAt 4 (some .int) ∈ TT := tin5 (i := 111) rfl rfl
set_option maxRecDepth 100000 in
theorem mc_151 : Cond.code yX12_findFloors cX12_findFloors 9 (some .int) ∈ TT := tin5 (i := 119) rfl rfl
set_option maxRecDepth 100000 in
theorem mc_152 : Cond.code yX12_floors cX12_floors 3 (some .int) ∈ TT := tin5 (i := 115) rfl rfl
set_option maxRecDepth 100000 in
theorem mc_153 : Cond.code yX12_floorAt cX12_floorAt 4 (some .int) ∈ TT := tin5 (i := 123) rfl rfl
set_option maxRecDepth 100000 in
theorem mc_154 : Cond.code yX12_openFor cX12_openFor 8 (some .int) ∈ TT := tin5 (i := 127) rfl rfl
set_option maxRecDepth 100000 in
theorem mc_155 : Cond.code yX12_divisor cX12_divisor 10 (some .long) ∈ TT := tin5 (i := 137) rfl rfl
set_option maxRecDepth 100000 in
theorem mc_156 : Cond.code yX12_gales cX12_gales 14 (some .long) ∈ TT := tin5 (i := 131) rfl rfl
set_option maxRecDepth 100000 in
theorem mc_157 : Cond.code yX12_cone cX12_cone 6 (some .int) ∈ TT := tin5 (i := 141) rfl rfl
set_option maxRecDepth 100000 in
theorem mc_158 : Cond.code yX12_uncone cX12_uncone 2 (some .int) ∈ TT := tin5 (i := 146) rfl rfl
set_option maxRecDepth 100000 in
theorem mc_159 : Cond.code yX12_isTrue cX12_isTrue 3 (some .boolean) ∈ TT := tin5 (i := 154) rfl rfl
set_option maxRecDepth 100000 in
theorem mc_160 : Cond.code yX12_blame cX12_blame 7 (some .int) ∈ TT := tin5 (i := 150) rfl rfl
set_option maxRecDepth 100000 in
theorem mc_161 : Cond.code yX12_owed cX12_owed 5 (some .int) ∈ TT := tin5 (i := 158) rfl rfl
set_option maxRecDepth 100000 in
theorem mc_162 : Cond.code yX12_keep cX12_keep 4 (some .int) ∈ TT := tin5 (i := 162) rfl rfl
set_option maxRecDepth 100000 in
theorem mc_163 : Cond.code yX12_again cX12_again 4 (some .int) ∈ TT := tin5 (i := 166) rfl rfl
set_option maxRecDepth 100000 in
theorem mc_164 : Cond.code yJ6_bitCount_0f7a4 cJ6_bitCount_0f7a4 1 (some .int) ∈ TT := tin3 (i := 234) rfl rfl
theorem mcs_0 : ∀ q ∈ mis0, Cond.code q.1 q.2.1 q.2.2.1 q.2.2.2.1 ∈ TT := List.forall_mem_cons.mpr ⟨mc_0, List.forall_mem_cons.mpr ⟨mc_1, List.forall_mem_cons.mpr ⟨mc_2, List.forall_mem_cons.mpr ⟨mc_3, List.forall_mem_cons.mpr ⟨mc_4, List.forall_mem_cons.mpr ⟨mc_5, List.forall_mem_cons.mpr ⟨mc_6, List.forall_mem_cons.mpr ⟨mc_7, List.forall_mem_cons.mpr ⟨mc_8, List.forall_mem_cons.mpr ⟨mc_9, List.forall_mem_cons.mpr ⟨mc_10, List.forall_mem_cons.mpr ⟨mc_11, List.forall_mem_cons.mpr ⟨mc_12, List.forall_mem_cons.mpr ⟨mc_13, List.forall_mem_cons.mpr ⟨mc_14, List.forall_mem_cons.mpr ⟨mc_15, List.forall_mem_cons.mpr ⟨mc_16, List.forall_mem_cons.mpr ⟨mc_17, List.forall_mem_cons.mpr ⟨mc_18, List.forall_mem_cons.mpr ⟨mc_19, List.forall_mem_cons.mpr ⟨mc_20, List.forall_mem_cons.mpr ⟨mc_21, List.forall_mem_cons.mpr ⟨mc_22, List.forall_mem_cons.mpr ⟨mc_23, List.forall_mem_cons.mpr ⟨mc_24, List.forall_mem_cons.mpr ⟨mc_25, List.forall_mem_cons.mpr ⟨mc_26, List.forall_mem_cons.mpr ⟨mc_27, List.forall_mem_cons.mpr ⟨mc_28, List.forall_mem_cons.mpr ⟨mc_29, List.forall_mem_cons.mpr ⟨mc_30, List.forall_mem_cons.mpr ⟨mc_31, List.forall_mem_cons.mpr ⟨mc_32, List.forall_mem_cons.mpr ⟨mc_33, List.forall_mem_cons.mpr ⟨mc_34, List.forall_mem_cons.mpr ⟨mc_35, List.forall_mem_cons.mpr ⟨mc_36, List.forall_mem_cons.mpr ⟨mc_37, List.forall_mem_cons.mpr ⟨mc_38, List.forall_mem_cons.mpr ⟨mc_39, fun _ h => absurd h List.not_mem_nil⟩⟩⟩⟩⟩⟩⟩⟩⟩⟩⟩⟩⟩⟩⟩⟩⟩⟩⟩⟩⟩⟩⟩⟩⟩⟩⟩⟩⟩⟩⟩⟩⟩⟩⟩⟩⟩⟩⟩⟩
theorem mcs_1 : ∀ q ∈ mis1, Cond.code q.1 q.2.1 q.2.2.1 q.2.2.2.1 ∈ TT := List.forall_mem_cons.mpr ⟨mc_40, List.forall_mem_cons.mpr ⟨mc_41, List.forall_mem_cons.mpr ⟨mc_42, List.forall_mem_cons.mpr ⟨mc_43, List.forall_mem_cons.mpr ⟨mc_44, List.forall_mem_cons.mpr ⟨mc_45, List.forall_mem_cons.mpr ⟨mc_46, List.forall_mem_cons.mpr ⟨mc_47, List.forall_mem_cons.mpr ⟨mc_48, List.forall_mem_cons.mpr ⟨mc_49, List.forall_mem_cons.mpr ⟨mc_50, List.forall_mem_cons.mpr ⟨mc_51, List.forall_mem_cons.mpr ⟨mc_52, List.forall_mem_cons.mpr ⟨mc_53, List.forall_mem_cons.mpr ⟨mc_54, List.forall_mem_cons.mpr ⟨mc_55, List.forall_mem_cons.mpr ⟨mc_56, List.forall_mem_cons.mpr ⟨mc_57, List.forall_mem_cons.mpr ⟨mc_58, List.forall_mem_cons.mpr ⟨mc_59, List.forall_mem_cons.mpr ⟨mc_60, List.forall_mem_cons.mpr ⟨mc_61, List.forall_mem_cons.mpr ⟨mc_62, List.forall_mem_cons.mpr ⟨mc_63, List.forall_mem_cons.mpr ⟨mc_64, List.forall_mem_cons.mpr ⟨mc_65, List.forall_mem_cons.mpr ⟨mc_66, List.forall_mem_cons.mpr ⟨mc_67, List.forall_mem_cons.mpr ⟨mc_68, List.forall_mem_cons.mpr ⟨mc_69, List.forall_mem_cons.mpr ⟨mc_70, List.forall_mem_cons.mpr ⟨mc_71, List.forall_mem_cons.mpr ⟨mc_72, List.forall_mem_cons.mpr ⟨mc_73, List.forall_mem_cons.mpr ⟨mc_74, List.forall_mem_cons.mpr ⟨mc_75, List.forall_mem_cons.mpr ⟨mc_76, List.forall_mem_cons.mpr ⟨mc_77, List.forall_mem_cons.mpr ⟨mc_78, List.forall_mem_cons.mpr ⟨mc_79, fun _ h => absurd h List.not_mem_nil⟩⟩⟩⟩⟩⟩⟩⟩⟩⟩⟩⟩⟩⟩⟩⟩⟩⟩⟩⟩⟩⟩⟩⟩⟩⟩⟩⟩⟩⟩⟩⟩⟩⟩⟩⟩⟩⟩⟩⟩
theorem mcs_2 : ∀ q ∈ mis2, Cond.code q.1 q.2.1 q.2.2.1 q.2.2.2.1 ∈ TT := List.forall_mem_cons.mpr ⟨mc_80, List.forall_mem_cons.mpr ⟨mc_81, List.forall_mem_cons.mpr ⟨mc_82, List.forall_mem_cons.mpr ⟨mc_83, List.forall_mem_cons.mpr ⟨mc_84, List.forall_mem_cons.mpr ⟨mc_85, List.forall_mem_cons.mpr ⟨mc_86, List.forall_mem_cons.mpr ⟨mc_87, List.forall_mem_cons.mpr ⟨mc_88, List.forall_mem_cons.mpr ⟨mc_89, List.forall_mem_cons.mpr ⟨mc_90, List.forall_mem_cons.mpr ⟨mc_91, List.forall_mem_cons.mpr ⟨mc_92, List.forall_mem_cons.mpr ⟨mc_93, List.forall_mem_cons.mpr ⟨mc_94, List.forall_mem_cons.mpr ⟨mc_95, List.forall_mem_cons.mpr ⟨mc_96, List.forall_mem_cons.mpr ⟨mc_97, List.forall_mem_cons.mpr ⟨mc_98, List.forall_mem_cons.mpr ⟨mc_99, List.forall_mem_cons.mpr ⟨mc_100, List.forall_mem_cons.mpr ⟨mc_101, List.forall_mem_cons.mpr ⟨mc_102, List.forall_mem_cons.mpr ⟨mc_103, List.forall_mem_cons.mpr ⟨mc_104, List.forall_mem_cons.mpr ⟨mc_105, List.forall_mem_cons.mpr ⟨mc_106, List.forall_mem_cons.mpr ⟨mc_107, List.forall_mem_cons.mpr ⟨mc_108, List.forall_mem_cons.mpr ⟨mc_109, List.forall_mem_cons.mpr ⟨mc_110, List.forall_mem_cons.mpr ⟨mc_111, List.forall_mem_cons.mpr ⟨mc_112, List.forall_mem_cons.mpr ⟨mc_113, List.forall_mem_cons.mpr ⟨mc_114, List.forall_mem_cons.mpr ⟨mc_115, List.forall_mem_cons.mpr ⟨mc_116, List.forall_mem_cons.mpr ⟨mc_117, List.forall_mem_cons.mpr ⟨mc_118, List.forall_mem_cons.mpr ⟨mc_119, fun _ h => absurd h List.not_mem_nil⟩⟩⟩⟩⟩⟩⟩⟩⟩⟩⟩⟩⟩⟩⟩⟩⟩⟩⟩⟩⟩⟩⟩⟩⟩⟩⟩⟩⟩⟩⟩⟩⟩⟩⟩⟩⟩⟩⟩⟩
theorem mcs_3 : ∀ q ∈ mis3, Cond.code q.1 q.2.1 q.2.2.1 q.2.2.2.1 ∈ TT := List.forall_mem_cons.mpr ⟨mc_120, List.forall_mem_cons.mpr ⟨mc_121, List.forall_mem_cons.mpr ⟨mc_122, List.forall_mem_cons.mpr ⟨mc_123, List.forall_mem_cons.mpr ⟨mc_124, List.forall_mem_cons.mpr ⟨mc_125, List.forall_mem_cons.mpr ⟨mc_126, List.forall_mem_cons.mpr ⟨mc_127, List.forall_mem_cons.mpr ⟨mc_128, List.forall_mem_cons.mpr ⟨mc_129, List.forall_mem_cons.mpr ⟨mc_130, List.forall_mem_cons.mpr ⟨mc_131, List.forall_mem_cons.mpr ⟨mc_132, List.forall_mem_cons.mpr ⟨mc_133, List.forall_mem_cons.mpr ⟨mc_134, List.forall_mem_cons.mpr ⟨mc_135, List.forall_mem_cons.mpr ⟨mc_136, List.forall_mem_cons.mpr ⟨mc_137, List.forall_mem_cons.mpr ⟨mc_138, List.forall_mem_cons.mpr ⟨mc_139, List.forall_mem_cons.mpr ⟨mc_140, List.forall_mem_cons.mpr ⟨mc_141, List.forall_mem_cons.mpr ⟨mc_142, List.forall_mem_cons.mpr ⟨mc_143, List.forall_mem_cons.mpr ⟨mc_144, List.forall_mem_cons.mpr ⟨mc_145, List.forall_mem_cons.mpr ⟨mc_146, List.forall_mem_cons.mpr ⟨mc_147, List.forall_mem_cons.mpr ⟨mc_148, List.forall_mem_cons.mpr ⟨mc_149, List.forall_mem_cons.mpr ⟨mc_150, List.forall_mem_cons.mpr ⟨mc_151, List.forall_mem_cons.mpr ⟨mc_152, List.forall_mem_cons.mpr ⟨mc_153, List.forall_mem_cons.mpr ⟨mc_154, List.forall_mem_cons.mpr ⟨mc_155, List.forall_mem_cons.mpr ⟨mc_156, List.forall_mem_cons.mpr ⟨mc_157, List.forall_mem_cons.mpr ⟨mc_158, List.forall_mem_cons.mpr ⟨mc_159, fun _ h => absurd h List.not_mem_nil⟩⟩⟩⟩⟩⟩⟩⟩⟩⟩⟩⟩⟩⟩⟩⟩⟩⟩⟩⟩⟩⟩⟩⟩⟩⟩⟩⟩⟩⟩⟩⟩⟩⟩⟩⟩⟩⟩⟩⟩
theorem mcs_4 : ∀ q ∈ mis4, Cond.code q.1 q.2.1 q.2.2.1 q.2.2.2.1 ∈ TT := List.forall_mem_cons.mpr ⟨mc_160, List.forall_mem_cons.mpr ⟨mc_161, List.forall_mem_cons.mpr ⟨mc_162, List.forall_mem_cons.mpr ⟨mc_163, List.forall_mem_cons.mpr ⟨mc_164, fun _ h => absurd h List.not_mem_nil⟩⟩⟩⟩⟩
theorem mis_code : ∀ q ∈ mis, Cond.code q.1 q.2.1 q.2.2.1 q.2.2.2.1 ∈ TT := List.forall_mem_append.mpr ⟨mcs_0, List.forall_mem_append.mpr ⟨mcs_1, List.forall_mem_append.mpr ⟨mcs_2, List.forall_mem_append.mpr ⟨mcs_3, mcs_4⟩⟩⟩⟩
def misOk (mid : Nat) : Bool := match mis[mid]?, mwi[mid]? with
  | some (y, c, L, ret, cn, _, _, n), some (_, _, _, w4) => wAt (.initialized y.cls) w4 && decide (y.cls = RR cn) && decide (y.cls ≠ "java/lang/invoke/MethodHandle") && decide (y.cls ≠ "java/lang/invoke/VarHandle") && decide ((parseMethodDescriptor y.desc).map (fun d => d.parameters.length) = some n) && plainName y.cls
  | _, _ => false
set_option maxRecDepth 100000 in
theorem mis_all : (List.range mis.length).all misOk = true := by decide +kernel
theorem mis_ok {mid : Nat} {y : MethodName} {c : ByteArray} {L : Nat} {ret : Option FieldType} {cn mc ms n : Nat} (h : mis[mid]? = some (y, c, L, ret, cn, mc, ms, n)) : Cond.code y c L ret ∈ TT ∧ Cond.initialized y.cls ∈ TT ∧ y.cls = RR cn ∧ (y.cls ≠ "java/lang/invoke/MethodHandle" ∧ y.cls ≠ "java/lang/invoke/VarHandle" ∧ (parseMethodDescriptor y.desc).map (fun d => d.parameters.length) = some n) ∧ plainName y.cls = true := by
  have h1 := List.all_eq_true.mp mis_all mid (List.mem_range.mpr (List.getElem?_eq_some_iff.mp h).1)
  unfold misOk at h1
  rw [h] at h1
  split at h1
  · rename_i e1 e2
    cases e1
    simp only [Bool.and_eq_true, decide_eq_true_eq] at h1
    obtain ⟨⟨⟨⟨⟨h2, h3⟩, h4⟩, h5⟩, h6⟩, h7⟩ := h1
    exact ⟨mis_code _ (List.mem_of_getElem? h), wAt_mem h2, h3, ⟨h4, h5, h6⟩, h7⟩
  · cases h1
/-- a call's place: the callee, kind 0 virtual, 1 static, 2 a constructor, 3 a nest mate's private constructor -/
def mOk (cn : Nat) (q : Nat × Nat × Nat × Nat) : Bool := match mis[q.2.1]?, mwi[q.2.1]? with
  | some (y, _, _, ret, _, _, _, _), some (_, w2, w3, _) => match q.2.2.1 with
    | 0 => wAt (.methodLink (RR cn) q.1 y) q.2.2.2 && wAt (.instanceMethod y) w2 && wAt (.selects y.cls y y) w3
    | 1 => wAt (.methodLink (RR cn) q.1 y) q.2.2.2 && wAt (.static y) w2
    | 2 => wAt (.methodLink (RR cn) q.1 y) q.2.2.2 && wAt (.instanceMethod y) w2 && decide (y.name = "<init>") && decide (ret = none)
    | 3 => wAt (.instanceMethod y) w2 && decide (y.name = "<init>") && decide (ret = none) && decide (cn = 11 ∧ ((q.1 = 9 ∧ y = yX7_init) ∨ (q.1 = 18 ∧ y = yX5_init) ∨ (q.1 = 25 ∧ y = yX8_init)))
    | _ => false
  | _, _ => false
set_option maxRecDepth 100000 in
theorem mTab_ok : (List.range 15).all (fun cn => (mTab.getD cn []).all (fun q => mOk cn q)) = true := by decide +kernel
theorem mT_ok {cn idx mid kd : Nat} (h : mT cn idx = some (mid, kd)) : ∃ (y : MethodName) (c : ByteArray) (L : Nat) (ret : Option FieldType) (cn' mc ms n : Nat), mis[mid]? = some (y, c, L, ret, cn', mc, ms, n) ∧
    ((kd = 0 ∧ Cond.methodLink (RR cn) idx y ∈ TT ∧ Cond.instanceMethod y ∈ TT ∧ Cond.selects y.cls y y ∈ TT) ∨ (kd = 1 ∧ Cond.methodLink (RR cn) idx y ∈ TT ∧ Cond.static y ∈ TT) ∨ (kd = 2 ∧ Cond.methodLink (RR cn) idx y ∈ TT ∧ Cond.instanceMethod y ∈ TT ∧ y.name = "<init>" ∧ ret = none) ∨ (kd = 3 ∧ (cn = 11 ∧ ((idx = 9 ∧ y = yX7_init) ∨ (idx = 18 ∧ y = yX5_init) ∨ (idx = 25 ∧ y = yX8_init))) ∧ Cond.instanceMethod y ∈ TT ∧ y.name = "<init>" ∧ ret = none)) := by
  unfold mT at h
  cases hq : (mTab.getD cn []).find? (fun q => q.1 == idx) with
  | none => rw [hq] at h; cases h
  | some q =>
    rw [hq] at h
    cases h
    obtain ⟨h1, h2⟩ := tab_get mTab_ok rfl hq
    rw [← eq_of_beq h2]
    unfold mOk at h1
    split at h1
    · rename_i y c L ret cn' mc ms n w1 w2 w3 w4 e1 e2
      refine ⟨y, c, L, ret, cn', mc, ms, n, e1, ?_⟩
      split at h1 <;> rename_i hk
      · simp only [Bool.and_eq_true, decide_eq_true_eq] at h1
        exact Or.inl ⟨hk, wAt_mem h1.1.1, wAt_mem h1.1.2, wAt_mem h1.2⟩
      · simp only [Bool.and_eq_true, decide_eq_true_eq] at h1
        exact Or.inr (Or.inl ⟨hk, wAt_mem h1.1, wAt_mem h1.2⟩)
      · simp only [Bool.and_eq_true, decide_eq_true_eq] at h1
        exact Or.inr (Or.inr (Or.inl ⟨hk, wAt_mem h1.1.1.1, wAt_mem h1.1.1.2, h1.1.2, h1.2⟩))
      · simp only [Bool.and_eq_true, decide_eq_true_eq] at h1
        exact Or.inr (Or.inr (Or.inr ⟨hk, h1.2, wAt_mem h1.1.1.1, h1.1.1.2, h1.1.2⟩))
      · cases h1
    · cases h1
set_option maxRecDepth 100000 in
theorem cTab_ok : (List.range 15).all (fun cn => (cTab.getD cn []).all (fun q => match vwCl[q.2.1]? with | some (C, _, _) => wAt (.classLink (RR cn) q.1 C) q.2.2 | none => false)) = true := by decide +kernel
set_option maxRecDepth 100000 in
theorem cT_ok {cn idx ci : Nat} (h : cT cn idx = some ci) : ∃ (C : String) (T : u_T) (N : Nat), vwCl[ci]? = some (C, T, N) ∧ Cond.classLink (RR cn) idx C ∈ TT := by
  unfold cT at h
  cases hq : (cTab.getD cn []).find? (fun q => q.1 == idx) with
  | none => rw [hq] at h; cases h
  | some q =>
    rw [hq] at h
    cases h
    obtain ⟨h1, h2⟩ := tab_get (P := fun cn q => match vwCl[q.2.1]? with | some (C, _, _) => wAt (.classLink (RR cn) q.1 C) q.2.2 | none => false) cTab_ok rfl hq
    rw [← eq_of_beq h2]
    split at h1
    · rename_i C T N hc
      exact ⟨C, T, N, hc, wAt_mem h1⟩
    · cases h1
theorem one_ok {tab : List (List (Nat × Nat))} {f : Nat → Nat → Cond} (hall : (List.range 15).all (fun cn => (tab.getD cn []).all (fun q => wAt (f cn q.1) q.2)) = true) (hl : tab.length = 15) {cn idx : Nat} (h : ((tab.getD cn []).find? (fun q => q.1 == idx)).isSome = true) : f cn idx ∈ TT := by
  obtain ⟨q, hq⟩ := Option.isSome_iff_exists.mp h
  obtain ⟨h1, h2⟩ := tab_get (P := fun cn q => wAt (f cn q.1) q.2) hall hl hq
  rw [← eq_of_beq h2]
  exact wAt_mem h1
theorem aT_ok {cn idx : Nat} (h : aT cn idx = true) : Cond.classLink (RR cn) idx "OvensAbove$Tower" ∈ TT := one_ok (f := fun cn i => Cond.classLink (RR cn) i "OvensAbove$Tower") (by decide +kernel) rfl h
theorem oT_ok {cn idx : Nat} (h : oT cn idx = true) : Cond.methodLink (RR cn) idx objectInit ∈ TT := one_ok (f := fun cn i => Cond.methodLink (RR cn) i objectInit) (by decide +kernel) rfl h
theorem pT_ok {cn idx : Nat} (h : pT cn idx = true) : Cond.methodLink (RR cn) idx arraycopyName ∈ TT := one_ok (f := fun cn i => Cond.methodLink (RR cn) i arraycopyName) (by decide +kernel) rfl h
theorem bT_ok {cn idx : Nat} (h : bT cn idx = true) : Cond.methodLink (RR cn) idx Lib.Math.abs.name ∈ TT := one_ok (f := fun cn i => Cond.methodLink (RR cn) i Lib.Math.abs.name) (by decide +kernel) rfl h
theorem lTab_ok : (List.range 15).all (fun cn => (lTab.getD cn []).all (fun q => wAt (.constantLong (RR cn) q.1 q.2.1) q.2.2)) = true := by decide +kernel
set_option maxRecDepth 100000 in
theorem lT_ok {cn idx : Nat} {v : Int64} (h : lT cn idx = some v) : Cond.constantLong (RR cn) idx v ∈ TT := by
  unfold lT at h
  cases hq : (lTab.getD cn []).find? (fun q => q.1 == idx) with
  | none => rw [hq] at h; cases h
  | some q =>
    rw [hq] at h
    cases h
    obtain ⟨h1, h2⟩ := tab_get (P := fun cn q => wAt (.constantLong (RR cn) q.1 q.2.1) q.2.2) lTab_ok rfl hq
    rw [← eq_of_beq h2]
    exact wAt_mem h1
theorem iTab_ok : (List.range 15).all (fun cn => (iTab.getD cn []).all (fun q => wAt (.constant (RR cn) q.1 q.2.1) q.2.2)) = true := by decide +kernel
set_option maxRecDepth 100000 in
theorem iT_ok {cn idx : Nat} {v : Int32} (h : iT cn idx = some v) : Cond.constant (RR cn) idx v ∈ TT := by
  unfold iT at h
  cases hq : (iTab.getD cn []).find? (fun q => q.1 == idx) with
  | none => rw [hq] at h; cases h
  | some q =>
    rw [hq] at h
    cases h
    obtain ⟨h1, h2⟩ := tab_get (P := fun cn q => wAt (.constant (RR cn) q.1 q.2.1) q.2.2) iTab_ok rfl hq
    rw [← eq_of_beq h2]
    exact wAt_mem h1
theorem w_objInstance : Cond.instanceMethod objectInit ∈ TT := wAt_mem (i := 61) (by decide +kernel)
set_option maxRecDepth 100000 in
theorem w_objCode : Cond.code objectInit ⟨#[0xb1]⟩ 1 none ∈ TT := tin1 (i := 24) rfl rfl
theorem w_acNat : Cond.native arraycopyName ∈ TT := wAt_mem (i := 474) (by decide +kernel)
theorem w_acStat : Cond.static arraycopyName ∈ TT := wAt_mem (i := 473) (by decide +kernel)
theorem w_acIni : Cond.initialized "java/lang/System" ∈ TT := wAt_mem (i := 52) (by decide +kernel)
theorem w_abStat : Cond.static Lib.Math.abs.name ∈ TT := wAt_mem (i := 601) (by decide +kernel)
theorem w_abIni : Cond.initialized "java/lang/Math" ∈ TT := wAt_mem (i := 53) (by decide +kernel)
set_option maxRecDepth 100000 in
theorem w_abCode : Cond.code Lib.Math.abs.name Lib.Math.abs.code 1 (some .int) ∈ TT := tin3 (i := 84) rfl rfl
theorem w_arI : Cond.arrayClass .int ∈ TT := wAt_mem (i := 76) (by decide +kernel)
theorem w_arZ : Cond.arrayClass .boolean ∈ TT := wAt_mem (i := 114) (by decide +kernel)
theorem w_mmLink : Cond.classLink (RR 5) 18 ("[" ++ (FieldType.array .int).toString) ∈ TT := wAt_mem (i := 83) (by decide +kernel)
theorem w_aoT : Cond.arrayOver (.object "OvensAbove$Tower") ∈ lw_tbl := List.mem_of_getElem? (i := 246) (by decide +kernel)
theorem w_aoI : Cond.arrayOver (.array .int) ∈ lw_tbl := List.mem_of_getElem? (i := 84) (by decide +kernel)
theorem w_n9 : Cond.methodLinkNest RX11 9 yX7_init "OvensAbove" ∈ lw_tbl := List.mem_of_getElem? (i := 65) (by decide +kernel)
theorem w_n18 : Cond.methodLinkNest RX11 18 yX5_init "OvensAbove" ∈ lw_tbl := List.mem_of_getElem? (i := 79) (by decide +kernel)
theorem w_n25 : Cond.methodLinkNest RX11 25 yX8_init "OvensAbove" ∈ lw_tbl := List.mem_of_getElem? (i := 117) (by decide +kernel)
