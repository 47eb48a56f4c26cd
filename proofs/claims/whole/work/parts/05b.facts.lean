/-- what the tables say of a call -/
def cyN (k : Nat) : MethodName := match k with
  | 1000 => arraycopyName
  | 1001 => yJ0_length_8abf5
  | 1002 => yJ0_charAt_5068e
  | 1003 => objectInit
  | 1004 => Lib.Math.max.name
  | 1005 => Lib.Math.min.name
  | 1006 => Lib.Math.abs.name
  | m => mY m
def okC (e : (Nat × Nat) × (Nat × Nat)) : Prop := (Cond.methodLink (RK e.1.1) e.1.2 (cyN e.2.1) ∈ lw_tbl ∨ Cond.methodLinkNest (RK e.1.1) e.1.2 (cyN e.2.1) "BedsBySnore" ∈ lw_tbl ∧ mKd e.2.1 = 2) ∧ (parseMethodDescriptor (cyN e.2.1).desc).map (fun d => d.parameters.length) = some e.2.2 ∧ (e.2.1 < 1000 → e.2.1 < 181)
theorem okC_0 : okC ((0, 3), (1003, 0)) := ⟨Or.inl (List.mem_of_getElem? (i := 210) (by decide +kernel)), by decide +kernel, by decide⟩
theorem okC_1 : okC ((0, 47), (1000, 5)) := ⟨Or.inl (List.mem_of_getElem? (i := 758) (by decide +kernel)), by decide +kernel, by decide⟩
theorem okC_2 : okC ((0, 53), (14, 1)) := ⟨Or.inl (List.mem_of_getElem? (i := 326) (by decide +kernel)), by decide +kernel, by decide⟩
theorem okC_3 : okC ((0, 57), (5, 1)) := ⟨Or.inl (List.mem_of_getElem? (i := 330) (by decide +kernel)), by decide +kernel, by decide⟩
theorem okC_4 : okC ((0, 60), (15, 1)) := ⟨Or.inl (List.mem_of_getElem? (i := 342) (by decide +kernel)), by decide +kernel, by decide⟩
theorem okC_5 : okC ((0, 63), (13, 1)) := ⟨Or.inl (List.mem_of_getElem? (i := 366) (by decide +kernel)), by decide +kernel, by decide⟩
theorem okC_6 : okC ((0, 66), (1005, 2)) := ⟨Or.inl (List.mem_of_getElem? (i := 485) (by decide +kernel)), by decide +kernel, by decide⟩
theorem okC_7 : okC ((0, 72), (1006, 1)) := ⟨Or.inl (List.mem_of_getElem? (i := 509) (by decide +kernel)), by decide +kernel, by decide⟩
theorem okC_8 : okC ((0, 76), (21, 2)) := ⟨Or.inl (List.mem_of_getElem? (i := 499) (by decide +kernel)), by decide +kernel, by decide⟩
theorem okC_9 : okC ((0, 79), (38, 1)) := ⟨Or.inl (List.mem_of_getElem? (i := 500) (by decide +kernel)), by decide +kernel, by decide⟩
theorem okC_10 : okC ((0, 84), (42, 1)) := ⟨Or.inl (List.mem_of_getElem? (i := 501) (by decide +kernel)), by decide +kernel, by decide⟩
theorem okC_11 : okC ((0, 87), (22, 2)) := ⟨Or.inl (List.mem_of_getElem? (i := 505) (by decide +kernel)), by decide +kernel, by decide⟩
theorem okC_12 : okC ((0, 91), (39, 2)) := ⟨Or.inl (List.mem_of_getElem? (i := 490) (by decide +kernel)), by decide +kernel, by decide⟩
theorem okC_13 : okC ((0, 94), (23, 4)) := ⟨Or.inl (List.mem_of_getElem? (i := 495) (by decide +kernel)), by decide +kernel, by decide⟩
theorem okC_14 : okC ((0, 98), (24, 3)) := ⟨Or.inl (List.mem_of_getElem? (i := 516) (by decide +kernel)), by decide +kernel, by decide⟩
theorem okC_15 : okC ((0, 102), (19, 1)) := ⟨Or.inl (List.mem_of_getElem? (i := 517) (by decide +kernel)), by decide +kernel, by decide⟩
theorem okC_16 : okC ((0, 105), (26, 2)) := ⟨Or.inl (List.mem_of_getElem? (i := 720) (by decide +kernel)), by decide +kernel, by decide⟩
theorem okC_17 : okC ((0, 109), (179, 1)) := ⟨Or.inl (List.mem_of_getElem? (i := 721) (by decide +kernel)), by decide +kernel, by decide⟩
theorem okC_18 : okC ((0, 114), (1004, 2)) := ⟨Or.inl (List.mem_of_getElem? (i := 566) (by decide +kernel)), by decide +kernel, by decide⟩
theorem okC_19 : okC ((0, 117), (29, 1)) := ⟨Or.inl (List.mem_of_getElem? (i := 567) (by decide +kernel)), by decide +kernel, by decide⟩
theorem okC_20 : okC ((1, 3), (1003, 0)) := ⟨Or.inl (List.mem_of_getElem? (i := 140) (by decide +kernel)), by decide +kernel, by decide⟩
theorem okC_21 : okC ((1, 15), (20, 1)) := ⟨Or.inl (List.mem_of_getElem? (i := 362) (by decide +kernel)), by decide +kernel, by decide⟩
theorem okC_22 : okC ((1, 21), (12, 0)) := ⟨Or.inl (List.mem_of_getElem? (i := 370) (by decide +kernel)), by decide +kernel, by decide⟩
theorem okC_23 : okC ((1, 40), (1000, 5)) := ⟨Or.inl (List.mem_of_getElem? (i := 557) (by decide +kernel)), by decide +kernel, by decide⟩
theorem okC_24 : okC ((1, 46), (38, 1)) := ⟨Or.inl (List.mem_of_getElem? (i := 494) (by decide +kernel)), by decide +kernel, by decide⟩
theorem okC_25 : okC ((1, 49), (40, 2)) := ⟨Or.inl (List.mem_of_getElem? (i := 541) (by decide +kernel)), by decide +kernel, by decide⟩
theorem okC_26 : okC ((1, 53), (1005, 2)) := ⟨Or.inl (List.mem_of_getElem? (i := 598) (by decide +kernel)), by decide +kernel, by decide⟩
theorem okC_27 : okC ((1, 58), (1006, 1)) := ⟨Or.inl (List.mem_of_getElem? (i := 581) (by decide +kernel)), by decide +kernel, by decide⟩
theorem okC_28 : okC ((2, 3), (1003, 0)) := ⟨Or.inl (List.mem_of_getElem? (i := 98) (by decide +kernel)), by decide +kernel, by decide⟩
theorem okC_29 : okC ((2, 26), (25, 3)) := ⟨Or.inl (List.mem_of_getElem? (i := 767) (by decide +kernel)), by decide +kernel, by decide⟩
theorem okC_30 : okC ((3, 3), (1003, 0)) := ⟨Or.inl (List.mem_of_getElem? (i := 134) (by decide +kernel)), by decide +kernel, by decide⟩
theorem okC_31 : okC ((3, 20), (33, 0)) := ⟨Or.inr ⟨List.mem_of_getElem? (i := 137) (by decide +kernel), by decide +kernel⟩, by decide +kernel, by decide⟩
theorem okC_32 : okC ((3, 28), (180, 2)) := ⟨Or.inl (List.mem_of_getElem? (i := 635) (by decide +kernel)), by decide +kernel, by decide⟩
theorem okC_33 : okC ((3, 38), (10, 0)) := ⟨Or.inl (List.mem_of_getElem? (i := 638) (by decide +kernel)), by decide +kernel, by decide⟩
theorem okC_34 : okC ((3, 50), (32, 2)) := ⟨Or.inl (List.mem_of_getElem? (i := 639) (by decide +kernel)), by decide +kernel, by decide⟩
theorem okC_35 : okC ((3, 54), (77, 1)) := ⟨Or.inl (List.mem_of_getElem? (i := 640) (by decide +kernel)), by decide +kernel, by decide⟩
theorem okC_36 : okC ((3, 60), (55, 2)) := ⟨Or.inl (List.mem_of_getElem? (i := 644) (by decide +kernel)), by decide +kernel, by decide⟩
theorem okC_37 : okC ((3, 64), (56, 3)) := ⟨Or.inl (List.mem_of_getElem? (i := 648) (by decide +kernel)), by decide +kernel, by decide⟩
theorem okC_38 : okC ((3, 68), (53, 2)) := ⟨Or.inl (List.mem_of_getElem? (i := 679) (by decide +kernel)), by decide +kernel, by decide⟩
theorem okC_39 : okC ((3, 72), (35, 1)) := ⟨Or.inl (List.mem_of_getElem? (i := 680) (by decide +kernel)), by decide +kernel, by decide⟩
theorem okC_40 : okC ((3, 76), (38, 1)) := ⟨Or.inl (List.mem_of_getElem? (i := 664) (by decide +kernel)), by decide +kernel, by decide⟩
theorem okC_41 : okC ((3, 80), (11, 0)) := ⟨Or.inl (List.mem_of_getElem? (i := 684) (by decide +kernel)), by decide +kernel, by decide⟩
theorem okC_42 : okC ((3, 83), (41, 2)) := ⟨Or.inl (List.mem_of_getElem? (i := 685) (by decide +kernel)), by decide +kernel, by decide⟩
theorem okC_43 : okC ((3, 87), (30, 3)) := ⟨Or.inl (List.mem_of_getElem? (i := 686) (by decide +kernel)), by decide +kernel, by decide⟩
theorem okC_44 : okC ((3, 91), (78, 2)) := ⟨Or.inl (List.mem_of_getElem? (i := 652) (by decide +kernel)), by decide +kernel, by decide⟩
theorem okC_45 : okC ((3, 95), (57, 1)) := ⟨Or.inl (List.mem_of_getElem? (i := 660) (by decide +kernel)), by decide +kernel, by decide⟩
theorem okC_46 : okC ((3, 99), (58, 5)) := ⟨Or.inl (List.mem_of_getElem? (i := 666) (by decide +kernel)), by decide +kernel, by decide⟩
theorem okC_47 : okC ((3, 103), (29, 1)) := ⟨Or.inl (List.mem_of_getElem? (i := 665) (by decide +kernel)), by decide +kernel, by decide⟩
theorem okC_48 : okC ((3, 107), (14, 1)) := ⟨Or.inl (List.mem_of_getElem? (i := 670) (by decide +kernel)), by decide +kernel, by decide⟩
theorem okC_49 : okC ((4, 1), (1003, 0)) := ⟨Or.inl (List.mem_of_getElem? (i := 189) (by decide +kernel)), by decide +kernel, by decide⟩
theorem okC_50 : okC ((4, 7), (1004, 2)) := ⟨Or.inl (List.mem_of_getElem? (i := 190) (by decide +kernel)), by decide +kernel, by decide⟩
theorem okC_51 : okC ((4, 28), (61, 0)) := ⟨Or.inl (List.mem_of_getElem? (i := 546) (by decide +kernel)), by decide +kernel, by decide⟩
theorem okC_52 : okC ((4, 32), (1000, 5)) := ⟨Or.inl (List.mem_of_getElem? (i := 550) (by decide +kernel)), by decide +kernel, by decide⟩
theorem okC_53 : okC ((4, 38), (36, 2)) := ⟨Or.inl (List.mem_of_getElem? (i := 553) (by decide +kernel)), by decide +kernel, by decide⟩
theorem okC_54 : okC ((4, 42), (37, 2)) := ⟨Or.inl (List.mem_of_getElem? (i := 607) (by decide +kernel)), by decide +kernel, by decide⟩
theorem okC_55 : okC ((5, 3), (1003, 0)) := ⟨Or.inl (List.mem_of_getElem? (i := 78) (by decide +kernel)), by decide +kernel, by decide⟩
theorem okC_56 : okC ((5, 22), (1, 0)) := ⟨Or.inl (List.mem_of_getElem? (i := 302) (by decide +kernel)), by decide +kernel, by decide⟩
theorem okC_57 : okC ((5, 27), (72, 1)) := ⟨Or.inl (List.mem_of_getElem? (i := 306) (by decide +kernel)), by decide +kernel, by decide⟩
theorem okC_58 : okC ((5, 31), (70, 1)) := ⟨Or.inl (List.mem_of_getElem? (i := 314) (by decide +kernel)), by decide +kernel, by decide⟩
theorem okC_59 : okC ((5, 34), (73, 2)) := ⟨Or.inl (List.mem_of_getElem? (i := 318) (by decide +kernel)), by decide +kernel, by decide⟩
theorem okC_60 : okC ((5, 38), (71, 1)) := ⟨Or.inl (List.mem_of_getElem? (i := 310) (by decide +kernel)), by decide +kernel, by decide⟩
theorem okC_61 : okC ((5, 45), (4, 1)) := ⟨Or.inl (List.mem_of_getElem? (i := 322) (by decide +kernel)), by decide +kernel, by decide⟩
theorem okC_62 : okC ((5, 49), (3, 1)) := ⟨Or.inl (List.mem_of_getElem? (i := 334) (by decide +kernel)), by decide +kernel, by decide⟩
theorem okC_63 : okC ((5, 52), (6, 1)) := ⟨Or.inl (List.mem_of_getElem? (i := 338) (by decide +kernel)), by decide +kernel, by decide⟩
theorem okC_64 : okC ((5, 55), (7, 1)) := ⟨Or.inl (List.mem_of_getElem? (i := 346) (by decide +kernel)), by decide +kernel, by decide⟩
theorem okC_65 : okC ((5, 58), (8, 1)) := ⟨Or.inl (List.mem_of_getElem? (i := 350) (by decide +kernel)), by decide +kernel, by decide⟩
theorem okC_66 : okC ((6, 3), (1003, 0)) := ⟨Or.inl (List.mem_of_getElem? (i := 118) (by decide +kernel)), by decide +kernel, by decide⟩
theorem okC_67 : okC ((6, 15), (1005, 2)) := ⟨Or.inl (List.mem_of_getElem? (i := 386) (by decide +kernel)), by decide +kernel, by decide⟩
theorem okC_68 : okC ((6, 27), (79, 2)) := ⟨Or.inl (List.mem_of_getElem? (i := 656) (by decide +kernel)), by decide +kernel, by decide⟩
theorem okC_69 : okC ((7, 1), (1003, 0)) := ⟨Or.inl (List.mem_of_getElem? (i := 70) (by decide +kernel)), by decide +kernel, by decide⟩
theorem okC_70 : okC ((7, 9), (65, 0)) := ⟨Or.inr ⟨List.mem_of_getElem? (i := 75) (by decide +kernel), by decide +kernel⟩, by decide +kernel, by decide⟩
theorem okC_71 : okC ((7, 18), (46, 0)) := ⟨Or.inr ⟨List.mem_of_getElem? (i := 95) (by decide +kernel), by decide +kernel⟩, by decide +kernel, by decide⟩
theorem okC_72 : okC ((7, 25), (74, 0)) := ⟨Or.inr ⟨List.mem_of_getElem? (i := 115) (by decide +kernel), by decide +kernel⟩, by decide +kernel, by decide⟩
theorem okC_73 : okC ((7, 32), (51, 0)) := ⟨Or.inr ⟨List.mem_of_getElem? (i := 131) (by decide +kernel), by decide +kernel⟩, by decide +kernel, by decide⟩
theorem okC_74 : okC ((7, 39), (59, 1)) := ⟨Or.inl (List.mem_of_getElem? (i := 186) (by decide +kernel)), by decide +kernel, by decide⟩
theorem okC_75 : okC ((7, 51), (33, 0)) := ⟨Or.inr ⟨List.mem_of_getElem? (i := 204) (by decide +kernel), by decide +kernel⟩, by decide +kernel, by decide⟩
theorem okC_76 : okC ((7, 61), (0, 0)) := ⟨Or.inr ⟨List.mem_of_getElem? (i := 207) (by decide +kernel), by decide +kernel⟩, by decide +kernel, by decide⟩
theorem okC_77 : okC ((7, 74), (1001, 0)) := ⟨Or.inl (List.mem_of_getElem? (i := 246) (by decide +kernel)), by decide +kernel, by decide⟩
theorem okC_78 : okC ((7, 80), (1002, 1)) := ⟨Or.inl (List.mem_of_getElem? (i := 256) (by decide +kernel)), by decide +kernel, by decide⟩
theorem okC_79 : okC ((7, 84), (68, 1)) := ⟨Or.inl (List.mem_of_getElem? (i := 294) (by decide +kernel)), by decide +kernel, by decide⟩
theorem okC_80 : okC ((7, 88), (69, 1)) := ⟨Or.inl (List.mem_of_getElem? (i := 298) (by decide +kernel)), by decide +kernel, by decide⟩
theorem okC_81 : okC ((7, 92), (108, 0)) := ⟨Or.inl (List.mem_of_getElem? (i := 354) (by decide +kernel)), by decide +kernel, by decide⟩
theorem okC_82 : okC ((7, 95), (67, 0)) := ⟨Or.inl (List.mem_of_getElem? (i := 397) (by decide +kernel)), by decide +kernel, by decide⟩
theorem okC_83 : okC ((7, 98), (66, 0)) := ⟨Or.inl (List.mem_of_getElem? (i := 440) (by decide +kernel)), by decide +kernel, by decide⟩
theorem okC_84 : okC ((7, 99), (10, 0)) := ⟨Or.inl (List.mem_of_getElem? (i := 378) (by decide +kernel)), by decide +kernel, by decide⟩
theorem okC_85 : okC ((7, 102), (13, 1)) := ⟨Or.inl (List.mem_of_getElem? (i := 460) (by decide +kernel)), by decide +kernel, by decide⟩
theorem okC_86 : okC ((7, 105), (16, 1)) := ⟨Or.inl (List.mem_of_getElem? (i := 461) (by decide +kernel)), by decide +kernel, by decide⟩
theorem okC_87 : okC ((7, 109), (17, 1)) := ⟨Or.inl (List.mem_of_getElem? (i := 465) (by decide +kernel)), by decide +kernel, by decide⟩
theorem okC_88 : okC ((7, 112), (18, 1)) := ⟨Or.inl (List.mem_of_getElem? (i := 469) (by decide +kernel)), by decide +kernel, by decide⟩
theorem okC_89 : okC ((7, 115), (19, 1)) := ⟨Or.inl (List.mem_of_getElem? (i := 473) (by decide +kernel)), by decide +kernel, by decide⟩
theorem okC_90 : okC ((7, 118), (38, 1)) := ⟨Or.inl (List.mem_of_getElem? (i := 477) (by decide +kernel)), by decide +kernel, by decide⟩
theorem okC_91 : okC ((7, 125), (21, 2)) := ⟨Or.inl (List.mem_of_getElem? (i := 481) (by decide +kernel)), by decide +kernel, by decide⟩
theorem okC_92 : okC ((7, 129), (24, 3)) := ⟨Or.inl (List.mem_of_getElem? (i := 486) (by decide +kernel)), by decide +kernel, by decide⟩
theorem okC_93 : okC ((7, 133), (25, 3)) := ⟨Or.inl (List.mem_of_getElem? (i := 512) (by decide +kernel)), by decide +kernel, by decide⟩
theorem okC_94 : okC ((7, 137), (14, 1)) := ⟨Or.inl (List.mem_of_getElem? (i := 522) (by decide +kernel)), by decide +kernel, by decide⟩
theorem okC_95 : okC ((7, 140), (40, 2)) := ⟨Or.inl (List.mem_of_getElem? (i := 523) (by decide +kernel)), by decide +kernel, by decide⟩
theorem okC_96 : okC ((7, 143), (15, 1)) := ⟨Or.inl (List.mem_of_getElem? (i := 531) (by decide +kernel)), by decide +kernel, by decide⟩
theorem okC_97 : okC ((7, 146), (42, 1)) := ⟨Or.inl (List.mem_of_getElem? (i := 532) (by decide +kernel)), by decide +kernel, by decide⟩
theorem okC_98 : okC ((7, 149), (41, 2)) := ⟨Or.inl (List.mem_of_getElem? (i := 537) (by decide +kernel)), by decide +kernel, by decide⟩
theorem okC_99 : okC ((7, 153), (63, 1)) := ⟨Or.inl (List.mem_of_getElem? (i := 542) (by decide +kernel)), by decide +kernel, by decide⟩
theorem okC_100 : okC ((7, 157), (113, 3)) := ⟨Or.inl (List.mem_of_getElem? (i := 558) (by decide +kernel)), by decide +kernel, by decide⟩
theorem okC_101 : okC ((7, 161), (43, 1)) := ⟨Or.inl (List.mem_of_getElem? (i := 586) (by decide +kernel)), by decide +kernel, by decide⟩
theorem okC_102 : okC ((7, 164), (44, 0)) := ⟨Or.inl (List.mem_of_getElem? (i := 594) (by decide +kernel)), by decide +kernel, by decide⟩
theorem okC_103 : okC ((7, 167), (64, 1)) := ⟨Or.inl (List.mem_of_getElem? (i := 603) (by decide +kernel)), by decide +kernel, by decide⟩
theorem okC_104 : okC ((7, 171), (60, 0)) := ⟨Or.inl (List.mem_of_getElem? (i := 611) (by decide +kernel)), by decide +kernel, by decide⟩
theorem okC_105 : okC ((7, 174), (111, 0)) := ⟨Or.inl (List.mem_of_getElem? (i := 619) (by decide +kernel)), by decide +kernel, by decide⟩
theorem okC_106 : okC ((7, 178), (32, 2)) := ⟨Or.inl (List.mem_of_getElem? (i := 623) (by decide +kernel)), by decide +kernel, by decide⟩
theorem okC_107 : okC ((7, 181), (52, 3)) := ⟨Or.inl (List.mem_of_getElem? (i := 631) (by decide +kernel)), by decide +kernel, by decide⟩
theorem okC_108 : okC ((7, 189), (53, 2)) := ⟨Or.inl (List.mem_of_getElem? (i := 671) (by decide +kernel)), by decide +kernel, by decide⟩
theorem okC_109 : okC ((7, 193), (54, 3)) := ⟨Or.inl (List.mem_of_getElem? (i := 675) (by decide +kernel)), by decide +kernel, by decide⟩
theorem okC_110 : okC ((7, 197), (109, 1)) := ⟨Or.inl (List.mem_of_getElem? (i := 691) (by decide +kernel)), by decide +kernel, by decide⟩
theorem okC_111 : okC ((7, 200), (110, 1)) := ⟨Or.inl (List.mem_of_getElem? (i := 694) (by decide +kernel)), by decide +kernel, by decide⟩
theorem okC_112 : okC ((7, 203), (35, 1)) := ⟨Or.inl (List.mem_of_getElem? (i := 698) (by decide +kernel)), by decide +kernel, by decide⟩
theorem okC_113 : okC ((7, 206), (76, 0)) := ⟨Or.inl (List.mem_of_getElem? (i := 699) (by decide +kernel)), by decide +kernel, by decide⟩
theorem okC_114 : okC ((7, 209), (78, 2)) := ⟨Or.inl (List.mem_of_getElem? (i := 703) (by decide +kernel)), by decide +kernel, by decide⟩
theorem okC_115 : okC ((7, 213), (26, 2)) := ⟨Or.inl (List.mem_of_getElem? (i := 704) (by decide +kernel)), by decide +kernel, by decide⟩
theorem okC_116 : okC ((7, 217), (179, 1)) := ⟨Or.inl (List.mem_of_getElem? (i := 571) (by decide +kernel)), by decide +kernel, by decide⟩
theorem okC_117 : okC ((7, 222), (112, 2)) := ⟨Or.inl (List.mem_of_getElem? (i := 708) (by decide +kernel)), by decide +kernel, by decide⟩
theorem okC_118 : okC ((7, 225), (11, 0)) := ⟨Or.inl (List.mem_of_getElem? (i := 374) (by decide +kernel)), by decide +kernel, by decide⟩
theorem okC_119 : okC ((7, 228), (27, 1)) := ⟨Or.inl (List.mem_of_getElem? (i := 716) (by decide +kernel)), by decide +kernel, by decide⟩
theorem okC_120 : okC ((7, 232), (31, 3)) := ⟨Or.inl (List.mem_of_getElem? (i := 726) (by decide +kernel)), by decide +kernel, by decide⟩
theorem okC_121 : okC ((7, 236), (49, 3)) := ⟨Or.inl (List.mem_of_getElem? (i := 738) (by decide +kernel)), by decide +kernel, by decide⟩
theorem okC_122 : okC ((7, 239), (47, 0)) := ⟨Or.inl (List.mem_of_getElem? (i := 742) (by decide +kernel)), by decide +kernel, by decide⟩
theorem okC_123 : okC ((7, 240), (48, 0)) := ⟨Or.inl (List.mem_of_getElem? (i := 393) (by decide +kernel)), by decide +kernel, by decide⟩
theorem okC_124 : okC ((7, 241), (2, 1)) := ⟨Or.inl (List.mem_of_getElem? (i := 754) (by decide +kernel)), by decide +kernel, by decide⟩
theorem okC_125 : okC ((7, 244), (9, 1)) := ⟨Or.inl (List.mem_of_getElem? (i := 759) (by decide +kernel)), by decide +kernel, by decide⟩
theorem okC_126 : okC ((7, 247), (50, 2)) := ⟨Or.inl (List.mem_of_getElem? (i := 763) (by decide +kernel)), by decide +kernel, by decide⟩
theorem okC_127 : okC ((7, 251), (28, 2)) := ⟨Or.inl (List.mem_of_getElem? (i := 772) (by decide +kernel)), by decide +kernel, by decide⟩
theorem okC_128 : okC ((7, 255), (116, 2)) := ⟨Or.inl (List.mem_of_getElem? (i := 780) (by decide +kernel)), by decide +kernel, by decide⟩
theorem okC_129 : okC ((7, 258), (118, 3)) := ⟨Or.inl (List.mem_of_getElem? (i := 789) (by decide +kernel)), by decide +kernel, by decide⟩
theorem okC_130 : okC ((7, 271), (115, 2)) := ⟨Or.inl (List.mem_of_getElem? (i := 800) (by decide +kernel)), by decide +kernel, by decide⟩
theorem okC_131 : okC ((7, 274), (114, 1)) := ⟨Or.inl (List.mem_of_getElem? (i := 807) (by decide +kernel)), by decide +kernel, by decide⟩
theorem okC_132 : okC ((7, 277), (61, 0)) := ⟨Or.inl (List.mem_of_getElem? (i := 815) (by decide +kernel)), by decide +kernel, by decide⟩
theorem okC_133 : okC ((7, 280), (62, 0)) := ⟨Or.inl (List.mem_of_getElem? (i := 389) (by decide +kernel)), by decide +kernel, by decide⟩
theorem okC_134 : okC ((7, 284), (34, 1)) := ⟨Or.inl (List.mem_of_getElem? (i := 358) (by decide +kernel)), by decide +kernel, by decide⟩
theorem okC_135 : okC ((7, 287), (75, 2)) := ⟨Or.inl (List.mem_of_getElem? (i := 382) (by decide +kernel)), by decide +kernel, by decide⟩
theorem okC_136 : okC ((7, 291), (30, 3)) := ⟨Or.inl (List.mem_of_getElem? (i := 562) (by decide +kernel)), by decide +kernel, by decide⟩
theorem okC_137 : okC ((7, 295), (45, 3)) := ⟨Or.inl (List.mem_of_getElem? (i := 577) (by decide +kernel)), by decide +kernel, by decide⟩
theorem okC_138 : okC ((7, 307), (117, 2)) := ⟨Or.inl (List.mem_of_getElem? (i := 784) (by decide +kernel)), by decide +kernel, by decide⟩
theorem okC_139 : okC ((7, 310), (23, 4)) := ⟨Or.inl (List.mem_of_getElem? (i := 788) (by decide +kernel)), by decide +kernel, by decide⟩
theorem okC_140 : okC ((8, 1), (1003, 0)) := ⟨Or.inl (List.mem_of_getElem? (i := 829) (by decide +kernel)), by decide +kernel, by decide⟩
theorem okC_141 : okC ((8, 43), (130, 0)) := ⟨Or.inl (List.mem_of_getElem? (i := 830) (by decide +kernel)), by decide +kernel, by decide⟩
theorem okC_142 : okC ((8, 46), (131, 5)) := ⟨Or.inl (List.mem_of_getElem? (i := 834) (by decide +kernel)), by decide +kernel, by decide⟩
theorem okC_143 : okC ((8, 50), (136, 0)) := ⟨Or.inl (List.mem_of_getElem? (i := 838) (by decide +kernel)), by decide +kernel, by decide⟩
theorem okC_144 : okC ((8, 53), (120, 3)) := ⟨Or.inl (List.mem_of_getElem? (i := 904) (by decide +kernel)), by decide +kernel, by decide⟩
theorem okC_145 : okC ((8, 64), (127, 1)) := ⟨Or.inl (List.mem_of_getElem? (i := 927) (by decide +kernel)), by decide +kernel, by decide⟩
theorem okC_146 : okC ((8, 68), (128, 1)) := ⟨Or.inl (List.mem_of_getElem? (i := 931) (by decide +kernel)), by decide +kernel, by decide⟩
theorem okC_147 : okC ((8, 72), (129, 3)) := ⟨Or.inl (List.mem_of_getElem? (i := 923) (by decide +kernel)), by decide +kernel, by decide⟩
theorem okC_148 : okC ((8, 76), (132, 0)) := ⟨Or.inl (List.mem_of_getElem? (i := 934) (by decide +kernel)), by decide +kernel, by decide⟩
theorem okC_149 : okC ((8, 80), (133, 1)) := ⟨Or.inl (List.mem_of_getElem? (i := 919) (by decide +kernel)), by decide +kernel, by decide⟩
theorem okC_150 : okC ((8, 83), (134, 0)) := ⟨Or.inl (List.mem_of_getElem? (i := 915) (by decide +kernel)), by decide +kernel, by decide⟩
theorem okC_151 : okC ((8, 105), (141, 2)) := ⟨Or.inl (List.mem_of_getElem? (i := 962) (by decide +kernel)), by decide +kernel, by decide⟩
theorem okC_152 : okC ((8, 109), (139, 1)) := ⟨Or.inl (List.mem_of_getElem? (i := 954) (by decide +kernel)), by decide +kernel, by decide⟩
theorem okC_153 : okC ((8, 112), (140, 2)) := ⟨Or.inl (List.mem_of_getElem? (i := 966) (by decide +kernel)), by decide +kernel, by decide⟩
theorem okC_154 : okC ((8, 115), (142, 1)) := ⟨Or.inl (List.mem_of_getElem? (i := 958) (by decide +kernel)), by decide +kernel, by decide⟩
theorem okC_155 : okC ((8, 118), (121, 1)) := ⟨Or.inl (List.mem_of_getElem? (i := 946) (by decide +kernel)), by decide +kernel, by decide⟩
theorem okC_156 : okC ((8, 121), (138, 0)) := ⟨Or.inl (List.mem_of_getElem? (i := 950) (by decide +kernel)), by decide +kernel, by decide⟩
theorem okC_157 : okC ((8, 124), (143, 0)) := ⟨Or.inl (List.mem_of_getElem? (i := 970) (by decide +kernel)), by decide +kernel, by decide⟩
theorem okC_158 : okC ((8, 127), (122, 1)) := ⟨Or.inl (List.mem_of_getElem? (i := 978) (by decide +kernel)), by decide +kernel, by decide⟩
theorem okC_159 : okC ((8, 130), (145, 1)) := ⟨Or.inl (List.mem_of_getElem? (i := 982) (by decide +kernel)), by decide +kernel, by decide⟩
theorem okC_160 : okC ((8, 133), (123, 1)) := ⟨Or.inl (List.mem_of_getElem? (i := 990) (by decide +kernel)), by decide +kernel, by decide⟩
theorem okC_161 : okC ((8, 136), (149, 2)) := ⟨Or.inl (List.mem_of_getElem? (i := 1006) (by decide +kernel)), by decide +kernel, by decide⟩
theorem okC_162 : okC ((8, 140), (124, 1)) := ⟨Or.inl (List.mem_of_getElem? (i := 1009) (by decide +kernel)), by decide +kernel, by decide⟩
theorem okC_163 : okC ((8, 143), (148, 0)) := ⟨Or.inl (List.mem_of_getElem? (i := 998) (by decide +kernel)), by decide +kernel, by decide⟩
theorem okC_164 : okC ((8, 146), (150, 2)) := ⟨Or.inl (List.mem_of_getElem? (i := 1002) (by decide +kernel)), by decide +kernel, by decide⟩
theorem okC_165 : okC ((8, 149), (153, 0)) := ⟨Or.inl (List.mem_of_getElem? (i := 1020) (by decide +kernel)), by decide +kernel, by decide⟩
theorem okC_166 : okC ((8, 152), (156, 1)) := ⟨Or.inl (List.mem_of_getElem? (i := 1032) (by decide +kernel)), by decide +kernel, by decide⟩
theorem okC_167 : okC ((8, 155), (160, 0)) := ⟨Or.inl (List.mem_of_getElem? (i := 1044) (by decide +kernel)), by decide +kernel, by decide⟩
theorem okC_168 : okC ((8, 158), (158, 0)) := ⟨Or.inl (List.mem_of_getElem? (i := 1048) (by decide +kernel)), by decide +kernel, by decide⟩
theorem okC_169 : okC ((8, 161), (159, 1)) := ⟨Or.inl (List.mem_of_getElem? (i := 1052) (by decide +kernel)), by decide +kernel, by decide⟩
theorem okC_170 : okC ((8, 164), (161, 2)) := ⟨Or.inl (List.mem_of_getElem? (i := 1056) (by decide +kernel)), by decide +kernel, by decide⟩
theorem okC_171 : okC ((8, 167), (162, 0)) := ⟨Or.inl (List.mem_of_getElem? (i := 1040) (by decide +kernel)), by decide +kernel, by decide⟩
theorem okC_172 : okC ((8, 170), (165, 0)) := ⟨Or.inl (List.mem_of_getElem? (i := 1068) (by decide +kernel)), by decide +kernel, by decide⟩
theorem okC_173 : okC ((12, 9), (80, 0)) := ⟨Or.inl (List.mem_of_getElem? (i := 67) (by decide +kernel)), by decide +kernel, by decide⟩
theorem okC_174 : okC ((12, 12), (119, 0)) := ⟨Or.inl (List.mem_of_getElem? (i := 826) (by decide +kernel)), by decide +kernel, by decide⟩
theorem okC_175 : okC ((12, 13), (81, 1)) := ⟨Or.inl (List.mem_of_getElem? (i := 436) (by decide +kernel)), by decide +kernel, by decide⟩
theorem okC_176 : okC ((12, 17), (125, 1)) := ⟨Or.inl (List.mem_of_getElem? (i := 900) (by decide +kernel)), by decide +kernel, by decide⟩
theorem okC_177 : okC ((12, 18), (82, 0)) := ⟨Or.inl (List.mem_of_getElem? (i := 444) (by decide +kernel)), by decide +kernel, by decide⟩
theorem okC_178 : okC ((12, 22), (126, 0)) := ⟨Or.inl (List.mem_of_getElem? (i := 907) (by decide +kernel)), by decide +kernel, by decide⟩
theorem okC_179 : okC ((12, 23), (83, 0)) := ⟨Or.inl (List.mem_of_getElem? (i := 448) (by decide +kernel)), by decide +kernel, by decide⟩
theorem okC_180 : okC ((12, 26), (135, 0)) := ⟨Or.inl (List.mem_of_getElem? (i := 911) (by decide +kernel)), by decide +kernel, by decide⟩
theorem okC_181 : okC ((12, 27), (84, 0)) := ⟨Or.inl (List.mem_of_getElem? (i := 452) (by decide +kernel)), by decide +kernel, by decide⟩
theorem okC_182 : okC ((12, 30), (137, 0)) := ⟨Or.inl (List.mem_of_getElem? (i := 938) (by decide +kernel)), by decide +kernel, by decide⟩
theorem okC_183 : okC ((12, 31), (85, 2)) := ⟨Or.inl (List.mem_of_getElem? (i := 456) (by decide +kernel)), by decide +kernel, by decide⟩
theorem okC_184 : okC ((12, 35), (144, 2)) := ⟨Or.inl (List.mem_of_getElem? (i := 942) (by decide +kernel)), by decide +kernel, by decide⟩
theorem okC_185 : okC ((12, 36), (86, 1)) := ⟨Or.inl (List.mem_of_getElem? (i := 518) (by decide +kernel)), by decide +kernel, by decide⟩
theorem okC_186 : okC ((12, 39), (146, 1)) := ⟨Or.inl (List.mem_of_getElem? (i := 974) (by decide +kernel)), by decide +kernel, by decide⟩
theorem okC_187 : okC ((12, 40), (87, 1)) := ⟨Or.inl (List.mem_of_getElem? (i := 527) (by decide +kernel)), by decide +kernel, by decide⟩
theorem okC_188 : okC ((12, 43), (147, 1)) := ⟨Or.inl (List.mem_of_getElem? (i := 986) (by decide +kernel)), by decide +kernel, by decide⟩
theorem okC_189 : okC ((12, 44), (88, 2)) := ⟨Or.inl (List.mem_of_getElem? (i := 533) (by decide +kernel)), by decide +kernel, by decide⟩
theorem okC_190 : okC ((12, 47), (151, 2)) := ⟨Or.inl (List.mem_of_getElem? (i := 994) (by decide +kernel)), by decide +kernel, by decide⟩
theorem okC_191 : okC ((12, 48), (89, 1)) := ⟨Or.inl (List.mem_of_getElem? (i := 582) (by decide +kernel)), by decide +kernel, by decide⟩
theorem okC_192 : okC ((12, 51), (152, 1)) := ⟨Or.inl (List.mem_of_getElem? (i := 1012) (by decide +kernel)), by decide +kernel, by decide⟩
theorem okC_193 : okC ((12, 52), (90, 0)) := ⟨Or.inl (List.mem_of_getElem? (i := 590) (by decide +kernel)), by decide +kernel, by decide⟩
theorem okC_194 : okC ((12, 55), (154, 0)) := ⟨Or.inl (List.mem_of_getElem? (i := 1016) (by decide +kernel)), by decide +kernel, by decide⟩
theorem okC_195 : okC ((12, 56), (91, 0)) := ⟨Or.inl (List.mem_of_getElem? (i := 599) (by decide +kernel)), by decide +kernel, by decide⟩
theorem okC_196 : okC ((12, 59), (155, 0)) := ⟨Or.inl (List.mem_of_getElem? (i := 1024) (by decide +kernel)), by decide +kernel, by decide⟩
theorem okC_197 : okC ((12, 60), (92, 1)) := ⟨Or.inl (List.mem_of_getElem? (i := 615) (by decide +kernel)), by decide +kernel, by decide⟩
theorem okC_198 : okC ((12, 63), (157, 1)) := ⟨Or.inl (List.mem_of_getElem? (i := 1028) (by decide +kernel)), by decide +kernel, by decide⟩
theorem okC_199 : okC ((12, 64), (93, 1)) := ⟨Or.inl (List.mem_of_getElem? (i := 627) (by decide +kernel)), by decide +kernel, by decide⟩
theorem okC_200 : okC ((12, 67), (163, 1)) := ⟨Or.inl (List.mem_of_getElem? (i := 1036) (by decide +kernel)), by decide +kernel, by decide⟩
theorem okC_201 : okC ((12, 68), (94, 2)) := ⟨Or.inl (List.mem_of_getElem? (i := 687) (by decide +kernel)), by decide +kernel, by decide⟩
theorem okC_202 : okC ((12, 71), (164, 2)) := ⟨Or.inl (List.mem_of_getElem? (i := 1060) (by decide +kernel)), by decide +kernel, by decide⟩
theorem okC_203 : okC ((12, 72), (95, 1)) := ⟨Or.inl (List.mem_of_getElem? (i := 712) (by decide +kernel)), by decide +kernel, by decide⟩
theorem okC_204 : okC ((12, 75), (166, 1)) := ⟨Or.inl (List.mem_of_getElem? (i := 1064) (by decide +kernel)), by decide +kernel, by decide⟩
theorem okC_205 : okC ((12, 76), (96, 2)) := ⟨Or.inl (List.mem_of_getElem? (i := 722) (by decide +kernel)), by decide +kernel, by decide⟩
theorem okC_206 : okC ((12, 79), (167, 2)) := ⟨Or.inl (List.mem_of_getElem? (i := 1072) (by decide +kernel)), by decide +kernel, by decide⟩
theorem okC_207 : okC ((12, 80), (97, 1)) := ⟨Or.inl (List.mem_of_getElem? (i := 730) (by decide +kernel)), by decide +kernel, by decide⟩
theorem okC_208 : okC ((12, 83), (168, 1)) := ⟨Or.inl (List.mem_of_getElem? (i := 1076) (by decide +kernel)), by decide +kernel, by decide⟩
theorem okC_209 : okC ((12, 84), (98, 3)) := ⟨Or.inl (List.mem_of_getElem? (i := 734) (by decide +kernel)), by decide +kernel, by decide⟩
theorem okC_210 : okC ((12, 88), (169, 3)) := ⟨Or.inl (List.mem_of_getElem? (i := 1080) (by decide +kernel)), by decide +kernel, by decide⟩
theorem okC_211 : okC ((12, 89), (99, 0)) := ⟨Or.inl (List.mem_of_getElem? (i := 746) (by decide +kernel)), by decide +kernel, by decide⟩
theorem okC_212 : okC ((12, 92), (170, 0)) := ⟨Or.inl (List.mem_of_getElem? (i := 1084) (by decide +kernel)), by decide +kernel, by decide⟩
theorem okC_213 : okC ((12, 93), (100, 0)) := ⟨Or.inl (List.mem_of_getElem? (i := 750) (by decide +kernel)), by decide +kernel, by decide⟩
theorem okC_214 : okC ((12, 96), (171, 0)) := ⟨Or.inl (List.mem_of_getElem? (i := 1088) (by decide +kernel)), by decide +kernel, by decide⟩
theorem okC_215 : okC ((12, 97), (101, 1)) := ⟨Or.inl (List.mem_of_getElem? (i := 768) (by decide +kernel)), by decide +kernel, by decide⟩
theorem okC_216 : okC ((12, 100), (172, 1)) := ⟨Or.inl (List.mem_of_getElem? (i := 1092) (by decide +kernel)), by decide +kernel, by decide⟩
theorem okC_217 : okC ((12, 101), (102, 3)) := ⟨Or.inl (List.mem_of_getElem? (i := 776) (by decide +kernel)), by decide +kernel, by decide⟩
theorem okC_218 : okC ((12, 104), (173, 3)) := ⟨Or.inl (List.mem_of_getElem? (i := 1096) (by decide +kernel)), by decide +kernel, by decide⟩
theorem okC_219 : okC ((12, 105), (103, 1)) := ⟨Or.inl (List.mem_of_getElem? (i := 792) (by decide +kernel)), by decide +kernel, by decide⟩
theorem okC_220 : okC ((12, 108), (174, 1)) := ⟨Or.inl (List.mem_of_getElem? (i := 1100) (by decide +kernel)), by decide +kernel, by decide⟩
theorem okC_221 : okC ((12, 109), (104, 3)) := ⟨Or.inl (List.mem_of_getElem? (i := 796) (by decide +kernel)), by decide +kernel, by decide⟩
theorem okC_222 : okC ((12, 112), (175, 3)) := ⟨Or.inl (List.mem_of_getElem? (i := 1104) (by decide +kernel)), by decide +kernel, by decide⟩
theorem okC_223 : okC ((12, 113), (105, 0)) := ⟨Or.inl (List.mem_of_getElem? (i := 811) (by decide +kernel)), by decide +kernel, by decide⟩
theorem okC_224 : okC ((12, 116), (176, 0)) := ⟨Or.inl (List.mem_of_getElem? (i := 1111) (by decide +kernel)), by decide +kernel, by decide⟩
theorem okC_225 : okC ((12, 117), (106, 0)) := ⟨Or.inl (List.mem_of_getElem? (i := 816) (by decide +kernel)), by decide +kernel, by decide⟩
theorem okC_226 : okC ((12, 120), (177, 0)) := ⟨Or.inl (List.mem_of_getElem? (i := 1115) (by decide +kernel)), by decide +kernel, by decide⟩
theorem okC_227 : okC ((12, 121), (107, 1)) := ⟨Or.inl (List.mem_of_getElem? (i := 820) (by decide +kernel)), by decide +kernel, by decide⟩
theorem okC_228 : okC ((12, 124), (178, 1)) := ⟨Or.inl (List.mem_of_getElem? (i := 1119) (by decide +kernel)), by decide +kernel, by decide⟩
set_option maxRecDepth 20000 in
set_option maxHeartbeats 4000000 in
theorem okCs : ∀ (k : Nat) e, cTab[k]? = some e → okC e := by
  intro k e h
  match k, h with
  | 0, h => cases h; exact okC_0
  | 1, h => cases h; exact okC_1
  | 2, h => cases h; exact okC_2
  | 3, h => cases h; exact okC_3
  | 4, h => cases h; exact okC_4
  | 5, h => cases h; exact okC_5
  | 6, h => cases h; exact okC_6
  | 7, h => cases h; exact okC_7
  | 8, h => cases h; exact okC_8
  | 9, h => cases h; exact okC_9
  | 10, h => cases h; exact okC_10
  | 11, h => cases h; exact okC_11
  | 12, h => cases h; exact okC_12
  | 13, h => cases h; exact okC_13
  | 14, h => cases h; exact okC_14
  | 15, h => cases h; exact okC_15
  | 16, h => cases h; exact okC_16
  | 17, h => cases h; exact okC_17
  | 18, h => cases h; exact okC_18
  | 19, h => cases h; exact okC_19
  | 20, h => cases h; exact okC_20
  | 21, h => cases h; exact okC_21
  | 22, h => cases h; exact okC_22
  | 23, h => cases h; exact okC_23
  | 24, h => cases h; exact okC_24
  | 25, h => cases h; exact okC_25
  | 26, h => cases h; exact okC_26
  | 27, h => cases h; exact okC_27
  | 28, h => cases h; exact okC_28
  | 29, h => cases h; exact okC_29
  | 30, h => cases h; exact okC_30
  | 31, h => cases h; exact okC_31
  | 32, h => cases h; exact okC_32
  | 33, h => cases h; exact okC_33
  | 34, h => cases h; exact okC_34
  | 35, h => cases h; exact okC_35
  | 36, h => cases h; exact okC_36
  | 37, h => cases h; exact okC_37
  | 38, h => cases h; exact okC_38
  | 39, h => cases h; exact okC_39
  | 40, h => cases h; exact okC_40
  | 41, h => cases h; exact okC_41
  | 42, h => cases h; exact okC_42
  | 43, h => cases h; exact okC_43
  | 44, h => cases h; exact okC_44
  | 45, h => cases h; exact okC_45
  | 46, h => cases h; exact okC_46
  | 47, h => cases h; exact okC_47
  | 48, h => cases h; exact okC_48
  | 49, h => cases h; exact okC_49
  | 50, h => cases h; exact okC_50
  | 51, h => cases h; exact okC_51
  | 52, h => cases h; exact okC_52
  | 53, h => cases h; exact okC_53
  | 54, h => cases h; exact okC_54
  | 55, h => cases h; exact okC_55
  | 56, h => cases h; exact okC_56
  | 57, h => cases h; exact okC_57
  | 58, h => cases h; exact okC_58
  | 59, h => cases h; exact okC_59
  | 60, h => cases h; exact okC_60
  | 61, h => cases h; exact okC_61
  | 62, h => cases h; exact okC_62
  | 63, h => cases h; exact okC_63
  | 64, h => cases h; exact okC_64
  | 65, h => cases h; exact okC_65
  | 66, h => cases h; exact okC_66
  | 67, h => cases h; exact okC_67
  | 68, h => cases h; exact okC_68
  | 69, h => cases h; exact okC_69
  | 70, h => cases h; exact okC_70
  | 71, h => cases h; exact okC_71
  | 72, h => cases h; exact okC_72
  | 73, h => cases h; exact okC_73
  | 74, h => cases h; exact okC_74
  | 75, h => cases h; exact okC_75
  | 76, h => cases h; exact okC_76
  | 77, h => cases h; exact okC_77
  | 78, h => cases h; exact okC_78
  | 79, h => cases h; exact okC_79
  | 80, h => cases h; exact okC_80
  | 81, h => cases h; exact okC_81
  | 82, h => cases h; exact okC_82
  | 83, h => cases h; exact okC_83
  | 84, h => cases h; exact okC_84
  | 85, h => cases h; exact okC_85
  | 86, h => cases h; exact okC_86
  | 87, h => cases h; exact okC_87
  | 88, h => cases h; exact okC_88
  | 89, h => cases h; exact okC_89
  | 90, h => cases h; exact okC_90
  | 91, h => cases h; exact okC_91
  | 92, h => cases h; exact okC_92
  | 93, h => cases h; exact okC_93
  | 94, h => cases h; exact okC_94
  | 95, h => cases h; exact okC_95
  | 96, h => cases h; exact okC_96
  | 97, h => cases h; exact okC_97
  | 98, h => cases h; exact okC_98
  | 99, h => cases h; exact okC_99
  | 100, h => cases h; exact okC_100
  | 101, h => cases h; exact okC_101
  | 102, h => cases h; exact okC_102
  | 103, h => cases h; exact okC_103
  | 104, h => cases h; exact okC_104
  | 105, h => cases h; exact okC_105
  | 106, h => cases h; exact okC_106
  | 107, h => cases h; exact okC_107
  | 108, h => cases h; exact okC_108
  | 109, h => cases h; exact okC_109
  | 110, h => cases h; exact okC_110
  | 111, h => cases h; exact okC_111
  | 112, h => cases h; exact okC_112
  | 113, h => cases h; exact okC_113
  | 114, h => cases h; exact okC_114
  | 115, h => cases h; exact okC_115
  | 116, h => cases h; exact okC_116
  | 117, h => cases h; exact okC_117
  | 118, h => cases h; exact okC_118
  | 119, h => cases h; exact okC_119
  | 120, h => cases h; exact okC_120
  | 121, h => cases h; exact okC_121
  | 122, h => cases h; exact okC_122
  | 123, h => cases h; exact okC_123
  | 124, h => cases h; exact okC_124
  | 125, h => cases h; exact okC_125
  | 126, h => cases h; exact okC_126
  | 127, h => cases h; exact okC_127
  | 128, h => cases h; exact okC_128
  | 129, h => cases h; exact okC_129
  | 130, h => cases h; exact okC_130
  | 131, h => cases h; exact okC_131
  | 132, h => cases h; exact okC_132
  | 133, h => cases h; exact okC_133
  | 134, h => cases h; exact okC_134
  | 135, h => cases h; exact okC_135
  | 136, h => cases h; exact okC_136
  | 137, h => cases h; exact okC_137
  | 138, h => cases h; exact okC_138
  | 139, h => cases h; exact okC_139
  | 140, h => cases h; exact okC_140
  | 141, h => cases h; exact okC_141
  | 142, h => cases h; exact okC_142
  | 143, h => cases h; exact okC_143
  | 144, h => cases h; exact okC_144
  | 145, h => cases h; exact okC_145
  | 146, h => cases h; exact okC_146
  | 147, h => cases h; exact okC_147
  | 148, h => cases h; exact okC_148
  | 149, h => cases h; exact okC_149
  | 150, h => cases h; exact okC_150
  | 151, h => cases h; exact okC_151
  | 152, h => cases h; exact okC_152
  | 153, h => cases h; exact okC_153
  | 154, h => cases h; exact okC_154
  | 155, h => cases h; exact okC_155
  | 156, h => cases h; exact okC_156
  | 157, h => cases h; exact okC_157
  | 158, h => cases h; exact okC_158
  | 159, h => cases h; exact okC_159
  | 160, h => cases h; exact okC_160
  | 161, h => cases h; exact okC_161
  | 162, h => cases h; exact okC_162
  | 163, h => cases h; exact okC_163
  | 164, h => cases h; exact okC_164
  | 165, h => cases h; exact okC_165
  | 166, h => cases h; exact okC_166
  | 167, h => cases h; exact okC_167
  | 168, h => cases h; exact okC_168
  | 169, h => cases h; exact okC_169
  | 170, h => cases h; exact okC_170
  | 171, h => cases h; exact okC_171
  | 172, h => cases h; exact okC_172
  | 173, h => cases h; exact okC_173
  | 174, h => cases h; exact okC_174
  | 175, h => cases h; exact okC_175
  | 176, h => cases h; exact okC_176
  | 177, h => cases h; exact okC_177
  | 178, h => cases h; exact okC_178
  | 179, h => cases h; exact okC_179
  | 180, h => cases h; exact okC_180
  | 181, h => cases h; exact okC_181
  | 182, h => cases h; exact okC_182
  | 183, h => cases h; exact okC_183
  | 184, h => cases h; exact okC_184
  | 185, h => cases h; exact okC_185
  | 186, h => cases h; exact okC_186
  | 187, h => cases h; exact okC_187
  | 188, h => cases h; exact okC_188
  | 189, h => cases h; exact okC_189
  | 190, h => cases h; exact okC_190
  | 191, h => cases h; exact okC_191
  | 192, h => cases h; exact okC_192
  | 193, h => cases h; exact okC_193
  | 194, h => cases h; exact okC_194
  | 195, h => cases h; exact okC_195
  | 196, h => cases h; exact okC_196
  | 197, h => cases h; exact okC_197
  | 198, h => cases h; exact okC_198
  | 199, h => cases h; exact okC_199
  | 200, h => cases h; exact okC_200
  | 201, h => cases h; exact okC_201
  | 202, h => cases h; exact okC_202
  | 203, h => cases h; exact okC_203
  | 204, h => cases h; exact okC_204
  | 205, h => cases h; exact okC_205
  | 206, h => cases h; exact okC_206
  | 207, h => cases h; exact okC_207
  | 208, h => cases h; exact okC_208
  | 209, h => cases h; exact okC_209
  | 210, h => cases h; exact okC_210
  | 211, h => cases h; exact okC_211
  | 212, h => cases h; exact okC_212
  | 213, h => cases h; exact okC_213
  | 214, h => cases h; exact okC_214
  | 215, h => cases h; exact okC_215
  | 216, h => cases h; exact okC_216
  | 217, h => cases h; exact okC_217
  | 218, h => cases h; exact okC_218
  | 219, h => cases h; exact okC_219
  | 220, h => cases h; exact okC_220
  | 221, h => cases h; exact okC_221
  | 222, h => cases h; exact okC_222
  | 223, h => cases h; exact okC_223
  | 224, h => cases h; exact okC_224
  | 225, h => cases h; exact okC_225
  | 226, h => cases h; exact okC_226
  | 227, h => cases h; exact okC_227
  | 228, h => cases h; exact okC_228
  | n + 229, h => simp [cTab] at h
def okF (e : (Nat × Nat) × (Nat × Nat)) : Prop := Cond.fieldLink (RK e.1.1) e.1.2 (clT e.2.1).1 ((clT e.2.1).2.1 e.2.2).2.1 ((clT e.2.1).2.1 e.2.2).2.2.1 ∈ lw_tbl ∧ e.2.1 < 9 ∧ e.2.2 < (clT e.2.1).2.2
theorem okF_0 : okF ((0, 9), (0, 0)) := ⟨List.mem_of_getElem? (i := 211) (by decide +kernel), by decide, by decide⟩
theorem okF_1 : okF ((0, 15), (0, 1)) := ⟨List.mem_of_getElem? (i := 212) (by decide +kernel), by decide, by decide⟩
theorem okF_2 : okF ((0, 18), (0, 2)) := ⟨List.mem_of_getElem? (i := 213) (by decide +kernel), by decide, by decide⟩
theorem okF_3 : okF ((0, 21), (0, 3)) := ⟨List.mem_of_getElem? (i := 214) (by decide +kernel), by decide, by decide⟩
theorem okF_4 : okF ((0, 24), (0, 4)) := ⟨List.mem_of_getElem? (i := 215) (by decide +kernel), by decide, by decide⟩
theorem okF_5 : okF ((0, 27), (0, 6)) := ⟨List.mem_of_getElem? (i := 217) (by decide +kernel), by decide, by decide⟩
theorem okF_6 : okF ((0, 31), (0, 8)) := ⟨List.mem_of_getElem? (i := 219) (by decide +kernel), by decide, by decide⟩
theorem okF_7 : okF ((0, 34), (0, 9)) := ⟨List.mem_of_getElem? (i := 220) (by decide +kernel), by decide, by decide⟩
theorem okF_8 : okF ((0, 37), (0, 5)) := ⟨List.mem_of_getElem? (i := 216) (by decide +kernel), by decide, by decide⟩
theorem okF_9 : okF ((0, 40), (0, 7)) := ⟨List.mem_of_getElem? (i := 218) (by decide +kernel), by decide, by decide⟩
theorem okF_10 : okF ((0, 43), (0, 10)) := ⟨List.mem_of_getElem? (i := 221) (by decide +kernel), by decide, by decide⟩
theorem okF_11 : okF ((1, 9), (1, 0)) := ⟨List.mem_of_getElem? (i := 141) (by decide +kernel), by decide, by decide⟩
theorem okF_12 : okF ((1, 25), (1, 1)) := ⟨List.mem_of_getElem? (i := 144) (by decide +kernel), by decide, by decide⟩
theorem okF_13 : okF ((1, 28), (1, 2)) := ⟨List.mem_of_getElem? (i := 146) (by decide +kernel), by decide, by decide⟩
theorem okF_14 : okF ((1, 31), (1, 3)) := ⟨List.mem_of_getElem? (i := 149) (by decide +kernel), by decide, by decide⟩
theorem okF_15 : okF ((1, 34), (1, 4)) := ⟨List.mem_of_getElem? (i := 151) (by decide +kernel), by decide, by decide⟩
theorem okF_16 : okF ((1, 37), (1, 5)) := ⟨List.mem_of_getElem? (i := 153) (by decide +kernel), by decide, by decide⟩
theorem okF_17 : okF ((2, 9), (2, 0)) := ⟨List.mem_of_getElem? (i := 99) (by decide +kernel), by decide, by decide⟩
theorem okF_18 : okF ((2, 15), (2, 1)) := ⟨List.mem_of_getElem? (i := 100) (by decide +kernel), by decide, by decide⟩
theorem okF_19 : okF ((2, 18), (2, 2)) := ⟨List.mem_of_getElem? (i := 101) (by decide +kernel), by decide, by decide⟩
theorem okF_20 : okF ((2, 22), (2, 3)) := ⟨List.mem_of_getElem? (i := 102) (by decide +kernel), by decide, by decide⟩
theorem okF_21 : okF ((3, 9), (3, 0)) := ⟨List.mem_of_getElem? (i := 168) (by decide +kernel), by decide, by decide⟩
theorem okF_22 : okF ((3, 15), (3, 1)) := ⟨List.mem_of_getElem? (i := 169) (by decide +kernel), by decide, by decide⟩
theorem okF_23 : okF ((3, 21), (3, 3)) := ⟨List.mem_of_getElem? (i := 171) (by decide +kernel), by decide, by decide⟩
theorem okF_24 : okF ((3, 25), (3, 4)) := ⟨List.mem_of_getElem? (i := 172) (by decide +kernel), by decide, by decide⟩
theorem okF_25 : okF ((3, 34), (3, 2)) := ⟨List.mem_of_getElem? (i := 170) (by decide +kernel), by decide, by decide⟩
theorem okF_26 : okF ((3, 44), (1, 0)) := ⟨List.mem_of_getElem? (i := 142) (by decide +kernel), by decide, by decide⟩
theorem okF_27 : okF ((3, 47), (1, 2)) := ⟨List.mem_of_getElem? (i := 147) (by decide +kernel), by decide, by decide⟩
theorem okF_28 : okF ((4, 13), (4, 0)) := ⟨List.mem_of_getElem? (i := 193) (by decide +kernel), by decide, by decide⟩
theorem okF_29 : okF ((4, 21), (4, 1)) := ⟨List.mem_of_getElem? (i := 194) (by decide +kernel), by decide, by decide⟩
theorem okF_30 : okF ((4, 25), (4, 2)) := ⟨List.mem_of_getElem? (i := 195) (by decide +kernel), by decide, by decide⟩
theorem okF_31 : okF ((5, 9), (5, 0)) := ⟨List.mem_of_getElem? (i := 79) (by decide +kernel), by decide, by decide⟩
theorem okF_32 : okF ((5, 15), (5, 2)) := ⟨List.mem_of_getElem? (i := 81) (by decide +kernel), by decide, by decide⟩
theorem okF_33 : okF ((5, 18), (5, 1)) := ⟨List.mem_of_getElem? (i := 80) (by decide +kernel), by decide, by decide⟩
theorem okF_34 : okF ((5, 42), (5, 3)) := ⟨List.mem_of_getElem? (i := 82) (by decide +kernel), by decide, by decide⟩
theorem okF_35 : okF ((6, 9), (6, 0)) := ⟨List.mem_of_getElem? (i := 119) (by decide +kernel), by decide, by decide⟩
theorem okF_36 : okF ((6, 21), (6, 1)) := ⟨List.mem_of_getElem? (i := 120) (by decide +kernel), by decide, by decide⟩
theorem okF_37 : okF ((6, 24), (6, 2)) := ⟨List.mem_of_getElem? (i := 121) (by decide +kernel), by decide, by decide⟩
theorem okF_38 : okF ((7, 10), (7, 0)) := ⟨List.mem_of_getElem? (i := 401) (by decide +kernel), by decide, by decide⟩
theorem okF_39 : okF ((7, 19), (7, 1)) := ⟨List.mem_of_getElem? (i := 402) (by decide +kernel), by decide, by decide⟩
theorem okF_40 : okF ((7, 26), (7, 2)) := ⟨List.mem_of_getElem? (i := 403) (by decide +kernel), by decide, by decide⟩
theorem okF_41 : okF ((7, 33), (7, 3)) := ⟨List.mem_of_getElem? (i := 404) (by decide +kernel), by decide, by decide⟩
theorem okF_42 : okF ((7, 42), (7, 4)) := ⟨List.mem_of_getElem? (i := 405) (by decide +kernel), by decide, by decide⟩
theorem okF_43 : okF ((7, 46), (7, 5)) := ⟨List.mem_of_getElem? (i := 406) (by decide +kernel), by decide, by decide⟩
theorem okF_44 : okF ((7, 52), (7, 6)) := ⟨List.mem_of_getElem? (i := 407) (by decide +kernel), by decide, by decide⟩
theorem okF_45 : okF ((7, 56), (7, 7)) := ⟨List.mem_of_getElem? (i := 408) (by decide +kernel), by decide, by decide⟩
theorem okF_46 : okF ((7, 62), (7, 8)) := ⟨List.mem_of_getElem? (i := 409) (by decide +kernel), by decide, by decide⟩
theorem okF_47 : okF ((7, 66), (7, 9)) := ⟨List.mem_of_getElem? (i := 410) (by decide +kernel), by decide, by decide⟩
theorem okF_48 : okF ((7, 69), (7, 10)) := ⟨List.mem_of_getElem? (i := 411) (by decide +kernel), by decide, by decide⟩
theorem okF_49 : okF ((7, 121), (1, 2)) := ⟨List.mem_of_getElem? (i := 148) (by decide +kernel), by decide, by decide⟩
theorem okF_50 : okF ((7, 185), (1, 0)) := ⟨List.mem_of_getElem? (i := 143) (by decide +kernel), by decide, by decide⟩
theorem okF_51 : okF ((7, 262), (1, 3)) := ⟨List.mem_of_getElem? (i := 150) (by decide +kernel), by decide, by decide⟩
theorem okF_52 : okF ((7, 265), (1, 4)) := ⟨List.mem_of_getElem? (i := 152) (by decide +kernel), by decide, by decide⟩
theorem okF_53 : okF ((7, 268), (1, 5)) := ⟨List.mem_of_getElem? (i := 154) (by decide +kernel), by decide, by decide⟩
theorem okF_54 : okF ((7, 281), (1, 1)) := ⟨List.mem_of_getElem? (i := 145) (by decide +kernel), by decide, by decide⟩
theorem okF_55 : okF ((8, 7), (8, 0)) := ⟨List.mem_of_getElem? (i := 842) (by decide +kernel), by decide, by decide⟩
theorem okF_56 : okF ((8, 13), (8, 2)) := ⟨List.mem_of_getElem? (i := 844) (by decide +kernel), by decide, by decide⟩
theorem okF_57 : okF ((8, 16), (8, 3)) := ⟨List.mem_of_getElem? (i := 845) (by decide +kernel), by decide, by decide⟩
theorem okF_58 : okF ((8, 19), (8, 4)) := ⟨List.mem_of_getElem? (i := 846) (by decide +kernel), by decide, by decide⟩
theorem okF_59 : okF ((8, 22), (8, 5)) := ⟨List.mem_of_getElem? (i := 847) (by decide +kernel), by decide, by decide⟩
theorem okF_60 : okF ((8, 25), (8, 7)) := ⟨List.mem_of_getElem? (i := 849) (by decide +kernel), by decide, by decide⟩
theorem okF_61 : okF ((8, 28), (8, 9)) := ⟨List.mem_of_getElem? (i := 851) (by decide +kernel), by decide, by decide⟩
theorem okF_62 : okF ((8, 31), (8, 12)) := ⟨List.mem_of_getElem? (i := 854) (by decide +kernel), by decide, by decide⟩
theorem okF_63 : okF ((8, 34), (8, 13)) := ⟨List.mem_of_getElem? (i := 855) (by decide +kernel), by decide, by decide⟩
theorem okF_64 : okF ((8, 37), (8, 17)) := ⟨List.mem_of_getElem? (i := 859) (by decide +kernel), by decide, by decide⟩
theorem okF_65 : okF ((8, 40), (8, 18)) := ⟨List.mem_of_getElem? (i := 860) (by decide +kernel), by decide, by decide⟩
theorem okF_66 : okF ((8, 57), (8, 1)) := ⟨List.mem_of_getElem? (i := 843) (by decide +kernel), by decide, by decide⟩
theorem okF_67 : okF ((8, 61), (8, 11)) := ⟨List.mem_of_getElem? (i := 853) (by decide +kernel), by decide, by decide⟩
theorem okF_68 : okF ((8, 87), (8, 6)) := ⟨List.mem_of_getElem? (i := 848) (by decide +kernel), by decide, by decide⟩
theorem okF_69 : okF ((8, 90), (8, 8)) := ⟨List.mem_of_getElem? (i := 850) (by decide +kernel), by decide, by decide⟩
theorem okF_70 : okF ((8, 93), (8, 10)) := ⟨List.mem_of_getElem? (i := 852) (by decide +kernel), by decide, by decide⟩
theorem okF_71 : okF ((8, 96), (8, 14)) := ⟨List.mem_of_getElem? (i := 856) (by decide +kernel), by decide, by decide⟩
theorem okF_72 : okF ((8, 99), (8, 15)) := ⟨List.mem_of_getElem? (i := 857) (by decide +kernel), by decide, by decide⟩
theorem okF_73 : okF ((8, 102), (8, 16)) := ⟨List.mem_of_getElem? (i := 858) (by decide +kernel), by decide, by decide⟩
set_option maxRecDepth 20000 in
set_option maxHeartbeats 4000000 in
theorem okFs : ∀ (k : Nat) e, fTab[k]? = some e → okF e := by
  intro k e h
  match k, h with
  | 0, h => cases h; exact okF_0
  | 1, h => cases h; exact okF_1
  | 2, h => cases h; exact okF_2
  | 3, h => cases h; exact okF_3
  | 4, h => cases h; exact okF_4
  | 5, h => cases h; exact okF_5
  | 6, h => cases h; exact okF_6
  | 7, h => cases h; exact okF_7
  | 8, h => cases h; exact okF_8
  | 9, h => cases h; exact okF_9
  | 10, h => cases h; exact okF_10
  | 11, h => cases h; exact okF_11
  | 12, h => cases h; exact okF_12
  | 13, h => cases h; exact okF_13
  | 14, h => cases h; exact okF_14
  | 15, h => cases h; exact okF_15
  | 16, h => cases h; exact okF_16
  | 17, h => cases h; exact okF_17
  | 18, h => cases h; exact okF_18
  | 19, h => cases h; exact okF_19
  | 20, h => cases h; exact okF_20
  | 21, h => cases h; exact okF_21
  | 22, h => cases h; exact okF_22
  | 23, h => cases h; exact okF_23
  | 24, h => cases h; exact okF_24
  | 25, h => cases h; exact okF_25
  | 26, h => cases h; exact okF_26
  | 27, h => cases h; exact okF_27
  | 28, h => cases h; exact okF_28
  | 29, h => cases h; exact okF_29
  | 30, h => cases h; exact okF_30
  | 31, h => cases h; exact okF_31
  | 32, h => cases h; exact okF_32
  | 33, h => cases h; exact okF_33
  | 34, h => cases h; exact okF_34
  | 35, h => cases h; exact okF_35
  | 36, h => cases h; exact okF_36
  | 37, h => cases h; exact okF_37
  | 38, h => cases h; exact okF_38
  | 39, h => cases h; exact okF_39
  | 40, h => cases h; exact okF_40
  | 41, h => cases h; exact okF_41
  | 42, h => cases h; exact okF_42
  | 43, h => cases h; exact okF_43
  | 44, h => cases h; exact okF_44
  | 45, h => cases h; exact okF_45
  | 46, h => cases h; exact okF_46
  | 47, h => cases h; exact okF_47
  | 48, h => cases h; exact okF_48
  | 49, h => cases h; exact okF_49
  | 50, h => cases h; exact okF_50
  | 51, h => cases h; exact okF_51
  | 52, h => cases h; exact okF_52
  | 53, h => cases h; exact okF_53
  | 54, h => cases h; exact okF_54
  | 55, h => cases h; exact okF_55
  | 56, h => cases h; exact okF_56
  | 57, h => cases h; exact okF_57
  | 58, h => cases h; exact okF_58
  | 59, h => cases h; exact okF_59
  | 60, h => cases h; exact okF_60
  | 61, h => cases h; exact okF_61
  | 62, h => cases h; exact okF_62
  | 63, h => cases h; exact okF_63
  | 64, h => cases h; exact okF_64
  | 65, h => cases h; exact okF_65
  | 66, h => cases h; exact okF_66
  | 67, h => cases h; exact okF_67
  | 68, h => cases h; exact okF_68
  | 69, h => cases h; exact okF_69
  | 70, h => cases h; exact okF_70
  | 71, h => cases h; exact okF_71
  | 72, h => cases h; exact okF_72
  | 73, h => cases h; exact okF_73
  | n + 74, h => simp [fTab] at h
def okN (e : (Nat × Nat) × Nat) : Prop := Cond.classLink (RK e.1.1) e.1.2 (clT e.2).1 ∈ lw_tbl ∧ Cond.instantiable (clT e.2).1 (clT e.2).2.2 ∈ lw_tbl ∧ Cond.initialized (clT e.2).1 ∈ lw_tbl ∧ e.2 < 9
theorem okN_0 : okN ((3, 18), 1) := ⟨List.mem_of_getElem? (i := 135) (by decide +kernel), List.mem_of_getElem? (i := 136) (by decide +kernel), List.mem_of_getElem? (i := 53) (by decide +kernel), by decide⟩
theorem okN_1 : okN ((7, 7), 5) := ⟨List.mem_of_getElem? (i := 73) (by decide +kernel), List.mem_of_getElem? (i := 74) (by decide +kernel), List.mem_of_getElem? (i := 49) (by decide +kernel), by decide⟩
theorem okN_2 : okN ((7, 16), 2) := ⟨List.mem_of_getElem? (i := 93) (by decide +kernel), List.mem_of_getElem? (i := 94) (by decide +kernel), List.mem_of_getElem? (i := 50) (by decide +kernel), by decide⟩
theorem okN_3 : okN ((7, 23), 6) := ⟨List.mem_of_getElem? (i := 113) (by decide +kernel), List.mem_of_getElem? (i := 114) (by decide +kernel), List.mem_of_getElem? (i := 51) (by decide +kernel), by decide⟩
theorem okN_4 : okN ((7, 30), 3) := ⟨List.mem_of_getElem? (i := 129) (by decide +kernel), List.mem_of_getElem? (i := 130) (by decide +kernel), List.mem_of_getElem? (i := 52) (by decide +kernel), by decide⟩
theorem okN_5 : okN ((7, 37), 4) := ⟨List.mem_of_getElem? (i := 184) (by decide +kernel), List.mem_of_getElem? (i := 185) (by decide +kernel), List.mem_of_getElem? (i := 54) (by decide +kernel), by decide⟩
theorem okN_6 : okN ((7, 49), 1) := ⟨List.mem_of_getElem? (i := 203) (by decide +kernel), List.mem_of_getElem? (i := 136) (by decide +kernel), List.mem_of_getElem? (i := 53) (by decide +kernel), by decide⟩
theorem okN_7 : okN ((7, 59), 0) := ⟨List.mem_of_getElem? (i := 205) (by decide +kernel), List.mem_of_getElem? (i := 206) (by decide +kernel), List.mem_of_getElem? (i := 56) (by decide +kernel), by decide⟩
theorem okN_8 : okN ((12, 7), 7) := ⟨List.mem_of_getElem? (i := 65) (by decide +kernel), List.mem_of_getElem? (i := 66) (by decide +kernel), List.mem_of_getElem? (i := 48) (by decide +kernel), by decide⟩
theorem okN_9 : okN ((12, 10), 8) := ⟨List.mem_of_getElem? (i := 824) (by decide +kernel), List.mem_of_getElem? (i := 825) (by decide +kernel), List.mem_of_getElem? (i := 61) (by decide +kernel), by decide⟩
theorem okNs : ∀ (k : Nat) e, nTab[k]? = some e → okN e := by
  intro k e h
  match k, h with
  | 0, h => cases h; exact okN_0
  | 1, h => cases h; exact okN_1
  | 2, h => cases h; exact okN_2
  | 3, h => cases h; exact okN_3
  | 4, h => cases h; exact okN_4
  | 5, h => cases h; exact okN_5
  | 6, h => cases h; exact okN_6
  | 7, h => cases h; exact okN_7
  | 8, h => cases h; exact okN_8
  | 9, h => cases h; exact okN_9
  | n + 10, h => simp [nTab] at h
theorem okKs : ∀ e ∈ kTab, Cond.constant (RK e.1.1) e.1.2 e.2 ∈ lw_tbl := by decide +kernel
theorem okLs : ∀ e ∈ lTab, Cond.constantLong (RK e.1.1) e.1.2 e.2 ∈ lw_tbl := by decide +kernel
