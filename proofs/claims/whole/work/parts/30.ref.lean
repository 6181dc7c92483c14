/-! the reference: its shape, numbers -/
def rfS (S : Sh) (M : Nat) : Prop := (S.1 M = 12) ∧ (S.1 (M + 1) = 14) ∧ (S.2.1 (M + 1) = 4694) ∧ (S.2.2 M 0 = some (M + 1)) ∧ (S.1 (M + 2) = 15) ∧ (S.2.1 (M + 2) = 84) ∧ (S.2.2 M 1 = some (M + 2)) ∧ (S.1 (M + 3) = 14) ∧ (S.2.1 (M + 3) = 4) ∧ (S.2.2 M 5 = some (M + 3)) ∧ (S.1 (M + 4) = 14) ∧ (S.2.1 (M + 4) = 4) ∧ (S.2.2 M 6 = some (M + 4)) ∧ (S.1 (M + 5) = 15) ∧ (S.2.1 (M + 5) = 240) ∧ (S.2.2 M 7 = some (M + 5)) ∧ (S.1 (M + 6) = 13) ∧ (S.2.1 (M + 6) = 900) ∧ (S.2.2 M 8 = some (M + 6)) ∧ (S.1 (M + 7) = 13) ∧ (S.2.1 (M + 7) = 900) ∧ (S.2.2 M 9 = some (M + 7)) ∧ (S.1 (M + 8) = 14) ∧ (S.2.1 (M + 8) = 3) ∧ (S.2.2 M 21 = some (M + 8)) ∧ (S.1 (M + 9) = 14) ∧ (S.2.1 (M + 9) = 5) ∧ (S.2.2 M 25 = some (M + 9)) ∧ (S.1 (M + 10) = 14) ∧ (S.2.1 (M + 10) = 5) ∧ (S.2.2 M 26 = some (M + 10)) ∧ (S.1 (M + 11) = 15) ∧ (S.2.1 (M + 11) = 13) ∧ (S.2.2 M 28 = some (M + 11)) ∧ (S.1 (M + 12) = 14) ∧ (S.2.1 (M + 12) = 80) ∧ (S.2.2 M 31 = some (M + 12)) ∧ (S.1 (M + 13) = 14) ∧ (S.2.1 (M + 13) = 5) ∧ (S.2.2 M 32 = some (M + 13)) ∧ (S.1 (M + 14) = 14) ∧ (S.2.1 (M + 14) = 5) ∧ (S.2.2 M 33 = some (M + 14))
theorem rfS.k {S : Sh} {M : Nat} (h : rfS S M) : S.1 M = 12 := h.1
theorem rfS.k1 {S : Sh} {M : Nat} (h : rfS S M) : S.1 (M + 1) = 14 := h.2.1
theorem rfS.n1 {S : Sh} {M : Nat} (h : rfS S M) : S.2.1 (M + 1) = 4694 := h.2.2.1
theorem rfS.r1 {S : Sh} {M : Nat} (h : rfS S M) : S.2.2 M 0 = some (M + 1) := h.2.2.2.1
theorem rfS.k2 {S : Sh} {M : Nat} (h : rfS S M) : S.1 (M + 2) = 15 := h.2.2.2.2.1
theorem rfS.n2 {S : Sh} {M : Nat} (h : rfS S M) : S.2.1 (M + 2) = 84 := h.2.2.2.2.2.1
theorem rfS.r2 {S : Sh} {M : Nat} (h : rfS S M) : S.2.2 M 1 = some (M + 2) := h.2.2.2.2.2.2.1
theorem rfS.k3 {S : Sh} {M : Nat} (h : rfS S M) : S.1 (M + 3) = 14 := h.2.2.2.2.2.2.2.1
theorem rfS.n3 {S : Sh} {M : Nat} (h : rfS S M) : S.2.1 (M + 3) = 4 := h.2.2.2.2.2.2.2.2.1
theorem rfS.r3 {S : Sh} {M : Nat} (h : rfS S M) : S.2.2 M 5 = some (M + 3) := h.2.2.2.2.2.2.2.2.2.1
theorem rfS.k4 {S : Sh} {M : Nat} (h : rfS S M) : S.1 (M + 4) = 14 := h.2.2.2.2.2.2.2.2.2.2.1
theorem rfS.n4 {S : Sh} {M : Nat} (h : rfS S M) : S.2.1 (M + 4) = 4 := h.2.2.2.2.2.2.2.2.2.2.2.1
theorem rfS.r4 {S : Sh} {M : Nat} (h : rfS S M) : S.2.2 M 6 = some (M + 4) := h.2.2.2.2.2.2.2.2.2.2.2.2.1
theorem rfS.k5 {S : Sh} {M : Nat} (h : rfS S M) : S.1 (M + 5) = 15 := h.2.2.2.2.2.2.2.2.2.2.2.2.2.1
theorem rfS.n5 {S : Sh} {M : Nat} (h : rfS S M) : S.2.1 (M + 5) = 240 := h.2.2.2.2.2.2.2.2.2.2.2.2.2.2.1
theorem rfS.r5 {S : Sh} {M : Nat} (h : rfS S M) : S.2.2 M 7 = some (M + 5) := h.2.2.2.2.2.2.2.2.2.2.2.2.2.2.2.1
theorem rfS.k6 {S : Sh} {M : Nat} (h : rfS S M) : S.1 (M + 6) = 13 := h.2.2.2.2.2.2.2.2.2.2.2.2.2.2.2.2.1
theorem rfS.n6 {S : Sh} {M : Nat} (h : rfS S M) : S.2.1 (M + 6) = 900 := h.2.2.2.2.2.2.2.2.2.2.2.2.2.2.2.2.2.1
theorem rfS.r6 {S : Sh} {M : Nat} (h : rfS S M) : S.2.2 M 8 = some (M + 6) := h.2.2.2.2.2.2.2.2.2.2.2.2.2.2.2.2.2.2.1
theorem rfS.k7 {S : Sh} {M : Nat} (h : rfS S M) : S.1 (M + 7) = 13 := h.2.2.2.2.2.2.2.2.2.2.2.2.2.2.2.2.2.2.2.1
theorem rfS.n7 {S : Sh} {M : Nat} (h : rfS S M) : S.2.1 (M + 7) = 900 := h.2.2.2.2.2.2.2.2.2.2.2.2.2.2.2.2.2.2.2.2.1
theorem rfS.r7 {S : Sh} {M : Nat} (h : rfS S M) : S.2.2 M 9 = some (M + 7) := h.2.2.2.2.2.2.2.2.2.2.2.2.2.2.2.2.2.2.2.2.2.1
theorem rfS.k8 {S : Sh} {M : Nat} (h : rfS S M) : S.1 (M + 8) = 14 := h.2.2.2.2.2.2.2.2.2.2.2.2.2.2.2.2.2.2.2.2.2.2.1
theorem rfS.n8 {S : Sh} {M : Nat} (h : rfS S M) : S.2.1 (M + 8) = 3 := h.2.2.2.2.2.2.2.2.2.2.2.2.2.2.2.2.2.2.2.2.2.2.2.1
theorem rfS.r8 {S : Sh} {M : Nat} (h : rfS S M) : S.2.2 M 21 = some (M + 8) := h.2.2.2.2.2.2.2.2.2.2.2.2.2.2.2.2.2.2.2.2.2.2.2.2.1
theorem rfS.k9 {S : Sh} {M : Nat} (h : rfS S M) : S.1 (M + 9) = 14 := h.2.2.2.2.2.2.2.2.2.2.2.2.2.2.2.2.2.2.2.2.2.2.2.2.2.1
theorem rfS.n9 {S : Sh} {M : Nat} (h : rfS S M) : S.2.1 (M + 9) = 5 := h.2.2.2.2.2.2.2.2.2.2.2.2.2.2.2.2.2.2.2.2.2.2.2.2.2.2.1
theorem rfS.r9 {S : Sh} {M : Nat} (h : rfS S M) : S.2.2 M 25 = some (M + 9) := h.2.2.2.2.2.2.2.2.2.2.2.2.2.2.2.2.2.2.2.2.2.2.2.2.2.2.2.1
theorem rfS.k10 {S : Sh} {M : Nat} (h : rfS S M) : S.1 (M + 10) = 14 := h.2.2.2.2.2.2.2.2.2.2.2.2.2.2.2.2.2.2.2.2.2.2.2.2.2.2.2.2.1
theorem rfS.n10 {S : Sh} {M : Nat} (h : rfS S M) : S.2.1 (M + 10) = 5 := h.2.2.2.2.2.2.2.2.2.2.2.2.2.2.2.2.2.2.2.2.2.2.2.2.2.2.2.2.2.1
theorem rfS.r10 {S : Sh} {M : Nat} (h : rfS S M) : S.2.2 M 26 = some (M + 10) := h.2.2.2.2.2.2.2.2.2.2.2.2.2.2.2.2.2.2.2.2.2.2.2.2.2.2.2.2.2.2.1
theorem rfS.k11 {S : Sh} {M : Nat} (h : rfS S M) : S.1 (M + 11) = 15 := h.2.2.2.2.2.2.2.2.2.2.2.2.2.2.2.2.2.2.2.2.2.2.2.2.2.2.2.2.2.2.2.1
theorem rfS.n11 {S : Sh} {M : Nat} (h : rfS S M) : S.2.1 (M + 11) = 13 := h.2.2.2.2.2.2.2.2.2.2.2.2.2.2.2.2.2.2.2.2.2.2.2.2.2.2.2.2.2.2.2.2.1
theorem rfS.r11 {S : Sh} {M : Nat} (h : rfS S M) : S.2.2 M 28 = some (M + 11) := h.2.2.2.2.2.2.2.2.2.2.2.2.2.2.2.2.2.2.2.2.2.2.2.2.2.2.2.2.2.2.2.2.2.1
theorem rfS.k12 {S : Sh} {M : Nat} (h : rfS S M) : S.1 (M + 12) = 14 := h.2.2.2.2.2.2.2.2.2.2.2.2.2.2.2.2.2.2.2.2.2.2.2.2.2.2.2.2.2.2.2.2.2.2.1
theorem rfS.n12 {S : Sh} {M : Nat} (h : rfS S M) : S.2.1 (M + 12) = 80 := h.2.2.2.2.2.2.2.2.2.2.2.2.2.2.2.2.2.2.2.2.2.2.2.2.2.2.2.2.2.2.2.2.2.2.2.1
theorem rfS.r12 {S : Sh} {M : Nat} (h : rfS S M) : S.2.2 M 31 = some (M + 12) := h.2.2.2.2.2.2.2.2.2.2.2.2.2.2.2.2.2.2.2.2.2.2.2.2.2.2.2.2.2.2.2.2.2.2.2.2.1
theorem rfS.k13 {S : Sh} {M : Nat} (h : rfS S M) : S.1 (M + 13) = 14 := h.2.2.2.2.2.2.2.2.2.2.2.2.2.2.2.2.2.2.2.2.2.2.2.2.2.2.2.2.2.2.2.2.2.2.2.2.2.1
theorem rfS.n13 {S : Sh} {M : Nat} (h : rfS S M) : S.2.1 (M + 13) = 5 := h.2.2.2.2.2.2.2.2.2.2.2.2.2.2.2.2.2.2.2.2.2.2.2.2.2.2.2.2.2.2.2.2.2.2.2.2.2.2.1
theorem rfS.r13 {S : Sh} {M : Nat} (h : rfS S M) : S.2.2 M 32 = some (M + 13) := h.2.2.2.2.2.2.2.2.2.2.2.2.2.2.2.2.2.2.2.2.2.2.2.2.2.2.2.2.2.2.2.2.2.2.2.2.2.2.2.1
theorem rfS.k14 {S : Sh} {M : Nat} (h : rfS S M) : S.1 (M + 14) = 14 := h.2.2.2.2.2.2.2.2.2.2.2.2.2.2.2.2.2.2.2.2.2.2.2.2.2.2.2.2.2.2.2.2.2.2.2.2.2.2.2.2.1
theorem rfS.n14 {S : Sh} {M : Nat} (h : rfS S M) : S.2.1 (M + 14) = 5 := h.2.2.2.2.2.2.2.2.2.2.2.2.2.2.2.2.2.2.2.2.2.2.2.2.2.2.2.2.2.2.2.2.2.2.2.2.2.2.2.2.2.1
theorem rfS.r14 {S : Sh} {M : Nat} (h : rfS S M) : S.2.2 M 33 = some (M + 14) := h.2.2.2.2.2.2.2.2.2.2.2.2.2.2.2.2.2.2.2.2.2.2.2.2.2.2.2.2.2.2.2.2.2.2.2.2.2.2.2.2.2.2
theorem li_2 : (2 : Int32) = nI 2 := rfl
theorem li_3 : (3 : Int32) = nI 3 := rfl
theorem li_4 : (4 : Int32) = nI 4 := rfl
theorem li_5 : (5 : Int32) = nI 5 := rfl
theorem li_6 : (6 : Int32) = nI 6 := rfl
theorem li_7 : (7 : Int32) = nI 7 := rfl
theorem li_8 : (8 : Int32) = nI 8 := rfl
theorem li_9 : (9 : Int32) = nI 9 := rfl
theorem li_10 : (10 : Int32) = nI 10 := rfl
theorem li_11 : (11 : Int32) = nI 11 := rfl
theorem li_12 : (12 : Int32) = nI 12 := rfl
theorem li_13 : (13 : Int32) = nI 13 := rfl
theorem li_14 : (14 : Int32) = nI 14 := rfl
theorem li_15 : (15 : Int32) = nI 15 := rfl
theorem li_16 : (16 : Int32) = nI 16 := rfl
theorem li_17 : (17 : Int32) = nI 17 := rfl
theorem li_18 : (18 : Int32) = nI 18 := rfl
theorem li_19 : (19 : Int32) = nI 19 := rfl
theorem li_20 : (20 : Int32) = nI 20 := rfl
theorem li_21 : (21 : Int32) = nI 21 := rfl
theorem li_22 : (22 : Int32) = nI 22 := rfl
theorem li_23 : (23 : Int32) = nI 23 := rfl
theorem li_24 : (24 : Int32) = nI 24 := rfl
theorem li_25 : (25 : Int32) = nI 25 := rfl
theorem li_26 : (26 : Int32) = nI 26 := rfl
theorem li_27 : (27 : Int32) = nI 27 := rfl
theorem li_28 : (28 : Int32) = nI 28 := rfl
theorem li_29 : (29 : Int32) = nI 29 := rfl
theorem li_30 : (30 : Int32) = nI 30 := rfl
theorem li_32 : (32 : Int32) = nI 32 := rfl
theorem li_33 : (33 : Int32) = nI 33 := rfl
theorem li_34 : (34 : Int32) = nI 34 := rfl
theorem li_35 : (35 : Int32) = nI 35 := rfl
theorem li_36 : (36 : Int32) = nI 36 := rfl
theorem li_37 : (37 : Int32) = nI 37 := rfl
theorem li_38 : (38 : Int32) = nI 38 := rfl
theorem li_39 : (39 : Int32) = nI 39 := rfl
theorem li_40 : (40 : Int32) = nI 40 := rfl
theorem li_41 : (41 : Int32) = nI 41 := rfl
theorem li_42 : (42 : Int32) = nI 42 := rfl
theorem li_43 : (43 : Int32) = nI 43 := rfl
theorem li_44 : (44 : Int32) = nI 44 := rfl
theorem li_45 : (45 : Int32) = nI 45 := rfl
theorem li_46 : (46 : Int32) = nI 46 := rfl
theorem li_47 : (47 : Int32) = nI 47 := rfl
theorem li_48 : (48 : Int32) = nI 48 := rfl
theorem li_49 : (49 : Int32) = nI 49 := rfl
theorem li_50 : (50 : Int32) = nI 50 := rfl
theorem li_51 : (51 : Int32) = nI 51 := rfl
theorem li_52 : (52 : Int32) = nI 52 := rfl
theorem li_53 : (53 : Int32) = nI 53 := rfl
theorem li_54 : (54 : Int32) = nI 54 := rfl
theorem li_55 : (55 : Int32) = nI 55 := rfl
theorem li_56 : (56 : Int32) = nI 56 := rfl
theorem li_57 : (57 : Int32) = nI 57 := rfl
theorem li_58 : (58 : Int32) = nI 58 := rfl
theorem li_59 : (59 : Int32) = nI 59 := rfl
theorem li_60 : (60 : Int32) = nI 60 := rfl
theorem li_61 : (61 : Int32) = nI 61 := rfl
theorem li_62 : (62 : Int32) = nI 62 := rfl
theorem li_63 : (63 : Int32) = nI 63 := rfl
theorem li_64 : (64 : Int32) = nI 64 := rfl
theorem li_65 : (65 : Int32) = nI 65 := rfl
theorem li_66 : (66 : Int32) = nI 66 := rfl
theorem li_67 : (67 : Int32) = nI 67 := rfl
theorem li_68 : (68 : Int32) = nI 68 := rfl
theorem li_69 : (69 : Int32) = nI 69 := rfl
theorem li_70 : (70 : Int32) = nI 70 := rfl
theorem li_71 : (71 : Int32) = nI 71 := rfl
theorem li_72 : (72 : Int32) = nI 72 := rfl
theorem li_73 : (73 : Int32) = nI 73 := rfl
theorem li_74 : (74 : Int32) = nI 74 := rfl
theorem li_75 : (75 : Int32) = nI 75 := rfl
theorem li_76 : (76 : Int32) = nI 76 := rfl
theorem li_77 : (77 : Int32) = nI 77 := rfl
theorem li_78 : (78 : Int32) = nI 78 := rfl
theorem li_79 : (79 : Int32) = nI 79 := rfl
theorem li_80 : (80 : Int32) = nI 80 := rfl
theorem li_81 : (81 : Int32) = nI 81 := rfl
theorem li_82 : (82 : Int32) = nI 82 := rfl
theorem li_83 : (83 : Int32) = nI 83 := rfl
theorem li_84 : (84 : Int32) = nI 84 := rfl
theorem li_85 : (85 : Int32) = nI 85 := rfl
theorem li_86 : (86 : Int32) = nI 86 := rfl
theorem li_87 : (87 : Int32) = nI 87 := rfl
theorem li_88 : (88 : Int32) = nI 88 := rfl
theorem li_89 : (89 : Int32) = nI 89 := rfl
theorem li_90 : (90 : Int32) = nI 90 := rfl
theorem li_91 : (91 : Int32) = nI 91 := rfl
theorem li_92 : (92 : Int32) = nI 92 := rfl
theorem li_93 : (93 : Int32) = nI 93 := rfl
theorem li_94 : (94 : Int32) = nI 94 := rfl
theorem li_95 : (95 : Int32) = nI 95 := rfl
theorem li_96 : (96 : Int32) = nI 96 := rfl
theorem li_97 : (97 : Int32) = nI 97 := rfl
theorem li_98 : (98 : Int32) = nI 98 := rfl
theorem li_99 : (99 : Int32) = nI 99 := rfl
theorem li_100 : (100 : Int32) = nI 100 := rfl
theorem li_101 : (101 : Int32) = nI 101 := rfl
theorem li_102 : (102 : Int32) = nI 102 := rfl
theorem li_103 : (103 : Int32) = nI 103 := rfl
theorem li_104 : (104 : Int32) = nI 104 := rfl
theorem li_105 : (105 : Int32) = nI 105 := rfl
theorem li_106 : (106 : Int32) = nI 106 := rfl
theorem li_107 : (107 : Int32) = nI 107 := rfl
theorem li_108 : (108 : Int32) = nI 108 := rfl
theorem li_109 : (109 : Int32) = nI 109 := rfl
theorem li_110 : (110 : Int32) = nI 110 := rfl
theorem li_111 : (111 : Int32) = nI 111 := rfl
theorem li_112 : (112 : Int32) = nI 112 := rfl
theorem li_113 : (113 : Int32) = nI 113 := rfl
theorem li_114 : (114 : Int32) = nI 114 := rfl
theorem li_115 : (115 : Int32) = nI 115 := rfl
theorem li_116 : (116 : Int32) = nI 116 := rfl
theorem li_117 : (117 : Int32) = nI 117 := rfl
theorem li_118 : (118 : Int32) = nI 118 := rfl
theorem li_119 : (119 : Int32) = nI 119 := rfl
theorem li_120 : (120 : Int32) = nI 120 := rfl
theorem li_121 : (121 : Int32) = nI 121 := rfl
theorem li_122 : (122 : Int32) = nI 122 := rfl
theorem li_123 : (123 : Int32) = nI 123 := rfl
theorem li_124 : (124 : Int32) = nI 124 := rfl
theorem li_125 : (125 : Int32) = nI 125 := rfl
theorem li_126 : (126 : Int32) = nI 126 := rfl
theorem li_127 : (127 : Int32) = nI 127 := rfl
theorem li_128 : (128 : Int32) = nI 128 := rfl
theorem li_129 : (129 : Int32) = nI 129 := rfl
theorem li_130 : (130 : Int32) = nI 130 := rfl
theorem li_131 : (131 : Int32) = nI 131 := rfl
theorem li_226 : (226 : Int32) = nI 226 := rfl
theorem li_240 : (240 : Int32) = nI 240 := rfl
theorem li_255 : (255 : Int32) = nI 255 := rfl
theorem li_300 : (300 : Int32) = nI 300 := rfl
theorem li_586 : (586 : Int32) = nI 586 := rfl
theorem li_594 : (594 : Int32) = nI 594 := rfl
theorem li_900 : (900 : Int32) = nI 900 := rfl
theorem li_999 : (999 : Int32) = nI 999 := rfl
theorem li_1000 : (1000 : Int32) = nI 1000 := rfl
theorem li_1800 : (1800 : Int32) = nI 1800 := rfl
theorem li_2376 : (2376 : Int32) = nI 2376 := rfl
theorem li_2388 : (2388 : Int32) = nI 2388 := rfl
theorem li_2406 : (2406 : Int32) = nI 2406 := rfl
theorem li_2602 : (2602 : Int32) = nI 2602 := rfl
theorem li_2970 : (2970 : Int32) = nI 2970 := rfl
theorem li_3067 : (3067 : Int32) = nI 3067 := rfl
theorem li_3564 : (3564 : Int32) = nI 3564 := rfl
theorem li_9999 : (9999 : Int32) = nI 9999 := rfl
theorem li_10000 : (10000 : Int32) = nI 10000 := rfl
theorem li_11287 : (11287 : Int32) = nI 11287 := rfl
theorem li_65536 : (65536 : Int32) = nI 65536 := rfl
theorem li_100000 : (100000 : Int32) = nI 100000 := rfl
theorem li_1000000 : (1000000 : Int32) = nI 1000000 := rfl
theorem nI_mul (a b : Nat) : nI a * nI b = nI (a * b) := (Int32.ofNat_mul a b).symm
theorem vin0 {N : Nat} (h : 0 < N) : vp_in 0 N = True := eq_true (fun q => by
  rcases q with q | q
  · exact absurd q (by decide)
  · rw [tn0] at q
    omega)
theorem vin1 {N : Nat} (h : 1 < N) : vp_in 1 N = True := eq_true (fun q => by
  rcases q with q | q
  · exact absurd q (by decide)
  · rw [tn1] at q
    omega)
/-- a row with one place changed -/
def uA {α : Type} (A : Nat → α) (k : Nat) (v : α) : Nat → α := fun j => if j = k then v else A j
theorem uA_e {α : Type} (A : Nat → α) (k : Nat) (v : α) : uA A k v k = v := if_pos rfl
theorem uA_n {α : Type} (A : Nat → α) (k : Nat) (v : α) (j : Nat) (h : j ≠ k) : uA A k v j = A j := if_neg h
theorem u2_up {α : Type} (I : Nat → Nat → α) (a : Nat) (A : Nat → α) (k : Nat) (v : α) : u2 (up1 I a A) a k v = up1 I a (uA A k v) := by
  funext b j
  unfold u2 up1 uA
  by_cases h : b = a
  · subst h
    by_cases hj : j = k
    · simp [hj]
    · simp [hj]
  · simp [h]
theorem u2_up0 {α : Type} (I : Nat → Nat → α) (a k : Nat) (v : α) : u2 I a k v = up1 I a (uA (I a) k v) := by
  funext b j
  unfold u2 up1 uA
  by_cases h : b = a
  · subst h
    by_cases hj : j = k
    · simp [hj]
    · simp [hj]
  · simp [h]
theorem up1_at {α : Type} (I : Nat → α) (a : Nat) (A : α) : up1 I a A a = A := if_pos rfl
theorem up1_o {α : Type} (I : Nat → α) (a : Nat) (A : α) (b : Nat) (h : b ≠ a) : up1 I a A b = I b := if_neg h
theorem up1_up {α : Type} (I : Nat → α) (a : Nat) (A B : α) : up1 (up1 I a A) a B = up1 I a B := by
  funext b
  unfold up1
  by_cases h : b = a <;> simp [h]
theorem up1_id {α : Type} (I : Nat → α) (a : Nat) : up1 I a (I a) = I := by
  funext b
  unfold up1
  by_cases h : b = a <;> simp [h]
theorem up1_u2 {α : Type} (I : Nat → Nat → α) (a : Nat) (A : Nat → α) (b k : Nat) (v : α) (h : b ≠ a) : u2 (up1 I a A) b k v = up1 (u2 I b k v) a A := by
  funext c j
  unfold u2 up1
  by_cases hc : c = a
  · subst hc
    rw [if_neg (fun q => h q.1.symm), if_pos rfl, if_pos rfl]
  · rw [if_neg hc, if_neg hc]
theorem loopU {α : Type} {B : Nat → α → Prop} {f : Nat → α → α} {N : Nat} (step : ∀ i a, i < N → B (i + 1) (f i a) → B i a) : ∀ n i a, i + n = N → B N (foldU f i n a) → B i a := by
  intro n
  induction n with
  | zero =>
    intro i a hi h
    rw [show i = N by omega]
    exact h
  | succ n ih =>
    intro i a hi h
    exact step i a (by omega) (ih (i + 1) (f i a) (by omega) h)
theorem loopF {B : Nat → Prop} {p : Nat → Bool} {R : Int32 → Prop} {N : Nat} (step : ∀ i, i < N → (p i = true → R (nI i)) → (p i = false → B (i + 1)) → B i) (last : R (-1) → B N) : ∀ n i, i + n = N → R (fndU p i n) → B i := by
  intro n
  induction n with
  | zero =>
    intro i hi h
    rw [show i = N by omega]
    exact last h
  | succ n ih =>
    intro i hi h
    rw [fndU_1] at h
    refine step i (by omega) (fun hp => ?_) (fun hp => ?_)
    · rw [if_pos hp] at h
      exact h
    · rw [if_neg (by rw [hp]; decide)] at h
      exact ih (i + 1) (by omega) h
