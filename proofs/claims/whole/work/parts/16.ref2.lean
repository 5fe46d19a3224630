theorem nl_0 : (0 : Int32) = nI 0 := rfl
theorem li_0 : (0 : Int32).toInt = 0 := by decide
theorem nl_1 : (1 : Int32) = nI 1 := rfl
theorem li_1 : (1 : Int32).toInt = 1 := by decide
theorem nl_2 : (2 : Int32) = nI 2 := rfl
theorem li_2 : (2 : Int32).toInt = 2 := by decide
theorem nl_3 : (3 : Int32) = nI 3 := rfl
theorem li_3 : (3 : Int32).toInt = 3 := by decide
theorem nl_4 : (4 : Int32) = nI 4 := rfl
theorem li_4 : (4 : Int32).toInt = 4 := by decide
theorem nl_5 : (5 : Int32) = nI 5 := rfl
theorem li_5 : (5 : Int32).toInt = 5 := by decide
theorem nl_6 : (6 : Int32) = nI 6 := rfl
theorem li_6 : (6 : Int32).toInt = 6 := by decide
theorem nl_7 : (7 : Int32) = nI 7 := rfl
theorem li_7 : (7 : Int32).toInt = 7 := by decide
theorem nl_8 : (8 : Int32) = nI 8 := rfl
theorem li_8 : (8 : Int32).toInt = 8 := by decide
theorem nl_9 : (9 : Int32) = nI 9 := rfl
theorem li_9 : (9 : Int32).toInt = 9 := by decide
theorem nl_10 : (10 : Int32) = nI 10 := rfl
theorem li_10 : (10 : Int32).toInt = 10 := by decide
theorem nl_11 : (11 : Int32) = nI 11 := rfl
theorem li_11 : (11 : Int32).toInt = 11 := by decide
theorem nl_12 : (12 : Int32) = nI 12 := rfl
theorem li_12 : (12 : Int32).toInt = 12 := by decide
theorem nl_13 : (13 : Int32) = nI 13 := rfl
theorem li_13 : (13 : Int32).toInt = 13 := by decide
theorem nl_14 : (14 : Int32) = nI 14 := rfl
theorem li_14 : (14 : Int32).toInt = 14 := by decide
theorem nl_15 : (15 : Int32) = nI 15 := rfl
theorem li_15 : (15 : Int32).toInt = 15 := by decide
theorem nl_16 : (16 : Int32) = nI 16 := rfl
theorem li_16 : (16 : Int32).toInt = 16 := by decide
theorem nl_17 : (17 : Int32) = nI 17 := rfl
theorem li_17 : (17 : Int32).toInt = 17 := by decide
theorem nl_18 : (18 : Int32) = nI 18 := rfl
theorem li_18 : (18 : Int32).toInt = 18 := by decide
theorem nl_19 : (19 : Int32) = nI 19 := rfl
theorem li_19 : (19 : Int32).toInt = 19 := by decide
theorem nl_20 : (20 : Int32) = nI 20 := rfl
theorem li_20 : (20 : Int32).toInt = 20 := by decide
theorem nl_21 : (21 : Int32) = nI 21 := rfl
theorem li_21 : (21 : Int32).toInt = 21 := by decide
theorem nl_22 : (22 : Int32) = nI 22 := rfl
theorem li_22 : (22 : Int32).toInt = 22 := by decide
theorem nl_23 : (23 : Int32) = nI 23 := rfl
theorem li_23 : (23 : Int32).toInt = 23 := by decide
theorem nl_24 : (24 : Int32) = nI 24 := rfl
theorem li_24 : (24 : Int32).toInt = 24 := by decide
theorem nl_25 : (25 : Int32) = nI 25 := rfl
theorem li_25 : (25 : Int32).toInt = 25 := by decide
theorem nl_26 : (26 : Int32) = nI 26 := rfl
theorem li_26 : (26 : Int32).toInt = 26 := by decide
theorem nl_27 : (27 : Int32) = nI 27 := rfl
theorem li_27 : (27 : Int32).toInt = 27 := by decide
theorem nl_28 : (28 : Int32) = nI 28 := rfl
theorem li_28 : (28 : Int32).toInt = 28 := by decide
theorem nl_29 : (29 : Int32) = nI 29 := rfl
theorem li_29 : (29 : Int32).toInt = 29 := by decide
theorem nl_30 : (30 : Int32) = nI 30 := rfl
theorem li_30 : (30 : Int32).toInt = 30 := by decide
theorem nl_31 : (31 : Int32) = nI 31 := rfl
theorem li_31 : (31 : Int32).toInt = 31 := by decide
theorem nl_32 : (32 : Int32) = nI 32 := rfl
theorem li_32 : (32 : Int32).toInt = 32 := by decide
theorem nl_33 : (33 : Int32) = nI 33 := rfl
theorem li_33 : (33 : Int32).toInt = 33 := by decide
theorem nl_34 : (34 : Int32) = nI 34 := rfl
theorem li_34 : (34 : Int32).toInt = 34 := by decide
theorem nl_35 : (35 : Int32) = nI 35 := rfl
theorem li_35 : (35 : Int32).toInt = 35 := by decide
theorem nl_36 : (36 : Int32) = nI 36 := rfl
theorem li_36 : (36 : Int32).toInt = 36 := by decide
theorem nl_37 : (37 : Int32) = nI 37 := rfl
theorem li_37 : (37 : Int32).toInt = 37 := by decide
theorem nl_38 : (38 : Int32) = nI 38 := rfl
theorem li_38 : (38 : Int32).toInt = 38 := by decide
theorem nl_39 : (39 : Int32) = nI 39 := rfl
theorem li_39 : (39 : Int32).toInt = 39 := by decide
theorem nl_40 : (40 : Int32) = nI 40 := rfl
theorem li_40 : (40 : Int32).toInt = 40 := by decide
theorem nl_41 : (41 : Int32) = nI 41 := rfl
theorem li_41 : (41 : Int32).toInt = 41 := by decide
theorem nl_42 : (42 : Int32) = nI 42 := rfl
theorem li_42 : (42 : Int32).toInt = 42 := by decide
theorem nl_43 : (43 : Int32) = nI 43 := rfl
theorem li_43 : (43 : Int32).toInt = 43 := by decide
theorem nl_44 : (44 : Int32) = nI 44 := rfl
theorem li_44 : (44 : Int32).toInt = 44 := by decide
theorem nl_45 : (45 : Int32) = nI 45 := rfl
theorem li_45 : (45 : Int32).toInt = 45 := by decide
theorem nl_46 : (46 : Int32) = nI 46 := rfl
theorem li_46 : (46 : Int32).toInt = 46 := by decide
theorem nl_47 : (47 : Int32) = nI 47 := rfl
theorem li_47 : (47 : Int32).toInt = 47 := by decide
theorem nl_48 : (48 : Int32) = nI 48 := rfl
theorem li_48 : (48 : Int32).toInt = 48 := by decide
theorem nl_49 : (49 : Int32) = nI 49 := rfl
theorem li_49 : (49 : Int32).toInt = 49 := by decide
theorem nl_50 : (50 : Int32) = nI 50 := rfl
theorem li_50 : (50 : Int32).toInt = 50 := by decide
theorem nl_51 : (51 : Int32) = nI 51 := rfl
theorem li_51 : (51 : Int32).toInt = 51 := by decide
theorem nl_52 : (52 : Int32) = nI 52 := rfl
theorem li_52 : (52 : Int32).toInt = 52 := by decide
theorem nl_53 : (53 : Int32) = nI 53 := rfl
theorem li_53 : (53 : Int32).toInt = 53 := by decide
theorem nl_54 : (54 : Int32) = nI 54 := rfl
theorem li_54 : (54 : Int32).toInt = 54 := by decide
theorem nl_55 : (55 : Int32) = nI 55 := rfl
theorem li_55 : (55 : Int32).toInt = 55 := by decide
theorem nl_56 : (56 : Int32) = nI 56 := rfl
theorem li_56 : (56 : Int32).toInt = 56 := by decide
theorem nl_57 : (57 : Int32) = nI 57 := rfl
theorem li_57 : (57 : Int32).toInt = 57 := by decide
theorem nl_58 : (58 : Int32) = nI 58 := rfl
theorem li_58 : (58 : Int32).toInt = 58 := by decide
theorem nl_59 : (59 : Int32) = nI 59 := rfl
theorem li_59 : (59 : Int32).toInt = 59 := by decide
theorem nl_60 : (60 : Int32) = nI 60 := rfl
theorem li_60 : (60 : Int32).toInt = 60 := by decide
theorem nl_61 : (61 : Int32) = nI 61 := rfl
theorem li_61 : (61 : Int32).toInt = 61 := by decide
theorem nl_62 : (62 : Int32) = nI 62 := rfl
theorem li_62 : (62 : Int32).toInt = 62 := by decide
theorem nl_63 : (63 : Int32) = nI 63 := rfl
theorem li_63 : (63 : Int32).toInt = 63 := by decide
theorem nl_64 : (64 : Int32) = nI 64 := rfl
theorem li_64 : (64 : Int32).toInt = 64 := by decide
theorem nl_65 : (65 : Int32) = nI 65 := rfl
theorem li_65 : (65 : Int32).toInt = 65 := by decide
theorem nl_66 : (66 : Int32) = nI 66 := rfl
theorem li_66 : (66 : Int32).toInt = 66 := by decide
theorem nl_67 : (67 : Int32) = nI 67 := rfl
theorem li_67 : (67 : Int32).toInt = 67 := by decide
theorem nl_68 : (68 : Int32) = nI 68 := rfl
theorem li_68 : (68 : Int32).toInt = 68 := by decide
theorem nl_69 : (69 : Int32) = nI 69 := rfl
theorem li_69 : (69 : Int32).toInt = 69 := by decide
theorem nl_70 : (70 : Int32) = nI 70 := rfl
theorem li_70 : (70 : Int32).toInt = 70 := by decide
theorem nl_71 : (71 : Int32) = nI 71 := rfl
theorem li_71 : (71 : Int32).toInt = 71 := by decide
theorem nl_72 : (72 : Int32) = nI 72 := rfl
theorem li_72 : (72 : Int32).toInt = 72 := by decide
theorem nl_73 : (73 : Int32) = nI 73 := rfl
theorem li_73 : (73 : Int32).toInt = 73 := by decide
theorem nl_74 : (74 : Int32) = nI 74 := rfl
theorem li_74 : (74 : Int32).toInt = 74 := by decide
theorem nl_75 : (75 : Int32) = nI 75 := rfl
theorem li_75 : (75 : Int32).toInt = 75 := by decide
theorem nl_76 : (76 : Int32) = nI 76 := rfl
theorem li_76 : (76 : Int32).toInt = 76 := by decide
theorem nl_77 : (77 : Int32) = nI 77 := rfl
theorem li_77 : (77 : Int32).toInt = 77 := by decide
theorem nl_78 : (78 : Int32) = nI 78 := rfl
theorem li_78 : (78 : Int32).toInt = 78 := by decide
theorem nl_79 : (79 : Int32) = nI 79 := rfl
theorem li_79 : (79 : Int32).toInt = 79 := by decide
theorem nl_80 : (80 : Int32) = nI 80 := rfl
theorem li_80 : (80 : Int32).toInt = 80 := by decide
theorem nl_81 : (81 : Int32) = nI 81 := rfl
theorem li_81 : (81 : Int32).toInt = 81 := by decide
theorem nl_82 : (82 : Int32) = nI 82 := rfl
theorem li_82 : (82 : Int32).toInt = 82 := by decide
theorem nl_83 : (83 : Int32) = nI 83 := rfl
theorem li_83 : (83 : Int32).toInt = 83 := by decide
theorem nl_84 : (84 : Int32) = nI 84 := rfl
theorem li_84 : (84 : Int32).toInt = 84 := by decide
theorem nl_85 : (85 : Int32) = nI 85 := rfl
theorem li_85 : (85 : Int32).toInt = 85 := by decide
theorem nl_86 : (86 : Int32) = nI 86 := rfl
theorem li_86 : (86 : Int32).toInt = 86 := by decide
theorem nl_87 : (87 : Int32) = nI 87 := rfl
theorem li_87 : (87 : Int32).toInt = 87 := by decide
theorem nl_88 : (88 : Int32) = nI 88 := rfl
theorem li_88 : (88 : Int32).toInt = 88 := by decide
theorem nl_89 : (89 : Int32) = nI 89 := rfl
theorem li_89 : (89 : Int32).toInt = 89 := by decide
theorem nl_90 : (90 : Int32) = nI 90 := rfl
theorem li_90 : (90 : Int32).toInt = 90 := by decide
theorem nl_91 : (91 : Int32) = nI 91 := rfl
theorem li_91 : (91 : Int32).toInt = 91 := by decide
theorem nl_92 : (92 : Int32) = nI 92 := rfl
theorem li_92 : (92 : Int32).toInt = 92 := by decide
theorem nl_93 : (93 : Int32) = nI 93 := rfl
theorem li_93 : (93 : Int32).toInt = 93 := by decide
theorem nl_94 : (94 : Int32) = nI 94 := rfl
theorem li_94 : (94 : Int32).toInt = 94 := by decide
theorem nl_95 : (95 : Int32) = nI 95 := rfl
theorem li_95 : (95 : Int32).toInt = 95 := by decide
theorem nl_96 : (96 : Int32) = nI 96 := rfl
theorem li_96 : (96 : Int32).toInt = 96 := by decide
theorem nl_97 : (97 : Int32) = nI 97 := rfl
theorem li_97 : (97 : Int32).toInt = 97 := by decide
theorem nl_98 : (98 : Int32) = nI 98 := rfl
theorem li_98 : (98 : Int32).toInt = 98 := by decide
theorem nl_99 : (99 : Int32) = nI 99 := rfl
theorem li_99 : (99 : Int32).toInt = 99 := by decide
theorem nl_100 : (100 : Int32) = nI 100 := rfl
theorem li_100 : (100 : Int32).toInt = 100 := by decide
theorem nl_101 : (101 : Int32) = nI 101 := rfl
theorem li_101 : (101 : Int32).toInt = 101 := by decide
theorem nl_102 : (102 : Int32) = nI 102 := rfl
theorem li_102 : (102 : Int32).toInt = 102 := by decide
theorem nl_103 : (103 : Int32) = nI 103 := rfl
theorem li_103 : (103 : Int32).toInt = 103 := by decide
theorem nl_104 : (104 : Int32) = nI 104 := rfl
theorem li_104 : (104 : Int32).toInt = 104 := by decide
theorem nl_105 : (105 : Int32) = nI 105 := rfl
theorem li_105 : (105 : Int32).toInt = 105 := by decide
theorem nl_106 : (106 : Int32) = nI 106 := rfl
theorem li_106 : (106 : Int32).toInt = 106 := by decide
theorem nl_107 : (107 : Int32) = nI 107 := rfl
theorem li_107 : (107 : Int32).toInt = 107 := by decide
theorem nl_108 : (108 : Int32) = nI 108 := rfl
theorem li_108 : (108 : Int32).toInt = 108 := by decide
theorem nl_109 : (109 : Int32) = nI 109 := rfl
theorem li_109 : (109 : Int32).toInt = 109 := by decide
theorem nl_110 : (110 : Int32) = nI 110 := rfl
theorem li_110 : (110 : Int32).toInt = 110 := by decide
theorem nl_111 : (111 : Int32) = nI 111 := rfl
theorem li_111 : (111 : Int32).toInt = 111 := by decide
theorem nl_112 : (112 : Int32) = nI 112 := rfl
theorem li_112 : (112 : Int32).toInt = 112 := by decide
theorem nl_113 : (113 : Int32) = nI 113 := rfl
theorem li_113 : (113 : Int32).toInt = 113 := by decide
theorem nl_114 : (114 : Int32) = nI 114 := rfl
theorem li_114 : (114 : Int32).toInt = 114 := by decide
theorem nl_115 : (115 : Int32) = nI 115 := rfl
theorem li_115 : (115 : Int32).toInt = 115 := by decide
theorem nl_116 : (116 : Int32) = nI 116 := rfl
theorem li_116 : (116 : Int32).toInt = 116 := by decide
theorem nl_117 : (117 : Int32) = nI 117 := rfl
theorem li_117 : (117 : Int32).toInt = 117 := by decide
theorem nl_118 : (118 : Int32) = nI 118 := rfl
theorem li_118 : (118 : Int32).toInt = 118 := by decide
theorem nl_119 : (119 : Int32) = nI 119 := rfl
theorem li_119 : (119 : Int32).toInt = 119 := by decide
theorem nl_120 : (120 : Int32) = nI 120 := rfl
theorem li_120 : (120 : Int32).toInt = 120 := by decide
theorem nl_121 : (121 : Int32) = nI 121 := rfl
theorem li_121 : (121 : Int32).toInt = 121 := by decide
theorem nl_122 : (122 : Int32) = nI 122 := rfl
theorem li_122 : (122 : Int32).toInt = 122 := by decide
theorem nl_123 : (123 : Int32) = nI 123 := rfl
theorem li_123 : (123 : Int32).toInt = 123 := by decide
theorem nl_124 : (124 : Int32) = nI 124 := rfl
theorem li_124 : (124 : Int32).toInt = 124 := by decide
theorem nl_125 : (125 : Int32) = nI 125 := rfl
theorem li_125 : (125 : Int32).toInt = 125 := by decide
theorem nl_126 : (126 : Int32) = nI 126 := rfl
theorem li_126 : (126 : Int32).toInt = 126 := by decide
theorem nl_127 : (127 : Int32) = nI 127 := rfl
theorem li_127 : (127 : Int32).toInt = 127 := by decide
theorem nl_128 : (128 : Int32) = nI 128 := rfl
theorem li_128 : (128 : Int32).toInt = 128 := by decide
theorem nl_129 : (129 : Int32) = nI 129 := rfl
theorem li_129 : (129 : Int32).toInt = 129 := by decide
theorem nl_130 : (130 : Int32) = nI 130 := rfl
theorem li_130 : (130 : Int32).toInt = 130 := by decide
theorem nl_131 : (131 : Int32) = nI 131 := rfl
theorem li_131 : (131 : Int32).toInt = 131 := by decide
theorem nl_132 : (132 : Int32) = nI 132 := rfl
theorem li_132 : (132 : Int32).toInt = 132 := by decide
theorem nl_133 : (133 : Int32) = nI 133 := rfl
theorem li_133 : (133 : Int32).toInt = 133 := by decide
theorem nl_134 : (134 : Int32) = nI 134 := rfl
theorem li_134 : (134 : Int32).toInt = 134 := by decide
theorem nl_135 : (135 : Int32) = nI 135 := rfl
theorem li_135 : (135 : Int32).toInt = 135 := by decide
theorem nl_136 : (136 : Int32) = nI 136 := rfl
theorem li_136 : (136 : Int32).toInt = 136 := by decide
theorem nl_137 : (137 : Int32) = nI 137 := rfl
theorem li_137 : (137 : Int32).toInt = 137 := by decide
theorem nl_138 : (138 : Int32) = nI 138 := rfl
theorem li_138 : (138 : Int32).toInt = 138 := by decide
theorem nl_139 : (139 : Int32) = nI 139 := rfl
theorem li_139 : (139 : Int32).toInt = 139 := by decide
theorem nl_140 : (140 : Int32) = nI 140 := rfl
theorem li_140 : (140 : Int32).toInt = 140 := by decide
theorem nl_141 : (141 : Int32) = nI 141 := rfl
theorem li_141 : (141 : Int32).toInt = 141 := by decide
theorem nl_142 : (142 : Int32) = nI 142 := rfl
theorem li_142 : (142 : Int32).toInt = 142 := by decide
theorem nl_143 : (143 : Int32) = nI 143 := rfl
theorem li_143 : (143 : Int32).toInt = 143 := by decide
theorem nl_144 : (144 : Int32) = nI 144 := rfl
theorem li_144 : (144 : Int32).toInt = 144 := by decide
theorem nl_145 : (145 : Int32) = nI 145 := rfl
theorem li_145 : (145 : Int32).toInt = 145 := by decide
theorem nl_146 : (146 : Int32) = nI 146 := rfl
theorem li_146 : (146 : Int32).toInt = 146 := by decide
theorem nl_147 : (147 : Int32) = nI 147 := rfl
theorem li_147 : (147 : Int32).toInt = 147 := by decide
theorem nl_148 : (148 : Int32) = nI 148 := rfl
theorem li_148 : (148 : Int32).toInt = 148 := by decide
theorem nl_149 : (149 : Int32) = nI 149 := rfl
theorem li_149 : (149 : Int32).toInt = 149 := by decide
theorem nl_150 : (150 : Int32) = nI 150 := rfl
theorem li_150 : (150 : Int32).toInt = 150 := by decide
theorem nl_151 : (151 : Int32) = nI 151 := rfl
theorem li_151 : (151 : Int32).toInt = 151 := by decide
theorem nl_152 : (152 : Int32) = nI 152 := rfl
theorem li_152 : (152 : Int32).toInt = 152 := by decide
theorem nl_153 : (153 : Int32) = nI 153 := rfl
theorem li_153 : (153 : Int32).toInt = 153 := by decide
theorem nl_154 : (154 : Int32) = nI 154 := rfl
theorem li_154 : (154 : Int32).toInt = 154 := by decide
theorem nl_155 : (155 : Int32) = nI 155 := rfl
theorem li_155 : (155 : Int32).toInt = 155 := by decide
theorem nl_156 : (156 : Int32) = nI 156 := rfl
theorem li_156 : (156 : Int32).toInt = 156 := by decide
theorem nl_157 : (157 : Int32) = nI 157 := rfl
theorem li_157 : (157 : Int32).toInt = 157 := by decide
theorem nl_158 : (158 : Int32) = nI 158 := rfl
theorem li_158 : (158 : Int32).toInt = 158 := by decide
theorem nl_159 : (159 : Int32) = nI 159 := rfl
theorem li_159 : (159 : Int32).toInt = 159 := by decide
theorem nl_160 : (160 : Int32) = nI 160 := rfl
theorem li_160 : (160 : Int32).toInt = 160 := by decide
theorem nl_161 : (161 : Int32) = nI 161 := rfl
theorem li_161 : (161 : Int32).toInt = 161 := by decide
theorem nl_162 : (162 : Int32) = nI 162 := rfl
theorem li_162 : (162 : Int32).toInt = 162 := by decide
theorem nl_163 : (163 : Int32) = nI 163 := rfl
theorem li_163 : (163 : Int32).toInt = 163 := by decide
theorem nl_164 : (164 : Int32) = nI 164 := rfl
theorem li_164 : (164 : Int32).toInt = 164 := by decide
theorem nl_165 : (165 : Int32) = nI 165 := rfl
theorem li_165 : (165 : Int32).toInt = 165 := by decide
theorem nl_166 : (166 : Int32) = nI 166 := rfl
theorem li_166 : (166 : Int32).toInt = 166 := by decide
theorem nl_167 : (167 : Int32) = nI 167 := rfl
theorem li_167 : (167 : Int32).toInt = 167 := by decide
theorem nl_168 : (168 : Int32) = nI 168 := rfl
theorem li_168 : (168 : Int32).toInt = 168 := by decide
theorem nl_169 : (169 : Int32) = nI 169 := rfl
theorem li_169 : (169 : Int32).toInt = 169 := by decide
theorem nl_170 : (170 : Int32) = nI 170 := rfl
theorem li_170 : (170 : Int32).toInt = 170 := by decide
theorem nl_171 : (171 : Int32) = nI 171 := rfl
theorem li_171 : (171 : Int32).toInt = 171 := by decide
theorem nl_172 : (172 : Int32) = nI 172 := rfl
theorem li_172 : (172 : Int32).toInt = 172 := by decide
theorem nl_173 : (173 : Int32) = nI 173 := rfl
theorem li_173 : (173 : Int32).toInt = 173 := by decide
theorem nl_174 : (174 : Int32) = nI 174 := rfl
theorem li_174 : (174 : Int32).toInt = 174 := by decide
theorem nl_175 : (175 : Int32) = nI 175 := rfl
theorem li_175 : (175 : Int32).toInt = 175 := by decide
theorem nl_176 : (176 : Int32) = nI 176 := rfl
theorem li_176 : (176 : Int32).toInt = 176 := by decide
theorem nl_177 : (177 : Int32) = nI 177 := rfl
theorem li_177 : (177 : Int32).toInt = 177 := by decide
theorem nl_178 : (178 : Int32) = nI 178 := rfl
theorem li_178 : (178 : Int32).toInt = 178 := by decide
theorem nl_179 : (179 : Int32) = nI 179 := rfl
theorem li_179 : (179 : Int32).toInt = 179 := by decide
theorem nl_180 : (180 : Int32) = nI 180 := rfl
theorem li_180 : (180 : Int32).toInt = 180 := by decide
theorem nl_181 : (181 : Int32) = nI 181 := rfl
theorem li_181 : (181 : Int32).toInt = 181 := by decide
theorem nl_182 : (182 : Int32) = nI 182 := rfl
theorem li_182 : (182 : Int32).toInt = 182 := by decide
theorem nl_183 : (183 : Int32) = nI 183 := rfl
theorem li_183 : (183 : Int32).toInt = 183 := by decide
theorem nl_184 : (184 : Int32) = nI 184 := rfl
theorem li_184 : (184 : Int32).toInt = 184 := by decide
theorem nl_185 : (185 : Int32) = nI 185 := rfl
theorem li_185 : (185 : Int32).toInt = 185 := by decide
theorem nl_186 : (186 : Int32) = nI 186 := rfl
theorem li_186 : (186 : Int32).toInt = 186 := by decide
theorem nl_187 : (187 : Int32) = nI 187 := rfl
theorem li_187 : (187 : Int32).toInt = 187 := by decide
theorem nl_188 : (188 : Int32) = nI 188 := rfl
theorem li_188 : (188 : Int32).toInt = 188 := by decide
theorem nl_189 : (189 : Int32) = nI 189 := rfl
theorem li_189 : (189 : Int32).toInt = 189 := by decide
theorem nl_190 : (190 : Int32) = nI 190 := rfl
theorem li_190 : (190 : Int32).toInt = 190 := by decide
theorem nl_191 : (191 : Int32) = nI 191 := rfl
theorem li_191 : (191 : Int32).toInt = 191 := by decide
theorem nl_192 : (192 : Int32) = nI 192 := rfl
theorem li_192 : (192 : Int32).toInt = 192 := by decide
theorem nl_193 : (193 : Int32) = nI 193 := rfl
theorem li_193 : (193 : Int32).toInt = 193 := by decide
theorem nl_194 : (194 : Int32) = nI 194 := rfl
theorem li_194 : (194 : Int32).toInt = 194 := by decide
theorem nl_195 : (195 : Int32) = nI 195 := rfl
theorem li_195 : (195 : Int32).toInt = 195 := by decide
theorem nl_196 : (196 : Int32) = nI 196 := rfl
theorem li_196 : (196 : Int32).toInt = 196 := by decide
theorem nl_197 : (197 : Int32) = nI 197 := rfl
theorem li_197 : (197 : Int32).toInt = 197 := by decide
theorem nl_198 : (198 : Int32) = nI 198 := rfl
theorem li_198 : (198 : Int32).toInt = 198 := by decide
theorem nl_199 : (199 : Int32) = nI 199 := rfl
theorem li_199 : (199 : Int32).toInt = 199 := by decide
theorem nl_200 : (200 : Int32) = nI 200 := rfl
theorem li_200 : (200 : Int32).toInt = 200 := by decide
theorem nl_201 : (201 : Int32) = nI 201 := rfl
theorem li_201 : (201 : Int32).toInt = 201 := by decide
theorem nl_202 : (202 : Int32) = nI 202 := rfl
theorem li_202 : (202 : Int32).toInt = 202 := by decide
theorem nl_203 : (203 : Int32) = nI 203 := rfl
theorem li_203 : (203 : Int32).toInt = 203 := by decide
theorem nl_204 : (204 : Int32) = nI 204 := rfl
theorem li_204 : (204 : Int32).toInt = 204 := by decide
theorem nl_205 : (205 : Int32) = nI 205 := rfl
theorem li_205 : (205 : Int32).toInt = 205 := by decide
theorem nl_206 : (206 : Int32) = nI 206 := rfl
theorem li_206 : (206 : Int32).toInt = 206 := by decide
theorem nl_207 : (207 : Int32) = nI 207 := rfl
theorem li_207 : (207 : Int32).toInt = 207 := by decide
theorem nl_208 : (208 : Int32) = nI 208 := rfl
theorem li_208 : (208 : Int32).toInt = 208 := by decide
theorem nl_209 : (209 : Int32) = nI 209 := rfl
theorem li_209 : (209 : Int32).toInt = 209 := by decide
theorem nl_210 : (210 : Int32) = nI 210 := rfl
theorem li_210 : (210 : Int32).toInt = 210 := by decide
theorem nl_211 : (211 : Int32) = nI 211 := rfl
theorem li_211 : (211 : Int32).toInt = 211 := by decide
theorem nl_212 : (212 : Int32) = nI 212 := rfl
theorem li_212 : (212 : Int32).toInt = 212 := by decide
theorem nl_213 : (213 : Int32) = nI 213 := rfl
theorem li_213 : (213 : Int32).toInt = 213 := by decide
theorem nl_214 : (214 : Int32) = nI 214 := rfl
theorem li_214 : (214 : Int32).toInt = 214 := by decide
theorem nl_215 : (215 : Int32) = nI 215 := rfl
theorem li_215 : (215 : Int32).toInt = 215 := by decide
theorem nl_216 : (216 : Int32) = nI 216 := rfl
theorem li_216 : (216 : Int32).toInt = 216 := by decide
theorem nl_217 : (217 : Int32) = nI 217 := rfl
theorem li_217 : (217 : Int32).toInt = 217 := by decide
theorem nl_218 : (218 : Int32) = nI 218 := rfl
theorem li_218 : (218 : Int32).toInt = 218 := by decide
theorem nl_219 : (219 : Int32) = nI 219 := rfl
theorem li_219 : (219 : Int32).toInt = 219 := by decide
theorem nl_220 : (220 : Int32) = nI 220 := rfl
theorem li_220 : (220 : Int32).toInt = 220 := by decide
theorem nl_221 : (221 : Int32) = nI 221 := rfl
theorem li_221 : (221 : Int32).toInt = 221 := by decide
theorem nl_222 : (222 : Int32) = nI 222 := rfl
theorem li_222 : (222 : Int32).toInt = 222 := by decide
theorem nl_223 : (223 : Int32) = nI 223 := rfl
theorem li_223 : (223 : Int32).toInt = 223 := by decide
theorem nl_224 : (224 : Int32) = nI 224 := rfl
theorem li_224 : (224 : Int32).toInt = 224 := by decide
theorem nl_225 : (225 : Int32) = nI 225 := rfl
theorem li_225 : (225 : Int32).toInt = 225 := by decide
theorem nl_226 : (226 : Int32) = nI 226 := rfl
theorem li_226 : (226 : Int32).toInt = 226 := by decide
theorem nl_227 : (227 : Int32) = nI 227 := rfl
theorem li_227 : (227 : Int32).toInt = 227 := by decide
theorem nl_228 : (228 : Int32) = nI 228 := rfl
theorem li_228 : (228 : Int32).toInt = 228 := by decide
theorem nl_229 : (229 : Int32) = nI 229 := rfl
theorem li_229 : (229 : Int32).toInt = 229 := by decide
theorem nl_230 : (230 : Int32) = nI 230 := rfl
theorem li_230 : (230 : Int32).toInt = 230 := by decide
theorem nl_231 : (231 : Int32) = nI 231 := rfl
theorem li_231 : (231 : Int32).toInt = 231 := by decide
theorem nl_232 : (232 : Int32) = nI 232 := rfl
theorem li_232 : (232 : Int32).toInt = 232 := by decide
theorem nl_233 : (233 : Int32) = nI 233 := rfl
theorem li_233 : (233 : Int32).toInt = 233 := by decide
theorem nl_234 : (234 : Int32) = nI 234 := rfl
theorem li_234 : (234 : Int32).toInt = 234 := by decide
theorem nl_235 : (235 : Int32) = nI 235 := rfl
theorem li_235 : (235 : Int32).toInt = 235 := by decide
theorem nl_236 : (236 : Int32) = nI 236 := rfl
theorem li_236 : (236 : Int32).toInt = 236 := by decide
theorem nl_237 : (237 : Int32) = nI 237 := rfl
theorem li_237 : (237 : Int32).toInt = 237 := by decide
theorem nl_238 : (238 : Int32) = nI 238 := rfl
theorem li_238 : (238 : Int32).toInt = 238 := by decide
theorem nl_239 : (239 : Int32) = nI 239 := rfl
theorem li_239 : (239 : Int32).toInt = 239 := by decide
theorem nl_240 : (240 : Int32) = nI 240 := rfl
theorem li_240 : (240 : Int32).toInt = 240 := by decide
theorem nl_241 : (241 : Int32) = nI 241 := rfl
theorem li_241 : (241 : Int32).toInt = 241 := by decide
theorem nl_242 : (242 : Int32) = nI 242 := rfl
theorem li_242 : (242 : Int32).toInt = 242 := by decide
theorem nl_243 : (243 : Int32) = nI 243 := rfl
theorem li_243 : (243 : Int32).toInt = 243 := by decide
theorem nl_244 : (244 : Int32) = nI 244 := rfl
theorem li_244 : (244 : Int32).toInt = 244 := by decide
theorem nl_245 : (245 : Int32) = nI 245 := rfl
theorem li_245 : (245 : Int32).toInt = 245 := by decide
theorem nl_246 : (246 : Int32) = nI 246 := rfl
theorem li_246 : (246 : Int32).toInt = 246 := by decide
theorem nl_247 : (247 : Int32) = nI 247 := rfl
theorem li_247 : (247 : Int32).toInt = 247 := by decide
theorem nl_248 : (248 : Int32) = nI 248 := rfl
theorem li_248 : (248 : Int32).toInt = 248 := by decide
theorem nl_249 : (249 : Int32) = nI 249 := rfl
theorem li_249 : (249 : Int32).toInt = 249 := by decide
theorem nl_250 : (250 : Int32) = nI 250 := rfl
theorem li_250 : (250 : Int32).toInt = 250 := by decide
theorem nl_251 : (251 : Int32) = nI 251 := rfl
theorem li_251 : (251 : Int32).toInt = 251 := by decide
theorem nl_252 : (252 : Int32) = nI 252 := rfl
theorem li_252 : (252 : Int32).toInt = 252 := by decide
theorem nl_253 : (253 : Int32) = nI 253 := rfl
theorem li_253 : (253 : Int32).toInt = 253 := by decide
theorem nl_254 : (254 : Int32) = nI 254 := rfl
theorem li_254 : (254 : Int32).toInt = 254 := by decide
theorem nl_255 : (255 : Int32) = nI 255 := rfl
theorem li_255 : (255 : Int32).toInt = 255 := by decide
theorem nl_256 : (256 : Int32) = nI 256 := rfl
theorem li_256 : (256 : Int32).toInt = 256 := by decide
theorem nl_257 : (257 : Int32) = nI 257 := rfl
theorem li_257 : (257 : Int32).toInt = 257 := by decide
theorem nl_258 : (258 : Int32) = nI 258 := rfl
theorem li_258 : (258 : Int32).toInt = 258 := by decide
theorem nl_259 : (259 : Int32) = nI 259 := rfl
theorem li_259 : (259 : Int32).toInt = 259 := by decide
theorem nl_260 : (260 : Int32) = nI 260 := rfl
theorem li_260 : (260 : Int32).toInt = 260 := by decide
theorem nl_261 : (261 : Int32) = nI 261 := rfl
theorem li_261 : (261 : Int32).toInt = 261 := by decide
theorem nl_262 : (262 : Int32) = nI 262 := rfl
theorem li_262 : (262 : Int32).toInt = 262 := by decide
theorem nl_263 : (263 : Int32) = nI 263 := rfl
theorem li_263 : (263 : Int32).toInt = 263 := by decide
theorem nl_264 : (264 : Int32) = nI 264 := rfl
theorem li_264 : (264 : Int32).toInt = 264 := by decide
theorem nl_265 : (265 : Int32) = nI 265 := rfl
theorem li_265 : (265 : Int32).toInt = 265 := by decide
theorem nl_266 : (266 : Int32) = nI 266 := rfl
theorem li_266 : (266 : Int32).toInt = 266 := by decide
theorem nl_267 : (267 : Int32) = nI 267 := rfl
theorem li_267 : (267 : Int32).toInt = 267 := by decide
theorem nl_268 : (268 : Int32) = nI 268 := rfl
theorem li_268 : (268 : Int32).toInt = 268 := by decide
theorem nl_269 : (269 : Int32) = nI 269 := rfl
theorem li_269 : (269 : Int32).toInt = 269 := by decide
theorem nl_270 : (270 : Int32) = nI 270 := rfl
theorem li_270 : (270 : Int32).toInt = 270 := by decide
theorem nl_271 : (271 : Int32) = nI 271 := rfl
theorem li_271 : (271 : Int32).toInt = 271 := by decide
theorem nl_272 : (272 : Int32) = nI 272 := rfl
theorem li_272 : (272 : Int32).toInt = 272 := by decide
theorem nl_273 : (273 : Int32) = nI 273 := rfl
theorem li_273 : (273 : Int32).toInt = 273 := by decide
theorem nl_274 : (274 : Int32) = nI 274 := rfl
theorem li_274 : (274 : Int32).toInt = 274 := by decide
theorem nl_275 : (275 : Int32) = nI 275 := rfl
theorem li_275 : (275 : Int32).toInt = 275 := by decide
theorem nl_276 : (276 : Int32) = nI 276 := rfl
theorem li_276 : (276 : Int32).toInt = 276 := by decide
theorem nl_277 : (277 : Int32) = nI 277 := rfl
theorem li_277 : (277 : Int32).toInt = 277 := by decide
theorem nl_278 : (278 : Int32) = nI 278 := rfl
theorem li_278 : (278 : Int32).toInt = 278 := by decide
theorem nl_279 : (279 : Int32) = nI 279 := rfl
theorem li_279 : (279 : Int32).toInt = 279 := by decide
theorem nl_280 : (280 : Int32) = nI 280 := rfl
theorem li_280 : (280 : Int32).toInt = 280 := by decide
theorem nl_281 : (281 : Int32) = nI 281 := rfl
theorem li_281 : (281 : Int32).toInt = 281 := by decide
theorem nl_282 : (282 : Int32) = nI 282 := rfl
theorem li_282 : (282 : Int32).toInt = 282 := by decide
theorem nl_283 : (283 : Int32) = nI 283 := rfl
theorem li_283 : (283 : Int32).toInt = 283 := by decide
theorem nl_284 : (284 : Int32) = nI 284 := rfl
theorem li_284 : (284 : Int32).toInt = 284 := by decide
theorem nl_285 : (285 : Int32) = nI 285 := rfl
theorem li_285 : (285 : Int32).toInt = 285 := by decide
theorem nl_286 : (286 : Int32) = nI 286 := rfl
theorem li_286 : (286 : Int32).toInt = 286 := by decide
theorem nl_287 : (287 : Int32) = nI 287 := rfl
theorem li_287 : (287 : Int32).toInt = 287 := by decide
theorem nl_288 : (288 : Int32) = nI 288 := rfl
theorem li_288 : (288 : Int32).toInt = 288 := by decide
theorem nl_289 : (289 : Int32) = nI 289 := rfl
theorem li_289 : (289 : Int32).toInt = 289 := by decide
theorem nl_290 : (290 : Int32) = nI 290 := rfl
theorem li_290 : (290 : Int32).toInt = 290 := by decide
theorem nl_291 : (291 : Int32) = nI 291 := rfl
theorem li_291 : (291 : Int32).toInt = 291 := by decide
theorem nl_292 : (292 : Int32) = nI 292 := rfl
theorem li_292 : (292 : Int32).toInt = 292 := by decide
theorem nl_293 : (293 : Int32) = nI 293 := rfl
theorem li_293 : (293 : Int32).toInt = 293 := by decide
theorem nl_294 : (294 : Int32) = nI 294 := rfl
theorem li_294 : (294 : Int32).toInt = 294 := by decide
theorem nl_295 : (295 : Int32) = nI 295 := rfl
theorem li_295 : (295 : Int32).toInt = 295 := by decide
theorem nl_296 : (296 : Int32) = nI 296 := rfl
theorem li_296 : (296 : Int32).toInt = 296 := by decide
theorem nl_297 : (297 : Int32) = nI 297 := rfl
theorem li_297 : (297 : Int32).toInt = 297 := by decide
theorem nl_298 : (298 : Int32) = nI 298 := rfl
theorem li_298 : (298 : Int32).toInt = 298 := by decide
theorem nl_299 : (299 : Int32) = nI 299 := rfl
theorem li_299 : (299 : Int32).toInt = 299 := by decide
theorem nl_300 : (300 : Int32) = nI 300 := rfl
theorem li_300 : (300 : Int32).toInt = 300 := by decide
theorem nl_301 : (301 : Int32) = nI 301 := rfl
theorem li_301 : (301 : Int32).toInt = 301 := by decide
theorem nl_302 : (302 : Int32) = nI 302 := rfl
theorem li_302 : (302 : Int32).toInt = 302 := by decide
theorem nl_303 : (303 : Int32) = nI 303 := rfl
theorem li_303 : (303 : Int32).toInt = 303 := by decide
theorem nl_304 : (304 : Int32) = nI 304 := rfl
theorem li_304 : (304 : Int32).toInt = 304 := by decide
theorem nl_305 : (305 : Int32) = nI 305 := rfl
theorem li_305 : (305 : Int32).toInt = 305 := by decide
theorem nl_306 : (306 : Int32) = nI 306 := rfl
theorem li_306 : (306 : Int32).toInt = 306 := by decide
theorem nl_307 : (307 : Int32) = nI 307 := rfl
theorem li_307 : (307 : Int32).toInt = 307 := by decide
theorem nl_308 : (308 : Int32) = nI 308 := rfl
theorem li_308 : (308 : Int32).toInt = 308 := by decide
theorem nl_309 : (309 : Int32) = nI 309 := rfl
theorem li_309 : (309 : Int32).toInt = 309 := by decide
theorem nl_900 : (900 : Int32) = nI 900 := rfl
theorem li_900 : (900 : Int32).toInt = 900 := by decide
theorem nl_1000 : (1000 : Int32) = nI 1000 := rfl
theorem li_1000 : (1000 : Int32).toInt = 1000 := by decide
theorem nl_1164 : (1164 : Int32) = nI 1164 := rfl
theorem li_1164 : (1164 : Int32).toInt = 1164 := by decide
theorem nl_3000 : (3000 : Int32) = nI 3000 := rfl
theorem li_3000 : (3000 : Int32).toInt = 3000 := by decide
theorem nl_3001 : (3001 : Int32) = nI 3001 := rfl
theorem li_3001 : (3001 : Int32).toInt = 3001 := by decide
theorem nl_3006 : (3006 : Int32) = nI 3006 := rfl
theorem li_3006 : (3006 : Int32).toInt = 3006 := by decide
theorem nl_2665 : (2665 : Int32) = nI 2665 := rfl
theorem li_2665 : (2665 : Int32).toInt = 2665 := by decide
theorem nl_3492 : (3492 : Int32) = nI 3492 := rfl
theorem li_3492 : (3492 : Int32).toInt = 3492 := by decide
theorem lj_m20 : (-20 : Int64).toInt = -20 := by decide
theorem lj_20 : (20 : Int64).toInt = 20 := by decide
theorem ix_m {m j : Nat} (h : m = j) (hj : j < 2147483648) : (nI m).toInt = (j : Int) := by rw [h]; exact nI_toInt hj
theorem lt_i {x y : Int32} {a b : Int} (hx : x.toInt = a) (hy : y.toInt = b) : x < y ↔ a < b := by rw [Int32.lt_iff_toInt_lt, hx, hy]
theorem le_i {x y : Int32} {a b : Int} (hx : x.toInt = a) (hy : y.toInt = b) : x ≤ y ↔ a ≤ b := by rw [Int32.le_iff_toInt_le, hx, hy]
theorem eq_i {x y : Int32} {a b : Int} (hx : x.toInt = a) (hy : y.toInt = b) : x = y ↔ a = b := by rw [← Int32.toInt_inj, hx, hy]
theorem up2_up {α : Type} {A : Nat → Nat → α} {a j : Nat} {R : Nat → α} {x : α} : up2 (pm_up A a R) a j x = pm_up A a (pm_up R j x) := by rw [up2, pm_up_eq, pm_up_up]
theorem up2_pm {α : Type} {A : Nat → Nat → α} {a j : Nat} {x : α} : up2 A a j x = pm_up A a (pm_up (A a) j x) := rfl
set_option maxRecDepth 20000 in
theorem l_plain {G : gT} {d : Nat} {S : sS} {V : sV} {P : sP} {B : sB} {Q : sP} {t sl : Nat} {a n : Nat} (hs : S a = (20, n)) (hn : 1164 ≤ n) : ∀ (m k : Nat) (A : sV), k + m = 1164 → ∃ A' : sV, PW G d mX12_plain 2 [some (.ref a), some (.int (nI k))] [] (t, sl, gh S V P A B Q) none (t, sl, gh S V P A' B Q) ∧ (∀ b, b ≠ a → A' b = A b) ∧ ∀ i, A' a i = if k ≤ i ∧ i < 1164 then 0 else A a i := by
  intro m
  induction m with
  | zero =>
    intro k A hk
    refine ⟨A, ?_, fun _ _ => rfl, fun i => by rw [if_neg (by omega)]⟩
    refine pw_iload1 dX12_plain_2 ?_
    refine pw_sipush (v := 1164) dX12_plain_3 (by decide) ?_
    refine pw_icmp_ge (tgt := 19) dX12_plain_6 (by decide) (fun c6 => ?_) (fun c6 => absurd (by rw [le_i li_1164 (ix_n (j := k) (by omega))]; omega) c6)
    exact pw_vret dX12_plain_19 rfl rfl rfl
  | succ m ih =>
    intro k A hk
    obtain ⟨A', kk, h1, h2⟩ := ih (k + 1) (up2 A a k 0) (by omega)
    refine ⟨A', ?_, fun b hb => (h1 b hb).trans (up2_na hb), fun i => ?_⟩
    · refine pw_iload1 dX12_plain_2 ?_
      refine pw_sipush (v := 1164) dX12_plain_3 (by decide) ?_
      refine pw_icmp_ge (tgt := 19) dX12_plain_6 (by decide) (fun c6 => absurd c6 (by rw [le_i li_1164 (ix_n (j := k) (by omega))]; omega)) (fun c6 => ?_)
      refine pw_aload0 dX12_plain_9 ?_
      refine pw_iload1 dX12_plain_10 ?_
      refine pw_iconst (v := 0) dX12_plain_11 (by decide) ?_
      refine pw_ast (j := k) dX12_plain_12 hs (ix_m rfl (by omega)) (by omega)  ?_
      refine pw_iinc1 (v := 1) dX12_plain_13 (by decide) (by decide) (k := ?_)
      refine pw_goto (tgt := 2) dX12_plain_16 (by decide) ?_
      rw [nI_1]
      exact kk
    · rw [h2, up2_at]
      unfold pm_up
      by_cases e : i = k
      · rw [e, if_neg (by omega), if_pos rfl, if_pos (by omega)]
      · rw [if_neg e]
        by_cases e2 : k + 1 ≤ i ∧ i < 1164
        · rw [if_pos e2, if_pos (by omega)]
        · rw [if_neg e2, if_neg (by omega)]
set_option maxRecDepth 20000 in
theorem c_plain {G : gT} {d : Nat} {S : sS} {V : sV} {P : sP} {A : sV} {B : sB} {Q : sP} {t sl : Nat} {a n : Nat} (hs : S a = (20, n)) (hn : 1164 ≤ n) : ∃ A' : sV, PW G d mX12_plain 0 [some (.ref a), none] [] (t, sl, gh S V P A B Q) none (t, sl, gh S V P A' B Q) ∧ (∀ b, b ≠ a → A' b = A b) ∧ ∀ i, A' a i = if i < 1164 then 0 else A a i := by
  obtain ⟨A', kk, h1, h2⟩ := l_plain (G := G) (d := d) (V := V) (P := P) (B := B) (Q := Q) (t := t) (sl := sl) hs hn 1164 0 A rfl
  refine ⟨A', ?_, h1, fun i => by rw [h2]; simp⟩
  refine pw_iconst (v := 0) dX12_plain_0 (by decide) ?_
  refine pw_istore1 dX12_plain_1 (by decide) (k := ?_)
  exact kk
def rf_cl (v : Int64) : Int32 := (if v ≤ 1000000 then (if -1000000 ≤ v then v else -1000000) else 1000000 : Int64).toInt32
def rf_btw (c a b : Int32) : Int32 :=
  if c = 3003 then bI (decide (a = b)) else if c = 3004 then bI (decide (a < b)) else if c = 3005 then bI (decide (b < a)) else if c = 3007 then a &&& b else if c = 3008 then a ||| b
  else rf_cl (if c = 3000 then a.toInt64 + b.toInt64 else if c = 3001 then a.toInt64 - b.toInt64 else a.toInt64 * b.toInt64)
theorem rfb_d {c a b : Int32} {w : Int64} (h3 : ¬ c = 3003) (h4 : ¬ c = 3004) (h5 : ¬ c = 3005) (h7 : ¬ c = 3007) (h8 : ¬ c = 3008) (hw : (if c = 3000 then a.toInt64 + b.toInt64 else if c = 3001 then a.toInt64 - b.toInt64 else a.toInt64 * b.toInt64) = w) : rf_cl w = rf_btw c a b := by
  unfold rf_btw
  rw [if_neg h3, if_neg h4, if_neg h5, if_neg h7, if_neg h8, hw]
theorem i32_ne {x : Int32} {k : Int32} {z : Int} (hk : k.toInt = z) (h : ¬ x = k) : x.toInt ≠ z := fun q => h (by rw [← Int32.toInt_inj, q, hk])
set_option maxRecDepth 20000 in
theorem c_between {G : gT} {d : Nat} {h : Ph} (c a b : Int32) : PW G d mX12_between 0 [some (.int c), some (.int a), some (.int b), none, none] [] h (some (.int (rf_btw c a b))) h := by
  have jn : ∀ w : Int64, rf_cl w = rf_btw c a b → PW G d mX12_between 116 [some (.int c), some (.int a), some (.int b), none, none] [.long w] h (some (.int (rf_btw c a b))) h := by
    intro w hw
    rw [← hw]
    refine pw_lstore3 dX12_between_116 (by decide) (k := ?_)
    refine pw_lload3 dX12_between_117 ?_
    refine pw_ldc2 kX12_225 dX12_between_118 ?_
    refine pw_lcmp dX12_between_121 ?_
    refine pw_if_le (tgt := 131) dX12_between_122 (by decide) (fun c122 => ?_) (fun c122 => ?_)
    · refine pw_lload3 dX12_between_131 ?_
      refine pw_ldc2 kX12_227 dX12_between_132 ?_
      refine pw_lcmp dX12_between_135 ?_
      refine pw_if_ge (tgt := 145) dX12_between_136 (by decide) (fun c136 => ?_) (fun c136 => ?_)
      · refine pw_lload3 dX12_between_145 ?_
        refine pw_l2i dX12_between_146 ?_
        exact pw_iret dX12_between_147 rfl rfl (rI (by unfold rf_cl; rw [lg_cmp_le] at c122; rw [lg_cmp_ge] at c136; rw [if_pos c122, if_pos c136])) rfl
      · refine pw_ldc2 kX12_227 dX12_between_139 ?_
        refine pw_goto (tgt := 146) dX12_between_142 (by decide) ?_
        refine pw_l2i dX12_between_146 ?_
        exact pw_iret dX12_between_147 rfl rfl (rI (by unfold rf_cl; rw [lg_cmp_le] at c122; rw [lg_cmp_ge] at c136; rw [if_pos c122, if_neg c136])) rfl
    · refine pw_ldc2 kX12_225 dX12_between_125 ?_
      refine pw_goto (tgt := 146) dX12_between_128 (by decide) ?_
      refine pw_l2i dX12_between_146 ?_
      exact pw_iret dX12_between_147 rfl rfl (rI (by unfold rf_cl; rw [lg_cmp_le] at c122; rw [if_neg c122])) rfl
  by_cases h3 : c = 3003
  · subst h3
    refine pw_iload0 dX12_between_0 ?_
    refine pw_tableIn (off := 39) (tgt := 40) dX12_between_1 (by decide) (by decide) rfl (by decide) ?_
    refine pw_iload1 dX12_between_40 ?_
    refine pw_iload2 dX12_between_41 ?_
    refine pw_icmp_ne (tgt := 49) dX12_between_42 (by decide) (fun c42 => ?_) (fun c42 => ?_)
    · refine pw_iconst (v := 0) dX12_between_49 (by decide) ?_
      exact pw_iret dX12_between_50 rfl rfl (rI (by unfold rf_btw; rw [if_pos rfl]; exact bI_z (by simp only [decide_eq_false_iff_not]; exact c42))) rfl
    · refine pw_iconst (v := 1) dX12_between_45 (by decide) ?_
      refine pw_goto (tgt := 50) dX12_between_46 (by decide) ?_
      exact pw_iret dX12_between_50 rfl rfl (rI (by unfold rf_btw; rw [if_pos rfl]; exact bI_t (by simp only [decide_eq_true_eq]; exact c42))) rfl
  by_cases h4 : c = 3004
  · subst h4
    refine pw_iload0 dX12_between_0 ?_
    refine pw_tableIn (off := 50) (tgt := 51) dX12_between_1 (by decide) (by decide) rfl (by decide) ?_
    refine pw_iload1 dX12_between_51 ?_
    refine pw_iload2 dX12_between_52 ?_
    refine pw_icmp_ge (tgt := 60) dX12_between_53 (by decide) (fun c53 => ?_) (fun c53 => ?_)
    · refine pw_iconst (v := 0) dX12_between_60 (by decide) ?_
      exact pw_iret dX12_between_61 rfl rfl (rI (by unfold rf_btw; rw [if_neg (by decide), if_pos rfl]; exact bI_z (by simp only [decide_eq_false_iff_not]; exact Int32.not_lt.mpr c53))) rfl
    · refine pw_iconst (v := 1) dX12_between_56 (by decide) ?_
      refine pw_goto (tgt := 61) dX12_between_57 (by decide) ?_
      exact pw_iret dX12_between_61 rfl rfl (rI (by unfold rf_btw; rw [if_neg (by decide), if_pos rfl]; exact bI_t (by simp only [decide_eq_true_eq]; exact Int32.not_le.mp c53))) rfl
  by_cases h5 : c = 3005
  · subst h5
    refine pw_iload0 dX12_between_0 ?_
    refine pw_tableIn (off := 61) (tgt := 62) dX12_between_1 (by decide) (by decide) rfl (by decide) ?_
    refine pw_iload1 dX12_between_62 ?_
    refine pw_iload2 dX12_between_63 ?_
    refine pw_icmp_le (tgt := 71) dX12_between_64 (by decide) (fun c64 => ?_) (fun c64 => ?_)
    · refine pw_iconst (v := 0) dX12_between_71 (by decide) ?_
      exact pw_iret dX12_between_72 rfl rfl (rI (by unfold rf_btw; rw [if_neg (by decide), if_neg (by decide), if_pos rfl]; exact bI_z (by simp only [decide_eq_false_iff_not]; exact Int32.not_lt.mpr c64))) rfl
    · refine pw_iconst (v := 1) dX12_between_67 (by decide) ?_
      refine pw_goto (tgt := 72) dX12_between_68 (by decide) ?_
      exact pw_iret dX12_between_72 rfl rfl (rI (by unfold rf_btw; rw [if_neg (by decide), if_neg (by decide), if_pos rfl]; exact bI_t (by simp only [decide_eq_true_eq]; exact Int32.not_le.mp c64))) rfl
  by_cases h7 : c = 3007
  · subst h7
    refine pw_iload0 dX12_between_0 ?_
    refine pw_tableIn (off := 72) (tgt := 73) dX12_between_1 (by decide) (by decide) rfl (by decide) ?_
    refine pw_iload1 dX12_between_73 ?_
    refine pw_iload2 dX12_between_74 ?_
    refine pw_iand dX12_between_75 ?_
    exact pw_iret dX12_between_76 rfl rfl rfl rfl
  by_cases h8 : c = 3008
  · subst h8
    refine pw_iload0 dX12_between_0 ?_
    refine pw_tableIn (off := 76) (tgt := 77) dX12_between_1 (by decide) (by decide) rfl (by decide) ?_
    refine pw_iload1 dX12_between_77 ?_
    refine pw_iload2 dX12_between_78 ?_
    refine pw_ior dX12_between_79 ?_
    exact pw_iret dX12_between_80 rfl rfl rfl rfl
  have kd : PW G d mX12_between 81 [some (.int c), some (.int a), some (.int b), none, none] [] h (some (.int (rf_btw c a b))) h := by
    refine pw_iload0 dX12_between_81 ?_
    refine pw_sipush (v := 3000) dX12_between_82 (by decide) ?_
    refine pw_icmp_ne (tgt := 96) dX12_between_85 (by decide) (fun c85 => ?_) (fun c85 => ?_)
    · refine pw_iload0 dX12_between_96 ?_
      refine pw_sipush (v := 3001) dX12_between_97 (by decide) ?_
      refine pw_icmp_ne (tgt := 111) dX12_between_100 (by decide) (fun c100 => ?_) (fun c100 => ?_)
      · refine pw_iload1 dX12_between_111 ?_
        refine pw_i2l dX12_between_112 ?_
        refine pw_iload2 dX12_between_113 ?_
        refine pw_i2l dX12_between_114 ?_
        refine pw_lmul dX12_between_115 ?_
        exact jn _ (rfb_d h3 h4 h5 h7 h8 (by rw [if_neg c85, if_neg c100]))
      · refine pw_iload1 dX12_between_103 ?_
        refine pw_i2l dX12_between_104 ?_
        refine pw_iload2 dX12_between_105 ?_
        refine pw_i2l dX12_between_106 ?_
        refine pw_lsub dX12_between_107 ?_
        refine pw_goto (tgt := 116) dX12_between_108 (by decide) ?_
        exact jn _ (rfb_d h3 h4 h5 h7 h8 (by rw [if_neg c85, if_pos c100]))
    · refine pw_iload1 dX12_between_88 ?_
      refine pw_i2l dX12_between_89 ?_
      refine pw_iload2 dX12_between_90 ?_
      refine pw_i2l dX12_between_91 ?_
      refine pw_ladd dX12_between_92 ?_
      refine pw_goto (tgt := 116) dX12_between_93 (by decide) ?_
      exact jn _ (rfb_d h3 h4 h5 h7 h8 (by rw [if_pos c85]))
  refine pw_iload0 dX12_between_0 ?_
  by_cases h6 : c = 3006
  · subst h6
    exact pw_tableIn (off := 80) (tgt := 81) dX12_between_1 (by decide) (by decide) rfl (by decide) kd
  · have g3 := i32_ne (z := 3003) rfl h3
    have g4 := i32_ne (z := 3004) rfl h4
    have g5 := i32_ne (z := 3005) rfl h5
    have g6 := i32_ne (z := 3006) rfl h6
    have g7 := i32_ne (z := 3007) rfl h7
    have g8 := i32_ne (z := 3008) rfl h8
    exact pw_tableOut (tgt := 81) dX12_between_1 (by omega) (by decide) kd
