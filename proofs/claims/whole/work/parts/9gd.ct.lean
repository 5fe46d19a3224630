set_option maxRecDepth 20000 in
theorem k_jDesk {G : gT} {d : Nat} {S : sS} {V : sV} {P : sP} {A : sV} {B : sB} {Q : sP} {sl : Nat} (hS : S 8 = (11, 0)) : WQ G (d + 6) mX11_init 0 [some (.ref 8), none] [] (9, sl, gh S V P A B Q) (fun r h' => r = none ∧ h' = (138, sl + 900 + 11 + 901 + 901 + 901 + 0 + 4 + 5 + 5 + 5 + 5 + 5 + 5 + 5 + 5 + 3 + 10 + 5 + 5 + 5 + 5 + 5 + 5 + 5 + 5 + 5 + 5 + 5 + 5 + 5 + 5 + 5 + 5 + 5 + 5 + 5 + 5 + 5 + 5 + 5 + 5 + 5 + 5 + 5 + 5 + 5 + 5 + 5 + 5 + 5 + 5 + 5 + 5 + 5 + 5 + 5 + 5 + 2 + 2 + 4 + 12 + 41 + 5 + 5 + 5 + 5 + 5 + 5 + 5 + 5 + 3 + 40 + 3 + 40 + 3 + 40 + 3 + 40 + 10 + 48 + 4 + 5 + 5 + 3 + 900 + 3 + 900 + 15 + 8 + 64 + 4 + 4 + 4 + 0 + 7 + 12 + 205 + 205 + 11 + 12 + 12 + 2665 + 2460 + 205 + 205 + 205 + 205 + 9 + 16 + 16 * 41 + 41 + 4 + 4 + 5, gh (pm_up (pm_up (pm_up (pm_up (mzS (pm_up (pm_up (pm_up (pm_up (pm_up (pm_up (pm_up (pm_up (pm_up (pm_up (pm_up (pm_up (pm_up (pm_up (pm_up (pm_up (pm_up (pm_up (pm_up (pm_up (pm_up (pm_up (pm_up (pm_up (pm_up (pm_up (pm_up (pm_up (pm_up (pm_up (pm_up (pm_up (pm_up (pm_up (pm_up (pm_up (pm_up (pm_up (pm_up (pm_up (pm_up (pm_up (pm_up (pm_up (pm_up (pm_up (pm_up (pm_up (pm_up (pm_up (pm_up (pm_up (pm_up (pm_up (pm_up (pm_up (pm_up (pm_up (pm_up (pm_up (pm_up (pm_up (pm_up (pm_up (pm_up (pm_up (pm_up (pm_up (pm_up (pm_up (pm_up (pm_up (pm_up (pm_up (pm_up (pm_up (pm_up (pm_up (pm_up (pm_up (pm_up (pm_up (pm_up (pm_up (pm_up (pm_up (pm_up (pm_up (pm_up (pm_up (pm_up (pm_up (pm_up (pm_up (pm_up (pm_up (pm_up (pm_up (pm_up (pm_up (pm_up (pm_up (pm_up (pm_up (pm_up (pm_up (pm_up (pm_up S 9 (21, 900)) 10 (6, 0)) 11 (20, 901)) 12 (20, 901)) 13 (20, 901)) 14 (21, 0)) 15 (24, 4)) 16 (8, 0)) 17 (20, 5)) (17 + 1) (20, 5)) (17 + 2) (20, 5)) 20 (8, 0)) 21 (20, 5)) (21 + 1) (20, 5)) (21 + 2) (20, 5)) 24 (3, 0)) 25 (25, 10)) 26 (8, 0)) 27 (20, 5)) (27 + 1) (20, 5)) (27 + 2) (20, 5)) 30 (8, 0)) 31 (20, 5)) (31 + 1) (20, 5)) (31 + 2) (20, 5)) 34 (8, 0)) 35 (20, 5)) (35 + 1) (20, 5)) (35 + 2) (20, 5)) 38 (8, 0)) 39 (20, 5)) (39 + 1) (20, 5)) (39 + 2) (20, 5)) 42 (8, 0)) 43 (20, 5)) (43 + 1) (20, 5)) (43 + 2) (20, 5)) 46 (8, 0)) 47 (20, 5)) (47 + 1) (20, 5)) (47 + 2) (20, 5)) 50 (8, 0)) 51 (20, 5)) (51 + 1) (20, 5)) (51 + 2) (20, 5)) 54 (8, 0)) 55 (20, 5)) (55 + 1) (20, 5)) (55 + 2) (20, 5)) 58 (8, 0)) 59 (20, 5)) (59 + 1) (20, 5)) (59 + 2) (20, 5)) 62 (8, 0)) 63 (20, 5)) (63 + 1) (20, 5)) (63 + 2) (20, 5)) 66 (24, 2)) 67 (25, 2)) 68 (26, 4)) 69 (20, 12)) 70 (20, 41)) 71 (8, 0)) 72 (20, 5)) (72 + 1) (20, 5)) (72 + 2) (20, 5)) 75 (8, 0)) 76 (20, 5)) (76 + 1) (20, 5)) (76 + 2) (20, 5)) 79 (9, 0)) 80 (22, 40)) 81 (9, 0)) 82 (22, 40)) 83 (9, 0)) 84 (22, 40)) 85 (9, 0)) 86 (22, 40)) 87 (7, 0)) 88 (20, 48)) 89 (20, 4)) 90 (20, 5)) 91 (20, 5)) 92 (4, 0)) 93 (20, 900)) 94 (4, 0)) 95 (20, 900)) 96 (0, 0)) 97 (20, 8)) 98 (20, 64)) 99 (28, 4)) 100 (20, 4)) 101 (20, 4)) 102 (22, 0)) 103 (1, 0)) 104 (20, 12)) 105 (22, 205)) 106 (22, 205)) 107 (10, 0)) 108 (20, 12)) 109 (20, 12)) 110 (20, 2665)) 111 (21, 2460)) 112 (20, 205)) 113 (20, 205)) 114 (22, 205)) 115 (22, 205)) 116 (5, 0)) 117 16 41 16) 134 (20, 41)) 135 (20, 4)) 136 (20, 4)) 137 (2, 0)) (up2 (up2 (pm_up (up2 (up2 (up2 (pm_up (up2 (up2 (pm_up (up2 (up2 (up2 (pm_up (up2 (up2 (up2 (up2 (up2 (up2 (up2 (up2 (pm_up (up2 (up2 (up2 (up2 (up2 (up2 (pm_up (up2 (up2 (pm_up (pm_up (up2 (up2 (pm_up (up2 (up2 (pm_up (up2 (up2 (pm_up (up2 (up2 (pm_up (up2 (up2 (pm_up (up2 (up2 (pm_up (up2 (up2 (pm_up (up2 (up2 (pm_up (up2 (up2 (pm_up (up2 (up2 (pm_up (up2 (up2 (pm_up (up2 (up2 (pm_up (up2 (up2 (pm_up (up2 (up2 (pm_up (up2 (up2 (pm_up (up2 (up2 (pm_up (up2 (up2 (pm_up (up2 (up2 (pm_up (up2 (up2 (pm_up (up2 (up2 (up2 (up2 (up2 (pm_up (up2 V 8 1 0) 10 (fun _ => 0)) 10 0 0) 10 1 (-1)) 10 5 0) 10 6 0) 10 8 0) 16 (fun _ => 0)) 16 3 0) 16 4 0) 20 (fun _ => 0)) 20 3 0) 20 4 0) 24 (fun _ => 0)) 24 0 0) 24 2 0) 26 (fun _ => 0)) 26 3 0) 26 4 0) 30 (fun _ => 0)) 30 3 0) 30 4 0) 34 (fun _ => 0)) 34 3 0) 34 4 0) 38 (fun _ => 0)) 38 3 0) 38 4 0) 42 (fun _ => 0)) 42 3 0) 42 4 0) 46 (fun _ => 0)) 46 3 0) 46 4 0) 50 (fun _ => 0)) 50 3 0) 50 4 0) 54 (fun _ => 0)) 54 3 0) 54 4 0) 58 (fun _ => 0)) 58 3 0) 58 4 0) 62 (fun _ => 0)) 62 3 0) 62 4 0) 71 (fun _ => 0)) 71 3 0) 71 4 0) 75 (fun _ => 0)) 75 3 0) 75 4 0) 79 (fun _ => 0)) 79 0 (-1)) 79 1 0) 81 (fun _ => 0)) 81 0 (-1)) 81 1 0) 83 (fun _ => 0)) 83 0 (-1)) 83 1 0) 85 (fun _ => 0)) 85 0 (-1)) 85 1 0) 87 (fun _ => 0)) 92 (fun _ => 0)) 92 1 0) 92 2 0) 94 (fun _ => 0)) 94 1 0) 94 2 0) 87 6 0) 87 7 0) 87 8 0) 87 9 0) 96 (fun _ => 0)) 96 0 0) 96 1 0) 96 3 0) 96 4 0) 96 5 0) 96 6 0) 96 12 0) 96 14 0) 103 (fun _ => 0)) 103 0 0) 103 1 0) 103 2 (-1)) 107 (fun _ => 0)) 107 2 0) 107 3 0) 116 (fun _ => 0)) 116 0 (-2147483648)) 116 7 0) 116 8 0) 137 (fun _ => 0)) 137 0 0) 137 4 0) (up2 (up2 (up2 (up2 (pm_up (up2 (up2 (up2 (up2 (up2 (up2 (up2 (pm_up (up2 (up2 (up2 (up2 (up2 (up2 (up2 (up2 (up2 (up2 (pm_up (up2 (up2 (up2 (up2 (up2 (pm_up (up2 (up2 (up2 (up2 (up2 (up2 (up2 (up2 (pm_up (up2 (up2 (up2 (pm_up (up2 (up2 (pm_up (up2 (up2 (up2 (up2 (pm_up (up2 (pm_up (up2 (pm_up (up2 (pm_up (up2 (pm_up (up2 (up2 (up2 (pm_up (up2 (up2 (up2 (pm_up (up2 (up2 (up2 (up2 (up2 (up2 (up2 (up2 (up2 (pm_up (up2 (up2 (up2 (pm_up (up2 (up2 (up2 (pm_up (up2 (up2 (up2 (pm_up (up2 (up2 (up2 (pm_up (up2 (up2 (up2 (pm_up (up2 (up2 (up2 (pm_up (up2 (up2 (up2 (pm_up (up2 (up2 (up2 (pm_up (up2 (up2 (up2 (pm_up (up2 (pm_up (up2 (up2 (up2 (up2 (pm_up (up2 (up2 (up2 (up2 (pm_up (up2 (up2 (up2 (up2 (up2 (up2 (up2 (up2 (pm_up (up2 P 8 0 (some 9)) 10 (fun _ => none)) 10 2 (some 11)) 10 3 (some 12)) 10 4 (some 13)) 10 7 (some 14)) 10 9 none) 10 10 none) 8 2 (some 10)) 8 3 (some 15)) 16 (fun _ => none)) 16 0 (some 17)) 16 1 (some (17 + 1))) 16 2 (some (17 + 2))) 8 5 (some 16)) 20 (fun _ => none)) 20 0 (some 21)) 20 1 (some (21 + 1))) 20 2 (some (21 + 2))) 8 6 (some 20)) 24 (fun _ => none)) 24 1 (some 25)) 26 (fun _ => none)) 26 0 (some 27)) 26 1 (some (27 + 1))) 26 2 (some (27 + 2))) 30 (fun _ => none)) 30 0 (some 31)) 30 1 (some (31 + 1))) 30 2 (some (31 + 2))) 34 (fun _ => none)) 34 0 (some 35)) 34 1 (some (35 + 1))) 34 2 (some (35 + 2))) 38 (fun _ => none)) 38 0 (some 39)) 38 1 (some (39 + 1))) 38 2 (some (39 + 2))) 42 (fun _ => none)) 42 0 (some 43)) 42 1 (some (43 + 1))) 42 2 (some (43 + 2))) 46 (fun _ => none)) 46 0 (some 47)) 46 1 (some (47 + 1))) 46 2 (some (47 + 2))) 50 (fun _ => none)) 50 0 (some 51)) 50 1 (some (51 + 1))) 50 2 (some (51 + 2))) 54 (fun _ => none)) 54 0 (some 55)) 54 1 (some (55 + 1))) 54 2 (some (55 + 2))) 58 (fun _ => none)) 58 0 (some 59)) 58 1 (some (59 + 1))) 58 2 (some (59 + 2))) 62 (fun _ => none)) 62 0 (some 63)) 62 1 (some (63 + 1))) 62 2 (some (63 + 2))) 8 7 (some 24)) 8 8 (some 66)) 8 9 (some 67)) 8 10 (some 68)) 8 16 (some 69)) 8 17 (some 70)) 71 (fun _ => none)) 71 0 (some 72)) 71 1 (some (72 + 1))) 71 2 (some (72 + 2))) 75 (fun _ => none)) 75 0 (some 76)) 75 1 (some (76 + 1))) 75 2 (some (76 + 2))) 79 (fun _ => none)) 79 2 (some 80)) 81 (fun _ => none)) 81 2 (some 82)) 83 (fun _ => none)) 83 2 (some 84)) 85 (fun _ => none)) 85 2 (some 86)) 87 (fun _ => none)) 87 0 (some 88)) 87 1 (some 89)) 87 2 (some 90)) 87 3 (some 91)) 92 (fun _ => none)) 92 0 (some 93)) 87 4 (some 92)) 94 (fun _ => none)) 94 0 (some 95)) 87 5 (some 94)) 8 4 (some 87)) 96 (fun _ => none)) 96 7 (some 97)) 96 8 (some 98)) 96 9 (some 99)) 96 10 (some 100)) 96 11 (some 101)) 96 13 (some 102)) 96 2 (some 87)) 8 11 (some 96)) 103 (fun _ => none)) 103 4 (some 104)) 103 5 (some 105)) 103 6 (some 106)) 103 3 (some 96)) 8 12 (some 103)) 107 (fun _ => none)) 107 0 (some 108)) 107 1 (some 109)) 107 5 (some 110)) 107 6 (some 111)) 107 7 (some 112)) 107 8 (some 113)) 107 9 (some 114)) 107 10 (some 115)) 107 4 (some 96)) 8 13 (some 107)) 116 (fun _ => none)) 116 3 (some 117)) 116 4 (some 134)) 116 5 (some 135)) 116 6 (some 136)) 116 1 (some 96)) 116 2 (some 107)) 8 14 (some 116)) 137 (fun _ => none)) 137 1 (some 96)) 137 2 (some 103)) 137 3 (some 107)) 8 15 (some 137)) (pm_up (pm_up (pm_up (mzA (pm_up (pm_up (pm_up (pm_up (pm_up (pm_up (pm_up (pm_up (pm_up (pm_up (pm_up (pm_up (pm_up (pm_up (pm_up (pm_up (pm_up (pm_up (pm_up (pm_up (pm_up (pm_up (pm_up (pm_up (pm_up (pm_up (pm_up (pm_up (pm_up (pm_up (pm_up (pm_up (pm_up (pm_up (pm_up (pm_up (pm_up (pm_up (pm_up (pm_up (pm_up (pm_up (pm_up (pm_up (pm_up (pm_up (pm_up (pm_up (pm_up (pm_up (pm_up (pm_up (pm_up (pm_up (pm_up (pm_up (pm_up (pm_up (pm_up (pm_up (pm_up (pm_up (pm_up (pm_up (pm_up (pm_up (pm_up (pm_up A 9 (fun _ => 0)) 11 (fun _ => 0)) 12 (fun _ => 0)) 13 (fun _ => 0)) 14 (fun _ => 0)) 17 (fun _ => 0)) (17 + 1) (fun _ => 0)) (17 + 2) (fun _ => 0)) 21 (fun _ => 0)) (21 + 1) (fun _ => 0)) (21 + 2) (fun _ => 0)) 27 (fun _ => 0)) (27 + 1) (fun _ => 0)) (27 + 2) (fun _ => 0)) 31 (fun _ => 0)) (31 + 1) (fun _ => 0)) (31 + 2) (fun _ => 0)) 35 (fun _ => 0)) (35 + 1) (fun _ => 0)) (35 + 2) (fun _ => 0)) 39 (fun _ => 0)) (39 + 1) (fun _ => 0)) (39 + 2) (fun _ => 0)) 43 (fun _ => 0)) (43 + 1) (fun _ => 0)) (43 + 2) (fun _ => 0)) 47 (fun _ => 0)) (47 + 1) (fun _ => 0)) (47 + 2) (fun _ => 0)) 51 (fun _ => 0)) (51 + 1) (fun _ => 0)) (51 + 2) (fun _ => 0)) 55 (fun _ => 0)) (55 + 1) (fun _ => 0)) (55 + 2) (fun _ => 0)) 59 (fun _ => 0)) (59 + 1) (fun _ => 0)) (59 + 2) (fun _ => 0)) 63 (fun _ => 0)) (63 + 1) (fun _ => 0)) (63 + 2) (fun _ => 0)) 69 (fun _ => 0)) 70 (fun _ => 0)) 72 (fun _ => 0)) (72 + 1) (fun _ => 0)) (72 + 2) (fun _ => 0)) 76 (fun _ => 0)) (76 + 1) (fun _ => 0)) (76 + 2) (fun _ => 0)) 88 (fun _ => 0)) 89 (fun _ => 0)) 90 (fun _ => 0)) 91 (fun _ => 0)) 93 (fun _ => 0)) 95 (fun _ => 0)) 97 (fun _ => 0)) 98 (fun _ => 0)) 100 (fun _ => 0)) 101 (fun _ => 0)) 100 (fillF (-1) 4 ((pm_up (pm_up (pm_up (pm_up (pm_up (pm_up (pm_up (pm_up (pm_up (pm_up (pm_up (pm_up (pm_up (pm_up (pm_up (pm_up (pm_up (pm_up (pm_up (pm_up (pm_up (pm_up (pm_up (pm_up (pm_up (pm_up (pm_up (pm_up (pm_up (pm_up (pm_up (pm_up (pm_up (pm_up (pm_up (pm_up (pm_up (pm_up (pm_up (pm_up (pm_up (pm_up (pm_up (pm_up (pm_up (pm_up (pm_up (pm_up (pm_up (pm_up (pm_up (pm_up (pm_up (pm_up (pm_up (pm_up (pm_up (pm_up (pm_up A 9 (fun _ => 0)) 11 (fun _ => 0)) 12 (fun _ => 0)) 13 (fun _ => 0)) 14 (fun _ => 0)) 17 (fun _ => 0)) (17 + 1) (fun _ => 0)) (17 + 2) (fun _ => 0)) 21 (fun _ => 0)) (21 + 1) (fun _ => 0)) (21 + 2) (fun _ => 0)) 27 (fun _ => 0)) (27 + 1) (fun _ => 0)) (27 + 2) (fun _ => 0)) 31 (fun _ => 0)) (31 + 1) (fun _ => 0)) (31 + 2) (fun _ => 0)) 35 (fun _ => 0)) (35 + 1) (fun _ => 0)) (35 + 2) (fun _ => 0)) 39 (fun _ => 0)) (39 + 1) (fun _ => 0)) (39 + 2) (fun _ => 0)) 43 (fun _ => 0)) (43 + 1) (fun _ => 0)) (43 + 2) (fun _ => 0)) 47 (fun _ => 0)) (47 + 1) (fun _ => 0)) (47 + 2) (fun _ => 0)) 51 (fun _ => 0)) (51 + 1) (fun _ => 0)) (51 + 2) (fun _ => 0)) 55 (fun _ => 0)) (55 + 1) (fun _ => 0)) (55 + 2) (fun _ => 0)) 59 (fun _ => 0)) (59 + 1) (fun _ => 0)) (59 + 2) (fun _ => 0)) 63 (fun _ => 0)) (63 + 1) (fun _ => 0)) (63 + 2) (fun _ => 0)) 69 (fun _ => 0)) 70 (fun _ => 0)) 72 (fun _ => 0)) (72 + 1) (fun _ => 0)) (72 + 2) (fun _ => 0)) 76 (fun _ => 0)) (76 + 1) (fun _ => 0)) (76 + 2) (fun _ => 0)) 88 (fun _ => 0)) 89 (fun _ => 0)) 90 (fun _ => 0)) 91 (fun _ => 0)) 93 (fun _ => 0)) 95 (fun _ => 0)) 97 (fun _ => 0)) 98 (fun _ => 0)) 100 (fun _ => 0)) 101 (fun _ => 0)) 100))) 104 (fun _ => 0)) 108 (fun _ => 0)) 109 (fun _ => 0)) 110 (fun _ => 0)) 111 (fun _ => 0)) 112 (fun _ => 0)) 113 (fun _ => 0)) 109 (fillF 31 12 ((pm_up (pm_up (pm_up (pm_up (pm_up (pm_up (pm_up (pm_up (pm_up (pm_up (pm_up (pm_up (pm_up (pm_up (pm_up (pm_up (pm_up (pm_up (pm_up (pm_up (pm_up (pm_up (pm_up (pm_up (pm_up (pm_up (pm_up (pm_up (pm_up (pm_up (pm_up (pm_up (pm_up (pm_up (pm_up (pm_up (pm_up (pm_up (pm_up (pm_up (pm_up (pm_up (pm_up (pm_up (pm_up (pm_up (pm_up (pm_up (pm_up (pm_up (pm_up (pm_up (pm_up (pm_up (pm_up (pm_up (pm_up (pm_up (pm_up (pm_up (pm_up (pm_up (pm_up (pm_up (pm_up (pm_up (pm_up A 9 (fun _ => 0)) 11 (fun _ => 0)) 12 (fun _ => 0)) 13 (fun _ => 0)) 14 (fun _ => 0)) 17 (fun _ => 0)) (17 + 1) (fun _ => 0)) (17 + 2) (fun _ => 0)) 21 (fun _ => 0)) (21 + 1) (fun _ => 0)) (21 + 2) (fun _ => 0)) 27 (fun _ => 0)) (27 + 1) (fun _ => 0)) (27 + 2) (fun _ => 0)) 31 (fun _ => 0)) (31 + 1) (fun _ => 0)) (31 + 2) (fun _ => 0)) 35 (fun _ => 0)) (35 + 1) (fun _ => 0)) (35 + 2) (fun _ => 0)) 39 (fun _ => 0)) (39 + 1) (fun _ => 0)) (39 + 2) (fun _ => 0)) 43 (fun _ => 0)) (43 + 1) (fun _ => 0)) (43 + 2) (fun _ => 0)) 47 (fun _ => 0)) (47 + 1) (fun _ => 0)) (47 + 2) (fun _ => 0)) 51 (fun _ => 0)) (51 + 1) (fun _ => 0)) (51 + 2) (fun _ => 0)) 55 (fun _ => 0)) (55 + 1) (fun _ => 0)) (55 + 2) (fun _ => 0)) 59 (fun _ => 0)) (59 + 1) (fun _ => 0)) (59 + 2) (fun _ => 0)) 63 (fun _ => 0)) (63 + 1) (fun _ => 0)) (63 + 2) (fun _ => 0)) 69 (fun _ => 0)) 70 (fun _ => 0)) 72 (fun _ => 0)) (72 + 1) (fun _ => 0)) (72 + 2) (fun _ => 0)) 76 (fun _ => 0)) (76 + 1) (fun _ => 0)) (76 + 2) (fun _ => 0)) 88 (fun _ => 0)) 89 (fun _ => 0)) 90 (fun _ => 0)) 91 (fun _ => 0)) 93 (fun _ => 0)) 95 (fun _ => 0)) 97 (fun _ => 0)) 98 (fun _ => 0)) 100 (fun _ => 0)) 101 (fun _ => 0)) 100 (fillF (-1) 4 ((pm_up (pm_up (pm_up (pm_up (pm_up (pm_up (pm_up (pm_up (pm_up (pm_up (pm_up (pm_up (pm_up (pm_up (pm_up (pm_up (pm_up (pm_up (pm_up (pm_up (pm_up (pm_up (pm_up (pm_up (pm_up (pm_up (pm_up (pm_up (pm_up (pm_up (pm_up (pm_up (pm_up (pm_up (pm_up (pm_up (pm_up (pm_up (pm_up (pm_up (pm_up (pm_up (pm_up (pm_up (pm_up (pm_up (pm_up (pm_up (pm_up (pm_up (pm_up (pm_up (pm_up (pm_up (pm_up (pm_up (pm_up (pm_up (pm_up A 9 (fun _ => 0)) 11 (fun _ => 0)) 12 (fun _ => 0)) 13 (fun _ => 0)) 14 (fun _ => 0)) 17 (fun _ => 0)) (17 + 1) (fun _ => 0)) (17 + 2) (fun _ => 0)) 21 (fun _ => 0)) (21 + 1) (fun _ => 0)) (21 + 2) (fun _ => 0)) 27 (fun _ => 0)) (27 + 1) (fun _ => 0)) (27 + 2) (fun _ => 0)) 31 (fun _ => 0)) (31 + 1) (fun _ => 0)) (31 + 2) (fun _ => 0)) 35 (fun _ => 0)) (35 + 1) (fun _ => 0)) (35 + 2) (fun _ => 0)) 39 (fun _ => 0)) (39 + 1) (fun _ => 0)) (39 + 2) (fun _ => 0)) 43 (fun _ => 0)) (43 + 1) (fun _ => 0)) (43 + 2) (fun _ => 0)) 47 (fun _ => 0)) (47 + 1) (fun _ => 0)) (47 + 2) (fun _ => 0)) 51 (fun _ => 0)) (51 + 1) (fun _ => 0)) (51 + 2) (fun _ => 0)) 55 (fun _ => 0)) (55 + 1) (fun _ => 0)) (55 + 2) (fun _ => 0)) 59 (fun _ => 0)) (59 + 1) (fun _ => 0)) (59 + 2) (fun _ => 0)) 63 (fun _ => 0)) (63 + 1) (fun _ => 0)) (63 + 2) (fun _ => 0)) 69 (fun _ => 0)) 70 (fun _ => 0)) 72 (fun _ => 0)) (72 + 1) (fun _ => 0)) (72 + 2) (fun _ => 0)) 76 (fun _ => 0)) (76 + 1) (fun _ => 0)) (76 + 2) (fun _ => 0)) 88 (fun _ => 0)) 89 (fun _ => 0)) 90 (fun _ => 0)) 91 (fun _ => 0)) 93 (fun _ => 0)) 95 (fun _ => 0)) 97 (fun _ => 0)) 98 (fun _ => 0)) 100 (fun _ => 0)) 101 (fun _ => 0)) 100))) 104 (fun _ => 0)) 108 (fun _ => 0)) 109 (fun _ => 0)) 110 (fun _ => 0)) 111 (fun _ => 0)) 112 (fun _ => 0)) 113 (fun _ => 0)) 109))) 117 16) 134 (fun _ => 0)) 135 (fun _ => 0)) 136 (fun _ => 0)) (pm_up (pm_up (pm_up (pm_up (pm_up (pm_up (pm_up (pm_up (pm_up B 80 (fun _ => 0)) 82 (fun _ => 0)) 84 (fun _ => 0)) 86 (fun _ => 0)) 102 (fun _ => 0)) 105 (fun _ => 0)) 106 (fun _ => 0)) 114 (fun _ => 0)) 115 (fun _ => 0)) (pm_up (pm_up (up2 (up2 (up2 (up2 (up2 (up2 (up2 (pm_up (pm_up (pm_up (up2 (up2 (up2 (up2 (up2 (up2 (up2 (up2 (up2 (up2 (pm_up (pm_up Q 15 (fun _ => none)) 25 (fun _ => none)) 25 0 (some 26)) 25 1 (some 30)) 25 2 (some 34)) 25 3 (some 38)) 25 4 (some 42)) 25 5 (some 46)) 25 6 (some 50)) 25 7 (some 54)) 25 8 (some 58)) 25 9 (some 62)) 66 (fun _ => none)) 67 (fun _ => none)) 68 (fun _ => none)) 67 0 (some 71)) 67 1 (some 75)) 68 0 (some 79)) 68 1 (some 81)) 68 2 (some 83)) 68 3 (some 85)) 15 0 (some 87)) 99 (fun _ => none)) 117 (fun j => if j < 16 then some (117 + 1 + j) else none)))) := by
  refine WQ.st (fun _ _ kz => pw_aload0 dX11_init_0 kz) ?_
  refine WQ.st (fun _ _ kz => pw_objInit lX11_5 gt_oi1 gt_oi2 dX11_init_1 (Nat.le_of_ble_eq_true rfl) (by omega) kz) ?_
  refine WQ.st (fun _ _ kz => pw_aload0 dX11_init_4 kz) ?_
  refine WQ.st (fun _ _ kz => pw_sipush (v := 900) dX11_init_5 (by decide) kz) ?_
  refine WQ.st (fun _ _ kz => pw_nab (t := 9) (n := 900) dX11_init_8 rfl (by decide) kz) ?_
  refine WQ.st (fun _ _ kz => pw_putr (pX11_11 _ rfl rfl) dX11_init_10 (by (repeat rw [pm_up_ne (by decide)]); exact hS) kz) ?_
  refine WQ.st (fun _ _ kz => pw_aload0 dX11_init_13 kz) ?_
  refine WQ.st (fun _ _ kz => pw_iconst (v := 0) dX11_init_14 (by decide) kz) ?_
  refine WQ.st (fun _ _ kz => pw_puti (pX11_15 _ rfl) dX11_init_15 (by (repeat rw [pm_up_ne (by decide)]); exact hS) rfl rfl kz) ?_
  refine WQ.st (fun _ _ kz => pw_aload0 dX11_init_18 kz) ?_
  refine WQ.st (fun _ _ kz => pw_nao (t := 10) nX11_19 (by decide) (by decide +kernel) dX11_init_19 kz) ?_
  refine WQ.st (fun _ _ kz => pw_dup dX11_init_22 rfl kz) ?_
  refine wq_n0 wX6_init lX11_21 dX11_init_23 (k_jReader rfl) rfl (Nat.le_of_ble_eq_true rfl) (Nat.le_of_ble_eq_true rfl) (fun h23 z23 => ?_)
  subst z23
  refine WQ.st (fun _ _ kz => pw_putr (pX11_22 _ rfl rfl) dX11_init_26 (by (repeat rw [pm_up_ne (by decide)]); exact hS) kz) ?_
  refine WQ.st (fun _ _ kz => pw_aload0 dX11_init_29 kz) ?_
  refine WQ.st (fun _ _ kz => pw_iconst (v := 4) dX11_init_30 (by decide) kz) ?_
  refine WQ.st (fun _ _ kz => pw_naO (t := 15) (q := 4) (n := 4) (C0 := "RubatoDesk$Sheet") (by decide) (gt_1 (List.mem_of_getElem? (i := 74) rfl) rfl) (fun _ _ _ h => h.2.2.1.1) (fun _ => rfl) dX11_init_31 rfl (by decide) kz) ?_
  refine WQ.st (fun _ _ kz => pw_putr (pX11_28 _ rfl rfl) dX11_init_34 (by (repeat rw [pm_up_ne (by decide)]); exact hS) kz) ?_
  refine WQ.st (fun _ _ kz => pw_aload0 dX11_init_37 kz) ?_
  refine WQ.st (fun _ _ kz => pw_nao (t := 16) nX11_32 (by decide) (by decide +kernel) dX11_init_38 kz) ?_
  refine WQ.st (fun _ _ kz => pw_dup dX11_init_41 rfl kz) ?_
  refine wq_n0 wX8_init lX11_34 dX11_init_42 (k_jState (a := 16) (t := 17) rfl (by decide)) rfl (Nat.le_of_ble_eq_true rfl) (Nat.le_of_ble_eq_true rfl) (fun h42 z42 => ?_)
  subst z42
  refine WQ.st (fun _ _ kz => pw_putr (pX11_35 _ rfl rfl) dX11_init_45 (by (repeat rw [pm_up_ne (by decide)]); exact hS) kz) ?_
  refine WQ.st (fun _ _ kz => pw_aload0 dX11_init_48 kz) ?_
  refine WQ.st (fun _ _ kz => pw_nao (t := 20) nX11_32 (by decide) (by decide +kernel) dX11_init_49 kz) ?_
  refine WQ.st (fun _ _ kz => pw_dup dX11_init_52 rfl kz) ?_
  refine wq_n0 wX8_init lX11_34 dX11_init_53 (k_jState (a := 20) (t := 21) rfl (by decide)) rfl (Nat.le_of_ble_eq_true rfl) (Nat.le_of_ble_eq_true rfl) (fun h53 z53 => ?_)
  subst z53
  refine WQ.st (fun _ _ kz => pw_putr (pX11_39 _ rfl rfl) dX11_init_56 (by (repeat rw [pm_up_ne (by decide)]); exact hS) kz) ?_
  refine WQ.st (fun _ _ kz => pw_aload0 dX11_init_59 kz) ?_
  refine WQ.st (fun _ _ kz => pw_nao (t := 24) nX11_42 (by decide) (by decide +kernel) dX11_init_60 kz) ?_
  refine WQ.st (fun _ _ kz => pw_dup dX11_init_63 rfl kz) ?_
  refine wq_n0 wX3_init lX11_44 dX11_init_64 (k_jHist rfl) rfl (Nat.le_of_ble_eq_true rfl) (Nat.le_of_ble_eq_true rfl) (fun h64 z64 => ?_)
  subst z64
  refine WQ.st (fun _ _ kz => pw_putr (pX11_45 _ rfl rfl) dX11_init_67 (by (repeat rw [pm_up_ne (by decide)]); exact hS) kz) ?_
  refine WQ.st (fun _ _ kz => pw_aload0 dX11_init_70 kz) ?_
  refine WQ.st (fun _ _ kz => pw_iconst (v := 2) dX11_init_71 (by decide) kz) ?_
  refine WQ.st (fun _ _ kz => pw_naO (t := 66) (q := 4) (n := 2) (C0 := "RubatoDesk$Sheet") (by decide) (gt_1 (List.mem_of_getElem? (i := 74) rfl) rfl) (fun _ _ _ h => h.2.2.1.1) (fun _ => rfl) dX11_init_72 rfl (by decide) kz) ?_
  refine WQ.st (fun _ _ kz => pw_putr (pX11_49 _ rfl rfl) dX11_init_75 (by (repeat rw [pm_up_ne (by decide)]); exact hS) kz) ?_
  refine WQ.st (fun _ _ kz => pw_aload0 dX11_init_78 kz) ?_
  refine WQ.st (fun _ _ kz => pw_iconst (v := 2) dX11_init_79 (by decide) kz) ?_
  refine WQ.st (fun _ _ kz => pw_naO (t := 67) (q := 5) (n := 2) (C0 := "RubatoDesk$State") (by decide) (gt_1 (List.mem_of_getElem? (i := 76) rfl) rfl) (fun _ _ _ h => h.2.2.1.2.1) (fun _ => rfl) dX11_init_80 rfl (by decide) kz) ?_
  refine WQ.st (fun _ _ kz => pw_putr (pX11_52 _ rfl rfl) dX11_init_83 (by (repeat rw [pm_up_ne (by decide)]); exact hS) kz) ?_
  refine WQ.st (fun _ _ kz => pw_aload0 dX11_init_86 kz) ?_
  refine WQ.st (fun _ _ kz => pw_iconst (v := 4) dX11_init_87 (by decide) kz) ?_
  refine WQ.st (fun _ _ kz => pw_naO (t := 68) (q := 6) (n := 4) (C0 := "RubatoDesk$Tray") (by decide) (gt_1 (List.mem_of_getElem? (i := 129) rfl) rfl) (fun _ _ _ h => h.2.2.1.2.2.1) (fun _ => rfl) dX11_init_88 rfl (by decide) kz) ?_
  refine WQ.st (fun _ _ kz => pw_putr (pX11_58 _ rfl rfl) dX11_init_91 (by (repeat rw [pm_up_ne (by decide)]); exact hS) kz) ?_
  refine WQ.st (fun _ _ kz => pw_aload0 dX11_init_94 kz) ?_
  refine WQ.st (fun _ _ kz => pw_bipush (v := 12) dX11_init_95 (by decide) kz) ?_
  refine WQ.st (fun _ _ kz => pw_nai (t := 69) (n := 12) dX11_init_97 rfl (by decide) kz) ?_
  refine WQ.st (fun _ _ kz => pw_putr (pX11_62 _ rfl rfl) dX11_init_99 (by (repeat rw [pm_up_ne (by decide)]); exact hS) kz) ?_
  refine WQ.st (fun _ _ kz => pw_aload0 dX11_init_102 kz) ?_
  refine WQ.st (fun _ _ kz => pw_bipush (v := 41) dX11_init_103 (by decide) kz) ?_
  refine WQ.st (fun _ _ kz => pw_nai (t := 70) (n := 41) dX11_init_105 rfl (by decide) kz) ?_
  refine WQ.st (fun _ _ kz => pw_putr (pX11_66 _ rfl rfl) dX11_init_107 (by (repeat rw [pm_up_ne (by decide)]); exact hS) kz) ?_
  refine WQ.st (fun _ _ kz => pw_iconst (v := 0) dX11_init_110 (by decide) kz) ?_
  refine WQ.st (fun _ _ kz => pw_istore1 dX11_init_111 (by decide) (k := kz)) ?_
  refine WQ.st (fun _ _ kz => pw_iload1 dX11_init_112 kz) ?_
  refine WQ.st (fun _ _ kz => pw_iconst (v := 2) dX11_init_113 (by decide) kz) ?_
  refine WQ.br (fun _ _ ka kb => pw_icmp_ge (tgt := 136) dX11_init_114 (by decide) ka kb) (fun c114 => absurd c114 (by decide)) (fun c114 => ?_)
  refine WQ.st (fun _ _ kz => pw_aload0 dX11_init_117 kz) ?_
  refine WQ.st (fun _ _ kz => pw_getr (b := 67) gX11_52 dX11_init_118 (by (repeat rw [pm_up_ne (by decide)]); exact hS) rfl kz) ?_
  refine WQ.st (fun _ _ kz => pw_iload1 dX11_init_121 kz) ?_
  refine WQ.st (fun _ _ kz => pw_nao (t := 71) nX11_32 (by decide) (by decide +kernel) dX11_init_122 kz) ?_
  refine WQ.st (fun _ _ kz => pw_dup dX11_init_125 rfl kz) ?_
  refine wq_n0 wX8_init lX11_34 dX11_init_126 (k_jState (a := 71) (t := 72) rfl (by decide)) rfl (Nat.le_of_ble_eq_true rfl) (Nat.le_of_ble_eq_true rfl) (fun h126 z126 => ?_)
  subst z126
  refine WQ.st (fun _ _ kz => pw_qst (j := 0) dX11_init_129 rfl (by decide) rfl rfl (fun _ => rfl) (by decide) (by decide) kz) ?_
  refine WQ.st (fun _ _ kz => pw_iinc1 (v := 1) dX11_init_130 (by decide) (by decide) (k := kz)) ?_
  refine WQ.st (fun _ _ kz => pw_goto (tgt := 112) dX11_init_133 (by decide) kz) ?_
  refine WQ.st (fun _ _ kz => pw_iload1 dX11_init_112 kz) ?_
  refine WQ.st (fun _ _ kz => pw_iconst (v := 2) dX11_init_113 (by decide) kz) ?_
  refine WQ.br (fun _ _ ka kb => pw_icmp_ge (tgt := 136) dX11_init_114 (by decide) ka kb) (fun c114 => absurd c114 (by decide)) (fun c114 => ?_)
  refine WQ.st (fun _ _ kz => pw_aload0 dX11_init_117 kz) ?_
  refine WQ.st (fun _ _ kz => pw_getr (b := 67) gX11_52 dX11_init_118 (by (repeat rw [pm_up_ne (by decide)]); exact hS) rfl kz) ?_
  refine WQ.st (fun _ _ kz => pw_iload1 dX11_init_121 kz) ?_
  refine WQ.st (fun _ _ kz => pw_nao (t := 75) nX11_32 (by decide) (by decide +kernel) dX11_init_122 kz) ?_
  refine WQ.st (fun _ _ kz => pw_dup dX11_init_125 rfl kz) ?_
  refine wq_n0 wX8_init lX11_34 dX11_init_126 (k_jState (a := 75) (t := 76) rfl (by decide)) rfl (Nat.le_of_ble_eq_true rfl) (Nat.le_of_ble_eq_true rfl) (fun h126 z126 => ?_)
  subst z126
  refine WQ.st (fun _ _ kz => pw_qst (j := 1) dX11_init_129 rfl (by decide) rfl rfl (fun _ => rfl) (by decide) (by decide) kz) ?_
  refine WQ.st (fun _ _ kz => pw_iinc1 (v := 1) dX11_init_130 (by decide) (by decide) (k := kz)) ?_
  refine WQ.st (fun _ _ kz => pw_goto (tgt := 112) dX11_init_133 (by decide) kz) ?_
  refine WQ.st (fun _ _ kz => pw_iload1 dX11_init_112 kz) ?_
  refine WQ.st (fun _ _ kz => pw_iconst (v := 2) dX11_init_113 (by decide) kz) ?_
  refine WQ.br (fun _ _ ka kb => pw_icmp_ge (tgt := 136) dX11_init_114 (by decide) ka kb) (fun c114 => ?_) (fun c114 => absurd (by decide) c114)
  refine WQ.st (fun _ _ kz => pw_iconst (v := 0) dX11_init_136 (by decide) kz) ?_
  refine WQ.st (fun _ _ kz => pw_istore1 dX11_init_137 (by decide) (k := kz)) ?_
  refine WQ.st (fun _ _ kz => pw_iload1 dX11_init_138 kz) ?_
  refine WQ.st (fun _ _ kz => pw_iconst (v := 4) dX11_init_139 (by decide) kz) ?_
  refine WQ.br (fun _ _ ka kb => pw_icmp_ge (tgt := 162) dX11_init_140 (by decide) ka kb) (fun c140 => absurd c140 (by decide)) (fun c140 => ?_)
  refine WQ.st (fun _ _ kz => pw_aload0 dX11_init_143 kz) ?_
  refine WQ.st (fun _ _ kz => pw_getr (b := 68) gX11_58 dX11_init_144 (by (repeat rw [pm_up_ne (by decide)]); exact hS) rfl kz) ?_
  refine WQ.st (fun _ _ kz => pw_iload1 dX11_init_147 kz) ?_
  refine WQ.st (fun _ _ kz => pw_nao (t := 79) nX11_56 (by decide) (by decide +kernel) dX11_init_148 kz) ?_
  refine WQ.st (fun _ _ kz => pw_dup dX11_init_151 rfl kz) ?_
  refine wq_n0 wX9_init lX11_69 dX11_init_152 (k_jTray (a := 79) (t := 80) rfl (by decide)) rfl (Nat.le_of_ble_eq_true rfl) (Nat.le_of_ble_eq_true rfl) (fun h152 z152 => ?_)
  subst z152
  refine WQ.st (fun _ _ kz => pw_qst (j := 0) dX11_init_155 rfl (by decide) rfl rfl (fun _ => rfl) (by decide) (by decide) kz) ?_
  refine WQ.st (fun _ _ kz => pw_iinc1 (v := 1) dX11_init_156 (by decide) (by decide) (k := kz)) ?_
  refine WQ.st (fun _ _ kz => pw_goto (tgt := 138) dX11_init_159 (by decide) kz) ?_
  refine WQ.st (fun _ _ kz => pw_iload1 dX11_init_138 kz) ?_
  refine WQ.st (fun _ _ kz => pw_iconst (v := 4) dX11_init_139 (by decide) kz) ?_
  refine WQ.br (fun _ _ ka kb => pw_icmp_ge (tgt := 162) dX11_init_140 (by decide) ka kb) (fun c140 => absurd c140 (by decide)) (fun c140 => ?_)
  refine WQ.st (fun _ _ kz => pw_aload0 dX11_init_143 kz) ?_
  refine WQ.st (fun _ _ kz => pw_getr (b := 68) gX11_58 dX11_init_144 (by (repeat rw [pm_up_ne (by decide)]); exact hS) rfl kz) ?_
  refine WQ.st (fun _ _ kz => pw_iload1 dX11_init_147 kz) ?_
  refine WQ.st (fun _ _ kz => pw_nao (t := 81) nX11_56 (by decide) (by decide +kernel) dX11_init_148 kz) ?_
  refine WQ.st (fun _ _ kz => pw_dup dX11_init_151 rfl kz) ?_
  refine wq_n0 wX9_init lX11_69 dX11_init_152 (k_jTray (a := 81) (t := 82) rfl (by decide)) rfl (Nat.le_of_ble_eq_true rfl) (Nat.le_of_ble_eq_true rfl) (fun h152 z152 => ?_)
  subst z152
  refine WQ.st (fun _ _ kz => pw_qst (j := 1) dX11_init_155 rfl (by decide) rfl rfl (fun _ => rfl) (by decide) (by decide) kz) ?_
  refine WQ.st (fun _ _ kz => pw_iinc1 (v := 1) dX11_init_156 (by decide) (by decide) (k := kz)) ?_
  refine WQ.st (fun _ _ kz => pw_goto (tgt := 138) dX11_init_159 (by decide) kz) ?_
  refine WQ.st (fun _ _ kz => pw_iload1 dX11_init_138 kz) ?_
  refine WQ.st (fun _ _ kz => pw_iconst (v := 4) dX11_init_139 (by decide) kz) ?_
  refine WQ.br (fun _ _ ka kb => pw_icmp_ge (tgt := 162) dX11_init_140 (by decide) ka kb) (fun c140 => absurd c140 (by decide)) (fun c140 => ?_)
  refine WQ.st (fun _ _ kz => pw_aload0 dX11_init_143 kz) ?_
  refine WQ.st (fun _ _ kz => pw_getr (b := 68) gX11_58 dX11_init_144 (by (repeat rw [pm_up_ne (by decide)]); exact hS) rfl kz) ?_
  refine WQ.st (fun _ _ kz => pw_iload1 dX11_init_147 kz) ?_
  refine WQ.st (fun _ _ kz => pw_nao (t := 83) nX11_56 (by decide) (by decide +kernel) dX11_init_148 kz) ?_
  refine WQ.st (fun _ _ kz => pw_dup dX11_init_151 rfl kz) ?_
  refine wq_n0 wX9_init lX11_69 dX11_init_152 (k_jTray (a := 83) (t := 84) rfl (by decide)) rfl (Nat.le_of_ble_eq_true rfl) (Nat.le_of_ble_eq_true rfl) (fun h152 z152 => ?_)
  subst z152
  refine WQ.st (fun _ _ kz => pw_qst (j := 2) dX11_init_155 rfl (by decide) rfl rfl (fun _ => rfl) (by decide) (by decide) kz) ?_
  refine WQ.st (fun _ _ kz => pw_iinc1 (v := 1) dX11_init_156 (by decide) (by decide) (k := kz)) ?_
  refine WQ.st (fun _ _ kz => pw_goto (tgt := 138) dX11_init_159 (by decide) kz) ?_
  refine WQ.st (fun _ _ kz => pw_iload1 dX11_init_138 kz) ?_
  refine WQ.st (fun _ _ kz => pw_iconst (v := 4) dX11_init_139 (by decide) kz) ?_
  refine WQ.br (fun _ _ ka kb => pw_icmp_ge (tgt := 162) dX11_init_140 (by decide) ka kb) (fun c140 => absurd c140 (by decide)) (fun c140 => ?_)
  refine WQ.st (fun _ _ kz => pw_aload0 dX11_init_143 kz) ?_
  refine WQ.st (fun _ _ kz => pw_getr (b := 68) gX11_58 dX11_init_144 (by (repeat rw [pm_up_ne (by decide)]); exact hS) rfl kz) ?_
  refine WQ.st (fun _ _ kz => pw_iload1 dX11_init_147 kz) ?_
  refine WQ.st (fun _ _ kz => pw_nao (t := 85) nX11_56 (by decide) (by decide +kernel) dX11_init_148 kz) ?_
  refine WQ.st (fun _ _ kz => pw_dup dX11_init_151 rfl kz) ?_
  refine wq_n0 wX9_init lX11_69 dX11_init_152 (k_jTray (a := 85) (t := 86) rfl (by decide)) rfl (Nat.le_of_ble_eq_true rfl) (Nat.le_of_ble_eq_true rfl) (fun h152 z152 => ?_)
  subst z152
  refine WQ.st (fun _ _ kz => pw_qst (j := 3) dX11_init_155 rfl (by decide) rfl rfl (fun _ => rfl) (by decide) (by decide) kz) ?_
  refine WQ.st (fun _ _ kz => pw_iinc1 (v := 1) dX11_init_156 (by decide) (by decide) (k := kz)) ?_
  refine WQ.st (fun _ _ kz => pw_goto (tgt := 138) dX11_init_159 (by decide) kz) ?_
  refine WQ.st (fun _ _ kz => pw_iload1 dX11_init_138 kz) ?_
  refine WQ.st (fun _ _ kz => pw_iconst (v := 4) dX11_init_139 (by decide) kz) ?_
  refine WQ.br (fun _ _ ka kb => pw_icmp_ge (tgt := 162) dX11_init_140 (by decide) ka kb) (fun c140 => ?_) (fun c140 => absurd (by decide) c140)
  refine WQ.st (fun _ _ kz => pw_aload0 dX11_init_162 kz) ?_
  refine WQ.st (fun _ _ kz => pw_nao (t := 87) nX11_26 (by decide) (by decide +kernel) dX11_init_163 kz) ?_
  refine WQ.st (fun _ _ kz => pw_dup dX11_init_166 rfl kz) ?_
  refine wq_n0 wX7_init lX11_70 dX11_init_167 (k_jSheet rfl) rfl (Nat.le_of_ble_eq_true rfl) (Nat.le_of_ble_eq_true rfl) (fun h167 z167 => ?_)
  subst z167
  refine WQ.st (fun _ _ kz => pw_putr (pX11_71 _ rfl) dX11_init_170 (by (repeat rw [pm_up_ne (by decide)]); exact hS) kz) ?_
  refine WQ.st (fun _ _ kz => pw_aload0 dX11_init_173 kz) ?_
  refine WQ.st (fun _ _ kz => pw_getr (b := 15) gX11_28 dX11_init_174 (by (repeat rw [pm_up_ne (by decide)]); exact hS) rfl kz) ?_
  refine WQ.st (fun _ _ kz => pw_iconst (v := 0) dX11_init_177 (by decide) kz) ?_
  refine WQ.st (fun _ _ kz => pw_aload0 dX11_init_178 kz) ?_
  refine WQ.st (fun _ _ kz => pw_getr (b := 87) gX11_71 dX11_init_179 (by (repeat rw [pm_up_ne (by decide)]); exact hS) rfl kz) ?_
  refine WQ.st (fun _ _ kz => pw_qst (j := 0) dX11_init_182 rfl (by decide) rfl rfl (fun _ => rfl) (by decide) (by decide) kz) ?_
  refine WQ.st (fun _ _ kz => pw_aload0 dX11_init_183 kz) ?_
  refine WQ.st (fun _ _ kz => pw_nao (t := 96) nX11_75 (by decide) (by decide +kernel) dX11_init_184 kz) ?_
  refine WQ.st (fun _ _ kz => pw_dup dX11_init_187 rfl kz) ?_
  refine WQ.st (fun _ _ kz => pw_aload0 dX11_init_188 kz) ?_
  refine WQ.st (fun _ _ kz => pw_getr (b := 87) gX11_71 dX11_init_189 (by (repeat rw [pm_up_ne (by decide)]); exact hS) rfl kz) ?_
  refine wq_n1 wX0_init lX11_77 dX11_init_192 (k_jBars rfl) rfl (Nat.le_of_ble_eq_true rfl) (Nat.le_of_ble_eq_true rfl) (fun h192 z192 => ?_)
  subst z192
  refine WQ.st (fun _ _ kz => pw_putr (pX11_80 _ rfl rfl) dX11_init_195 (by (repeat rw [pm_up_ne (by decide)]); exact hS) kz) ?_
  refine WQ.st (fun _ _ kz => pw_aload0 dX11_init_198 kz) ?_
  refine WQ.st (fun _ _ kz => pw_nao (t := 103) nX11_84 (by decide) (by decide +kernel) dX11_init_199 kz) ?_
  refine WQ.st (fun _ _ kz => pw_dup dX11_init_202 rfl kz) ?_
  refine WQ.st (fun _ _ kz => pw_aload0 dX11_init_203 kz) ?_
  refine WQ.st (fun _ _ kz => pw_getr (b := 96) gX11_80 dX11_init_204 (by (repeat rw [pm_up_ne (by decide)]); exact hS) rfl kz) ?_
  refine wq_n1 wX1_init lX11_86 dX11_init_207 (k_jCourse rfl) rfl (Nat.le_of_ble_eq_true rfl) (Nat.le_of_ble_eq_true rfl) (fun h207 z207 => ?_)
  subst z207
  refine WQ.st (fun _ _ kz => pw_putr (pX11_89 _ rfl rfl) dX11_init_210 (by (repeat rw [pm_up_ne (by decide)]); exact hS) kz) ?_
  refine WQ.st (fun _ _ kz => pw_aload0 dX11_init_213 kz) ?_
  refine WQ.st (fun _ _ kz => pw_nao (t := 107) nX11_93 (by decide) (by decide +kernel) dX11_init_214 kz) ?_
  refine WQ.st (fun _ _ kz => pw_dup dX11_init_217 rfl kz) ?_
  refine WQ.st (fun _ _ kz => pw_aload0 dX11_init_218 kz) ?_
  refine WQ.st (fun _ _ kz => pw_getr (b := 96) gX11_80 dX11_init_219 (by (repeat rw [pm_up_ne (by decide)]); exact hS) rfl kz) ?_
  refine wq_n1 wX10_init lX11_95 dX11_init_222 (k_jWays rfl) rfl (Nat.le_of_ble_eq_true rfl) (Nat.le_of_ble_eq_true rfl) (fun h222 z222 => ?_)
  subst z222
  refine WQ.st (fun _ _ kz => pw_putr (pX11_96 _ rfl rfl) dX11_init_225 (by (repeat rw [pm_up_ne (by decide)]); exact hS) kz) ?_
  refine WQ.st (fun _ _ kz => pw_aload0 dX11_init_228 kz) ?_
  refine WQ.st (fun _ _ kz => pw_nao (t := 116) nX11_100 (by decide) (by decide +kernel) dX11_init_229 kz) ?_
  refine WQ.st (fun _ _ kz => pw_dup dX11_init_232 rfl kz) ?_
  refine WQ.st (fun _ _ kz => pw_aload0 dX11_init_233 kz) ?_
  refine WQ.st (fun _ _ kz => pw_getr (b := 96) gX11_80 dX11_init_234 (by (repeat rw [pm_up_ne (by decide)]); exact hS) rfl kz) ?_
  refine WQ.st (fun _ _ kz => pw_aload0 dX11_init_237 kz) ?_
  refine WQ.st (fun _ _ kz => pw_getr (b := 107) gX11_96 dX11_init_238 (by (repeat rw [pm_up_ne (by decide)]); exact hS) rfl kz) ?_
  refine wq_n2 wX5_init lX11_102 dX11_init_241 (k_jOrders rfl) rfl (Nat.le_of_ble_eq_true rfl) (Nat.le_of_ble_eq_true rfl) (fun h241 z241 => ?_)
  subst z241
  refine WQ.st (fun _ _ kz => pw_putr (pX11_105 _ rfl rfl) dX11_init_244 (by (repeat rw [pm_up_ne (by decide)]); exact hS) kz) ?_
  refine WQ.st (fun _ _ kz => pw_aload0 dX11_init_247 kz) ?_
  refine WQ.st (fun _ _ kz => pw_nao (t := 137) nX11_109 (by decide) (by decide +kernel) dX11_init_248 kz) ?_
  refine WQ.st (fun _ _ kz => pw_dup dX11_init_251 rfl kz) ?_
  refine WQ.st (fun _ _ kz => pw_aload0 dX11_init_252 kz) ?_
  refine WQ.st (fun _ _ kz => pw_getr (b := 96) gX11_80 dX11_init_253 (by (repeat rw [pm_up_ne (by decide)]); exact hS) rfl kz) ?_
  refine WQ.st (fun _ _ kz => pw_aload0 dX11_init_256 kz) ?_
  refine WQ.st (fun _ _ kz => pw_getr (b := 103) gX11_89 dX11_init_257 (by (repeat rw [pm_up_ne (by decide)]); exact hS) rfl kz) ?_
  refine WQ.st (fun _ _ kz => pw_aload0 dX11_init_260 kz) ?_
  refine WQ.st (fun _ _ kz => pw_getr (b := 107) gX11_96 dX11_init_261 (by (repeat rw [pm_up_ne (by decide)]); exact hS) rfl kz) ?_
  refine wq_n3 wX2_init lX11_111 dX11_init_264 (k_jDeeds rfl) rfl (Nat.le_of_ble_eq_true rfl) (Nat.le_of_ble_eq_true rfl) (fun h264 z264 => ?_)
  subst z264
  refine WQ.st (fun _ _ kz => pw_putr (pX11_114 _ rfl rfl) dX11_init_267 (by (repeat rw [pm_up_ne (by decide)]); exact hS) kz) ?_
  refine ⟨_, _, pw_vret dX11_init_270 rfl rfl rfl, ?_⟩
  exact ⟨rfl, rfl⟩
