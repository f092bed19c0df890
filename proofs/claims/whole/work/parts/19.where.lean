/-! ===== where all stands ===== -/
def at_C (sh : Nat → Nat × Nat) (rr : Nat → Nat → Nat) : Prop := sh 5 = (10 + 1, 0) ∧ rr 5 0 = 6 ∧ rr 5 1 = 13 ∧ rr 5 2 = 19 ∧ rr 5 3 = 22 ∧ rr 5 4 = 25 ∧ rr 5 5 = 35 ∧ sh 35 = (104, 3) ∧ rr 5 6 = 36 ∧ sh 36 = (105, 3) ∧ rr 5 7 = 37 ∧ sh 37 = (100, 7) ∧ at_Board sh rr 6 ∧ at_Rule sh rr 13 ∧ at_Shapes sh rr 19 ∧ at_Letters sh rr 22 ∧ sh 25 = (2 + 1, 0) ∧ rr 25 4 = 26 ∧ rr 25 5 = 32 ∧ at_Rule sh rr 26 ∧ at_Shapes sh rr 32 ∧ rr 35 0 = 38 ∧ rr 35 1 = 42 ∧ rr 35 2 = 46 ∧ rr 36 0 = 40 ∧ rr 36 1 = 44 ∧ rr 36 2 = 48 ∧ at_Rack sh rr 38 ∧ at_Rack sh rr 42 ∧ at_Rack sh rr 46 ∧ at_Numbers sh rr 40 ∧ at_Numbers sh rr 44 ∧ at_Numbers sh rr 48
theorem at_C.hs {sh : Nat → Nat × Nat} {rr : Nat → Nat → Nat} (H : at_C sh rr) : sh 5 = (10 + 1, 0) := H.1
theorem at_C.p5_0 {sh : Nat → Nat × Nat} {rr : Nat → Nat → Nat} (H : at_C sh rr) : rr 5 0 = 6 := H.2.1
theorem at_C.p5_1 {sh : Nat → Nat × Nat} {rr : Nat → Nat → Nat} (H : at_C sh rr) : rr 5 1 = 13 := H.2.2.1
theorem at_C.p5_2 {sh : Nat → Nat × Nat} {rr : Nat → Nat → Nat} (H : at_C sh rr) : rr 5 2 = 19 := H.2.2.2.1
theorem at_C.p5_3 {sh : Nat → Nat × Nat} {rr : Nat → Nat → Nat} (H : at_C sh rr) : rr 5 3 = 22 := H.2.2.2.2.1
theorem at_C.p5_4 {sh : Nat → Nat × Nat} {rr : Nat → Nat → Nat} (H : at_C sh rr) : rr 5 4 = 25 := H.2.2.2.2.2.1
theorem at_C.p5_5 {sh : Nat → Nat × Nat} {rr : Nat → Nat → Nat} (H : at_C sh rr) : rr 5 5 = 35 := H.2.2.2.2.2.2.1
theorem at_C.s35 {sh : Nat → Nat × Nat} {rr : Nat → Nat → Nat} (H : at_C sh rr) : sh 35 = (104, 3) := H.2.2.2.2.2.2.2.1
theorem at_C.p5_6 {sh : Nat → Nat × Nat} {rr : Nat → Nat → Nat} (H : at_C sh rr) : rr 5 6 = 36 := H.2.2.2.2.2.2.2.2.1
theorem at_C.s36 {sh : Nat → Nat × Nat} {rr : Nat → Nat → Nat} (H : at_C sh rr) : sh 36 = (105, 3) := H.2.2.2.2.2.2.2.2.2.1
theorem at_C.p5_7 {sh : Nat → Nat × Nat} {rr : Nat → Nat → Nat} (H : at_C sh rr) : rr 5 7 = 37 := H.2.2.2.2.2.2.2.2.2.2.1
theorem at_C.s37 {sh : Nat → Nat × Nat} {rr : Nat → Nat → Nat} (H : at_C sh rr) : sh 37 = (100, 7) := H.2.2.2.2.2.2.2.2.2.2.2.1
theorem at_C.board {sh : Nat → Nat × Nat} {rr : Nat → Nat → Nat} (H : at_C sh rr) : at_Board sh rr 6 := H.2.2.2.2.2.2.2.2.2.2.2.2.1
theorem at_C.rule {sh : Nat → Nat × Nat} {rr : Nat → Nat → Nat} (H : at_C sh rr) : at_Rule sh rr 13 := H.2.2.2.2.2.2.2.2.2.2.2.2.2.1
theorem at_C.shapes {sh : Nat → Nat × Nat} {rr : Nat → Nat → Nat} (H : at_C sh rr) : at_Shapes sh rr 19 := H.2.2.2.2.2.2.2.2.2.2.2.2.2.2.1
theorem at_C.letters {sh : Nat → Nat × Nat} {rr : Nat → Nat → Nat} (H : at_C sh rr) : at_Letters sh rr 22 := H.2.2.2.2.2.2.2.2.2.2.2.2.2.2.2.1
theorem at_C.s25 {sh : Nat → Nat × Nat} {rr : Nat → Nat → Nat} (H : at_C sh rr) : sh 25 = (2 + 1, 0) := H.2.2.2.2.2.2.2.2.2.2.2.2.2.2.2.2.1
theorem at_C.p25_4 {sh : Nat → Nat × Nat} {rr : Nat → Nat → Nat} (H : at_C sh rr) : rr 25 4 = 26 := H.2.2.2.2.2.2.2.2.2.2.2.2.2.2.2.2.2.1
theorem at_C.p25_5 {sh : Nat → Nat × Nat} {rr : Nat → Nat → Nat} (H : at_C sh rr) : rr 25 5 = 32 := H.2.2.2.2.2.2.2.2.2.2.2.2.2.2.2.2.2.2.1
theorem at_C.irule {sh : Nat → Nat × Nat} {rr : Nat → Nat → Nat} (H : at_C sh rr) : at_Rule sh rr 26 := H.2.2.2.2.2.2.2.2.2.2.2.2.2.2.2.2.2.2.2.1
theorem at_C.ishapes {sh : Nat → Nat × Nat} {rr : Nat → Nat → Nat} (H : at_C sh rr) : at_Shapes sh rr 32 := H.2.2.2.2.2.2.2.2.2.2.2.2.2.2.2.2.2.2.2.2.1
theorem at_C.p35_0 {sh : Nat → Nat × Nat} {rr : Nat → Nat → Nat} (H : at_C sh rr) : rr 35 0 = 38 := H.2.2.2.2.2.2.2.2.2.2.2.2.2.2.2.2.2.2.2.2.2.1
theorem at_C.p35_1 {sh : Nat → Nat × Nat} {rr : Nat → Nat → Nat} (H : at_C sh rr) : rr 35 1 = 42 := H.2.2.2.2.2.2.2.2.2.2.2.2.2.2.2.2.2.2.2.2.2.2.1
theorem at_C.p35_2 {sh : Nat → Nat × Nat} {rr : Nat → Nat → Nat} (H : at_C sh rr) : rr 35 2 = 46 := H.2.2.2.2.2.2.2.2.2.2.2.2.2.2.2.2.2.2.2.2.2.2.2.1
theorem at_C.p36_0 {sh : Nat → Nat × Nat} {rr : Nat → Nat → Nat} (H : at_C sh rr) : rr 36 0 = 40 := H.2.2.2.2.2.2.2.2.2.2.2.2.2.2.2.2.2.2.2.2.2.2.2.2.1
theorem at_C.p36_1 {sh : Nat → Nat × Nat} {rr : Nat → Nat → Nat} (H : at_C sh rr) : rr 36 1 = 44 := H.2.2.2.2.2.2.2.2.2.2.2.2.2.2.2.2.2.2.2.2.2.2.2.2.2.1
theorem at_C.p36_2 {sh : Nat → Nat × Nat} {rr : Nat → Nat → Nat} (H : at_C sh rr) : rr 36 2 = 48 := H.2.2.2.2.2.2.2.2.2.2.2.2.2.2.2.2.2.2.2.2.2.2.2.2.2.2.1
theorem at_C.rack0 {sh : Nat → Nat × Nat} {rr : Nat → Nat → Nat} (H : at_C sh rr) : at_Rack sh rr 38 := H.2.2.2.2.2.2.2.2.2.2.2.2.2.2.2.2.2.2.2.2.2.2.2.2.2.2.2.1
theorem at_C.rack1 {sh : Nat → Nat × Nat} {rr : Nat → Nat → Nat} (H : at_C sh rr) : at_Rack sh rr 42 := H.2.2.2.2.2.2.2.2.2.2.2.2.2.2.2.2.2.2.2.2.2.2.2.2.2.2.2.2.1
theorem at_C.rack2 {sh : Nat → Nat × Nat} {rr : Nat → Nat → Nat} (H : at_C sh rr) : at_Rack sh rr 46 := H.2.2.2.2.2.2.2.2.2.2.2.2.2.2.2.2.2.2.2.2.2.2.2.2.2.2.2.2.2.1
theorem at_C.list0 {sh : Nat → Nat × Nat} {rr : Nat → Nat → Nat} (H : at_C sh rr) : at_Numbers sh rr 40 := H.2.2.2.2.2.2.2.2.2.2.2.2.2.2.2.2.2.2.2.2.2.2.2.2.2.2.2.2.2.2.1
theorem at_C.list1 {sh : Nat → Nat × Nat} {rr : Nat → Nat → Nat} (H : at_C sh rr) : at_Numbers sh rr 44 := H.2.2.2.2.2.2.2.2.2.2.2.2.2.2.2.2.2.2.2.2.2.2.2.2.2.2.2.2.2.2.2.1
theorem at_C.list2 {sh : Nat → Nat × Nat} {rr : Nat → Nat → Nat} (H : at_C sh rr) : at_Numbers sh rr 48 := H.2.2.2.2.2.2.2.2.2.2.2.2.2.2.2.2.2.2.2.2.2.2.2.2.2.2.2.2.2.2.2.2
theorem at_C.fr {S : List Nat} {h h1 : ab_H} (f : ab_fr S h h1) (H : at_C (ab_sh h) (ab_r h)) : at_C (ab_sh h1) (ab_r h1) := by rw [f.2.1, f.2.2.1]; exact H
def at_M (sh : Nat → Nat × Nat) (rr : Nat → Nat → Nat) : Prop := sh 50 = (11 + 1, 0) ∧ rr 50 0 = 51 ∧ sh 51 = (100, 8) ∧ rr 50 5 = 52 ∧ sh 52 = (100, 256) ∧ rr 50 6 = 53 ∧ sh 53 = (100, 88) ∧ rr 50 7 = 54 ∧ sh 54 = (100, 88) ∧ rr 50 8 = 55 ∧ sh 55 = (100, 88) ∧ rr 50 9 = 56 ∧ sh 56 = (100, 88) ∧ rr 50 10 = 57 ∧ sh 57 = (100, 16) ∧ rr 50 11 = 58 ∧ sh 58 = (101, 4) ∧ rr 50 12 = 59 ∧ sh 59 = (101, 4) ∧ rr 50 13 = 60 ∧ sh 60 = (100, 16) ∧ rr 50 14 = 61 ∧ sh 61 = (100, 16) ∧ rr 50 16 = 62 ∧ sh 62 = (100, 40) ∧ rr 50 18 = 63 ∧ sh 63 = (100, 10) ∧ rr 50 19 = 64 ∧ sh 64 = (100, 30) ∧ rr 50 22 = 65 ∧ sh 65 = (100, 3) ∧ rr 50 23 = 66 ∧ sh 66 = (100, 3) ∧ rr 50 24 = 67 ∧ sh 67 = (100, 27) ∧ rr 50 25 = 68 ∧ sh 68 = (100, 27) ∧ rr 50 26 = 69 ∧ sh 69 = (100, 3) ∧ rr 50 27 = 70 ∧ sh 70 = (100, 120) ∧ rr 50 28 = 71 ∧ sh 71 = (100, 72) ∧ rr 50 31 = 72 ∧ sh 72 = (100, 5) ∧ rr 50 32 = 73 ∧ sh 73 = (100, 16) ∧ rr 50 39 = 74 ∧ sh 74 = (100, 16) ∧ rr 50 40 = 75 ∧ sh 75 = (100, 40) ∧ rr 50 41 = 76 ∧ sh 76 = (100, 10) ∧ rr 50 42 = 77 ∧ sh 77 = (100, 30)
theorem at_M.hs {sh : Nat → Nat × Nat} {rr : Nat → Nat → Nat} (H : at_M sh rr) : sh 50 = (11 + 1, 0) := H.1
theorem at_M.p50_0 {sh : Nat → Nat × Nat} {rr : Nat → Nat → Nat} (H : at_M sh rr) : rr 50 0 = 51 := H.2.1
theorem at_M.s51 {sh : Nat → Nat × Nat} {rr : Nat → Nat → Nat} (H : at_M sh rr) : sh 51 = (100, 8) := H.2.2.1
theorem at_M.p50_5 {sh : Nat → Nat × Nat} {rr : Nat → Nat → Nat} (H : at_M sh rr) : rr 50 5 = 52 := H.2.2.2.1
theorem at_M.s52 {sh : Nat → Nat × Nat} {rr : Nat → Nat → Nat} (H : at_M sh rr) : sh 52 = (100, 256) := H.2.2.2.2.1
theorem at_M.p50_6 {sh : Nat → Nat × Nat} {rr : Nat → Nat → Nat} (H : at_M sh rr) : rr 50 6 = 53 := H.2.2.2.2.2.1
theorem at_M.s53 {sh : Nat → Nat × Nat} {rr : Nat → Nat → Nat} (H : at_M sh rr) : sh 53 = (100, 88) := H.2.2.2.2.2.2.1
theorem at_M.p50_7 {sh : Nat → Nat × Nat} {rr : Nat → Nat → Nat} (H : at_M sh rr) : rr 50 7 = 54 := H.2.2.2.2.2.2.2.1
theorem at_M.s54 {sh : Nat → Nat × Nat} {rr : Nat → Nat → Nat} (H : at_M sh rr) : sh 54 = (100, 88) := H.2.2.2.2.2.2.2.2.1
theorem at_M.p50_8 {sh : Nat → Nat × Nat} {rr : Nat → Nat → Nat} (H : at_M sh rr) : rr 50 8 = 55 := H.2.2.2.2.2.2.2.2.2.1
theorem at_M.s55 {sh : Nat → Nat × Nat} {rr : Nat → Nat → Nat} (H : at_M sh rr) : sh 55 = (100, 88) := H.2.2.2.2.2.2.2.2.2.2.1
theorem at_M.p50_9 {sh : Nat → Nat × Nat} {rr : Nat → Nat → Nat} (H : at_M sh rr) : rr 50 9 = 56 := H.2.2.2.2.2.2.2.2.2.2.2.1
theorem at_M.s56 {sh : Nat → Nat × Nat} {rr : Nat → Nat → Nat} (H : at_M sh rr) : sh 56 = (100, 88) := H.2.2.2.2.2.2.2.2.2.2.2.2.1
theorem at_M.p50_10 {sh : Nat → Nat × Nat} {rr : Nat → Nat → Nat} (H : at_M sh rr) : rr 50 10 = 57 := H.2.2.2.2.2.2.2.2.2.2.2.2.2.1
theorem at_M.s57 {sh : Nat → Nat × Nat} {rr : Nat → Nat → Nat} (H : at_M sh rr) : sh 57 = (100, 16) := H.2.2.2.2.2.2.2.2.2.2.2.2.2.2.1
theorem at_M.p50_11 {sh : Nat → Nat × Nat} {rr : Nat → Nat → Nat} (H : at_M sh rr) : rr 50 11 = 58 := H.2.2.2.2.2.2.2.2.2.2.2.2.2.2.2.1
theorem at_M.s58 {sh : Nat → Nat × Nat} {rr : Nat → Nat → Nat} (H : at_M sh rr) : sh 58 = (101, 4) := H.2.2.2.2.2.2.2.2.2.2.2.2.2.2.2.2.1
theorem at_M.p50_12 {sh : Nat → Nat × Nat} {rr : Nat → Nat → Nat} (H : at_M sh rr) : rr 50 12 = 59 := H.2.2.2.2.2.2.2.2.2.2.2.2.2.2.2.2.2.1
theorem at_M.s59 {sh : Nat → Nat × Nat} {rr : Nat → Nat → Nat} (H : at_M sh rr) : sh 59 = (101, 4) := H.2.2.2.2.2.2.2.2.2.2.2.2.2.2.2.2.2.2.1
theorem at_M.p50_13 {sh : Nat → Nat × Nat} {rr : Nat → Nat → Nat} (H : at_M sh rr) : rr 50 13 = 60 := H.2.2.2.2.2.2.2.2.2.2.2.2.2.2.2.2.2.2.2.1
theorem at_M.s60 {sh : Nat → Nat × Nat} {rr : Nat → Nat → Nat} (H : at_M sh rr) : sh 60 = (100, 16) := H.2.2.2.2.2.2.2.2.2.2.2.2.2.2.2.2.2.2.2.2.1
theorem at_M.p50_14 {sh : Nat → Nat × Nat} {rr : Nat → Nat → Nat} (H : at_M sh rr) : rr 50 14 = 61 := H.2.2.2.2.2.2.2.2.2.2.2.2.2.2.2.2.2.2.2.2.2.1
theorem at_M.s61 {sh : Nat → Nat × Nat} {rr : Nat → Nat → Nat} (H : at_M sh rr) : sh 61 = (100, 16) := H.2.2.2.2.2.2.2.2.2.2.2.2.2.2.2.2.2.2.2.2.2.2.1
theorem at_M.p50_16 {sh : Nat → Nat × Nat} {rr : Nat → Nat → Nat} (H : at_M sh rr) : rr 50 16 = 62 := H.2.2.2.2.2.2.2.2.2.2.2.2.2.2.2.2.2.2.2.2.2.2.2.1
theorem at_M.s62 {sh : Nat → Nat × Nat} {rr : Nat → Nat → Nat} (H : at_M sh rr) : sh 62 = (100, 40) := H.2.2.2.2.2.2.2.2.2.2.2.2.2.2.2.2.2.2.2.2.2.2.2.2.1
theorem at_M.p50_18 {sh : Nat → Nat × Nat} {rr : Nat → Nat → Nat} (H : at_M sh rr) : rr 50 18 = 63 := H.2.2.2.2.2.2.2.2.2.2.2.2.2.2.2.2.2.2.2.2.2.2.2.2.2.1
theorem at_M.s63 {sh : Nat → Nat × Nat} {rr : Nat → Nat → Nat} (H : at_M sh rr) : sh 63 = (100, 10) := H.2.2.2.2.2.2.2.2.2.2.2.2.2.2.2.2.2.2.2.2.2.2.2.2.2.2.1
theorem at_M.p50_19 {sh : Nat → Nat × Nat} {rr : Nat → Nat → Nat} (H : at_M sh rr) : rr 50 19 = 64 := H.2.2.2.2.2.2.2.2.2.2.2.2.2.2.2.2.2.2.2.2.2.2.2.2.2.2.2.1
theorem at_M.s64 {sh : Nat → Nat × Nat} {rr : Nat → Nat → Nat} (H : at_M sh rr) : sh 64 = (100, 30) := H.2.2.2.2.2.2.2.2.2.2.2.2.2.2.2.2.2.2.2.2.2.2.2.2.2.2.2.2.1
theorem at_M.p50_22 {sh : Nat → Nat × Nat} {rr : Nat → Nat → Nat} (H : at_M sh rr) : rr 50 22 = 65 := H.2.2.2.2.2.2.2.2.2.2.2.2.2.2.2.2.2.2.2.2.2.2.2.2.2.2.2.2.2.1
theorem at_M.s65 {sh : Nat → Nat × Nat} {rr : Nat → Nat → Nat} (H : at_M sh rr) : sh 65 = (100, 3) := H.2.2.2.2.2.2.2.2.2.2.2.2.2.2.2.2.2.2.2.2.2.2.2.2.2.2.2.2.2.2.1
theorem at_M.p50_23 {sh : Nat → Nat × Nat} {rr : Nat → Nat → Nat} (H : at_M sh rr) : rr 50 23 = 66 := H.2.2.2.2.2.2.2.2.2.2.2.2.2.2.2.2.2.2.2.2.2.2.2.2.2.2.2.2.2.2.2.1
theorem at_M.s66 {sh : Nat → Nat × Nat} {rr : Nat → Nat → Nat} (H : at_M sh rr) : sh 66 = (100, 3) := H.2.2.2.2.2.2.2.2.2.2.2.2.2.2.2.2.2.2.2.2.2.2.2.2.2.2.2.2.2.2.2.2.1
theorem at_M.p50_24 {sh : Nat → Nat × Nat} {rr : Nat → Nat → Nat} (H : at_M sh rr) : rr 50 24 = 67 := H.2.2.2.2.2.2.2.2.2.2.2.2.2.2.2.2.2.2.2.2.2.2.2.2.2.2.2.2.2.2.2.2.2.1
theorem at_M.s67 {sh : Nat → Nat × Nat} {rr : Nat → Nat → Nat} (H : at_M sh rr) : sh 67 = (100, 27) := H.2.2.2.2.2.2.2.2.2.2.2.2.2.2.2.2.2.2.2.2.2.2.2.2.2.2.2.2.2.2.2.2.2.2.1
theorem at_M.p50_25 {sh : Nat → Nat × Nat} {rr : Nat → Nat → Nat} (H : at_M sh rr) : rr 50 25 = 68 := H.2.2.2.2.2.2.2.2.2.2.2.2.2.2.2.2.2.2.2.2.2.2.2.2.2.2.2.2.2.2.2.2.2.2.2.1
theorem at_M.s68 {sh : Nat → Nat × Nat} {rr : Nat → Nat → Nat} (H : at_M sh rr) : sh 68 = (100, 27) := H.2.2.2.2.2.2.2.2.2.2.2.2.2.2.2.2.2.2.2.2.2.2.2.2.2.2.2.2.2.2.2.2.2.2.2.2.1
theorem at_M.p50_26 {sh : Nat → Nat × Nat} {rr : Nat → Nat → Nat} (H : at_M sh rr) : rr 50 26 = 69 := H.2.2.2.2.2.2.2.2.2.2.2.2.2.2.2.2.2.2.2.2.2.2.2.2.2.2.2.2.2.2.2.2.2.2.2.2.2.1
theorem at_M.s69 {sh : Nat → Nat × Nat} {rr : Nat → Nat → Nat} (H : at_M sh rr) : sh 69 = (100, 3) := H.2.2.2.2.2.2.2.2.2.2.2.2.2.2.2.2.2.2.2.2.2.2.2.2.2.2.2.2.2.2.2.2.2.2.2.2.2.2.1
theorem at_M.p50_27 {sh : Nat → Nat × Nat} {rr : Nat → Nat → Nat} (H : at_M sh rr) : rr 50 27 = 70 := H.2.2.2.2.2.2.2.2.2.2.2.2.2.2.2.2.2.2.2.2.2.2.2.2.2.2.2.2.2.2.2.2.2.2.2.2.2.2.2.1
theorem at_M.s70 {sh : Nat → Nat × Nat} {rr : Nat → Nat → Nat} (H : at_M sh rr) : sh 70 = (100, 120) := H.2.2.2.2.2.2.2.2.2.2.2.2.2.2.2.2.2.2.2.2.2.2.2.2.2.2.2.2.2.2.2.2.2.2.2.2.2.2.2.2.1
theorem at_M.p50_28 {sh : Nat → Nat × Nat} {rr : Nat → Nat → Nat} (H : at_M sh rr) : rr 50 28 = 71 := H.2.2.2.2.2.2.2.2.2.2.2.2.2.2.2.2.2.2.2.2.2.2.2.2.2.2.2.2.2.2.2.2.2.2.2.2.2.2.2.2.2.1
theorem at_M.s71 {sh : Nat → Nat × Nat} {rr : Nat → Nat → Nat} (H : at_M sh rr) : sh 71 = (100, 72) := H.2.2.2.2.2.2.2.2.2.2.2.2.2.2.2.2.2.2.2.2.2.2.2.2.2.2.2.2.2.2.2.2.2.2.2.2.2.2.2.2.2.2.1
theorem at_M.p50_31 {sh : Nat → Nat × Nat} {rr : Nat → Nat → Nat} (H : at_M sh rr) : rr 50 31 = 72 := H.2.2.2.2.2.2.2.2.2.2.2.2.2.2.2.2.2.2.2.2.2.2.2.2.2.2.2.2.2.2.2.2.2.2.2.2.2.2.2.2.2.2.2.1
theorem at_M.s72 {sh : Nat → Nat × Nat} {rr : Nat → Nat → Nat} (H : at_M sh rr) : sh 72 = (100, 5) := H.2.2.2.2.2.2.2.2.2.2.2.2.2.2.2.2.2.2.2.2.2.2.2.2.2.2.2.2.2.2.2.2.2.2.2.2.2.2.2.2.2.2.2.2.1
theorem at_M.p50_32 {sh : Nat → Nat × Nat} {rr : Nat → Nat → Nat} (H : at_M sh rr) : rr 50 32 = 73 := H.2.2.2.2.2.2.2.2.2.2.2.2.2.2.2.2.2.2.2.2.2.2.2.2.2.2.2.2.2.2.2.2.2.2.2.2.2.2.2.2.2.2.2.2.2.1
theorem at_M.s73 {sh : Nat → Nat × Nat} {rr : Nat → Nat → Nat} (H : at_M sh rr) : sh 73 = (100, 16) := H.2.2.2.2.2.2.2.2.2.2.2.2.2.2.2.2.2.2.2.2.2.2.2.2.2.2.2.2.2.2.2.2.2.2.2.2.2.2.2.2.2.2.2.2.2.2.1
theorem at_M.p50_39 {sh : Nat → Nat × Nat} {rr : Nat → Nat → Nat} (H : at_M sh rr) : rr 50 39 = 74 := H.2.2.2.2.2.2.2.2.2.2.2.2.2.2.2.2.2.2.2.2.2.2.2.2.2.2.2.2.2.2.2.2.2.2.2.2.2.2.2.2.2.2.2.2.2.2.2.1
theorem at_M.s74 {sh : Nat → Nat × Nat} {rr : Nat → Nat → Nat} (H : at_M sh rr) : sh 74 = (100, 16) := H.2.2.2.2.2.2.2.2.2.2.2.2.2.2.2.2.2.2.2.2.2.2.2.2.2.2.2.2.2.2.2.2.2.2.2.2.2.2.2.2.2.2.2.2.2.2.2.2.1
theorem at_M.p50_40 {sh : Nat → Nat × Nat} {rr : Nat → Nat → Nat} (H : at_M sh rr) : rr 50 40 = 75 := H.2.2.2.2.2.2.2.2.2.2.2.2.2.2.2.2.2.2.2.2.2.2.2.2.2.2.2.2.2.2.2.2.2.2.2.2.2.2.2.2.2.2.2.2.2.2.2.2.2.1
theorem at_M.s75 {sh : Nat → Nat × Nat} {rr : Nat → Nat → Nat} (H : at_M sh rr) : sh 75 = (100, 40) := H.2.2.2.2.2.2.2.2.2.2.2.2.2.2.2.2.2.2.2.2.2.2.2.2.2.2.2.2.2.2.2.2.2.2.2.2.2.2.2.2.2.2.2.2.2.2.2.2.2.2.1
theorem at_M.p50_41 {sh : Nat → Nat × Nat} {rr : Nat → Nat → Nat} (H : at_M sh rr) : rr 50 41 = 76 := H.2.2.2.2.2.2.2.2.2.2.2.2.2.2.2.2.2.2.2.2.2.2.2.2.2.2.2.2.2.2.2.2.2.2.2.2.2.2.2.2.2.2.2.2.2.2.2.2.2.2.2.1
theorem at_M.s76 {sh : Nat → Nat × Nat} {rr : Nat → Nat → Nat} (H : at_M sh rr) : sh 76 = (100, 10) := H.2.2.2.2.2.2.2.2.2.2.2.2.2.2.2.2.2.2.2.2.2.2.2.2.2.2.2.2.2.2.2.2.2.2.2.2.2.2.2.2.2.2.2.2.2.2.2.2.2.2.2.2.1
theorem at_M.p50_42 {sh : Nat → Nat × Nat} {rr : Nat → Nat → Nat} (H : at_M sh rr) : rr 50 42 = 77 := H.2.2.2.2.2.2.2.2.2.2.2.2.2.2.2.2.2.2.2.2.2.2.2.2.2.2.2.2.2.2.2.2.2.2.2.2.2.2.2.2.2.2.2.2.2.2.2.2.2.2.2.2.2.1
theorem at_M.s77 {sh : Nat → Nat × Nat} {rr : Nat → Nat → Nat} (H : at_M sh rr) : sh 77 = (100, 30) := H.2.2.2.2.2.2.2.2.2.2.2.2.2.2.2.2.2.2.2.2.2.2.2.2.2.2.2.2.2.2.2.2.2.2.2.2.2.2.2.2.2.2.2.2.2.2.2.2.2.2.2.2.2.2
theorem at_M.fr {S : List Nat} {h h1 : ab_H} (f : ab_fr S h h1) (H : at_M (ab_sh h) (ab_r h)) : at_M (ab_sh h1) (ab_r h1) := by rw [f.2.1, f.2.2.1]; exact H
/-- how a call comes out: refused (and counted in row F), or answered with nothing but rows S changed -/
def ab_oI (F : Nat) (S : List Nat) (h : ab_H) (o : Nat ⊕ Int32) (v : Int32) (h' : ab_H) : Prop := match o with
  | .inl c => v = -(nI c) ∧ h' = ab_si h F c (ab_i h F c + 1)
  | .inr x => v = x ∧ ab_fr S h h'
def ab_far (c : Nat) : Int64 := 4000000000000000000 - (-(nI c)).toInt64
def ab_oL (F : Nat) (S : List Nat) (h : ab_H) (o : Nat ⊕ Int64) (v : Int64) (h' : ab_H) : Prop := match o with
  | .inl c => v = ab_far c ∧ h' = ab_si h F c (ab_i h F c + 1)
  | .inr x => v = x ∧ ab_fr S h h'
theorem ab_oI_no {F : Nat} {S : List Nat} {h : ab_H} {o : Nat ⊕ Int32} {c : Nat} {v : Int32} {h' : ab_H} (e : o = .inl c) (hv : v = -(nI c)) (hh : h' = ab_si h F c (ab_i h F c + 1)) : ab_oI F S h o v h' := by rw [e]; exact ⟨hv, hh⟩
theorem ab_oI_ok {F : Nat} {S : List Nat} {h : ab_H} {o : Nat ⊕ Int32} {v : Int32} {h' : ab_H} (e : o = .inr v) (f : ab_fr S h h') : ab_oI F S h o v h' := by rw [e]; exact ⟨rfl, f⟩
theorem ab_oL_no {F : Nat} {S : List Nat} {h : ab_H} {o : Nat ⊕ Int64} {c : Nat} {v : Int64} {h' : ab_H} (e : o = .inl c) (hv : v = ab_far c) (hh : h' = ab_si h F c (ab_i h F c + 1)) : ab_oL F S h o v h' := by rw [e]; exact ⟨hv, hh⟩
theorem ab_oL_ok {F : Nat} {S : List Nat} {h : ab_H} {o : Nat ⊕ Int64} {v : Int64} {h' : ab_H} (e : o = .inr v) (f : ab_fr S h h') : ab_oL F S h o v h' := by rw [e]; exact ⟨rfl, f⟩
/-- an int from lo to hi -/
def ab_inr (lo hi : Int) (x : Int32) : Bool := decide (lo ≤ x.toInt ∧ x.toInt ≤ hi)
theorem ab_inr_nat {n : Nat} {x : Int32} (h : ab_inr 0 n x = true) : ∃ w, x = nI w ∧ w ≤ n ∧ w < 2147483648 := by
  have h := of_decide_eq_true h
  obtain ⟨w, rfl, hw⟩ := ab_of0 (x := x) (by rw [Int32.le_iff_toInt_le, Int32.toInt_zero]; exact h.1)
  rw [nI_toInt hw] at h
  exact ⟨w, rfl, by omega, hw⟩
theorem ab_inr_no {lo hi : Int} {x : Int32} (h : x.toInt < lo ∨ hi < x.toInt) : ab_inr lo hi x = false := decide_eq_false (by omega)
theorem ab_inr_ok {lo hi : Int} {x : Int32} (h1 : lo ≤ x.toInt) (h2 : x.toInt ≤ hi) : ab_inr lo hi x = true := decide_eq_true ⟨h1, h2⟩
theorem ab_lt0 {x : Int32} : x < 0 ↔ x.toInt < 0 := by rw [Int32.lt_iff_toInt_lt, Int32.toInt_zero]
theorem ab_ge0 {x : Int32} : 0 ≤ x ↔ 0 ≤ x.toInt := by rw [Int32.le_iff_toInt_le, Int32.toInt_zero]
theorem ab_leN {x : Int32} {n : Nat} (hn : n < 2147483648) : nI n ≤ x ↔ (n : Int) ≤ x.toInt := by rw [Int32.le_iff_toInt_le, nI_toInt hn]
theorem ab_ltN {x : Int32} {n : Nat} (hn : n < 2147483648) : nI n < x ↔ (n : Int) < x.toInt := by rw [Int32.lt_iff_toInt_lt, nI_toInt hn]
theorem ab_Nle {x : Int32} {n : Nat} (hn : n < 2147483648) : x ≤ nI n ↔ x.toInt ≤ (n : Int) := by rw [Int32.le_iff_toInt_le, nI_toInt hn]
theorem ab_Nlt {x : Int32} {n : Nat} (hn : n < 2147483648) : x < nI n ↔ x.toInt < (n : Int) := by rw [Int32.lt_iff_toInt_lt, nI_toInt hn]
theorem ab_Neq {x : Int32} {n : Nat} (hn : n < 2147483648) : x = nI n ↔ x.toInt = (n : Int) := by rw [← Int32.toInt_inj, nI_toInt hn]
theorem ab_0eq {x : Int32} : x = 0 ↔ x.toInt = 0 := by rw [← Int32.toInt_inj, Int32.toInt_zero]
theorem ab_ref_a : ∀ c, 1 ≤ c → c ≤ 6 → ¬ (0 : Int32) ≤ -(nI c) ∧ ¬ -(nI c) < -6 := by
  intro c h1 h2
  match c, h1, h2 with
  | 1, _, _ => decide
  | 2, _, _ => decide
  | 3, _, _ => decide
  | 4, _, _ => decide
  | 5, _, _ => decide
  | 6, _, _ => decide
