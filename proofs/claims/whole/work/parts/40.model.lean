/-! THE REFERENCE: its picture; the work of a code of two; values; looks -/
def MT : List (Nat × Nat × (Nat × Nat)) := [(4, 1, (1, 8)), (5, 2, (1, 8)), (6, 3, (1, 8)), (7, 4, (1, 8)), (8, 5, (1, 8)), (9, 6, (1, 8)), (10, 7, (1, 1300)), (11, 8, (1, 500)), (12, 9, (1, 8)), (13, 10, (1, 8)), (14, 11, (1, 500)), (18, 12, (1, 3)), (35, 13, (1, 8)), (36, 14, (1, 8)), (37, 15, (1, 8)), (38, 16, (1, 8)), (39, 17, (1, 8)), (40, 18, (1, 8)), (41, 19, (1, 8)), (42, 20, (1, 1300)), (43, 21, (1, 650)), (44, 22, (3, 9)), (46, 23, (1, 90)), (48, 24, (1, 20)), (49, 25, (1, 8)), (50, 26, (1, 650)), (51, 27, (1, 8000)), (60, 28, (4, 168)), (61, 29, (4, 9)), (62, 30, (1, 9)), (63, 31, (1, 9)), (64, 32, (1, 8)), (65, 33, (1, 8)), (68, 34, (1, 8)), (69, 35, (1, 8)), (70, 36, (1, 10)), (71, 37, (1, 10)), (72, 38, (1, 10240)), (75, 39, (1, 8)), (76, 40, (1, 1100)), (80, 41, (1, 8)), (81, 42, (1, 8)), (82, 43, (1, 8)), (83, 44, (1, 8)), (84, 45, (1, 8)), (85, 46, (1, 8)), (86, 47, (1, 1300)), (87, 48, (1, 500)), (88, 49, (1, 8)), (89, 50, (1, 8)), (93, 51, (1, 8)), (94, 52, (1, 8)), (95, 53, (1, 8)), (96, 54, (1, 90)), (97, 55, (1, 20))]
def kM (kd : mK) (P : mP) (m : Nat) : Prop := kd m = some (0, 10) ∧ ∀ e ∈ MT, P m e.1 = some (m + e.2.1) ∧ kd (m + e.2.1) = some e.2.2
theorem kM_0 {kd : mK} {P : mP} {m : Nat} (h : kM kd P m) : kd m = some (0, 10) := h.1
theorem pM_4 {kd : mK} {P : mP} {m : Nat} (h : kM kd P m) : P m 4 = some (m + 1) := (h.2 (4, 1, (1, 8)) (List.mem_of_getElem? (i := 0) rfl)).1
theorem aM_4 {kd : mK} {P : mP} {m : Nat} (h : kM kd P m) : kd (m + 1) = some (1, 8) := (h.2 (4, 1, (1, 8)) (List.mem_of_getElem? (i := 0) rfl)).2
theorem pM_5 {kd : mK} {P : mP} {m : Nat} (h : kM kd P m) : P m 5 = some (m + 2) := (h.2 (5, 2, (1, 8)) (List.mem_of_getElem? (i := 1) rfl)).1
theorem aM_5 {kd : mK} {P : mP} {m : Nat} (h : kM kd P m) : kd (m + 2) = some (1, 8) := (h.2 (5, 2, (1, 8)) (List.mem_of_getElem? (i := 1) rfl)).2
theorem pM_6 {kd : mK} {P : mP} {m : Nat} (h : kM kd P m) : P m 6 = some (m + 3) := (h.2 (6, 3, (1, 8)) (List.mem_of_getElem? (i := 2) rfl)).1
theorem aM_6 {kd : mK} {P : mP} {m : Nat} (h : kM kd P m) : kd (m + 3) = some (1, 8) := (h.2 (6, 3, (1, 8)) (List.mem_of_getElem? (i := 2) rfl)).2
theorem pM_7 {kd : mK} {P : mP} {m : Nat} (h : kM kd P m) : P m 7 = some (m + 4) := (h.2 (7, 4, (1, 8)) (List.mem_of_getElem? (i := 3) rfl)).1
theorem aM_7 {kd : mK} {P : mP} {m : Nat} (h : kM kd P m) : kd (m + 4) = some (1, 8) := (h.2 (7, 4, (1, 8)) (List.mem_of_getElem? (i := 3) rfl)).2
theorem pM_8 {kd : mK} {P : mP} {m : Nat} (h : kM kd P m) : P m 8 = some (m + 5) := (h.2 (8, 5, (1, 8)) (List.mem_of_getElem? (i := 4) rfl)).1
theorem aM_8 {kd : mK} {P : mP} {m : Nat} (h : kM kd P m) : kd (m + 5) = some (1, 8) := (h.2 (8, 5, (1, 8)) (List.mem_of_getElem? (i := 4) rfl)).2
theorem pM_9 {kd : mK} {P : mP} {m : Nat} (h : kM kd P m) : P m 9 = some (m + 6) := (h.2 (9, 6, (1, 8)) (List.mem_of_getElem? (i := 5) rfl)).1
theorem aM_9 {kd : mK} {P : mP} {m : Nat} (h : kM kd P m) : kd (m + 6) = some (1, 8) := (h.2 (9, 6, (1, 8)) (List.mem_of_getElem? (i := 5) rfl)).2
theorem pM_10 {kd : mK} {P : mP} {m : Nat} (h : kM kd P m) : P m 10 = some (m + 7) := (h.2 (10, 7, (1, 1300)) (List.mem_of_getElem? (i := 6) rfl)).1
theorem aM_10 {kd : mK} {P : mP} {m : Nat} (h : kM kd P m) : kd (m + 7) = some (1, 1300) := (h.2 (10, 7, (1, 1300)) (List.mem_of_getElem? (i := 6) rfl)).2
theorem pM_11 {kd : mK} {P : mP} {m : Nat} (h : kM kd P m) : P m 11 = some (m + 8) := (h.2 (11, 8, (1, 500)) (List.mem_of_getElem? (i := 7) rfl)).1
theorem aM_11 {kd : mK} {P : mP} {m : Nat} (h : kM kd P m) : kd (m + 8) = some (1, 500) := (h.2 (11, 8, (1, 500)) (List.mem_of_getElem? (i := 7) rfl)).2
theorem pM_12 {kd : mK} {P : mP} {m : Nat} (h : kM kd P m) : P m 12 = some (m + 9) := (h.2 (12, 9, (1, 8)) (List.mem_of_getElem? (i := 8) rfl)).1
theorem aM_12 {kd : mK} {P : mP} {m : Nat} (h : kM kd P m) : kd (m + 9) = some (1, 8) := (h.2 (12, 9, (1, 8)) (List.mem_of_getElem? (i := 8) rfl)).2
theorem pM_13 {kd : mK} {P : mP} {m : Nat} (h : kM kd P m) : P m 13 = some (m + 10) := (h.2 (13, 10, (1, 8)) (List.mem_of_getElem? (i := 9) rfl)).1
theorem aM_13 {kd : mK} {P : mP} {m : Nat} (h : kM kd P m) : kd (m + 10) = some (1, 8) := (h.2 (13, 10, (1, 8)) (List.mem_of_getElem? (i := 9) rfl)).2
theorem pM_14 {kd : mK} {P : mP} {m : Nat} (h : kM kd P m) : P m 14 = some (m + 11) := (h.2 (14, 11, (1, 500)) (List.mem_of_getElem? (i := 10) rfl)).1
theorem aM_14 {kd : mK} {P : mP} {m : Nat} (h : kM kd P m) : kd (m + 11) = some (1, 500) := (h.2 (14, 11, (1, 500)) (List.mem_of_getElem? (i := 10) rfl)).2
theorem pM_18 {kd : mK} {P : mP} {m : Nat} (h : kM kd P m) : P m 18 = some (m + 12) := (h.2 (18, 12, (1, 3)) (List.mem_of_getElem? (i := 11) rfl)).1
theorem aM_18 {kd : mK} {P : mP} {m : Nat} (h : kM kd P m) : kd (m + 12) = some (1, 3) := (h.2 (18, 12, (1, 3)) (List.mem_of_getElem? (i := 11) rfl)).2
theorem pM_35 {kd : mK} {P : mP} {m : Nat} (h : kM kd P m) : P m 35 = some (m + 13) := (h.2 (35, 13, (1, 8)) (List.mem_of_getElem? (i := 12) rfl)).1
theorem aM_35 {kd : mK} {P : mP} {m : Nat} (h : kM kd P m) : kd (m + 13) = some (1, 8) := (h.2 (35, 13, (1, 8)) (List.mem_of_getElem? (i := 12) rfl)).2
theorem pM_36 {kd : mK} {P : mP} {m : Nat} (h : kM kd P m) : P m 36 = some (m + 14) := (h.2 (36, 14, (1, 8)) (List.mem_of_getElem? (i := 13) rfl)).1
theorem aM_36 {kd : mK} {P : mP} {m : Nat} (h : kM kd P m) : kd (m + 14) = some (1, 8) := (h.2 (36, 14, (1, 8)) (List.mem_of_getElem? (i := 13) rfl)).2
theorem pM_37 {kd : mK} {P : mP} {m : Nat} (h : kM kd P m) : P m 37 = some (m + 15) := (h.2 (37, 15, (1, 8)) (List.mem_of_getElem? (i := 14) rfl)).1
theorem aM_37 {kd : mK} {P : mP} {m : Nat} (h : kM kd P m) : kd (m + 15) = some (1, 8) := (h.2 (37, 15, (1, 8)) (List.mem_of_getElem? (i := 14) rfl)).2
theorem pM_38 {kd : mK} {P : mP} {m : Nat} (h : kM kd P m) : P m 38 = some (m + 16) := (h.2 (38, 16, (1, 8)) (List.mem_of_getElem? (i := 15) rfl)).1
theorem aM_38 {kd : mK} {P : mP} {m : Nat} (h : kM kd P m) : kd (m + 16) = some (1, 8) := (h.2 (38, 16, (1, 8)) (List.mem_of_getElem? (i := 15) rfl)).2
theorem pM_39 {kd : mK} {P : mP} {m : Nat} (h : kM kd P m) : P m 39 = some (m + 17) := (h.2 (39, 17, (1, 8)) (List.mem_of_getElem? (i := 16) rfl)).1
theorem aM_39 {kd : mK} {P : mP} {m : Nat} (h : kM kd P m) : kd (m + 17) = some (1, 8) := (h.2 (39, 17, (1, 8)) (List.mem_of_getElem? (i := 16) rfl)).2
theorem pM_40 {kd : mK} {P : mP} {m : Nat} (h : kM kd P m) : P m 40 = some (m + 18) := (h.2 (40, 18, (1, 8)) (List.mem_of_getElem? (i := 17) rfl)).1
theorem aM_40 {kd : mK} {P : mP} {m : Nat} (h : kM kd P m) : kd (m + 18) = some (1, 8) := (h.2 (40, 18, (1, 8)) (List.mem_of_getElem? (i := 17) rfl)).2
theorem pM_41 {kd : mK} {P : mP} {m : Nat} (h : kM kd P m) : P m 41 = some (m + 19) := (h.2 (41, 19, (1, 8)) (List.mem_of_getElem? (i := 18) rfl)).1
theorem aM_41 {kd : mK} {P : mP} {m : Nat} (h : kM kd P m) : kd (m + 19) = some (1, 8) := (h.2 (41, 19, (1, 8)) (List.mem_of_getElem? (i := 18) rfl)).2
theorem pM_42 {kd : mK} {P : mP} {m : Nat} (h : kM kd P m) : P m 42 = some (m + 20) := (h.2 (42, 20, (1, 1300)) (List.mem_of_getElem? (i := 19) rfl)).1
theorem aM_42 {kd : mK} {P : mP} {m : Nat} (h : kM kd P m) : kd (m + 20) = some (1, 1300) := (h.2 (42, 20, (1, 1300)) (List.mem_of_getElem? (i := 19) rfl)).2
theorem pM_43 {kd : mK} {P : mP} {m : Nat} (h : kM kd P m) : P m 43 = some (m + 21) := (h.2 (43, 21, (1, 650)) (List.mem_of_getElem? (i := 20) rfl)).1
theorem aM_43 {kd : mK} {P : mP} {m : Nat} (h : kM kd P m) : kd (m + 21) = some (1, 650) := (h.2 (43, 21, (1, 650)) (List.mem_of_getElem? (i := 20) rfl)).2
theorem pM_44 {kd : mK} {P : mP} {m : Nat} (h : kM kd P m) : P m 44 = some (m + 22) := (h.2 (44, 22, (3, 9)) (List.mem_of_getElem? (i := 21) rfl)).1
theorem aM_44 {kd : mK} {P : mP} {m : Nat} (h : kM kd P m) : kd (m + 22) = some (3, 9) := (h.2 (44, 22, (3, 9)) (List.mem_of_getElem? (i := 21) rfl)).2
theorem pM_46 {kd : mK} {P : mP} {m : Nat} (h : kM kd P m) : P m 46 = some (m + 23) := (h.2 (46, 23, (1, 90)) (List.mem_of_getElem? (i := 22) rfl)).1
theorem aM_46 {kd : mK} {P : mP} {m : Nat} (h : kM kd P m) : kd (m + 23) = some (1, 90) := (h.2 (46, 23, (1, 90)) (List.mem_of_getElem? (i := 22) rfl)).2
theorem pM_48 {kd : mK} {P : mP} {m : Nat} (h : kM kd P m) : P m 48 = some (m + 24) := (h.2 (48, 24, (1, 20)) (List.mem_of_getElem? (i := 23) rfl)).1
theorem aM_48 {kd : mK} {P : mP} {m : Nat} (h : kM kd P m) : kd (m + 24) = some (1, 20) := (h.2 (48, 24, (1, 20)) (List.mem_of_getElem? (i := 23) rfl)).2
theorem pM_49 {kd : mK} {P : mP} {m : Nat} (h : kM kd P m) : P m 49 = some (m + 25) := (h.2 (49, 25, (1, 8)) (List.mem_of_getElem? (i := 24) rfl)).1
theorem aM_49 {kd : mK} {P : mP} {m : Nat} (h : kM kd P m) : kd (m + 25) = some (1, 8) := (h.2 (49, 25, (1, 8)) (List.mem_of_getElem? (i := 24) rfl)).2
theorem pM_50 {kd : mK} {P : mP} {m : Nat} (h : kM kd P m) : P m 50 = some (m + 26) := (h.2 (50, 26, (1, 650)) (List.mem_of_getElem? (i := 25) rfl)).1
theorem aM_50 {kd : mK} {P : mP} {m : Nat} (h : kM kd P m) : kd (m + 26) = some (1, 650) := (h.2 (50, 26, (1, 650)) (List.mem_of_getElem? (i := 25) rfl)).2
theorem pM_51 {kd : mK} {P : mP} {m : Nat} (h : kM kd P m) : P m 51 = some (m + 27) := (h.2 (51, 27, (1, 8000)) (List.mem_of_getElem? (i := 26) rfl)).1
theorem aM_51 {kd : mK} {P : mP} {m : Nat} (h : kM kd P m) : kd (m + 27) = some (1, 8000) := (h.2 (51, 27, (1, 8000)) (List.mem_of_getElem? (i := 26) rfl)).2
theorem pM_60 {kd : mK} {P : mP} {m : Nat} (h : kM kd P m) : P m 60 = some (m + 28) := (h.2 (60, 28, (4, 168)) (List.mem_of_getElem? (i := 27) rfl)).1
theorem aM_60 {kd : mK} {P : mP} {m : Nat} (h : kM kd P m) : kd (m + 28) = some (4, 168) := (h.2 (60, 28, (4, 168)) (List.mem_of_getElem? (i := 27) rfl)).2
theorem pM_61 {kd : mK} {P : mP} {m : Nat} (h : kM kd P m) : P m 61 = some (m + 29) := (h.2 (61, 29, (4, 9)) (List.mem_of_getElem? (i := 28) rfl)).1
theorem aM_61 {kd : mK} {P : mP} {m : Nat} (h : kM kd P m) : kd (m + 29) = some (4, 9) := (h.2 (61, 29, (4, 9)) (List.mem_of_getElem? (i := 28) rfl)).2
theorem pM_62 {kd : mK} {P : mP} {m : Nat} (h : kM kd P m) : P m 62 = some (m + 30) := (h.2 (62, 30, (1, 9)) (List.mem_of_getElem? (i := 29) rfl)).1
theorem aM_62 {kd : mK} {P : mP} {m : Nat} (h : kM kd P m) : kd (m + 30) = some (1, 9) := (h.2 (62, 30, (1, 9)) (List.mem_of_getElem? (i := 29) rfl)).2
theorem pM_63 {kd : mK} {P : mP} {m : Nat} (h : kM kd P m) : P m 63 = some (m + 31) := (h.2 (63, 31, (1, 9)) (List.mem_of_getElem? (i := 30) rfl)).1
theorem aM_63 {kd : mK} {P : mP} {m : Nat} (h : kM kd P m) : kd (m + 31) = some (1, 9) := (h.2 (63, 31, (1, 9)) (List.mem_of_getElem? (i := 30) rfl)).2
theorem pM_64 {kd : mK} {P : mP} {m : Nat} (h : kM kd P m) : P m 64 = some (m + 32) := (h.2 (64, 32, (1, 8)) (List.mem_of_getElem? (i := 31) rfl)).1
theorem aM_64 {kd : mK} {P : mP} {m : Nat} (h : kM kd P m) : kd (m + 32) = some (1, 8) := (h.2 (64, 32, (1, 8)) (List.mem_of_getElem? (i := 31) rfl)).2
theorem pM_65 {kd : mK} {P : mP} {m : Nat} (h : kM kd P m) : P m 65 = some (m + 33) := (h.2 (65, 33, (1, 8)) (List.mem_of_getElem? (i := 32) rfl)).1
theorem aM_65 {kd : mK} {P : mP} {m : Nat} (h : kM kd P m) : kd (m + 33) = some (1, 8) := (h.2 (65, 33, (1, 8)) (List.mem_of_getElem? (i := 32) rfl)).2
theorem pM_68 {kd : mK} {P : mP} {m : Nat} (h : kM kd P m) : P m 68 = some (m + 34) := (h.2 (68, 34, (1, 8)) (List.mem_of_getElem? (i := 33) rfl)).1
theorem aM_68 {kd : mK} {P : mP} {m : Nat} (h : kM kd P m) : kd (m + 34) = some (1, 8) := (h.2 (68, 34, (1, 8)) (List.mem_of_getElem? (i := 33) rfl)).2
theorem pM_69 {kd : mK} {P : mP} {m : Nat} (h : kM kd P m) : P m 69 = some (m + 35) := (h.2 (69, 35, (1, 8)) (List.mem_of_getElem? (i := 34) rfl)).1
theorem aM_69 {kd : mK} {P : mP} {m : Nat} (h : kM kd P m) : kd (m + 35) = some (1, 8) := (h.2 (69, 35, (1, 8)) (List.mem_of_getElem? (i := 34) rfl)).2
theorem pM_70 {kd : mK} {P : mP} {m : Nat} (h : kM kd P m) : P m 70 = some (m + 36) := (h.2 (70, 36, (1, 10)) (List.mem_of_getElem? (i := 35) rfl)).1
theorem aM_70 {kd : mK} {P : mP} {m : Nat} (h : kM kd P m) : kd (m + 36) = some (1, 10) := (h.2 (70, 36, (1, 10)) (List.mem_of_getElem? (i := 35) rfl)).2
theorem pM_71 {kd : mK} {P : mP} {m : Nat} (h : kM kd P m) : P m 71 = some (m + 37) := (h.2 (71, 37, (1, 10)) (List.mem_of_getElem? (i := 36) rfl)).1
theorem aM_71 {kd : mK} {P : mP} {m : Nat} (h : kM kd P m) : kd (m + 37) = some (1, 10) := (h.2 (71, 37, (1, 10)) (List.mem_of_getElem? (i := 36) rfl)).2
theorem pM_72 {kd : mK} {P : mP} {m : Nat} (h : kM kd P m) : P m 72 = some (m + 38) := (h.2 (72, 38, (1, 10240)) (List.mem_of_getElem? (i := 37) rfl)).1
theorem aM_72 {kd : mK} {P : mP} {m : Nat} (h : kM kd P m) : kd (m + 38) = some (1, 10240) := (h.2 (72, 38, (1, 10240)) (List.mem_of_getElem? (i := 37) rfl)).2
theorem pM_75 {kd : mK} {P : mP} {m : Nat} (h : kM kd P m) : P m 75 = some (m + 39) := (h.2 (75, 39, (1, 8)) (List.mem_of_getElem? (i := 38) rfl)).1
theorem aM_75 {kd : mK} {P : mP} {m : Nat} (h : kM kd P m) : kd (m + 39) = some (1, 8) := (h.2 (75, 39, (1, 8)) (List.mem_of_getElem? (i := 38) rfl)).2
theorem pM_76 {kd : mK} {P : mP} {m : Nat} (h : kM kd P m) : P m 76 = some (m + 40) := (h.2 (76, 40, (1, 1100)) (List.mem_of_getElem? (i := 39) rfl)).1
theorem aM_76 {kd : mK} {P : mP} {m : Nat} (h : kM kd P m) : kd (m + 40) = some (1, 1100) := (h.2 (76, 40, (1, 1100)) (List.mem_of_getElem? (i := 39) rfl)).2
theorem pM_80 {kd : mK} {P : mP} {m : Nat} (h : kM kd P m) : P m 80 = some (m + 41) := (h.2 (80, 41, (1, 8)) (List.mem_of_getElem? (i := 40) rfl)).1
theorem aM_80 {kd : mK} {P : mP} {m : Nat} (h : kM kd P m) : kd (m + 41) = some (1, 8) := (h.2 (80, 41, (1, 8)) (List.mem_of_getElem? (i := 40) rfl)).2
theorem pM_81 {kd : mK} {P : mP} {m : Nat} (h : kM kd P m) : P m 81 = some (m + 42) := (h.2 (81, 42, (1, 8)) (List.mem_of_getElem? (i := 41) rfl)).1
theorem aM_81 {kd : mK} {P : mP} {m : Nat} (h : kM kd P m) : kd (m + 42) = some (1, 8) := (h.2 (81, 42, (1, 8)) (List.mem_of_getElem? (i := 41) rfl)).2
theorem pM_82 {kd : mK} {P : mP} {m : Nat} (h : kM kd P m) : P m 82 = some (m + 43) := (h.2 (82, 43, (1, 8)) (List.mem_of_getElem? (i := 42) rfl)).1
theorem aM_82 {kd : mK} {P : mP} {m : Nat} (h : kM kd P m) : kd (m + 43) = some (1, 8) := (h.2 (82, 43, (1, 8)) (List.mem_of_getElem? (i := 42) rfl)).2
theorem pM_83 {kd : mK} {P : mP} {m : Nat} (h : kM kd P m) : P m 83 = some (m + 44) := (h.2 (83, 44, (1, 8)) (List.mem_of_getElem? (i := 43) rfl)).1
theorem aM_83 {kd : mK} {P : mP} {m : Nat} (h : kM kd P m) : kd (m + 44) = some (1, 8) := (h.2 (83, 44, (1, 8)) (List.mem_of_getElem? (i := 43) rfl)).2
theorem pM_84 {kd : mK} {P : mP} {m : Nat} (h : kM kd P m) : P m 84 = some (m + 45) := (h.2 (84, 45, (1, 8)) (List.mem_of_getElem? (i := 44) rfl)).1
theorem aM_84 {kd : mK} {P : mP} {m : Nat} (h : kM kd P m) : kd (m + 45) = some (1, 8) := (h.2 (84, 45, (1, 8)) (List.mem_of_getElem? (i := 44) rfl)).2
theorem pM_85 {kd : mK} {P : mP} {m : Nat} (h : kM kd P m) : P m 85 = some (m + 46) := (h.2 (85, 46, (1, 8)) (List.mem_of_getElem? (i := 45) rfl)).1
theorem aM_85 {kd : mK} {P : mP} {m : Nat} (h : kM kd P m) : kd (m + 46) = some (1, 8) := (h.2 (85, 46, (1, 8)) (List.mem_of_getElem? (i := 45) rfl)).2
theorem pM_86 {kd : mK} {P : mP} {m : Nat} (h : kM kd P m) : P m 86 = some (m + 47) := (h.2 (86, 47, (1, 1300)) (List.mem_of_getElem? (i := 46) rfl)).1
theorem aM_86 {kd : mK} {P : mP} {m : Nat} (h : kM kd P m) : kd (m + 47) = some (1, 1300) := (h.2 (86, 47, (1, 1300)) (List.mem_of_getElem? (i := 46) rfl)).2
theorem pM_87 {kd : mK} {P : mP} {m : Nat} (h : kM kd P m) : P m 87 = some (m + 48) := (h.2 (87, 48, (1, 500)) (List.mem_of_getElem? (i := 47) rfl)).1
theorem aM_87 {kd : mK} {P : mP} {m : Nat} (h : kM kd P m) : kd (m + 48) = some (1, 500) := (h.2 (87, 48, (1, 500)) (List.mem_of_getElem? (i := 47) rfl)).2
theorem pM_88 {kd : mK} {P : mP} {m : Nat} (h : kM kd P m) : P m 88 = some (m + 49) := (h.2 (88, 49, (1, 8)) (List.mem_of_getElem? (i := 48) rfl)).1
theorem aM_88 {kd : mK} {P : mP} {m : Nat} (h : kM kd P m) : kd (m + 49) = some (1, 8) := (h.2 (88, 49, (1, 8)) (List.mem_of_getElem? (i := 48) rfl)).2
theorem pM_89 {kd : mK} {P : mP} {m : Nat} (h : kM kd P m) : P m 89 = some (m + 50) := (h.2 (89, 50, (1, 8)) (List.mem_of_getElem? (i := 49) rfl)).1
theorem aM_89 {kd : mK} {P : mP} {m : Nat} (h : kM kd P m) : kd (m + 50) = some (1, 8) := (h.2 (89, 50, (1, 8)) (List.mem_of_getElem? (i := 49) rfl)).2
theorem pM_93 {kd : mK} {P : mP} {m : Nat} (h : kM kd P m) : P m 93 = some (m + 51) := (h.2 (93, 51, (1, 8)) (List.mem_of_getElem? (i := 50) rfl)).1
theorem aM_93 {kd : mK} {P : mP} {m : Nat} (h : kM kd P m) : kd (m + 51) = some (1, 8) := (h.2 (93, 51, (1, 8)) (List.mem_of_getElem? (i := 50) rfl)).2
theorem pM_94 {kd : mK} {P : mP} {m : Nat} (h : kM kd P m) : P m 94 = some (m + 52) := (h.2 (94, 52, (1, 8)) (List.mem_of_getElem? (i := 51) rfl)).1
theorem aM_94 {kd : mK} {P : mP} {m : Nat} (h : kM kd P m) : kd (m + 52) = some (1, 8) := (h.2 (94, 52, (1, 8)) (List.mem_of_getElem? (i := 51) rfl)).2
theorem pM_95 {kd : mK} {P : mP} {m : Nat} (h : kM kd P m) : P m 95 = some (m + 53) := (h.2 (95, 53, (1, 8)) (List.mem_of_getElem? (i := 52) rfl)).1
theorem aM_95 {kd : mK} {P : mP} {m : Nat} (h : kM kd P m) : kd (m + 53) = some (1, 8) := (h.2 (95, 53, (1, 8)) (List.mem_of_getElem? (i := 52) rfl)).2
theorem pM_96 {kd : mK} {P : mP} {m : Nat} (h : kM kd P m) : P m 96 = some (m + 54) := (h.2 (96, 54, (1, 90)) (List.mem_of_getElem? (i := 53) rfl)).1
theorem aM_96 {kd : mK} {P : mP} {m : Nat} (h : kM kd P m) : kd (m + 54) = some (1, 90) := (h.2 (96, 54, (1, 90)) (List.mem_of_getElem? (i := 53) rfl)).2
theorem pM_97 {kd : mK} {P : mP} {m : Nat} (h : kM kd P m) : P m 97 = some (m + 55) := (h.2 (97, 55, (1, 20)) (List.mem_of_getElem? (i := 54) rfl)).1
theorem aM_97 {kd : mK} {P : mP} {m : Nat} (h : kM kd P m) : kd (m + 55) = some (1, 20) := (h.2 (97, 55, (1, 20)) (List.mem_of_getElem? (i := 54) rfl)).2
def wk (c a b : Int32) : Int32 := if c = nI 4 then (if a = 0 then nI 0 else if b = 0 then nI 0 else nI 1) else if c = nI 5 then (if a = 0 then (if b = 0 then nI 0 else nI 1) else nI 1) else if c = nI 6 then (if b ≤ a then nI 0 else nI 1) else if c = nI 7 then (if a = b then nI 1 else nI 0) else if c = nI 8 then a + b else if c = nI 9 then a - b else if c = nI 10 then a * b else if b = 0 then nI 0 else a / b
/-- the reference's word for a code that joins -/
def opw (c : Nat) : Nat := if c = 20003 then 3 else if c = 20004 then 8 else if c = 20005 then 9 else if c = 20006 then 10 else if c = 20007 then 11 else if c = 20008 then 6 else if c = 20009 then 7 else if c = 20010 then 4 else 5
theorem wk_jn {c : Nat} (h1 : 20003 < c) (h2 : c < 20012) (a b : Int32) : wk (nI (opw c)) a b = jn (nI c) a b := by
  have : c = 20004 ∨ c = 20005 ∨ c = 20006 ∨ c = 20007 ∨ c = 20008 ∨ c = 20009 ∨ c = 20010 ∨ c = 20011 := by omega
  unfold wk jn
  rcases this with rfl | rfl | rfl | rfl | rfl | rfl | rfl | rfl <;> simp [opw, nI_eq]
theorem dX10_works_0 : decode cX10_works 0 = .ok (.iload_n 0, 1) := by decide +kernel
theorem dX10_works_1 : decode cX10_works 1 = .ok (.tableswitch 105 4 10 #[43, 57, 71, 82, 93, 97, 101], 43) := by decide +kernel
theorem dX10_works_44 : decode cX10_works 44 = .ok (.iload_n 1, 1) := by decide +kernel
theorem dX10_works_45 : decode cX10_works 45 = .ok (.ifCond .eq 11, 3) := by decide +kernel
theorem dX10_works_48 : decode cX10_works 48 = .ok (.iload_n 2, 1) := by decide +kernel
theorem dX10_works_49 : decode cX10_works 49 = .ok (.ifCond .eq 7, 3) := by decide +kernel
theorem dX10_works_52 : decode cX10_works 52 = .ok (.iconst 1, 1) := by decide +kernel
theorem dX10_works_53 : decode cX10_works 53 = .ok (.goto 4, 3) := by decide +kernel
theorem dX10_works_56 : decode cX10_works 56 = .ok (.iconst 0, 1) := by decide +kernel
theorem dX10_works_57 : decode cX10_works 57 = .ok (.ireturn, 1) := by decide +kernel
theorem dX10_works_58 : decode cX10_works 58 = .ok (.iload_n 1, 1) := by decide +kernel
theorem dX10_works_59 : decode cX10_works 59 = .ok (.ifCond .ne 7, 3) := by decide +kernel
theorem dX10_works_62 : decode cX10_works 62 = .ok (.iload_n 2, 1) := by decide +kernel
theorem dX10_works_63 : decode cX10_works 63 = .ok (.ifCond .eq 7, 3) := by decide +kernel
theorem dX10_works_66 : decode cX10_works 66 = .ok (.iconst 1, 1) := by decide +kernel
theorem dX10_works_67 : decode cX10_works 67 = .ok (.goto 4, 3) := by decide +kernel
theorem dX10_works_70 : decode cX10_works 70 = .ok (.iconst 0, 1) := by decide +kernel
theorem dX10_works_71 : decode cX10_works 71 = .ok (.ireturn, 1) := by decide +kernel
theorem dX10_works_72 : decode cX10_works 72 = .ok (.iload_n 1, 1) := by decide +kernel
theorem dX10_works_73 : decode cX10_works 73 = .ok (.iload_n 2, 1) := by decide +kernel
theorem dX10_works_74 : decode cX10_works 74 = .ok (.if_icmp .ge 7, 3) := by decide +kernel
theorem dX10_works_77 : decode cX10_works 77 = .ok (.iconst 1, 1) := by decide +kernel
theorem dX10_works_78 : decode cX10_works 78 = .ok (.goto 4, 3) := by decide +kernel
theorem dX10_works_81 : decode cX10_works 81 = .ok (.iconst 0, 1) := by decide +kernel
theorem dX10_works_82 : decode cX10_works 82 = .ok (.ireturn, 1) := by decide +kernel
theorem dX10_works_83 : decode cX10_works 83 = .ok (.iload_n 1, 1) := by decide +kernel
theorem dX10_works_84 : decode cX10_works 84 = .ok (.iload_n 2, 1) := by decide +kernel
theorem dX10_works_85 : decode cX10_works 85 = .ok (.if_icmp .ne 7, 3) := by decide +kernel
theorem dX10_works_88 : decode cX10_works 88 = .ok (.iconst 1, 1) := by decide +kernel
theorem dX10_works_89 : decode cX10_works 89 = .ok (.goto 4, 3) := by decide +kernel
theorem dX10_works_92 : decode cX10_works 92 = .ok (.iconst 0, 1) := by decide +kernel
theorem dX10_works_93 : decode cX10_works 93 = .ok (.ireturn, 1) := by decide +kernel
theorem dX10_works_94 : decode cX10_works 94 = .ok (.iload_n 1, 1) := by decide +kernel
theorem dX10_works_95 : decode cX10_works 95 = .ok (.iload_n 2, 1) := by decide +kernel
theorem dX10_works_96 : decode cX10_works 96 = .ok (.iadd, 1) := by decide +kernel
theorem dX10_works_97 : decode cX10_works 97 = .ok (.ireturn, 1) := by decide +kernel
theorem dX10_works_98 : decode cX10_works 98 = .ok (.iload_n 1, 1) := by decide +kernel
theorem dX10_works_99 : decode cX10_works 99 = .ok (.iload_n 2, 1) := by decide +kernel
theorem dX10_works_100 : decode cX10_works 100 = .ok (.isub, 1) := by decide +kernel
theorem dX10_works_101 : decode cX10_works 101 = .ok (.ireturn, 1) := by decide +kernel
theorem dX10_works_102 : decode cX10_works 102 = .ok (.iload_n 1, 1) := by decide +kernel
theorem dX10_works_103 : decode cX10_works 103 = .ok (.iload_n 2, 1) := by decide +kernel
theorem dX10_works_104 : decode cX10_works 104 = .ok (.imul, 1) := by decide +kernel
theorem dX10_works_105 : decode cX10_works 105 = .ok (.ireturn, 1) := by decide +kernel
theorem dX10_works_106 : decode cX10_works 106 = .ok (.iload_n 2, 1) := by decide +kernel
theorem dX10_works_107 : decode cX10_works 107 = .ok (.ifCond .ne 7, 3) := by decide +kernel
theorem dX10_works_110 : decode cX10_works 110 = .ok (.iconst 0, 1) := by decide +kernel
theorem dX10_works_111 : decode cX10_works 111 = .ok (.goto 6, 3) := by decide +kernel
theorem dX10_works_114 : decode cX10_works 114 = .ok (.iload_n 1, 1) := by decide +kernel
theorem dX10_works_115 : decode cX10_works 115 = .ok (.iload_n 2, 1) := by decide +kernel
theorem dX10_works_116 : decode cX10_works 116 = .ok (.idiv, 1) := by decide +kernel
theorem dX10_works_117 : decode cX10_works 117 = .ok (.ireturn, 1) := by decide +kernel
set_option maxHeartbeats 4000000 in
set_option maxRecDepth 100000 in
theorem c_X10_works (c x y : Int32) {n : Nat} {kd : mK} {I : mI} {J : mJ} {P : mP} : Ct yX10_works cX10_works 3 (some .int) 1 0 0 [.int c, .int x, .int y] n kd I J P (am_is (some (.int (wk c x y))) n kd I J P) := by
  refine ct_of 0 (by decide +kernel) (Nat.le_of_ble_eq_true rfl) rfl ?_
  refine r_iload_n dX10_works_0 rfl ?_
  by_cases e1_0 : c = nI 4
  · refine r_tabE (off := 43) (tgt := 44) e1_0 dX10_works_1 (by decide) (by decide) (by decide) (by decide) ?_
    refine r_iload_n dX10_works_44 rfl ?_
    refine r_if_eq (tgt := 56) dX10_works_45 (by decide) (fun h45 => ?_) (fun h45 => ?_)
    · skip
      refine r_iconst (v := nI 0) dX10_works_56 (by decide) ?_
      refine r_iret rfl dX10_works_57 ?_
      exact ⟨by unfold wk; repeat (first | rw [if_pos (by assumption)] | rw [if_neg (by assumption)]), rfl, rfl, rfl, rfl, rfl⟩
    · skip
      refine r_iload_n dX10_works_48 rfl ?_
      refine r_if_eq (tgt := 56) dX10_works_49 (by decide) (fun h49 => ?_) (fun h49 => ?_)
      · skip
        refine r_iconst (v := nI 0) dX10_works_56 (by decide) ?_
        refine r_iret rfl dX10_works_57 ?_
        exact ⟨by unfold wk; repeat (first | rw [if_pos (by assumption)] | rw [if_neg (by assumption)]), rfl, rfl, rfl, rfl, rfl⟩
      · skip
        refine r_iconst (v := nI 1) dX10_works_52 (by decide) ?_
        refine r_goto (tgt := 57) dX10_works_53 (by decide) ?_
        refine r_iret rfl dX10_works_57 ?_
        exact ⟨by unfold wk; repeat (first | rw [if_pos (by assumption)] | rw [if_neg (by assumption)]), rfl, rfl, rfl, rfl, rfl⟩
  by_cases e1_1 : c = nI 5
  · refine r_tabE (off := 57) (tgt := 58) e1_1 dX10_works_1 (by decide) (by decide) (by decide) (by decide) ?_
    refine r_iload_n dX10_works_58 rfl ?_
    refine r_if_ne (tgt := 66) dX10_works_59 (by decide) (fun h59 => ?_) (fun h59 => ?_)
    · skip
      refine r_iconst (v := nI 1) dX10_works_66 (by decide) ?_
      refine r_goto (tgt := 71) dX10_works_67 (by decide) ?_
      refine r_iret rfl dX10_works_71 ?_
      exact ⟨by unfold wk; repeat (first | rw [if_pos (by assumption)] | rw [if_neg (by assumption)]), rfl, rfl, rfl, rfl, rfl⟩
    · skip
      refine r_iload_n dX10_works_62 rfl ?_
      refine r_if_eq (tgt := 70) dX10_works_63 (by decide) (fun h63 => ?_) (fun h63 => ?_)
      · skip
        refine r_iconst (v := nI 0) dX10_works_70 (by decide) ?_
        refine r_iret rfl dX10_works_71 ?_
        exact ⟨by unfold wk; repeat (first | rw [if_pos (by assumption)] | rw [if_neg (by assumption)]), rfl, rfl, rfl, rfl, rfl⟩
      · skip
        refine r_iconst (v := nI 1) dX10_works_66 (by decide) ?_
        refine r_goto (tgt := 71) dX10_works_67 (by decide) ?_
        refine r_iret rfl dX10_works_71 ?_
        exact ⟨by unfold wk; repeat (first | rw [if_pos (by assumption)] | rw [if_neg (by assumption)]), rfl, rfl, rfl, rfl, rfl⟩
  by_cases e1_2 : c = nI 6
  · refine r_tabE (off := 71) (tgt := 72) e1_2 dX10_works_1 (by decide) (by decide) (by decide) (by decide) ?_
    refine r_iload_n dX10_works_72 rfl ?_
    refine r_iload_n dX10_works_73 rfl ?_
    refine r_icmp_ge (tgt := 81) dX10_works_74 (by decide) (fun h74 => ?_) (fun h74 => ?_)
    · skip
      refine r_iconst (v := nI 0) dX10_works_81 (by decide) ?_
      refine r_iret rfl dX10_works_82 ?_
      exact ⟨by unfold wk; repeat (first | rw [if_pos (by assumption)] | rw [if_neg (by assumption)]), rfl, rfl, rfl, rfl, rfl⟩
    · skip
      refine r_iconst (v := nI 1) dX10_works_77 (by decide) ?_
      refine r_goto (tgt := 82) dX10_works_78 (by decide) ?_
      refine r_iret rfl dX10_works_82 ?_
      exact ⟨by unfold wk; repeat (first | rw [if_pos (by assumption)] | rw [if_neg (by assumption)]), rfl, rfl, rfl, rfl, rfl⟩
  by_cases e1_3 : c = nI 7
  · refine r_tabE (off := 82) (tgt := 83) e1_3 dX10_works_1 (by decide) (by decide) (by decide) (by decide) ?_
    refine r_iload_n dX10_works_83 rfl ?_
    refine r_iload_n dX10_works_84 rfl ?_
    refine r_icmp_ne (tgt := 92) dX10_works_85 (by decide) (fun h85 => ?_) (fun h85 => ?_)
    · skip
      refine r_iconst (v := nI 0) dX10_works_92 (by decide) ?_
      refine r_iret rfl dX10_works_93 ?_
      exact ⟨by unfold wk; repeat (first | rw [if_pos (by assumption)] | rw [if_neg (by assumption)]), rfl, rfl, rfl, rfl, rfl⟩
    · skip
      refine r_iconst (v := nI 1) dX10_works_88 (by decide) ?_
      refine r_goto (tgt := 93) dX10_works_89 (by decide) ?_
      refine r_iret rfl dX10_works_93 ?_
      exact ⟨by unfold wk; repeat (first | rw [if_pos (by assumption)] | rw [if_neg (by assumption)]), rfl, rfl, rfl, rfl, rfl⟩
  by_cases e1_4 : c = nI 8
  · refine r_tabE (off := 93) (tgt := 94) e1_4 dX10_works_1 (by decide) (by decide) (by decide) (by decide) ?_
    refine r_iload_n dX10_works_94 rfl ?_
    refine r_iload_n dX10_works_95 rfl ?_
    refine r_iadd dX10_works_96 ?_
    refine r_iret rfl dX10_works_97 ?_
    exact ⟨by unfold wk; repeat (first | rw [if_pos (by assumption)] | rw [if_neg (by assumption)]), rfl, rfl, rfl, rfl, rfl⟩
  by_cases e1_5 : c = nI 9
  · refine r_tabE (off := 97) (tgt := 98) e1_5 dX10_works_1 (by decide) (by decide) (by decide) (by decide) ?_
    refine r_iload_n dX10_works_98 rfl ?_
    refine r_iload_n dX10_works_99 rfl ?_
    refine r_isub dX10_works_100 ?_
    refine r_iret rfl dX10_works_101 ?_
    exact ⟨by unfold wk; repeat (first | rw [if_pos (by assumption)] | rw [if_neg (by assumption)]), rfl, rfl, rfl, rfl, rfl⟩
  by_cases e1_6 : c = nI 10
  · refine r_tabE (off := 101) (tgt := 102) e1_6 dX10_works_1 (by decide) (by decide) (by decide) (by decide) ?_
    refine r_iload_n dX10_works_102 rfl ?_
    refine r_iload_n dX10_works_103 rfl ?_
    refine r_imul dX10_works_104 ?_
    refine r_iret rfl dX10_works_105 ?_
    exact ⟨by unfold wk; repeat (first | rw [if_pos (by assumption)] | rw [if_neg (by assumption)]), rfl, rfl, rfl, rfl, rfl⟩
  refine r_tabOut (tgt := 106) dX10_works_1 (by have hT : ∀ v : Int32, ¬ c = v → ¬ (c).toInt = v.toInt := fun v h q => h (Int32.toInt_inj.mp q); have q0 := And.intro trivial trivial; have g0 := hT _ e1_0; have w0 : (nI 4).toInt = 4 := (by decide); rw [w0] at g0; have g1 := hT _ e1_1; have w1 : (nI 5).toInt = 5 := (by decide); rw [w1] at g1; have g2 := hT _ e1_2; have w2 : (nI 6).toInt = 6 := (by decide); rw [w2] at g2; have g3 := hT _ e1_3; have w3 : (nI 7).toInt = 7 := (by decide); rw [w3] at g3; have g4 := hT _ e1_4; have w4 : (nI 8).toInt = 8 := (by decide); rw [w4] at g4; have g5 := hT _ e1_5; have w5 : (nI 9).toInt = 9 := (by decide); rw [w5] at g5; have g6 := hT _ e1_6; have w6 : (nI 10).toInt = 10 := (by decide); rw [w6] at g6; omega) (by decide) ?_
  refine r_iload_n dX10_works_106 rfl ?_
  refine r_if_ne (tgt := 114) dX10_works_107 (by decide) (fun h107 => ?_) (fun h107 => ?_)
  · skip
    refine r_iload_n dX10_works_114 rfl ?_
    refine r_iload_n dX10_works_115 rfl ?_
    refine r_idiv dX10_works_116 (by assumption) ?_
    refine r_iret rfl dX10_works_117 ?_
    exact ⟨by unfold wk; repeat (first | rw [if_pos (by assumption)] | rw [if_neg (by assumption)]), rfl, rfl, rfl, rfl, rfl⟩
  · skip
    refine r_iconst (v := nI 0) dX10_works_110 (by decide) ?_
    refine r_goto (tgt := 117) dX10_works_111 (by decide) ?_
    refine r_iret rfl dX10_works_117 ?_
    exact ⟨by unfold wk; repeat (first | rw [if_pos (by assumption)] | rw [if_neg (by assumption)]), rfl, rfl, rfl, rfl, rfl⟩

theorem dX10_looksOf_0 : decode cX10_looksOf 0 = .ok (.aload_n 0, 1) := by decide +kernel
theorem dX10_looksOf_1 : decode cX10_looksOf 1 = .ok (.getfield 29, 3) := by decide +kernel
theorem dX10_looksOf_4 : decode cX10_looksOf 4 = .ok (.iload_n 1, 1) := by decide +kernel
theorem dX10_looksOf_5 : decode cX10_looksOf 5 = .ok (.iaload, 1) := by decide +kernel
theorem dX10_looksOf_6 : decode cX10_looksOf 6 = .ok (.iconst 1, 1) := by decide +kernel
theorem dX10_looksOf_7 : decode cX10_looksOf 7 = .ok (.aload_n 0, 1) := by decide +kernel
theorem dX10_looksOf_8 : decode cX10_looksOf 8 = .ok (.getfield 350, 3) := by decide +kernel
theorem dX10_looksOf_11 : decode cX10_looksOf 11 = .ok (.ishl, 1) := by decide +kernel
theorem dX10_looksOf_12 : decode cX10_looksOf 12 = .ok (.iconst 1, 1) := by decide +kernel
theorem dX10_looksOf_13 : decode cX10_looksOf 13 = .ok (.isub, 1) := by decide +kernel
theorem dX10_looksOf_14 : decode cX10_looksOf 14 = .ok (.iand, 1) := by decide +kernel
theorem dX10_looksOf_15 : decode cX10_looksOf 15 = .ok (.ireturn, 1) := by decide +kernel
set_option maxHeartbeats 4000000 in
set_option maxRecDepth 100000 in
theorem c_X10_looksOf (m h : Nat) {n : Nat} {kd : mK} {I : mI} {J : mJ} {P : mP} (hM : kM kd P m) (hh : h < 8) : Ct yX10_looksOf cX10_looksOf 2 (some .int) 1 0 0 [.ref m, .int (nI h)] n kd I J P (am_is (some (.int (I (m + 6) h &&& ((nI 1 <<< (I m 1 &&& 31)) - nI 1)))) n kd I J P) := by
  refine ct_of 0 (by decide +kernel) (Nat.le_of_ble_eq_true rfl) rfl ?_
  refine r_aload_n dX10_looksOf_0 rfl ?_
  refine r_getR dX10_looksOf_1 fl_X10_29 rfl (kM_0 hM) (pM_9 hM) ?_
  refine r_iload_n dX10_looksOf_4 rfl ?_
  refine r_iald dX10_looksOf_5 (aM_9 hM) (nI_in8 8 (by omega) (by decide)) (nI_clamp (by omega)) ?_
  try simp (disch := omega) only [am_up_s, am_up_n, am_up_up]
  refine r_iconst (v := nI 1) dX10_looksOf_6 (by decide) ?_
  refine r_aload_n dX10_looksOf_7 rfl ?_
  refine r_getI dX10_looksOf_8 fl_X10_350 rfl (kM_0 hM) ?_
  try simp (disch := omega) only [am_up_s, am_up_n, am_up_up]
  refine r_ishl dX10_looksOf_11 ?_
  refine r_iconst (v := nI 1) dX10_looksOf_12 (by decide) ?_
  refine r_isub dX10_looksOf_13 ?_
  refine r_iand dX10_looksOf_14 ?_
  refine r_iret rfl dX10_looksOf_15 ?_
  exact am_is.mk

theorem dX10_valueOf_0 : decode cX10_valueOf 0 = .ok (.iload_n 1, 1) := by decide +kernel
theorem dX10_valueOf_1 : decode cX10_valueOf 1 = .ok (.iconst 3, 1) := by decide +kernel
theorem dX10_valueOf_2 : decode cX10_valueOf 2 = .ok (.if_icmp .ne 10, 3) := by decide +kernel
theorem dX10_valueOf_5 : decode cX10_valueOf 5 = .ok (.aload_n 0, 1) := by decide +kernel
theorem dX10_valueOf_6 : decode cX10_valueOf 6 = .ok (.getfield 13, 3) := by decide +kernel
theorem dX10_valueOf_9 : decode cX10_valueOf 9 = .ok (.iload_n 2, 1) := by decide +kernel
theorem dX10_valueOf_10 : decode cX10_valueOf 10 = .ok (.iaload, 1) := by decide +kernel
theorem dX10_valueOf_11 : decode cX10_valueOf 11 = .ok (.ireturn, 1) := by decide +kernel
theorem dX10_valueOf_12 : decode cX10_valueOf 12 = .ok (.iload_n 1, 1) := by decide +kernel
theorem dX10_valueOf_13 : decode cX10_valueOf 13 = .ok (.iconst 4, 1) := by decide +kernel
theorem dX10_valueOf_14 : decode cX10_valueOf 14 = .ok (.if_icmp .ne 10, 3) := by decide +kernel
theorem dX10_valueOf_17 : decode cX10_valueOf 17 = .ok (.aload_n 0, 1) := by decide +kernel
theorem dX10_valueOf_18 : decode cX10_valueOf 18 = .ok (.getfield 17, 3) := by decide +kernel
theorem dX10_valueOf_21 : decode cX10_valueOf 21 = .ok (.iload_n 2, 1) := by decide +kernel
theorem dX10_valueOf_22 : decode cX10_valueOf 22 = .ok (.iaload, 1) := by decide +kernel
theorem dX10_valueOf_23 : decode cX10_valueOf 23 = .ok (.ireturn, 1) := by decide +kernel
theorem dX10_valueOf_24 : decode cX10_valueOf 24 = .ok (.iload_n 1, 1) := by decide +kernel
theorem dX10_valueOf_25 : decode cX10_valueOf 25 = .ok (.iconst 5, 1) := by decide +kernel
theorem dX10_valueOf_26 : decode cX10_valueOf 26 = .ok (.if_icmp .ne 8, 3) := by decide +kernel
theorem dX10_valueOf_29 : decode cX10_valueOf 29 = .ok (.aload_n 0, 1) := by decide +kernel
theorem dX10_valueOf_30 : decode cX10_valueOf 30 = .ok (.getfield 7, 3) := by decide +kernel
theorem dX10_valueOf_33 : decode cX10_valueOf 33 = .ok (.ireturn, 1) := by decide +kernel
theorem dX10_valueOf_34 : decode cX10_valueOf 34 = .ok (.iload_n 1, 1) := by decide +kernel
theorem dX10_valueOf_35 : decode cX10_valueOf 35 = .ok (.bipush 13, 2) := by decide +kernel
theorem dX10_valueOf_37 : decode cX10_valueOf 37 = .ok (.isub, 1) := by decide +kernel
theorem dX10_valueOf_38 : decode cX10_valueOf 38 = .ok (.iconst 1, 1) := by decide +kernel
theorem dX10_valueOf_39 : decode cX10_valueOf 39 = .ok (.isub, 1) := by decide +kernel
theorem dX10_valueOf_40 : decode cX10_valueOf 40 = .ok (.istore_n 3, 1) := by decide +kernel
theorem dX10_valueOf_41 : decode cX10_valueOf 41 = .ok (.iload_n 3, 1) := by decide +kernel
theorem dX10_valueOf_42 : decode cX10_valueOf 42 = .ok (.ifCond .lt 11, 3) := by decide +kernel
theorem dX10_valueOf_45 : decode cX10_valueOf 45 = .ok (.iload_n 3, 1) := by decide +kernel
theorem dX10_valueOf_46 : decode cX10_valueOf 46 = .ok (.aload_n 0, 1) := by decide +kernel
theorem dX10_valueOf_47 : decode cX10_valueOf 47 = .ok (.getfield 350, 3) := by decide +kernel
theorem dX10_valueOf_50 : decode cX10_valueOf 50 = .ok (.if_icmp .lt 7, 3) := by decide +kernel
theorem dX10_valueOf_53 : decode cX10_valueOf 53 = .ok (.iconst 0, 1) := by decide +kernel
theorem dX10_valueOf_54 : decode cX10_valueOf 54 = .ok (.goto 9, 3) := by decide +kernel
theorem dX10_valueOf_57 : decode cX10_valueOf 57 = .ok (.aload_n 0, 1) := by decide +kernel
theorem dX10_valueOf_58 : decode cX10_valueOf 58 = .ok (.getfield 90, 3) := by decide +kernel
theorem dX10_valueOf_61 : decode cX10_valueOf 61 = .ok (.iload_n 3, 1) := by decide +kernel
theorem dX10_valueOf_62 : decode cX10_valueOf 62 = .ok (.iaload, 1) := by decide +kernel
theorem dX10_valueOf_63 : decode cX10_valueOf 63 = .ok (.ireturn, 1) := by decide +kernel

set_option maxHeartbeats 4000000 in
set_option maxRecDepth 100000 in
theorem c_X10_valueOf_sons (m h H a : Nat) {n : Nat} {kd : mK} {I : mI} {J : mJ} {P : mP} (hM : kM kd P m) (hh : h < 8) (hH : I m 1 = nI H) (hH8 : H ≤ 8) : Ct yX10_valueOf cX10_valueOf 4 (some .int) 1 0 0 [.ref m, .int (nI 3), .int (nI h)] n kd I J P (am_is (some (.int (I (m + 1) h))) n kd I J P) := by
  refine ct_of 1 (by decide +kernel) (Nat.le_of_ble_eq_true rfl) rfl ?_
  refine r_iload_n dX10_valueOf_0 rfl ?_
  refine r_iconst (v := nI 3) dX10_valueOf_1 (by decide) ?_
  refine r_icmp_ne (tgt := 12) dX10_valueOf_2 (by decide) (fun hz => absurd (show _ from rfl) hz) (fun _ => ?_)
  refine r_aload_n dX10_valueOf_5 rfl ?_
  refine r_getR dX10_valueOf_6 fl_X10_13 rfl (kM_0 hM) (pM_4 hM) ?_
  refine r_iload_n dX10_valueOf_9 rfl ?_
  refine r_iald dX10_valueOf_10 (aM_4 hM) (nI_in8 8 (by omega) (by decide)) (nI_clamp (by omega)) ?_
  try simp (disch := omega) only [am_up_s, am_up_n, am_up_up]
  refine r_iret rfl dX10_valueOf_11 ?_
  exact am_is.mk

set_option maxHeartbeats 4000000 in
set_option maxRecDepth 100000 in
theorem c_X10_valueOf_debts (m h H a : Nat) {n : Nat} {kd : mK} {I : mI} {J : mJ} {P : mP} (hM : kM kd P m) (hh : h < 8) (hH : I m 1 = nI H) (hH8 : H ≤ 8) : Ct yX10_valueOf cX10_valueOf 4 (some .int) 1 0 0 [.ref m, .int (nI 4), .int (nI h)] n kd I J P (am_is (some (.int (I (m + 2) h))) n kd I J P) := by
  refine ct_of 1 (by decide +kernel) (Nat.le_of_ble_eq_true rfl) rfl ?_
  refine r_iload_n dX10_valueOf_0 rfl ?_
  refine r_iconst (v := nI 3) dX10_valueOf_1 (by decide) ?_
  refine r_icmp_ne (tgt := 12) dX10_valueOf_2 (by decide) (fun _ => ?_) (fun hz => absurd hz (show ¬ _ from (by decide)))
  refine r_iload_n dX10_valueOf_12 rfl ?_
  refine r_iconst (v := nI 4) dX10_valueOf_13 (by decide) ?_
  refine r_icmp_ne (tgt := 24) dX10_valueOf_14 (by decide) (fun hz => absurd (show _ from rfl) hz) (fun _ => ?_)
  refine r_aload_n dX10_valueOf_17 rfl ?_
  refine r_getR dX10_valueOf_18 fl_X10_17 rfl (kM_0 hM) (pM_5 hM) ?_
  refine r_iload_n dX10_valueOf_21 rfl ?_
  refine r_iald dX10_valueOf_22 (aM_5 hM) (nI_in8 8 (by omega) (by decide)) (nI_clamp (by omega)) ?_
  try simp (disch := omega) only [am_up_s, am_up_n, am_up_up]
  refine r_iret rfl dX10_valueOf_23 ?_
  exact am_is.mk

set_option maxHeartbeats 4000000 in
set_option maxRecDepth 100000 in
theorem c_X10_valueOf_most (m h H a : Nat) {n : Nat} {kd : mK} {I : mI} {J : mJ} {P : mP} (hM : kM kd P m) (hh : h < 8) (hH : I m 1 = nI H) (hH8 : H ≤ 8) : Ct yX10_valueOf cX10_valueOf 4 (some .int) 1 0 0 [.ref m, .int (nI 5), .int (nI h)] n kd I J P (am_is (some (.int (I m 2))) n kd I J P) := by
  refine ct_of 1 (by decide +kernel) (Nat.le_of_ble_eq_true rfl) rfl ?_
  refine r_iload_n dX10_valueOf_0 rfl ?_
  refine r_iconst (v := nI 3) dX10_valueOf_1 (by decide) ?_
  refine r_icmp_ne (tgt := 12) dX10_valueOf_2 (by decide) (fun _ => ?_) (fun hz => absurd hz (show ¬ _ from (by decide)))
  refine r_iload_n dX10_valueOf_12 rfl ?_
  refine r_iconst (v := nI 4) dX10_valueOf_13 (by decide) ?_
  refine r_icmp_ne (tgt := 24) dX10_valueOf_14 (by decide) (fun _ => ?_) (fun hz => absurd hz (show ¬ _ from (by decide)))
  refine r_iload_n dX10_valueOf_24 rfl ?_
  refine r_iconst (v := nI 5) dX10_valueOf_25 (by decide) ?_
  refine r_icmp_ne (tgt := 34) dX10_valueOf_26 (by decide) (fun hz => absurd (show _ from rfl) hz) (fun _ => ?_)
  refine r_aload_n dX10_valueOf_29 rfl ?_
  refine r_getI dX10_valueOf_30 fl_X10_7 rfl (kM_0 hM) ?_
  try simp (disch := omega) only [am_up_s, am_up_n, am_up_up]
  refine r_iret rfl dX10_valueOf_33 ?_
  exact am_is.mk

set_option maxHeartbeats 4000000 in
set_option maxRecDepth 100000 in
theorem c_X10_valueOf_before (m h H a : Nat) {n : Nat} {kd : mK} {I : mI} {J : mJ} {P : mP} (hM : kM kd P m) (hh : h < 8) (hH : I m 1 = nI H) (hH8 : H ≤ 8) : Ct yX10_valueOf cX10_valueOf 4 (some .int) 1 0 0 [.ref m, .int (nI 13), .int (nI h)] n kd I J P (am_is (some (.int (nI 0))) n kd I J P) := by
  refine ct_of 1 (by decide +kernel) (Nat.le_of_ble_eq_true rfl) rfl ?_
  refine r_iload_n dX10_valueOf_0 rfl ?_
  refine r_iconst (v := nI 3) dX10_valueOf_1 (by decide) ?_
  refine r_icmp_ne (tgt := 12) dX10_valueOf_2 (by decide) (fun _ => ?_) (fun hz => absurd hz (show ¬ _ from (by decide)))
  refine r_iload_n dX10_valueOf_12 rfl ?_
  refine r_iconst (v := nI 4) dX10_valueOf_13 (by decide) ?_
  refine r_icmp_ne (tgt := 24) dX10_valueOf_14 (by decide) (fun _ => ?_) (fun hz => absurd hz (show ¬ _ from (by decide)))
  refine r_iload_n dX10_valueOf_24 rfl ?_
  refine r_iconst (v := nI 5) dX10_valueOf_25 (by decide) ?_
  refine r_icmp_ne (tgt := 34) dX10_valueOf_26 (by decide) (fun _ => ?_) (fun hz => absurd hz (show ¬ _ from (by decide)))
  refine r_iload_n dX10_valueOf_34 rfl ?_
  refine r_bipush (v := nI 13) dX10_valueOf_35 (by decide) ?_
  refine r_isub dX10_valueOf_37 ?_
  refine r_iconst (v := nI 1) dX10_valueOf_38 (by decide) ?_
  refine r_isub dX10_valueOf_39 ?_
  rw [show nI 13 - nI 13 - nI 1 = (-1 : Int32) from by decide]
  refine r_istore_n dX10_valueOf_40 (by decide) ?_
  refine r_iload_n dX10_valueOf_41 rfl ?_
  refine r_if_lt (tgt := 53) dX10_valueOf_42 (by decide) (fun _ => ?_) (fun hz => absurd (show _ from (by decide)) hz)
  refine r_iconst (v := nI 0) dX10_valueOf_53 (by decide) ?_
  refine r_goto (tgt := 63) dX10_valueOf_54 (by decide) ?_
  refine r_iret rfl dX10_valueOf_63 ?_
  exact am_is.mk

set_option maxHeartbeats 4000000 in
set_option maxRecDepth 100000 in
theorem c_X10_valueOf_in (m h H a : Nat) {n : Nat} {kd : mK} {I : mI} {J : mJ} {P : mP} (hM : kM kd P m) (hh : h < 8) (hH : I m 1 = nI H) (hH8 : H ≤ 8) (ha : a < H) : Ct yX10_valueOf cX10_valueOf 4 (some .int) 1 0 0 [.ref m, .int (nI (a + 14)), .int (nI h)] n kd I J P (am_is (some (.int (I (m + 25) a))) n kd I J P) := by
  refine ct_of 1 (by decide +kernel) (Nat.le_of_ble_eq_true rfl) rfl ?_
  refine r_iload_n dX10_valueOf_0 rfl ?_
  refine r_iconst (v := nI 3) dX10_valueOf_1 (by decide) ?_
  refine r_icmp_ne (tgt := 12) dX10_valueOf_2 (by decide) (fun _ => ?_) (fun hz => absurd hz (show ¬ _ from (by rw [nI_eq (by omega) (by omega)]; omega)))
  refine r_iload_n dX10_valueOf_12 rfl ?_
  refine r_iconst (v := nI 4) dX10_valueOf_13 (by decide) ?_
  refine r_icmp_ne (tgt := 24) dX10_valueOf_14 (by decide) (fun _ => ?_) (fun hz => absurd hz (show ¬ _ from (by rw [nI_eq (by omega) (by omega)]; omega)))
  refine r_iload_n dX10_valueOf_24 rfl ?_
  refine r_iconst (v := nI 5) dX10_valueOf_25 (by decide) ?_
  refine r_icmp_ne (tgt := 34) dX10_valueOf_26 (by decide) (fun _ => ?_) (fun hz => absurd hz (show ¬ _ from (by rw [nI_eq (by omega) (by omega)]; omega)))
  refine r_iload_n dX10_valueOf_34 rfl ?_
  refine r_bipush (v := nI 13) dX10_valueOf_35 (by decide) ?_
  refine r_isub dX10_valueOf_37 ?_
  rw [pk_sub (by omega : 13 ≤ a + 14), show a + 14 - 13 = a + 1 by omega]
  refine r_iconst (v := nI 1) dX10_valueOf_38 (by decide) ?_
  refine r_isub dX10_valueOf_39 ?_
  rw [nI_s1]
  refine r_istore_n dX10_valueOf_40 (by decide) ?_
  refine r_iload_n dX10_valueOf_41 rfl ?_
  refine r_if_lt (tgt := 53) dX10_valueOf_42 (by decide) (fun hz => absurd hz (show ¬ _ from (z_nlt (by omega)))) (fun _ => ?_)
  refine r_iload_n dX10_valueOf_45 rfl ?_
  refine r_aload_n dX10_valueOf_46 rfl ?_
  refine r_getI dX10_valueOf_47 fl_X10_350 rfl (kM_0 hM) ?_
  try simp (disch := omega) only [am_up_s, am_up_n, am_up_up]
  rw [hH]
  refine r_icmp_lt (tgt := 57) dX10_valueOf_50 (by decide) (fun _ => ?_) (fun hz => absurd (show _ from (by rw [nI_ltI (by omega) (by omega)]; omega)) hz)
  refine r_aload_n dX10_valueOf_57 rfl ?_
  refine r_getR dX10_valueOf_58 fl_X10_90 rfl (kM_0 hM) (pM_49 hM) ?_
  refine r_iload_n dX10_valueOf_61 rfl ?_
  refine r_iald dX10_valueOf_62 (aM_49 hM) (nI_in8 8 (by omega) (by decide)) (nI_clamp (by omega)) ?_
  try simp (disch := omega) only [am_up_s, am_up_n, am_up_up]
  refine r_iret rfl dX10_valueOf_63 ?_
  exact am_is.mk

set_option maxHeartbeats 4000000 in
set_option maxRecDepth 100000 in
theorem c_X10_valueOf_out (m h H a : Nat) {n : Nat} {kd : mK} {I : mI} {J : mJ} {P : mP} (hM : kM kd P m) (hh : h < 8) (hH : I m 1 = nI H) (hH8 : H ≤ 8) (ha : H ≤ a) (ha2 : a < 1000) : Ct yX10_valueOf cX10_valueOf 4 (some .int) 1 0 0 [.ref m, .int (nI (a + 14)), .int (nI h)] n kd I J P (am_is (some (.int (nI 0))) n kd I J P) := by
  refine ct_of 1 (by decide +kernel) (Nat.le_of_ble_eq_true rfl) rfl ?_
  refine r_iload_n dX10_valueOf_0 rfl ?_
  refine r_iconst (v := nI 3) dX10_valueOf_1 (by decide) ?_
  refine r_icmp_ne (tgt := 12) dX10_valueOf_2 (by decide) (fun _ => ?_) (fun hz => absurd hz (show ¬ _ from (by rw [nI_eq (by omega) (by omega)]; omega)))
  refine r_iload_n dX10_valueOf_12 rfl ?_
  refine r_iconst (v := nI 4) dX10_valueOf_13 (by decide) ?_
  refine r_icmp_ne (tgt := 24) dX10_valueOf_14 (by decide) (fun _ => ?_) (fun hz => absurd hz (show ¬ _ from (by rw [nI_eq (by omega) (by omega)]; omega)))
  refine r_iload_n dX10_valueOf_24 rfl ?_
  refine r_iconst (v := nI 5) dX10_valueOf_25 (by decide) ?_
  refine r_icmp_ne (tgt := 34) dX10_valueOf_26 (by decide) (fun _ => ?_) (fun hz => absurd hz (show ¬ _ from (by rw [nI_eq (by omega) (by omega)]; omega)))
  refine r_iload_n dX10_valueOf_34 rfl ?_
  refine r_bipush (v := nI 13) dX10_valueOf_35 (by decide) ?_
  refine r_isub dX10_valueOf_37 ?_
  rw [pk_sub (by omega : 13 ≤ a + 14), show a + 14 - 13 = a + 1 by omega]
  refine r_iconst (v := nI 1) dX10_valueOf_38 (by decide) ?_
  refine r_isub dX10_valueOf_39 ?_
  rw [nI_s1]
  refine r_istore_n dX10_valueOf_40 (by decide) ?_
  refine r_iload_n dX10_valueOf_41 rfl ?_
  refine r_if_lt (tgt := 53) dX10_valueOf_42 (by decide) (fun hz => absurd hz (show ¬ _ from (z_nlt (by omega)))) (fun _ => ?_)
  refine r_iload_n dX10_valueOf_45 rfl ?_
  refine r_aload_n dX10_valueOf_46 rfl ?_
  refine r_getI dX10_valueOf_47 fl_X10_350 rfl (kM_0 hM) ?_
  try simp (disch := omega) only [am_up_s, am_up_n, am_up_up]
  rw [hH]
  refine r_icmp_lt (tgt := 57) dX10_valueOf_50 (by decide) (fun hz => absurd hz (show ¬ _ from (by rw [nI_ltI (by omega) (by omega)]; omega))) (fun _ => ?_)
  refine r_iconst (v := nI 0) dX10_valueOf_53 (by decide) ?_
  refine r_goto (tgt := 63) dX10_valueOf_54 (by decide) ?_
  refine r_iret rfl dX10_valueOf_63 ?_
  exact am_is.mk

