def mWP : List (Nat × Nat × Nat) := [(68, 0, 55), (263, 264, 55), (298, 299, 55), (305, 306, 55), (337, 338, 55), (345, 346, 55), (349, 350, 55), (353, 354, 55), (357, 358, 55), (361, 362, 55), (373, 374, 55), (396, 397, 55), (421, 422, 55), (429, 430, 55), (433, 434, 55), (438, 439, 55), (471, 472, 55), (476, 477, 55), (488, 489, 55), (513, 514, 55), (522, 523, 55), (555, 556, 55), (560, 561, 55), (582, 583, 55), (589, 590, 55), (618, 619, 55), (635, 636, 55), (640, 641, 55), (644, 645, 55), (649, 650, 55), (656, 657, 55), (661, 662, 55), (666, 667, 55), (270, 0, 55), (267, 0, 55), (302, 0, 55), (313, 0, 55), (593, 0, 55), (653, 0, 55), (381, 0, 55), (76, 0, 56), (568, 569, 56), (274, 275, 56), (278, 279, 56), (341, 342, 56), (309, 310, 56), (377, 378, 56), (425, 426, 56), (400, 401, 56), (408, 409, 56), (412, 413, 56), (564, 565, 56), (492, 493, 56), (505, 2, 56), (509, 3, 56), (517, 518, 56), (526, 527, 56), (530, 531, 56), (535, 4, 56), (541, 5, 56), (548, 6, 56), (552, 7, 56), (600, 601, 56), (608, 609, 56), (604, 605, 56), (614, 615, 56), (108, 0, 58), (319, 320, 58), (573, 574, 58), (404, 405, 58), (366, 367, 58), (323, 324, 58), (334, 1, 58), (229, 0, 59), (596, 597, 59), (622, 623, 59), (631, 632, 59), (627, 628, 59), (84, 0, 57), (480, 481, 57), (282, 283, 57), (385, 386, 57), (287, 0, 57), (416, 417, 57), (442, 443, 57), (451, 452, 57), (456, 457, 57), (461, 462, 57), (465, 466, 57), (392, 393, 57), (672, 0, 60), (731, 0, 60), (1022, 0, 60), (736, 8, 60), (774, 12, 60), (770, 11, 60), (728, 0, 60), (743, 0, 60), (762, 10, 60), (838, 0, 60), (831, 0, 60), (724, 725, 60), (739, 740, 60), (751, 0, 60), (757, 9, 60), (747, 748, 60), (765, 766, 60), (781, 0, 60), (777, 778, 60), (787, 788, 60), (803, 0, 60), (800, 0, 60), (797, 13, 60), (809, 14, 60), (792, 793, 60), (816, 0, 60), (812, 813, 60), (846, 17, 60), (850, 18, 60), (842, 16, 60), (854, 19, 60), (819, 820, 60), (858, 20, 60), (834, 835, 60), (861, 862, 60), (865, 866, 60), (875, 21, 60), (869, 870, 60), (827, 0, 60), (824, 15, 60), (896, 25, 60), (928, 30, 60), (892, 24, 60), (888, 23, 60), (884, 22, 60), (878, 879, 60), (905, 26, 60), (900, 901, 60), (924, 29, 60), (932, 31, 60), (936, 32, 60), (940, 33, 60), (944, 34, 60), (920, 28, 60), (949, 35, 60), (916, 27, 60), (908, 909, 60), (952, 953, 60), (966, 37, 60), (970, 38, 60), (961, 36, 60), (956, 957, 60), (978, 39, 60), (973, 974, 60), (990, 41, 60), (995, 42, 60), (999, 43, 60), (1003, 44, 60), (986, 40, 60), (981, 982, 60), (1011, 45, 60), (1006, 1007, 60), (1019, 46, 60), (1014, 1015, 60), (1026, 1027, 60), (1035, 0, 60), (1087, 52, 60), (1047, 49, 60), (1043, 48, 60), (1039, 47, 60), (1051, 50, 60), (1055, 51, 60), (1031, 1032, 60), (1058, 1059, 60), (1062, 1063, 60), (1066, 1067, 60), (1070, 1071, 60), (1078, 1079, 60), (1082, 1083, 60), (1090, 1091, 60), (1099, 53, 60), (1094, 1095, 60), (290, 0, 61), (295, 0, 61), (389, 0, 61), (446, 0, 61), (498, 0, 64)]
def mwOk (j : Nat) (e : Nat × Nat × Nat) : Prop := lw_tbl[mps j]? = some (.code (mmn j) (mby j) (mml j) (mrt j)) ∧ lw_tbl[e.1]? = some (if mst j = true then .static (mmn j) else .instanceMethod (mmn j)) ∧ (mst j = false → (mmn j).name ≠ "<init>" → lw_tbl[e.2.1]? = some (.selects (mcn (moi j)) (mmn j) (mmn j))) ∧ lw_tbl[e.2.2]? = some (.initialized (mcn (moi j))) ∧ (mmn j).cls = mcn (moi j) ∧ plainName (mmn j).cls = true ∧ ((mmn j).cls ≠ "java/lang/invoke/MethodHandle" ∧ (mmn j).cls ≠ "java/lang/invoke/VarHandle") ∧ (parseMethodDescriptor (mmn j).desc).map (fun d => d.parameters.length) = some (mna j) ∧ mml j ≤ 14
def mwB (j : Nat) (e : Nat × Nat × Nat) : Bool := (decide (lw_tbl[mps j]? = some (.code (mmn j) (mby j) (mml j) (mrt j)))) && (decide (lw_tbl[e.1]? = some (if mst j = true then .static (mmn j) else .instanceMethod (mmn j)))) && (mst j || decide ((mmn j).name = "<init>") || decide (lw_tbl[e.2.1]? = some (.selects (mcn (moi j)) (mmn j) (mmn j)))) && (decide (lw_tbl[e.2.2]? = some (.initialized (mcn (moi j))))) && (decide ((mmn j).cls = mcn (moi j))) && (plainName (mmn j).cls) && (decide ((mmn j).cls ≠ "java/lang/invoke/MethodHandle")) && (decide ((mmn j).cls ≠ "java/lang/invoke/VarHandle")) && (decide ((parseMethodDescriptor (mmn j).desc).map (fun d => d.parameters.length) = some (mna j))) && (decide (mml j ≤ 14))
theorem mwOk_dec (j : Nat) (e : Nat × Nat × Nat) (h : mwB j e = true) : mwOk j e := by
  simp only [mwB, Bool.and_eq_true, Bool.or_eq_true, decide_eq_true_eq] at h
  obtain ⟨⟨⟨⟨⟨⟨⟨⟨⟨h1, h2⟩, h3⟩, h4⟩, h5⟩, h6⟩, h7⟩, h8⟩, h9⟩, h10⟩ := h
  refine ⟨h1, h2, fun a b => ?_, h4, h5, h6, ⟨h7, h8⟩, h9, h10⟩
  rcases h3 with (h3 | h3) | h3
  · rw [a] at h3; cases h3
  · exact absurd h3 b
  · exact h3
set_option maxRecDepth 100000 in
theorem mW_0 : ∀ j, 0 ≤ j → j < 24 → mwOk j (mWP.getD j (0, 0, 0)) := by
  have key : ((List.range 24).all fun i => mwB (0 + i) (mWP.getD (0 + i) (0, 0, 0))) = true := by decide +kernel
  intro j h1 h2
  have h3 := List.all_eq_true.mp key (j - 0) (List.mem_range.mpr (by omega))
  have e : 0 + (j - 0) = j := by omega
  rw [e] at h3
  exact mwOk_dec _ _ h3
set_option maxRecDepth 100000 in
theorem mW_24 : ∀ j, 24 ≤ j → j < 48 → mwOk j (mWP.getD j (0, 0, 0)) := by
  have key : ((List.range 24).all fun i => mwB (24 + i) (mWP.getD (24 + i) (0, 0, 0))) = true := by decide +kernel
  intro j h1 h2
  have h3 := List.all_eq_true.mp key (j - 24) (List.mem_range.mpr (by omega))
  have e : 24 + (j - 24) = j := by omega
  rw [e] at h3
  exact mwOk_dec _ _ h3
set_option maxRecDepth 100000 in
theorem mW_48 : ∀ j, 48 ≤ j → j < 72 → mwOk j (mWP.getD j (0, 0, 0)) := by
  have key : ((List.range 24).all fun i => mwB (48 + i) (mWP.getD (48 + i) (0, 0, 0))) = true := by decide +kernel
  intro j h1 h2
  have h3 := List.all_eq_true.mp key (j - 48) (List.mem_range.mpr (by omega))
  have e : 48 + (j - 48) = j := by omega
  rw [e] at h3
  exact mwOk_dec _ _ h3
set_option maxRecDepth 100000 in
theorem mW_72 : ∀ j, 72 ≤ j → j < 96 → mwOk j (mWP.getD j (0, 0, 0)) := by
  have key : ((List.range 24).all fun i => mwB (72 + i) (mWP.getD (72 + i) (0, 0, 0))) = true := by decide +kernel
  intro j h1 h2
  have h3 := List.all_eq_true.mp key (j - 72) (List.mem_range.mpr (by omega))
  have e : 72 + (j - 72) = j := by omega
  rw [e] at h3
  exact mwOk_dec _ _ h3
set_option maxRecDepth 100000 in
theorem mW_96 : ∀ j, 96 ≤ j → j < 120 → mwOk j (mWP.getD j (0, 0, 0)) := by
  have key : ((List.range 24).all fun i => mwB (96 + i) (mWP.getD (96 + i) (0, 0, 0))) = true := by decide +kernel
  intro j h1 h2
  have h3 := List.all_eq_true.mp key (j - 96) (List.mem_range.mpr (by omega))
  have e : 96 + (j - 96) = j := by omega
  rw [e] at h3
  exact mwOk_dec _ _ h3
set_option maxRecDepth 100000 in
theorem mW_120 : ∀ j, 120 ≤ j → j < 144 → mwOk j (mWP.getD j (0, 0, 0)) := by
  have key : ((List.range 24).all fun i => mwB (120 + i) (mWP.getD (120 + i) (0, 0, 0))) = true := by decide +kernel
  intro j h1 h2
  have h3 := List.all_eq_true.mp key (j - 120) (List.mem_range.mpr (by omega))
  have e : 120 + (j - 120) = j := by omega
  rw [e] at h3
  exact mwOk_dec _ _ h3
set_option maxRecDepth 100000 in
theorem mW_144 : ∀ j, 144 ≤ j → j < 168 → mwOk j (mWP.getD j (0, 0, 0)) := by
  have key : ((List.range 24).all fun i => mwB (144 + i) (mWP.getD (144 + i) (0, 0, 0))) = true := by decide +kernel
  intro j h1 h2
  have h3 := List.all_eq_true.mp key (j - 144) (List.mem_range.mpr (by omega))
  have e : 144 + (j - 144) = j := by omega
  rw [e] at h3
  exact mwOk_dec _ _ h3
set_option maxRecDepth 100000 in
theorem mW_168 : ∀ j, 168 ≤ j → j < 187 → mwOk j (mWP.getD j (0, 0, 0)) := by
  have key : ((List.range 19).all fun i => mwB (168 + i) (mWP.getD (168 + i) (0, 0, 0))) = true := by decide +kernel
  intro j h1 h2
  have h3 := List.all_eq_true.mp key (j - 168) (List.mem_range.mpr (by omega))
  have e : 168 + (j - 168) = j := by omega
  rw [e] at h3
  exact mwOk_dec _ _ h3
theorem mW_ok {j : Nat} (h : mok j = true) : mwOk j (mWP.getD j (0, 0, 0)) := by
  have h : j < 187 := by simpa [mok] using h
  by_cases h24 : j < 24
  · exact mW_0 j (by omega) h24
  by_cases h48 : j < 48
  · exact mW_24 j (by omega) h48
  by_cases h72 : j < 72
  · exact mW_48 j (by omega) h72
  by_cases h96 : j < 96
  · exact mW_72 j (by omega) h96
  by_cases h120 : j < 120
  · exact mW_96 j (by omega) h120
  by_cases h144 : j < 144
  · exact mW_120 j (by omega) h144
  by_cases h168 : j < 168
  · exact mW_144 j (by omega) h168
  by_cases h187 : j < 187
  · exact mW_168 j (by omega) h187
  omega
