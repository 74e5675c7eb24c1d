/-! LAWS TRIED: the reference -/
theorem dX10_keepsStreet_0 : decode cX10_keepsStreet 0 = .ok (.aload_n 0, 1) := by decide +kernel
theorem dX10_keepsStreet_1 : decode cX10_keepsStreet 1 = .ok (.aload_n 0, 1) := by decide +kernel
theorem dX10_keepsStreet_2 : decode cX10_keepsStreet 2 = .ok (.getfield 350, 3) := by decide +kernel
theorem dX10_keepsStreet_5 : decode cX10_keepsStreet 5 = .ok (.putfield 548, 3) := by decide +kernel
theorem dX10_keepsStreet_8 : decode cX10_keepsStreet 8 = .ok (.aload_n 0, 1) := by decide +kernel
theorem dX10_keepsStreet_9 : decode cX10_keepsStreet 9 = .ok (.aload_n 0, 1) := by decide +kernel
theorem dX10_keepsStreet_10 : decode cX10_keepsStreet 10 = .ok (.getfield 13, 3) := by decide +kernel
theorem dX10_keepsStreet_13 : decode cX10_keepsStreet 13 = .ok (.aload_n 0, 1) := by decide +kernel
theorem dX10_keepsStreet_14 : decode cX10_keepsStreet 14 = .ok (.getfield 148, 3) := by decide +kernel
theorem dX10_keepsStreet_17 : decode cX10_keepsStreet 17 = .ok (.invokevirtual 356, 3) := by decide +kernel
theorem dX10_keepsStreet_20 : decode cX10_keepsStreet 20 = .ok (.aload_n 0, 1) := by decide +kernel
theorem dX10_keepsStreet_21 : decode cX10_keepsStreet 21 = .ok (.aload_n 0, 1) := by decide +kernel
theorem dX10_keepsStreet_22 : decode cX10_keepsStreet 22 = .ok (.getfield 17, 3) := by decide +kernel
theorem dX10_keepsStreet_25 : decode cX10_keepsStreet 25 = .ok (.aload_n 0, 1) := by decide +kernel
theorem dX10_keepsStreet_26 : decode cX10_keepsStreet 26 = .ok (.getfield 151, 3) := by decide +kernel
theorem dX10_keepsStreet_29 : decode cX10_keepsStreet 29 = .ok (.invokevirtual 356, 3) := by decide +kernel
theorem dX10_keepsStreet_32 : decode cX10_keepsStreet 32 = .ok (.aload_n 0, 1) := by decide +kernel
theorem dX10_keepsStreet_33 : decode cX10_keepsStreet 33 = .ok (.aload_n 0, 1) := by decide +kernel
theorem dX10_keepsStreet_34 : decode cX10_keepsStreet 34 = .ok (.getfield 20, 3) := by decide +kernel
theorem dX10_keepsStreet_37 : decode cX10_keepsStreet 37 = .ok (.aload_n 0, 1) := by decide +kernel
theorem dX10_keepsStreet_38 : decode cX10_keepsStreet 38 = .ok (.getfield 154, 3) := by decide +kernel
theorem dX10_keepsStreet_41 : decode cX10_keepsStreet 41 = .ok (.invokevirtual 356, 3) := by decide +kernel
theorem dX10_keepsStreet_44 : decode cX10_keepsStreet 44 = .ok (.aload_n 0, 1) := by decide +kernel
theorem dX10_keepsStreet_45 : decode cX10_keepsStreet 45 = .ok (.aload_n 0, 1) := by decide +kernel
theorem dX10_keepsStreet_46 : decode cX10_keepsStreet 46 = .ok (.getfield 23, 3) := by decide +kernel
theorem dX10_keepsStreet_49 : decode cX10_keepsStreet 49 = .ok (.aload_n 0, 1) := by decide +kernel
theorem dX10_keepsStreet_50 : decode cX10_keepsStreet 50 = .ok (.getfield 157, 3) := by decide +kernel
theorem dX10_keepsStreet_53 : decode cX10_keepsStreet 53 = .ok (.invokevirtual 356, 3) := by decide +kernel
theorem dX10_keepsStreet_56 : decode cX10_keepsStreet 56 = .ok (.aload_n 0, 1) := by decide +kernel
theorem dX10_keepsStreet_57 : decode cX10_keepsStreet 57 = .ok (.aload_n 0, 1) := by decide +kernel
theorem dX10_keepsStreet_58 : decode cX10_keepsStreet 58 = .ok (.getfield 26, 3) := by decide +kernel
theorem dX10_keepsStreet_61 : decode cX10_keepsStreet 61 = .ok (.aload_n 0, 1) := by decide +kernel
theorem dX10_keepsStreet_62 : decode cX10_keepsStreet 62 = .ok (.getfield 160, 3) := by decide +kernel
theorem dX10_keepsStreet_65 : decode cX10_keepsStreet 65 = .ok (.invokevirtual 356, 3) := by decide +kernel
theorem dX10_keepsStreet_68 : decode cX10_keepsStreet 68 = .ok (.aload_n 0, 1) := by decide +kernel
theorem dX10_keepsStreet_69 : decode cX10_keepsStreet 69 = .ok (.aload_n 0, 1) := by decide +kernel
theorem dX10_keepsStreet_70 : decode cX10_keepsStreet 70 = .ok (.getfield 29, 3) := by decide +kernel
theorem dX10_keepsStreet_73 : decode cX10_keepsStreet 73 = .ok (.aload_n 0, 1) := by decide +kernel
theorem dX10_keepsStreet_74 : decode cX10_keepsStreet 74 = .ok (.getfield 163, 3) := by decide +kernel
theorem dX10_keepsStreet_77 : decode cX10_keepsStreet 77 = .ok (.invokevirtual 356, 3) := by decide +kernel
theorem dX10_keepsStreet_80 : decode cX10_keepsStreet 80 = .ok (.aload_n 0, 1) := by decide +kernel
theorem dX10_keepsStreet_81 : decode cX10_keepsStreet 81 = .ok (.aload_n 0, 1) := by decide +kernel
theorem dX10_keepsStreet_82 : decode cX10_keepsStreet 82 = .ok (.getfield 32, 3) := by decide +kernel
theorem dX10_keepsStreet_85 : decode cX10_keepsStreet 85 = .ok (.aload_n 0, 1) := by decide +kernel
theorem dX10_keepsStreet_86 : decode cX10_keepsStreet 86 = .ok (.getfield 166, 3) := by decide +kernel
theorem dX10_keepsStreet_89 : decode cX10_keepsStreet 89 = .ok (.invokevirtual 356, 3) := by decide +kernel
theorem dX10_keepsStreet_92 : decode cX10_keepsStreet 92 = .ok (.aload_n 0, 1) := by decide +kernel
theorem dX10_keepsStreet_93 : decode cX10_keepsStreet 93 = .ok (.aload_n 0, 1) := by decide +kernel
theorem dX10_keepsStreet_94 : decode cX10_keepsStreet 94 = .ok (.getfield 35, 3) := by decide +kernel
theorem dX10_keepsStreet_97 : decode cX10_keepsStreet 97 = .ok (.aload_n 0, 1) := by decide +kernel
theorem dX10_keepsStreet_98 : decode cX10_keepsStreet 98 = .ok (.getfield 169, 3) := by decide +kernel
theorem dX10_keepsStreet_101 : decode cX10_keepsStreet 101 = .ok (.invokevirtual 356, 3) := by decide +kernel
theorem dX10_keepsStreet_104 : decode cX10_keepsStreet 104 = .ok (.aload_n 0, 1) := by decide +kernel
theorem dX10_keepsStreet_105 : decode cX10_keepsStreet 105 = .ok (.aload_n 0, 1) := by decide +kernel
theorem dX10_keepsStreet_106 : decode cX10_keepsStreet 106 = .ok (.getfield 38, 3) := by decide +kernel
theorem dX10_keepsStreet_109 : decode cX10_keepsStreet 109 = .ok (.aload_n 0, 1) := by decide +kernel
theorem dX10_keepsStreet_110 : decode cX10_keepsStreet 110 = .ok (.getfield 172, 3) := by decide +kernel
theorem dX10_keepsStreet_113 : decode cX10_keepsStreet 113 = .ok (.invokevirtual 356, 3) := by decide +kernel
theorem dX10_keepsStreet_116 : decode cX10_keepsStreet 116 = .ok (.aload_n 0, 1) := by decide +kernel
theorem dX10_keepsStreet_117 : decode cX10_keepsStreet 117 = .ok (.aload_n 0, 1) := by decide +kernel
theorem dX10_keepsStreet_118 : decode cX10_keepsStreet 118 = .ok (.getfield 41, 3) := by decide +kernel
theorem dX10_keepsStreet_121 : decode cX10_keepsStreet 121 = .ok (.aload_n 0, 1) := by decide +kernel
theorem dX10_keepsStreet_122 : decode cX10_keepsStreet 122 = .ok (.getfield 175, 3) := by decide +kernel
theorem dX10_keepsStreet_125 : decode cX10_keepsStreet 125 = .ok (.invokevirtual 356, 3) := by decide +kernel
theorem dX10_keepsStreet_128 : decode cX10_keepsStreet 128 = .ok (.return_, 1) := by decide +kernel

set_option maxHeartbeats 4000000 in
set_option maxRecDepth 100000 in
theorem c_X10_keepsStreet (m : Nat) {n : Nat} {kd : mK} {I : mI} {J : mJ} {P : mP} (hM : kM kd P m) : Ct yX10_keepsStreet cX10_keepsStreet 1 none 2 0 0 [.ref m] n kd I J P (fun z n' kd' I' J' P' => z = .inl none ∧ n' = n ∧ kd' = kd ∧ J' = J ∧ P' = P ∧ (∀ a, a ≠ m → (a < m + 41 ∨ m + 50 < a) → I' a = I a) ∧ (∀ j, j ≠ 79 → I' m j = I m j)) := by
  refine ct_of 0 (by decide +kernel) (Nat.le_of_ble_eq_true rfl) rfl ?_
  refine r_aload_n dX10_keepsStreet_0 rfl ?_
  refine r_aload_n dX10_keepsStreet_1 rfl ?_
  refine r_getI dX10_keepsStreet_2 fl_X10_350 rfl (kM_0 hM) ?_
  refine r_putI dX10_keepsStreet_5 fl_X10_548 rfl rfl (kM_0 hM) ?_
  refine r_aload_n dX10_keepsStreet_8 rfl ?_
  refine r_aload_n dX10_keepsStreet_9 rfl ?_
  refine r_getR dX10_keepsStreet_10 fl_X10_13 rfl (kM_0 hM) (pM_4 hM) ?_
  refine r_aload_n dX10_keepsStreet_13 rfl ?_
  refine r_getR dX10_keepsStreet_14 fl_X10_148 rfl (kM_0 hM) (pM_80 hM) ?_
  refine r_virtV (c_X10_copies m (m + 1) (m + 41) 8 8 (aM_4 hM) (aM_80 hM) (by omega) (by decide) (by decide) (by decide)) lk_X10_356 mc_X10_copies dX10_keepsStreet_17 hM.1 (by decide) rfl rfl (Nat.le_of_ble_eq_true rfl) ?_
  refine r_aload_n dX10_keepsStreet_20 rfl ?_
  refine r_aload_n dX10_keepsStreet_21 rfl ?_
  refine r_getR dX10_keepsStreet_22 fl_X10_17 rfl (kM_0 hM) (pM_5 hM) ?_
  refine r_aload_n dX10_keepsStreet_25 rfl ?_
  refine r_getR dX10_keepsStreet_26 fl_X10_151 rfl (kM_0 hM) (pM_81 hM) ?_
  refine r_virtV (c_X10_copies m (m + 2) (m + 42) 8 8 (aM_5 hM) (aM_81 hM) (by omega) (by decide) (by decide) (by decide)) lk_X10_356 mc_X10_copies dX10_keepsStreet_29 hM.1 (by decide) rfl rfl (Nat.le_of_ble_eq_true rfl) ?_
  refine r_aload_n dX10_keepsStreet_32 rfl ?_
  refine r_aload_n dX10_keepsStreet_33 rfl ?_
  refine r_getR dX10_keepsStreet_34 fl_X10_20 rfl (kM_0 hM) (pM_6 hM) ?_
  refine r_aload_n dX10_keepsStreet_37 rfl ?_
  refine r_getR dX10_keepsStreet_38 fl_X10_154 rfl (kM_0 hM) (pM_82 hM) ?_
  refine r_virtV (c_X10_copies m (m + 3) (m + 43) 8 8 (aM_6 hM) (aM_82 hM) (by omega) (by decide) (by decide) (by decide)) lk_X10_356 mc_X10_copies dX10_keepsStreet_41 hM.1 (by decide) rfl rfl (Nat.le_of_ble_eq_true rfl) ?_
  refine r_aload_n dX10_keepsStreet_44 rfl ?_
  refine r_aload_n dX10_keepsStreet_45 rfl ?_
  refine r_getR dX10_keepsStreet_46 fl_X10_23 rfl (kM_0 hM) (pM_7 hM) ?_
  refine r_aload_n dX10_keepsStreet_49 rfl ?_
  refine r_getR dX10_keepsStreet_50 fl_X10_157 rfl (kM_0 hM) (pM_83 hM) ?_
  refine r_virtV (c_X10_copies m (m + 4) (m + 44) 8 8 (aM_7 hM) (aM_83 hM) (by omega) (by decide) (by decide) (by decide)) lk_X10_356 mc_X10_copies dX10_keepsStreet_53 hM.1 (by decide) rfl rfl (Nat.le_of_ble_eq_true rfl) ?_
  refine r_aload_n dX10_keepsStreet_56 rfl ?_
  refine r_aload_n dX10_keepsStreet_57 rfl ?_
  refine r_getR dX10_keepsStreet_58 fl_X10_26 rfl (kM_0 hM) (pM_8 hM) ?_
  refine r_aload_n dX10_keepsStreet_61 rfl ?_
  refine r_getR dX10_keepsStreet_62 fl_X10_160 rfl (kM_0 hM) (pM_84 hM) ?_
  refine r_virtV (c_X10_copies m (m + 5) (m + 45) 8 8 (aM_8 hM) (aM_84 hM) (by omega) (by decide) (by decide) (by decide)) lk_X10_356 mc_X10_copies dX10_keepsStreet_65 hM.1 (by decide) rfl rfl (Nat.le_of_ble_eq_true rfl) ?_
  refine r_aload_n dX10_keepsStreet_68 rfl ?_
  refine r_aload_n dX10_keepsStreet_69 rfl ?_
  refine r_getR dX10_keepsStreet_70 fl_X10_29 rfl (kM_0 hM) (pM_9 hM) ?_
  refine r_aload_n dX10_keepsStreet_73 rfl ?_
  refine r_getR dX10_keepsStreet_74 fl_X10_163 rfl (kM_0 hM) (pM_85 hM) ?_
  refine r_virtV (c_X10_copies m (m + 6) (m + 46) 8 8 (aM_9 hM) (aM_85 hM) (by omega) (by decide) (by decide) (by decide)) lk_X10_356 mc_X10_copies dX10_keepsStreet_77 hM.1 (by decide) rfl rfl (Nat.le_of_ble_eq_true rfl) ?_
  refine r_aload_n dX10_keepsStreet_80 rfl ?_
  refine r_aload_n dX10_keepsStreet_81 rfl ?_
  refine r_getR dX10_keepsStreet_82 fl_X10_32 rfl (kM_0 hM) (pM_10 hM) ?_
  refine r_aload_n dX10_keepsStreet_85 rfl ?_
  refine r_getR dX10_keepsStreet_86 fl_X10_166 rfl (kM_0 hM) (pM_86 hM) ?_
  refine r_virtV (c_X10_copies m (m + 7) (m + 47) 1300 1300 (aM_10 hM) (aM_86 hM) (by omega) (by decide) (by decide) (by decide)) lk_X10_356 mc_X10_copies dX10_keepsStreet_89 hM.1 (by decide) rfl rfl (Nat.le_of_ble_eq_true rfl) ?_
  refine r_aload_n dX10_keepsStreet_92 rfl ?_
  refine r_aload_n dX10_keepsStreet_93 rfl ?_
  refine r_getR dX10_keepsStreet_94 fl_X10_35 rfl (kM_0 hM) (pM_11 hM) ?_
  refine r_aload_n dX10_keepsStreet_97 rfl ?_
  refine r_getR dX10_keepsStreet_98 fl_X10_169 rfl (kM_0 hM) (pM_87 hM) ?_
  refine r_virtV (c_X10_copies m (m + 8) (m + 48) 500 500 (aM_11 hM) (aM_87 hM) (by omega) (by decide) (by decide) (by decide)) lk_X10_356 mc_X10_copies dX10_keepsStreet_101 hM.1 (by decide) rfl rfl (Nat.le_of_ble_eq_true rfl) ?_
  refine r_aload_n dX10_keepsStreet_104 rfl ?_
  refine r_aload_n dX10_keepsStreet_105 rfl ?_
  refine r_getR dX10_keepsStreet_106 fl_X10_38 rfl (kM_0 hM) (pM_12 hM) ?_
  refine r_aload_n dX10_keepsStreet_109 rfl ?_
  refine r_getR dX10_keepsStreet_110 fl_X10_172 rfl (kM_0 hM) (pM_88 hM) ?_
  refine r_virtV (c_X10_copies m (m + 9) (m + 49) 8 8 (aM_12 hM) (aM_88 hM) (by omega) (by decide) (by decide) (by decide)) lk_X10_356 mc_X10_copies dX10_keepsStreet_113 hM.1 (by decide) rfl rfl (Nat.le_of_ble_eq_true rfl) ?_
  refine r_aload_n dX10_keepsStreet_116 rfl ?_
  refine r_aload_n dX10_keepsStreet_117 rfl ?_
  refine r_getR dX10_keepsStreet_118 fl_X10_41 rfl (kM_0 hM) (pM_13 hM) ?_
  refine r_aload_n dX10_keepsStreet_121 rfl ?_
  refine r_getR dX10_keepsStreet_122 fl_X10_175 rfl (kM_0 hM) (pM_89 hM) ?_
  refine r_virtV (c_X10_copies m (m + 10) (m + 50) 8 8 (aM_13 hM) (aM_89 hM) (by omega) (by decide) (by decide) (by decide)) lk_X10_356 mc_X10_copies dX10_keepsStreet_125 hM.1 (by decide) rfl rfl (Nat.le_of_ble_eq_true rfl) ?_
  refine r_vret rfl dX10_keepsStreet_128 ?_
  refine ⟨rfl, rfl, rfl, rfl, rfl, fun a a1 a2 => ?_, fun j hj => ?_⟩
  · rw [am_up_n _ _ (by omega), am_up_n _ _ (by omega), am_up_n _ _ (by omega), am_up_n _ _ (by omega), am_up_n _ _ (by omega), am_up_n _ _ (by omega), am_up_n _ _ (by omega), am_up_n _ _ (by omega), am_up_n _ _ (by omega), am_up_n _ _ (by omega), am_up_n _ _ (by omega)]
  · rw [am_up_n _ _ (by omega), am_up_n _ _ (by omega), am_up_n _ _ (by omega), am_up_n _ _ (by omega), am_up_n _ _ (by omega), am_up_n _ _ (by omega), am_up_n _ _ (by omega), am_up_n _ _ (by omega), am_up_n _ _ (by omega), am_up_n _ _ (by omega), am_up_s, am_up_n _ _ hj]

theorem dX10_takesStreet_0 : decode cX10_takesStreet 0 = .ok (.aload_n 0, 1) := by decide +kernel
theorem dX10_takesStreet_1 : decode cX10_takesStreet 1 = .ok (.aload_n 0, 1) := by decide +kernel
theorem dX10_takesStreet_2 : decode cX10_takesStreet 2 = .ok (.getfield 548, 3) := by decide +kernel
theorem dX10_takesStreet_5 : decode cX10_takesStreet 5 = .ok (.putfield 350, 3) := by decide +kernel
theorem dX10_takesStreet_8 : decode cX10_takesStreet 8 = .ok (.aload_n 0, 1) := by decide +kernel
theorem dX10_takesStreet_9 : decode cX10_takesStreet 9 = .ok (.aload_n 0, 1) := by decide +kernel
theorem dX10_takesStreet_10 : decode cX10_takesStreet 10 = .ok (.getfield 148, 3) := by decide +kernel
theorem dX10_takesStreet_13 : decode cX10_takesStreet 13 = .ok (.aload_n 0, 1) := by decide +kernel
theorem dX10_takesStreet_14 : decode cX10_takesStreet 14 = .ok (.getfield 13, 3) := by decide +kernel
theorem dX10_takesStreet_17 : decode cX10_takesStreet 17 = .ok (.invokevirtual 356, 3) := by decide +kernel
theorem dX10_takesStreet_20 : decode cX10_takesStreet 20 = .ok (.aload_n 0, 1) := by decide +kernel
theorem dX10_takesStreet_21 : decode cX10_takesStreet 21 = .ok (.aload_n 0, 1) := by decide +kernel
theorem dX10_takesStreet_22 : decode cX10_takesStreet 22 = .ok (.getfield 151, 3) := by decide +kernel
theorem dX10_takesStreet_25 : decode cX10_takesStreet 25 = .ok (.aload_n 0, 1) := by decide +kernel
theorem dX10_takesStreet_26 : decode cX10_takesStreet 26 = .ok (.getfield 17, 3) := by decide +kernel
theorem dX10_takesStreet_29 : decode cX10_takesStreet 29 = .ok (.invokevirtual 356, 3) := by decide +kernel
theorem dX10_takesStreet_32 : decode cX10_takesStreet 32 = .ok (.aload_n 0, 1) := by decide +kernel
theorem dX10_takesStreet_33 : decode cX10_takesStreet 33 = .ok (.aload_n 0, 1) := by decide +kernel
theorem dX10_takesStreet_34 : decode cX10_takesStreet 34 = .ok (.getfield 154, 3) := by decide +kernel
theorem dX10_takesStreet_37 : decode cX10_takesStreet 37 = .ok (.aload_n 0, 1) := by decide +kernel
theorem dX10_takesStreet_38 : decode cX10_takesStreet 38 = .ok (.getfield 20, 3) := by decide +kernel
theorem dX10_takesStreet_41 : decode cX10_takesStreet 41 = .ok (.invokevirtual 356, 3) := by decide +kernel
theorem dX10_takesStreet_44 : decode cX10_takesStreet 44 = .ok (.aload_n 0, 1) := by decide +kernel
theorem dX10_takesStreet_45 : decode cX10_takesStreet 45 = .ok (.aload_n 0, 1) := by decide +kernel
theorem dX10_takesStreet_46 : decode cX10_takesStreet 46 = .ok (.getfield 157, 3) := by decide +kernel
theorem dX10_takesStreet_49 : decode cX10_takesStreet 49 = .ok (.aload_n 0, 1) := by decide +kernel
theorem dX10_takesStreet_50 : decode cX10_takesStreet 50 = .ok (.getfield 23, 3) := by decide +kernel
theorem dX10_takesStreet_53 : decode cX10_takesStreet 53 = .ok (.invokevirtual 356, 3) := by decide +kernel
theorem dX10_takesStreet_56 : decode cX10_takesStreet 56 = .ok (.aload_n 0, 1) := by decide +kernel
theorem dX10_takesStreet_57 : decode cX10_takesStreet 57 = .ok (.aload_n 0, 1) := by decide +kernel
theorem dX10_takesStreet_58 : decode cX10_takesStreet 58 = .ok (.getfield 160, 3) := by decide +kernel
theorem dX10_takesStreet_61 : decode cX10_takesStreet 61 = .ok (.aload_n 0, 1) := by decide +kernel
theorem dX10_takesStreet_62 : decode cX10_takesStreet 62 = .ok (.getfield 26, 3) := by decide +kernel
theorem dX10_takesStreet_65 : decode cX10_takesStreet 65 = .ok (.invokevirtual 356, 3) := by decide +kernel
theorem dX10_takesStreet_68 : decode cX10_takesStreet 68 = .ok (.aload_n 0, 1) := by decide +kernel
theorem dX10_takesStreet_69 : decode cX10_takesStreet 69 = .ok (.aload_n 0, 1) := by decide +kernel
theorem dX10_takesStreet_70 : decode cX10_takesStreet 70 = .ok (.getfield 163, 3) := by decide +kernel
theorem dX10_takesStreet_73 : decode cX10_takesStreet 73 = .ok (.aload_n 0, 1) := by decide +kernel
theorem dX10_takesStreet_74 : decode cX10_takesStreet 74 = .ok (.getfield 29, 3) := by decide +kernel
theorem dX10_takesStreet_77 : decode cX10_takesStreet 77 = .ok (.invokevirtual 356, 3) := by decide +kernel
theorem dX10_takesStreet_80 : decode cX10_takesStreet 80 = .ok (.aload_n 0, 1) := by decide +kernel
theorem dX10_takesStreet_81 : decode cX10_takesStreet 81 = .ok (.aload_n 0, 1) := by decide +kernel
theorem dX10_takesStreet_82 : decode cX10_takesStreet 82 = .ok (.getfield 166, 3) := by decide +kernel
theorem dX10_takesStreet_85 : decode cX10_takesStreet 85 = .ok (.aload_n 0, 1) := by decide +kernel
theorem dX10_takesStreet_86 : decode cX10_takesStreet 86 = .ok (.getfield 32, 3) := by decide +kernel
theorem dX10_takesStreet_89 : decode cX10_takesStreet 89 = .ok (.invokevirtual 356, 3) := by decide +kernel
theorem dX10_takesStreet_92 : decode cX10_takesStreet 92 = .ok (.aload_n 0, 1) := by decide +kernel
theorem dX10_takesStreet_93 : decode cX10_takesStreet 93 = .ok (.aload_n 0, 1) := by decide +kernel
theorem dX10_takesStreet_94 : decode cX10_takesStreet 94 = .ok (.getfield 169, 3) := by decide +kernel
theorem dX10_takesStreet_97 : decode cX10_takesStreet 97 = .ok (.aload_n 0, 1) := by decide +kernel
theorem dX10_takesStreet_98 : decode cX10_takesStreet 98 = .ok (.getfield 35, 3) := by decide +kernel
theorem dX10_takesStreet_101 : decode cX10_takesStreet 101 = .ok (.invokevirtual 356, 3) := by decide +kernel
theorem dX10_takesStreet_104 : decode cX10_takesStreet 104 = .ok (.aload_n 0, 1) := by decide +kernel
theorem dX10_takesStreet_105 : decode cX10_takesStreet 105 = .ok (.aload_n 0, 1) := by decide +kernel
theorem dX10_takesStreet_106 : decode cX10_takesStreet 106 = .ok (.getfield 172, 3) := by decide +kernel
theorem dX10_takesStreet_109 : decode cX10_takesStreet 109 = .ok (.aload_n 0, 1) := by decide +kernel
theorem dX10_takesStreet_110 : decode cX10_takesStreet 110 = .ok (.getfield 38, 3) := by decide +kernel
theorem dX10_takesStreet_113 : decode cX10_takesStreet 113 = .ok (.invokevirtual 356, 3) := by decide +kernel
theorem dX10_takesStreet_116 : decode cX10_takesStreet 116 = .ok (.aload_n 0, 1) := by decide +kernel
theorem dX10_takesStreet_117 : decode cX10_takesStreet 117 = .ok (.aload_n 0, 1) := by decide +kernel
theorem dX10_takesStreet_118 : decode cX10_takesStreet 118 = .ok (.getfield 175, 3) := by decide +kernel
theorem dX10_takesStreet_121 : decode cX10_takesStreet 121 = .ok (.aload_n 0, 1) := by decide +kernel
theorem dX10_takesStreet_122 : decode cX10_takesStreet 122 = .ok (.getfield 41, 3) := by decide +kernel
theorem dX10_takesStreet_125 : decode cX10_takesStreet 125 = .ok (.invokevirtual 356, 3) := by decide +kernel
theorem dX10_takesStreet_128 : decode cX10_takesStreet 128 = .ok (.return_, 1) := by decide +kernel

set_option maxHeartbeats 4000000 in
set_option maxRecDepth 100000 in
theorem c_X10_takesStreet (m : Nat) {n : Nat} {kd : mK} {I : mI} {J : mJ} {P : mP} (hM : kM kd P m) : Ct yX10_takesStreet cX10_takesStreet 1 none 2 0 0 [.ref m] n kd I J P (fun z n' kd' I' J' P' => z = .inl none ∧ n' = n ∧ kd' = kd ∧ J' = J ∧ P' = P ∧ (∀ a, a ≠ m → (a < m + 1 ∨ m + 10 < a) → I' a = I a) ∧ (∀ j, j ≠ 1 → I' m j = I m j)) := by
  refine ct_of 0 (by decide +kernel) (Nat.le_of_ble_eq_true rfl) rfl ?_
  refine r_aload_n dX10_takesStreet_0 rfl ?_
  refine r_aload_n dX10_takesStreet_1 rfl ?_
  refine r_getI dX10_takesStreet_2 fl_X10_548 rfl (kM_0 hM) ?_
  refine r_putI dX10_takesStreet_5 fl_X10_350 rfl rfl (kM_0 hM) ?_
  refine r_aload_n dX10_takesStreet_8 rfl ?_
  refine r_aload_n dX10_takesStreet_9 rfl ?_
  refine r_getR dX10_takesStreet_10 fl_X10_148 rfl (kM_0 hM) (pM_80 hM) ?_
  refine r_aload_n dX10_takesStreet_13 rfl ?_
  refine r_getR dX10_takesStreet_14 fl_X10_13 rfl (kM_0 hM) (pM_4 hM) ?_
  refine r_virtV (c_X10_copies m (m + 41) (m + 1) 8 8 (aM_80 hM) (aM_4 hM) (by omega) (by decide) (by decide) (by decide)) lk_X10_356 mc_X10_copies dX10_takesStreet_17 hM.1 (by decide) rfl rfl (Nat.le_of_ble_eq_true rfl) ?_
  refine r_aload_n dX10_takesStreet_20 rfl ?_
  refine r_aload_n dX10_takesStreet_21 rfl ?_
  refine r_getR dX10_takesStreet_22 fl_X10_151 rfl (kM_0 hM) (pM_81 hM) ?_
  refine r_aload_n dX10_takesStreet_25 rfl ?_
  refine r_getR dX10_takesStreet_26 fl_X10_17 rfl (kM_0 hM) (pM_5 hM) ?_
  refine r_virtV (c_X10_copies m (m + 42) (m + 2) 8 8 (aM_81 hM) (aM_5 hM) (by omega) (by decide) (by decide) (by decide)) lk_X10_356 mc_X10_copies dX10_takesStreet_29 hM.1 (by decide) rfl rfl (Nat.le_of_ble_eq_true rfl) ?_
  refine r_aload_n dX10_takesStreet_32 rfl ?_
  refine r_aload_n dX10_takesStreet_33 rfl ?_
  refine r_getR dX10_takesStreet_34 fl_X10_154 rfl (kM_0 hM) (pM_82 hM) ?_
  refine r_aload_n dX10_takesStreet_37 rfl ?_
  refine r_getR dX10_takesStreet_38 fl_X10_20 rfl (kM_0 hM) (pM_6 hM) ?_
  refine r_virtV (c_X10_copies m (m + 43) (m + 3) 8 8 (aM_82 hM) (aM_6 hM) (by omega) (by decide) (by decide) (by decide)) lk_X10_356 mc_X10_copies dX10_takesStreet_41 hM.1 (by decide) rfl rfl (Nat.le_of_ble_eq_true rfl) ?_
  refine r_aload_n dX10_takesStreet_44 rfl ?_
  refine r_aload_n dX10_takesStreet_45 rfl ?_
  refine r_getR dX10_takesStreet_46 fl_X10_157 rfl (kM_0 hM) (pM_83 hM) ?_
  refine r_aload_n dX10_takesStreet_49 rfl ?_
  refine r_getR dX10_takesStreet_50 fl_X10_23 rfl (kM_0 hM) (pM_7 hM) ?_
  refine r_virtV (c_X10_copies m (m + 44) (m + 4) 8 8 (aM_83 hM) (aM_7 hM) (by omega) (by decide) (by decide) (by decide)) lk_X10_356 mc_X10_copies dX10_takesStreet_53 hM.1 (by decide) rfl rfl (Nat.le_of_ble_eq_true rfl) ?_
  refine r_aload_n dX10_takesStreet_56 rfl ?_
  refine r_aload_n dX10_takesStreet_57 rfl ?_
  refine r_getR dX10_takesStreet_58 fl_X10_160 rfl (kM_0 hM) (pM_84 hM) ?_
  refine r_aload_n dX10_takesStreet_61 rfl ?_
  refine r_getR dX10_takesStreet_62 fl_X10_26 rfl (kM_0 hM) (pM_8 hM) ?_
  refine r_virtV (c_X10_copies m (m + 45) (m + 5) 8 8 (aM_84 hM) (aM_8 hM) (by omega) (by decide) (by decide) (by decide)) lk_X10_356 mc_X10_copies dX10_takesStreet_65 hM.1 (by decide) rfl rfl (Nat.le_of_ble_eq_true rfl) ?_
  refine r_aload_n dX10_takesStreet_68 rfl ?_
  refine r_aload_n dX10_takesStreet_69 rfl ?_
  refine r_getR dX10_takesStreet_70 fl_X10_163 rfl (kM_0 hM) (pM_85 hM) ?_
  refine r_aload_n dX10_takesStreet_73 rfl ?_
  refine r_getR dX10_takesStreet_74 fl_X10_29 rfl (kM_0 hM) (pM_9 hM) ?_
  refine r_virtV (c_X10_copies m (m + 46) (m + 6) 8 8 (aM_85 hM) (aM_9 hM) (by omega) (by decide) (by decide) (by decide)) lk_X10_356 mc_X10_copies dX10_takesStreet_77 hM.1 (by decide) rfl rfl (Nat.le_of_ble_eq_true rfl) ?_
  refine r_aload_n dX10_takesStreet_80 rfl ?_
  refine r_aload_n dX10_takesStreet_81 rfl ?_
  refine r_getR dX10_takesStreet_82 fl_X10_166 rfl (kM_0 hM) (pM_86 hM) ?_
  refine r_aload_n dX10_takesStreet_85 rfl ?_
  refine r_getR dX10_takesStreet_86 fl_X10_32 rfl (kM_0 hM) (pM_10 hM) ?_
  refine r_virtV (c_X10_copies m (m + 47) (m + 7) 1300 1300 (aM_86 hM) (aM_10 hM) (by omega) (by decide) (by decide) (by decide)) lk_X10_356 mc_X10_copies dX10_takesStreet_89 hM.1 (by decide) rfl rfl (Nat.le_of_ble_eq_true rfl) ?_
  refine r_aload_n dX10_takesStreet_92 rfl ?_
  refine r_aload_n dX10_takesStreet_93 rfl ?_
  refine r_getR dX10_takesStreet_94 fl_X10_169 rfl (kM_0 hM) (pM_87 hM) ?_
  refine r_aload_n dX10_takesStreet_97 rfl ?_
  refine r_getR dX10_takesStreet_98 fl_X10_35 rfl (kM_0 hM) (pM_11 hM) ?_
  refine r_virtV (c_X10_copies m (m + 48) (m + 8) 500 500 (aM_87 hM) (aM_11 hM) (by omega) (by decide) (by decide) (by decide)) lk_X10_356 mc_X10_copies dX10_takesStreet_101 hM.1 (by decide) rfl rfl (Nat.le_of_ble_eq_true rfl) ?_
  refine r_aload_n dX10_takesStreet_104 rfl ?_
  refine r_aload_n dX10_takesStreet_105 rfl ?_
  refine r_getR dX10_takesStreet_106 fl_X10_172 rfl (kM_0 hM) (pM_88 hM) ?_
  refine r_aload_n dX10_takesStreet_109 rfl ?_
  refine r_getR dX10_takesStreet_110 fl_X10_38 rfl (kM_0 hM) (pM_12 hM) ?_
  refine r_virtV (c_X10_copies m (m + 49) (m + 9) 8 8 (aM_88 hM) (aM_12 hM) (by omega) (by decide) (by decide) (by decide)) lk_X10_356 mc_X10_copies dX10_takesStreet_113 hM.1 (by decide) rfl rfl (Nat.le_of_ble_eq_true rfl) ?_
  refine r_aload_n dX10_takesStreet_116 rfl ?_
  refine r_aload_n dX10_takesStreet_117 rfl ?_
  refine r_getR dX10_takesStreet_118 fl_X10_175 rfl (kM_0 hM) (pM_89 hM) ?_
  refine r_aload_n dX10_takesStreet_121 rfl ?_
  refine r_getR dX10_takesStreet_122 fl_X10_41 rfl (kM_0 hM) (pM_13 hM) ?_
  refine r_virtV (c_X10_copies m (m + 50) (m + 10) 8 8 (aM_89 hM) (aM_13 hM) (by omega) (by decide) (by decide) (by decide)) lk_X10_356 mc_X10_copies dX10_takesStreet_125 hM.1 (by decide) rfl rfl (Nat.le_of_ble_eq_true rfl) ?_
  refine r_vret rfl dX10_takesStreet_128 ?_
  refine ⟨rfl, rfl, rfl, rfl, rfl, fun a a1 a2 => ?_, fun j hj => ?_⟩
  · rw [am_up_n _ _ (by omega), am_up_n _ _ (by omega), am_up_n _ _ (by omega), am_up_n _ _ (by omega), am_up_n _ _ (by omega), am_up_n _ _ (by omega), am_up_n _ _ (by omega), am_up_n _ _ (by omega), am_up_n _ _ (by omega), am_up_n _ _ (by omega), am_up_n _ _ (by omega)]
  · rw [am_up_n _ _ (by omega), am_up_n _ _ (by omega), am_up_n _ _ (by omega), am_up_n _ _ (by omega), am_up_n _ _ (by omega), am_up_n _ _ (by omega), am_up_n _ _ (by omega), am_up_n _ _ (by omega), am_up_n _ _ (by omega), am_up_n _ _ (by omega), am_up_s, am_up_n _ _ hj]

theorem dX10_tried_0 : decode cX10_tried 0 = .ok (.aload_n 0, 1) := by decide +kernel
theorem dX10_tried_1 : decode cX10_tried 1 = .ok (.iconst 0, 1) := by decide +kernel
theorem dX10_tried_2 : decode cX10_tried 2 = .ok (.putfield 193, 3) := by decide +kernel
theorem dX10_tried_5 : decode cX10_tried 5 = .ok (.aload_n 0, 1) := by decide +kernel
theorem dX10_tried_6 : decode cX10_tried 6 = .ok (.iload_n 1, 1) := by decide +kernel
theorem dX10_tried_7 : decode cX10_tried 7 = .ok (.iconst 0, 1) := by decide +kernel
theorem dX10_tried_8 : decode cX10_tried 8 = .ok (.iconst 2, 1) := by decide +kernel
theorem dX10_tried_9 : decode cX10_tried 9 = .ok (.invokestatic 369, 3) := by decide +kernel
theorem dX10_tried_12 : decode cX10_tried 12 = .ok (.ifCond .eq 17, 3) := by decide +kernel
theorem dX10_tried_15 : decode cX10_tried 15 = .ok (.iload 4, 2) := by decide +kernel
theorem dX10_tried_17 : decode cX10_tried 17 = .ok (.iconst 0, 1) := by decide +kernel
theorem dX10_tried_18 : decode cX10_tried 18 = .ok (.iconst 2, 1) := by decide +kernel
theorem dX10_tried_19 : decode cX10_tried 19 = .ok (.invokestatic 369, 3) := by decide +kernel
theorem dX10_tried_22 : decode cX10_tried 22 = .ok (.ifCond .eq 7, 3) := by decide +kernel
theorem dX10_tried_25 : decode cX10_tried 25 = .ok (.iconst 1, 1) := by decide +kernel
theorem dX10_tried_26 : decode cX10_tried 26 = .ok (.goto 4, 3) := by decide +kernel
theorem dX10_tried_29 : decode cX10_tried 29 = .ok (.iconst 0, 1) := by decide +kernel
theorem dX10_tried_30 : decode cX10_tried 30 = .ok (.iconst 1, 1) := by decide +kernel
theorem dX10_tried_31 : decode cX10_tried 31 = .ok (.invokevirtual 343, 3) := by decide +kernel
theorem dX10_tried_34 : decode cX10_tried 34 = .ok (.ifCond .eq 36, 3) := by decide +kernel
theorem dX10_tried_37 : decode cX10_tried 37 = .ok (.aload_n 0, 1) := by decide +kernel
theorem dX10_tried_38 : decode cX10_tried 38 = .ok (.iload_n 2, 1) := by decide +kernel
theorem dX10_tried_39 : decode cX10_tried 39 = .ok (.iconst 0, 1) := by decide +kernel
theorem dX10_tried_40 : decode cX10_tried 40 = .ok (.bipush 40, 2) := by decide +kernel
theorem dX10_tried_42 : decode cX10_tried 42 = .ok (.invokestatic 369, 3) := by decide +kernel
theorem dX10_tried_45 : decode cX10_tried 45 = .ok (.ifCond .eq 17, 3) := by decide +kernel
theorem dX10_tried_48 : decode cX10_tried 48 = .ok (.iload_n 3, 1) := by decide +kernel
theorem dX10_tried_49 : decode cX10_tried 49 = .ok (.iconst 1, 1) := by decide +kernel
theorem dX10_tried_50 : decode cX10_tried 50 = .ok (.bipush 8, 2) := by decide +kernel
theorem dX10_tried_52 : decode cX10_tried 52 = .ok (.invokestatic 369, 3) := by decide +kernel
theorem dX10_tried_55 : decode cX10_tried 55 = .ok (.ifCond .eq 7, 3) := by decide +kernel
theorem dX10_tried_58 : decode cX10_tried 58 = .ok (.iconst 1, 1) := by decide +kernel
theorem dX10_tried_59 : decode cX10_tried 59 = .ok (.goto 4, 3) := by decide +kernel
theorem dX10_tried_62 : decode cX10_tried 62 = .ok (.iconst 0, 1) := by decide +kernel
theorem dX10_tried_63 : decode cX10_tried 63 = .ok (.iconst 2, 1) := by decide +kernel
theorem dX10_tried_64 : decode cX10_tried 64 = .ok (.invokevirtual 343, 3) := by decide +kernel
theorem dX10_tried_67 : decode cX10_tried 67 = .ok (.ifCond .ne 5, 3) := by decide +kernel
theorem dX10_tried_70 : decode cX10_tried 70 = .ok (.iconst 0, 1) := by decide +kernel
theorem dX10_tried_71 : decode cX10_tried 71 = .ok (.ireturn, 1) := by decide +kernel
theorem dX10_tried_72 : decode cX10_tried 72 = .ok (.aload_n 0, 1) := by decide +kernel
theorem dX10_tried_73 : decode cX10_tried 73 = .ok (.invokevirtual 551, 3) := by decide +kernel
theorem dX10_tried_76 : decode cX10_tried 76 = .ok (.aload_n 0, 1) := by decide +kernel
theorem dX10_tried_77 : decode cX10_tried 77 = .ok (.getfield 363, 3) := by decide +kernel
theorem dX10_tried_80 : decode cX10_tried 80 = .ok (.istore 5, 2) := by decide +kernel
theorem dX10_tried_82 : decode cX10_tried 82 = .ok (.aload_n 0, 1) := by decide +kernel
theorem dX10_tried_83 : decode cX10_tried 83 = .ok (.iconst 0, 1) := by decide +kernel
theorem dX10_tried_84 : decode cX10_tried 84 = .ok (.putfield 363, 3) := by decide +kernel
theorem dX10_tried_87 : decode cX10_tried 87 = .ok (.iconst 0, 1) := by decide +kernel
theorem dX10_tried_88 : decode cX10_tried 88 = .ok (.istore 6, 2) := by decide +kernel
theorem dX10_tried_90 : decode cX10_tried 90 = .ok (.iconst (-1), 1) := by decide +kernel
theorem dX10_tried_91 : decode cX10_tried 91 = .ok (.istore 7, 2) := by decide +kernel
theorem dX10_tried_93 : decode cX10_tried 93 = .ok (.iconst 0, 1) := by decide +kernel
theorem dX10_tried_94 : decode cX10_tried 94 = .ok (.istore 8, 2) := by decide +kernel
theorem dX10_tried_96 : decode cX10_tried 96 = .ok (.iconst 0, 1) := by decide +kernel
theorem dX10_tried_97 : decode cX10_tried 97 = .ok (.istore 9, 2) := by decide +kernel
theorem dX10_tried_99 : decode cX10_tried 99 = .ok (.iload 9, 2) := by decide +kernel
theorem dX10_tried_101 : decode cX10_tried 101 = .ok (.iload_n 2, 1) := by decide +kernel
theorem dX10_tried_102 : decode cX10_tried 102 = .ok (.if_icmp .ge 61, 3) := by decide +kernel
theorem dX10_tried_105 : decode cX10_tried 105 = .ok (.aload_n 0, 1) := by decide +kernel
theorem dX10_tried_106 : decode cX10_tried 106 = .ok (.iload_n 1, 1) := by decide +kernel
theorem dX10_tried_107 : decode cX10_tried 107 = .ok (.aload_n 0, 1) := by decide +kernel
theorem dX10_tried_108 : decode cX10_tried 108 = .ok (.iload 9, 2) := by decide +kernel
theorem dX10_tried_110 : decode cX10_tried 110 = .ok (.iload_n 3, 1) := by decide +kernel
theorem dX10_tried_111 : decode cX10_tried 111 = .ok (.invokevirtual 541, 3) := by decide +kernel
theorem dX10_tried_114 : decode cX10_tried 114 = .ok (.invokevirtual 554, 3) := by decide +kernel
theorem dX10_tried_117 : decode cX10_tried 117 = .ok (.istore 10, 2) := by decide +kernel
theorem dX10_tried_119 : decode cX10_tried 119 = .ok (.iload 8, 2) := by decide +kernel
theorem dX10_tried_121 : decode cX10_tried 121 = .ok (.iload 10, 2) := by decide +kernel
theorem dX10_tried_123 : decode cX10_tried 123 = .ok (.bipush (-2), 2) := by decide +kernel
theorem dX10_tried_125 : decode cX10_tried 125 = .ok (.if_icmp .ne 7, 3) := by decide +kernel
theorem dX10_tried_128 : decode cX10_tried 128 = .ok (.iconst 1, 1) := by decide +kernel
theorem dX10_tried_129 : decode cX10_tried 129 = .ok (.goto 4, 3) := by decide +kernel
theorem dX10_tried_132 : decode cX10_tried 132 = .ok (.iconst 0, 1) := by decide +kernel
theorem dX10_tried_133 : decode cX10_tried 133 = .ok (.iadd, 1) := by decide +kernel
theorem dX10_tried_134 : decode cX10_tried 134 = .ok (.istore 8, 2) := by decide +kernel
theorem dX10_tried_136 : decode cX10_tried 136 = .ok (.iload 10, 2) := by decide +kernel
theorem dX10_tried_138 : decode cX10_tried 138 = .ok (.ifCond .eq 6, 3) := by decide +kernel
theorem dX10_tried_141 : decode cX10_tried 141 = .ok (.goto 16, 3) := by decide +kernel
theorem dX10_tried_144 : decode cX10_tried 144 = .ok (.iinc 6 1, 3) := by decide +kernel
theorem dX10_tried_147 : decode cX10_tried 147 = .ok (.iload 7, 2) := by decide +kernel
theorem dX10_tried_149 : decode cX10_tried 149 = .ok (.iconst (-1), 1) := by decide +kernel
theorem dX10_tried_150 : decode cX10_tried 150 = .ok (.if_icmp .ne 7, 3) := by decide +kernel
theorem dX10_tried_153 : decode cX10_tried 153 = .ok (.iload 9, 2) := by decide +kernel
theorem dX10_tried_155 : decode cX10_tried 155 = .ok (.istore 7, 2) := by decide +kernel
theorem dX10_tried_157 : decode cX10_tried 157 = .ok (.iinc 9 1, 3) := by decide +kernel
theorem dX10_tried_160 : decode cX10_tried 160 = .ok (.goto (-61), 3) := by decide +kernel
theorem dX10_tried_163 : decode cX10_tried 163 = .ok (.aload_n 0, 1) := by decide +kernel
theorem dX10_tried_164 : decode cX10_tried 164 = .ok (.invokevirtual 557, 3) := by decide +kernel
theorem dX10_tried_167 : decode cX10_tried 167 = .ok (.aload_n 0, 1) := by decide +kernel
theorem dX10_tried_168 : decode cX10_tried 168 = .ok (.iload 5, 2) := by decide +kernel
theorem dX10_tried_170 : decode cX10_tried 170 = .ok (.putfield 363, 3) := by decide +kernel
theorem dX10_tried_173 : decode cX10_tried 173 = .ok (.iload 4, 2) := by decide +kernel
theorem dX10_tried_175 : decode cX10_tried 175 = .ok (.ifCond .ne 8, 3) := by decide +kernel
theorem dX10_tried_178 : decode cX10_tried 178 = .ok (.iload 6, 2) := by decide +kernel
theorem dX10_tried_180 : decode cX10_tried 180 = .ok (.goto 16, 3) := by decide +kernel
theorem dX10_tried_183 : decode cX10_tried 183 = .ok (.iload 4, 2) := by decide +kernel
theorem dX10_tried_185 : decode cX10_tried 185 = .ok (.iconst 1, 1) := by decide +kernel
theorem dX10_tried_186 : decode cX10_tried 186 = .ok (.if_icmp .ne 8, 3) := by decide +kernel
theorem dX10_tried_189 : decode cX10_tried 189 = .ok (.iload 7, 2) := by decide +kernel
theorem dX10_tried_191 : decode cX10_tried 191 = .ok (.goto 5, 3) := by decide +kernel
theorem dX10_tried_194 : decode cX10_tried 194 = .ok (.iload 8, 2) := by decide +kernel
theorem dX10_tried_196 : decode cX10_tried 196 = .ok (.ireturn, 1) := by decide +kernel

def rtI (m M : Nat) (un : Bool) (I : mI) : Prop := I m 2 = nI M ∧ (!decide (I m 3 = 0)) = un ∧ I m 47 = nI 0 ∧ I m 54 = -1 ∧ I m 58 = -1 ∧ I m 0 = nI 0
def rtF (m : Nat) (I I' : mI) (J J' : mJ) : Prop := ∀ a, (a < m ∨ m + 55 < a) → I' a = I a ∧ J' a = J a
def rtP (n : Nat) (kd : mK) (I : mI) (J : mJ) (P : mP) (m : Nat) (v : Int32) : am_Post := fun y n' kd' I' J' P' => y = .inl (some (.int v)) ∧ n' = n ∧ kd' = kd ∧ P' = P ∧ rtF m I I' J J' ∧ I' m 0 = nI 0
set_option maxHeartbeats 4000000 in
set_option maxRecDepth 100000 in
theorem rt_loop (m M H law S wh : Nat) (un : Bool) (l0 : Int32) {n : Nat} {kd : mK} {I0 : mI} {J0 : mJ} {P : mP} (hM : kM kd P m) (hM0 : 0 < M) (hM20 : M ≤ 20) (hH1 : 1 ≤ H) (hH8 : H ≤ 8) (hlaw : law ≤ 2) (hwh : wh ≤ 2) (hS : S ≤ 40) : ∀ (cnt i : Nat) (z : Option Value) (I : mI) (J : mJ), i + cnt = S → rtI m M un I → rtF m I0 I J0 J → Ru yX10_tried.cls cX10_tried 11 (some .int) yX10_tried.name 10 (rtP n kd I0 J0 P m (trV law H M un S wh)) 0 0 99 [some (.ref m), some (.int (nI law)), some (.int (nI S)), some (.int (nI H)), some (.int (nI wh)), some (.int l0), some (.int (nI (brN law H M un i))), some (.int (leN law H M un i)), some (.int (nI (spN law H M un i))), some (.int (nI i)), z] [] n kd I J P := by
  intro cnt
  induction cnt with
  | zero =>
    intro i z I J hi hI hF
    have ei : i = S := by omega
    subst ei
    refine r_iload dX10_tried_99 rfl ?_
    refine r_iload_n dX10_tried_101 rfl ?_
    refine r_icmp_ge (tgt := 163) dX10_tried_102 (by decide) (fun _ => ?_) (fun hz => absurd (show _ from (by rw [nI_leI (by omega) (by omega)]; omega)) hz)
    refine r_aload_n dX10_tried_163 rfl ?_
    refine r_virt (c_X10_takesStreet m hM) lk_X10_557 mc_X10_takesStreet dX10_tried_164 hM.1 (by decide) rfl rfl (Nat.le_of_ble_eq_true rfl) (Nat.le_of_eq (Nat.zero_add _)) (Nat.le_of_eq (Nat.zero_add _)) (fun _ _ _ _ _ _ h => nomatch h.1) ?_
    rintro v n1 kd1 I1 J1 P1 ⟨h0, rfl, rfl, rfl, rfl, hf1, hf2⟩
    cases h0
    simp only [Option.toList, List.nil_append]
    have h00 : I1 m 0 = nI 0 := by rw [hf2 0 (by decide)]; exact hI.2.2.2.2.2
    have hfin : rtF m I0 (va_up I1 m (va_up (I1 m) 47 l0)) J0 J1 := fun a ha => ⟨by rw [am_up_n _ _ (by omega), hf1 a (by omega) (by omega)]; exact (hF a ha).1, (hF a ha).2⟩
    rcases (by omega : wh = 0 ∨ wh = 1 ∨ wh = 2) with e | e | e
    · rw [e]
      rw [show trV law H M un i 0 = nI (brN law H M un i) from rfl]
      refine r_aload_n dX10_tried_167 rfl ?_
      refine r_iload dX10_tried_168 rfl ?_
      refine r_putI dX10_tried_170 fl_X10_363 rfl rfl (kM_0 hM) ?_
      refine r_iload dX10_tried_173 rfl ?_
      refine r_if_ne (tgt := 183) dX10_tried_175 (by decide) (fun hz => absurd (show _ from rfl) hz) (fun _ => ?_)
      refine r_iload dX10_tried_178 rfl ?_
      refine r_goto (tgt := 196) dX10_tried_180 (by decide) ?_
      refine r_iret rfl dX10_tried_196 ?_
      exact ⟨rfl, rfl, rfl, rfl, hfin, by rw [am_up_s, am_up_n _ _ (by decide)]; exact h00⟩
    · rw [e]
      rw [show trV law H M un i 1 = leN law H M un i from rfl]
      refine r_aload_n dX10_tried_167 rfl ?_
      refine r_iload dX10_tried_168 rfl ?_
      refine r_putI dX10_tried_170 fl_X10_363 rfl rfl (kM_0 hM) ?_
      refine r_iload dX10_tried_173 rfl ?_
      refine r_if_ne (tgt := 183) dX10_tried_175 (by decide) (fun _ => ?_) (fun hz => absurd hz (show ¬ _ from (by decide)))
      refine r_iload dX10_tried_183 rfl ?_
      refine r_iconst (v := nI 1) dX10_tried_185 (by decide) ?_
      refine r_icmp_ne (tgt := 194) dX10_tried_186 (by decide) (fun hz => absurd (show _ from rfl) hz) (fun _ => ?_)
      refine r_iload dX10_tried_189 rfl ?_
      refine r_goto (tgt := 196) dX10_tried_191 (by decide) ?_
      refine r_iret rfl dX10_tried_196 ?_
      exact ⟨rfl, rfl, rfl, rfl, hfin, by rw [am_up_s, am_up_n _ _ (by decide)]; exact h00⟩
    · rw [e]
      rw [show trV law H M un i 2 = nI (spN law H M un i) from rfl]
      refine r_aload_n dX10_tried_167 rfl ?_
      refine r_iload dX10_tried_168 rfl ?_
      refine r_putI dX10_tried_170 fl_X10_363 rfl rfl (kM_0 hM) ?_
      refine r_iload dX10_tried_173 rfl ?_
      refine r_if_ne (tgt := 183) dX10_tried_175 (by decide) (fun _ => ?_) (fun hz => absurd hz (show ¬ _ from (by decide)))
      refine r_iload dX10_tried_183 rfl ?_
      refine r_iconst (v := nI 1) dX10_tried_185 (by decide) ?_
      refine r_icmp_ne (tgt := 194) dX10_tried_186 (by decide) (fun _ => ?_) (fun hz => absurd hz (show ¬ _ from (by decide)))
      refine r_iload dX10_tried_194 rfl ?_
      refine r_iret rfl dX10_tried_196 ?_
      exact ⟨rfl, rfl, rfl, rfl, hfin, by rw [am_up_s, am_up_n _ _ (by decide)]; exact h00⟩
  | succ cnt ih =>
    intro i z I J hi hI hF
    refine r_iload dX10_tried_99 rfl ?_
    refine r_iload_n dX10_tried_101 rfl ?_
    refine r_icmp_ge (tgt := 163) dX10_tried_102 (by decide) (fun hz => absurd hz (show ¬ _ from (by rw [nI_leI (by omega) (by omega)]; omega))) (fun _ => ?_)
    refine r_aload_n dX10_tried_105 rfl ?_
    refine r_iload_n dX10_tried_106 rfl ?_
    refine r_aload_n dX10_tried_107 rfl ?_
    refine r_iload dX10_tried_108 rfl ?_
    refine r_iload_n dX10_tried_110 rfl ?_
    refine r_virt (c_plantsAllN m M H (nI i) hM hI.1 hM0 hM20 hH8) lk_X10_541 mc_X10_plantsAll dX10_tried_111 hM.1 (by decide) rfl rfl (Nat.le_of_ble_eq_true rfl) (Nat.le_of_eq (Nat.zero_add _)) (Nat.le_of_eq (Nat.zero_add _)) (fun _ _ _ _ _ _ h => nomatch h.1) ?_
    rintro v n1 kd1 I1 J1 P1 ⟨h0, rfl, rfl, rfl, rfl, hst, hf1, hf2⟩
    cases h0
    simp only [Option.toList, List.cons_append, List.nil_append]
    obtain ⟨g2, g3, g47, g54, g58, g0⟩ := hI
    have hlh := c_X10_lawHolds (n := n1) (J := J1) m M H un (sdCs M (nI i)) law hM (cs_seed hM0 hM20 hH8) hH8 hM20 hst (by rw [hf1 2 (by decide) (by decide) (by decide) (by decide)]; exact g2) (by rw [hf1 3 (by decide) (by decide) (by decide) (by decide)]; exact g3) (by rw [hf1 47 (by decide) (by decide) (by decide) (by decide)]; exact g47) (by rw [hf1 54 (by decide) (by decide) (by decide) (by decide)]; exact g54) (by rw [hf1 58 (by decide) (by decide) (by decide) (by decide)]; exact g58) hlaw
    refine r_virt hlh lk_X10_554 mc_X10_lawHolds dX10_tried_114 hM.1 (by decide) rfl rfl (Nat.le_of_ble_eq_true rfl) (Nat.le_of_eq (Nat.zero_add _)) (Nat.le_of_eq (Nat.zero_add _)) (fun _ _ _ _ _ _ h => nomatch h.1) ?_
    rintro v n2 kd2 I2 J2 P2 ⟨h0, rfl, rfl, rfl, hl1, hl2, hl3⟩
    cases h0
    simp only [Option.toList, List.cons_append, List.nil_append]
    have hc : ∀ j, j ≠ 78 → j ≠ 1 → j ≠ 30 → j ≠ 77 → j ≠ 52 → j ≠ 53 → I2 m j = I m j := fun j j1 j2 j3 j4 j5 j6 => (hl2 j j5 j6).trans (hf1 j j1 j2 j3 j4)
    have hI2 : rtI m M un I2 := ⟨by rw [hc 2 (by decide) (by decide) (by decide) (by decide) (by decide) (by decide)]; exact g2, by rw [hc 3 (by decide) (by decide) (by decide) (by decide) (by decide) (by decide)]; exact g3, by rw [hc 47 (by decide) (by decide) (by decide) (by decide) (by decide) (by decide)]; exact g47, by rw [hc 54 (by decide) (by decide) (by decide) (by decide) (by decide) (by decide)]; exact g54, by rw [hc 58 (by decide) (by decide) (by decide) (by decide) (by decide) (by decide)]; exact g58, by rw [hc 0 (by decide) (by decide) (by decide) (by decide) (by decide) (by decide)]; exact g0⟩
    have hF2 : rtF m I0 I2 J0 J2 := fun a ha => ⟨by rw [hl1 a (by omega) (by omega) (by omega) (by omega) (by omega) (by omega), hf2 a (by omega)]; exact (hF a ha).1, by rw [hl3 a (by omega) (by omega)]; exact (hF a ha).2⟩
    have ihn := fun z => ih (i + 1) z I2 J2 (by omega) hI2 hF2
    unfold brN leN spN at ihn
    rcases lawB_rng law H M un (sdCs M (nI i)) with e | e | e
    · rw [show lawH law H M un (sdCs M (nI i)) = -2 from by unfold lawH; rw [e]; rfl]
      rw [show lwS law H M un i = -2 from e] at ihn
      rw [if_neg (by decide), if_neg (by decide), if_pos rfl] at ihn
      refine r_istore dX10_tried_117 (by decide) ?_
      refine r_iload dX10_tried_119 rfl ?_
      refine r_iload dX10_tried_121 rfl ?_
      refine r_bipush (v := -2) dX10_tried_123 (by decide) ?_
      refine r_icmp_ne (tgt := 132) dX10_tried_125 (by decide) (fun hz => absurd (show _ from rfl) hz) (fun _ => ?_)
      refine r_iconst (v := nI 1) dX10_tried_128 (by decide) ?_
      refine r_goto (tgt := 133) dX10_tried_129 (by decide) ?_
      refine r_iadd dX10_tried_133 ?_
      rw [nI_add]
      refine r_istore dX10_tried_134 (by decide) ?_
      refine r_iload dX10_tried_136 rfl ?_
      refine r_if_eq (tgt := 144) dX10_tried_138 (by decide) (fun hz => absurd hz (show ¬ _ from (by decide))) (fun _ => ?_)
      refine r_goto (tgt := 157) dX10_tried_141 (by decide) ?_
      refine r_iinc (v := nI (i + 1)) dX10_tried_157 rfl (nI_inc i) ?_
      refine r_goto (tgt := 99) dX10_tried_160 (by decide) ?_
      exact ihn _
    · rw [show lawH law H M un (sdCs M (nI i)) = nI 0 from by unfold lawH; rw [e]; rfl]
      rw [show lwS law H M un i = nI 1 from e] at ihn
      rw [if_pos rfl, if_pos rfl, if_neg (show ¬ nI 1 = (-2 : Int32) from by decide)] at ihn
      by_cases hle : leN law H M un i = -1
      · rw [if_pos hle] at ihn
        rw [hle]
        refine r_istore dX10_tried_117 (by decide) ?_
        refine r_iload dX10_tried_119 rfl ?_
        refine r_iload dX10_tried_121 rfl ?_
        refine r_bipush (v := -2) dX10_tried_123 (by decide) ?_
        refine r_icmp_ne (tgt := 132) dX10_tried_125 (by decide) (fun _ => ?_) (fun hz => absurd hz (show ¬ _ from (by decide)))
        refine r_iconst (v := nI 0) dX10_tried_132 (by decide) ?_
        refine r_iadd dX10_tried_133 ?_
        rw [nI_add, Nat.add_zero]
        refine r_istore dX10_tried_134 (by decide) ?_
        refine r_iload dX10_tried_136 rfl ?_
        refine r_if_eq (tgt := 144) dX10_tried_138 (by decide) (fun _ => ?_) (fun hz => absurd (show _ from (by decide)) hz)
        refine r_iinc (v := nI (brN law H M un i + 1)) dX10_tried_144 rfl (nI_inc _) ?_
        refine r_iload dX10_tried_147 rfl ?_
        refine r_iconst (v := (-1)) dX10_tried_149 (by decide) ?_
        refine r_icmp_ne (tgt := 157) dX10_tried_150 (by decide) (fun hz => absurd (show _ from rfl) hz) (fun _ => ?_)
        refine r_iload dX10_tried_153 rfl ?_
        refine r_istore dX10_tried_155 (by decide) ?_
        refine r_iinc (v := nI (i + 1)) dX10_tried_157 rfl (nI_inc i) ?_
        refine r_goto (tgt := 99) dX10_tried_160 (by decide) ?_
        exact ihn _
      · rw [if_neg hle] at ihn
        refine r_istore dX10_tried_117 (by decide) ?_
        refine r_iload dX10_tried_119 rfl ?_
        refine r_iload dX10_tried_121 rfl ?_
        refine r_bipush (v := -2) dX10_tried_123 (by decide) ?_
        refine r_icmp_ne (tgt := 132) dX10_tried_125 (by decide) (fun _ => ?_) (fun hz => absurd hz (show ¬ _ from (by decide)))
        refine r_iconst (v := nI 0) dX10_tried_132 (by decide) ?_
        refine r_iadd dX10_tried_133 ?_
        rw [nI_add, Nat.add_zero]
        refine r_istore dX10_tried_134 (by decide) ?_
        refine r_iload dX10_tried_136 rfl ?_
        refine r_if_eq (tgt := 144) dX10_tried_138 (by decide) (fun _ => ?_) (fun hz => absurd (show _ from (by decide)) hz)
        refine r_iinc (v := nI (brN law H M un i + 1)) dX10_tried_144 rfl (nI_inc _) ?_
        refine r_iload dX10_tried_147 rfl ?_
        refine r_iconst (v := (-1)) dX10_tried_149 (by decide) ?_
        refine r_icmp_ne (tgt := 157) dX10_tried_150 (by decide) (fun _ => ?_) (fun hz => absurd hz (show ¬ _ from hle))
        refine r_iinc (v := nI (i + 1)) dX10_tried_157 rfl (nI_inc i) ?_
        refine r_goto (tgt := 99) dX10_tried_160 (by decide) ?_
        exact ihn _
    · rw [show lawH law H M un (sdCs M (nI i)) = nI 1 from by unfold lawH; rw [e]; rfl]
      rw [show lwS law H M un i = nI 0 from e] at ihn
      rw [if_neg (by decide), if_neg (by decide), if_neg (by decide)] at ihn
      refine r_istore dX10_tried_117 (by decide) ?_
      refine r_iload dX10_tried_119 rfl ?_
      refine r_iload dX10_tried_121 rfl ?_
      refine r_bipush (v := -2) dX10_tried_123 (by decide) ?_
      refine r_icmp_ne (tgt := 132) dX10_tried_125 (by decide) (fun _ => ?_) (fun hz => absurd hz (show ¬ _ from (by decide)))
      refine r_iconst (v := nI 0) dX10_tried_132 (by decide) ?_
      refine r_iadd dX10_tried_133 ?_
      rw [nI_add, Nat.add_zero]
      refine r_istore dX10_tried_134 (by decide) ?_
      refine r_iload dX10_tried_136 rfl ?_
      refine r_if_eq (tgt := 144) dX10_tried_138 (by decide) (fun hz => absurd hz (show ¬ _ from (by decide))) (fun _ => ?_)
      refine r_goto (tgt := 157) dX10_tried_141 (by decide) ?_
      refine r_iinc (v := nI (i + 1)) dX10_tried_157 rfl (nI_inc i) ?_
      refine r_goto (tgt := 99) dX10_tried_160 (by decide) ?_
      exact ihn _

set_option maxHeartbeats 4000000 in
set_option maxRecDepth 100000 in
theorem c_triedR (m M H law S wh : Nat) (un : Bool) {n : Nat} {kd : mK} {I : mI} {J : mJ} {P : mP} (hM : kM kd P m) (hM0 : 0 < M) (hM20 : M ≤ 20) (hH1 : 1 ≤ H) (hH8 : H ≤ 8) (hlaw : law ≤ 2) (hwh : wh ≤ 2) (hS : S ≤ 40) (hI2 : I m 2 = nI M) (hI3 : (!decide (I m 3 = 0)) = un) (h54 : I m 54 = -1) (h58 : I m 58 = -1) : Ct yX10_tried cX10_tried 11 (some .int) 10 0 0 [.ref m, .int (nI law), .int (nI S), .int (nI H), .int (nI wh)] n kd I J P (rtP n kd I J P m (trV law H M un S wh)) := by
  refine ct_of 6 (by decide +kernel) (Nat.le_of_ble_eq_true rfl) rfl ?_
  refine r_aload_n dX10_tried_0 rfl ?_
  refine r_iconst (v := nI 0) dX10_tried_1 (by decide) ?_
  refine r_putI dX10_tried_2 fl_X10_193 rfl rfl (kM_0 hM) ?_
  refine r_aload_n dX10_tried_5 rfl ?_
  refine r_iload_n dX10_tried_6 rfl ?_
  refine r_iconst (v := nI 0) dX10_tried_7 (by decide) ?_
  refine r_iconst (v := nI 2) dX10_tried_8 (by decide) ?_
  refine r_statE (c_X10_within (nI law) (nI 0) (nI 2)) lk_X10_369 mc_X10_within dX10_tried_9 (by decide) rfl rfl (Nat.le_of_ble_eq_true rfl) ?_
  rw [show (!decide (nI law < nI 0) && !decide (nI 2 < nI law)) = true from (by rw [decide_eq_false (by rw [nI_ltI (by omega) (by omega)]; omega), decide_eq_false (by rw [nI_ltI (by omega) (by omega)]; omega)]; rfl)]
  refine r_if_eq (tgt := 29) dX10_tried_12 (by decide) (fun hz => absurd hz (show ¬ _ from (by decide))) (fun _ => ?_)
  refine r_iload dX10_tried_15 rfl ?_
  refine r_iconst (v := nI 0) dX10_tried_17 (by decide) ?_
  refine r_iconst (v := nI 2) dX10_tried_18 (by decide) ?_
  refine r_statE (c_X10_within (nI wh) (nI 0) (nI 2)) lk_X10_369 mc_X10_within dX10_tried_19 (by decide) rfl rfl (Nat.le_of_ble_eq_true rfl) ?_
  rw [show (!decide (nI wh < nI 0) && !decide (nI 2 < nI wh)) = true from (by rw [decide_eq_false (by rw [nI_ltI (by omega) (by omega)]; omega), decide_eq_false (by rw [nI_ltI (by omega) (by omega)]; omega)]; rfl)]
  refine r_if_eq (tgt := 29) dX10_tried_22 (by decide) (fun hz => absurd hz (show ¬ _ from (by decide))) (fun _ => ?_)
  refine r_iconst (v := nI 1) dX10_tried_25 (by decide) ?_
  refine r_goto (tgt := 30) dX10_tried_26 (by decide) ?_
  refine r_iconst (v := nI 1) dX10_tried_30 (by decide) ?_
  refine r_virtE (c_X10_right m true (nI 1) hM (by rw [am_up_s, am_up_s]; rfl) (by decide)) lk_X10_343 mc_X10_right dX10_tried_31 hM.1 (by decide) rfl rfl (Nat.le_of_ble_eq_true rfl) ?_
  rw [thM_ok]
  refine r_if_eq (tgt := 70) dX10_tried_34 (by decide) (fun hz => absurd hz (show ¬ _ from (by decide))) (fun _ => ?_)
  refine r_aload_n dX10_tried_37 rfl ?_
  refine r_iload_n dX10_tried_38 rfl ?_
  refine r_iconst (v := nI 0) dX10_tried_39 (by decide) ?_
  refine r_bipush (v := nI 40) dX10_tried_40 (by decide) ?_
  refine r_statE (c_X10_within (nI S) (nI 0) (nI 40)) lk_X10_369 mc_X10_within dX10_tried_42 (by decide) rfl rfl (Nat.le_of_ble_eq_true rfl) ?_
  rw [show (!decide (nI S < nI 0) && !decide (nI 40 < nI S)) = true from (by rw [decide_eq_false (by rw [nI_ltI (by omega) (by omega)]; omega), decide_eq_false (by rw [nI_ltI (by omega) (by omega)]; omega)]; rfl)]
  refine r_if_eq (tgt := 62) dX10_tried_45 (by decide) (fun hz => absurd hz (show ¬ _ from (by decide))) (fun _ => ?_)
  refine r_iload_n dX10_tried_48 rfl ?_
  refine r_iconst (v := nI 1) dX10_tried_49 (by decide) ?_
  refine r_bipush (v := nI 8) dX10_tried_50 (by decide) ?_
  refine r_statE (c_X10_within (nI H) (nI 1) (nI 8)) lk_X10_369 mc_X10_within dX10_tried_52 (by decide) rfl rfl (Nat.le_of_ble_eq_true rfl) ?_
  rw [show (!decide (nI H < nI 1) && !decide (nI 8 < nI H)) = true from (by rw [decide_eq_false (by rw [nI_ltI (by omega) (by omega)]; omega), decide_eq_false (by rw [nI_ltI (by omega) (by omega)]; omega)]; rfl)]
  refine r_if_eq (tgt := 62) dX10_tried_55 (by decide) (fun hz => absurd hz (show ¬ _ from (by decide))) (fun _ => ?_)
  refine r_iconst (v := nI 1) dX10_tried_58 (by decide) ?_
  refine r_goto (tgt := 63) dX10_tried_59 (by decide) ?_
  refine r_iconst (v := nI 2) dX10_tried_63 (by decide) ?_
  refine r_virtE (c_X10_right m true (nI 2) hM (by rw [am_up_s, am_up_s]; rfl) (by decide)) lk_X10_343 mc_X10_right dX10_tried_64 hM.1 (by decide) rfl rfl (Nat.le_of_ble_eq_true rfl) ?_
  rw [thM_ok]
  refine r_if_ne (tgt := 72) dX10_tried_67 (by decide) (fun _ => ?_) (fun hz => absurd hz (show ¬ _ from (by decide)))
  refine r_aload_n dX10_tried_72 rfl ?_
  refine r_virt (c_X10_keepsStreet m hM) lk_X10_551 mc_X10_keepsStreet dX10_tried_73 hM.1 (by decide) rfl rfl (Nat.le_of_ble_eq_true rfl) (Nat.le_of_eq (Nat.zero_add _)) (Nat.le_of_eq (Nat.zero_add _)) (fun _ _ _ _ _ _ h => nomatch h.1) ?_
  rintro v n1 kd1 I1 J1 P1 ⟨h0, rfl, rfl, rfl, rfl, hf1, hf2⟩
  cases h0
  simp only [Option.toList, List.nil_append]
  have e : ∀ j, j ≠ 79 → j ≠ 0 → I1 m j = I m j := fun j j1 j2 => by rw [hf2 j j1, am_up_s, am_up_n _ _ j2]
  have e0 : I1 m 0 = nI 0 := by rw [hf2 0 (by decide), am_up_s, am_up_s]
  refine r_aload_n dX10_tried_76 rfl ?_
  refine r_getI dX10_tried_77 fl_X10_363 rfl (kM_0 hM) ?_
  refine r_istore dX10_tried_80 (by decide) ?_
  refine r_aload_n dX10_tried_82 rfl ?_
  refine r_iconst (v := nI 0) dX10_tried_83 (by decide) ?_
  refine r_putI dX10_tried_84 fl_X10_363 rfl rfl (kM_0 hM) ?_
  refine r_iconst (v := nI 0) dX10_tried_87 (by decide) ?_
  refine r_istore dX10_tried_88 (by decide) ?_
  refine r_iconst (v := (-1)) dX10_tried_90 (by decide) ?_
  refine r_istore dX10_tried_91 (by decide) ?_
  refine r_iconst (v := nI 0) dX10_tried_93 (by decide) ?_
  refine r_istore dX10_tried_94 (by decide) ?_
  refine r_iconst (v := nI 0) dX10_tried_96 (by decide) ?_
  refine r_istore dX10_tried_97 (by decide) ?_
  exact rt_loop m M H law S wh un (I1 m 47) hM hM0 hM20 hH1 hH8 hlaw hwh hS S 0 none _ _ (by omega) ⟨by rw [am_up_s, am_up_n _ _ (by decide), e 2 (by decide) (by decide)]; exact hI2, by rw [am_up_s, am_up_n _ _ (by decide), e 3 (by decide) (by decide)]; exact hI3, by rw [am_up_s, am_up_s], by rw [am_up_s, am_up_n _ _ (by decide), e 54 (by decide) (by decide)]; exact h54, by rw [am_up_s, am_up_n _ _ (by decide), e 58 (by decide) (by decide)]; exact h58, by rw [am_up_s, am_up_n _ _ (by decide)]; exact e0⟩ (fun a ha => ⟨by rw [am_up_n _ _ (by omega), hf1 a (by omega) (by omega), am_up_n _ _ (by omega)], rfl⟩)

set_option maxHeartbeats 4000000 in
set_option maxRecDepth 100000 in
theorem c_triedR_1 (m : Nat) (x1 x2 x3 x4 : Int32) {n : Nat} {kd : mK} {I : mI} {J : mJ} {P : mP} (hM : kM kd P m) (hb : ((!decide (x1 < nI 0) && !decide (nI 2 < x1)) && (!decide (x4 < nI 0) && !decide (nI 2 < x4))) = false) : Ct yX10_tried cX10_tried 11 (some .int) 10 0 0 [.ref m, .int x1, .int x2, .int x3, .int x4] n kd I J P (am_is (some (.int (nI 0))) n kd (va_up I m (va_up (I m) 0 (nI 1))) J P) := by
  refine ct_of 6 (by decide +kernel) (Nat.le_of_ble_eq_true rfl) rfl ?_
  by_cases h1 : (!decide (x1 < nI 0) && !decide (nI 2 < x1)) = true
  · rw [h1, Bool.true_and] at hb
    refine r_aload_n dX10_tried_0 rfl ?_
    refine r_iconst (v := nI 0) dX10_tried_1 (by decide) ?_
    refine r_putI dX10_tried_2 fl_X10_193 rfl rfl (kM_0 hM) ?_
    refine r_aload_n dX10_tried_5 rfl ?_
    refine r_iload_n dX10_tried_6 rfl ?_
    refine r_iconst (v := nI 0) dX10_tried_7 (by decide) ?_
    refine r_iconst (v := nI 2) dX10_tried_8 (by decide) ?_
    refine r_statE (c_X10_within (x1) (nI 0) (nI 2)) lk_X10_369 mc_X10_within dX10_tried_9 (by decide) rfl rfl (Nat.le_of_ble_eq_true rfl) ?_
    rw [show (!decide (x1 < nI 0) && !decide (nI 2 < x1)) = true from h1]
    refine r_if_eq (tgt := 29) dX10_tried_12 (by decide) (fun hz => absurd hz (show ¬ _ from (by decide))) (fun _ => ?_)
    refine r_iload dX10_tried_15 rfl ?_
    refine r_iconst (v := nI 0) dX10_tried_17 (by decide) ?_
    refine r_iconst (v := nI 2) dX10_tried_18 (by decide) ?_
    refine r_statE (c_X10_within (x4) (nI 0) (nI 2)) lk_X10_369 mc_X10_within dX10_tried_19 (by decide) rfl rfl (Nat.le_of_ble_eq_true rfl) ?_
    rw [show (!decide (x4 < nI 0) && !decide (nI 2 < x4)) = false from hb]
    refine r_if_eq (tgt := 29) dX10_tried_22 (by decide) (fun _ => ?_) (fun hz => absurd (show _ from (by decide)) hz)
    refine r_iconst (v := nI 0) dX10_tried_29 (by decide) ?_
    refine r_iconst (v := nI 1) dX10_tried_30 (by decide) ?_
    refine r_virtE (c_X10_right m false (nI 1) hM (by rw [am_up_s, am_up_s]; rfl) (by decide)) lk_X10_343 mc_X10_right dX10_tried_31 hM.1 (by decide) rfl rfl (Nat.le_of_ble_eq_true rfl) ?_
    refine r_if_eq (tgt := 70) dX10_tried_34 (by decide) (fun _ => ?_) (fun hz => absurd (show _ from rfl) hz)
    refine r_iconst (v := nI 0) dX10_tried_70 (by decide) ?_
    refine r_iret rfl dX10_tried_71 ?_
    simp only [thM, am_up_s, am_up_up, if_false, Bool.false_eq_true]
    exact am_is.mk
  · simp only [Bool.not_eq_true] at h1
    refine r_aload_n dX10_tried_0 rfl ?_
    refine r_iconst (v := nI 0) dX10_tried_1 (by decide) ?_
    refine r_putI dX10_tried_2 fl_X10_193 rfl rfl (kM_0 hM) ?_
    refine r_aload_n dX10_tried_5 rfl ?_
    refine r_iload_n dX10_tried_6 rfl ?_
    refine r_iconst (v := nI 0) dX10_tried_7 (by decide) ?_
    refine r_iconst (v := nI 2) dX10_tried_8 (by decide) ?_
    refine r_statE (c_X10_within (x1) (nI 0) (nI 2)) lk_X10_369 mc_X10_within dX10_tried_9 (by decide) rfl rfl (Nat.le_of_ble_eq_true rfl) ?_
    rw [show (!decide (x1 < nI 0) && !decide (nI 2 < x1)) = false from h1]
    refine r_if_eq (tgt := 29) dX10_tried_12 (by decide) (fun _ => ?_) (fun hz => absurd (show _ from (by decide)) hz)
    refine r_iconst (v := nI 0) dX10_tried_29 (by decide) ?_
    refine r_iconst (v := nI 1) dX10_tried_30 (by decide) ?_
    refine r_virtE (c_X10_right m false (nI 1) hM (by rw [am_up_s, am_up_s]; rfl) (by decide)) lk_X10_343 mc_X10_right dX10_tried_31 hM.1 (by decide) rfl rfl (Nat.le_of_ble_eq_true rfl) ?_
    refine r_if_eq (tgt := 70) dX10_tried_34 (by decide) (fun _ => ?_) (fun hz => absurd (show _ from rfl) hz)
    refine r_iconst (v := nI 0) dX10_tried_70 (by decide) ?_
    refine r_iret rfl dX10_tried_71 ?_
    simp only [thM, am_up_s, am_up_up, if_false, Bool.false_eq_true]
    exact am_is.mk

set_option maxHeartbeats 4000000 in
set_option maxRecDepth 100000 in
theorem c_triedR_2 (m : Nat) (x1 x2 x3 x4 : Int32) {n : Nat} {kd : mK} {I : mI} {J : mJ} {P : mP} (hM : kM kd P m) (h1 : (!decide (x1 < nI 0) && !decide (nI 2 < x1)) = true) (h4 : (!decide (x4 < nI 0) && !decide (nI 2 < x4)) = true) (hb : ((!decide (x2 < nI 0) && !decide (nI 40 < x2)) && (!decide (x3 < nI 1) && !decide (nI 8 < x3))) = false) : Ct yX10_tried cX10_tried 11 (some .int) 10 0 0 [.ref m, .int x1, .int x2, .int x3, .int x4] n kd I J P (am_is (some (.int (nI 0))) n kd (va_up I m (va_up (I m) 0 (nI 2))) J P) := by
  refine ct_of 6 (by decide +kernel) (Nat.le_of_ble_eq_true rfl) rfl ?_
  by_cases h2 : (!decide (x2 < nI 0) && !decide (nI 40 < x2)) = true
  · rw [h2, Bool.true_and] at hb
    refine r_aload_n dX10_tried_0 rfl ?_
    refine r_iconst (v := nI 0) dX10_tried_1 (by decide) ?_
    refine r_putI dX10_tried_2 fl_X10_193 rfl rfl (kM_0 hM) ?_
    refine r_aload_n dX10_tried_5 rfl ?_
    refine r_iload_n dX10_tried_6 rfl ?_
    refine r_iconst (v := nI 0) dX10_tried_7 (by decide) ?_
    refine r_iconst (v := nI 2) dX10_tried_8 (by decide) ?_
    refine r_statE (c_X10_within (x1) (nI 0) (nI 2)) lk_X10_369 mc_X10_within dX10_tried_9 (by decide) rfl rfl (Nat.le_of_ble_eq_true rfl) ?_
    rw [show (!decide (x1 < nI 0) && !decide (nI 2 < x1)) = true from h1]
    refine r_if_eq (tgt := 29) dX10_tried_12 (by decide) (fun hz => absurd hz (show ¬ _ from (by decide))) (fun _ => ?_)
    refine r_iload dX10_tried_15 rfl ?_
    refine r_iconst (v := nI 0) dX10_tried_17 (by decide) ?_
    refine r_iconst (v := nI 2) dX10_tried_18 (by decide) ?_
    refine r_statE (c_X10_within (x4) (nI 0) (nI 2)) lk_X10_369 mc_X10_within dX10_tried_19 (by decide) rfl rfl (Nat.le_of_ble_eq_true rfl) ?_
    rw [show (!decide (x4 < nI 0) && !decide (nI 2 < x4)) = true from h4]
    refine r_if_eq (tgt := 29) dX10_tried_22 (by decide) (fun hz => absurd hz (show ¬ _ from (by decide))) (fun _ => ?_)
    refine r_iconst (v := nI 1) dX10_tried_25 (by decide) ?_
    refine r_goto (tgt := 30) dX10_tried_26 (by decide) ?_
    refine r_iconst (v := nI 1) dX10_tried_30 (by decide) ?_
    refine r_virtE (c_X10_right m true (nI 1) hM (by rw [am_up_s, am_up_s]; rfl) (by decide)) lk_X10_343 mc_X10_right dX10_tried_31 hM.1 (by decide) rfl rfl (Nat.le_of_ble_eq_true rfl) ?_
    rw [thM_ok]
    refine r_if_eq (tgt := 70) dX10_tried_34 (by decide) (fun hz => absurd hz (show ¬ _ from (by decide))) (fun _ => ?_)
    refine r_aload_n dX10_tried_37 rfl ?_
    refine r_iload_n dX10_tried_38 rfl ?_
    refine r_iconst (v := nI 0) dX10_tried_39 (by decide) ?_
    refine r_bipush (v := nI 40) dX10_tried_40 (by decide) ?_
    refine r_statE (c_X10_within (x2) (nI 0) (nI 40)) lk_X10_369 mc_X10_within dX10_tried_42 (by decide) rfl rfl (Nat.le_of_ble_eq_true rfl) ?_
    rw [show (!decide (x2 < nI 0) && !decide (nI 40 < x2)) = true from h2]
    refine r_if_eq (tgt := 62) dX10_tried_45 (by decide) (fun hz => absurd hz (show ¬ _ from (by decide))) (fun _ => ?_)
    refine r_iload_n dX10_tried_48 rfl ?_
    refine r_iconst (v := nI 1) dX10_tried_49 (by decide) ?_
    refine r_bipush (v := nI 8) dX10_tried_50 (by decide) ?_
    refine r_statE (c_X10_within (x3) (nI 1) (nI 8)) lk_X10_369 mc_X10_within dX10_tried_52 (by decide) rfl rfl (Nat.le_of_ble_eq_true rfl) ?_
    rw [show (!decide (x3 < nI 1) && !decide (nI 8 < x3)) = false from hb]
    refine r_if_eq (tgt := 62) dX10_tried_55 (by decide) (fun _ => ?_) (fun hz => absurd (show _ from (by decide)) hz)
    refine r_iconst (v := nI 0) dX10_tried_62 (by decide) ?_
    refine r_iconst (v := nI 2) dX10_tried_63 (by decide) ?_
    refine r_virtE (c_X10_right m false (nI 2) hM (by rw [am_up_s, am_up_s]; rfl) (by decide)) lk_X10_343 mc_X10_right dX10_tried_64 hM.1 (by decide) rfl rfl (Nat.le_of_ble_eq_true rfl) ?_
    refine r_if_ne (tgt := 72) dX10_tried_67 (by decide) (fun hz => absurd (show _ from rfl) hz) (fun _ => ?_)
    refine r_iconst (v := nI 0) dX10_tried_70 (by decide) ?_
    refine r_iret rfl dX10_tried_71 ?_
    simp only [thM, am_up_s, am_up_up, if_false, Bool.false_eq_true]
    exact am_is.mk
  · simp only [Bool.not_eq_true] at h2
    refine r_aload_n dX10_tried_0 rfl ?_
    refine r_iconst (v := nI 0) dX10_tried_1 (by decide) ?_
    refine r_putI dX10_tried_2 fl_X10_193 rfl rfl (kM_0 hM) ?_
    refine r_aload_n dX10_tried_5 rfl ?_
    refine r_iload_n dX10_tried_6 rfl ?_
    refine r_iconst (v := nI 0) dX10_tried_7 (by decide) ?_
    refine r_iconst (v := nI 2) dX10_tried_8 (by decide) ?_
    refine r_statE (c_X10_within (x1) (nI 0) (nI 2)) lk_X10_369 mc_X10_within dX10_tried_9 (by decide) rfl rfl (Nat.le_of_ble_eq_true rfl) ?_
    rw [show (!decide (x1 < nI 0) && !decide (nI 2 < x1)) = true from h1]
    refine r_if_eq (tgt := 29) dX10_tried_12 (by decide) (fun hz => absurd hz (show ¬ _ from (by decide))) (fun _ => ?_)
    refine r_iload dX10_tried_15 rfl ?_
    refine r_iconst (v := nI 0) dX10_tried_17 (by decide) ?_
    refine r_iconst (v := nI 2) dX10_tried_18 (by decide) ?_
    refine r_statE (c_X10_within (x4) (nI 0) (nI 2)) lk_X10_369 mc_X10_within dX10_tried_19 (by decide) rfl rfl (Nat.le_of_ble_eq_true rfl) ?_
    rw [show (!decide (x4 < nI 0) && !decide (nI 2 < x4)) = true from h4]
    refine r_if_eq (tgt := 29) dX10_tried_22 (by decide) (fun hz => absurd hz (show ¬ _ from (by decide))) (fun _ => ?_)
    refine r_iconst (v := nI 1) dX10_tried_25 (by decide) ?_
    refine r_goto (tgt := 30) dX10_tried_26 (by decide) ?_
    refine r_iconst (v := nI 1) dX10_tried_30 (by decide) ?_
    refine r_virtE (c_X10_right m true (nI 1) hM (by rw [am_up_s, am_up_s]; rfl) (by decide)) lk_X10_343 mc_X10_right dX10_tried_31 hM.1 (by decide) rfl rfl (Nat.le_of_ble_eq_true rfl) ?_
    rw [thM_ok]
    refine r_if_eq (tgt := 70) dX10_tried_34 (by decide) (fun hz => absurd hz (show ¬ _ from (by decide))) (fun _ => ?_)
    refine r_aload_n dX10_tried_37 rfl ?_
    refine r_iload_n dX10_tried_38 rfl ?_
    refine r_iconst (v := nI 0) dX10_tried_39 (by decide) ?_
    refine r_bipush (v := nI 40) dX10_tried_40 (by decide) ?_
    refine r_statE (c_X10_within (x2) (nI 0) (nI 40)) lk_X10_369 mc_X10_within dX10_tried_42 (by decide) rfl rfl (Nat.le_of_ble_eq_true rfl) ?_
    rw [show (!decide (x2 < nI 0) && !decide (nI 40 < x2)) = false from h2]
    refine r_if_eq (tgt := 62) dX10_tried_45 (by decide) (fun _ => ?_) (fun hz => absurd (show _ from (by decide)) hz)
    refine r_iconst (v := nI 0) dX10_tried_62 (by decide) ?_
    refine r_iconst (v := nI 2) dX10_tried_63 (by decide) ?_
    refine r_virtE (c_X10_right m false (nI 2) hM (by rw [am_up_s, am_up_s]; rfl) (by decide)) lk_X10_343 mc_X10_right dX10_tried_64 hM.1 (by decide) rfl rfl (Nat.le_of_ble_eq_true rfl) ?_
    refine r_if_ne (tgt := 72) dX10_tried_67 (by decide) (fun hz => absurd (show _ from rfl) hz) (fun _ => ?_)
    refine r_iconst (v := nI 0) dX10_tried_70 (by decide) ?_
    refine r_iret rfl dX10_tried_71 ?_
    simp only [thM, am_up_s, am_up_up, if_false, Bool.false_eq_true]
    exact am_is.mk

