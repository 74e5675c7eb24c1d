/-! LAWS TRIED on any state: the reference -/
def lnS (q : Nat) : Nat := if q = 6 then 1300 else if q = 7 then 500 else 8
theorem rcs_13 {A B : Nat → Int32} (h : ∀ j, j < 1300 → B j = A j) : ∀ (cs : List Nat) (k : Nat), rcs A cs k → rcs B cs k
  | [], k, hr => ⟨hr.1, (h k hr.1).trans hr.2⟩
  | c :: t, k, hr => by
    unfold rcs at hr ⊢
    refine ⟨hr.1, ?_⟩
    have hr2 := hr.2
    split at hr2
    · rename_i q
      rw [if_pos q]
      obtain ⟨w, a, r1, r2, r3, r4⟩ := hr2
      exact ⟨w, a, r1, (h _ (by omega)).trans r2, (h _ hr.1).trans r3, rcs_13 h t _ r4⟩
    · rename_i q
      rw [if_neg q]
      exact ⟨(h _ (by omega)).trans hr2.1, rcs_13 h t _ hr2.2⟩
theorem wrT_cg {A B : Nat → Int32} : ∀ (k p : Nat) (la : Int32) (ap : Bool), (∀ j, p ≤ j → j < p + k → B j = A j) → wrT B k p la ap = wrT A k p la ap
  | 0, _, _, _, _ => rfl
  | k + 1, p, la, ap, h => by
    unfold wrT
    rw [h p (Nat.le_refl p) (by omega), wrT_cg k (p + 1) la true (fun j a b => h j (by omega) (by omega)), wrT_cg k (p + 1) (A p) false (fun j a b => h j (by omega) (by omega))]
set_option maxHeartbeats 4000000 in
set_option maxRecDepth 100000 in
theorem e_X10_keepsStreet (m : Nat) {n : Nat} {kd : mK} {I : mI} {J : mJ} {P : mP} (hM : kM kd P m) : Ct yX10_keepsStreet cX10_keepsStreet 1 none 2 0 0 [.ref m] n kd I J P (fun z n' kd' I' J' P' => z = .inl none ∧ n' = n ∧ kd' = kd ∧ J' = J ∧ P' = P ∧ (∀ a, a ≠ m → (a < m + 41 ∨ m + 50 < a) → I' a = I a) ∧ (∀ j, j ≠ 79 → I' m j = I m j) ∧ I' m 79 = I m 1 ∧ ∀ q, q < 10 → ∀ x, x < lnS q → I' (m + (41 + q)) x = I (m + (1 + q)) x) := by
  refine ct_of 0 (by decide +kernel) (Nat.le_of_ble_eq_true rfl) rfl ?_
  refine r_aload_n dX10_keepsStreet_0 rfl ?_
  refine r_aload_n dX10_keepsStreet_1 rfl ?_
  refine r_getI dX10_keepsStreet_2 fl_X10_350 rfl (kM_0 hM) ?_
  refine r_putI dX10_keepsStreet_5 fl_X10_548 rfl rfl (kM_0 hM) ?_
  obtain ⟨K0, hK0⟩ : ∃ X : mI, X = va_up I m (va_up (I m) 79 (I m 1)) := ⟨_, rfl⟩
  rw [← hK0]
  have f0 : ∀ a, a ≠ m → K0 a = I a := fun a ha => by rw [hK0, am_up_n _ _ ha]
  have f00 : ∀ j, j ≠ 79 → K0 m j = I m j := fun j hj => by rw [hK0, am_up_s, am_up_n _ _ hj]
  have g0 : K0 m 79 = I m 1 := by rw [hK0, am_up_s, am_up_s]
  clear hK0
  refine r_aload_n dX10_keepsStreet_8 rfl ?_
  refine r_aload_n dX10_keepsStreet_9 rfl ?_
  refine r_getR dX10_keepsStreet_10 fl_X10_13 rfl (kM_0 hM) (pM_4 hM) ?_
  refine r_aload_n dX10_keepsStreet_13 rfl ?_
  refine r_getR dX10_keepsStreet_14 fl_X10_148 rfl (kM_0 hM) (pM_80 hM) ?_
  refine r_virtV (c_X10_copies m (m + 1) (m + 41) 8 8 (aM_4 hM) (aM_80 hM) (by omega) (by decide) (by decide) (by decide)) lk_X10_356 mc_X10_copies dX10_keepsStreet_17 hM.1 (by decide) rfl rfl (Nat.le_of_ble_eq_true rfl) ?_
  obtain ⟨K1, hK1⟩ : ∃ X : mI, X = va_up K0 (m + 41) (fun j => if j < 8 then K0 (m + 1) j else K0 (m + 41) j) := ⟨_, rfl⟩
  rw [← hK1]
  have f1 : ∀ a, a ≠ m + 41 → K1 a = K0 a := fun a ha => by rw [hK1, am_up_n _ _ ha]
  have g1 : ∀ x, x < 8 → K1 (m + 41) x = K0 (m + 1) x := fun x hx => by rw [hK1, am_up_s, if_pos hx]
  clear hK1
  refine r_aload_n dX10_keepsStreet_20 rfl ?_
  refine r_aload_n dX10_keepsStreet_21 rfl ?_
  refine r_getR dX10_keepsStreet_22 fl_X10_17 rfl (kM_0 hM) (pM_5 hM) ?_
  refine r_aload_n dX10_keepsStreet_25 rfl ?_
  refine r_getR dX10_keepsStreet_26 fl_X10_151 rfl (kM_0 hM) (pM_81 hM) ?_
  refine r_virtV (c_X10_copies m (m + 2) (m + 42) 8 8 (aM_5 hM) (aM_81 hM) (by omega) (by decide) (by decide) (by decide)) lk_X10_356 mc_X10_copies dX10_keepsStreet_29 hM.1 (by decide) rfl rfl (Nat.le_of_ble_eq_true rfl) ?_
  obtain ⟨K2, hK2⟩ : ∃ X : mI, X = va_up K1 (m + 42) (fun j => if j < 8 then K1 (m + 2) j else K1 (m + 42) j) := ⟨_, rfl⟩
  rw [← hK2]
  have f2 : ∀ a, a ≠ m + 42 → K2 a = K1 a := fun a ha => by rw [hK2, am_up_n _ _ ha]
  have g2 : ∀ x, x < 8 → K2 (m + 42) x = K1 (m + 2) x := fun x hx => by rw [hK2, am_up_s, if_pos hx]
  clear hK2
  refine r_aload_n dX10_keepsStreet_32 rfl ?_
  refine r_aload_n dX10_keepsStreet_33 rfl ?_
  refine r_getR dX10_keepsStreet_34 fl_X10_20 rfl (kM_0 hM) (pM_6 hM) ?_
  refine r_aload_n dX10_keepsStreet_37 rfl ?_
  refine r_getR dX10_keepsStreet_38 fl_X10_154 rfl (kM_0 hM) (pM_82 hM) ?_
  refine r_virtV (c_X10_copies m (m + 3) (m + 43) 8 8 (aM_6 hM) (aM_82 hM) (by omega) (by decide) (by decide) (by decide)) lk_X10_356 mc_X10_copies dX10_keepsStreet_41 hM.1 (by decide) rfl rfl (Nat.le_of_ble_eq_true rfl) ?_
  obtain ⟨K3, hK3⟩ : ∃ X : mI, X = va_up K2 (m + 43) (fun j => if j < 8 then K2 (m + 3) j else K2 (m + 43) j) := ⟨_, rfl⟩
  rw [← hK3]
  have f3 : ∀ a, a ≠ m + 43 → K3 a = K2 a := fun a ha => by rw [hK3, am_up_n _ _ ha]
  have g3 : ∀ x, x < 8 → K3 (m + 43) x = K2 (m + 3) x := fun x hx => by rw [hK3, am_up_s, if_pos hx]
  clear hK3
  refine r_aload_n dX10_keepsStreet_44 rfl ?_
  refine r_aload_n dX10_keepsStreet_45 rfl ?_
  refine r_getR dX10_keepsStreet_46 fl_X10_23 rfl (kM_0 hM) (pM_7 hM) ?_
  refine r_aload_n dX10_keepsStreet_49 rfl ?_
  refine r_getR dX10_keepsStreet_50 fl_X10_157 rfl (kM_0 hM) (pM_83 hM) ?_
  refine r_virtV (c_X10_copies m (m + 4) (m + 44) 8 8 (aM_7 hM) (aM_83 hM) (by omega) (by decide) (by decide) (by decide)) lk_X10_356 mc_X10_copies dX10_keepsStreet_53 hM.1 (by decide) rfl rfl (Nat.le_of_ble_eq_true rfl) ?_
  obtain ⟨K4, hK4⟩ : ∃ X : mI, X = va_up K3 (m + 44) (fun j => if j < 8 then K3 (m + 4) j else K3 (m + 44) j) := ⟨_, rfl⟩
  rw [← hK4]
  have f4 : ∀ a, a ≠ m + 44 → K4 a = K3 a := fun a ha => by rw [hK4, am_up_n _ _ ha]
  have g4 : ∀ x, x < 8 → K4 (m + 44) x = K3 (m + 4) x := fun x hx => by rw [hK4, am_up_s, if_pos hx]
  clear hK4
  refine r_aload_n dX10_keepsStreet_56 rfl ?_
  refine r_aload_n dX10_keepsStreet_57 rfl ?_
  refine r_getR dX10_keepsStreet_58 fl_X10_26 rfl (kM_0 hM) (pM_8 hM) ?_
  refine r_aload_n dX10_keepsStreet_61 rfl ?_
  refine r_getR dX10_keepsStreet_62 fl_X10_160 rfl (kM_0 hM) (pM_84 hM) ?_
  refine r_virtV (c_X10_copies m (m + 5) (m + 45) 8 8 (aM_8 hM) (aM_84 hM) (by omega) (by decide) (by decide) (by decide)) lk_X10_356 mc_X10_copies dX10_keepsStreet_65 hM.1 (by decide) rfl rfl (Nat.le_of_ble_eq_true rfl) ?_
  obtain ⟨K5, hK5⟩ : ∃ X : mI, X = va_up K4 (m + 45) (fun j => if j < 8 then K4 (m + 5) j else K4 (m + 45) j) := ⟨_, rfl⟩
  rw [← hK5]
  have f5 : ∀ a, a ≠ m + 45 → K5 a = K4 a := fun a ha => by rw [hK5, am_up_n _ _ ha]
  have g5 : ∀ x, x < 8 → K5 (m + 45) x = K4 (m + 5) x := fun x hx => by rw [hK5, am_up_s, if_pos hx]
  clear hK5
  refine r_aload_n dX10_keepsStreet_68 rfl ?_
  refine r_aload_n dX10_keepsStreet_69 rfl ?_
  refine r_getR dX10_keepsStreet_70 fl_X10_29 rfl (kM_0 hM) (pM_9 hM) ?_
  refine r_aload_n dX10_keepsStreet_73 rfl ?_
  refine r_getR dX10_keepsStreet_74 fl_X10_163 rfl (kM_0 hM) (pM_85 hM) ?_
  refine r_virtV (c_X10_copies m (m + 6) (m + 46) 8 8 (aM_9 hM) (aM_85 hM) (by omega) (by decide) (by decide) (by decide)) lk_X10_356 mc_X10_copies dX10_keepsStreet_77 hM.1 (by decide) rfl rfl (Nat.le_of_ble_eq_true rfl) ?_
  obtain ⟨K6, hK6⟩ : ∃ X : mI, X = va_up K5 (m + 46) (fun j => if j < 8 then K5 (m + 6) j else K5 (m + 46) j) := ⟨_, rfl⟩
  rw [← hK6]
  have f6 : ∀ a, a ≠ m + 46 → K6 a = K5 a := fun a ha => by rw [hK6, am_up_n _ _ ha]
  have g6 : ∀ x, x < 8 → K6 (m + 46) x = K5 (m + 6) x := fun x hx => by rw [hK6, am_up_s, if_pos hx]
  clear hK6
  refine r_aload_n dX10_keepsStreet_80 rfl ?_
  refine r_aload_n dX10_keepsStreet_81 rfl ?_
  refine r_getR dX10_keepsStreet_82 fl_X10_32 rfl (kM_0 hM) (pM_10 hM) ?_
  refine r_aload_n dX10_keepsStreet_85 rfl ?_
  refine r_getR dX10_keepsStreet_86 fl_X10_166 rfl (kM_0 hM) (pM_86 hM) ?_
  refine r_virtV (c_X10_copies m (m + 7) (m + 47) 1300 1300 (aM_10 hM) (aM_86 hM) (by omega) (by decide) (by decide) (by decide)) lk_X10_356 mc_X10_copies dX10_keepsStreet_89 hM.1 (by decide) rfl rfl (Nat.le_of_ble_eq_true rfl) ?_
  obtain ⟨K7, hK7⟩ : ∃ X : mI, X = va_up K6 (m + 47) (fun j => if j < 1300 then K6 (m + 7) j else K6 (m + 47) j) := ⟨_, rfl⟩
  rw [← hK7]
  have f7 : ∀ a, a ≠ m + 47 → K7 a = K6 a := fun a ha => by rw [hK7, am_up_n _ _ ha]
  have g7 : ∀ x, x < 1300 → K7 (m + 47) x = K6 (m + 7) x := fun x hx => by rw [hK7, am_up_s, if_pos hx]
  clear hK7
  refine r_aload_n dX10_keepsStreet_92 rfl ?_
  refine r_aload_n dX10_keepsStreet_93 rfl ?_
  refine r_getR dX10_keepsStreet_94 fl_X10_35 rfl (kM_0 hM) (pM_11 hM) ?_
  refine r_aload_n dX10_keepsStreet_97 rfl ?_
  refine r_getR dX10_keepsStreet_98 fl_X10_169 rfl (kM_0 hM) (pM_87 hM) ?_
  refine r_virtV (c_X10_copies m (m + 8) (m + 48) 500 500 (aM_11 hM) (aM_87 hM) (by omega) (by decide) (by decide) (by decide)) lk_X10_356 mc_X10_copies dX10_keepsStreet_101 hM.1 (by decide) rfl rfl (Nat.le_of_ble_eq_true rfl) ?_
  obtain ⟨K8, hK8⟩ : ∃ X : mI, X = va_up K7 (m + 48) (fun j => if j < 500 then K7 (m + 8) j else K7 (m + 48) j) := ⟨_, rfl⟩
  rw [← hK8]
  have f8 : ∀ a, a ≠ m + 48 → K8 a = K7 a := fun a ha => by rw [hK8, am_up_n _ _ ha]
  have g8 : ∀ x, x < 500 → K8 (m + 48) x = K7 (m + 8) x := fun x hx => by rw [hK8, am_up_s, if_pos hx]
  clear hK8
  refine r_aload_n dX10_keepsStreet_104 rfl ?_
  refine r_aload_n dX10_keepsStreet_105 rfl ?_
  refine r_getR dX10_keepsStreet_106 fl_X10_38 rfl (kM_0 hM) (pM_12 hM) ?_
  refine r_aload_n dX10_keepsStreet_109 rfl ?_
  refine r_getR dX10_keepsStreet_110 fl_X10_172 rfl (kM_0 hM) (pM_88 hM) ?_
  refine r_virtV (c_X10_copies m (m + 9) (m + 49) 8 8 (aM_12 hM) (aM_88 hM) (by omega) (by decide) (by decide) (by decide)) lk_X10_356 mc_X10_copies dX10_keepsStreet_113 hM.1 (by decide) rfl rfl (Nat.le_of_ble_eq_true rfl) ?_
  obtain ⟨K9, hK9⟩ : ∃ X : mI, X = va_up K8 (m + 49) (fun j => if j < 8 then K8 (m + 9) j else K8 (m + 49) j) := ⟨_, rfl⟩
  rw [← hK9]
  have f9 : ∀ a, a ≠ m + 49 → K9 a = K8 a := fun a ha => by rw [hK9, am_up_n _ _ ha]
  have g9 : ∀ x, x < 8 → K9 (m + 49) x = K8 (m + 9) x := fun x hx => by rw [hK9, am_up_s, if_pos hx]
  clear hK9
  refine r_aload_n dX10_keepsStreet_116 rfl ?_
  refine r_aload_n dX10_keepsStreet_117 rfl ?_
  refine r_getR dX10_keepsStreet_118 fl_X10_41 rfl (kM_0 hM) (pM_13 hM) ?_
  refine r_aload_n dX10_keepsStreet_121 rfl ?_
  refine r_getR dX10_keepsStreet_122 fl_X10_175 rfl (kM_0 hM) (pM_89 hM) ?_
  refine r_virtV (c_X10_copies m (m + 10) (m + 50) 8 8 (aM_13 hM) (aM_89 hM) (by omega) (by decide) (by decide) (by decide)) lk_X10_356 mc_X10_copies dX10_keepsStreet_125 hM.1 (by decide) rfl rfl (Nat.le_of_ble_eq_true rfl) ?_
  obtain ⟨K10, hK10⟩ : ∃ X : mI, X = va_up K9 (m + 50) (fun j => if j < 8 then K9 (m + 10) j else K9 (m + 50) j) := ⟨_, rfl⟩
  rw [← hK10]
  have f10 : ∀ a, a ≠ m + 50 → K10 a = K9 a := fun a ha => by rw [hK10, am_up_n _ _ ha]
  have g10 : ∀ x, x < 8 → K10 (m + 50) x = K9 (m + 10) x := fun x hx => by rw [hK10, am_up_s, if_pos hx]
  clear hK10
  refine r_vret rfl dX10_keepsStreet_128 ?_
  refine ⟨rfl, rfl, rfl, rfl, rfl, fun a a1 a2 => ?_, fun j hj => ?_, ?_, fun q hq x hx => ?_⟩
  · rw [f10 _ (by omega), f9 _ (by omega), f8 _ (by omega), f7 _ (by omega), f6 _ (by omega), f5 _ (by omega), f4 _ (by omega), f3 _ (by omega), f2 _ (by omega), f1 _ (by omega), f0 _ a1]
  · rw [f10 _ (by omega), f9 _ (by omega), f8 _ (by omega), f7 _ (by omega), f6 _ (by omega), f5 _ (by omega), f4 _ (by omega), f3 _ (by omega), f2 _ (by omega), f1 _ (by omega), f00 j hj]
  · rw [f10 _ (by omega), f9 _ (by omega), f8 _ (by omega), f7 _ (by omega), f6 _ (by omega), f5 _ (by omega), f4 _ (by omega), f3 _ (by omega), f2 _ (by omega), f1 _ (by omega), g0]
  · rcases (by omega : q = 0 ∨ q = 1 ∨ q = 2 ∨ q = 3 ∨ q = 4 ∨ q = 5 ∨ q = 6 ∨ q = 7 ∨ q = 8 ∨ q = 9) with rfl | rfl | rfl | rfl | rfl | rfl | rfl | rfl | rfl | rfl
    · show K10 (m + 41) x = I (m + 1) x
      rw [f10 _ (by omega), f9 _ (by omega), f8 _ (by omega), f7 _ (by omega), f6 _ (by omega), f5 _ (by omega), f4 _ (by omega), f3 _ (by omega), f2 _ (by omega), g1 x hx, f0 _ (by omega)]
    · show K10 (m + 42) x = I (m + 2) x
      rw [f10 _ (by omega), f9 _ (by omega), f8 _ (by omega), f7 _ (by omega), f6 _ (by omega), f5 _ (by omega), f4 _ (by omega), f3 _ (by omega), g2 x hx, f1 _ (by omega), f0 _ (by omega)]
    · show K10 (m + 43) x = I (m + 3) x
      rw [f10 _ (by omega), f9 _ (by omega), f8 _ (by omega), f7 _ (by omega), f6 _ (by omega), f5 _ (by omega), f4 _ (by omega), g3 x hx, f2 _ (by omega), f1 _ (by omega), f0 _ (by omega)]
    · show K10 (m + 44) x = I (m + 4) x
      rw [f10 _ (by omega), f9 _ (by omega), f8 _ (by omega), f7 _ (by omega), f6 _ (by omega), f5 _ (by omega), g4 x hx, f3 _ (by omega), f2 _ (by omega), f1 _ (by omega), f0 _ (by omega)]
    · show K10 (m + 45) x = I (m + 5) x
      rw [f10 _ (by omega), f9 _ (by omega), f8 _ (by omega), f7 _ (by omega), f6 _ (by omega), g5 x hx, f4 _ (by omega), f3 _ (by omega), f2 _ (by omega), f1 _ (by omega), f0 _ (by omega)]
    · show K10 (m + 46) x = I (m + 6) x
      rw [f10 _ (by omega), f9 _ (by omega), f8 _ (by omega), f7 _ (by omega), g6 x hx, f5 _ (by omega), f4 _ (by omega), f3 _ (by omega), f2 _ (by omega), f1 _ (by omega), f0 _ (by omega)]
    · show K10 (m + 47) x = I (m + 7) x
      rw [f10 _ (by omega), f9 _ (by omega), f8 _ (by omega), g7 x hx, f6 _ (by omega), f5 _ (by omega), f4 _ (by omega), f3 _ (by omega), f2 _ (by omega), f1 _ (by omega), f0 _ (by omega)]
    · show K10 (m + 48) x = I (m + 8) x
      rw [f10 _ (by omega), f9 _ (by omega), g8 x hx, f7 _ (by omega), f6 _ (by omega), f5 _ (by omega), f4 _ (by omega), f3 _ (by omega), f2 _ (by omega), f1 _ (by omega), f0 _ (by omega)]
    · show K10 (m + 49) x = I (m + 9) x
      rw [f10 _ (by omega), g9 x hx, f8 _ (by omega), f7 _ (by omega), f6 _ (by omega), f5 _ (by omega), f4 _ (by omega), f3 _ (by omega), f2 _ (by omega), f1 _ (by omega), f0 _ (by omega)]
    · show K10 (m + 50) x = I (m + 10) x
      rw [g10 x hx, f9 _ (by omega), f8 _ (by omega), f7 _ (by omega), f6 _ (by omega), f5 _ (by omega), f4 _ (by omega), f3 _ (by omega), f2 _ (by omega), f1 _ (by omega), f0 _ (by omega)]

set_option maxHeartbeats 4000000 in
set_option maxRecDepth 100000 in
theorem e_X10_takesStreet (m : Nat) {n : Nat} {kd : mK} {I : mI} {J : mJ} {P : mP} (hM : kM kd P m) : Ct yX10_takesStreet cX10_takesStreet 1 none 2 0 0 [.ref m] n kd I J P (fun z n' kd' I' J' P' => z = .inl none ∧ n' = n ∧ kd' = kd ∧ J' = J ∧ P' = P ∧ (∀ a, a ≠ m → (a < m + 1 ∨ m + 10 < a) → I' a = I a) ∧ (∀ j, j ≠ 1 → I' m j = I m j) ∧ I' m 1 = I m 79 ∧ ∀ q, q < 10 → ∀ x, x < lnS q → I' (m + (1 + q)) x = I (m + (41 + q)) x) := by
  refine ct_of 0 (by decide +kernel) (Nat.le_of_ble_eq_true rfl) rfl ?_
  refine r_aload_n dX10_takesStreet_0 rfl ?_
  refine r_aload_n dX10_takesStreet_1 rfl ?_
  refine r_getI dX10_takesStreet_2 fl_X10_548 rfl (kM_0 hM) ?_
  refine r_putI dX10_takesStreet_5 fl_X10_350 rfl rfl (kM_0 hM) ?_
  obtain ⟨K0, hK0⟩ : ∃ X : mI, X = va_up I m (va_up (I m) 1 (I m 79)) := ⟨_, rfl⟩
  rw [← hK0]
  have f0 : ∀ a, a ≠ m → K0 a = I a := fun a ha => by rw [hK0, am_up_n _ _ ha]
  have f00 : ∀ j, j ≠ 1 → K0 m j = I m j := fun j hj => by rw [hK0, am_up_s, am_up_n _ _ hj]
  have g0 : K0 m 1 = I m 79 := by rw [hK0, am_up_s, am_up_s]
  clear hK0
  refine r_aload_n dX10_takesStreet_8 rfl ?_
  refine r_aload_n dX10_takesStreet_9 rfl ?_
  refine r_getR dX10_takesStreet_10 fl_X10_148 rfl (kM_0 hM) (pM_80 hM) ?_
  refine r_aload_n dX10_takesStreet_13 rfl ?_
  refine r_getR dX10_takesStreet_14 fl_X10_13 rfl (kM_0 hM) (pM_4 hM) ?_
  refine r_virtV (c_X10_copies m (m + 41) (m + 1) 8 8 (aM_80 hM) (aM_4 hM) (by omega) (by decide) (by decide) (by decide)) lk_X10_356 mc_X10_copies dX10_takesStreet_17 hM.1 (by decide) rfl rfl (Nat.le_of_ble_eq_true rfl) ?_
  obtain ⟨K1, hK1⟩ : ∃ X : mI, X = va_up K0 (m + 1) (fun j => if j < 8 then K0 (m + 41) j else K0 (m + 1) j) := ⟨_, rfl⟩
  rw [← hK1]
  have f1 : ∀ a, a ≠ m + 1 → K1 a = K0 a := fun a ha => by rw [hK1, am_up_n _ _ ha]
  have g1 : ∀ x, x < 8 → K1 (m + 1) x = K0 (m + 41) x := fun x hx => by rw [hK1, am_up_s, if_pos hx]
  clear hK1
  refine r_aload_n dX10_takesStreet_20 rfl ?_
  refine r_aload_n dX10_takesStreet_21 rfl ?_
  refine r_getR dX10_takesStreet_22 fl_X10_151 rfl (kM_0 hM) (pM_81 hM) ?_
  refine r_aload_n dX10_takesStreet_25 rfl ?_
  refine r_getR dX10_takesStreet_26 fl_X10_17 rfl (kM_0 hM) (pM_5 hM) ?_
  refine r_virtV (c_X10_copies m (m + 42) (m + 2) 8 8 (aM_81 hM) (aM_5 hM) (by omega) (by decide) (by decide) (by decide)) lk_X10_356 mc_X10_copies dX10_takesStreet_29 hM.1 (by decide) rfl rfl (Nat.le_of_ble_eq_true rfl) ?_
  obtain ⟨K2, hK2⟩ : ∃ X : mI, X = va_up K1 (m + 2) (fun j => if j < 8 then K1 (m + 42) j else K1 (m + 2) j) := ⟨_, rfl⟩
  rw [← hK2]
  have f2 : ∀ a, a ≠ m + 2 → K2 a = K1 a := fun a ha => by rw [hK2, am_up_n _ _ ha]
  have g2 : ∀ x, x < 8 → K2 (m + 2) x = K1 (m + 42) x := fun x hx => by rw [hK2, am_up_s, if_pos hx]
  clear hK2
  refine r_aload_n dX10_takesStreet_32 rfl ?_
  refine r_aload_n dX10_takesStreet_33 rfl ?_
  refine r_getR dX10_takesStreet_34 fl_X10_154 rfl (kM_0 hM) (pM_82 hM) ?_
  refine r_aload_n dX10_takesStreet_37 rfl ?_
  refine r_getR dX10_takesStreet_38 fl_X10_20 rfl (kM_0 hM) (pM_6 hM) ?_
  refine r_virtV (c_X10_copies m (m + 43) (m + 3) 8 8 (aM_82 hM) (aM_6 hM) (by omega) (by decide) (by decide) (by decide)) lk_X10_356 mc_X10_copies dX10_takesStreet_41 hM.1 (by decide) rfl rfl (Nat.le_of_ble_eq_true rfl) ?_
  obtain ⟨K3, hK3⟩ : ∃ X : mI, X = va_up K2 (m + 3) (fun j => if j < 8 then K2 (m + 43) j else K2 (m + 3) j) := ⟨_, rfl⟩
  rw [← hK3]
  have f3 : ∀ a, a ≠ m + 3 → K3 a = K2 a := fun a ha => by rw [hK3, am_up_n _ _ ha]
  have g3 : ∀ x, x < 8 → K3 (m + 3) x = K2 (m + 43) x := fun x hx => by rw [hK3, am_up_s, if_pos hx]
  clear hK3
  refine r_aload_n dX10_takesStreet_44 rfl ?_
  refine r_aload_n dX10_takesStreet_45 rfl ?_
  refine r_getR dX10_takesStreet_46 fl_X10_157 rfl (kM_0 hM) (pM_83 hM) ?_
  refine r_aload_n dX10_takesStreet_49 rfl ?_
  refine r_getR dX10_takesStreet_50 fl_X10_23 rfl (kM_0 hM) (pM_7 hM) ?_
  refine r_virtV (c_X10_copies m (m + 44) (m + 4) 8 8 (aM_83 hM) (aM_7 hM) (by omega) (by decide) (by decide) (by decide)) lk_X10_356 mc_X10_copies dX10_takesStreet_53 hM.1 (by decide) rfl rfl (Nat.le_of_ble_eq_true rfl) ?_
  obtain ⟨K4, hK4⟩ : ∃ X : mI, X = va_up K3 (m + 4) (fun j => if j < 8 then K3 (m + 44) j else K3 (m + 4) j) := ⟨_, rfl⟩
  rw [← hK4]
  have f4 : ∀ a, a ≠ m + 4 → K4 a = K3 a := fun a ha => by rw [hK4, am_up_n _ _ ha]
  have g4 : ∀ x, x < 8 → K4 (m + 4) x = K3 (m + 44) x := fun x hx => by rw [hK4, am_up_s, if_pos hx]
  clear hK4
  refine r_aload_n dX10_takesStreet_56 rfl ?_
  refine r_aload_n dX10_takesStreet_57 rfl ?_
  refine r_getR dX10_takesStreet_58 fl_X10_160 rfl (kM_0 hM) (pM_84 hM) ?_
  refine r_aload_n dX10_takesStreet_61 rfl ?_
  refine r_getR dX10_takesStreet_62 fl_X10_26 rfl (kM_0 hM) (pM_8 hM) ?_
  refine r_virtV (c_X10_copies m (m + 45) (m + 5) 8 8 (aM_84 hM) (aM_8 hM) (by omega) (by decide) (by decide) (by decide)) lk_X10_356 mc_X10_copies dX10_takesStreet_65 hM.1 (by decide) rfl rfl (Nat.le_of_ble_eq_true rfl) ?_
  obtain ⟨K5, hK5⟩ : ∃ X : mI, X = va_up K4 (m + 5) (fun j => if j < 8 then K4 (m + 45) j else K4 (m + 5) j) := ⟨_, rfl⟩
  rw [← hK5]
  have f5 : ∀ a, a ≠ m + 5 → K5 a = K4 a := fun a ha => by rw [hK5, am_up_n _ _ ha]
  have g5 : ∀ x, x < 8 → K5 (m + 5) x = K4 (m + 45) x := fun x hx => by rw [hK5, am_up_s, if_pos hx]
  clear hK5
  refine r_aload_n dX10_takesStreet_68 rfl ?_
  refine r_aload_n dX10_takesStreet_69 rfl ?_
  refine r_getR dX10_takesStreet_70 fl_X10_163 rfl (kM_0 hM) (pM_85 hM) ?_
  refine r_aload_n dX10_takesStreet_73 rfl ?_
  refine r_getR dX10_takesStreet_74 fl_X10_29 rfl (kM_0 hM) (pM_9 hM) ?_
  refine r_virtV (c_X10_copies m (m + 46) (m + 6) 8 8 (aM_85 hM) (aM_9 hM) (by omega) (by decide) (by decide) (by decide)) lk_X10_356 mc_X10_copies dX10_takesStreet_77 hM.1 (by decide) rfl rfl (Nat.le_of_ble_eq_true rfl) ?_
  obtain ⟨K6, hK6⟩ : ∃ X : mI, X = va_up K5 (m + 6) (fun j => if j < 8 then K5 (m + 46) j else K5 (m + 6) j) := ⟨_, rfl⟩
  rw [← hK6]
  have f6 : ∀ a, a ≠ m + 6 → K6 a = K5 a := fun a ha => by rw [hK6, am_up_n _ _ ha]
  have g6 : ∀ x, x < 8 → K6 (m + 6) x = K5 (m + 46) x := fun x hx => by rw [hK6, am_up_s, if_pos hx]
  clear hK6
  refine r_aload_n dX10_takesStreet_80 rfl ?_
  refine r_aload_n dX10_takesStreet_81 rfl ?_
  refine r_getR dX10_takesStreet_82 fl_X10_166 rfl (kM_0 hM) (pM_86 hM) ?_
  refine r_aload_n dX10_takesStreet_85 rfl ?_
  refine r_getR dX10_takesStreet_86 fl_X10_32 rfl (kM_0 hM) (pM_10 hM) ?_
  refine r_virtV (c_X10_copies m (m + 47) (m + 7) 1300 1300 (aM_86 hM) (aM_10 hM) (by omega) (by decide) (by decide) (by decide)) lk_X10_356 mc_X10_copies dX10_takesStreet_89 hM.1 (by decide) rfl rfl (Nat.le_of_ble_eq_true rfl) ?_
  obtain ⟨K7, hK7⟩ : ∃ X : mI, X = va_up K6 (m + 7) (fun j => if j < 1300 then K6 (m + 47) j else K6 (m + 7) j) := ⟨_, rfl⟩
  rw [← hK7]
  have f7 : ∀ a, a ≠ m + 7 → K7 a = K6 a := fun a ha => by rw [hK7, am_up_n _ _ ha]
  have g7 : ∀ x, x < 1300 → K7 (m + 7) x = K6 (m + 47) x := fun x hx => by rw [hK7, am_up_s, if_pos hx]
  clear hK7
  refine r_aload_n dX10_takesStreet_92 rfl ?_
  refine r_aload_n dX10_takesStreet_93 rfl ?_
  refine r_getR dX10_takesStreet_94 fl_X10_169 rfl (kM_0 hM) (pM_87 hM) ?_
  refine r_aload_n dX10_takesStreet_97 rfl ?_
  refine r_getR dX10_takesStreet_98 fl_X10_35 rfl (kM_0 hM) (pM_11 hM) ?_
  refine r_virtV (c_X10_copies m (m + 48) (m + 8) 500 500 (aM_87 hM) (aM_11 hM) (by omega) (by decide) (by decide) (by decide)) lk_X10_356 mc_X10_copies dX10_takesStreet_101 hM.1 (by decide) rfl rfl (Nat.le_of_ble_eq_true rfl) ?_
  obtain ⟨K8, hK8⟩ : ∃ X : mI, X = va_up K7 (m + 8) (fun j => if j < 500 then K7 (m + 48) j else K7 (m + 8) j) := ⟨_, rfl⟩
  rw [← hK8]
  have f8 : ∀ a, a ≠ m + 8 → K8 a = K7 a := fun a ha => by rw [hK8, am_up_n _ _ ha]
  have g8 : ∀ x, x < 500 → K8 (m + 8) x = K7 (m + 48) x := fun x hx => by rw [hK8, am_up_s, if_pos hx]
  clear hK8
  refine r_aload_n dX10_takesStreet_104 rfl ?_
  refine r_aload_n dX10_takesStreet_105 rfl ?_
  refine r_getR dX10_takesStreet_106 fl_X10_172 rfl (kM_0 hM) (pM_88 hM) ?_
  refine r_aload_n dX10_takesStreet_109 rfl ?_
  refine r_getR dX10_takesStreet_110 fl_X10_38 rfl (kM_0 hM) (pM_12 hM) ?_
  refine r_virtV (c_X10_copies m (m + 49) (m + 9) 8 8 (aM_88 hM) (aM_12 hM) (by omega) (by decide) (by decide) (by decide)) lk_X10_356 mc_X10_copies dX10_takesStreet_113 hM.1 (by decide) rfl rfl (Nat.le_of_ble_eq_true rfl) ?_
  obtain ⟨K9, hK9⟩ : ∃ X : mI, X = va_up K8 (m + 9) (fun j => if j < 8 then K8 (m + 49) j else K8 (m + 9) j) := ⟨_, rfl⟩
  rw [← hK9]
  have f9 : ∀ a, a ≠ m + 9 → K9 a = K8 a := fun a ha => by rw [hK9, am_up_n _ _ ha]
  have g9 : ∀ x, x < 8 → K9 (m + 9) x = K8 (m + 49) x := fun x hx => by rw [hK9, am_up_s, if_pos hx]
  clear hK9
  refine r_aload_n dX10_takesStreet_116 rfl ?_
  refine r_aload_n dX10_takesStreet_117 rfl ?_
  refine r_getR dX10_takesStreet_118 fl_X10_175 rfl (kM_0 hM) (pM_89 hM) ?_
  refine r_aload_n dX10_takesStreet_121 rfl ?_
  refine r_getR dX10_takesStreet_122 fl_X10_41 rfl (kM_0 hM) (pM_13 hM) ?_
  refine r_virtV (c_X10_copies m (m + 50) (m + 10) 8 8 (aM_89 hM) (aM_13 hM) (by omega) (by decide) (by decide) (by decide)) lk_X10_356 mc_X10_copies dX10_takesStreet_125 hM.1 (by decide) rfl rfl (Nat.le_of_ble_eq_true rfl) ?_
  obtain ⟨K10, hK10⟩ : ∃ X : mI, X = va_up K9 (m + 10) (fun j => if j < 8 then K9 (m + 50) j else K9 (m + 10) j) := ⟨_, rfl⟩
  rw [← hK10]
  have f10 : ∀ a, a ≠ m + 10 → K10 a = K9 a := fun a ha => by rw [hK10, am_up_n _ _ ha]
  have g10 : ∀ x, x < 8 → K10 (m + 10) x = K9 (m + 50) x := fun x hx => by rw [hK10, am_up_s, if_pos hx]
  clear hK10
  refine r_vret rfl dX10_takesStreet_128 ?_
  refine ⟨rfl, rfl, rfl, rfl, rfl, fun a a1 a2 => ?_, fun j hj => ?_, ?_, fun q hq x hx => ?_⟩
  · rw [f10 _ (by omega), f9 _ (by omega), f8 _ (by omega), f7 _ (by omega), f6 _ (by omega), f5 _ (by omega), f4 _ (by omega), f3 _ (by omega), f2 _ (by omega), f1 _ (by omega), f0 _ a1]
  · rw [f10 _ (by omega), f9 _ (by omega), f8 _ (by omega), f7 _ (by omega), f6 _ (by omega), f5 _ (by omega), f4 _ (by omega), f3 _ (by omega), f2 _ (by omega), f1 _ (by omega), f00 j hj]
  · rw [f10 _ (by omega), f9 _ (by omega), f8 _ (by omega), f7 _ (by omega), f6 _ (by omega), f5 _ (by omega), f4 _ (by omega), f3 _ (by omega), f2 _ (by omega), f1 _ (by omega), g0]
  · rcases (by omega : q = 0 ∨ q = 1 ∨ q = 2 ∨ q = 3 ∨ q = 4 ∨ q = 5 ∨ q = 6 ∨ q = 7 ∨ q = 8 ∨ q = 9) with rfl | rfl | rfl | rfl | rfl | rfl | rfl | rfl | rfl | rfl
    · show K10 (m + 1) x = I (m + 41) x
      rw [f10 _ (by omega), f9 _ (by omega), f8 _ (by omega), f7 _ (by omega), f6 _ (by omega), f5 _ (by omega), f4 _ (by omega), f3 _ (by omega), f2 _ (by omega), g1 x hx, f0 _ (by omega)]
    · show K10 (m + 2) x = I (m + 42) x
      rw [f10 _ (by omega), f9 _ (by omega), f8 _ (by omega), f7 _ (by omega), f6 _ (by omega), f5 _ (by omega), f4 _ (by omega), f3 _ (by omega), g2 x hx, f1 _ (by omega), f0 _ (by omega)]
    · show K10 (m + 3) x = I (m + 43) x
      rw [f10 _ (by omega), f9 _ (by omega), f8 _ (by omega), f7 _ (by omega), f6 _ (by omega), f5 _ (by omega), f4 _ (by omega), g3 x hx, f2 _ (by omega), f1 _ (by omega), f0 _ (by omega)]
    · show K10 (m + 4) x = I (m + 44) x
      rw [f10 _ (by omega), f9 _ (by omega), f8 _ (by omega), f7 _ (by omega), f6 _ (by omega), f5 _ (by omega), g4 x hx, f3 _ (by omega), f2 _ (by omega), f1 _ (by omega), f0 _ (by omega)]
    · show K10 (m + 5) x = I (m + 45) x
      rw [f10 _ (by omega), f9 _ (by omega), f8 _ (by omega), f7 _ (by omega), f6 _ (by omega), g5 x hx, f4 _ (by omega), f3 _ (by omega), f2 _ (by omega), f1 _ (by omega), f0 _ (by omega)]
    · show K10 (m + 6) x = I (m + 46) x
      rw [f10 _ (by omega), f9 _ (by omega), f8 _ (by omega), f7 _ (by omega), g6 x hx, f5 _ (by omega), f4 _ (by omega), f3 _ (by omega), f2 _ (by omega), f1 _ (by omega), f0 _ (by omega)]
    · show K10 (m + 7) x = I (m + 47) x
      rw [f10 _ (by omega), f9 _ (by omega), f8 _ (by omega), g7 x hx, f6 _ (by omega), f5 _ (by omega), f4 _ (by omega), f3 _ (by omega), f2 _ (by omega), f1 _ (by omega), f0 _ (by omega)]
    · show K10 (m + 8) x = I (m + 48) x
      rw [f10 _ (by omega), f9 _ (by omega), g8 x hx, f7 _ (by omega), f6 _ (by omega), f5 _ (by omega), f4 _ (by omega), f3 _ (by omega), f2 _ (by omega), f1 _ (by omega), f0 _ (by omega)]
    · show K10 (m + 9) x = I (m + 49) x
      rw [f10 _ (by omega), g9 x hx, f8 _ (by omega), f7 _ (by omega), f6 _ (by omega), f5 _ (by omega), f4 _ (by omega), f3 _ (by omega), f2 _ (by omega), f1 _ (by omega), f0 _ (by omega)]
    · show K10 (m + 10) x = I (m + 50) x
      rw [g10 x hx, f9 _ (by omega), f8 _ (by omega), f7 _ (by omega), f6 _ (by omega), f5 _ (by omega), f4 _ (by omega), f3 _ (by omega), f2 _ (by omega), f1 _ (by omega), f0 _ (by omega)]

