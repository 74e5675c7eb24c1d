/-! BUILD: a street copied -/
theorem dX7_copy_0 : decode cX7_copy 0 = .ok (.aload_n 0, 1) := by decide +kernel
theorem dX7_copy_1 : decode cX7_copy 1 = .ok (.aload_n 1, 1) := by decide +kernel
theorem dX7_copy_2 : decode cX7_copy 2 = .ok (.getfield 9, 3) := by decide +kernel
theorem dX7_copy_5 : decode cX7_copy 5 = .ok (.putfield 9, 3) := by decide +kernel
theorem dX7_copy_8 : decode cX7_copy 8 = .ok (.aload_n 0, 1) := by decide +kernel
theorem dX7_copy_9 : decode cX7_copy 9 = .ok (.aload_n 1, 1) := by decide +kernel
theorem dX7_copy_10 : decode cX7_copy 10 = .ok (.getfield 15, 3) := by decide +kernel
theorem dX7_copy_13 : decode cX7_copy 13 = .ok (.putfield 15, 3) := by decide +kernel
theorem dX7_copy_16 : decode cX7_copy 16 = .ok (.aload_n 0, 1) := by decide +kernel
theorem dX7_copy_17 : decode cX7_copy 17 = .ok (.aload_n 1, 1) := by decide +kernel
theorem dX7_copy_18 : decode cX7_copy 18 = .ok (.getfield 18, 3) := by decide +kernel
theorem dX7_copy_21 : decode cX7_copy 21 = .ok (.putfield 18, 3) := by decide +kernel
theorem dX7_copy_24 : decode cX7_copy 24 = .ok (.aload_n 0, 1) := by decide +kernel
theorem dX7_copy_25 : decode cX7_copy 25 = .ok (.aload_n 1, 1) := by decide +kernel
theorem dX7_copy_26 : decode cX7_copy 26 = .ok (.getfield 22, 3) := by decide +kernel
theorem dX7_copy_29 : decode cX7_copy 29 = .ok (.putfield 22, 3) := by decide +kernel
theorem dX7_copy_32 : decode cX7_copy 32 = .ok (.aload_n 0, 1) := by decide +kernel
theorem dX7_copy_33 : decode cX7_copy 33 = .ok (.aload_n 1, 1) := by decide +kernel
theorem dX7_copy_34 : decode cX7_copy 34 = .ok (.getfield 32, 3) := by decide +kernel
theorem dX7_copy_37 : decode cX7_copy 37 = .ok (.putfield 32, 3) := by decide +kernel
theorem dX7_copy_40 : decode cX7_copy 40 = .ok (.aload_n 1, 1) := by decide +kernel
theorem dX7_copy_41 : decode cX7_copy 41 = .ok (.getfield 29, 3) := by decide +kernel
theorem dX7_copy_44 : decode cX7_copy 44 = .ok (.iconst 0, 1) := by decide +kernel
theorem dX7_copy_45 : decode cX7_copy 45 = .ok (.aload_n 0, 1) := by decide +kernel
theorem dX7_copy_46 : decode cX7_copy 46 = .ok (.getfield 29, 3) := by decide +kernel
theorem dX7_copy_49 : decode cX7_copy 49 = .ok (.iconst 0, 1) := by decide +kernel
theorem dX7_copy_50 : decode cX7_copy 50 = .ok (.aload_n 0, 1) := by decide +kernel
theorem dX7_copy_51 : decode cX7_copy 51 = .ok (.getfield 32, 3) := by decide +kernel
theorem dX7_copy_54 : decode cX7_copy 54 = .ok (.invokestatic 60, 3) := by decide +kernel
theorem dX7_copy_57 : decode cX7_copy 57 = .ok (.aload_n 1, 1) := by decide +kernel
theorem dX7_copy_58 : decode cX7_copy 58 = .ok (.getfield 25, 3) := by decide +kernel
theorem dX7_copy_61 : decode cX7_copy 61 = .ok (.iconst 0, 1) := by decide +kernel
theorem dX7_copy_62 : decode cX7_copy 62 = .ok (.aload_n 0, 1) := by decide +kernel
theorem dX7_copy_63 : decode cX7_copy 63 = .ok (.getfield 25, 3) := by decide +kernel
theorem dX7_copy_66 : decode cX7_copy 66 = .ok (.iconst 0, 1) := by decide +kernel
theorem dX7_copy_67 : decode cX7_copy 67 = .ok (.bipush 8, 2) := by decide +kernel
theorem dX7_copy_69 : decode cX7_copy 69 = .ok (.invokestatic 60, 3) := by decide +kernel
theorem dX7_copy_72 : decode cX7_copy 72 = .ok (.aload_n 1, 1) := by decide +kernel
theorem dX7_copy_73 : decode cX7_copy 73 = .ok (.getfield 35, 3) := by decide +kernel
theorem dX7_copy_76 : decode cX7_copy 76 = .ok (.iconst 0, 1) := by decide +kernel
theorem dX7_copy_77 : decode cX7_copy 77 = .ok (.aload_n 0, 1) := by decide +kernel
theorem dX7_copy_78 : decode cX7_copy 78 = .ok (.getfield 35, 3) := by decide +kernel
theorem dX7_copy_81 : decode cX7_copy 81 = .ok (.iconst 0, 1) := by decide +kernel
theorem dX7_copy_82 : decode cX7_copy 82 = .ok (.bipush 8, 2) := by decide +kernel
theorem dX7_copy_84 : decode cX7_copy 84 = .ok (.invokestatic 60, 3) := by decide +kernel
theorem dX7_copy_87 : decode cX7_copy 87 = .ok (.aload_n 1, 1) := by decide +kernel
theorem dX7_copy_88 : decode cX7_copy 88 = .ok (.getfield 38, 3) := by decide +kernel
theorem dX7_copy_91 : decode cX7_copy 91 = .ok (.iconst 0, 1) := by decide +kernel
theorem dX7_copy_92 : decode cX7_copy 92 = .ok (.aload_n 0, 1) := by decide +kernel
theorem dX7_copy_93 : decode cX7_copy 93 = .ok (.getfield 38, 3) := by decide +kernel
theorem dX7_copy_96 : decode cX7_copy 96 = .ok (.iconst 0, 1) := by decide +kernel
theorem dX7_copy_97 : decode cX7_copy 97 = .ok (.bipush 8, 2) := by decide +kernel
theorem dX7_copy_99 : decode cX7_copy 99 = .ok (.invokestatic 60, 3) := by decide +kernel
theorem dX7_copy_102 : decode cX7_copy 102 = .ok (.return_, 1) := by decide +kernel

set_option maxHeartbeats 4000000 in
set_option maxRecDepth 100000 in
theorem c_X7_copy (a c cd : Nat) (un : Bool) {n : Nat} {kd : mK} {I : mI} {J : mJ} {P : mP} (hA : kS kd P a) (hC : kS kd P c) (hac : a + 9 < c ∨ c + 9 < a) (h2 : I c 2 = bz un) (h6 : I c 6 = nI cd) (hcd : cd ≤ 520) : Ct yX7_copy cX7_copy 2 none 2 0 0 [.ref a, .ref c] n kd I J P (fun z n' kd' I' J' P' => z = .inl none ∧ n' = n ∧ kd' = kd ∧ J' = J ∧ P' = P ∧ (∀ x, (x < a ∨ a + 4 < x) → I' x = I x) ∧ I' a 0 = I c 0 ∧ I' a 1 = I c 1 ∧ I' a 2 = I c 2 ∧ I' a 3 = I c 3 ∧ I' a 6 = I c 6 ∧ (∀ j, j ≠ 0 → j ≠ 1 → j ≠ 2 → j ≠ 3 → j ≠ 6 → I' a j = I a j) ∧ (∀ j, j < 8 → I' (a + 1) j = I (c + 1) j ∧ I' (a + 3) j = I (c + 3) j ∧ I' (a + 4) j = I (c + 4) j) ∧ ∀ j, j < cd → I' (a + 2) j = I (c + 2) j) := by
  obtain ⟨a0, a1, a2, a3, a4, a5, a6, a7, a8, a9, ap4, ap5, ap7, ap8, ap9, ap11, ap12, ap13, ap14⟩ := hA
  obtain ⟨c0, c1, c2, c3, c4, c5, c6, c7, c8, c9, cp4, cp5, cp7, cp8, cp9, cp11, cp12, cp13, cp14⟩ := hC
  refine ct_of 0 (by decide +kernel) (Nat.le_of_ble_eq_true rfl) rfl ?_
  refine r_aload_n dX7_copy_0 rfl ?_
  refine r_aload_n dX7_copy_1 rfl ?_
  refine r_getI dX7_copy_2 fl_X7_9 rfl c0 ?_
  refine r_putI dX7_copy_5 fl_X7_9 rfl rfl a0 ?_
  obtain ⟨K1, hK1⟩ : ∃ X : mI, X = va_up I a (va_up (I a) 0 (I c 0)) := ⟨_, rfl⟩
  rw [← hK1]
  have f1 : ∀ x, x ≠ a → K1 x = I x := fun x hx => by rw [hK1, am_up_n _ _ hx]
  have e1 : ∀ j, j ≠ 0 → K1 a j = I a j := fun j hj => by rw [hK1, am_up_s, am_up_n _ _ hj]
  have g1 : K1 a 0 = I c 0 := by rw [hK1, am_up_s, am_up_s]
  clear hK1
  refine r_aload_n dX7_copy_8 rfl ?_
  refine r_aload_n dX7_copy_9 rfl ?_
  refine r_getI dX7_copy_10 fl_X7_15 rfl c0 ?_
  refine r_putI dX7_copy_13 fl_X7_15 rfl rfl a0 ?_
  obtain ⟨K2, hK2⟩ : ∃ X : mI, X = va_up K1 a (va_up (K1 a) 1 (K1 c 1)) := ⟨_, rfl⟩
  rw [← hK2]
  have f2 : ∀ x, x ≠ a → K2 x = K1 x := fun x hx => by rw [hK2, am_up_n _ _ hx]
  have e2 : ∀ j, j ≠ 1 → K2 a j = K1 a j := fun j hj => by rw [hK2, am_up_s, am_up_n _ _ hj]
  have g2 : K2 a 1 = K1 c 1 := by rw [hK2, am_up_s, am_up_s]
  clear hK2
  refine r_aload_n dX7_copy_16 rfl ?_
  refine r_aload_n dX7_copy_17 rfl ?_
  refine r_getI dX7_copy_18 fl_X7_18 rfl c0 ?_
  have z2 : K2 c 2 = bz un := by rw [f2 _ (by omega), f1 _ (by omega)]; exact h2
  refine r_putZ dX7_copy_21 fl_X7_18 rfl rfl (by rw [z2]; cases un; exact Or.inl rfl; exact Or.inr rfl) a0 ?_
  obtain ⟨K3, hK3⟩ : ∃ X : mI, X = va_up K2 a (va_up (K2 a) 2 (K2 c 2)) := ⟨_, rfl⟩
  rw [← hK3]
  have f3 : ∀ x, x ≠ a → K3 x = K2 x := fun x hx => by rw [hK3, am_up_n _ _ hx]
  have e3 : ∀ j, j ≠ 2 → K3 a j = K2 a j := fun j hj => by rw [hK3, am_up_s, am_up_n _ _ hj]
  have g3 : K3 a 2 = K2 c 2 := by rw [hK3, am_up_s, am_up_s]
  clear hK3
  refine r_aload_n dX7_copy_24 rfl ?_
  refine r_aload_n dX7_copy_25 rfl ?_
  refine r_getI dX7_copy_26 fl_X7_22 rfl c0 ?_
  refine r_putI dX7_copy_29 fl_X7_22 rfl rfl a0 ?_
  obtain ⟨K4, hK4⟩ : ∃ X : mI, X = va_up K3 a (va_up (K3 a) 3 (K3 c 3)) := ⟨_, rfl⟩
  rw [← hK4]
  have f4 : ∀ x, x ≠ a → K4 x = K3 x := fun x hx => by rw [hK4, am_up_n _ _ hx]
  have e4 : ∀ j, j ≠ 3 → K4 a j = K3 a j := fun j hj => by rw [hK4, am_up_s, am_up_n _ _ hj]
  have g4 : K4 a 3 = K3 c 3 := by rw [hK4, am_up_s, am_up_s]
  clear hK4
  refine r_aload_n dX7_copy_32 rfl ?_
  refine r_aload_n dX7_copy_33 rfl ?_
  refine r_getI dX7_copy_34 fl_X7_32 rfl c0 ?_
  refine r_putI dX7_copy_37 fl_X7_32 rfl rfl a0 ?_
  obtain ⟨K5, hK5⟩ : ∃ X : mI, X = va_up K4 a (va_up (K4 a) 6 (K4 c 6)) := ⟨_, rfl⟩
  rw [← hK5]
  have f5 : ∀ x, x ≠ a → K5 x = K4 x := fun x hx => by rw [hK5, am_up_n _ _ hx]
  have e5 : ∀ j, j ≠ 6 → K5 a j = K4 a j := fun j hj => by rw [hK5, am_up_s, am_up_n _ _ hj]
  have g5 : K5 a 6 = K4 c 6 := by rw [hK5, am_up_s, am_up_s]
  clear hK5
  refine r_aload_n dX7_copy_40 rfl ?_
  refine r_getR dX7_copy_41 fl_X7_29 rfl c0 cp5 ?_
  refine r_iconst (v := nI 0) dX7_copy_44 (by decide) ?_
  refine r_aload_n dX7_copy_45 rfl ?_
  refine r_getR dX7_copy_46 fl_X7_29 rfl a0 ap5 ?_
  refine r_iconst (v := nI 0) dX7_copy_49 (by decide) ?_
  refine r_aload_n dX7_copy_50 rfl ?_
  refine r_getI dX7_copy_51 fl_X7_32 rfl a0 ?_
  have z6 : K5 a 6 = nI cd := by rw [g5, f4 _ (by omega), f3 _ (by omega), f2 _ (by omega), f1 _ (by omega)]; exact h6
  rw [z6]
  refine r_copy (Or.inl rfl) dX7_copy_54 ac_X7 c2 a2 (by decide) (by decide) (nI_pos (by omega)) (by show 0 + (nI cd).toNatClampNeg ≤ 520; rw [nI_clamp (show cd < 2 ^ 31 by omega)]; omega) (by show 0 + (nI cd).toNatClampNeg ≤ 520; rw [nI_clamp (show cd < 2 ^ 31 by omega)]; omega) (fun q => nomatch q) (by decide) (Nat.le_of_ble_eq_true rfl) ?_
  generalize hK6 : va_up K5 (a + 2) _ = K6
  have f6 : ∀ x, x ≠ a + 2 → K6 x = K5 x := fun x hx => by rw [← hK6, am_up_n _ _ hx]
  have g6 : ∀ x, x < cd → K6 (a + 2) x = K5 (c + 2) x := fun x hx => by
    rw [← hK6, am_up_s]
    exact sb_cpy0 (by rw [nI_clamp (show cd < 2 ^ 31 by omega)]; exact hx)
  clear hK6
  refine r_aload_n dX7_copy_57 rfl ?_
  refine r_getR dX7_copy_58 fl_X7_25 rfl c0 cp4 ?_
  refine r_iconst (v := nI 0) dX7_copy_61 (by decide) ?_
  refine r_aload_n dX7_copy_62 rfl ?_
  refine r_getR dX7_copy_63 fl_X7_25 rfl a0 ap4 ?_
  refine r_iconst (v := nI 0) dX7_copy_66 (by decide) ?_
  refine r_bipush (v := nI 8) dX7_copy_67 (by decide) ?_
  refine r_copy (Or.inl rfl) dX7_copy_69 ac_X7 c1 a1 (by decide) (by decide) (by decide) (by decide) (by decide) (fun q => nomatch q) (by decide) (Nat.le_of_ble_eq_true rfl) ?_
  generalize hK7 : va_up K6 (a + 1) _ = K7
  have f7 : ∀ x, x ≠ a + 1 → K7 x = K6 x := fun x hx => by rw [← hK7, am_up_n _ _ hx]
  have g7 : ∀ x, x < 8 → K7 (a + 1) x = K6 (c + 1) x := fun x hx => by
    rw [← hK7, am_up_s]
    exact sb_cpy0 hx
  clear hK7
  refine r_aload_n dX7_copy_72 rfl ?_
  refine r_getR dX7_copy_73 fl_X7_35 rfl c0 cp7 ?_
  refine r_iconst (v := nI 0) dX7_copy_76 (by decide) ?_
  refine r_aload_n dX7_copy_77 rfl ?_
  refine r_getR dX7_copy_78 fl_X7_35 rfl a0 ap7 ?_
  refine r_iconst (v := nI 0) dX7_copy_81 (by decide) ?_
  refine r_bipush (v := nI 8) dX7_copy_82 (by decide) ?_
  refine r_copy (Or.inl rfl) dX7_copy_84 ac_X7 c3 a3 (by decide) (by decide) (by decide) (by decide) (by decide) (fun q => nomatch q) (by decide) (Nat.le_of_ble_eq_true rfl) ?_
  generalize hK8 : va_up K7 (a + 3) _ = K8
  have f8 : ∀ x, x ≠ a + 3 → K8 x = K7 x := fun x hx => by rw [← hK8, am_up_n _ _ hx]
  have g8 : ∀ x, x < 8 → K8 (a + 3) x = K7 (c + 3) x := fun x hx => by
    rw [← hK8, am_up_s]
    exact sb_cpy0 hx
  clear hK8
  refine r_aload_n dX7_copy_87 rfl ?_
  refine r_getR dX7_copy_88 fl_X7_38 rfl c0 cp8 ?_
  refine r_iconst (v := nI 0) dX7_copy_91 (by decide) ?_
  refine r_aload_n dX7_copy_92 rfl ?_
  refine r_getR dX7_copy_93 fl_X7_38 rfl a0 ap8 ?_
  refine r_iconst (v := nI 0) dX7_copy_96 (by decide) ?_
  refine r_bipush (v := nI 8) dX7_copy_97 (by decide) ?_
  refine r_copy (Or.inl rfl) dX7_copy_99 ac_X7 c4 a4 (by decide) (by decide) (by decide) (by decide) (by decide) (fun q => nomatch q) (by decide) (Nat.le_of_ble_eq_true rfl) ?_
  generalize hK9 : va_up K8 (a + 4) _ = K9
  have f9 : ∀ x, x ≠ a + 4 → K9 x = K8 x := fun x hx => by rw [← hK9, am_up_n _ _ hx]
  have g9 : ∀ x, x < 8 → K9 (a + 4) x = K8 (c + 4) x := fun x hx => by
    rw [← hK9, am_up_s]
    exact sb_cpy0 hx
  clear hK9
  refine r_vret rfl dX7_copy_102 ?_
  refine ⟨rfl, rfl, rfl, rfl, rfl, fun x hx => ?_, ?_, ?_, ?_, ?_, ?_, fun j j0 j1 j2 j3 j6 => ?_, fun j hj => ⟨?_, ?_, ?_⟩, fun j hj => ?_⟩
  · rw [f9 _ (by omega), f8 _ (by omega), f7 _ (by omega), f6 _ (by omega), f5 _ (by omega), f4 _ (by omega), f3 _ (by omega), f2 _ (by omega), f1 _ (by omega)]
  · rw [f9 _ (by omega), f8 _ (by omega), f7 _ (by omega), f6 _ (by omega), e5 _ (by decide), e4 _ (by decide), e3 _ (by decide), e2 _ (by decide), g1]
  · rw [f9 _ (by omega), f8 _ (by omega), f7 _ (by omega), f6 _ (by omega), e5 _ (by decide), e4 _ (by decide), e3 _ (by decide), g2, f1 _ (by omega)]
  · rw [f9 _ (by omega), f8 _ (by omega), f7 _ (by omega), f6 _ (by omega), e5 _ (by decide), e4 _ (by decide), g3, f2 _ (by omega), f1 _ (by omega)]
  · rw [f9 _ (by omega), f8 _ (by omega), f7 _ (by omega), f6 _ (by omega), e5 _ (by decide), g4, f3 _ (by omega), f2 _ (by omega), f1 _ (by omega)]
  · rw [f9 _ (by omega), f8 _ (by omega), f7 _ (by omega), f6 _ (by omega), g5, f4 _ (by omega), f3 _ (by omega), f2 _ (by omega), f1 _ (by omega)]
  · rw [f9 _ (by omega), f8 _ (by omega), f7 _ (by omega), f6 _ (by omega), e5 _ j6, e4 _ j3, e3 _ j2, e2 _ j1, e1 _ j0]
  · rw [f9 _ (by omega), f8 _ (by omega), g7 j hj, f6 _ (by omega), f5 _ (by omega), f4 _ (by omega), f3 _ (by omega), f2 _ (by omega), f1 _ (by omega)]
  · rw [f9 _ (by omega), g8 j hj, f7 _ (by omega), f6 _ (by omega), f5 _ (by omega), f4 _ (by omega), f3 _ (by omega), f2 _ (by omega), f1 _ (by omega)]
  · rw [g9 j hj, f8 _ (by omega), f7 _ (by omega), f6 _ (by omega), f5 _ (by omega), f4 _ (by omega), f3 _ (by omega), f2 _ (by omega), f1 _ (by omega)]
  · rw [f9 _ (by omega), f8 _ (by omega), f7 _ (by omega), g6 j hj, f5 _ (by omega), f4 _ (by omega), f3 _ (by omega), f2 _ (by omega), f1 _ (by omega)]

