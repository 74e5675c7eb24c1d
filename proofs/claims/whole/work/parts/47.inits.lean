/-! CONSTRUCTORS OF THE PARTS OF THE CLASS -/
theorem dX7_init_0 : decode cX7_init 0 = .ok (.aload_n 0, 1) := by decide +kernel
theorem dX7_init_1 : decode cX7_init 1 = .ok (.invokespecial 3, 3) := by decide +kernel
theorem dX7_init_4 : decode cX7_init 4 = .ok (.aload_n 0, 1) := by decide +kernel
theorem dX7_init_5 : decode cX7_init 5 = .ok (.iconst 0, 1) := by decide +kernel
theorem dX7_init_6 : decode cX7_init 6 = .ok (.putfield 9, 3) := by decide +kernel
theorem dX7_init_9 : decode cX7_init 9 = .ok (.aload_n 0, 1) := by decide +kernel
theorem dX7_init_10 : decode cX7_init 10 = .ok (.bipush 9, 2) := by decide +kernel
theorem dX7_init_12 : decode cX7_init 12 = .ok (.putfield 15, 3) := by decide +kernel
theorem dX7_init_15 : decode cX7_init 15 = .ok (.aload_n 0, 1) := by decide +kernel
theorem dX7_init_16 : decode cX7_init 16 = .ok (.iconst 0, 1) := by decide +kernel
theorem dX7_init_17 : decode cX7_init 17 = .ok (.putfield 18, 3) := by decide +kernel
theorem dX7_init_20 : decode cX7_init 20 = .ok (.aload_n 0, 1) := by decide +kernel
theorem dX7_init_21 : decode cX7_init 21 = .ok (.iconst 0, 1) := by decide +kernel
theorem dX7_init_22 : decode cX7_init 22 = .ok (.putfield 22, 3) := by decide +kernel
theorem dX7_init_25 : decode cX7_init 25 = .ok (.aload_n 0, 1) := by decide +kernel
theorem dX7_init_26 : decode cX7_init 26 = .ok (.bipush 8, 2) := by decide +kernel
theorem dX7_init_28 : decode cX7_init 28 = .ok (.newarray .int, 2) := by decide +kernel
theorem dX7_init_30 : decode cX7_init 30 = .ok (.putfield 25, 3) := by decide +kernel
theorem dX7_init_33 : decode cX7_init 33 = .ok (.aload_n 0, 1) := by decide +kernel
theorem dX7_init_34 : decode cX7_init 34 = .ok (.sipush 520, 3) := by decide +kernel
theorem dX7_init_37 : decode cX7_init 37 = .ok (.newarray .int, 2) := by decide +kernel
theorem dX7_init_39 : decode cX7_init 39 = .ok (.putfield 29, 3) := by decide +kernel
theorem dX7_init_42 : decode cX7_init 42 = .ok (.aload_n 0, 1) := by decide +kernel
theorem dX7_init_43 : decode cX7_init 43 = .ok (.iconst 0, 1) := by decide +kernel
theorem dX7_init_44 : decode cX7_init 44 = .ok (.putfield 32, 3) := by decide +kernel
theorem dX7_init_47 : decode cX7_init 47 = .ok (.aload_n 0, 1) := by decide +kernel
theorem dX7_init_48 : decode cX7_init 48 = .ok (.bipush 8, 2) := by decide +kernel
theorem dX7_init_50 : decode cX7_init 50 = .ok (.newarray .int, 2) := by decide +kernel
theorem dX7_init_52 : decode cX7_init 52 = .ok (.putfield 35, 3) := by decide +kernel
theorem dX7_init_55 : decode cX7_init 55 = .ok (.aload_n 0, 1) := by decide +kernel
theorem dX7_init_56 : decode cX7_init 56 = .ok (.bipush 8, 2) := by decide +kernel
theorem dX7_init_58 : decode cX7_init 58 = .ok (.newarray .int, 2) := by decide +kernel
theorem dX7_init_60 : decode cX7_init 60 = .ok (.putfield 38, 3) := by decide +kernel
theorem dX7_init_63 : decode cX7_init 63 = .ok (.aload_n 0, 1) := by decide +kernel
theorem dX7_init_64 : decode cX7_init 64 = .ok (.sipush 1000, 3) := by decide +kernel
theorem dX7_init_67 : decode cX7_init 67 = .ok (.newarray .byte, 2) := by decide +kernel
theorem dX7_init_69 : decode cX7_init 69 = .ok (.putfield 41, 3) := by decide +kernel
theorem dX7_init_72 : decode cX7_init 72 = .ok (.aload_n 0, 1) := by decide +kernel
theorem dX7_init_73 : decode cX7_init 73 = .ok (.iconst 0, 1) := by decide +kernel
theorem dX7_init_74 : decode cX7_init 74 = .ok (.putfield 45, 3) := by decide +kernel
theorem dX7_init_77 : decode cX7_init 77 = .ok (.aload_n 0, 1) := by decide +kernel
theorem dX7_init_78 : decode cX7_init 78 = .ok (.bipush 8, 2) := by decide +kernel
theorem dX7_init_80 : decode cX7_init 80 = .ok (.newarray .int, 2) := by decide +kernel
theorem dX7_init_82 : decode cX7_init 82 = .ok (.putfield 48, 3) := by decide +kernel
theorem dX7_init_85 : decode cX7_init 85 = .ok (.aload_n 0, 1) := by decide +kernel
theorem dX7_init_86 : decode cX7_init 86 = .ok (.bipush 8, 2) := by decide +kernel
theorem dX7_init_88 : decode cX7_init 88 = .ok (.newarray .int, 2) := by decide +kernel
theorem dX7_init_90 : decode cX7_init 90 = .ok (.putfield 51, 3) := by decide +kernel
theorem dX7_init_93 : decode cX7_init 93 = .ok (.aload_n 0, 1) := by decide +kernel
theorem dX7_init_94 : decode cX7_init 94 = .ok (.bipush 40, 2) := by decide +kernel
theorem dX7_init_96 : decode cX7_init 96 = .ok (.newarray .int, 2) := by decide +kernel
theorem dX7_init_98 : decode cX7_init 98 = .ok (.putfield 54, 3) := by decide +kernel
theorem dX7_init_101 : decode cX7_init 101 = .ok (.aload_n 0, 1) := by decide +kernel
theorem dX7_init_102 : decode cX7_init 102 = .ok (.bipush 8, 2) := by decide +kernel
theorem dX7_init_104 : decode cX7_init 104 = .ok (.newarray .int, 2) := by decide +kernel
theorem dX7_init_106 : decode cX7_init 106 = .ok (.putfield 57, 3) := by decide +kernel
theorem dX7_init_109 : decode cX7_init 109 = .ok (.return_, 1) := by decide +kernel
set_option maxHeartbeats 4000000 in
set_option maxRecDepth 100000 in
theorem c_X7_init (b : Nat) {n : Nat} {kd : mK} {I : mI} {J : mJ} {P : mP} (hB : bare n b 7 kd I J P) (hl : b < 999900) : Ct yX7_init cX7_init 1 none 1 9 1608 [.ref b] n kd I J P (fun z n' kd' I' J' P' => z = .inl none ∧ n' = b + 10 ∧ kS kd' P' b ∧ lowS b kd kd' I I' J J' P P' ∧ I' b = (fun j : Nat => (if j = 1 then nI 9 else 0 : Int32)) ∧ (∀ i, 1 ≤ i → i ≤ 9 → I' (b + i) = (fun _ => 0) ∧ J' (b + i) = (fun _ => 0))) := by
  obtain ⟨rfl, hk0, hI0, hJ0, hP0⟩ := hB
  refine ct_of 0 (by decide +kernel) (Nat.le_of_ble_eq_true rfl) rfl ?_
  refine r_aload_n dX7_init_0 rfl ?_
  refine r_obj dX7_init_1 oi_X7 oi_in oi_co (by decide) (Nat.le_of_ble_eq_true rfl) ?_
  refine r_aload_n dX7_init_4 rfl ?_
  refine r_iconst (v := nI 0) dX7_init_5 (by decide) ?_
  refine r_putI dX7_init_6 fl_X7_9 rfl rfl (by (try simp (disch := omega) only [am_up_e, am_up_n]); exact hk0) ?_
  refine r_aload_n dX7_init_9 rfl ?_
  refine r_bipush (v := nI 9) dX7_init_10 (by decide) ?_
  refine r_putI dX7_init_12 fl_X7_15 rfl rfl (by (try simp (disch := omega) only [am_up_e, am_up_n]); exact hk0) ?_
  refine r_aload_n dX7_init_15 rfl ?_
  refine r_iconst (v := nI 0) dX7_init_16 (by decide) ?_
  refine r_putZ dX7_init_17 fl_X7_18 rfl rfl (by first | exact Or.inl rfl | exact Or.inr rfl) (by (try simp (disch := omega) only [am_up_e, am_up_n]); exact hk0) ?_
  refine r_aload_n dX7_init_20 rfl ?_
  refine r_iconst (v := nI 0) dX7_init_21 (by decide) ?_
  refine r_putI dX7_init_22 fl_X7_22 rfl rfl (by (try simp (disch := omega) only [am_up_e, am_up_n]); exact hk0) ?_
  refine r_aload_n dX7_init_25 rfl ?_
  refine r_bipush (v := nI 8) dX7_init_26 (by decide) ?_
  refine r_newInt (N := 8) (kc2 := 8) (ks2 := 1600) dX7_init_28 (by decide) (nI_clamp (by decide)) (by decide) (by omega) (by omega) (by omega) ?_
  refine r_putR dX7_init_30 fl_X7_25 (Or.inr ⟨rfl, rfl, rfl⟩) rfl (by (try simp (disch := omega) only [am_up_e, am_up_n]); exact hk0) (by omega) ?_
  refine r_aload_n dX7_init_33 rfl ?_
  refine r_sipush (v := nI 520) dX7_init_34 (by decide) ?_
  refine r_newInt (N := 520) (kc2 := 7) (ks2 := 1080) dX7_init_37 (by decide) (nI_clamp (by decide)) (by decide) (by omega) (by omega) (by omega) ?_
  refine r_putR dX7_init_39 fl_X7_29 (Or.inr ⟨rfl, rfl, rfl⟩) rfl (by (try simp (disch := omega) only [am_up_e, am_up_n]); exact hk0) (by omega) ?_
  refine r_aload_n dX7_init_42 rfl ?_
  refine r_iconst (v := nI 0) dX7_init_43 (by decide) ?_
  refine r_putI dX7_init_44 fl_X7_32 rfl rfl (by (try simp (disch := omega) only [am_up_e, am_up_n]); exact hk0) ?_
  refine r_aload_n dX7_init_47 rfl ?_
  refine r_bipush (v := nI 8) dX7_init_48 (by decide) ?_
  refine r_newInt (N := 8) (kc2 := 6) (ks2 := 1072) dX7_init_50 (by decide) (nI_clamp (by decide)) (by decide) (by omega) (by omega) (by omega) ?_
  refine r_putR dX7_init_52 fl_X7_35 (Or.inr ⟨rfl, rfl, rfl⟩) rfl (by (try simp (disch := omega) only [am_up_e, am_up_n]); exact hk0) (by omega) ?_
  refine r_aload_n dX7_init_55 rfl ?_
  refine r_bipush (v := nI 8) dX7_init_56 (by decide) ?_
  refine r_newInt (N := 8) (kc2 := 5) (ks2 := 1064) dX7_init_58 (by decide) (nI_clamp (by decide)) (by decide) (by omega) (by omega) (by omega) ?_
  refine r_putR dX7_init_60 fl_X7_38 (Or.inr ⟨rfl, rfl, rfl⟩) rfl (by (try simp (disch := omega) only [am_up_e, am_up_n]); exact hk0) (by omega) ?_
  refine r_aload_n dX7_init_63 rfl ?_
  refine r_sipush (v := nI 1000) dX7_init_64 (by decide) ?_
  refine r_newByte (N := 1000) (kc2 := 4) (ks2 := 64) dX7_init_67 (by decide) (nI_clamp (by decide)) (by decide) (by omega) (by omega) (by omega) ?_
  refine r_putR dX7_init_69 fl_X7_41 (Or.inr ⟨rfl, rfl, rfl⟩) rfl (by (try simp (disch := omega) only [am_up_e, am_up_n]); exact hk0) (by omega) ?_
  refine r_aload_n dX7_init_72 rfl ?_
  refine r_iconst (v := nI 0) dX7_init_73 (by decide) ?_
  refine r_putI dX7_init_74 fl_X7_45 rfl rfl (by (try simp (disch := omega) only [am_up_e, am_up_n]); exact hk0) ?_
  refine r_aload_n dX7_init_77 rfl ?_
  refine r_bipush (v := nI 8) dX7_init_78 (by decide) ?_
  refine r_newInt (N := 8) (kc2 := 3) (ks2 := 56) dX7_init_80 (by decide) (nI_clamp (by decide)) (by decide) (by omega) (by omega) (by omega) ?_
  refine r_putR dX7_init_82 fl_X7_48 (Or.inr ⟨rfl, rfl, rfl⟩) rfl (by (try simp (disch := omega) only [am_up_e, am_up_n]); exact hk0) (by omega) ?_
  refine r_aload_n dX7_init_85 rfl ?_
  refine r_bipush (v := nI 8) dX7_init_86 (by decide) ?_
  refine r_newInt (N := 8) (kc2 := 2) (ks2 := 48) dX7_init_88 (by decide) (nI_clamp (by decide)) (by decide) (by omega) (by omega) (by omega) ?_
  refine r_putR dX7_init_90 fl_X7_51 (Or.inr ⟨rfl, rfl, rfl⟩) rfl (by (try simp (disch := omega) only [am_up_e, am_up_n]); exact hk0) (by omega) ?_
  refine r_aload_n dX7_init_93 rfl ?_
  refine r_bipush (v := nI 40) dX7_init_94 (by decide) ?_
  refine r_newInt (N := 40) (kc2 := 1) (ks2 := 8) dX7_init_96 (by decide) (nI_clamp (by decide)) (by decide) (by omega) (by omega) (by omega) ?_
  refine r_putR dX7_init_98 fl_X7_54 (Or.inr ⟨rfl, rfl, rfl⟩) rfl (by (try simp (disch := omega) only [am_up_e, am_up_n]); exact hk0) (by omega) ?_
  refine r_aload_n dX7_init_101 rfl ?_
  refine r_bipush (v := nI 8) dX7_init_102 (by decide) ?_
  refine r_newInt (N := 8) (kc2 := 0) (ks2 := 0) dX7_init_104 (by decide) (nI_clamp (by decide)) (by decide) (by omega) (by omega) (by omega) ?_
  refine r_putR dX7_init_106 fl_X7_57 (Or.inr ⟨rfl, rfl, rfl⟩) rfl (by (try simp (disch := omega) only [am_up_e, am_up_n]); exact hk0) (by omega) ?_
  refine r_vret rfl dX7_init_109 ?_
  refine ⟨rfl, rfl, ?_, ?_, ?_, ?_⟩
  · unfold kS
    simp (disch := omega) only [am_up_e, am_up_n]
    refine ⟨hk0, ?_, ?_, ?_, ?_, ?_, ?_, ?_, ?_, ?_, ?_, ?_, ?_, ?_, ?_, ?_, ?_, ?_, ?_⟩ <;> trivial
  · intro a ha
    (try simp (disch := omega) only [am_up_e, am_up_n])
    refine ⟨?_, ?_, ?_, ?_⟩ <;> first | trivial | rfl
  · (try simp (disch := omega) only [am_up_e, am_up_n])
    funext j
    simp only [va_up, hI0]
    repeat' split
    all_goals first | rfl | (exfalso; omega)
  · intro i h1 h2
    match i, h1, h2 with
    | 1, _, _ => refine ⟨?_, ?_⟩ <;> simp (disch := omega) only [am_up_e, am_up_n]
    | 2, _, _ => refine ⟨?_, ?_⟩ <;> simp (disch := omega) only [am_up_e, am_up_n]
    | 3, _, _ => refine ⟨?_, ?_⟩ <;> simp (disch := omega) only [am_up_e, am_up_n]
    | 4, _, _ => refine ⟨?_, ?_⟩ <;> simp (disch := omega) only [am_up_e, am_up_n]
    | 5, _, _ => refine ⟨?_, ?_⟩ <;> simp (disch := omega) only [am_up_e, am_up_n]
    | 6, _, _ => refine ⟨?_, ?_⟩ <;> simp (disch := omega) only [am_up_e, am_up_n]
    | 7, _, _ => refine ⟨?_, ?_⟩ <;> simp (disch := omega) only [am_up_e, am_up_n]
    | 8, _, _ => refine ⟨?_, ?_⟩ <;> simp (disch := omega) only [am_up_e, am_up_n]
    | 9, _, _ => refine ⟨?_, ?_⟩ <;> simp (disch := omega) only [am_up_e, am_up_n]

theorem dX6_init_0 : decode cX6_init 0 = .ok (.aload_n 0, 1) := by decide +kernel
theorem dX6_init_1 : decode cX6_init 1 = .ok (.invokespecial 3, 3) := by decide +kernel
theorem dX6_init_4 : decode cX6_init 4 = .ok (.aload_n 0, 1) := by decide +kernel
theorem dX6_init_5 : decode cX6_init 5 = .ok (.aconst_null, 1) := by decide +kernel
theorem dX6_init_6 : decode cX6_init 6 = .ok (.putfield 9, 3) := by decide +kernel
theorem dX6_init_9 : decode cX6_init 9 = .ok (.aload_n 0, 1) := by decide +kernel
theorem dX6_init_10 : decode cX6_init 10 = .ok (.aconst_null, 1) := by decide +kernel
theorem dX6_init_11 : decode cX6_init 11 = .ok (.putfield 15, 3) := by decide +kernel
theorem dX6_init_14 : decode cX6_init 14 = .ok (.aload_n 0, 1) := by decide +kernel
theorem dX6_init_15 : decode cX6_init 15 = .ok (.bipush 8, 2) := by decide +kernel
theorem dX6_init_17 : decode cX6_init 17 = .ok (.newarray .int, 2) := by decide +kernel
theorem dX6_init_19 : decode cX6_init 19 = .ok (.putfield 19, 3) := by decide +kernel
theorem dX6_init_22 : decode cX6_init 22 = .ok (.aload_n 0, 1) := by decide +kernel
theorem dX6_init_23 : decode cX6_init 23 = .ok (.bipush 8, 2) := by decide +kernel
theorem dX6_init_25 : decode cX6_init 25 = .ok (.newarray .int, 2) := by decide +kernel
theorem dX6_init_27 : decode cX6_init 27 = .ok (.putfield 23, 3) := by decide +kernel
theorem dX6_init_30 : decode cX6_init 30 = .ok (.aload_n 0, 1) := by decide +kernel
theorem dX6_init_31 : decode cX6_init 31 = .ok (.iconst (-1), 1) := by decide +kernel
theorem dX6_init_32 : decode cX6_init 32 = .ok (.putfield 26, 3) := by decide +kernel
theorem dX6_init_35 : decode cX6_init 35 = .ok (.aload_n 0, 1) := by decide +kernel
theorem dX6_init_36 : decode cX6_init 36 = .ok (.iconst 0, 1) := by decide +kernel
theorem dX6_init_37 : decode cX6_init 37 = .ok (.putfield 30, 3) := by decide +kernel
theorem dX6_init_40 : decode cX6_init 40 = .ok (.aload_n 0, 1) := by decide +kernel
theorem dX6_init_41 : decode cX6_init 41 = .ok (.bipush 8, 2) := by decide +kernel
theorem dX6_init_43 : decode cX6_init 43 = .ok (.newarray .int, 2) := by decide +kernel
theorem dX6_init_45 : decode cX6_init 45 = .ok (.putfield 33, 3) := by decide +kernel
theorem dX6_init_48 : decode cX6_init 48 = .ok (.aload_n 0, 1) := by decide +kernel
theorem dX6_init_49 : decode cX6_init 49 = .ok (.sipush 1000, 3) := by decide +kernel
theorem dX6_init_52 : decode cX6_init 52 = .ok (.newarray .long, 2) := by decide +kernel
theorem dX6_init_54 : decode cX6_init 54 = .ok (.putfield 36, 3) := by decide +kernel
theorem dX6_init_57 : decode cX6_init 57 = .ok (.aload_n 0, 1) := by decide +kernel
theorem dX6_init_58 : decode cX6_init 58 = .ok (.bipush 8, 2) := by decide +kernel
theorem dX6_init_60 : decode cX6_init 60 = .ok (.newarray .int, 2) := by decide +kernel
theorem dX6_init_62 : decode cX6_init 62 = .ok (.putfield 40, 3) := by decide +kernel
theorem dX6_init_65 : decode cX6_init 65 = .ok (.aload_n 0, 1) := by decide +kernel
theorem dX6_init_66 : decode cX6_init 66 = .ok (.iconst 0, 1) := by decide +kernel
theorem dX6_init_67 : decode cX6_init 67 = .ok (.putfield 43, 3) := by decide +kernel
theorem dX6_init_70 : decode cX6_init 70 = .ok (.aload_n 0, 1) := by decide +kernel
theorem dX6_init_71 : decode cX6_init 71 = .ok (.iconst 0, 1) := by decide +kernel
theorem dX6_init_72 : decode cX6_init 72 = .ok (.putfield 46, 3) := by decide +kernel
theorem dX6_init_75 : decode cX6_init 75 = .ok (.return_, 1) := by decide +kernel
set_option maxHeartbeats 4000000 in
set_option maxRecDepth 100000 in
theorem c_X6_init (b : Nat) {n : Nat} {kd : mK} {I : mI} {J : mJ} {P : mP} (hB : bare n b 6 kd I J P) (hl : b < 999900) : Ct yX6_init cX6_init 1 none 1 5 1032 [.ref b] n kd I J P (fun z n' kd' I' J' P' => z = .inl none ∧ n' = b + 6 ∧ kQ kd' P' b ∧ P' b 0 = none ∧ P' b 1 = none ∧ lowS b kd kd' I I' J J' P P' ∧ I' b = (fun j : Nat => (if j = 4 then (-1) else 0 : Int32)) ∧ (∀ i, 1 ≤ i → i ≤ 5 → I' (b + i) = (fun _ => 0) ∧ J' (b + i) = (fun _ => 0))) := by
  obtain ⟨rfl, hk0, hI0, hJ0, hP0⟩ := hB
  refine ct_of 0 (by decide +kernel) (Nat.le_of_ble_eq_true rfl) rfl ?_
  refine r_aload_n dX6_init_0 rfl ?_
  refine r_obj dX6_init_1 oi_X6 oi_in oi_co (by decide) (Nat.le_of_ble_eq_true rfl) ?_
  refine r_aload_n dX6_init_4 rfl ?_
  refine r_null dX6_init_5 ?_
  refine r_putN dX6_init_6 fl_X6_9 rfl rfl (by (try simp (disch := omega) only [am_up_e, am_up_n]); exact hk0) ?_
  refine r_aload_n dX6_init_9 rfl ?_
  refine r_null dX6_init_10 ?_
  refine r_putN dX6_init_11 fl_X6_15 rfl rfl (by (try simp (disch := omega) only [am_up_e, am_up_n]); exact hk0) ?_
  refine r_aload_n dX6_init_14 rfl ?_
  refine r_bipush (v := nI 8) dX6_init_15 (by decide) ?_
  refine r_newInt (N := 8) (kc2 := 4) (ks2 := 1024) dX6_init_17 (by decide) (nI_clamp (by decide)) (by decide) (by omega) (by omega) (by omega) ?_
  refine r_putR dX6_init_19 fl_X6_19 (Or.inr ⟨rfl, rfl, rfl⟩) rfl (by (try simp (disch := omega) only [am_up_e, am_up_n]); exact hk0) (by omega) ?_
  refine r_aload_n dX6_init_22 rfl ?_
  refine r_bipush (v := nI 8) dX6_init_23 (by decide) ?_
  refine r_newInt (N := 8) (kc2 := 3) (ks2 := 1016) dX6_init_25 (by decide) (nI_clamp (by decide)) (by decide) (by omega) (by omega) (by omega) ?_
  refine r_putR dX6_init_27 fl_X6_23 (Or.inr ⟨rfl, rfl, rfl⟩) rfl (by (try simp (disch := omega) only [am_up_e, am_up_n]); exact hk0) (by omega) ?_
  refine r_aload_n dX6_init_30 rfl ?_
  refine r_iconst (v := (-1)) dX6_init_31 (by decide) ?_
  refine r_putI dX6_init_32 fl_X6_26 rfl rfl (by (try simp (disch := omega) only [am_up_e, am_up_n]); exact hk0) ?_
  refine r_aload_n dX6_init_35 rfl ?_
  refine r_iconst (v := nI 0) dX6_init_36 (by decide) ?_
  refine r_putI dX6_init_37 fl_X6_30 rfl rfl (by (try simp (disch := omega) only [am_up_e, am_up_n]); exact hk0) ?_
  refine r_aload_n dX6_init_40 rfl ?_
  refine r_bipush (v := nI 8) dX6_init_41 (by decide) ?_
  refine r_newInt (N := 8) (kc2 := 2) (ks2 := 1008) dX6_init_43 (by decide) (nI_clamp (by decide)) (by decide) (by omega) (by omega) (by omega) ?_
  refine r_putR dX6_init_45 fl_X6_33 (Or.inr ⟨rfl, rfl, rfl⟩) rfl (by (try simp (disch := omega) only [am_up_e, am_up_n]); exact hk0) (by omega) ?_
  refine r_aload_n dX6_init_48 rfl ?_
  refine r_sipush (v := nI 1000) dX6_init_49 (by decide) ?_
  refine r_newLong (N := 1000) (kc2 := 1) (ks2 := 8) dX6_init_52 (by decide) (nI_clamp (by decide)) (by decide) (by omega) (by omega) (by omega) ?_
  refine r_putR dX6_init_54 fl_X6_36 (Or.inr ⟨rfl, rfl, rfl⟩) rfl (by (try simp (disch := omega) only [am_up_e, am_up_n]); exact hk0) (by omega) ?_
  refine r_aload_n dX6_init_57 rfl ?_
  refine r_bipush (v := nI 8) dX6_init_58 (by decide) ?_
  refine r_newInt (N := 8) (kc2 := 0) (ks2 := 0) dX6_init_60 (by decide) (nI_clamp (by decide)) (by decide) (by omega) (by omega) (by omega) ?_
  refine r_putR dX6_init_62 fl_X6_40 (Or.inr ⟨rfl, rfl, rfl⟩) rfl (by (try simp (disch := omega) only [am_up_e, am_up_n]); exact hk0) (by omega) ?_
  refine r_aload_n dX6_init_65 rfl ?_
  refine r_iconst (v := nI 0) dX6_init_66 (by decide) ?_
  refine r_putI dX6_init_67 fl_X6_43 rfl rfl (by (try simp (disch := omega) only [am_up_e, am_up_n]); exact hk0) ?_
  refine r_aload_n dX6_init_70 rfl ?_
  refine r_iconst (v := nI 0) dX6_init_71 (by decide) ?_
  refine r_putI dX6_init_72 fl_X6_46 rfl rfl (by (try simp (disch := omega) only [am_up_e, am_up_n]); exact hk0) ?_
  refine r_vret rfl dX6_init_75 ?_
  refine ⟨rfl, rfl, ?_, ?_, ?_, ?_, ?_, ?_⟩
  · unfold kQ
    simp (disch := omega) only [am_up_e, am_up_n]
    refine ⟨hk0, ?_, ?_, ?_, ?_, ?_, ?_, ?_, ?_, ?_, ?_⟩ <;> trivial
  · simp (disch := omega) only [am_up_e, am_up_n]
  · simp (disch := omega) only [am_up_e, am_up_n]
  · intro a ha
    (try simp (disch := omega) only [am_up_e, am_up_n])
    refine ⟨?_, ?_, ?_, ?_⟩ <;> first | trivial | rfl
  · (try simp (disch := omega) only [am_up_e, am_up_n])
    funext j
    simp only [va_up, hI0]
    repeat' split
    all_goals first | rfl | (exfalso; omega)
  · intro i h1 h2
    match i, h1, h2 with
    | 1, _, _ => refine ⟨?_, ?_⟩ <;> simp (disch := omega) only [am_up_e, am_up_n]
    | 2, _, _ => refine ⟨?_, ?_⟩ <;> simp (disch := omega) only [am_up_e, am_up_n]
    | 3, _, _ => refine ⟨?_, ?_⟩ <;> simp (disch := omega) only [am_up_e, am_up_n]
    | 4, _, _ => refine ⟨?_, ?_⟩ <;> simp (disch := omega) only [am_up_e, am_up_n]
    | 5, _, _ => refine ⟨?_, ?_⟩ <;> simp (disch := omega) only [am_up_e, am_up_n]

theorem dX2_init_0 : decode cX2_init 0 = .ok (.aload_n 0, 1) := by decide +kernel
theorem dX2_init_1 : decode cX2_init 1 = .ok (.invokespecial 3, 3) := by decide +kernel
theorem dX2_init_4 : decode cX2_init 4 = .ok (.aload_n 0, 1) := by decide +kernel
theorem dX2_init_5 : decode cX2_init 5 = .ok (.bipush 8, 2) := by decide +kernel
theorem dX2_init_7 : decode cX2_init 7 = .ok (.newarray .int, 2) := by decide +kernel
theorem dX2_init_9 : decode cX2_init 9 = .ok (.putfield 9, 3) := by decide +kernel
theorem dX2_init_12 : decode cX2_init 12 = .ok (.aload_n 0, 1) := by decide +kernel
theorem dX2_init_13 : decode cX2_init 13 = .ok (.bipush 8, 2) := by decide +kernel
theorem dX2_init_15 : decode cX2_init 15 = .ok (.newarray .int, 2) := by decide +kernel
theorem dX2_init_17 : decode cX2_init 17 = .ok (.putfield 15, 3) := by decide +kernel
theorem dX2_init_20 : decode cX2_init 20 = .ok (.aload_n 0, 1) := by decide +kernel
theorem dX2_init_21 : decode cX2_init 21 = .ok (.iconst 0, 1) := by decide +kernel
theorem dX2_init_22 : decode cX2_init 22 = .ok (.putfield 18, 3) := by decide +kernel
theorem dX2_init_25 : decode cX2_init 25 = .ok (.aload_n 0, 1) := by decide +kernel
theorem dX2_init_26 : decode cX2_init 26 = .ok (.bipush 30, 2) := by decide +kernel
theorem dX2_init_28 : decode cX2_init 28 = .ok (.newarray .int, 2) := by decide +kernel
theorem dX2_init_30 : decode cX2_init 30 = .ok (.putfield 22, 3) := by decide +kernel
theorem dX2_init_33 : decode cX2_init 33 = .ok (.aload_n 0, 1) := by decide +kernel
theorem dX2_init_34 : decode cX2_init 34 = .ok (.iconst 0, 1) := by decide +kernel
theorem dX2_init_35 : decode cX2_init 35 = .ok (.putfield 25, 3) := by decide +kernel
theorem dX2_init_38 : decode cX2_init 38 = .ok (.aload_n 0, 1) := by decide +kernel
theorem dX2_init_39 : decode cX2_init 39 = .ok (.bipush 10, 2) := by decide +kernel
theorem dX2_init_41 : decode cX2_init 41 = .ok (.newarray .int, 2) := by decide +kernel
theorem dX2_init_43 : decode cX2_init 43 = .ok (.putfield 28, 3) := by decide +kernel
theorem dX2_init_46 : decode cX2_init 46 = .ok (.aload_n 0, 1) := by decide +kernel
theorem dX2_init_47 : decode cX2_init 47 = .ok (.bipush 10, 2) := by decide +kernel
theorem dX2_init_49 : decode cX2_init 49 = .ok (.newarray .int, 2) := by decide +kernel
theorem dX2_init_51 : decode cX2_init 51 = .ok (.putfield 31, 3) := by decide +kernel
theorem dX2_init_54 : decode cX2_init 54 = .ok (.aload_n 0, 1) := by decide +kernel
theorem dX2_init_55 : decode cX2_init 55 = .ok (.iconst 0, 1) := by decide +kernel
theorem dX2_init_56 : decode cX2_init 56 = .ok (.putfield 34, 3) := by decide +kernel
theorem dX2_init_59 : decode cX2_init 59 = .ok (.return_, 1) := by decide +kernel
set_option maxHeartbeats 4000000 in
set_option maxRecDepth 100000 in
theorem c_X2_init (b : Nat) {n : Nat} {kd : mK} {I : mI} {J : mJ} {P : mP} (hB : bare n b 2 kd I J P) (hl : b < 999900) : Ct yX2_init cX2_init 1 none 1 5 66 [.ref b] n kd I J P (fun z n' kd' I' J' P' => z = .inl none ∧ n' = b + 6 ∧ kL kd' P' b ∧ lowS b kd kd' I I' J J' P P' ∧ I' b = (fun j : Nat => (0 : Int32)) ∧ (∀ i, 1 ≤ i → i ≤ 5 → I' (b + i) = (fun _ => 0) ∧ J' (b + i) = (fun _ => 0))) := by
  obtain ⟨rfl, hk0, hI0, hJ0, hP0⟩ := hB
  refine ct_of 0 (by decide +kernel) (Nat.le_of_ble_eq_true rfl) rfl ?_
  refine r_aload_n dX2_init_0 rfl ?_
  refine r_obj dX2_init_1 oi_X2 oi_in oi_co (by decide) (Nat.le_of_ble_eq_true rfl) ?_
  refine r_aload_n dX2_init_4 rfl ?_
  refine r_bipush (v := nI 8) dX2_init_5 (by decide) ?_
  refine r_newInt (N := 8) (kc2 := 4) (ks2 := 58) dX2_init_7 (by decide) (nI_clamp (by decide)) (by decide) (by omega) (by omega) (by omega) ?_
  refine r_putR dX2_init_9 fl_X2_9 (Or.inr ⟨rfl, rfl, rfl⟩) rfl (by (try simp (disch := omega) only [am_up_e, am_up_n]); exact hk0) (by omega) ?_
  refine r_aload_n dX2_init_12 rfl ?_
  refine r_bipush (v := nI 8) dX2_init_13 (by decide) ?_
  refine r_newInt (N := 8) (kc2 := 3) (ks2 := 50) dX2_init_15 (by decide) (nI_clamp (by decide)) (by decide) (by omega) (by omega) (by omega) ?_
  refine r_putR dX2_init_17 fl_X2_15 (Or.inr ⟨rfl, rfl, rfl⟩) rfl (by (try simp (disch := omega) only [am_up_e, am_up_n]); exact hk0) (by omega) ?_
  refine r_aload_n dX2_init_20 rfl ?_
  refine r_iconst (v := nI 0) dX2_init_21 (by decide) ?_
  refine r_putI dX2_init_22 fl_X2_18 rfl rfl (by (try simp (disch := omega) only [am_up_e, am_up_n]); exact hk0) ?_
  refine r_aload_n dX2_init_25 rfl ?_
  refine r_bipush (v := nI 30) dX2_init_26 (by decide) ?_
  refine r_newInt (N := 30) (kc2 := 2) (ks2 := 20) dX2_init_28 (by decide) (nI_clamp (by decide)) (by decide) (by omega) (by omega) (by omega) ?_
  refine r_putR dX2_init_30 fl_X2_22 (Or.inr ⟨rfl, rfl, rfl⟩) rfl (by (try simp (disch := omega) only [am_up_e, am_up_n]); exact hk0) (by omega) ?_
  refine r_aload_n dX2_init_33 rfl ?_
  refine r_iconst (v := nI 0) dX2_init_34 (by decide) ?_
  refine r_putI dX2_init_35 fl_X2_25 rfl rfl (by (try simp (disch := omega) only [am_up_e, am_up_n]); exact hk0) ?_
  refine r_aload_n dX2_init_38 rfl ?_
  refine r_bipush (v := nI 10) dX2_init_39 (by decide) ?_
  refine r_newInt (N := 10) (kc2 := 1) (ks2 := 10) dX2_init_41 (by decide) (nI_clamp (by decide)) (by decide) (by omega) (by omega) (by omega) ?_
  refine r_putR dX2_init_43 fl_X2_28 (Or.inr ⟨rfl, rfl, rfl⟩) rfl (by (try simp (disch := omega) only [am_up_e, am_up_n]); exact hk0) (by omega) ?_
  refine r_aload_n dX2_init_46 rfl ?_
  refine r_bipush (v := nI 10) dX2_init_47 (by decide) ?_
  refine r_newInt (N := 10) (kc2 := 0) (ks2 := 0) dX2_init_49 (by decide) (nI_clamp (by decide)) (by decide) (by omega) (by omega) (by omega) ?_
  refine r_putR dX2_init_51 fl_X2_31 (Or.inr ⟨rfl, rfl, rfl⟩) rfl (by (try simp (disch := omega) only [am_up_e, am_up_n]); exact hk0) (by omega) ?_
  refine r_aload_n dX2_init_54 rfl ?_
  refine r_iconst (v := nI 0) dX2_init_55 (by decide) ?_
  refine r_putI dX2_init_56 fl_X2_34 rfl rfl (by (try simp (disch := omega) only [am_up_e, am_up_n]); exact hk0) ?_
  refine r_vret rfl dX2_init_59 ?_
  refine ⟨rfl, rfl, ?_, ?_, ?_, ?_⟩
  · unfold kL
    simp (disch := omega) only [am_up_e, am_up_n]
    refine ⟨hk0, ?_, ?_, ?_, ?_, ?_, ?_, ?_, ?_, ?_, ?_⟩ <;> trivial
  · intro a ha
    (try simp (disch := omega) only [am_up_e, am_up_n])
    refine ⟨?_, ?_, ?_, ?_⟩ <;> first | trivial | rfl
  · (try simp (disch := omega) only [am_up_e, am_up_n])
    funext j
    simp only [va_up, hI0]
    repeat' split
    all_goals first | rfl | (exfalso; omega)
  · intro i h1 h2
    match i, h1, h2 with
    | 1, _, _ => refine ⟨?_, ?_⟩ <;> simp (disch := omega) only [am_up_e, am_up_n]
    | 2, _, _ => refine ⟨?_, ?_⟩ <;> simp (disch := omega) only [am_up_e, am_up_n]
    | 3, _, _ => refine ⟨?_, ?_⟩ <;> simp (disch := omega) only [am_up_e, am_up_n]
    | 4, _, _ => refine ⟨?_, ?_⟩ <;> simp (disch := omega) only [am_up_e, am_up_n]
    | 5, _, _ => refine ⟨?_, ?_⟩ <;> simp (disch := omega) only [am_up_e, am_up_n]

def kW (kd : mK) (P : mP) (b : Nat) : Prop := kd b = some (0, 8) ∧ kd (b + 1) = some (1, 10) ∧ kd (b + 2) = some (1, 10) ∧ P b 0 = some (b + 1) ∧ P b 4 = some (b + 2)
theorem dX8_init_0 : decode cX8_init 0 = .ok (.aload_n 0, 1) := by decide +kernel
theorem dX8_init_1 : decode cX8_init 1 = .ok (.invokespecial 3, 3) := by decide +kernel
theorem dX8_init_4 : decode cX8_init 4 = .ok (.aload_n 0, 1) := by decide +kernel
theorem dX8_init_5 : decode cX8_init 5 = .ok (.bipush 10, 2) := by decide +kernel
theorem dX8_init_7 : decode cX8_init 7 = .ok (.newarray .int, 2) := by decide +kernel
theorem dX8_init_9 : decode cX8_init 9 = .ok (.putfield 9, 3) := by decide +kernel
theorem dX8_init_12 : decode cX8_init 12 = .ok (.aload_n 0, 1) := by decide +kernel
theorem dX8_init_13 : decode cX8_init 13 = .ok (.iconst 0, 1) := by decide +kernel
theorem dX8_init_14 : decode cX8_init 14 = .ok (.putfield 15, 3) := by decide +kernel
theorem dX8_init_17 : decode cX8_init 17 = .ok (.aload_n 0, 1) := by decide +kernel
theorem dX8_init_18 : decode cX8_init 18 = .ok (.iconst 0, 1) := by decide +kernel
theorem dX8_init_19 : decode cX8_init 19 = .ok (.putfield 19, 3) := by decide +kernel
theorem dX8_init_22 : decode cX8_init 22 = .ok (.aload_n 0, 1) := by decide +kernel
theorem dX8_init_23 : decode cX8_init 23 = .ok (.aconst_null, 1) := by decide +kernel
theorem dX8_init_24 : decode cX8_init 24 = .ok (.putfield 22, 3) := by decide +kernel
theorem dX8_init_27 : decode cX8_init 27 = .ok (.aload_n 0, 1) := by decide +kernel
theorem dX8_init_28 : decode cX8_init 28 = .ok (.bipush 10, 2) := by decide +kernel
theorem dX8_init_30 : decode cX8_init 30 = .ok (.newarray .int, 2) := by decide +kernel
theorem dX8_init_32 : decode cX8_init 32 = .ok (.putfield 25, 3) := by decide +kernel
theorem dX8_init_35 : decode cX8_init 35 = .ok (.aload_n 0, 1) := by decide +kernel
theorem dX8_init_36 : decode cX8_init 36 = .ok (.iconst 0, 1) := by decide +kernel
theorem dX8_init_37 : decode cX8_init 37 = .ok (.putfield 28, 3) := by decide +kernel
theorem dX8_init_40 : decode cX8_init 40 = .ok (.aload_n 0, 1) := by decide +kernel
theorem dX8_init_41 : decode cX8_init 41 = .ok (.iconst 0, 1) := by decide +kernel
theorem dX8_init_42 : decode cX8_init 42 = .ok (.putfield 31, 3) := by decide +kernel
theorem dX8_init_45 : decode cX8_init 45 = .ok (.return_, 1) := by decide +kernel
set_option maxHeartbeats 4000000 in
set_option maxRecDepth 100000 in
theorem c_X8_init (b : Nat) {n : Nat} {kd : mK} {I : mI} {J : mJ} {P : mP} (hB : bare n b 8 kd I J P) (hl : b < 999900) : Ct yX8_init cX8_init 1 none 1 2 20 [.ref b] n kd I J P (fun z n' kd' I' J' P' => z = .inl none ∧ n' = b + 3 ∧ kW kd' P' b ∧ P' b 3 = none ∧ lowS b kd kd' I I' J J' P P' ∧ I' b = (fun j : Nat => (0 : Int32)) ∧ (∀ i, 1 ≤ i → i ≤ 2 → I' (b + i) = (fun _ => 0) ∧ J' (b + i) = (fun _ => 0))) := by
  obtain ⟨rfl, hk0, hI0, hJ0, hP0⟩ := hB
  refine ct_of 0 (by decide +kernel) (Nat.le_of_ble_eq_true rfl) rfl ?_
  refine r_aload_n dX8_init_0 rfl ?_
  refine r_obj dX8_init_1 oi_X8 oi_in oi_co (by decide) (Nat.le_of_ble_eq_true rfl) ?_
  refine r_aload_n dX8_init_4 rfl ?_
  refine r_bipush (v := nI 10) dX8_init_5 (by decide) ?_
  refine r_newInt (N := 10) (kc2 := 1) (ks2 := 10) dX8_init_7 (by decide) (nI_clamp (by decide)) (by decide) (by omega) (by omega) (by omega) ?_
  refine r_putR dX8_init_9 fl_X8_9 (Or.inr ⟨rfl, rfl, rfl⟩) rfl (by (try simp (disch := omega) only [am_up_e, am_up_n]); exact hk0) (by omega) ?_
  refine r_aload_n dX8_init_12 rfl ?_
  refine r_iconst (v := nI 0) dX8_init_13 (by decide) ?_
  refine r_putI dX8_init_14 fl_X8_15 rfl rfl (by (try simp (disch := omega) only [am_up_e, am_up_n]); exact hk0) ?_
  refine r_aload_n dX8_init_17 rfl ?_
  refine r_iconst (v := nI 0) dX8_init_18 (by decide) ?_
  refine r_putI dX8_init_19 fl_X8_19 rfl rfl (by (try simp (disch := omega) only [am_up_e, am_up_n]); exact hk0) ?_
  refine r_aload_n dX8_init_22 rfl ?_
  refine r_null dX8_init_23 ?_
  refine r_putN dX8_init_24 fl_X8_22 rfl rfl (by (try simp (disch := omega) only [am_up_e, am_up_n]); exact hk0) ?_
  refine r_aload_n dX8_init_27 rfl ?_
  refine r_bipush (v := nI 10) dX8_init_28 (by decide) ?_
  refine r_newInt (N := 10) (kc2 := 0) (ks2 := 0) dX8_init_30 (by decide) (nI_clamp (by decide)) (by decide) (by omega) (by omega) (by omega) ?_
  refine r_putR dX8_init_32 fl_X8_25 (Or.inr ⟨rfl, rfl, rfl⟩) rfl (by (try simp (disch := omega) only [am_up_e, am_up_n]); exact hk0) (by omega) ?_
  refine r_aload_n dX8_init_35 rfl ?_
  refine r_iconst (v := nI 0) dX8_init_36 (by decide) ?_
  refine r_putI dX8_init_37 fl_X8_28 rfl rfl (by (try simp (disch := omega) only [am_up_e, am_up_n]); exact hk0) ?_
  refine r_aload_n dX8_init_40 rfl ?_
  refine r_iconst (v := nI 0) dX8_init_41 (by decide) ?_
  refine r_putZ dX8_init_42 fl_X8_31 rfl rfl (by first | exact Or.inl rfl | exact Or.inr rfl) (by (try simp (disch := omega) only [am_up_e, am_up_n]); exact hk0) ?_
  refine r_vret rfl dX8_init_45 ?_
  refine ⟨rfl, rfl, ?_, ?_, ?_, ?_, ?_⟩
  · unfold kW
    simp (disch := omega) only [am_up_e, am_up_n]
    refine ⟨hk0, ?_, ?_, ?_, ?_⟩ <;> trivial
  · simp (disch := omega) only [am_up_e, am_up_n]
  · intro a ha
    (try simp (disch := omega) only [am_up_e, am_up_n])
    refine ⟨?_, ?_, ?_, ?_⟩ <;> first | trivial | rfl
  · (try simp (disch := omega) only [am_up_e, am_up_n])
    funext j
    simp only [va_up, hI0]
    repeat' split
    all_goals first | rfl | (exfalso; omega)
  · intro i h1 h2
    match i, h1, h2 with
    | 1, _, _ => refine ⟨?_, ?_⟩ <;> simp (disch := omega) only [am_up_e, am_up_n]
    | 2, _, _ => refine ⟨?_, ?_⟩ <;> simp (disch := omega) only [am_up_e, am_up_n]

def kD (kd : mK) (P : mP) (b : Nat) : Prop := kd b = some (0, 1)
theorem dX1_init_0 : decode cX1_init 0 = .ok (.aload_n 0, 1) := by decide +kernel
theorem dX1_init_1 : decode cX1_init 1 = .ok (.invokespecial 1, 3) := by decide +kernel
theorem dX1_init_4 : decode cX1_init 4 = .ok (.aload_n 0, 1) := by decide +kernel
theorem dX1_init_5 : decode cX1_init 5 = .ok (.iconst 0, 1) := by decide +kernel
theorem dX1_init_6 : decode cX1_init 6 = .ok (.putfield 7, 3) := by decide +kernel
theorem dX1_init_9 : decode cX1_init 9 = .ok (.return_, 1) := by decide +kernel
set_option maxHeartbeats 4000000 in
set_option maxRecDepth 100000 in
theorem c_X1_init (b : Nat) {n : Nat} {kd : mK} {I : mI} {J : mJ} {P : mP} (hB : bare n b 1 kd I J P) (hl : b < 999900) : Ct yX1_init cX1_init 1 none 1 0 0 [.ref b] n kd I J P (fun z n' kd' I' J' P' => z = .inl none ∧ n' = b + 1 ∧ kD kd' P' b ∧ lowS b kd kd' I I' J J' P P' ∧ I' b = (fun j : Nat => (0 : Int32)) ∧ (∀ i, 1 ≤ i → i ≤ 0 → I' (b + i) = (fun _ => 0) ∧ J' (b + i) = (fun _ => 0))) := by
  obtain ⟨rfl, hk0, hI0, hJ0, hP0⟩ := hB
  refine ct_of 0 (by decide +kernel) (Nat.le_of_ble_eq_true rfl) rfl ?_
  refine r_aload_n dX1_init_0 rfl ?_
  refine r_obj dX1_init_1 oi_X1 oi_in oi_co (by decide) (Nat.le_of_ble_eq_true rfl) ?_
  refine r_aload_n dX1_init_4 rfl ?_
  refine r_iconst (v := nI 0) dX1_init_5 (by decide) ?_
  refine r_putI dX1_init_6 fl_X1_7 rfl rfl (by (try simp (disch := omega) only [am_up_e, am_up_n]); exact hk0) ?_
  refine r_vret rfl dX1_init_9 ?_
  refine ⟨rfl, rfl, ?_, ?_, ?_, ?_⟩
  · unfold kD
    exact hk0
  · intro a ha
    (try simp (disch := omega) only [am_up_e, am_up_n])
    refine ⟨?_, ?_, ?_, ?_⟩ <;> first | trivial | rfl
  · (try simp (disch := omega) only [am_up_e, am_up_n])
    funext j
    simp only [va_up, hI0]
    repeat' split
    all_goals first | rfl | (exfalso; omega)
  · intro i h1 h2
    exact absurd (Nat.le_trans h1 h2) (by decide)

def kPg (kd : mK) (P : mP) (b : Nat) : Prop := kd b = some (0, 4) ∧ kd (b + 1) = some (2, 1200) ∧ P b 0 = some (b + 1)
theorem dX4_init_0 : decode cX4_init 0 = .ok (.aload_n 0, 1) := by decide +kernel
theorem dX4_init_1 : decode cX4_init 1 = .ok (.invokespecial 1, 3) := by decide +kernel
theorem dX4_init_4 : decode cX4_init 4 = .ok (.aload_n 0, 1) := by decide +kernel
theorem dX4_init_5 : decode cX4_init 5 = .ok (.sipush 1200, 3) := by decide +kernel
theorem dX4_init_8 : decode cX4_init 8 = .ok (.newarray .byte, 2) := by decide +kernel
theorem dX4_init_10 : decode cX4_init 10 = .ok (.putfield 7, 3) := by decide +kernel
theorem dX4_init_13 : decode cX4_init 13 = .ok (.aload_n 0, 1) := by decide +kernel
theorem dX4_init_14 : decode cX4_init 14 = .ok (.iconst 0, 1) := by decide +kernel
theorem dX4_init_15 : decode cX4_init 15 = .ok (.putfield 13, 3) := by decide +kernel
theorem dX4_init_18 : decode cX4_init 18 = .ok (.return_, 1) := by decide +kernel
set_option maxHeartbeats 4000000 in
set_option maxRecDepth 100000 in
theorem c_X4_init (b : Nat) {n : Nat} {kd : mK} {I : mI} {J : mJ} {P : mP} (hB : bare n b 4 kd I J P) (hl : b < 999900) : Ct yX4_init cX4_init 1 none 1 1 1200 [.ref b] n kd I J P (fun z n' kd' I' J' P' => z = .inl none ∧ n' = b + 2 ∧ kPg kd' P' b ∧ lowS b kd kd' I I' J J' P P' ∧ I' b = (fun j : Nat => (0 : Int32)) ∧ (∀ i, 1 ≤ i → i ≤ 1 → I' (b + i) = (fun _ => 0) ∧ J' (b + i) = (fun _ => 0))) := by
  obtain ⟨rfl, hk0, hI0, hJ0, hP0⟩ := hB
  refine ct_of 0 (by decide +kernel) (Nat.le_of_ble_eq_true rfl) rfl ?_
  refine r_aload_n dX4_init_0 rfl ?_
  refine r_obj dX4_init_1 oi_X4 oi_in oi_co (by decide) (Nat.le_of_ble_eq_true rfl) ?_
  refine r_aload_n dX4_init_4 rfl ?_
  refine r_sipush (v := nI 1200) dX4_init_5 (by decide) ?_
  refine r_newByte (N := 1200) (kc2 := 0) (ks2 := 0) dX4_init_8 (by decide) (nI_clamp (by decide)) (by decide) (by omega) (by omega) (by omega) ?_
  refine r_putR dX4_init_10 fl_X4_7 (Or.inr ⟨rfl, rfl, rfl⟩) rfl (by (try simp (disch := omega) only [am_up_e, am_up_n]); exact hk0) (by omega) ?_
  refine r_aload_n dX4_init_13 rfl ?_
  refine r_iconst (v := nI 0) dX4_init_14 (by decide) ?_
  refine r_putI dX4_init_15 fl_X4_13 rfl rfl (by (try simp (disch := omega) only [am_up_e, am_up_n]); exact hk0) ?_
  refine r_vret rfl dX4_init_18 ?_
  refine ⟨rfl, rfl, ?_, ?_, ?_, ?_⟩
  · unfold kPg
    simp (disch := omega) only [am_up_e, am_up_n]
    refine ⟨hk0, ?_, ?_⟩ <;> trivial
  · intro a ha
    (try simp (disch := omega) only [am_up_e, am_up_n])
    refine ⟨?_, ?_, ?_, ?_⟩ <;> first | trivial | rfl
  · (try simp (disch := omega) only [am_up_e, am_up_n])
    funext j
    simp only [va_up, hI0]
    repeat' split
    all_goals first | rfl | (exfalso; omega)
  · intro i h1 h2
    match i, h1, h2 with
    | 1, _, _ => refine ⟨?_, ?_⟩ <;> simp (disch := omega) only [am_up_e, am_up_n]

def kR (kd : mK) (P : mP) (b : Nat) : Prop := kd b = some (0, 5) ∧ kd (b + 1) = some (2, 0) ∧ kd (b + 2) = some (1, 501) ∧ kd (b + 3) = some (1, 501) ∧ kd (b + 4) = some (1, 501) ∧ P b 0 = some (b + 1) ∧ P b 2 = some (b + 2) ∧ P b 3 = some (b + 3) ∧ P b 4 = some (b + 4)
theorem dX5_init_0 : decode cX5_init 0 = .ok (.aload_n 0, 1) := by decide +kernel
theorem dX5_init_1 : decode cX5_init 1 = .ok (.invokespecial 3, 3) := by decide +kernel
theorem dX5_init_4 : decode cX5_init 4 = .ok (.aload_n 0, 1) := by decide +kernel
theorem dX5_init_5 : decode cX5_init 5 = .ok (.iconst 0, 1) := by decide +kernel
theorem dX5_init_6 : decode cX5_init 6 = .ok (.newarray .byte, 2) := by decide +kernel
theorem dX5_init_8 : decode cX5_init 8 = .ok (.putfield 9, 3) := by decide +kernel
theorem dX5_init_11 : decode cX5_init 11 = .ok (.aload_n 0, 1) := by decide +kernel
theorem dX5_init_12 : decode cX5_init 12 = .ok (.iconst 0, 1) := by decide +kernel
theorem dX5_init_13 : decode cX5_init 13 = .ok (.putfield 15, 3) := by decide +kernel
theorem dX5_init_16 : decode cX5_init 16 = .ok (.aload_n 0, 1) := by decide +kernel
theorem dX5_init_17 : decode cX5_init 17 = .ok (.sipush 501, 3) := by decide +kernel
theorem dX5_init_20 : decode cX5_init 20 = .ok (.newarray .int, 2) := by decide +kernel
theorem dX5_init_22 : decode cX5_init 22 = .ok (.putfield 19, 3) := by decide +kernel
theorem dX5_init_25 : decode cX5_init 25 = .ok (.aload_n 0, 1) := by decide +kernel
theorem dX5_init_26 : decode cX5_init 26 = .ok (.sipush 501, 3) := by decide +kernel
theorem dX5_init_29 : decode cX5_init 29 = .ok (.newarray .int, 2) := by decide +kernel
theorem dX5_init_31 : decode cX5_init 31 = .ok (.putfield 23, 3) := by decide +kernel
theorem dX5_init_34 : decode cX5_init 34 = .ok (.aload_n 0, 1) := by decide +kernel
theorem dX5_init_35 : decode cX5_init 35 = .ok (.sipush 501, 3) := by decide +kernel
theorem dX5_init_38 : decode cX5_init 38 = .ok (.newarray .int, 2) := by decide +kernel
theorem dX5_init_40 : decode cX5_init 40 = .ok (.putfield 26, 3) := by decide +kernel
theorem dX5_init_43 : decode cX5_init 43 = .ok (.aload_n 0, 1) := by decide +kernel
theorem dX5_init_44 : decode cX5_init 44 = .ok (.iconst 0, 1) := by decide +kernel
theorem dX5_init_45 : decode cX5_init 45 = .ok (.putfield 29, 3) := by decide +kernel
theorem dX5_init_48 : decode cX5_init 48 = .ok (.aload_n 0, 1) := by decide +kernel
theorem dX5_init_49 : decode cX5_init 49 = .ok (.iconst 0, 1) := by decide +kernel
theorem dX5_init_50 : decode cX5_init 50 = .ok (.putfield 32, 3) := by decide +kernel
theorem dX5_init_53 : decode cX5_init 53 = .ok (.aload_n 0, 1) := by decide +kernel
theorem dX5_init_54 : decode cX5_init 54 = .ok (.iconst 0, 1) := by decide +kernel
theorem dX5_init_55 : decode cX5_init 55 = .ok (.putfield 35, 3) := by decide +kernel
theorem dX5_init_58 : decode cX5_init 58 = .ok (.aload_n 0, 1) := by decide +kernel
theorem dX5_init_59 : decode cX5_init 59 = .ok (.aconst_null, 1) := by decide +kernel
theorem dX5_init_60 : decode cX5_init 60 = .ok (.putfield 38, 3) := by decide +kernel
theorem dX5_init_63 : decode cX5_init 63 = .ok (.aload_n 0, 1) := by decide +kernel
theorem dX5_init_64 : decode cX5_init 64 = .ok (.aconst_null, 1) := by decide +kernel
theorem dX5_init_65 : decode cX5_init 65 = .ok (.putfield 42, 3) := by decide +kernel
theorem dX5_init_68 : decode cX5_init 68 = .ok (.aload_n 0, 1) := by decide +kernel
theorem dX5_init_69 : decode cX5_init 69 = .ok (.iconst 0, 1) := by decide +kernel
theorem dX5_init_70 : decode cX5_init 70 = .ok (.putfield 46, 3) := by decide +kernel
theorem dX5_init_73 : decode cX5_init 73 = .ok (.aload_n 0, 1) := by decide +kernel
theorem dX5_init_74 : decode cX5_init 74 = .ok (.iconst 0, 1) := by decide +kernel
theorem dX5_init_75 : decode cX5_init 75 = .ok (.putfield 50, 3) := by decide +kernel
theorem dX5_init_78 : decode cX5_init 78 = .ok (.aload_n 0, 1) := by decide +kernel
theorem dX5_init_79 : decode cX5_init 79 = .ok (.iconst (-1), 1) := by decide +kernel
theorem dX5_init_80 : decode cX5_init 80 = .ok (.putfield 53, 3) := by decide +kernel
theorem dX5_init_83 : decode cX5_init 83 = .ok (.return_, 1) := by decide +kernel
set_option maxHeartbeats 4000000 in
set_option maxRecDepth 100000 in
theorem c_X5_init (b : Nat) {n : Nat} {kd : mK} {I : mI} {J : mJ} {P : mP} (hB : bare n b 5 kd I J P) (hl : b < 999900) : Ct yX5_init cX5_init 1 none 1 4 1503 [.ref b] n kd I J P (fun z n' kd' I' J' P' => z = .inl none ∧ n' = b + 5 ∧ kR kd' P' b ∧ P' b 8 = none ∧ P' b 9 = none ∧ lowS b kd kd' I I' J J' P P' ∧ I' b = (fun j : Nat => (if j = 12 then (-1) else 0 : Int32)) ∧ (∀ i, 1 ≤ i → i ≤ 4 → I' (b + i) = (fun _ => 0) ∧ J' (b + i) = (fun _ => 0))) := by
  obtain ⟨rfl, hk0, hI0, hJ0, hP0⟩ := hB
  refine ct_of 0 (by decide +kernel) (Nat.le_of_ble_eq_true rfl) rfl ?_
  refine r_aload_n dX5_init_0 rfl ?_
  refine r_obj dX5_init_1 oi_X5 oi_in oi_co (by decide) (Nat.le_of_ble_eq_true rfl) ?_
  refine r_aload_n dX5_init_4 rfl ?_
  refine r_iconst (v := nI 0) dX5_init_5 (by decide) ?_
  refine r_newByte (N := 0) (kc2 := 3) (ks2 := 1503) dX5_init_6 (by decide) (nI_clamp (by decide)) (by decide) (by omega) (by omega) (by omega) ?_
  refine r_putR dX5_init_8 fl_X5_9 (Or.inl rfl) rfl (by (try simp (disch := omega) only [am_up_e, am_up_n]); exact hk0) (by omega) ?_
  refine r_aload_n dX5_init_11 rfl ?_
  refine r_iconst (v := nI 0) dX5_init_12 (by decide) ?_
  refine r_putI dX5_init_13 fl_X5_15 rfl rfl (by (try simp (disch := omega) only [am_up_e, am_up_n]); exact hk0) ?_
  refine r_aload_n dX5_init_16 rfl ?_
  refine r_sipush (v := nI 501) dX5_init_17 (by decide) ?_
  refine r_newInt (N := 501) (kc2 := 2) (ks2 := 1002) dX5_init_20 (by decide) (nI_clamp (by decide)) (by decide) (by omega) (by omega) (by omega) ?_
  refine r_putR dX5_init_22 fl_X5_19 (Or.inr ⟨rfl, rfl, rfl⟩) rfl (by (try simp (disch := omega) only [am_up_e, am_up_n]); exact hk0) (by omega) ?_
  refine r_aload_n dX5_init_25 rfl ?_
  refine r_sipush (v := nI 501) dX5_init_26 (by decide) ?_
  refine r_newInt (N := 501) (kc2 := 1) (ks2 := 501) dX5_init_29 (by decide) (nI_clamp (by decide)) (by decide) (by omega) (by omega) (by omega) ?_
  refine r_putR dX5_init_31 fl_X5_23 (Or.inr ⟨rfl, rfl, rfl⟩) rfl (by (try simp (disch := omega) only [am_up_e, am_up_n]); exact hk0) (by omega) ?_
  refine r_aload_n dX5_init_34 rfl ?_
  refine r_sipush (v := nI 501) dX5_init_35 (by decide) ?_
  refine r_newInt (N := 501) (kc2 := 0) (ks2 := 0) dX5_init_38 (by decide) (nI_clamp (by decide)) (by decide) (by omega) (by omega) (by omega) ?_
  refine r_putR dX5_init_40 fl_X5_26 (Or.inr ⟨rfl, rfl, rfl⟩) rfl (by (try simp (disch := omega) only [am_up_e, am_up_n]); exact hk0) (by omega) ?_
  refine r_aload_n dX5_init_43 rfl ?_
  refine r_iconst (v := nI 0) dX5_init_44 (by decide) ?_
  refine r_putI dX5_init_45 fl_X5_29 rfl rfl (by (try simp (disch := omega) only [am_up_e, am_up_n]); exact hk0) ?_
  refine r_aload_n dX5_init_48 rfl ?_
  refine r_iconst (v := nI 0) dX5_init_49 (by decide) ?_
  refine r_putI dX5_init_50 fl_X5_32 rfl rfl (by (try simp (disch := omega) only [am_up_e, am_up_n]); exact hk0) ?_
  refine r_aload_n dX5_init_53 rfl ?_
  refine r_iconst (v := nI 0) dX5_init_54 (by decide) ?_
  refine r_putI dX5_init_55 fl_X5_35 rfl rfl (by (try simp (disch := omega) only [am_up_e, am_up_n]); exact hk0) ?_
  refine r_aload_n dX5_init_58 rfl ?_
  refine r_null dX5_init_59 ?_
  refine r_putN dX5_init_60 fl_X5_38 rfl rfl (by (try simp (disch := omega) only [am_up_e, am_up_n]); exact hk0) ?_
  refine r_aload_n dX5_init_63 rfl ?_
  refine r_null dX5_init_64 ?_
  refine r_putN dX5_init_65 fl_X5_42 rfl rfl (by (try simp (disch := omega) only [am_up_e, am_up_n]); exact hk0) ?_
  refine r_aload_n dX5_init_68 rfl ?_
  refine r_iconst (v := nI 0) dX5_init_69 (by decide) ?_
  refine r_putZ dX5_init_70 fl_X5_46 rfl rfl (by first | exact Or.inl rfl | exact Or.inr rfl) (by (try simp (disch := omega) only [am_up_e, am_up_n]); exact hk0) ?_
  refine r_aload_n dX5_init_73 rfl ?_
  refine r_iconst (v := nI 0) dX5_init_74 (by decide) ?_
  refine r_putI dX5_init_75 fl_X5_50 rfl rfl (by (try simp (disch := omega) only [am_up_e, am_up_n]); exact hk0) ?_
  refine r_aload_n dX5_init_78 rfl ?_
  refine r_iconst (v := (-1)) dX5_init_79 (by decide) ?_
  refine r_putI dX5_init_80 fl_X5_53 rfl rfl (by (try simp (disch := omega) only [am_up_e, am_up_n]); exact hk0) ?_
  refine r_vret rfl dX5_init_83 ?_
  refine ⟨rfl, rfl, ?_, ?_, ?_, ?_, ?_, ?_⟩
  · unfold kR
    simp (disch := omega) only [am_up_e, am_up_n]
    refine ⟨hk0, ?_, ?_, ?_, ?_, ?_, ?_, ?_, ?_⟩ <;> trivial
  · simp (disch := omega) only [am_up_e, am_up_n]
  · simp (disch := omega) only [am_up_e, am_up_n]
  · intro a ha
    (try simp (disch := omega) only [am_up_e, am_up_n])
    refine ⟨?_, ?_, ?_, ?_⟩ <;> first | trivial | rfl
  · (try simp (disch := omega) only [am_up_e, am_up_n])
    funext j
    simp only [va_up, hI0]
    repeat' split
    all_goals first | rfl | (exfalso; omega)
  · intro i h1 h2
    match i, h1, h2 with
    | 1, _, _ => refine ⟨?_, ?_⟩ <;> simp (disch := omega) only [am_up_e, am_up_n]
    | 2, _, _ => refine ⟨?_, ?_⟩ <;> simp (disch := omega) only [am_up_e, am_up_n]
    | 3, _, _ => refine ⟨?_, ?_⟩ <;> simp (disch := omega) only [am_up_e, am_up_n]
    | 4, _, _ => refine ⟨?_, ?_⟩ <;> simp (disch := omega) only [am_up_e, am_up_n]

def kG (kd : mK) (P : mP) (b : Nat) : Prop := kd b = some (0, 3) ∧ kd (b + 1) = some (4, 320) ∧ P b 2 = some (b + 1)
theorem dX3_init_0 : decode cX3_init 0 = .ok (.aload_n 0, 1) := by decide +kernel
theorem dX3_init_1 : decode cX3_init 1 = .ok (.invokespecial 3, 3) := by decide +kernel
theorem dX3_init_4 : decode cX3_init 4 = .ok (.aload_n 0, 1) := by decide +kernel
theorem dX3_init_5 : decode cX3_init 5 = .ok (.iconst 0, 1) := by decide +kernel
theorem dX3_init_6 : decode cX3_init 6 = .ok (.putfield 9, 3) := by decide +kernel
theorem dX3_init_9 : decode cX3_init 9 = .ok (.aload_n 0, 1) := by decide +kernel
theorem dX3_init_10 : decode cX3_init 10 = .ok (.iconst 0, 1) := by decide +kernel
theorem dX3_init_11 : decode cX3_init 11 = .ok (.putfield 15, 3) := by decide +kernel
theorem dX3_init_14 : decode cX3_init 14 = .ok (.aload_n 0, 1) := by decide +kernel
theorem dX3_init_15 : decode cX3_init 15 = .ok (.sipush 320, 3) := by decide +kernel
theorem dX3_init_18 : decode cX3_init 18 = .ok (.newarray .long, 2) := by decide +kernel
theorem dX3_init_20 : decode cX3_init 20 = .ok (.putfield 18, 3) := by decide +kernel
theorem dX3_init_23 : decode cX3_init 23 = .ok (.aload_n 0, 1) := by decide +kernel
theorem dX3_init_24 : decode cX3_init 24 = .ok (.aconst_null, 1) := by decide +kernel
theorem dX3_init_25 : decode cX3_init 25 = .ok (.putfield 22, 3) := by decide +kernel
theorem dX3_init_28 : decode cX3_init 28 = .ok (.return_, 1) := by decide +kernel
set_option maxHeartbeats 4000000 in
set_option maxRecDepth 100000 in
theorem c_X3_init (b : Nat) {n : Nat} {kd : mK} {I : mI} {J : mJ} {P : mP} (hB : bare n b 3 kd I J P) (hl : b < 999900) : Ct yX3_init cX3_init 1 none 1 1 320 [.ref b] n kd I J P (fun z n' kd' I' J' P' => z = .inl none ∧ n' = b + 2 ∧ kG kd' P' b ∧ P' b 3 = none ∧ lowS b kd kd' I I' J J' P P' ∧ I' b = (fun j : Nat => (0 : Int32)) ∧ (∀ i, 1 ≤ i → i ≤ 1 → I' (b + i) = (fun _ => 0) ∧ J' (b + i) = (fun _ => 0))) := by
  obtain ⟨rfl, hk0, hI0, hJ0, hP0⟩ := hB
  refine ct_of 0 (by decide +kernel) (Nat.le_of_ble_eq_true rfl) rfl ?_
  refine r_aload_n dX3_init_0 rfl ?_
  refine r_obj dX3_init_1 oi_X3 oi_in oi_co (by decide) (Nat.le_of_ble_eq_true rfl) ?_
  refine r_aload_n dX3_init_4 rfl ?_
  refine r_iconst (v := nI 0) dX3_init_5 (by decide) ?_
  refine r_putI dX3_init_6 fl_X3_9 rfl rfl (by (try simp (disch := omega) only [am_up_e, am_up_n]); exact hk0) ?_
  refine r_aload_n dX3_init_9 rfl ?_
  refine r_iconst (v := nI 0) dX3_init_10 (by decide) ?_
  refine r_putI dX3_init_11 fl_X3_15 rfl rfl (by (try simp (disch := omega) only [am_up_e, am_up_n]); exact hk0) ?_
  refine r_aload_n dX3_init_14 rfl ?_
  refine r_sipush (v := nI 320) dX3_init_15 (by decide) ?_
  refine r_newLong (N := 320) (kc2 := 0) (ks2 := 0) dX3_init_18 (by decide) (nI_clamp (by decide)) (by decide) (by omega) (by omega) (by omega) ?_
  refine r_putR dX3_init_20 fl_X3_18 (Or.inr ⟨rfl, rfl, rfl⟩) rfl (by (try simp (disch := omega) only [am_up_e, am_up_n]); exact hk0) (by omega) ?_
  refine r_aload_n dX3_init_23 rfl ?_
  refine r_null dX3_init_24 ?_
  refine r_putN dX3_init_25 fl_X3_22 rfl rfl (by (try simp (disch := omega) only [am_up_e, am_up_n]); exact hk0) ?_
  refine r_vret rfl dX3_init_28 ?_
  refine ⟨rfl, rfl, ?_, ?_, ?_, ?_, ?_⟩
  · unfold kG
    simp (disch := omega) only [am_up_e, am_up_n]
    refine ⟨hk0, ?_, ?_⟩ <;> trivial
  · simp (disch := omega) only [am_up_e, am_up_n]
  · intro a ha
    (try simp (disch := omega) only [am_up_e, am_up_n])
    refine ⟨?_, ?_, ?_, ?_⟩ <;> first | trivial | rfl
  · (try simp (disch := omega) only [am_up_e, am_up_n])
    funext j
    simp only [va_up, hI0]
    repeat' split
    all_goals first | rfl | (exfalso; omega)
  · intro i h1 h2
    match i, h1, h2 with
    | 1, _, _ => refine ⟨?_, ?_⟩ <;> simp (disch := omega) only [am_up_e, am_up_n]

