/-! BUILD: a new house and its riddle, in the class -/

set_option maxHeartbeats 4000000 in
set_option maxRecDepth 100000 in
theorem c_addH (s H : Nat) {n : Nat} {kd : mK} {I : mI} {J : mJ} {P : mP} (hS : kS kd P s) (h0 : I s 0 = nI H) (hH : H < 8) : Ct yX7_addHouse cX7_addHouse 1 none 1 0 0 [.ref s] n kd I J P (fun z n' kd' I' J' P' => z = .inl none ∧ n' = n ∧ kd' = kd ∧ J' = J ∧ P' = P ∧ (∀ a, (a < s ∨ s + 7 < a) → I' a = I a) ∧ I' s 0 = nI (H + 1) ∧ (∀ j, j ≠ 0 → I' s j = I s j) ∧ I' (s + 1) = va_up (I (s + 1)) H (nI 0) ∧ I' (s + 2) = I (s + 2) ∧ I' (s + 3) = va_up (I (s + 3)) H (I s 6) ∧ I' (s + 4) = va_up (I (s + 4)) H (I s 6)) := by
  obtain ⟨s0, s1, s2, s3, s4, s5, s6, s7, s8, s9, u4, u5, u7, u8, u9, u11, u12, u13, u14⟩ := id hS
  refine ct_of 0 (by decide +kernel) (Nat.le_of_ble_eq_true rfl) rfl ?_
  refine r_aload_n dX7_addHouse_0 rfl ?_
  refine r_getI dX7_addHouse_1 fl_X7_9 rfl s0 ?_
  try simp (disch := omega) only [am_up_s, am_up_n]
  rw [h0]
  refine r_bipush (v := nI 8) dX7_addHouse_4 (by decide) ?_
  refine r_icmp_lt (tgt := 10) dX7_addHouse_6 (by decide) (fun _ => ?_) (fun hz => absurd (show _ from (by rw [nI_ltI (by omega) (by omega)]; omega)) hz)
  refine r_aload_n dX7_addHouse_10 rfl ?_
  refine r_getR dX7_addHouse_11 fl_X7_25 rfl s0 u4 ?_
  refine r_aload_n dX7_addHouse_14 rfl ?_
  refine r_getI dX7_addHouse_15 fl_X7_9 rfl s0 ?_
  try simp (disch := omega) only [am_up_s, am_up_n]
  rw [h0]
  refine r_iconst (v := nI 0) dX7_addHouse_18 (by decide) ?_
  refine r_iast dX7_addHouse_19 s1 (nI_in8 8 (by omega) (by decide)) (nI_clamp (by omega)) ?_
  refine r_aload_n dX7_addHouse_20 rfl ?_
  refine r_getR dX7_addHouse_21 fl_X7_35 rfl s0 u7 ?_
  refine r_aload_n dX7_addHouse_24 rfl ?_
  refine r_getI dX7_addHouse_25 fl_X7_9 rfl s0 ?_
  try simp (disch := omega) only [am_up_s, am_up_n]
  rw [h0]
  refine r_aload_n dX7_addHouse_28 rfl ?_
  refine r_getI dX7_addHouse_29 fl_X7_32 rfl s0 ?_
  try simp (disch := omega) only [am_up_s, am_up_n]
  refine r_iast dX7_addHouse_32 s3 (nI_in8 8 (by omega) (by decide)) (nI_clamp (by omega)) ?_
  refine r_aload_n dX7_addHouse_33 rfl ?_
  refine r_getR dX7_addHouse_34 fl_X7_38 rfl s0 u8 ?_
  refine r_aload_n dX7_addHouse_37 rfl ?_
  refine r_getI dX7_addHouse_38 fl_X7_9 rfl s0 ?_
  try simp (disch := omega) only [am_up_s, am_up_n]
  rw [h0]
  refine r_aload_n dX7_addHouse_41 rfl ?_
  refine r_getI dX7_addHouse_42 fl_X7_32 rfl s0 ?_
  try simp (disch := omega) only [am_up_s, am_up_n]
  refine r_iast dX7_addHouse_45 s4 (nI_in8 8 (by omega) (by decide)) (nI_clamp (by omega)) ?_
  refine r_aload_n dX7_addHouse_46 rfl ?_
  refine r_getR dX7_addHouse_47 fl_X7_48 rfl s0 u11 ?_
  refine r_aload_n dX7_addHouse_50 rfl ?_
  refine r_getI dX7_addHouse_51 fl_X7_9 rfl s0 ?_
  try simp (disch := omega) only [am_up_s, am_up_n]
  rw [h0]
  refine r_aload_n dX7_addHouse_54 rfl ?_
  refine r_getI dX7_addHouse_55 fl_X7_45 rfl s0 ?_
  try simp (disch := omega) only [am_up_s, am_up_n]
  refine r_iast dX7_addHouse_58 s6 (nI_in8 8 (by omega) (by decide)) (nI_clamp (by omega)) ?_
  refine r_aload_n dX7_addHouse_59 rfl ?_
  refine r_getR dX7_addHouse_60 fl_X7_51 rfl s0 u12 ?_
  refine r_aload_n dX7_addHouse_63 rfl ?_
  refine r_getI dX7_addHouse_64 fl_X7_9 rfl s0 ?_
  try simp (disch := omega) only [am_up_s, am_up_n]
  rw [h0]
  refine r_aload_n dX7_addHouse_67 rfl ?_
  refine r_getI dX7_addHouse_68 fl_X7_45 rfl s0 ?_
  try simp (disch := omega) only [am_up_s, am_up_n]
  refine r_iast dX7_addHouse_71 s7 (nI_in8 8 (by omega) (by decide)) (nI_clamp (by omega)) ?_
  refine r_aload_n dX7_addHouse_72 rfl ?_
  refine r_dup dX7_addHouse_73 rfl ?_
  refine r_getI dX7_addHouse_74 fl_X7_9 rfl s0 ?_
  try simp (disch := omega) only [am_up_s, am_up_n]
  rw [h0]
  refine r_iconst (v := nI 1) dX7_addHouse_77 (by decide) ?_
  refine r_iadd dX7_addHouse_78 ?_
  rw [nI_add]
  refine r_putI dX7_addHouse_79 fl_X7_9 rfl rfl s0 ?_
  refine r_vret rfl dX7_addHouse_82 ?_
  refine ⟨rfl, rfl, rfl, rfl, rfl, fun a ha => ?_, ?_, fun j hj => ?_, ?_, ?_, ?_, ?_⟩
  · rw [am_up_n _ _ (by omega), am_up_n _ _ (by omega), am_up_n _ _ (by omega), am_up_n _ _ (by omega), am_up_n _ _ (by omega), am_up_n _ _ (by omega)]
  · rw [am_up_s, am_up_s]
  · rw [am_up_s, am_up_n _ _ hj, am_up_n _ _ (by omega), am_up_n _ _ (by omega), am_up_n _ _ (by omega), am_up_n _ _ (by omega), am_up_n _ _ (by omega)]
  all_goals simp (disch := omega) only [am_up_s, am_up_n]


set_option maxHeartbeats 4000000 in
set_option maxRecDepth 100000 in
theorem c_begin (s h c0 : Nat) {n : Nat} {kd : mK} {I : mI} {J : mJ} {P : mP} (hS : kS kd P s) (h0 : I s 0 = nI (h + 1)) (hh : h < 8) (hf : I (s + 3) h = nI c0) : Ct yX7_beginRiddle cX7_beginRiddle 2 none 1 0 0 [.ref s] n kd I J P (fun z n' kd' I' J' P' => z = .inl none ∧ n' = n ∧ kd' = kd ∧ J' = J ∧ P' = P ∧ (∀ a, (a < s ∨ s + 7 < a) → I' a = I a) ∧ I' s 0 = nI (h + 1) ∧ I' s 3 = I s 3 ||| nI (2 ^ h) ∧ I' s 6 = nI c0 ∧ (∀ j, j ≠ 3 → j ≠ 6 → I' s j = I s j) ∧ I' (s + 1) = va_up (I (s + 1)) h (nI 0) ∧ I' (s + 2) = I (s + 2) ∧ I' (s + 3) = I (s + 3) ∧ I' (s + 4) = va_up (I (s + 4)) h (nI c0)) := by
  obtain ⟨s0, s1, s2, s3, s4, s5, s6, s7, s8, s9, u4, u5, u7, u8, u9, u11, u12, u13, u14⟩ := id hS
  refine ct_of 1 (by decide +kernel) (Nat.le_of_ble_eq_true rfl) rfl ?_
  refine r_aload_n dX7_beginRiddle_0 rfl ?_
  refine r_getI dX7_beginRiddle_1 fl_X7_9 rfl s0 ?_
  try simp (disch := omega) only [am_up_s, am_up_n]
  rw [h0]
  refine r_iconst (v := nI 1) dX7_beginRiddle_4 (by decide) ?_
  refine r_icmp_ge (tgt := 9) dX7_beginRiddle_5 (by decide) (fun _ => ?_) (fun hz => absurd (show _ from (by rw [nI_leI (by omega) (by omega)]; omega)) hz)
  refine r_aload_n dX7_beginRiddle_9 rfl ?_
  refine r_getI dX7_beginRiddle_10 fl_X7_9 rfl s0 ?_
  try simp (disch := omega) only [am_up_s, am_up_n]
  rw [h0]
  refine r_iconst (v := nI 1) dX7_beginRiddle_13 (by decide) ?_
  refine r_isub dX7_beginRiddle_14 ?_
  rw [pk_sub (by omega), show h + 1 - 1 = h by omega]
  refine r_istore_n dX7_beginRiddle_15 (by decide) ?_
  refine r_aload_n dX7_beginRiddle_16 rfl ?_
  refine r_dup dX7_beginRiddle_17 rfl ?_
  refine r_getI dX7_beginRiddle_18 fl_X7_22 rfl s0 ?_
  try simp (disch := omega) only [am_up_s, am_up_n]
  refine r_iconst (v := nI 1) dX7_beginRiddle_21 (by decide) ?_
  refine r_iload_n dX7_beginRiddle_22 rfl ?_
  refine r_ishl dX7_beginRiddle_23 ?_
  rw [sh1_nI h (by omega)]
  refine r_ior dX7_beginRiddle_24 ?_
  refine r_putI dX7_beginRiddle_25 fl_X7_22 rfl rfl s0 ?_
  refine r_aload_n dX7_beginRiddle_28 rfl ?_
  refine r_getR dX7_beginRiddle_29 fl_X7_25 rfl s0 u4 ?_
  refine r_iload_n dX7_beginRiddle_32 rfl ?_
  refine r_iconst (v := nI 0) dX7_beginRiddle_33 (by decide) ?_
  refine r_iast dX7_beginRiddle_34 s1 (nI_in8 8 (by omega) (by decide)) (nI_clamp (by omega)) ?_
  refine r_aload_n dX7_beginRiddle_35 rfl ?_
  refine r_aload_n dX7_beginRiddle_36 rfl ?_
  refine r_getR dX7_beginRiddle_37 fl_X7_35 rfl s0 u7 ?_
  refine r_iload_n dX7_beginRiddle_40 rfl ?_
  refine r_iald dX7_beginRiddle_41 s3 (nI_in8 8 (by omega) (by decide)) (nI_clamp (by omega)) ?_
  try simp (disch := omega) only [am_up_s, am_up_n]
  rw [hf]
  refine r_putI dX7_beginRiddle_42 fl_X7_32 rfl rfl s0 ?_
  refine r_aload_n dX7_beginRiddle_45 rfl ?_
  refine r_getR dX7_beginRiddle_46 fl_X7_38 rfl s0 u8 ?_
  refine r_iload_n dX7_beginRiddle_49 rfl ?_
  refine r_aload_n dX7_beginRiddle_50 rfl ?_
  refine r_getI dX7_beginRiddle_51 fl_X7_32 rfl s0 ?_
  try simp (disch := omega) only [am_up_s, am_up_n]
  refine r_iast dX7_beginRiddle_54 s4 (nI_in8 8 (by omega) (by decide)) (nI_clamp (by omega)) ?_
  refine r_vret rfl dX7_beginRiddle_55 ?_
  refine ⟨rfl, rfl, rfl, rfl, rfl, fun a ha => ?_, ?_, ?_, ?_, fun j j3 j6 => ?_, ?_, ?_, ?_, ?_⟩
  · rw [am_up_n _ _ (by omega), am_up_n _ _ (by omega), am_up_n _ _ (by omega), am_up_n _ _ (by omega)]
  · simp (disch := omega) only [am_up_s, am_up_n]
    exact h0
  · simp (disch := omega) only [am_up_s, am_up_n]
  · simp (disch := omega) only [am_up_s, am_up_n]
  · simp (disch := omega) only [am_up_s, am_up_n]
  all_goals simp (disch := omega) only [am_up_s, am_up_n]

