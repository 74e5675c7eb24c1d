/-! BUILD: a code more, in the class -/

set_option maxHeartbeats 4000000 in
set_option maxRecDepth 100000 in
theorem c_code (s h k c : Nat) {n : Nat} {kd : mK} {I : mI} {J : mJ} {P : mP} (hS : kS kd P s) (h0 : I s 0 = nI (h + 1)) (hh : h < 8) (h6 : I s 6 = nI k) (hk : k < 520) (hc : c < 30000) : Ct yX7_addCode cX7_addCode 2 none 1 0 0 [.ref s, .int (nI c)] n kd I J P (fun z n' kd' I' J' P' => z = .inl none ∧ n' = n ∧ kd' = kd ∧ J' = J ∧ P' = P ∧ (∀ a, (a < s ∨ s + 7 < a) → I' a = I a) ∧ I' s 6 = nI (k + 1) ∧ (∀ j, j ≠ 6 → I' s j = I s j) ∧ I' (s + 1) = (if 10000 ≤ c ∧ c < 20000 then va_up (I (s + 1)) h (I (s + 1) h ||| (nI 1 <<< (nI (c - 10000) &&& 31))) else I (s + 1)) ∧ I' (s + 2) = va_up (I (s + 2)) k (nI c) ∧ I' (s + 3) = I (s + 3) ∧ I' (s + 4) = va_up (I (s + 4)) h (nI (k + 1))) := by
  obtain ⟨s0, s1, s2, s3, s4, s5, s6, s7, s8, s9, u4, u5, u7, u8, u9, u11, u12, u13, u14⟩ := id hS
  refine ct_of 0 (by decide +kernel) (Nat.le_of_ble_eq_true rfl) rfl ?_
  by_cases c1 : c < 10000
  · rw [if_neg (show ¬ (10000 ≤ c ∧ c < 20000) from fun q => by omega)]
    refine r_aload_n dX7_addCode_0 rfl ?_
    refine r_getI dX7_addCode_1 fl_X7_9 rfl s0 ?_
    try simp (disch := omega) only [am_up_s, am_up_n]
    rw [h0]
    refine r_iconst (v := nI 1) dX7_addCode_4 (by decide) ?_
    refine r_icmp_lt (tgt := 20) dX7_addCode_5 (by decide) (fun hz => absurd hz (show ¬ _ from (by rw [nI_ltI (by omega) (by omega)]; omega))) (fun _ => ?_)
    refine r_aload_n dX7_addCode_8 rfl ?_
    refine r_getI dX7_addCode_9 fl_X7_32 rfl s0 ?_
    try simp (disch := omega) only [am_up_s, am_up_n]
    try rw [h6]
    refine r_aload_n dX7_addCode_12 rfl ?_
    refine r_getR dX7_addCode_13 fl_X7_29 rfl s0 u5 ?_
    refine r_alen dX7_addCode_16 s2 (by decide) ?_
    refine r_icmp_lt (tgt := 21) dX7_addCode_17 (by decide) (fun _ => ?_) (fun hz => absurd (show _ from (by rw [nI_ltI (by omega) (by omega)]; omega)) hz)
    refine r_aload_n dX7_addCode_21 rfl ?_
    refine r_getR dX7_addCode_22 fl_X7_29 rfl s0 u5 ?_
    refine r_aload_n dX7_addCode_25 rfl ?_
    refine r_getI dX7_addCode_26 fl_X7_32 rfl s0 ?_
    try simp (disch := omega) only [am_up_s, am_up_n]
    try rw [h6]
    refine r_iload_n dX7_addCode_29 rfl ?_
    refine r_iast dX7_addCode_30 s2 (nI_in8 520 (by omega) (by decide)) (nI_clamp (by omega)) ?_
    refine r_aload_n dX7_addCode_31 rfl ?_
    refine r_dup dX7_addCode_32 rfl ?_
    refine r_getI dX7_addCode_33 fl_X7_32 rfl s0 ?_
    try simp (disch := omega) only [am_up_s, am_up_n]
    try rw [h6]
    refine r_iconst (v := nI 1) dX7_addCode_36 (by decide) ?_
    refine r_iadd dX7_addCode_37 ?_
    rw [nI_add]
    refine r_putI dX7_addCode_38 fl_X7_32 rfl rfl s0 ?_
    refine r_aload_n dX7_addCode_41 rfl ?_
    refine r_getR dX7_addCode_42 fl_X7_38 rfl s0 u8 ?_
    refine r_aload_n dX7_addCode_45 rfl ?_
    refine r_getI dX7_addCode_46 fl_X7_9 rfl s0 ?_
    try simp (disch := omega) only [am_up_s, am_up_n]
    rw [h0]
    refine r_iconst (v := nI 1) dX7_addCode_49 (by decide) ?_
    refine r_isub dX7_addCode_50 ?_
    rw [pk_sub (by omega), show h + 1 - 1 = h by omega]
    refine r_aload_n dX7_addCode_51 rfl ?_
    refine r_getI dX7_addCode_52 fl_X7_32 rfl s0 ?_
    try simp (disch := omega) only [am_up_s, am_up_n]
    try rw [h6]
    refine r_iast dX7_addCode_55 s4 (nI_in8 8 (by omega) (by decide)) (nI_clamp (by omega)) ?_
    refine r_iload_n dX7_addCode_56 rfl ?_
    refine r_sipush (v := nI 10000) dX7_addCode_57 (by decide) ?_
    refine r_icmp_lt (tgt := 91) dX7_addCode_60 (by decide) (fun _ => ?_) (fun hz => absurd (show _ from (by rw [nI_ltI (by omega) (by omega)]; omega)) hz)
    refine r_vret rfl dX7_addCode_91 ?_
    refine ⟨rfl, rfl, rfl, rfl, rfl, fun a ha => ?_, ?_, fun j j6 => ?_, ?_, ?_, ?_, ?_⟩
    · rw [am_up_n _ _ (by omega), am_up_n _ _ (by omega), am_up_n _ _ (by omega)]
    all_goals simp (disch := omega) only [am_up_s, am_up_n]
  · by_cases c2 : c < 20000
    · rw [if_pos (show 10000 ≤ c ∧ c < 20000 from ⟨by omega, c2⟩)]
      refine r_aload_n dX7_addCode_0 rfl ?_
      refine r_getI dX7_addCode_1 fl_X7_9 rfl s0 ?_
      try simp (disch := omega) only [am_up_s, am_up_n]
      rw [h0]
      refine r_iconst (v := nI 1) dX7_addCode_4 (by decide) ?_
      refine r_icmp_lt (tgt := 20) dX7_addCode_5 (by decide) (fun hz => absurd hz (show ¬ _ from (by rw [nI_ltI (by omega) (by omega)]; omega))) (fun _ => ?_)
      refine r_aload_n dX7_addCode_8 rfl ?_
      refine r_getI dX7_addCode_9 fl_X7_32 rfl s0 ?_
      try simp (disch := omega) only [am_up_s, am_up_n]
      try rw [h6]
      refine r_aload_n dX7_addCode_12 rfl ?_
      refine r_getR dX7_addCode_13 fl_X7_29 rfl s0 u5 ?_
      refine r_alen dX7_addCode_16 s2 (by decide) ?_
      refine r_icmp_lt (tgt := 21) dX7_addCode_17 (by decide) (fun _ => ?_) (fun hz => absurd (show _ from (by rw [nI_ltI (by omega) (by omega)]; omega)) hz)
      refine r_aload_n dX7_addCode_21 rfl ?_
      refine r_getR dX7_addCode_22 fl_X7_29 rfl s0 u5 ?_
      refine r_aload_n dX7_addCode_25 rfl ?_
      refine r_getI dX7_addCode_26 fl_X7_32 rfl s0 ?_
      try simp (disch := omega) only [am_up_s, am_up_n]
      try rw [h6]
      refine r_iload_n dX7_addCode_29 rfl ?_
      refine r_iast dX7_addCode_30 s2 (nI_in8 520 (by omega) (by decide)) (nI_clamp (by omega)) ?_
      refine r_aload_n dX7_addCode_31 rfl ?_
      refine r_dup dX7_addCode_32 rfl ?_
      refine r_getI dX7_addCode_33 fl_X7_32 rfl s0 ?_
      try simp (disch := omega) only [am_up_s, am_up_n]
      try rw [h6]
      refine r_iconst (v := nI 1) dX7_addCode_36 (by decide) ?_
      refine r_iadd dX7_addCode_37 ?_
      rw [nI_add]
      refine r_putI dX7_addCode_38 fl_X7_32 rfl rfl s0 ?_
      refine r_aload_n dX7_addCode_41 rfl ?_
      refine r_getR dX7_addCode_42 fl_X7_38 rfl s0 u8 ?_
      refine r_aload_n dX7_addCode_45 rfl ?_
      refine r_getI dX7_addCode_46 fl_X7_9 rfl s0 ?_
      try simp (disch := omega) only [am_up_s, am_up_n]
      rw [h0]
      refine r_iconst (v := nI 1) dX7_addCode_49 (by decide) ?_
      refine r_isub dX7_addCode_50 ?_
      rw [pk_sub (by omega), show h + 1 - 1 = h by omega]
      refine r_aload_n dX7_addCode_51 rfl ?_
      refine r_getI dX7_addCode_52 fl_X7_32 rfl s0 ?_
      try simp (disch := omega) only [am_up_s, am_up_n]
      try rw [h6]
      refine r_iast dX7_addCode_55 s4 (nI_in8 8 (by omega) (by decide)) (nI_clamp (by omega)) ?_
      refine r_iload_n dX7_addCode_56 rfl ?_
      refine r_sipush (v := nI 10000) dX7_addCode_57 (by decide) ?_
      refine r_icmp_lt (tgt := 91) dX7_addCode_60 (by decide) (fun hz => absurd hz (show ¬ _ from (by rw [nI_ltI (by omega) (by omega)]; omega))) (fun _ => ?_)
      refine r_iload_n dX7_addCode_63 rfl ?_
      refine r_sipush (v := nI 20000) dX7_addCode_64 (by decide) ?_
      refine r_icmp_ge (tgt := 91) dX7_addCode_67 (by decide) (fun hz => absurd hz (show ¬ _ from (by rw [nI_leI (by omega) (by omega)]; omega))) (fun _ => ?_)
      refine r_aload_n dX7_addCode_70 rfl ?_
      refine r_getR dX7_addCode_71 fl_X7_25 rfl s0 u4 ?_
      refine r_aload_n dX7_addCode_74 rfl ?_
      refine r_getI dX7_addCode_75 fl_X7_9 rfl s0 ?_
      try simp (disch := omega) only [am_up_s, am_up_n]
      rw [h0]
      refine r_iconst (v := nI 1) dX7_addCode_78 (by decide) ?_
      refine r_isub dX7_addCode_79 ?_
      rw [pk_sub (by omega), show h + 1 - 1 = h by omega]
      refine r_dup2 dX7_addCode_80 rfl rfl ?_
      refine r_iald dX7_addCode_81 s1 (nI_in8 8 (by omega) (by decide)) (nI_clamp (by omega)) ?_
      try simp (disch := omega) only [am_up_s, am_up_n]
      refine r_iconst (v := nI 1) dX7_addCode_82 (by decide) ?_
      refine r_iload_n dX7_addCode_83 rfl ?_
      refine r_sipush (v := nI 10000) dX7_addCode_84 (by decide) ?_
      refine r_isub dX7_addCode_87 ?_
      rw [pk_sub (by omega)]
      refine r_ishl dX7_addCode_88 ?_
      refine r_ior dX7_addCode_89 ?_
      refine r_iast dX7_addCode_90 s1 (nI_in8 8 (by omega) (by decide)) (nI_clamp (by omega)) ?_
      refine r_vret rfl dX7_addCode_91 ?_
      refine ⟨rfl, rfl, rfl, rfl, rfl, fun a ha => ?_, ?_, fun j j6 => ?_, ?_, ?_, ?_, ?_⟩
      · rw [am_up_n _ _ (by omega), am_up_n _ _ (by omega), am_up_n _ _ (by omega), am_up_n _ _ (by omega)]
      all_goals simp (disch := omega) only [am_up_s, am_up_n]
    · rw [if_neg (show ¬ (10000 ≤ c ∧ c < 20000) from fun q => by omega)]
      refine r_aload_n dX7_addCode_0 rfl ?_
      refine r_getI dX7_addCode_1 fl_X7_9 rfl s0 ?_
      try simp (disch := omega) only [am_up_s, am_up_n]
      rw [h0]
      refine r_iconst (v := nI 1) dX7_addCode_4 (by decide) ?_
      refine r_icmp_lt (tgt := 20) dX7_addCode_5 (by decide) (fun hz => absurd hz (show ¬ _ from (by rw [nI_ltI (by omega) (by omega)]; omega))) (fun _ => ?_)
      refine r_aload_n dX7_addCode_8 rfl ?_
      refine r_getI dX7_addCode_9 fl_X7_32 rfl s0 ?_
      try simp (disch := omega) only [am_up_s, am_up_n]
      try rw [h6]
      refine r_aload_n dX7_addCode_12 rfl ?_
      refine r_getR dX7_addCode_13 fl_X7_29 rfl s0 u5 ?_
      refine r_alen dX7_addCode_16 s2 (by decide) ?_
      refine r_icmp_lt (tgt := 21) dX7_addCode_17 (by decide) (fun _ => ?_) (fun hz => absurd (show _ from (by rw [nI_ltI (by omega) (by omega)]; omega)) hz)
      refine r_aload_n dX7_addCode_21 rfl ?_
      refine r_getR dX7_addCode_22 fl_X7_29 rfl s0 u5 ?_
      refine r_aload_n dX7_addCode_25 rfl ?_
      refine r_getI dX7_addCode_26 fl_X7_32 rfl s0 ?_
      try simp (disch := omega) only [am_up_s, am_up_n]
      try rw [h6]
      refine r_iload_n dX7_addCode_29 rfl ?_
      refine r_iast dX7_addCode_30 s2 (nI_in8 520 (by omega) (by decide)) (nI_clamp (by omega)) ?_
      refine r_aload_n dX7_addCode_31 rfl ?_
      refine r_dup dX7_addCode_32 rfl ?_
      refine r_getI dX7_addCode_33 fl_X7_32 rfl s0 ?_
      try simp (disch := omega) only [am_up_s, am_up_n]
      try rw [h6]
      refine r_iconst (v := nI 1) dX7_addCode_36 (by decide) ?_
      refine r_iadd dX7_addCode_37 ?_
      rw [nI_add]
      refine r_putI dX7_addCode_38 fl_X7_32 rfl rfl s0 ?_
      refine r_aload_n dX7_addCode_41 rfl ?_
      refine r_getR dX7_addCode_42 fl_X7_38 rfl s0 u8 ?_
      refine r_aload_n dX7_addCode_45 rfl ?_
      refine r_getI dX7_addCode_46 fl_X7_9 rfl s0 ?_
      try simp (disch := omega) only [am_up_s, am_up_n]
      rw [h0]
      refine r_iconst (v := nI 1) dX7_addCode_49 (by decide) ?_
      refine r_isub dX7_addCode_50 ?_
      rw [pk_sub (by omega), show h + 1 - 1 = h by omega]
      refine r_aload_n dX7_addCode_51 rfl ?_
      refine r_getI dX7_addCode_52 fl_X7_32 rfl s0 ?_
      try simp (disch := omega) only [am_up_s, am_up_n]
      try rw [h6]
      refine r_iast dX7_addCode_55 s4 (nI_in8 8 (by omega) (by decide)) (nI_clamp (by omega)) ?_
      refine r_iload_n dX7_addCode_56 rfl ?_
      refine r_sipush (v := nI 10000) dX7_addCode_57 (by decide) ?_
      refine r_icmp_lt (tgt := 91) dX7_addCode_60 (by decide) (fun hz => absurd hz (show ¬ _ from (by rw [nI_ltI (by omega) (by omega)]; omega))) (fun _ => ?_)
      refine r_iload_n dX7_addCode_63 rfl ?_
      refine r_sipush (v := nI 20000) dX7_addCode_64 (by decide) ?_
      refine r_icmp_ge (tgt := 91) dX7_addCode_67 (by decide) (fun _ => ?_) (fun hz => absurd (show _ from (by rw [nI_leI (by omega) (by omega)]; omega)) hz)
      refine r_vret rfl dX7_addCode_91 ?_
      refine ⟨rfl, rfl, rfl, rfl, rfl, fun a ha => ?_, ?_, fun j j6 => ?_, ?_, ?_, ?_, ?_⟩
      · rw [am_up_n _ _ (by omega), am_up_n _ _ (by omega), am_up_n _ _ (by omega)]
      all_goals simp (disch := omega) only [am_up_s, am_up_n]

