/-! STREET: a known word, in the reference -/
theorem dX10_knownWord_0 : decode cX10_knownWord 0 = .ok (.aload_n 0, 1) := by decide +kernel
theorem dX10_knownWord_1 : decode cX10_knownWord 1 = .ok (.getfield 226, 3) := by decide +kernel
theorem dX10_knownWord_4 : decode cX10_knownWord 4 = .ok (.iconst 1, 1) := by decide +kernel
theorem dX10_knownWord_5 : decode cX10_knownWord 5 = .ok (.if_icmp .ne 12, 3) := by decide +kernel
theorem dX10_knownWord_8 : decode cX10_knownWord 8 = .ok (.aload_n 0, 1) := by decide +kernel
theorem dX10_knownWord_9 : decode cX10_knownWord 9 = .ok (.getfield 236, 3) := by decide +kernel
theorem dX10_knownWord_12 : decode cX10_knownWord 12 = .ok (.bipush 6, 2) := by decide +kernel
theorem dX10_knownWord_14 : decode cX10_knownWord 14 = .ok (.if_icmp .le 5, 3) := by decide +kernel
theorem dX10_knownWord_17 : decode cX10_knownWord 17 = .ok (.iconst (-1), 1) := by decide +kernel
theorem dX10_knownWord_18 : decode cX10_knownWord 18 = .ok (.ireturn, 1) := by decide +kernel
theorem dX10_knownWord_19 : decode cX10_knownWord 19 = .ok (.iconst 0, 1) := by decide +kernel
theorem dX10_knownWord_20 : decode cX10_knownWord 20 = .ok (.istore_n 1, 1) := by decide +kernel
theorem dX10_knownWord_21 : decode cX10_knownWord 21 = .ok (.iload_n 1, 1) := by decide +kernel
theorem dX10_knownWord_22 : decode cX10_knownWord 22 = .ok (.bipush 13, 2) := by decide +kernel
theorem dX10_knownWord_24 : decode cX10_knownWord 24 = .ok (.if_icmp .ge 23, 3) := by decide +kernel
theorem dX10_knownWord_27 : decode cX10_knownWord 27 = .ok (.iload_n 1, 1) := by decide +kernel
theorem dX10_knownWord_28 : decode cX10_knownWord 28 = .ok (.invokestatic 245, 3) := by decide +kernel
theorem dX10_knownWord_31 : decode cX10_knownWord 31 = .ok (.aload_n 0, 1) := by decide +kernel
theorem dX10_knownWord_32 : decode cX10_knownWord 32 = .ok (.getfield 216, 3) := by decide +kernel
theorem dX10_knownWord_35 : decode cX10_knownWord 35 = .ok (.lcmp, 1) := by decide +kernel
theorem dX10_knownWord_36 : decode cX10_knownWord 36 = .ok (.ifCond .ne 5, 3) := by decide +kernel
theorem dX10_knownWord_39 : decode cX10_knownWord 39 = .ok (.iload_n 1, 1) := by decide +kernel
theorem dX10_knownWord_40 : decode cX10_knownWord 40 = .ok (.ireturn, 1) := by decide +kernel
theorem dX10_knownWord_41 : decode cX10_knownWord 41 = .ok (.iinc 1 1, 3) := by decide +kernel
theorem dX10_knownWord_44 : decode cX10_knownWord 44 = .ok (.goto (-23), 3) := by decide +kernel
theorem dX10_knownWord_47 : decode cX10_knownWord 47 = .ok (.iconst (-1), 1) := by decide +kernel
theorem dX10_knownWord_48 : decode cX10_knownWord 48 = .ok (.ireturn, 1) := by decide +kernel

set_option maxHeartbeats 4000000 in
set_option maxRecDepth 100000 in
theorem c_known (m : Nat) (v : Int32) {n : Nat} {kd : mK} {I : mI} {J : mJ} {P : mP} (hM : kM kd P m) (hv : v = (if I m 21 = nI 1 ∧ ¬ nI 6 < I m 23 then kwd (J m 26) else -1)) : Ct yX10_knownWord cX10_knownWord 2 (some .int) 3 0 0 [.ref m] n kd I J P (am_is (some (.int v)) n kd I J P) := by
  refine ct_of 1 (by decide +kernel) (Nat.le_of_ble_eq_true rfl) rfl ?_
  by_cases h1 : I m 21 = nI 1
  · by_cases h2 : nI 6 < I m 23
    · rw [if_neg (fun q => q.2 h2)] at hv
      subst hv
      refine r_aload_n dX10_knownWord_0 rfl ?_
      refine r_getI dX10_knownWord_1 fl_X10_226 rfl (kM_0 hM) ?_
      try simp (disch := omega) only [am_up_s, am_up_n, am_up_up]
      refine r_iconst (v := nI 1) dX10_knownWord_4 (by decide) ?_
      refine r_icmp_ne (tgt := 17) dX10_knownWord_5 (by decide) (fun hz => absurd (show _ from (by rw [h1])) hz) (fun _ => ?_)
      refine r_aload_n dX10_knownWord_8 rfl ?_
      refine r_getI dX10_knownWord_9 fl_X10_236 rfl (kM_0 hM) ?_
      try simp (disch := omega) only [am_up_s, am_up_n, am_up_up]
      refine r_bipush (v := nI 6) dX10_knownWord_12 (by decide) ?_
      refine r_icmp_le (tgt := 19) dX10_knownWord_14 (by decide) (fun hz => absurd hz (show ¬ _ from Int32.not_le.mpr h2)) (fun _ => ?_)
      refine r_iconst (v := (-1)) dX10_knownWord_17 (by decide) ?_
      refine r_iret rfl dX10_knownWord_18 ?_
      exact am_is.mk
    · rw [if_pos ⟨h1, h2⟩] at hv
      refine r_aload_n dX10_knownWord_0 rfl ?_
      refine r_getI dX10_knownWord_1 fl_X10_226 rfl (kM_0 hM) ?_
      try simp (disch := omega) only [am_up_s, am_up_n, am_up_up]
      refine r_iconst (v := nI 1) dX10_knownWord_4 (by decide) ?_
      refine r_icmp_ne (tgt := 17) dX10_knownWord_5 (by decide) (fun hz => absurd (show _ from (by rw [h1])) hz) (fun _ => ?_)
      refine r_aload_n dX10_knownWord_8 rfl ?_
      refine r_getI dX10_knownWord_9 fl_X10_236 rfl (kM_0 hM) ?_
      try simp (disch := omega) only [am_up_s, am_up_n, am_up_up]
      refine r_bipush (v := nI 6) dX10_knownWord_12 (by decide) ?_
      refine r_icmp_le (tgt := 19) dX10_knownWord_14 (by decide) (fun _ => ?_) (fun hz => absurd (show _ from Int32.not_lt.mp h2) hz)
      refine r_iconst (v := nI 0) dX10_knownWord_19 (by decide) ?_
      refine r_istore_n dX10_knownWord_20 (by decide) ?_
      by_cases w0 : J m 26 = 267845
      · have ek : v = nI 0 := by rw [hv]; unfold kwd; rw [if_pos w0]
        subst ek
        refine r_iload_n dX10_knownWord_21 rfl ?_
        refine r_bipush (v := nI 13) dX10_knownWord_22 (by decide) ?_
        refine r_icmp_ge (tgt := 47) dX10_knownWord_24 (by decide) (fun hz => absurd hz (show ¬ _ from (by decide))) (fun _ => ?_)
        refine r_iload_n dX10_knownWord_27 rfl ?_
        refine r_statE (c_letters_0) lk_X10_245 mc_X10_letters dX10_knownWord_28 (by decide) rfl rfl (Nat.le_of_ble_eq_true rfl) ?_
        refine r_aload_n dX10_knownWord_31 rfl ?_
        refine r_getJ dX10_knownWord_32 fl_X10_216 rfl (kM_0 hM) ?_
        try simp (disch := omega) only [am_up_s, am_up_n, am_up_up]
        refine r_lcmp dX10_knownWord_35 ?_
        refine r_if_ne (tgt := 41) dX10_knownWord_36 (by decide) (fun hz => absurd (show _ from (by rw [lg_cmp_eq, w0])) hz) (fun _ => ?_)
        refine r_iload_n dX10_knownWord_39 rfl ?_
        refine r_iret rfl dX10_knownWord_40 ?_
        exact am_is.mk
      refine r_iload_n dX10_knownWord_21 rfl ?_
      refine r_bipush (v := nI 13) dX10_knownWord_22 (by decide) ?_
      refine r_icmp_ge (tgt := 47) dX10_knownWord_24 (by decide) (fun hz => absurd hz (show ¬ _ from (by decide))) (fun _ => ?_)
      refine r_iload_n dX10_knownWord_27 rfl ?_
      refine r_statE (c_letters_0) lk_X10_245 mc_X10_letters dX10_knownWord_28 (by decide) rfl rfl (Nat.le_of_ble_eq_true rfl) ?_
      refine r_aload_n dX10_knownWord_31 rfl ?_
      refine r_getJ dX10_knownWord_32 fl_X10_216 rfl (kM_0 hM) ?_
      try simp (disch := omega) only [am_up_s, am_up_n, am_up_up]
      refine r_lcmp dX10_knownWord_35 ?_
      refine r_if_ne (tgt := 41) dX10_knownWord_36 (by decide) (fun _ => ?_) (fun hz => absurd hz (show ¬ _ from (by rw [lg_cmp_eq]; exact fun z => w0 z.symm)))
      refine r_iinc (v := nI 1) dX10_knownWord_41 rfl (nI_inc 0) ?_
      refine r_goto (tgt := 21) dX10_knownWord_44 (by decide) ?_
      by_cases w1 : J m 26 = 72564293
      · have ek : v = nI 1 := by rw [hv]; unfold kwd; rw [if_neg w0, if_pos w1]
        subst ek
        refine r_iload_n dX10_knownWord_21 rfl ?_
        refine r_bipush (v := nI 13) dX10_knownWord_22 (by decide) ?_
        refine r_icmp_ge (tgt := 47) dX10_knownWord_24 (by decide) (fun hz => absurd hz (show ¬ _ from (by decide))) (fun _ => ?_)
        refine r_iload_n dX10_knownWord_27 rfl ?_
        refine r_statE (c_letters_1) lk_X10_245 mc_X10_letters dX10_knownWord_28 (by decide) rfl rfl (Nat.le_of_ble_eq_true rfl) ?_
        refine r_aload_n dX10_knownWord_31 rfl ?_
        refine r_getJ dX10_knownWord_32 fl_X10_216 rfl (kM_0 hM) ?_
        try simp (disch := omega) only [am_up_s, am_up_n, am_up_up]
        refine r_lcmp dX10_knownWord_35 ?_
        refine r_if_ne (tgt := 41) dX10_knownWord_36 (by decide) (fun hz => absurd (show _ from (by rw [lg_cmp_eq, w1])) hz) (fun _ => ?_)
        refine r_iload_n dX10_knownWord_39 rfl ?_
        refine r_iret rfl dX10_knownWord_40 ?_
        exact am_is.mk
      refine r_iload_n dX10_knownWord_21 rfl ?_
      refine r_bipush (v := nI 13) dX10_knownWord_22 (by decide) ?_
      refine r_icmp_ge (tgt := 47) dX10_knownWord_24 (by decide) (fun hz => absurd hz (show ¬ _ from (by decide))) (fun _ => ?_)
      refine r_iload_n dX10_knownWord_27 rfl ?_
      refine r_statE (c_letters_1) lk_X10_245 mc_X10_letters dX10_knownWord_28 (by decide) rfl rfl (Nat.le_of_ble_eq_true rfl) ?_
      refine r_aload_n dX10_knownWord_31 rfl ?_
      refine r_getJ dX10_knownWord_32 fl_X10_216 rfl (kM_0 hM) ?_
      try simp (disch := omega) only [am_up_s, am_up_n, am_up_up]
      refine r_lcmp dX10_knownWord_35 ?_
      refine r_if_ne (tgt := 41) dX10_knownWord_36 (by decide) (fun _ => ?_) (fun hz => absurd hz (show ¬ _ from (by rw [lg_cmp_eq]; exact fun z => w1 z.symm)))
      refine r_iinc (v := nI 2) dX10_knownWord_41 rfl (nI_inc 1) ?_
      refine r_goto (tgt := 21) dX10_knownWord_44 (by decide) ?_
      by_cases w2 : J m 26 = 1265842
      · have ek : v = nI 2 := by rw [hv]; unfold kwd; rw [if_neg w0, if_neg w1, if_pos w2]
        subst ek
        refine r_iload_n dX10_knownWord_21 rfl ?_
        refine r_bipush (v := nI 13) dX10_knownWord_22 (by decide) ?_
        refine r_icmp_ge (tgt := 47) dX10_knownWord_24 (by decide) (fun hz => absurd hz (show ¬ _ from (by decide))) (fun _ => ?_)
        refine r_iload_n dX10_knownWord_27 rfl ?_
        refine r_statE (c_letters_2) lk_X10_245 mc_X10_letters dX10_knownWord_28 (by decide) rfl rfl (Nat.le_of_ble_eq_true rfl) ?_
        refine r_aload_n dX10_knownWord_31 rfl ?_
        refine r_getJ dX10_knownWord_32 fl_X10_216 rfl (kM_0 hM) ?_
        try simp (disch := omega) only [am_up_s, am_up_n, am_up_up]
        refine r_lcmp dX10_knownWord_35 ?_
        refine r_if_ne (tgt := 41) dX10_knownWord_36 (by decide) (fun hz => absurd (show _ from (by rw [lg_cmp_eq, w2])) hz) (fun _ => ?_)
        refine r_iload_n dX10_knownWord_39 rfl ?_
        refine r_iret rfl dX10_knownWord_40 ?_
        exact am_is.mk
      refine r_iload_n dX10_knownWord_21 rfl ?_
      refine r_bipush (v := nI 13) dX10_knownWord_22 (by decide) ?_
      refine r_icmp_ge (tgt := 47) dX10_knownWord_24 (by decide) (fun hz => absurd hz (show ¬ _ from (by decide))) (fun _ => ?_)
      refine r_iload_n dX10_knownWord_27 rfl ?_
      refine r_statE (c_letters_2) lk_X10_245 mc_X10_letters dX10_knownWord_28 (by decide) rfl rfl (Nat.le_of_ble_eq_true rfl) ?_
      refine r_aload_n dX10_knownWord_31 rfl ?_
      refine r_getJ dX10_knownWord_32 fl_X10_216 rfl (kM_0 hM) ?_
      try simp (disch := omega) only [am_up_s, am_up_n, am_up_up]
      refine r_lcmp dX10_knownWord_35 ?_
      refine r_if_ne (tgt := 41) dX10_knownWord_36 (by decide) (fun _ => ?_) (fun hz => absurd hz (show ¬ _ from (by rw [lg_cmp_eq]; exact fun z => w2 z.symm)))
      refine r_iinc (v := nI 3) dX10_knownWord_41 rfl (nI_inc 2) ?_
      refine r_goto (tgt := 21) dX10_knownWord_44 (by decide) ?_
      by_cases w3 : J m 26 = 638419
      · have ek : v = nI 3 := by rw [hv]; unfold kwd; rw [if_neg w0, if_neg w1, if_neg w2, if_pos w3]
        subst ek
        refine r_iload_n dX10_knownWord_21 rfl ?_
        refine r_bipush (v := nI 13) dX10_knownWord_22 (by decide) ?_
        refine r_icmp_ge (tgt := 47) dX10_knownWord_24 (by decide) (fun hz => absurd hz (show ¬ _ from (by decide))) (fun _ => ?_)
        refine r_iload_n dX10_knownWord_27 rfl ?_
        refine r_statE (c_letters_3) lk_X10_245 mc_X10_letters dX10_knownWord_28 (by decide) rfl rfl (Nat.le_of_ble_eq_true rfl) ?_
        refine r_aload_n dX10_knownWord_31 rfl ?_
        refine r_getJ dX10_knownWord_32 fl_X10_216 rfl (kM_0 hM) ?_
        try simp (disch := omega) only [am_up_s, am_up_n, am_up_up]
        refine r_lcmp dX10_knownWord_35 ?_
        refine r_if_ne (tgt := 41) dX10_knownWord_36 (by decide) (fun hz => absurd (show _ from (by rw [lg_cmp_eq, w3])) hz) (fun _ => ?_)
        refine r_iload_n dX10_knownWord_39 rfl ?_
        refine r_iret rfl dX10_knownWord_40 ?_
        exact am_is.mk
      refine r_iload_n dX10_knownWord_21 rfl ?_
      refine r_bipush (v := nI 13) dX10_knownWord_22 (by decide) ?_
      refine r_icmp_ge (tgt := 47) dX10_knownWord_24 (by decide) (fun hz => absurd hz (show ¬ _ from (by decide))) (fun _ => ?_)
      refine r_iload_n dX10_knownWord_27 rfl ?_
      refine r_statE (c_letters_3) lk_X10_245 mc_X10_letters dX10_knownWord_28 (by decide) rfl rfl (Nat.le_of_ble_eq_true rfl) ?_
      refine r_aload_n dX10_knownWord_31 rfl ?_
      refine r_getJ dX10_knownWord_32 fl_X10_216 rfl (kM_0 hM) ?_
      try simp (disch := omega) only [am_up_s, am_up_n, am_up_up]
      refine r_lcmp dX10_knownWord_35 ?_
      refine r_if_ne (tgt := 41) dX10_knownWord_36 (by decide) (fun _ => ?_) (fun hz => absurd hz (show ¬ _ from (by rw [lg_cmp_eq]; exact fun z => w3 z.symm)))
      refine r_iinc (v := nI 4) dX10_knownWord_41 rfl (nI_inc 3) ?_
      refine r_goto (tgt := 21) dX10_knownWord_44 (by decide) ?_
      by_cases w4 : J m 26 = 4360851
      · have ek : v = nI 4 := by rw [hv]; unfold kwd; rw [if_neg w0, if_neg w1, if_neg w2, if_neg w3, if_pos w4]
        subst ek
        refine r_iload_n dX10_knownWord_21 rfl ?_
        refine r_bipush (v := nI 13) dX10_knownWord_22 (by decide) ?_
        refine r_icmp_ge (tgt := 47) dX10_knownWord_24 (by decide) (fun hz => absurd hz (show ¬ _ from (by decide))) (fun _ => ?_)
        refine r_iload_n dX10_knownWord_27 rfl ?_
        refine r_statE (c_letters_4) lk_X10_245 mc_X10_letters dX10_knownWord_28 (by decide) rfl rfl (Nat.le_of_ble_eq_true rfl) ?_
        refine r_aload_n dX10_knownWord_31 rfl ?_
        refine r_getJ dX10_knownWord_32 fl_X10_216 rfl (kM_0 hM) ?_
        try simp (disch := omega) only [am_up_s, am_up_n, am_up_up]
        refine r_lcmp dX10_knownWord_35 ?_
        refine r_if_ne (tgt := 41) dX10_knownWord_36 (by decide) (fun hz => absurd (show _ from (by rw [lg_cmp_eq, w4])) hz) (fun _ => ?_)
        refine r_iload_n dX10_knownWord_39 rfl ?_
        refine r_iret rfl dX10_knownWord_40 ?_
        exact am_is.mk
      refine r_iload_n dX10_knownWord_21 rfl ?_
      refine r_bipush (v := nI 13) dX10_knownWord_22 (by decide) ?_
      refine r_icmp_ge (tgt := 47) dX10_knownWord_24 (by decide) (fun hz => absurd hz (show ¬ _ from (by decide))) (fun _ => ?_)
      refine r_iload_n dX10_knownWord_27 rfl ?_
      refine r_statE (c_letters_4) lk_X10_245 mc_X10_letters dX10_knownWord_28 (by decide) rfl rfl (Nat.le_of_ble_eq_true rfl) ?_
      refine r_aload_n dX10_knownWord_31 rfl ?_
      refine r_getJ dX10_knownWord_32 fl_X10_216 rfl (kM_0 hM) ?_
      try simp (disch := omega) only [am_up_s, am_up_n, am_up_up]
      refine r_lcmp dX10_knownWord_35 ?_
      refine r_if_ne (tgt := 41) dX10_knownWord_36 (by decide) (fun _ => ?_) (fun hz => absurd hz (show ¬ _ from (by rw [lg_cmp_eq]; exact fun z => w4 z.symm)))
      refine r_iinc (v := nI 5) dX10_knownWord_41 rfl (nI_inc 4) ?_
      refine r_goto (tgt := 21) dX10_knownWord_44 (by decide) ?_
      by_cases w5 : J m 26 = 441972
      · have ek : v = nI 5 := by rw [hv]; unfold kwd; rw [if_neg w0, if_neg w1, if_neg w2, if_neg w3, if_neg w4, if_pos w5]
        subst ek
        refine r_iload_n dX10_knownWord_21 rfl ?_
        refine r_bipush (v := nI 13) dX10_knownWord_22 (by decide) ?_
        refine r_icmp_ge (tgt := 47) dX10_knownWord_24 (by decide) (fun hz => absurd hz (show ¬ _ from (by decide))) (fun _ => ?_)
        refine r_iload_n dX10_knownWord_27 rfl ?_
        refine r_statE (c_letters_5) lk_X10_245 mc_X10_letters dX10_knownWord_28 (by decide) rfl rfl (Nat.le_of_ble_eq_true rfl) ?_
        refine r_aload_n dX10_knownWord_31 rfl ?_
        refine r_getJ dX10_knownWord_32 fl_X10_216 rfl (kM_0 hM) ?_
        try simp (disch := omega) only [am_up_s, am_up_n, am_up_up]
        refine r_lcmp dX10_knownWord_35 ?_
        refine r_if_ne (tgt := 41) dX10_knownWord_36 (by decide) (fun hz => absurd (show _ from (by rw [lg_cmp_eq, w5])) hz) (fun _ => ?_)
        refine r_iload_n dX10_knownWord_39 rfl ?_
        refine r_iret rfl dX10_knownWord_40 ?_
        exact am_is.mk
      refine r_iload_n dX10_knownWord_21 rfl ?_
      refine r_bipush (v := nI 13) dX10_knownWord_22 (by decide) ?_
      refine r_icmp_ge (tgt := 47) dX10_knownWord_24 (by decide) (fun hz => absurd hz (show ¬ _ from (by decide))) (fun _ => ?_)
      refine r_iload_n dX10_knownWord_27 rfl ?_
      refine r_statE (c_letters_5) lk_X10_245 mc_X10_letters dX10_knownWord_28 (by decide) rfl rfl (Nat.le_of_ble_eq_true rfl) ?_
      refine r_aload_n dX10_knownWord_31 rfl ?_
      refine r_getJ dX10_knownWord_32 fl_X10_216 rfl (kM_0 hM) ?_
      try simp (disch := omega) only [am_up_s, am_up_n, am_up_up]
      refine r_lcmp dX10_knownWord_35 ?_
      refine r_if_ne (tgt := 41) dX10_knownWord_36 (by decide) (fun _ => ?_) (fun hz => absurd hz (show ¬ _ from (by rw [lg_cmp_eq]; exact fun z => w5 z.symm)))
      refine r_iinc (v := nI 6) dX10_knownWord_41 rfl (nI_inc 5) ?_
      refine r_goto (tgt := 21) dX10_knownWord_44 (by decide) ?_
      by_cases w6 : J m 26 = 486
      · have ek : v = nI 6 := by rw [hv]; unfold kwd; rw [if_neg w0, if_neg w1, if_neg w2, if_neg w3, if_neg w4, if_neg w5, if_pos w6]
        subst ek
        refine r_iload_n dX10_knownWord_21 rfl ?_
        refine r_bipush (v := nI 13) dX10_knownWord_22 (by decide) ?_
        refine r_icmp_ge (tgt := 47) dX10_knownWord_24 (by decide) (fun hz => absurd hz (show ¬ _ from (by decide))) (fun _ => ?_)
        refine r_iload_n dX10_knownWord_27 rfl ?_
        refine r_statE (c_letters_6) lk_X10_245 mc_X10_letters dX10_knownWord_28 (by decide) rfl rfl (Nat.le_of_ble_eq_true rfl) ?_
        refine r_aload_n dX10_knownWord_31 rfl ?_
        refine r_getJ dX10_knownWord_32 fl_X10_216 rfl (kM_0 hM) ?_
        try simp (disch := omega) only [am_up_s, am_up_n, am_up_up]
        refine r_lcmp dX10_knownWord_35 ?_
        refine r_if_ne (tgt := 41) dX10_knownWord_36 (by decide) (fun hz => absurd (show _ from (by rw [lg_cmp_eq, w6])) hz) (fun _ => ?_)
        refine r_iload_n dX10_knownWord_39 rfl ?_
        refine r_iret rfl dX10_knownWord_40 ?_
        exact am_is.mk
      refine r_iload_n dX10_knownWord_21 rfl ?_
      refine r_bipush (v := nI 13) dX10_knownWord_22 (by decide) ?_
      refine r_icmp_ge (tgt := 47) dX10_knownWord_24 (by decide) (fun hz => absurd hz (show ¬ _ from (by decide))) (fun _ => ?_)
      refine r_iload_n dX10_knownWord_27 rfl ?_
      refine r_statE (c_letters_6) lk_X10_245 mc_X10_letters dX10_knownWord_28 (by decide) rfl rfl (Nat.le_of_ble_eq_true rfl) ?_
      refine r_aload_n dX10_knownWord_31 rfl ?_
      refine r_getJ dX10_knownWord_32 fl_X10_216 rfl (kM_0 hM) ?_
      try simp (disch := omega) only [am_up_s, am_up_n, am_up_up]
      refine r_lcmp dX10_knownWord_35 ?_
      refine r_if_ne (tgt := 41) dX10_knownWord_36 (by decide) (fun _ => ?_) (fun hz => absurd hz (show ¬ _ from (by rw [lg_cmp_eq]; exact fun z => w6 z.symm)))
      refine r_iinc (v := nI 7) dX10_knownWord_41 rfl (nI_inc 6) ?_
      refine r_goto (tgt := 21) dX10_knownWord_44 (by decide) ?_
      by_cases w7 : J m 26 = 719725925
      · have ek : v = nI 7 := by rw [hv]; unfold kwd; rw [if_neg w0, if_neg w1, if_neg w2, if_neg w3, if_neg w4, if_neg w5, if_neg w6, if_pos w7]
        subst ek
        refine r_iload_n dX10_knownWord_21 rfl ?_
        refine r_bipush (v := nI 13) dX10_knownWord_22 (by decide) ?_
        refine r_icmp_ge (tgt := 47) dX10_knownWord_24 (by decide) (fun hz => absurd hz (show ¬ _ from (by decide))) (fun _ => ?_)
        refine r_iload_n dX10_knownWord_27 rfl ?_
        refine r_statE (c_letters_7) lk_X10_245 mc_X10_letters dX10_knownWord_28 (by decide) rfl rfl (Nat.le_of_ble_eq_true rfl) ?_
        refine r_aload_n dX10_knownWord_31 rfl ?_
        refine r_getJ dX10_knownWord_32 fl_X10_216 rfl (kM_0 hM) ?_
        try simp (disch := omega) only [am_up_s, am_up_n, am_up_up]
        refine r_lcmp dX10_knownWord_35 ?_
        refine r_if_ne (tgt := 41) dX10_knownWord_36 (by decide) (fun hz => absurd (show _ from (by rw [lg_cmp_eq, w7])) hz) (fun _ => ?_)
        refine r_iload_n dX10_knownWord_39 rfl ?_
        refine r_iret rfl dX10_knownWord_40 ?_
        exact am_is.mk
      refine r_iload_n dX10_knownWord_21 rfl ?_
      refine r_bipush (v := nI 13) dX10_knownWord_22 (by decide) ?_
      refine r_icmp_ge (tgt := 47) dX10_knownWord_24 (by decide) (fun hz => absurd hz (show ¬ _ from (by decide))) (fun _ => ?_)
      refine r_iload_n dX10_knownWord_27 rfl ?_
      refine r_statE (c_letters_7) lk_X10_245 mc_X10_letters dX10_knownWord_28 (by decide) rfl rfl (Nat.le_of_ble_eq_true rfl) ?_
      refine r_aload_n dX10_knownWord_31 rfl ?_
      refine r_getJ dX10_knownWord_32 fl_X10_216 rfl (kM_0 hM) ?_
      try simp (disch := omega) only [am_up_s, am_up_n, am_up_up]
      refine r_lcmp dX10_knownWord_35 ?_
      refine r_if_ne (tgt := 41) dX10_knownWord_36 (by decide) (fun _ => ?_) (fun hz => absurd hz (show ¬ _ from (by rw [lg_cmp_eq]; exact fun z => w7 z.symm)))
      refine r_iinc (v := nI 8) dX10_knownWord_41 rfl (nI_inc 7) ?_
      refine r_goto (tgt := 21) dX10_knownWord_44 (by decide) ?_
      by_cases w8 : J m 26 = 8902245
      · have ek : v = nI 8 := by rw [hv]; unfold kwd; rw [if_neg w0, if_neg w1, if_neg w2, if_neg w3, if_neg w4, if_neg w5, if_neg w6, if_neg w7, if_pos w8]
        subst ek
        refine r_iload_n dX10_knownWord_21 rfl ?_
        refine r_bipush (v := nI 13) dX10_knownWord_22 (by decide) ?_
        refine r_icmp_ge (tgt := 47) dX10_knownWord_24 (by decide) (fun hz => absurd hz (show ¬ _ from (by decide))) (fun _ => ?_)
        refine r_iload_n dX10_knownWord_27 rfl ?_
        refine r_statE (c_letters_8) lk_X10_245 mc_X10_letters dX10_knownWord_28 (by decide) rfl rfl (Nat.le_of_ble_eq_true rfl) ?_
        refine r_aload_n dX10_knownWord_31 rfl ?_
        refine r_getJ dX10_knownWord_32 fl_X10_216 rfl (kM_0 hM) ?_
        try simp (disch := omega) only [am_up_s, am_up_n, am_up_up]
        refine r_lcmp dX10_knownWord_35 ?_
        refine r_if_ne (tgt := 41) dX10_knownWord_36 (by decide) (fun hz => absurd (show _ from (by rw [lg_cmp_eq, w8])) hz) (fun _ => ?_)
        refine r_iload_n dX10_knownWord_39 rfl ?_
        refine r_iret rfl dX10_knownWord_40 ?_
        exact am_is.mk
      refine r_iload_n dX10_knownWord_21 rfl ?_
      refine r_bipush (v := nI 13) dX10_knownWord_22 (by decide) ?_
      refine r_icmp_ge (tgt := 47) dX10_knownWord_24 (by decide) (fun hz => absurd hz (show ¬ _ from (by decide))) (fun _ => ?_)
      refine r_iload_n dX10_knownWord_27 rfl ?_
      refine r_statE (c_letters_8) lk_X10_245 mc_X10_letters dX10_knownWord_28 (by decide) rfl rfl (Nat.le_of_ble_eq_true rfl) ?_
      refine r_aload_n dX10_knownWord_31 rfl ?_
      refine r_getJ dX10_knownWord_32 fl_X10_216 rfl (kM_0 hM) ?_
      try simp (disch := omega) only [am_up_s, am_up_n, am_up_up]
      refine r_lcmp dX10_knownWord_35 ?_
      refine r_if_ne (tgt := 41) dX10_knownWord_36 (by decide) (fun _ => ?_) (fun hz => absurd hz (show ¬ _ from (by rw [lg_cmp_eq]; exact fun z => w8 z.symm)))
      refine r_iinc (v := nI 9) dX10_knownWord_41 rfl (nI_inc 8) ?_
      refine r_goto (tgt := 21) dX10_knownWord_44 (by decide) ?_
      by_cases w9 : J m 26 = 624435
      · have ek : v = nI 9 := by rw [hv]; unfold kwd; rw [if_neg w0, if_neg w1, if_neg w2, if_neg w3, if_neg w4, if_neg w5, if_neg w6, if_neg w7, if_neg w8, if_pos w9]
        subst ek
        refine r_iload_n dX10_knownWord_21 rfl ?_
        refine r_bipush (v := nI 13) dX10_knownWord_22 (by decide) ?_
        refine r_icmp_ge (tgt := 47) dX10_knownWord_24 (by decide) (fun hz => absurd hz (show ¬ _ from (by decide))) (fun _ => ?_)
        refine r_iload_n dX10_knownWord_27 rfl ?_
        refine r_statE (c_letters_9) lk_X10_245 mc_X10_letters dX10_knownWord_28 (by decide) rfl rfl (Nat.le_of_ble_eq_true rfl) ?_
        refine r_aload_n dX10_knownWord_31 rfl ?_
        refine r_getJ dX10_knownWord_32 fl_X10_216 rfl (kM_0 hM) ?_
        try simp (disch := omega) only [am_up_s, am_up_n, am_up_up]
        refine r_lcmp dX10_knownWord_35 ?_
        refine r_if_ne (tgt := 41) dX10_knownWord_36 (by decide) (fun hz => absurd (show _ from (by rw [lg_cmp_eq, w9])) hz) (fun _ => ?_)
        refine r_iload_n dX10_knownWord_39 rfl ?_
        refine r_iret rfl dX10_knownWord_40 ?_
        exact am_is.mk
      refine r_iload_n dX10_knownWord_21 rfl ?_
      refine r_bipush (v := nI 13) dX10_knownWord_22 (by decide) ?_
      refine r_icmp_ge (tgt := 47) dX10_knownWord_24 (by decide) (fun hz => absurd hz (show ¬ _ from (by decide))) (fun _ => ?_)
      refine r_iload_n dX10_knownWord_27 rfl ?_
      refine r_statE (c_letters_9) lk_X10_245 mc_X10_letters dX10_knownWord_28 (by decide) rfl rfl (Nat.le_of_ble_eq_true rfl) ?_
      refine r_aload_n dX10_knownWord_31 rfl ?_
      refine r_getJ dX10_knownWord_32 fl_X10_216 rfl (kM_0 hM) ?_
      try simp (disch := omega) only [am_up_s, am_up_n, am_up_up]
      refine r_lcmp dX10_knownWord_35 ?_
      refine r_if_ne (tgt := 41) dX10_knownWord_36 (by decide) (fun _ => ?_) (fun hz => absurd hz (show ¬ _ from (by rw [lg_cmp_eq]; exact fun z => w9 z.symm)))
      refine r_iinc (v := nI 10) dX10_knownWord_41 rfl (nI_inc 9) ?_
      refine r_goto (tgt := 21) dX10_knownWord_44 (by decide) ?_
      by_cases w10 : J m 26 = 1476
      · have ek : v = nI 10 := by rw [hv]; unfold kwd; rw [if_neg w0, if_neg w1, if_neg w2, if_neg w3, if_neg w4, if_neg w5, if_neg w6, if_neg w7, if_neg w8, if_neg w9, if_pos w10]
        subst ek
        refine r_iload_n dX10_knownWord_21 rfl ?_
        refine r_bipush (v := nI 13) dX10_knownWord_22 (by decide) ?_
        refine r_icmp_ge (tgt := 47) dX10_knownWord_24 (by decide) (fun hz => absurd hz (show ¬ _ from (by decide))) (fun _ => ?_)
        refine r_iload_n dX10_knownWord_27 rfl ?_
        refine r_statE (c_letters_10) lk_X10_245 mc_X10_letters dX10_knownWord_28 (by decide) rfl rfl (Nat.le_of_ble_eq_true rfl) ?_
        refine r_aload_n dX10_knownWord_31 rfl ?_
        refine r_getJ dX10_knownWord_32 fl_X10_216 rfl (kM_0 hM) ?_
        try simp (disch := omega) only [am_up_s, am_up_n, am_up_up]
        refine r_lcmp dX10_knownWord_35 ?_
        refine r_if_ne (tgt := 41) dX10_knownWord_36 (by decide) (fun hz => absurd (show _ from (by rw [lg_cmp_eq, w10])) hz) (fun _ => ?_)
        refine r_iload_n dX10_knownWord_39 rfl ?_
        refine r_iret rfl dX10_knownWord_40 ?_
        exact am_is.mk
      refine r_iload_n dX10_knownWord_21 rfl ?_
      refine r_bipush (v := nI 13) dX10_knownWord_22 (by decide) ?_
      refine r_icmp_ge (tgt := 47) dX10_knownWord_24 (by decide) (fun hz => absurd hz (show ¬ _ from (by decide))) (fun _ => ?_)
      refine r_iload_n dX10_knownWord_27 rfl ?_
      refine r_statE (c_letters_10) lk_X10_245 mc_X10_letters dX10_knownWord_28 (by decide) rfl rfl (Nat.le_of_ble_eq_true rfl) ?_
      refine r_aload_n dX10_knownWord_31 rfl ?_
      refine r_getJ dX10_knownWord_32 fl_X10_216 rfl (kM_0 hM) ?_
      try simp (disch := omega) only [am_up_s, am_up_n, am_up_up]
      refine r_lcmp dX10_knownWord_35 ?_
      refine r_if_ne (tgt := 41) dX10_knownWord_36 (by decide) (fun _ => ?_) (fun hz => absurd hz (show ¬ _ from (by rw [lg_cmp_eq]; exact fun z => w10 z.symm)))
      refine r_iinc (v := nI 11) dX10_knownWord_41 rfl (nI_inc 10) ?_
      refine r_goto (tgt := 21) dX10_knownWord_44 (by decide) ?_
      by_cases w11 : J m 26 = 498
      · have ek : v = nI 11 := by rw [hv]; unfold kwd; rw [if_neg w0, if_neg w1, if_neg w2, if_neg w3, if_neg w4, if_neg w5, if_neg w6, if_neg w7, if_neg w8, if_neg w9, if_neg w10, if_pos w11]
        subst ek
        refine r_iload_n dX10_knownWord_21 rfl ?_
        refine r_bipush (v := nI 13) dX10_knownWord_22 (by decide) ?_
        refine r_icmp_ge (tgt := 47) dX10_knownWord_24 (by decide) (fun hz => absurd hz (show ¬ _ from (by decide))) (fun _ => ?_)
        refine r_iload_n dX10_knownWord_27 rfl ?_
        refine r_statE (c_letters_11) lk_X10_245 mc_X10_letters dX10_knownWord_28 (by decide) rfl rfl (Nat.le_of_ble_eq_true rfl) ?_
        refine r_aload_n dX10_knownWord_31 rfl ?_
        refine r_getJ dX10_knownWord_32 fl_X10_216 rfl (kM_0 hM) ?_
        try simp (disch := omega) only [am_up_s, am_up_n, am_up_up]
        refine r_lcmp dX10_knownWord_35 ?_
        refine r_if_ne (tgt := 41) dX10_knownWord_36 (by decide) (fun hz => absurd (show _ from (by rw [lg_cmp_eq, w11])) hz) (fun _ => ?_)
        refine r_iload_n dX10_knownWord_39 rfl ?_
        refine r_iret rfl dX10_knownWord_40 ?_
        exact am_is.mk
      refine r_iload_n dX10_knownWord_21 rfl ?_
      refine r_bipush (v := nI 13) dX10_knownWord_22 (by decide) ?_
      refine r_icmp_ge (tgt := 47) dX10_knownWord_24 (by decide) (fun hz => absurd hz (show ¬ _ from (by decide))) (fun _ => ?_)
      refine r_iload_n dX10_knownWord_27 rfl ?_
      refine r_statE (c_letters_11) lk_X10_245 mc_X10_letters dX10_knownWord_28 (by decide) rfl rfl (Nat.le_of_ble_eq_true rfl) ?_
      refine r_aload_n dX10_knownWord_31 rfl ?_
      refine r_getJ dX10_knownWord_32 fl_X10_216 rfl (kM_0 hM) ?_
      try simp (disch := omega) only [am_up_s, am_up_n, am_up_up]
      refine r_lcmp dX10_knownWord_35 ?_
      refine r_if_ne (tgt := 41) dX10_knownWord_36 (by decide) (fun _ => ?_) (fun hz => absurd hz (show ¬ _ from (by rw [lg_cmp_eq]; exact fun z => w11 z.symm)))
      refine r_iinc (v := nI 12) dX10_knownWord_41 rfl (nI_inc 11) ?_
      refine r_goto (tgt := 21) dX10_knownWord_44 (by decide) ?_
      by_cases w12 : J m 26 = 14836
      · have ek : v = nI 12 := by rw [hv]; unfold kwd; rw [if_neg w0, if_neg w1, if_neg w2, if_neg w3, if_neg w4, if_neg w5, if_neg w6, if_neg w7, if_neg w8, if_neg w9, if_neg w10, if_neg w11, if_pos w12]
        subst ek
        refine r_iload_n dX10_knownWord_21 rfl ?_
        refine r_bipush (v := nI 13) dX10_knownWord_22 (by decide) ?_
        refine r_icmp_ge (tgt := 47) dX10_knownWord_24 (by decide) (fun hz => absurd hz (show ¬ _ from (by decide))) (fun _ => ?_)
        refine r_iload_n dX10_knownWord_27 rfl ?_
        refine r_statE (c_letters_12) lk_X10_245 mc_X10_letters dX10_knownWord_28 (by decide) rfl rfl (Nat.le_of_ble_eq_true rfl) ?_
        refine r_aload_n dX10_knownWord_31 rfl ?_
        refine r_getJ dX10_knownWord_32 fl_X10_216 rfl (kM_0 hM) ?_
        try simp (disch := omega) only [am_up_s, am_up_n, am_up_up]
        refine r_lcmp dX10_knownWord_35 ?_
        refine r_if_ne (tgt := 41) dX10_knownWord_36 (by decide) (fun hz => absurd (show _ from (by rw [lg_cmp_eq, w12])) hz) (fun _ => ?_)
        refine r_iload_n dX10_knownWord_39 rfl ?_
        refine r_iret rfl dX10_knownWord_40 ?_
        exact am_is.mk
      refine r_iload_n dX10_knownWord_21 rfl ?_
      refine r_bipush (v := nI 13) dX10_knownWord_22 (by decide) ?_
      refine r_icmp_ge (tgt := 47) dX10_knownWord_24 (by decide) (fun hz => absurd hz (show ¬ _ from (by decide))) (fun _ => ?_)
      refine r_iload_n dX10_knownWord_27 rfl ?_
      refine r_statE (c_letters_12) lk_X10_245 mc_X10_letters dX10_knownWord_28 (by decide) rfl rfl (Nat.le_of_ble_eq_true rfl) ?_
      refine r_aload_n dX10_knownWord_31 rfl ?_
      refine r_getJ dX10_knownWord_32 fl_X10_216 rfl (kM_0 hM) ?_
      try simp (disch := omega) only [am_up_s, am_up_n, am_up_up]
      refine r_lcmp dX10_knownWord_35 ?_
      refine r_if_ne (tgt := 41) dX10_knownWord_36 (by decide) (fun _ => ?_) (fun hz => absurd hz (show ¬ _ from (by rw [lg_cmp_eq]; exact fun z => w12 z.symm)))
      refine r_iinc (v := nI 13) dX10_knownWord_41 rfl (nI_inc 12) ?_
      refine r_goto (tgt := 21) dX10_knownWord_44 (by decide) ?_
      have ek : v = -1 := by rw [hv]; unfold kwd; rw [if_neg w0, if_neg w1, if_neg w2, if_neg w3, if_neg w4, if_neg w5, if_neg w6, if_neg w7, if_neg w8, if_neg w9, if_neg w10, if_neg w11, if_neg w12]
      subst ek
      refine r_iload_n dX10_knownWord_21 rfl ?_
      refine r_bipush (v := nI 13) dX10_knownWord_22 (by decide) ?_
      refine r_icmp_ge (tgt := 47) dX10_knownWord_24 (by decide) (fun _ => ?_) (fun hz => absurd (show _ from (by decide)) hz)
      refine r_iconst (v := (-1)) dX10_knownWord_47 (by decide) ?_
      refine r_iret rfl dX10_knownWord_48 ?_
      exact am_is.mk
  · rw [if_neg (fun q => h1 q.1)] at hv
    subst hv
    refine r_aload_n dX10_knownWord_0 rfl ?_
    refine r_getI dX10_knownWord_1 fl_X10_226 rfl (kM_0 hM) ?_
    try simp (disch := omega) only [am_up_s, am_up_n, am_up_up]
    refine r_iconst (v := nI 1) dX10_knownWord_4 (by decide) ?_
    refine r_icmp_ne (tgt := 17) dX10_knownWord_5 (by decide) (fun _ => ?_) (fun hz => absurd hz (show ¬ _ from h1))
    refine r_iconst (v := (-1)) dX10_knownWord_17 (by decide) ?_
    refine r_iret rfl dX10_knownWord_18 ?_
    exact am_is.mk

