/-! A TOKEN IS WRITTEN DOWN -/
theorem dX7_addToken_0 : decode cX7_addToken 0 = .ok (.aload_n 0, 1) := by decide +kernel
theorem dX7_addToken_1 : decode cX7_addToken 1 = .ok (.getfield 9, 3) := by decide +kernel
theorem dX7_addToken_4 : decode cX7_addToken 4 = .ok (.iconst 1, 1) := by decide +kernel
theorem dX7_addToken_5 : decode cX7_addToken 5 = .ok (.if_icmp .lt 34, 3) := by decide +kernel
theorem dX7_addToken_8 : decode cX7_addToken 8 = .ok (.iload_n 2, 1) := by decide +kernel
theorem dX7_addToken_9 : decode cX7_addToken 9 = .ok (.ifCond .lt 30, 3) := by decide +kernel
theorem dX7_addToken_12 : decode cX7_addToken 12 = .ok (.iload_n 3, 1) := by decide +kernel
theorem dX7_addToken_13 : decode cX7_addToken 13 = .ok (.aload_n 1, 1) := by decide +kernel
theorem dX7_addToken_14 : decode cX7_addToken 14 = .ok (.arraylength, 1) := by decide +kernel
theorem dX7_addToken_15 : decode cX7_addToken 15 = .ok (.if_icmp .gt 24, 3) := by decide +kernel
theorem dX7_addToken_18 : decode cX7_addToken 18 = .ok (.iload_n 2, 1) := by decide +kernel
theorem dX7_addToken_19 : decode cX7_addToken 19 = .ok (.iload_n 3, 1) := by decide +kernel
theorem dX7_addToken_20 : decode cX7_addToken 20 = .ok (.if_icmp .ge 19, 3) := by decide +kernel
theorem dX7_addToken_23 : decode cX7_addToken 23 = .ok (.aload_n 0, 1) := by decide +kernel
theorem dX7_addToken_24 : decode cX7_addToken 24 = .ok (.getfield 45, 3) := by decide +kernel
theorem dX7_addToken_27 : decode cX7_addToken 27 = .ok (.iload_n 3, 1) := by decide +kernel
theorem dX7_addToken_28 : decode cX7_addToken 28 = .ok (.iadd, 1) := by decide +kernel
theorem dX7_addToken_29 : decode cX7_addToken 29 = .ok (.iload_n 2, 1) := by decide +kernel
theorem dX7_addToken_30 : decode cX7_addToken 30 = .ok (.isub, 1) := by decide +kernel
theorem dX7_addToken_31 : decode cX7_addToken 31 = .ok (.aload_n 0, 1) := by decide +kernel
theorem dX7_addToken_32 : decode cX7_addToken 32 = .ok (.getfield 41, 3) := by decide +kernel
theorem dX7_addToken_35 : decode cX7_addToken 35 = .ok (.arraylength, 1) := by decide +kernel
theorem dX7_addToken_36 : decode cX7_addToken 36 = .ok (.if_icmp .lt 4, 3) := by decide +kernel
theorem dX7_addToken_39 : decode cX7_addToken 39 = .ok (.return_, 1) := by decide +kernel
theorem dX7_addToken_40 : decode cX7_addToken 40 = .ok (.aload_n 0, 1) := by decide +kernel
theorem dX7_addToken_41 : decode cX7_addToken 41 = .ok (.getfield 45, 3) := by decide +kernel
theorem dX7_addToken_44 : decode cX7_addToken 44 = .ok (.aload_n 0, 1) := by decide +kernel
theorem dX7_addToken_45 : decode cX7_addToken 45 = .ok (.getfield 48, 3) := by decide +kernel
theorem dX7_addToken_48 : decode cX7_addToken 48 = .ok (.aload_n 0, 1) := by decide +kernel
theorem dX7_addToken_49 : decode cX7_addToken 49 = .ok (.getfield 9, 3) := by decide +kernel
theorem dX7_addToken_52 : decode cX7_addToken 52 = .ok (.iconst 1, 1) := by decide +kernel
theorem dX7_addToken_53 : decode cX7_addToken 53 = .ok (.isub, 1) := by decide +kernel
theorem dX7_addToken_54 : decode cX7_addToken 54 = .ok (.iaload, 1) := by decide +kernel
theorem dX7_addToken_55 : decode cX7_addToken 55 = .ok (.if_icmp .ne 7, 3) := by decide +kernel
theorem dX7_addToken_58 : decode cX7_addToken 58 = .ok (.iconst 1, 1) := by decide +kernel
theorem dX7_addToken_59 : decode cX7_addToken 59 = .ok (.goto 4, 3) := by decide +kernel
theorem dX7_addToken_62 : decode cX7_addToken 62 = .ok (.iconst 0, 1) := by decide +kernel
theorem dX7_addToken_63 : decode cX7_addToken 63 = .ok (.istore 4, 2) := by decide +kernel
theorem dX7_addToken_65 : decode cX7_addToken 65 = .ok (.iload 4, 2) := by decide +kernel
theorem dX7_addToken_67 : decode cX7_addToken 67 = .ok (.ifCond .ne 50, 3) := by decide +kernel
theorem dX7_addToken_70 : decode cX7_addToken 70 = .ok (.aload_n 1, 1) := by decide +kernel
theorem dX7_addToken_71 : decode cX7_addToken 71 = .ok (.iload_n 2, 1) := by decide +kernel
theorem dX7_addToken_72 : decode cX7_addToken 72 = .ok (.baload, 1) := by decide +kernel
theorem dX7_addToken_73 : decode cX7_addToken 73 = .ok (.invokestatic 66, 3) := by decide +kernel
theorem dX7_addToken_76 : decode cX7_addToken 76 = .ok (.ifCond .eq 41, 3) := by decide +kernel
theorem dX7_addToken_79 : decode cX7_addToken 79 = .ok (.aload_n 0, 1) := by decide +kernel
theorem dX7_addToken_80 : decode cX7_addToken 80 = .ok (.getfield 41, 3) := by decide +kernel
theorem dX7_addToken_83 : decode cX7_addToken 83 = .ok (.aload_n 0, 1) := by decide +kernel
theorem dX7_addToken_84 : decode cX7_addToken 84 = .ok (.getfield 45, 3) := by decide +kernel
theorem dX7_addToken_87 : decode cX7_addToken 87 = .ok (.iconst 1, 1) := by decide +kernel
theorem dX7_addToken_88 : decode cX7_addToken 88 = .ok (.isub, 1) := by decide +kernel
theorem dX7_addToken_89 : decode cX7_addToken 89 = .ok (.baload, 1) := by decide +kernel
theorem dX7_addToken_90 : decode cX7_addToken 90 = .ok (.invokestatic 66, 3) := by decide +kernel
theorem dX7_addToken_93 : decode cX7_addToken 93 = .ok (.ifCond .eq 24, 3) := by decide +kernel
theorem dX7_addToken_96 : decode cX7_addToken 96 = .ok (.aload_n 0, 1) := by decide +kernel
theorem dX7_addToken_97 : decode cX7_addToken 97 = .ok (.getfield 41, 3) := by decide +kernel
theorem dX7_addToken_100 : decode cX7_addToken 100 = .ok (.aload_n 0, 1) := by decide +kernel
theorem dX7_addToken_101 : decode cX7_addToken 101 = .ok (.getfield 45, 3) := by decide +kernel
theorem dX7_addToken_104 : decode cX7_addToken 104 = .ok (.bipush 32, 2) := by decide +kernel
theorem dX7_addToken_106 : decode cX7_addToken 106 = .ok (.bastore, 1) := by decide +kernel
theorem dX7_addToken_107 : decode cX7_addToken 107 = .ok (.aload_n 0, 1) := by decide +kernel
theorem dX7_addToken_108 : decode cX7_addToken 108 = .ok (.dup, 1) := by decide +kernel
theorem dX7_addToken_109 : decode cX7_addToken 109 = .ok (.getfield 45, 3) := by decide +kernel
theorem dX7_addToken_112 : decode cX7_addToken 112 = .ok (.iconst 1, 1) := by decide +kernel
theorem dX7_addToken_113 : decode cX7_addToken 113 = .ok (.iadd, 1) := by decide +kernel
theorem dX7_addToken_114 : decode cX7_addToken 114 = .ok (.putfield 45, 3) := by decide +kernel
theorem dX7_addToken_117 : decode cX7_addToken 117 = .ok (.aload_n 1, 1) := by decide +kernel
theorem dX7_addToken_118 : decode cX7_addToken 118 = .ok (.iload_n 2, 1) := by decide +kernel
theorem dX7_addToken_119 : decode cX7_addToken 119 = .ok (.aload_n 0, 1) := by decide +kernel
theorem dX7_addToken_120 : decode cX7_addToken 120 = .ok (.getfield 41, 3) := by decide +kernel
theorem dX7_addToken_123 : decode cX7_addToken 123 = .ok (.aload_n 0, 1) := by decide +kernel
theorem dX7_addToken_124 : decode cX7_addToken 124 = .ok (.getfield 45, 3) := by decide +kernel
theorem dX7_addToken_127 : decode cX7_addToken 127 = .ok (.iload_n 3, 1) := by decide +kernel
theorem dX7_addToken_128 : decode cX7_addToken 128 = .ok (.iload_n 2, 1) := by decide +kernel
theorem dX7_addToken_129 : decode cX7_addToken 129 = .ok (.isub, 1) := by decide +kernel
theorem dX7_addToken_130 : decode cX7_addToken 130 = .ok (.invokestatic 60, 3) := by decide +kernel
theorem dX7_addToken_133 : decode cX7_addToken 133 = .ok (.aload_n 0, 1) := by decide +kernel
theorem dX7_addToken_134 : decode cX7_addToken 134 = .ok (.dup, 1) := by decide +kernel
theorem dX7_addToken_135 : decode cX7_addToken 135 = .ok (.getfield 45, 3) := by decide +kernel
theorem dX7_addToken_138 : decode cX7_addToken 138 = .ok (.iload_n 3, 1) := by decide +kernel
theorem dX7_addToken_139 : decode cX7_addToken 139 = .ok (.iload_n 2, 1) := by decide +kernel
theorem dX7_addToken_140 : decode cX7_addToken 140 = .ok (.isub, 1) := by decide +kernel
theorem dX7_addToken_141 : decode cX7_addToken 141 = .ok (.iadd, 1) := by decide +kernel
theorem dX7_addToken_142 : decode cX7_addToken 142 = .ok (.putfield 45, 3) := by decide +kernel
theorem dX7_addToken_145 : decode cX7_addToken 145 = .ok (.aload_n 0, 1) := by decide +kernel
theorem dX7_addToken_146 : decode cX7_addToken 146 = .ok (.getfield 51, 3) := by decide +kernel
theorem dX7_addToken_149 : decode cX7_addToken 149 = .ok (.aload_n 0, 1) := by decide +kernel
theorem dX7_addToken_150 : decode cX7_addToken 150 = .ok (.getfield 9, 3) := by decide +kernel
theorem dX7_addToken_153 : decode cX7_addToken 153 = .ok (.iconst 1, 1) := by decide +kernel
theorem dX7_addToken_154 : decode cX7_addToken 154 = .ok (.isub, 1) := by decide +kernel
theorem dX7_addToken_155 : decode cX7_addToken 155 = .ok (.aload_n 0, 1) := by decide +kernel
theorem dX7_addToken_156 : decode cX7_addToken 156 = .ok (.getfield 45, 3) := by decide +kernel
theorem dX7_addToken_159 : decode cX7_addToken 159 = .ok (.iastore, 1) := by decide +kernel
theorem dX7_addToken_160 : decode cX7_addToken 160 = .ok (.return_, 1) := by decide +kernel

set_option maxHeartbeats 4000000 in
set_option maxRecDepth 100000 in
theorem w_X7_addToken (s x XL b e h : Nat) (ho cd tl : Nat) (mo un ri : Int32) (lo co cf ct tx tf tt : Nat → Int32) (u : Int32) {n : Nat} {kd : mK} {I : mI} {J : mJ} {P : mP} (hS : kS kd P s) (hx : kd x = some (2, XL)) (hxs : x < s ∨ s + 7 < x) (hXL : XL < 2 ^ 30) (hbe : b < e) (heX : e ≤ XL) (hh : ho = h + 1) (h8 : h < 8) (hfit : ∀ i, b ≤ i → i < e → fits .byte (.int (I x i)) = true) (ht : tl + (e - b) ≤ 1000) : Ru yX7_addToken.cls cX7_addToken 5 none yX7_addToken.name 2 (am_is none n kd (sI s (ho, mo, un, ri, cd, tl + (e - b), lo, co, cf, ct, va_cpy (I x) tx b tl (e - b), tf, va_up tt h (nI (tl + (e - b)))) I) J P) 0 0 117 [some (.ref s), some (.ref x), some (.int (nI b)), some (.int (nI e)), some (.int u)] [] n kd (sI s (ho, mo, un, ri, cd, tl, lo, co, cf, ct, tx, tf, tt) I) J P := by
  obtain ⟨s0, s1, s2, s3, s4, s5, s6, s7, s8, s9, p4, p5, p7, p8, p9, p11, p12, p13, p14⟩ := hS
  refine r_aload_n dX7_addToken_117 rfl ?_
  refine r_iload_n dX7_addToken_118 rfl ?_
  refine r_aload_n dX7_addToken_119 rfl ?_
  refine r_getR dX7_addToken_120 fl_X7_41 rfl (s0) (p9) ?_
  refine r_aload_n dX7_addToken_123 rfl ?_
  refine r_getI dX7_addToken_124 fl_X7_45 rfl (s0) ?_
  rw [sI_tl]
  refine r_iload_n dX7_addToken_127 rfl ?_
  refine r_iload_n dX7_addToken_128 rfl ?_
  refine r_isub dX7_addToken_129 ?_
  rw [pk_sub (by omega)]
  refine r_copy (Or.inr rfl) dX7_addToken_130 ac_X7 hx s5 (nI_pos (by omega)) (nI_pos (by omega)) (nI_pos (by omega)) (by rw [nI_clamp (by omega), nI_clamp (by omega)]; omega) (by rw [nI_clamp (by omega), nI_clamp (by omega)]; omega) (fun _ i hi => by rw [nI_clamp (by omega)] at hi; rw [nI_clamp (by omega), sI_ne _ _ hxs]; exact hfit _ (by omega) (by omega)) (by decide) (Nat.le_of_ble_eq_true rfl) ?_
  rw [nI_clamp (show b < 2 ^ 31 by omega), nI_clamp (show tl < 2 ^ 31 by omega), nI_clamp (show e - b < 2 ^ 31 by omega), sI_ne _ _ hxs, sI_atx, sI_wtx]
  refine r_aload_n dX7_addToken_133 rfl ?_
  refine r_dup dX7_addToken_134 rfl ?_
  refine r_getI dX7_addToken_135 fl_X7_45 rfl (s0) ?_
  rw [sI_tl]
  refine r_iload_n dX7_addToken_138 rfl ?_
  refine r_iload_n dX7_addToken_139 rfl ?_
  refine r_isub dX7_addToken_140 ?_
  rw [pk_sub (by omega)]
  refine r_iadd dX7_addToken_141 ?_
  rw [nI_add]
  refine r_putI dX7_addToken_142 fl_X7_45 rfl rfl (s0) ?_
  rw [sI_ptl]
  refine r_aload_n dX7_addToken_145 rfl ?_
  refine r_getR dX7_addToken_146 fl_X7_51 rfl (s0) (p12) ?_
  refine r_aload_n dX7_addToken_149 rfl ?_
  refine r_getI dX7_addToken_150 fl_X7_9 rfl (s0) ?_
  rw [sI_ho]
  refine r_iconst (v := nI 1) dX7_addToken_153 (by decide) ?_
  refine r_isub dX7_addToken_154 ?_
  rw [show nI ho - nI 1 = nI h by rw [hh, nI_s1]]
  refine r_aload_n dX7_addToken_155 rfl ?_
  refine r_getI dX7_addToken_156 fl_X7_45 rfl (s0) ?_
  rw [sI_tl]
  refine r_iast dX7_addToken_159 (s7) (nI_in8 8 (by omega) (by decide)) (nI_clamp (by omega)) ?_
  rw [sI_att, sI_wtt]
  refine r_vret rfl dX7_addToken_160 ?_
  exact am_is.mk

set_option maxHeartbeats 4000000 in
set_option maxRecDepth 100000 in
theorem c_X7_addToken (f : Nat) (s x XL b e h : Nat) (ho cd tl : Nat) (mo un ri : Int32) (lo co cf ct tx tf tt : Nat → Int32) {n : Nat} {kd : mK} {I : mI} {J : mJ} {P : mP} (hS : kS kd P s) (hx : kd x = some (2, XL)) (hxs : x < s ∨ s + 7 < x) (hXL : XL < 2 ^ 30) (hbe : b ≤ e) (heX : e ≤ XL) (hh : ho = h + 1) (h8 : h < 8) (hfit : ∀ i, b ≤ i → i < e → fits .byte (.int (I x i)) = true) (htl : tl ≤ 1000) (hf : tf h = nI f) (hft : f ≤ tl) : Ct yX7_addToken cX7_addToken 5 none 2 0 0 [.ref s, .ref x, .int (nI b), .int (nI e)] n kd (sI s (ho, mo, un, ri, cd, tl, lo, co, cf, ct, tx, tf, tt) I) J P (am_is none n kd (sI s (SS.token (ho, mo, un, ri, cd, tl, lo, co, cf, ct, tx, tf, tt) (I x) b e) I) J P) := by
  have hS0 := hS
  obtain ⟨s0, s1, s2, s3, s4, s5, s6, s7, s8, s9, p4, p5, p7, p8, p9, p11, p12, p13, p14⟩ := hS
  simp only [SS.token]
  refine ct_of 1 (by decide +kernel) (Nat.le_of_ble_eq_true rfl) rfl ?_
  by_cases hA : e ≤ b
  · rw [if_pos (Or.inr (Or.inl hA))]
    refine r_aload_n dX7_addToken_0 rfl ?_
    refine r_getI dX7_addToken_1 fl_X7_9 rfl (s0) ?_
    rw [sI_ho]
    refine r_iconst (v := nI 1) dX7_addToken_4 (by decide) ?_
    refine r_icmp_lt (tgt := 39) dX7_addToken_5 (by decide) (fun hz => absurd hz (show ¬ _ from (by rw [nI_ltI (by omega) (by omega)]; omega))) (fun _ => ?_)
    refine r_iload_n dX7_addToken_8 rfl ?_
    refine r_if_lt (tgt := 39) dX7_addToken_9 (by decide) (fun hz => absurd hz (show ¬ _ from (z_nlt (by omega)))) (fun _ => ?_)
    refine r_iload_n dX7_addToken_12 rfl ?_
    refine r_aload_n dX7_addToken_13 rfl ?_
    refine r_alen dX7_addToken_14 hx (by decide) ?_
    refine r_icmp_gt (tgt := 39) dX7_addToken_15 (by decide) (fun hz => absurd hz (show ¬ _ from (by rw [nI_ltI (by omega) (by omega)]; omega))) (fun _ => ?_)
    refine r_iload_n dX7_addToken_18 rfl ?_
    refine r_iload_n dX7_addToken_19 rfl ?_
    refine r_icmp_ge (tgt := 39) dX7_addToken_20 (by decide) (fun _ => ?_) (fun hz => absurd (show _ from (by rw [nI_leI (by omega) (by omega)]; omega)) hz)
    refine r_vret rfl dX7_addToken_39 ?_
    exact am_is.mk
  by_cases hB : 1000 ≤ tl + e - b
  · rw [if_pos (Or.inr (Or.inr hB))]
    refine r_aload_n dX7_addToken_0 rfl ?_
    refine r_getI dX7_addToken_1 fl_X7_9 rfl (s0) ?_
    rw [sI_ho]
    refine r_iconst (v := nI 1) dX7_addToken_4 (by decide) ?_
    refine r_icmp_lt (tgt := 39) dX7_addToken_5 (by decide) (fun hz => absurd hz (show ¬ _ from (by rw [nI_ltI (by omega) (by omega)]; omega))) (fun _ => ?_)
    refine r_iload_n dX7_addToken_8 rfl ?_
    refine r_if_lt (tgt := 39) dX7_addToken_9 (by decide) (fun hz => absurd hz (show ¬ _ from (z_nlt (by omega)))) (fun _ => ?_)
    refine r_iload_n dX7_addToken_12 rfl ?_
    refine r_aload_n dX7_addToken_13 rfl ?_
    refine r_alen dX7_addToken_14 hx (by decide) ?_
    refine r_icmp_gt (tgt := 39) dX7_addToken_15 (by decide) (fun hz => absurd hz (show ¬ _ from (by rw [nI_ltI (by omega) (by omega)]; omega))) (fun _ => ?_)
    refine r_iload_n dX7_addToken_18 rfl ?_
    refine r_iload_n dX7_addToken_19 rfl ?_
    refine r_icmp_ge (tgt := 39) dX7_addToken_20 (by decide) (fun hz => absurd hz (show ¬ _ from (by rw [nI_leI (by omega) (by omega)]; omega))) (fun _ => ?_)
    refine r_aload_n dX7_addToken_23 rfl ?_
    refine r_getI dX7_addToken_24 fl_X7_45 rfl (s0) ?_
    rw [sI_tl]
    refine r_iload_n dX7_addToken_27 rfl ?_
    refine r_iadd dX7_addToken_28 ?_
    rw [nI_add]
    refine r_iload_n dX7_addToken_29 rfl ?_
    refine r_isub dX7_addToken_30 ?_
    rw [pk_sub (by omega)]
    refine r_aload_n dX7_addToken_31 rfl ?_
    refine r_getR dX7_addToken_32 fl_X7_41 rfl (s0) (p9) ?_
    refine r_alen dX7_addToken_35 (s5) (by decide) ?_
    refine r_icmp_lt (tgt := 40) dX7_addToken_36 (by decide) (fun hz => absurd hz (show ¬ _ from (by rw [nI_ltI (by omega) (by omega)]; omega))) (fun _ => ?_)
    refine r_vret rfl dX7_addToken_39 ?_
    exact am_is.mk
  have e9 : ho - 1 = h := by omega
  rw [if_neg (by omega), e9]
  by_cases e1 : nI tl = tf h
  · rw [if_neg (by simp [e1])]
    skip
    refine r_aload_n dX7_addToken_0 rfl ?_
    refine r_getI dX7_addToken_1 fl_X7_9 rfl (s0) ?_
    rw [sI_ho]
    refine r_iconst (v := nI 1) dX7_addToken_4 (by decide) ?_
    refine r_icmp_lt (tgt := 39) dX7_addToken_5 (by decide) (fun hz => absurd hz (show ¬ _ from (by rw [nI_ltI (by omega) (by omega)]; omega))) (fun _ => ?_)
    refine r_iload_n dX7_addToken_8 rfl ?_
    refine r_if_lt (tgt := 39) dX7_addToken_9 (by decide) (fun hz => absurd hz (show ¬ _ from (z_nlt (by omega)))) (fun _ => ?_)
    refine r_iload_n dX7_addToken_12 rfl ?_
    refine r_aload_n dX7_addToken_13 rfl ?_
    refine r_alen dX7_addToken_14 hx (by decide) ?_
    refine r_icmp_gt (tgt := 39) dX7_addToken_15 (by decide) (fun hz => absurd hz (show ¬ _ from (by rw [nI_ltI (by omega) (by omega)]; omega))) (fun _ => ?_)
    refine r_iload_n dX7_addToken_18 rfl ?_
    refine r_iload_n dX7_addToken_19 rfl ?_
    refine r_icmp_ge (tgt := 39) dX7_addToken_20 (by decide) (fun hz => absurd hz (show ¬ _ from (by rw [nI_leI (by omega) (by omega)]; omega))) (fun _ => ?_)
    refine r_aload_n dX7_addToken_23 rfl ?_
    refine r_getI dX7_addToken_24 fl_X7_45 rfl (s0) ?_
    rw [sI_tl]
    refine r_iload_n dX7_addToken_27 rfl ?_
    refine r_iadd dX7_addToken_28 ?_
    rw [nI_add]
    refine r_iload_n dX7_addToken_29 rfl ?_
    refine r_isub dX7_addToken_30 ?_
    rw [pk_sub (by omega)]
    refine r_aload_n dX7_addToken_31 rfl ?_
    refine r_getR dX7_addToken_32 fl_X7_41 rfl (s0) (p9) ?_
    refine r_alen dX7_addToken_35 (s5) (by decide) ?_
    refine r_icmp_lt (tgt := 40) dX7_addToken_36 (by decide) (fun _ => ?_) (fun hz => absurd (show _ from (by rw [nI_ltI (by omega) (by omega)]; omega)) hz)
    refine r_aload_n dX7_addToken_40 rfl ?_
    refine r_getI dX7_addToken_41 fl_X7_45 rfl (s0) ?_
    rw [sI_tl]
    refine r_aload_n dX7_addToken_44 rfl ?_
    refine r_getR dX7_addToken_45 fl_X7_48 rfl (s0) (p11) ?_
    refine r_aload_n dX7_addToken_48 rfl ?_
    refine r_getI dX7_addToken_49 fl_X7_9 rfl (s0) ?_
    rw [sI_ho]
    refine r_iconst (v := nI 1) dX7_addToken_52 (by decide) ?_
    refine r_isub dX7_addToken_53 ?_
    rw [show nI ho - nI 1 = nI h by rw [hh, nI_s1]]
    refine r_iald dX7_addToken_54 (s6) (nI_in8 8 (by omega) (by decide)) (nI_clamp (by omega)) ?_
    rw [sI_atf]
    refine r_icmp_ne (tgt := 62) dX7_addToken_55 (by decide) (fun hz => absurd (show _ from e1) hz) (fun _ => ?_)
    refine r_iconst (v := nI 1) dX7_addToken_58 (by decide) ?_
    refine r_goto (tgt := 63) dX7_addToken_59 (by decide) ?_
    refine r_istore dX7_addToken_63 (by decide) ?_
    refine r_iload dX7_addToken_65 rfl ?_
    refine r_if_ne (tgt := 117) dX7_addToken_67 (by decide) (fun _ => ?_) (fun hz => absurd hz (show ¬ _ from by decide))
    exact w_X7_addToken s x XL b e h ho cd (tl) mo un ri lo co cf ct (tx) tf tt (nI 1) hS0 hx hxs hXL (by omega) heX hh h8 hfit (by omega)
  · have t1 : tl ≠ f := fun z => e1 (by rw [hf, z])
    by_cases w1 : wdl (I x b) = false
    · rw [if_neg (by simp [w1])]
      refine r_aload_n dX7_addToken_0 rfl ?_
      refine r_getI dX7_addToken_1 fl_X7_9 rfl (s0) ?_
      rw [sI_ho]
      refine r_iconst (v := nI 1) dX7_addToken_4 (by decide) ?_
      refine r_icmp_lt (tgt := 39) dX7_addToken_5 (by decide) (fun hz => absurd hz (show ¬ _ from (by rw [nI_ltI (by omega) (by omega)]; omega))) (fun _ => ?_)
      refine r_iload_n dX7_addToken_8 rfl ?_
      refine r_if_lt (tgt := 39) dX7_addToken_9 (by decide) (fun hz => absurd hz (show ¬ _ from (z_nlt (by omega)))) (fun _ => ?_)
      refine r_iload_n dX7_addToken_12 rfl ?_
      refine r_aload_n dX7_addToken_13 rfl ?_
      refine r_alen dX7_addToken_14 hx (by decide) ?_
      refine r_icmp_gt (tgt := 39) dX7_addToken_15 (by decide) (fun hz => absurd hz (show ¬ _ from (by rw [nI_ltI (by omega) (by omega)]; omega))) (fun _ => ?_)
      refine r_iload_n dX7_addToken_18 rfl ?_
      refine r_iload_n dX7_addToken_19 rfl ?_
      refine r_icmp_ge (tgt := 39) dX7_addToken_20 (by decide) (fun hz => absurd hz (show ¬ _ from (by rw [nI_leI (by omega) (by omega)]; omega))) (fun _ => ?_)
      refine r_aload_n dX7_addToken_23 rfl ?_
      refine r_getI dX7_addToken_24 fl_X7_45 rfl (s0) ?_
      rw [sI_tl]
      refine r_iload_n dX7_addToken_27 rfl ?_
      refine r_iadd dX7_addToken_28 ?_
      rw [nI_add]
      refine r_iload_n dX7_addToken_29 rfl ?_
      refine r_isub dX7_addToken_30 ?_
      rw [pk_sub (by omega)]
      refine r_aload_n dX7_addToken_31 rfl ?_
      refine r_getR dX7_addToken_32 fl_X7_41 rfl (s0) (p9) ?_
      refine r_alen dX7_addToken_35 (s5) (by decide) ?_
      refine r_icmp_lt (tgt := 40) dX7_addToken_36 (by decide) (fun _ => ?_) (fun hz => absurd (show _ from (by rw [nI_ltI (by omega) (by omega)]; omega)) hz)
      refine r_aload_n dX7_addToken_40 rfl ?_
      refine r_getI dX7_addToken_41 fl_X7_45 rfl (s0) ?_
      rw [sI_tl]
      refine r_aload_n dX7_addToken_44 rfl ?_
      refine r_getR dX7_addToken_45 fl_X7_48 rfl (s0) (p11) ?_
      refine r_aload_n dX7_addToken_48 rfl ?_
      refine r_getI dX7_addToken_49 fl_X7_9 rfl (s0) ?_
      rw [sI_ho]
      refine r_iconst (v := nI 1) dX7_addToken_52 (by decide) ?_
      refine r_isub dX7_addToken_53 ?_
      rw [show nI ho - nI 1 = nI h by rw [hh, nI_s1]]
      refine r_iald dX7_addToken_54 (s6) (nI_in8 8 (by omega) (by decide)) (nI_clamp (by omega)) ?_
      rw [sI_atf]
      refine r_icmp_ne (tgt := 62) dX7_addToken_55 (by decide) (fun _ => ?_) (fun hz => absurd hz (show ¬ _ from e1))
      refine r_iconst (v := nI 0) dX7_addToken_62 (by decide) ?_
      refine r_istore dX7_addToken_63 (by decide) ?_
      refine r_iload dX7_addToken_65 rfl ?_
      refine r_if_ne (tgt := 117) dX7_addToken_67 (by decide) (fun hz => absurd (show _ from rfl) hz) (fun _ => ?_)
      refine r_aload_n dX7_addToken_70 rfl ?_
      refine r_iload_n dX7_addToken_71 rfl ?_
      refine r_bald dX7_addToken_72 hx (nI_in8 XL (by omega) (by omega)) (nI_clamp (by omega)) ?_
      rw [sI_ne _ _ hxs]
      refine r_statE (c_X7_isWordly (I x b)) lk_X7_66 mc_X7_isWordly dX7_addToken_73 (by decide) rfl rfl (Nat.le_of_ble_eq_true rfl) ?_
      refine r_if_eq (tgt := 117) dX7_addToken_76 (by decide) (fun _ => ?_) (fun hz => absurd (show _ from by rw [w1]; rfl) hz)
      exact w_X7_addToken s x XL b e h ho cd (tl) mo un ri lo co cf ct (tx) tf tt (nI 0) hS0 hx hxs hXL (by omega) heX hh h8 hfit (by omega)
    · have w1 : wdl (I x b) = true := by simpa using w1
      by_cases w2 : wdl (tx (tl - 1)) = false
      · rw [if_neg (by simp [w2])]
        refine r_aload_n dX7_addToken_0 rfl ?_
        refine r_getI dX7_addToken_1 fl_X7_9 rfl (s0) ?_
        rw [sI_ho]
        refine r_iconst (v := nI 1) dX7_addToken_4 (by decide) ?_
        refine r_icmp_lt (tgt := 39) dX7_addToken_5 (by decide) (fun hz => absurd hz (show ¬ _ from (by rw [nI_ltI (by omega) (by omega)]; omega))) (fun _ => ?_)
        refine r_iload_n dX7_addToken_8 rfl ?_
        refine r_if_lt (tgt := 39) dX7_addToken_9 (by decide) (fun hz => absurd hz (show ¬ _ from (z_nlt (by omega)))) (fun _ => ?_)
        refine r_iload_n dX7_addToken_12 rfl ?_
        refine r_aload_n dX7_addToken_13 rfl ?_
        refine r_alen dX7_addToken_14 hx (by decide) ?_
        refine r_icmp_gt (tgt := 39) dX7_addToken_15 (by decide) (fun hz => absurd hz (show ¬ _ from (by rw [nI_ltI (by omega) (by omega)]; omega))) (fun _ => ?_)
        refine r_iload_n dX7_addToken_18 rfl ?_
        refine r_iload_n dX7_addToken_19 rfl ?_
        refine r_icmp_ge (tgt := 39) dX7_addToken_20 (by decide) (fun hz => absurd hz (show ¬ _ from (by rw [nI_leI (by omega) (by omega)]; omega))) (fun _ => ?_)
        refine r_aload_n dX7_addToken_23 rfl ?_
        refine r_getI dX7_addToken_24 fl_X7_45 rfl (s0) ?_
        rw [sI_tl]
        refine r_iload_n dX7_addToken_27 rfl ?_
        refine r_iadd dX7_addToken_28 ?_
        rw [nI_add]
        refine r_iload_n dX7_addToken_29 rfl ?_
        refine r_isub dX7_addToken_30 ?_
        rw [pk_sub (by omega)]
        refine r_aload_n dX7_addToken_31 rfl ?_
        refine r_getR dX7_addToken_32 fl_X7_41 rfl (s0) (p9) ?_
        refine r_alen dX7_addToken_35 (s5) (by decide) ?_
        refine r_icmp_lt (tgt := 40) dX7_addToken_36 (by decide) (fun _ => ?_) (fun hz => absurd (show _ from (by rw [nI_ltI (by omega) (by omega)]; omega)) hz)
        refine r_aload_n dX7_addToken_40 rfl ?_
        refine r_getI dX7_addToken_41 fl_X7_45 rfl (s0) ?_
        rw [sI_tl]
        refine r_aload_n dX7_addToken_44 rfl ?_
        refine r_getR dX7_addToken_45 fl_X7_48 rfl (s0) (p11) ?_
        refine r_aload_n dX7_addToken_48 rfl ?_
        refine r_getI dX7_addToken_49 fl_X7_9 rfl (s0) ?_
        rw [sI_ho]
        refine r_iconst (v := nI 1) dX7_addToken_52 (by decide) ?_
        refine r_isub dX7_addToken_53 ?_
        rw [show nI ho - nI 1 = nI h by rw [hh, nI_s1]]
        refine r_iald dX7_addToken_54 (s6) (nI_in8 8 (by omega) (by decide)) (nI_clamp (by omega)) ?_
        rw [sI_atf]
        refine r_icmp_ne (tgt := 62) dX7_addToken_55 (by decide) (fun _ => ?_) (fun hz => absurd hz (show ¬ _ from e1))
        refine r_iconst (v := nI 0) dX7_addToken_62 (by decide) ?_
        refine r_istore dX7_addToken_63 (by decide) ?_
        refine r_iload dX7_addToken_65 rfl ?_
        refine r_if_ne (tgt := 117) dX7_addToken_67 (by decide) (fun hz => absurd (show _ from rfl) hz) (fun _ => ?_)
        refine r_aload_n dX7_addToken_70 rfl ?_
        refine r_iload_n dX7_addToken_71 rfl ?_
        refine r_bald dX7_addToken_72 hx (nI_in8 XL (by omega) (by omega)) (nI_clamp (by omega)) ?_
        rw [sI_ne _ _ hxs]
        refine r_statE (c_X7_isWordly (I x b)) lk_X7_66 mc_X7_isWordly dX7_addToken_73 (by decide) rfl rfl (Nat.le_of_ble_eq_true rfl) ?_
        refine r_if_eq (tgt := 117) dX7_addToken_76 (by decide) (fun hz => absurd hz (show ¬ _ from by rw [w1]; decide)) (fun _ => ?_)
        refine r_aload_n dX7_addToken_79 rfl ?_
        refine r_getR dX7_addToken_80 fl_X7_41 rfl (s0) (p9) ?_
        refine r_aload_n dX7_addToken_83 rfl ?_
        refine r_getI dX7_addToken_84 fl_X7_45 rfl (s0) ?_
        rw [sI_tl]
        refine r_iconst (v := nI 1) dX7_addToken_87 (by decide) ?_
        refine r_isub dX7_addToken_88 ?_
        rw [pk_sub (by omega)]
        refine r_bald dX7_addToken_89 (s5) (nI_in8 1000 (by omega) (by decide)) (nI_clamp (by omega)) ?_
        rw [sI_atx]
        refine r_statE (c_X7_isWordly (tx (tl - 1))) lk_X7_66 mc_X7_isWordly dX7_addToken_90 (by decide) rfl rfl (Nat.le_of_ble_eq_true rfl) ?_
        refine r_if_eq (tgt := 117) dX7_addToken_93 (by decide) (fun _ => ?_) (fun hz => absurd (show _ from by rw [w2]; rfl) hz)
        exact w_X7_addToken s x XL b e h ho cd (tl) mo un ri lo co cf ct (tx) tf tt (nI 0) hS0 hx hxs hXL (by omega) heX hh h8 hfit (by omega)
      · have w2 : wdl (tx (tl - 1)) = true := by simpa using w2
        rw [if_pos (by simp [w1, w2, e1])]
        refine r_aload_n dX7_addToken_0 rfl ?_
        refine r_getI dX7_addToken_1 fl_X7_9 rfl (s0) ?_
        rw [sI_ho]
        refine r_iconst (v := nI 1) dX7_addToken_4 (by decide) ?_
        refine r_icmp_lt (tgt := 39) dX7_addToken_5 (by decide) (fun hz => absurd hz (show ¬ _ from (by rw [nI_ltI (by omega) (by omega)]; omega))) (fun _ => ?_)
        refine r_iload_n dX7_addToken_8 rfl ?_
        refine r_if_lt (tgt := 39) dX7_addToken_9 (by decide) (fun hz => absurd hz (show ¬ _ from (z_nlt (by omega)))) (fun _ => ?_)
        refine r_iload_n dX7_addToken_12 rfl ?_
        refine r_aload_n dX7_addToken_13 rfl ?_
        refine r_alen dX7_addToken_14 hx (by decide) ?_
        refine r_icmp_gt (tgt := 39) dX7_addToken_15 (by decide) (fun hz => absurd hz (show ¬ _ from (by rw [nI_ltI (by omega) (by omega)]; omega))) (fun _ => ?_)
        refine r_iload_n dX7_addToken_18 rfl ?_
        refine r_iload_n dX7_addToken_19 rfl ?_
        refine r_icmp_ge (tgt := 39) dX7_addToken_20 (by decide) (fun hz => absurd hz (show ¬ _ from (by rw [nI_leI (by omega) (by omega)]; omega))) (fun _ => ?_)
        refine r_aload_n dX7_addToken_23 rfl ?_
        refine r_getI dX7_addToken_24 fl_X7_45 rfl (s0) ?_
        rw [sI_tl]
        refine r_iload_n dX7_addToken_27 rfl ?_
        refine r_iadd dX7_addToken_28 ?_
        rw [nI_add]
        refine r_iload_n dX7_addToken_29 rfl ?_
        refine r_isub dX7_addToken_30 ?_
        rw [pk_sub (by omega)]
        refine r_aload_n dX7_addToken_31 rfl ?_
        refine r_getR dX7_addToken_32 fl_X7_41 rfl (s0) (p9) ?_
        refine r_alen dX7_addToken_35 (s5) (by decide) ?_
        refine r_icmp_lt (tgt := 40) dX7_addToken_36 (by decide) (fun _ => ?_) (fun hz => absurd (show _ from (by rw [nI_ltI (by omega) (by omega)]; omega)) hz)
        refine r_aload_n dX7_addToken_40 rfl ?_
        refine r_getI dX7_addToken_41 fl_X7_45 rfl (s0) ?_
        rw [sI_tl]
        refine r_aload_n dX7_addToken_44 rfl ?_
        refine r_getR dX7_addToken_45 fl_X7_48 rfl (s0) (p11) ?_
        refine r_aload_n dX7_addToken_48 rfl ?_
        refine r_getI dX7_addToken_49 fl_X7_9 rfl (s0) ?_
        rw [sI_ho]
        refine r_iconst (v := nI 1) dX7_addToken_52 (by decide) ?_
        refine r_isub dX7_addToken_53 ?_
        rw [show nI ho - nI 1 = nI h by rw [hh, nI_s1]]
        refine r_iald dX7_addToken_54 (s6) (nI_in8 8 (by omega) (by decide)) (nI_clamp (by omega)) ?_
        rw [sI_atf]
        refine r_icmp_ne (tgt := 62) dX7_addToken_55 (by decide) (fun _ => ?_) (fun hz => absurd hz (show ¬ _ from e1))
        refine r_iconst (v := nI 0) dX7_addToken_62 (by decide) ?_
        refine r_istore dX7_addToken_63 (by decide) ?_
        refine r_iload dX7_addToken_65 rfl ?_
        refine r_if_ne (tgt := 117) dX7_addToken_67 (by decide) (fun hz => absurd (show _ from rfl) hz) (fun _ => ?_)
        refine r_aload_n dX7_addToken_70 rfl ?_
        refine r_iload_n dX7_addToken_71 rfl ?_
        refine r_bald dX7_addToken_72 hx (nI_in8 XL (by omega) (by omega)) (nI_clamp (by omega)) ?_
        rw [sI_ne _ _ hxs]
        refine r_statE (c_X7_isWordly (I x b)) lk_X7_66 mc_X7_isWordly dX7_addToken_73 (by decide) rfl rfl (Nat.le_of_ble_eq_true rfl) ?_
        refine r_if_eq (tgt := 117) dX7_addToken_76 (by decide) (fun hz => absurd hz (show ¬ _ from by rw [w1]; decide)) (fun _ => ?_)
        refine r_aload_n dX7_addToken_79 rfl ?_
        refine r_getR dX7_addToken_80 fl_X7_41 rfl (s0) (p9) ?_
        refine r_aload_n dX7_addToken_83 rfl ?_
        refine r_getI dX7_addToken_84 fl_X7_45 rfl (s0) ?_
        rw [sI_tl]
        refine r_iconst (v := nI 1) dX7_addToken_87 (by decide) ?_
        refine r_isub dX7_addToken_88 ?_
        rw [pk_sub (by omega)]
        refine r_bald dX7_addToken_89 (s5) (nI_in8 1000 (by omega) (by decide)) (nI_clamp (by omega)) ?_
        rw [sI_atx]
        refine r_statE (c_X7_isWordly (tx (tl - 1))) lk_X7_66 mc_X7_isWordly dX7_addToken_90 (by decide) rfl rfl (Nat.le_of_ble_eq_true rfl) ?_
        refine r_if_eq (tgt := 117) dX7_addToken_93 (by decide) (fun hz => absurd hz (show ¬ _ from by rw [w2]; decide)) (fun _ => ?_)
        refine r_aload_n dX7_addToken_96 rfl ?_
        refine r_getR dX7_addToken_97 fl_X7_41 rfl (s0) (p9) ?_
        refine r_aload_n dX7_addToken_100 rfl ?_
        refine r_getI dX7_addToken_101 fl_X7_45 rfl (s0) ?_
        rw [sI_tl]
        refine r_bipush (v := nI 32) dX7_addToken_104 (by decide) ?_
        refine r_bast dX7_addToken_106 s5 (nI_in8 1000 (by omega) (by decide)) (nI_clamp (by omega)) ?_
        rw [sI_atx, show vp_nar .byte (nI 32) = nI 32 by decide, sI_wtx]
        refine r_aload_n dX7_addToken_107 rfl ?_
        refine r_dup dX7_addToken_108 rfl ?_
        refine r_getI dX7_addToken_109 fl_X7_45 rfl (s0) ?_
        rw [sI_tl]
        refine r_iconst (v := nI 1) dX7_addToken_112 (by decide) ?_
        refine r_iadd dX7_addToken_113 ?_
        rw [nI_add]
        refine r_putI dX7_addToken_114 fl_X7_45 rfl rfl (s0) ?_
        rw [sI_ptl]
        exact w_X7_addToken s x XL b e h ho cd (tl + 1) mo un ri lo co cf ct (va_up tx tl (nI 32)) tf tt (nI 0) hS0 hx hxs hXL (by omega) heX hh h8 hfit (by omega)

