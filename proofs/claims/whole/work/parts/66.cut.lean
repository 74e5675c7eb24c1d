/-! CUT INTO TOKENS -/
theorem dX5_cutIntoTokens_0 : decode cX5_cutIntoTokens 0 = .ok (.aload_n 0, 1) := by decide +kernel
theorem dX5_cutIntoTokens_1 : decode cX5_cutIntoTokens 1 = .ok (.iconst 0, 1) := by decide +kernel
theorem dX5_cutIntoTokens_2 : decode cX5_cutIntoTokens 2 = .ok (.putfield 29, 3) := by decide +kernel
theorem dX5_cutIntoTokens_5 : decode cX5_cutIntoTokens 5 = .ok (.iconst 0, 1) := by decide +kernel
theorem dX5_cutIntoTokens_6 : decode cX5_cutIntoTokens 6 = .ok (.istore_n 1, 1) := by decide +kernel
theorem dX5_cutIntoTokens_7 : decode cX5_cutIntoTokens 7 = .ok (.iconst 0, 1) := by decide +kernel
theorem dX5_cutIntoTokens_8 : decode cX5_cutIntoTokens 8 = .ok (.istore_n 2, 1) := by decide +kernel
theorem dX5_cutIntoTokens_9 : decode cX5_cutIntoTokens 9 = .ok (.iload_n 2, 1) := by decide +kernel
theorem dX5_cutIntoTokens_10 : decode cX5_cutIntoTokens 10 = .ok (.sipush 500, 3) := by decide +kernel
theorem dX5_cutIntoTokens_13 : decode cX5_cutIntoTokens 13 = .ok (.if_icmp .ge 119, 3) := by decide +kernel
theorem dX5_cutIntoTokens_16 : decode cX5_cutIntoTokens 16 = .ok (.iload_n 1, 1) := by decide +kernel
theorem dX5_cutIntoTokens_17 : decode cX5_cutIntoTokens 17 = .ok (.aload_n 0, 1) := by decide +kernel
theorem dX5_cutIntoTokens_18 : decode cX5_cutIntoTokens 18 = .ok (.getfield 15, 3) := by decide +kernel
theorem dX5_cutIntoTokens_21 : decode cX5_cutIntoTokens 21 = .ok (.if_icmp .ge 111, 3) := by decide +kernel
theorem dX5_cutIntoTokens_24 : decode cX5_cutIntoTokens 24 = .ok (.aload_n 0, 1) := by decide +kernel
theorem dX5_cutIntoTokens_25 : decode cX5_cutIntoTokens 25 = .ok (.getfield 9, 3) := by decide +kernel
theorem dX5_cutIntoTokens_28 : decode cX5_cutIntoTokens 28 = .ok (.iload_n 1, 1) := by decide +kernel
theorem dX5_cutIntoTokens_29 : decode cX5_cutIntoTokens 29 = .ok (.baload, 1) := by decide +kernel
theorem dX5_cutIntoTokens_30 : decode cX5_cutIntoTokens 30 = .ok (.istore_n 3, 1) := by decide +kernel
theorem dX5_cutIntoTokens_31 : decode cX5_cutIntoTokens 31 = .ok (.iload_n 1, 1) := by decide +kernel
theorem dX5_cutIntoTokens_32 : decode cX5_cutIntoTokens 32 = .ok (.iconst 1, 1) := by decide +kernel
theorem dX5_cutIntoTokens_33 : decode cX5_cutIntoTokens 33 = .ok (.iadd, 1) := by decide +kernel
theorem dX5_cutIntoTokens_34 : decode cX5_cutIntoTokens 34 = .ok (.istore 4, 2) := by decide +kernel
theorem dX5_cutIntoTokens_36 : decode cX5_cutIntoTokens 36 = .ok (.iload_n 3, 1) := by decide +kernel
theorem dX5_cutIntoTokens_37 : decode cX5_cutIntoTokens 37 = .ok (.invokestatic 89, 3) := by decide +kernel
theorem dX5_cutIntoTokens_40 : decode cX5_cutIntoTokens 40 = .ok (.ifCond .eq 27, 3) := by decide +kernel
theorem dX5_cutIntoTokens_43 : decode cX5_cutIntoTokens 43 = .ok (.aload_n 0, 1) := by decide +kernel
theorem dX5_cutIntoTokens_44 : decode cX5_cutIntoTokens 44 = .ok (.iload_n 1, 1) := by decide +kernel
theorem dX5_cutIntoTokens_45 : decode cX5_cutIntoTokens 45 = .ok (.invokevirtual 93, 3) := by decide +kernel
theorem dX5_cutIntoTokens_48 : decode cX5_cutIntoTokens 48 = .ok (.istore 4, 2) := by decide +kernel
theorem dX5_cutIntoTokens_50 : decode cX5_cutIntoTokens 50 = .ok (.aload_n 0, 1) := by decide +kernel
theorem dX5_cutIntoTokens_51 : decode cX5_cutIntoTokens 51 = .ok (.aload_n 0, 1) := by decide +kernel
theorem dX5_cutIntoTokens_52 : decode cX5_cutIntoTokens 52 = .ok (.iload_n 1, 1) := by decide +kernel
theorem dX5_cutIntoTokens_53 : decode cX5_cutIntoTokens 53 = .ok (.iload 4, 2) := by decide +kernel
theorem dX5_cutIntoTokens_55 : decode cX5_cutIntoTokens 55 = .ok (.invokevirtual 97, 3) := by decide +kernel
theorem dX5_cutIntoTokens_58 : decode cX5_cutIntoTokens 58 = .ok (.iload_n 1, 1) := by decide +kernel
theorem dX5_cutIntoTokens_59 : decode cX5_cutIntoTokens 59 = .ok (.iload 4, 2) := by decide +kernel
theorem dX5_cutIntoTokens_61 : decode cX5_cutIntoTokens 61 = .ok (.invokevirtual 100, 3) := by decide +kernel
theorem dX5_cutIntoTokens_64 : decode cX5_cutIntoTokens 64 = .ok (.goto 59, 3) := by decide +kernel
theorem dX5_cutIntoTokens_67 : decode cX5_cutIntoTokens 67 = .ok (.iload_n 3, 1) := by decide +kernel
theorem dX5_cutIntoTokens_68 : decode cX5_cutIntoTokens 68 = .ok (.invokestatic 104, 3) := by decide +kernel
theorem dX5_cutIntoTokens_71 : decode cX5_cutIntoTokens 71 = .ok (.ifCond .eq 21, 3) := by decide +kernel
theorem dX5_cutIntoTokens_74 : decode cX5_cutIntoTokens 74 = .ok (.aload_n 0, 1) := by decide +kernel
theorem dX5_cutIntoTokens_75 : decode cX5_cutIntoTokens 75 = .ok (.iload_n 1, 1) := by decide +kernel
theorem dX5_cutIntoTokens_76 : decode cX5_cutIntoTokens 76 = .ok (.invokevirtual 107, 3) := by decide +kernel
theorem dX5_cutIntoTokens_79 : decode cX5_cutIntoTokens 79 = .ok (.istore 4, 2) := by decide +kernel
theorem dX5_cutIntoTokens_81 : decode cX5_cutIntoTokens 81 = .ok (.aload_n 0, 1) := by decide +kernel
theorem dX5_cutIntoTokens_82 : decode cX5_cutIntoTokens 82 = .ok (.iconst 2, 1) := by decide +kernel
theorem dX5_cutIntoTokens_83 : decode cX5_cutIntoTokens 83 = .ok (.iload_n 1, 1) := by decide +kernel
theorem dX5_cutIntoTokens_84 : decode cX5_cutIntoTokens 84 = .ok (.iload 4, 2) := by decide +kernel
theorem dX5_cutIntoTokens_86 : decode cX5_cutIntoTokens 86 = .ok (.invokevirtual 100, 3) := by decide +kernel
theorem dX5_cutIntoTokens_89 : decode cX5_cutIntoTokens 89 = .ok (.goto 34, 3) := by decide +kernel
theorem dX5_cutIntoTokens_92 : decode cX5_cutIntoTokens 92 = .ok (.iload_n 3, 1) := by decide +kernel
theorem dX5_cutIntoTokens_93 : decode cX5_cutIntoTokens 93 = .ok (.bipush 32, 2) := by decide +kernel
theorem dX5_cutIntoTokens_95 : decode cX5_cutIntoTokens 95 = .ok (.if_icmp .eq 28, 3) := by decide +kernel
theorem dX5_cutIntoTokens_98 : decode cX5_cutIntoTokens 98 = .ok (.iload_n 3, 1) := by decide +kernel
theorem dX5_cutIntoTokens_99 : decode cX5_cutIntoTokens 99 = .ok (.bipush 10, 2) := by decide +kernel
theorem dX5_cutIntoTokens_101 : decode cX5_cutIntoTokens 101 = .ok (.if_icmp .eq 22, 3) := by decide +kernel
theorem dX5_cutIntoTokens_104 : decode cX5_cutIntoTokens 104 = .ok (.aload_n 0, 1) := by decide +kernel
theorem dX5_cutIntoTokens_105 : decode cX5_cutIntoTokens 105 = .ok (.iload_n 3, 1) := by decide +kernel
theorem dX5_cutIntoTokens_106 : decode cX5_cutIntoTokens 106 = .ok (.invokestatic 110, 3) := by decide +kernel
theorem dX5_cutIntoTokens_109 : decode cX5_cutIntoTokens 109 = .ok (.ifCond .eq 7, 3) := by decide +kernel
theorem dX5_cutIntoTokens_112 : decode cX5_cutIntoTokens 112 = .ok (.iload_n 3, 1) := by decide +kernel
theorem dX5_cutIntoTokens_113 : decode cX5_cutIntoTokens 113 = .ok (.goto 4, 3) := by decide +kernel
theorem dX5_cutIntoTokens_116 : decode cX5_cutIntoTokens 116 = .ok (.iconst 1, 1) := by decide +kernel
theorem dX5_cutIntoTokens_117 : decode cX5_cutIntoTokens 117 = .ok (.iload_n 1, 1) := by decide +kernel
theorem dX5_cutIntoTokens_118 : decode cX5_cutIntoTokens 118 = .ok (.iload 4, 2) := by decide +kernel
theorem dX5_cutIntoTokens_120 : decode cX5_cutIntoTokens 120 = .ok (.invokevirtual 100, 3) := by decide +kernel
theorem dX5_cutIntoTokens_123 : decode cX5_cutIntoTokens 123 = .ok (.iload 4, 2) := by decide +kernel
theorem dX5_cutIntoTokens_125 : decode cX5_cutIntoTokens 125 = .ok (.istore_n 1, 1) := by decide +kernel
theorem dX5_cutIntoTokens_126 : decode cX5_cutIntoTokens 126 = .ok (.iinc 2 1, 3) := by decide +kernel
theorem dX5_cutIntoTokens_129 : decode cX5_cutIntoTokens 129 = .ok (.goto (-120), 3) := by decide +kernel
theorem dX5_cutIntoTokens_132 : decode cX5_cutIntoTokens 132 = .ok (.aload_n 0, 1) := by decide +kernel
theorem dX5_cutIntoTokens_133 : decode cX5_cutIntoTokens 133 = .ok (.iconst 0, 1) := by decide +kernel
theorem dX5_cutIntoTokens_134 : decode cX5_cutIntoTokens 134 = .ok (.aload_n 0, 1) := by decide +kernel
theorem dX5_cutIntoTokens_135 : decode cX5_cutIntoTokens 135 = .ok (.getfield 15, 3) := by decide +kernel
theorem dX5_cutIntoTokens_138 : decode cX5_cutIntoTokens 138 = .ok (.aload_n 0, 1) := by decide +kernel
theorem dX5_cutIntoTokens_139 : decode cX5_cutIntoTokens 139 = .ok (.getfield 15, 3) := by decide +kernel
theorem dX5_cutIntoTokens_142 : decode cX5_cutIntoTokens 142 = .ok (.invokevirtual 100, 3) := by decide +kernel
theorem dX5_cutIntoTokens_145 : decode cX5_cutIntoTokens 145 = .ok (.return_, 1) := by decide +kernel

set_option maxHeartbeats 4000000 in
set_option maxRecDepth 100000 in
theorem w_X5_cutIntoTokens (r x XL len : Nat) {n : Nat} {kd : mK} {I : mI} {J : mJ} {P : mP} (k0 : kd r = some (0, 5)) (k2 : kd (r + 2) = some (1, 501)) (k3 : kd (r + 3) = some (1, 501)) (k4 : kd (r + 4) = some (1, 501)) (x2 : P r 2 = some (r + 2)) (x3 : P r 3 = some (r + 3)) (x4 : P r 4 = some (r + 4)) (x0 : P r 0 = some x) (kx : kd x = some (2, XL)) (ox : x < r ∨ r + 4 < x) (i1 : I r 1 = nI len) (t3 : len ≤ 500) (t4 : len ≤ XL) (xl : XL < 2 ^ 30) : ∀ (k i b : Nat) (ts : List Tok) (z3 z4 : Option Value), i + k = 500 → ts.length ≤ i → b ≤ len → Ru yX5_cutIntoTokens.cls cX5_cutIntoTokens 5 none yX5_cutIntoTokens.name 7 (am_is none n kd (tI r (ts ++ (lexF (I x) len k b ++ [(nI 0, len, len)])) I) J P) 0 0 9 [some (.ref r), some (.int (nI b)), some (.int (nI i)), z3, z4] [] n kd (tI r ts I) J P := by
  intro k
  induction k with
  | zero =>
    intro i b ts z3 z4 hi ht hb
    unfold lexF
    refine r_iload_n dX5_cutIntoTokens_9 rfl ?_
    refine r_sipush (v := nI 500) dX5_cutIntoTokens_10 (by decide) ?_
    refine r_icmp_ge (tgt := 132) dX5_cutIntoTokens_13 (by decide) (fun _ => ?_) (fun hz => absurd (show _ from (by rw [nI_leI (by omega) (by omega)]; omega)) hz)
    refine r_aload_n dX5_cutIntoTokens_132 rfl ?_
    refine r_iconst (v := nI 0) dX5_cutIntoTokens_133 (by decide) ?_
    refine r_aload_n dX5_cutIntoTokens_134 rfl ?_
    refine r_getI dX5_cutIntoTokens_135 fl_X5_15 rfl k0 ?_
    rw [tI_r _ _ (by decide), i1]
    refine r_aload_n dX5_cutIntoTokens_138 rfl ?_
    refine r_getI dX5_cutIntoTokens_139 fl_X5_15 rfl k0 ?_
    rw [tI_r _ _ (by decide), i1]
    refine r_virtV (c_X5_addToken r len len (nI 0) ts k0 k2 k3 k4 x2 x3 x4 (by omega)) lk_X5_100 mc_X5_addToken dX5_cutIntoTokens_142 k0 (by decide) rfl rfl (Nat.le_of_ble_eq_true rfl) ?_
    refine r_vret rfl dX5_cutIntoTokens_145 ?_
    rw [List.nil_append]
    exact am_is.mk
  | succ k ih =>
    intro i b ts z3 z4 hi ht hb
    unfold lexF
    by_cases c0 : b < len
    · rw [if_pos c0]
      have e1 := runE_le isL (I x) (len - b) b
      have e2 := runE_le isD (I x) (len - b) b
      by_cases c1 : isL (I x b) = true
      · rw [if_pos c1]
        refine r_iload_n dX5_cutIntoTokens_9 rfl ?_
        refine r_sipush (v := nI 500) dX5_cutIntoTokens_10 (by decide) ?_
        refine r_icmp_ge (tgt := 132) dX5_cutIntoTokens_13 (by decide) (fun hz => absurd hz (show ¬ _ from (by rw [nI_leI (by omega) (by omega)]; omega))) (fun _ => ?_)
        refine r_iload_n dX5_cutIntoTokens_16 rfl ?_
        refine r_aload_n dX5_cutIntoTokens_17 rfl ?_
        refine r_getI dX5_cutIntoTokens_18 fl_X5_15 rfl k0 ?_
        rw [tI_r _ _ (by decide), i1]
        refine r_icmp_ge (tgt := 132) dX5_cutIntoTokens_21 (by decide) (fun hz => absurd hz (show ¬ _ from (by rw [nI_leI (by omega) (by omega)]; omega))) (fun _ => ?_)
        refine r_aload_n dX5_cutIntoTokens_24 rfl ?_
        refine r_getR dX5_cutIntoTokens_25 fl_X5_9 rfl k0 x0 ?_
        refine r_iload_n dX5_cutIntoTokens_28 rfl ?_
        refine r_bald dX5_cutIntoTokens_29 kx (nI_in8 XL (by omega) (by omega)) (nI_clamp (by omega)) ?_
        rw [tI_ne _ _ ox]
        refine r_istore_n dX5_cutIntoTokens_30 (by decide) ?_
        refine r_iload_n dX5_cutIntoTokens_31 rfl ?_
        refine r_iconst (v := nI 1) dX5_cutIntoTokens_32 (by decide) ?_
        refine r_iadd dX5_cutIntoTokens_33 ?_
        rw [nI_add]
        refine r_istore dX5_cutIntoTokens_34 (by decide) ?_
        refine r_iload_n dX5_cutIntoTokens_36 rfl ?_
        refine r_statE (c_X5_isLetter (I x b)) lk_X5_89 mc_X5_isLetter dX5_cutIntoTokens_37 (by decide) rfl rfl (Nat.le_of_ble_eq_true rfl) ?_
        refine r_if_eq (tgt := 67) dX5_cutIntoTokens_40 (by decide) (fun hz => absurd hz (show ¬ _ from by rw [c1]; decide)) (fun _ => ?_)
        refine r_aload_n dX5_cutIntoTokens_43 rfl ?_
        refine r_iload_n dX5_cutIntoTokens_44 rfl ?_
        refine r_virtE (c_X5_endOfLetters r x XL len b k0 x0 kx (by rw [tI_r _ _ (by decide)]; exact i1) t3 t4 xl (by omega)) lk_X5_93 mc_X5_endOfLetters dX5_cutIntoTokens_45 k0 (by decide) rfl rfl (Nat.le_of_ble_eq_true rfl) ?_
        rw [tI_ne _ _ ox]
        refine r_istore dX5_cutIntoTokens_48 (by decide) ?_
        refine r_aload_n dX5_cutIntoTokens_50 rfl ?_
        refine r_aload_n dX5_cutIntoTokens_51 rfl ?_
        refine r_iload_n dX5_cutIntoTokens_52 rfl ?_
        refine r_iload dX5_cutIntoTokens_53 rfl ?_
        refine r_virtE (c_X5_kindOfWord r x XL b (runE isL (I x) (len - b) b) k0 x0 kx xl (by omega) (by omega)) lk_X5_97 mc_X5_kindOfWord dX5_cutIntoTokens_55 k0 (by decide) rfl rfl (Nat.le_of_ble_eq_true rfl) ?_
        rw [tI_ne _ _ ox]
        refine r_iload_n dX5_cutIntoTokens_58 rfl ?_
        refine r_iload dX5_cutIntoTokens_59 rfl ?_
        refine r_virtV (c_X5_addToken r (b) (runE isL (I x) (len - b) b) (kow (I x) b (runE isL (I x) (len - b) b)) ts k0 k2 k3 k4 x2 x3 x4 (by omega)) lk_X5_100 mc_X5_addToken dX5_cutIntoTokens_61 k0 (by decide) rfl rfl (Nat.le_of_ble_eq_true rfl) ?_
        refine r_goto (tgt := 123) dX5_cutIntoTokens_64 (by decide) ?_
        refine r_iload dX5_cutIntoTokens_123 rfl ?_
        refine r_istore_n dX5_cutIntoTokens_125 (by decide) ?_
        refine r_iinc (v := nI (i + 1)) dX5_cutIntoTokens_126 rfl (nI_inc i) ?_
        refine r_goto (tgt := 9) dX5_cutIntoTokens_129 (by decide) ?_
        have hn := ih (i + 1) (runE isL (I x) (len - b) b) (ts ++ [(kow (I x) b (runE isL (I x) (len - b) b), b, runE isL (I x) (len - b) b)]) (some (.int (I x b))) (some (.int (nI (runE isL (I x) (len - b) b)))) (by omega) (by simp; omega) (by omega)
        rw [List.append_assoc] at hn
        exact hn
      · rw [if_neg c1]
        have c1 : isL (I x b) = false := by simpa using c1
        by_cases c2 : isD (I x b) = true
        · rw [if_pos c2]
          refine r_iload_n dX5_cutIntoTokens_9 rfl ?_
          refine r_sipush (v := nI 500) dX5_cutIntoTokens_10 (by decide) ?_
          refine r_icmp_ge (tgt := 132) dX5_cutIntoTokens_13 (by decide) (fun hz => absurd hz (show ¬ _ from (by rw [nI_leI (by omega) (by omega)]; omega))) (fun _ => ?_)
          refine r_iload_n dX5_cutIntoTokens_16 rfl ?_
          refine r_aload_n dX5_cutIntoTokens_17 rfl ?_
          refine r_getI dX5_cutIntoTokens_18 fl_X5_15 rfl k0 ?_
          rw [tI_r _ _ (by decide), i1]
          refine r_icmp_ge (tgt := 132) dX5_cutIntoTokens_21 (by decide) (fun hz => absurd hz (show ¬ _ from (by rw [nI_leI (by omega) (by omega)]; omega))) (fun _ => ?_)
          refine r_aload_n dX5_cutIntoTokens_24 rfl ?_
          refine r_getR dX5_cutIntoTokens_25 fl_X5_9 rfl k0 x0 ?_
          refine r_iload_n dX5_cutIntoTokens_28 rfl ?_
          refine r_bald dX5_cutIntoTokens_29 kx (nI_in8 XL (by omega) (by omega)) (nI_clamp (by omega)) ?_
          rw [tI_ne _ _ ox]
          refine r_istore_n dX5_cutIntoTokens_30 (by decide) ?_
          refine r_iload_n dX5_cutIntoTokens_31 rfl ?_
          refine r_iconst (v := nI 1) dX5_cutIntoTokens_32 (by decide) ?_
          refine r_iadd dX5_cutIntoTokens_33 ?_
          rw [nI_add]
          refine r_istore dX5_cutIntoTokens_34 (by decide) ?_
          refine r_iload_n dX5_cutIntoTokens_36 rfl ?_
          refine r_statE (c_X5_isLetter (I x b)) lk_X5_89 mc_X5_isLetter dX5_cutIntoTokens_37 (by decide) rfl rfl (Nat.le_of_ble_eq_true rfl) ?_
          refine r_if_eq (tgt := 67) dX5_cutIntoTokens_40 (by decide) (fun _ => ?_) (fun hz => absurd (show _ from by rw [c1]; rfl) hz)
          refine r_iload_n dX5_cutIntoTokens_67 rfl ?_
          refine r_statE (c_X5_isDigit (I x b)) lk_X5_104 mc_X5_isDigit dX5_cutIntoTokens_68 (by decide) rfl rfl (Nat.le_of_ble_eq_true rfl) ?_
          refine r_if_eq (tgt := 92) dX5_cutIntoTokens_71 (by decide) (fun hz => absurd hz (show ¬ _ from by rw [c2]; decide)) (fun _ => ?_)
          refine r_aload_n dX5_cutIntoTokens_74 rfl ?_
          refine r_iload_n dX5_cutIntoTokens_75 rfl ?_
          refine r_virtE (c_X5_endOfDigits r x XL len b k0 x0 kx (by rw [tI_r _ _ (by decide)]; exact i1) t3 t4 xl (by omega)) lk_X5_107 mc_X5_endOfDigits dX5_cutIntoTokens_76 k0 (by decide) rfl rfl (Nat.le_of_ble_eq_true rfl) ?_
          rw [tI_ne _ _ ox]
          refine r_istore dX5_cutIntoTokens_79 (by decide) ?_
          refine r_aload_n dX5_cutIntoTokens_81 rfl ?_
          refine r_iconst (v := nI 2) dX5_cutIntoTokens_82 (by decide) ?_
          refine r_iload_n dX5_cutIntoTokens_83 rfl ?_
          refine r_iload dX5_cutIntoTokens_84 rfl ?_
          refine r_virtV (c_X5_addToken r (b) (runE isD (I x) (len - b) b) (nI 2) ts k0 k2 k3 k4 x2 x3 x4 (by omega)) lk_X5_100 mc_X5_addToken dX5_cutIntoTokens_86 k0 (by decide) rfl rfl (Nat.le_of_ble_eq_true rfl) ?_
          refine r_goto (tgt := 123) dX5_cutIntoTokens_89 (by decide) ?_
          refine r_iload dX5_cutIntoTokens_123 rfl ?_
          refine r_istore_n dX5_cutIntoTokens_125 (by decide) ?_
          refine r_iinc (v := nI (i + 1)) dX5_cutIntoTokens_126 rfl (nI_inc i) ?_
          refine r_goto (tgt := 9) dX5_cutIntoTokens_129 (by decide) ?_
          have hn := ih (i + 1) (runE isD (I x) (len - b) b) (ts ++ [(nI 2, b, runE isD (I x) (len - b) b)]) (some (.int (I x b))) (some (.int (nI (runE isD (I x) (len - b) b)))) (by omega) (by simp; omega) (by omega)
          rw [List.append_assoc] at hn
          exact hn
        · rw [if_neg c2]
          have c2 : isD (I x b) = false := by simpa using c2
          by_cases c3 : I x b = nI 32
          · rw [if_pos (Or.inl c3)]
            refine r_iload_n dX5_cutIntoTokens_9 rfl ?_
            refine r_sipush (v := nI 500) dX5_cutIntoTokens_10 (by decide) ?_
            refine r_icmp_ge (tgt := 132) dX5_cutIntoTokens_13 (by decide) (fun hz => absurd hz (show ¬ _ from (by rw [nI_leI (by omega) (by omega)]; omega))) (fun _ => ?_)
            refine r_iload_n dX5_cutIntoTokens_16 rfl ?_
            refine r_aload_n dX5_cutIntoTokens_17 rfl ?_
            refine r_getI dX5_cutIntoTokens_18 fl_X5_15 rfl k0 ?_
            rw [tI_r _ _ (by decide), i1]
            refine r_icmp_ge (tgt := 132) dX5_cutIntoTokens_21 (by decide) (fun hz => absurd hz (show ¬ _ from (by rw [nI_leI (by omega) (by omega)]; omega))) (fun _ => ?_)
            refine r_aload_n dX5_cutIntoTokens_24 rfl ?_
            refine r_getR dX5_cutIntoTokens_25 fl_X5_9 rfl k0 x0 ?_
            refine r_iload_n dX5_cutIntoTokens_28 rfl ?_
            refine r_bald dX5_cutIntoTokens_29 kx (nI_in8 XL (by omega) (by omega)) (nI_clamp (by omega)) ?_
            rw [tI_ne _ _ ox]
            refine r_istore_n dX5_cutIntoTokens_30 (by decide) ?_
            refine r_iload_n dX5_cutIntoTokens_31 rfl ?_
            refine r_iconst (v := nI 1) dX5_cutIntoTokens_32 (by decide) ?_
            refine r_iadd dX5_cutIntoTokens_33 ?_
            rw [nI_add]
            refine r_istore dX5_cutIntoTokens_34 (by decide) ?_
            refine r_iload_n dX5_cutIntoTokens_36 rfl ?_
            refine r_statE (c_X5_isLetter (I x b)) lk_X5_89 mc_X5_isLetter dX5_cutIntoTokens_37 (by decide) rfl rfl (Nat.le_of_ble_eq_true rfl) ?_
            refine r_if_eq (tgt := 67) dX5_cutIntoTokens_40 (by decide) (fun _ => ?_) (fun hz => absurd (show _ from by rw [c1]; rfl) hz)
            refine r_iload_n dX5_cutIntoTokens_67 rfl ?_
            refine r_statE (c_X5_isDigit (I x b)) lk_X5_104 mc_X5_isDigit dX5_cutIntoTokens_68 (by decide) rfl rfl (Nat.le_of_ble_eq_true rfl) ?_
            refine r_if_eq (tgt := 92) dX5_cutIntoTokens_71 (by decide) (fun _ => ?_) (fun hz => absurd (show _ from by rw [c2]; rfl) hz)
            refine r_iload_n dX5_cutIntoTokens_92 rfl ?_
            refine r_bipush (v := nI 32) dX5_cutIntoTokens_93 (by decide) ?_
            refine r_icmp_eq (tgt := 123) dX5_cutIntoTokens_95 (by decide) (fun _ => ?_) (fun hz => absurd (show _ from c3) hz)
            refine r_iload dX5_cutIntoTokens_123 rfl ?_
            refine r_istore_n dX5_cutIntoTokens_125 (by decide) ?_
            refine r_iinc (v := nI (i + 1)) dX5_cutIntoTokens_126 rfl (nI_inc i) ?_
            refine r_goto (tgt := 9) dX5_cutIntoTokens_129 (by decide) ?_
            have hn := ih (i + 1) (b + 1) (ts) (some (.int (I x b))) (some (.int (nI (b + 1)))) (by omega) (by omega) (by omega)
            exact hn
          · by_cases c4 : I x b = nI 10
            · rw [if_pos (Or.inr c4)]
              refine r_iload_n dX5_cutIntoTokens_9 rfl ?_
              refine r_sipush (v := nI 500) dX5_cutIntoTokens_10 (by decide) ?_
              refine r_icmp_ge (tgt := 132) dX5_cutIntoTokens_13 (by decide) (fun hz => absurd hz (show ¬ _ from (by rw [nI_leI (by omega) (by omega)]; omega))) (fun _ => ?_)
              refine r_iload_n dX5_cutIntoTokens_16 rfl ?_
              refine r_aload_n dX5_cutIntoTokens_17 rfl ?_
              refine r_getI dX5_cutIntoTokens_18 fl_X5_15 rfl k0 ?_
              rw [tI_r _ _ (by decide), i1]
              refine r_icmp_ge (tgt := 132) dX5_cutIntoTokens_21 (by decide) (fun hz => absurd hz (show ¬ _ from (by rw [nI_leI (by omega) (by omega)]; omega))) (fun _ => ?_)
              refine r_aload_n dX5_cutIntoTokens_24 rfl ?_
              refine r_getR dX5_cutIntoTokens_25 fl_X5_9 rfl k0 x0 ?_
              refine r_iload_n dX5_cutIntoTokens_28 rfl ?_
              refine r_bald dX5_cutIntoTokens_29 kx (nI_in8 XL (by omega) (by omega)) (nI_clamp (by omega)) ?_
              rw [tI_ne _ _ ox]
              refine r_istore_n dX5_cutIntoTokens_30 (by decide) ?_
              refine r_iload_n dX5_cutIntoTokens_31 rfl ?_
              refine r_iconst (v := nI 1) dX5_cutIntoTokens_32 (by decide) ?_
              refine r_iadd dX5_cutIntoTokens_33 ?_
              rw [nI_add]
              refine r_istore dX5_cutIntoTokens_34 (by decide) ?_
              refine r_iload_n dX5_cutIntoTokens_36 rfl ?_
              refine r_statE (c_X5_isLetter (I x b)) lk_X5_89 mc_X5_isLetter dX5_cutIntoTokens_37 (by decide) rfl rfl (Nat.le_of_ble_eq_true rfl) ?_
              refine r_if_eq (tgt := 67) dX5_cutIntoTokens_40 (by decide) (fun _ => ?_) (fun hz => absurd (show _ from by rw [c1]; rfl) hz)
              refine r_iload_n dX5_cutIntoTokens_67 rfl ?_
              refine r_statE (c_X5_isDigit (I x b)) lk_X5_104 mc_X5_isDigit dX5_cutIntoTokens_68 (by decide) rfl rfl (Nat.le_of_ble_eq_true rfl) ?_
              refine r_if_eq (tgt := 92) dX5_cutIntoTokens_71 (by decide) (fun _ => ?_) (fun hz => absurd (show _ from by rw [c2]; rfl) hz)
              refine r_iload_n dX5_cutIntoTokens_92 rfl ?_
              refine r_bipush (v := nI 32) dX5_cutIntoTokens_93 (by decide) ?_
              refine r_icmp_eq (tgt := 123) dX5_cutIntoTokens_95 (by decide) (fun hz => absurd hz (show ¬ _ from c3)) (fun _ => ?_)
              refine r_iload_n dX5_cutIntoTokens_98 rfl ?_
              refine r_bipush (v := nI 10) dX5_cutIntoTokens_99 (by decide) ?_
              refine r_icmp_eq (tgt := 123) dX5_cutIntoTokens_101 (by decide) (fun _ => ?_) (fun hz => absurd (show _ from c4) hz)
              refine r_iload dX5_cutIntoTokens_123 rfl ?_
              refine r_istore_n dX5_cutIntoTokens_125 (by decide) ?_
              refine r_iinc (v := nI (i + 1)) dX5_cutIntoTokens_126 rfl (nI_inc i) ?_
              refine r_goto (tgt := 9) dX5_cutIntoTokens_129 (by decide) ?_
              have hn := ih (i + 1) (b + 1) (ts) (some (.int (I x b))) (some (.int (nI (b + 1)))) (by omega) (by omega) (by omega)
              exact hn
            · rw [if_neg (fun z => z.elim c3 c4)]
              by_cases c5 : isG (I x b) = true
              · rw [if_pos c5]
                refine r_iload_n dX5_cutIntoTokens_9 rfl ?_
                refine r_sipush (v := nI 500) dX5_cutIntoTokens_10 (by decide) ?_
                refine r_icmp_ge (tgt := 132) dX5_cutIntoTokens_13 (by decide) (fun hz => absurd hz (show ¬ _ from (by rw [nI_leI (by omega) (by omega)]; omega))) (fun _ => ?_)
                refine r_iload_n dX5_cutIntoTokens_16 rfl ?_
                refine r_aload_n dX5_cutIntoTokens_17 rfl ?_
                refine r_getI dX5_cutIntoTokens_18 fl_X5_15 rfl k0 ?_
                rw [tI_r _ _ (by decide), i1]
                refine r_icmp_ge (tgt := 132) dX5_cutIntoTokens_21 (by decide) (fun hz => absurd hz (show ¬ _ from (by rw [nI_leI (by omega) (by omega)]; omega))) (fun _ => ?_)
                refine r_aload_n dX5_cutIntoTokens_24 rfl ?_
                refine r_getR dX5_cutIntoTokens_25 fl_X5_9 rfl k0 x0 ?_
                refine r_iload_n dX5_cutIntoTokens_28 rfl ?_
                refine r_bald dX5_cutIntoTokens_29 kx (nI_in8 XL (by omega) (by omega)) (nI_clamp (by omega)) ?_
                rw [tI_ne _ _ ox]
                refine r_istore_n dX5_cutIntoTokens_30 (by decide) ?_
                refine r_iload_n dX5_cutIntoTokens_31 rfl ?_
                refine r_iconst (v := nI 1) dX5_cutIntoTokens_32 (by decide) ?_
                refine r_iadd dX5_cutIntoTokens_33 ?_
                rw [nI_add]
                refine r_istore dX5_cutIntoTokens_34 (by decide) ?_
                refine r_iload_n dX5_cutIntoTokens_36 rfl ?_
                refine r_statE (c_X5_isLetter (I x b)) lk_X5_89 mc_X5_isLetter dX5_cutIntoTokens_37 (by decide) rfl rfl (Nat.le_of_ble_eq_true rfl) ?_
                refine r_if_eq (tgt := 67) dX5_cutIntoTokens_40 (by decide) (fun _ => ?_) (fun hz => absurd (show _ from by rw [c1]; rfl) hz)
                refine r_iload_n dX5_cutIntoTokens_67 rfl ?_
                refine r_statE (c_X5_isDigit (I x b)) lk_X5_104 mc_X5_isDigit dX5_cutIntoTokens_68 (by decide) rfl rfl (Nat.le_of_ble_eq_true rfl) ?_
                refine r_if_eq (tgt := 92) dX5_cutIntoTokens_71 (by decide) (fun _ => ?_) (fun hz => absurd (show _ from by rw [c2]; rfl) hz)
                refine r_iload_n dX5_cutIntoTokens_92 rfl ?_
                refine r_bipush (v := nI 32) dX5_cutIntoTokens_93 (by decide) ?_
                refine r_icmp_eq (tgt := 123) dX5_cutIntoTokens_95 (by decide) (fun hz => absurd hz (show ¬ _ from c3)) (fun _ => ?_)
                refine r_iload_n dX5_cutIntoTokens_98 rfl ?_
                refine r_bipush (v := nI 10) dX5_cutIntoTokens_99 (by decide) ?_
                refine r_icmp_eq (tgt := 123) dX5_cutIntoTokens_101 (by decide) (fun hz => absurd hz (show ¬ _ from c4)) (fun _ => ?_)
                refine r_aload_n dX5_cutIntoTokens_104 rfl ?_
                refine r_iload_n dX5_cutIntoTokens_105 rfl ?_
                refine r_statE (c_X5_isSign (I x b)) lk_X5_110 mc_X5_isSign dX5_cutIntoTokens_106 (by decide) rfl rfl (Nat.le_of_ble_eq_true rfl) ?_
                refine r_if_eq (tgt := 116) dX5_cutIntoTokens_109 (by decide) (fun hz => absurd hz (show ¬ _ from by rw [c5]; decide)) (fun _ => ?_)
                refine r_iload_n dX5_cutIntoTokens_112 rfl ?_
                refine r_goto (tgt := 117) dX5_cutIntoTokens_113 (by decide) ?_
                refine r_iload_n dX5_cutIntoTokens_117 rfl ?_
                refine r_iload dX5_cutIntoTokens_118 rfl ?_
                refine r_virtV (c_X5_addToken r (b) (b + 1) (I x b) ts k0 k2 k3 k4 x2 x3 x4 (by omega)) lk_X5_100 mc_X5_addToken dX5_cutIntoTokens_120 k0 (by decide) rfl rfl (Nat.le_of_ble_eq_true rfl) ?_
                refine r_iload dX5_cutIntoTokens_123 rfl ?_
                refine r_istore_n dX5_cutIntoTokens_125 (by decide) ?_
                refine r_iinc (v := nI (i + 1)) dX5_cutIntoTokens_126 rfl (nI_inc i) ?_
                refine r_goto (tgt := 9) dX5_cutIntoTokens_129 (by decide) ?_
                have hn := ih (i + 1) (b + 1) (ts ++ [(I x b, b, b + 1)]) (some (.int (I x b))) (some (.int (nI (b + 1)))) (by omega) (by simp; omega) (by omega)
                rw [List.append_assoc] at hn
                exact hn
              · rw [if_neg c5]
                have c5 : isG (I x b) = false := by simpa using c5
                refine r_iload_n dX5_cutIntoTokens_9 rfl ?_
                refine r_sipush (v := nI 500) dX5_cutIntoTokens_10 (by decide) ?_
                refine r_icmp_ge (tgt := 132) dX5_cutIntoTokens_13 (by decide) (fun hz => absurd hz (show ¬ _ from (by rw [nI_leI (by omega) (by omega)]; omega))) (fun _ => ?_)
                refine r_iload_n dX5_cutIntoTokens_16 rfl ?_
                refine r_aload_n dX5_cutIntoTokens_17 rfl ?_
                refine r_getI dX5_cutIntoTokens_18 fl_X5_15 rfl k0 ?_
                rw [tI_r _ _ (by decide), i1]
                refine r_icmp_ge (tgt := 132) dX5_cutIntoTokens_21 (by decide) (fun hz => absurd hz (show ¬ _ from (by rw [nI_leI (by omega) (by omega)]; omega))) (fun _ => ?_)
                refine r_aload_n dX5_cutIntoTokens_24 rfl ?_
                refine r_getR dX5_cutIntoTokens_25 fl_X5_9 rfl k0 x0 ?_
                refine r_iload_n dX5_cutIntoTokens_28 rfl ?_
                refine r_bald dX5_cutIntoTokens_29 kx (nI_in8 XL (by omega) (by omega)) (nI_clamp (by omega)) ?_
                rw [tI_ne _ _ ox]
                refine r_istore_n dX5_cutIntoTokens_30 (by decide) ?_
                refine r_iload_n dX5_cutIntoTokens_31 rfl ?_
                refine r_iconst (v := nI 1) dX5_cutIntoTokens_32 (by decide) ?_
                refine r_iadd dX5_cutIntoTokens_33 ?_
                rw [nI_add]
                refine r_istore dX5_cutIntoTokens_34 (by decide) ?_
                refine r_iload_n dX5_cutIntoTokens_36 rfl ?_
                refine r_statE (c_X5_isLetter (I x b)) lk_X5_89 mc_X5_isLetter dX5_cutIntoTokens_37 (by decide) rfl rfl (Nat.le_of_ble_eq_true rfl) ?_
                refine r_if_eq (tgt := 67) dX5_cutIntoTokens_40 (by decide) (fun _ => ?_) (fun hz => absurd (show _ from by rw [c1]; rfl) hz)
                refine r_iload_n dX5_cutIntoTokens_67 rfl ?_
                refine r_statE (c_X5_isDigit (I x b)) lk_X5_104 mc_X5_isDigit dX5_cutIntoTokens_68 (by decide) rfl rfl (Nat.le_of_ble_eq_true rfl) ?_
                refine r_if_eq (tgt := 92) dX5_cutIntoTokens_71 (by decide) (fun _ => ?_) (fun hz => absurd (show _ from by rw [c2]; rfl) hz)
                refine r_iload_n dX5_cutIntoTokens_92 rfl ?_
                refine r_bipush (v := nI 32) dX5_cutIntoTokens_93 (by decide) ?_
                refine r_icmp_eq (tgt := 123) dX5_cutIntoTokens_95 (by decide) (fun hz => absurd hz (show ¬ _ from c3)) (fun _ => ?_)
                refine r_iload_n dX5_cutIntoTokens_98 rfl ?_
                refine r_bipush (v := nI 10) dX5_cutIntoTokens_99 (by decide) ?_
                refine r_icmp_eq (tgt := 123) dX5_cutIntoTokens_101 (by decide) (fun hz => absurd hz (show ¬ _ from c4)) (fun _ => ?_)
                refine r_aload_n dX5_cutIntoTokens_104 rfl ?_
                refine r_iload_n dX5_cutIntoTokens_105 rfl ?_
                refine r_statE (c_X5_isSign (I x b)) lk_X5_110 mc_X5_isSign dX5_cutIntoTokens_106 (by decide) rfl rfl (Nat.le_of_ble_eq_true rfl) ?_
                refine r_if_eq (tgt := 116) dX5_cutIntoTokens_109 (by decide) (fun _ => ?_) (fun hz => absurd (show _ from by rw [c5]; rfl) hz)
                refine r_iconst (v := nI 1) dX5_cutIntoTokens_116 (by decide) ?_
                refine r_iload_n dX5_cutIntoTokens_117 rfl ?_
                refine r_iload dX5_cutIntoTokens_118 rfl ?_
                refine r_virtV (c_X5_addToken r (b) (b + 1) (nI 1) ts k0 k2 k3 k4 x2 x3 x4 (by omega)) lk_X5_100 mc_X5_addToken dX5_cutIntoTokens_120 k0 (by decide) rfl rfl (Nat.le_of_ble_eq_true rfl) ?_
                refine r_iload dX5_cutIntoTokens_123 rfl ?_
                refine r_istore_n dX5_cutIntoTokens_125 (by decide) ?_
                refine r_iinc (v := nI (i + 1)) dX5_cutIntoTokens_126 rfl (nI_inc i) ?_
                refine r_goto (tgt := 9) dX5_cutIntoTokens_129 (by decide) ?_
                have hn := ih (i + 1) (b + 1) (ts ++ [(nI 1, b, b + 1)]) (some (.int (I x b))) (some (.int (nI (b + 1)))) (by omega) (by simp; omega) (by omega)
                rw [List.append_assoc] at hn
                exact hn
    · rw [if_neg c0]
      refine r_iload_n dX5_cutIntoTokens_9 rfl ?_
      refine r_sipush (v := nI 500) dX5_cutIntoTokens_10 (by decide) ?_
      refine r_icmp_ge (tgt := 132) dX5_cutIntoTokens_13 (by decide) (fun hz => absurd hz (show ¬ _ from (by rw [nI_leI (by omega) (by omega)]; omega))) (fun _ => ?_)
      refine r_iload_n dX5_cutIntoTokens_16 rfl ?_
      refine r_aload_n dX5_cutIntoTokens_17 rfl ?_
      refine r_getI dX5_cutIntoTokens_18 fl_X5_15 rfl k0 ?_
      rw [tI_r _ _ (by decide), i1]
      refine r_icmp_ge (tgt := 132) dX5_cutIntoTokens_21 (by decide) (fun _ => ?_) (fun hz => absurd (show _ from (by rw [nI_leI (by omega) (by omega)]; omega)) hz)
      refine r_aload_n dX5_cutIntoTokens_132 rfl ?_
      refine r_iconst (v := nI 0) dX5_cutIntoTokens_133 (by decide) ?_
      refine r_aload_n dX5_cutIntoTokens_134 rfl ?_
      refine r_getI dX5_cutIntoTokens_135 fl_X5_15 rfl k0 ?_
      rw [tI_r _ _ (by decide), i1]
      refine r_aload_n dX5_cutIntoTokens_138 rfl ?_
      refine r_getI dX5_cutIntoTokens_139 fl_X5_15 rfl k0 ?_
      rw [tI_r _ _ (by decide), i1]
      refine r_virtV (c_X5_addToken r len len (nI 0) ts k0 k2 k3 k4 x2 x3 x4 (by omega)) lk_X5_100 mc_X5_addToken dX5_cutIntoTokens_142 k0 (by decide) rfl rfl (Nat.le_of_ble_eq_true rfl) ?_
      refine r_vret rfl dX5_cutIntoTokens_145 ?_
      rw [List.nil_append]
      exact am_is.mk

theorem tI_nil (r : Nat) (I : mI) : va_up I r (va_up (I r) 5 (nI 0)) = tI r [] I := by
  funext a
  by_cases h : a = r
  · subst h
    rw [am_up_s]
    funext j
    by_cases hj : j = 5
    · subst hj; rw [am_up_s, tI_5]; rfl
    · rw [am_up_n _ _ hj, tI_r _ _ hj]
  · rw [am_up_n _ _ h]
    simp [tI, h, trow]
    by_cases h2 : a = r + 2
    · simp [h2]; rfl
    · by_cases h3 : a = r + 3
      · simp [h3]; rfl
      · by_cases h4 : a = r + 4
        · simp [h4]; rfl
        · simp [h2, h3, h4]
set_option maxHeartbeats 4000000 in
set_option maxRecDepth 100000 in
theorem c_X5_cutIntoTokens (r x XL len : Nat) {n : Nat} {kd : mK} {I : mI} {J : mJ} {P : mP} (k0 : kd r = some (0, 5)) (k2 : kd (r + 2) = some (1, 501)) (k3 : kd (r + 3) = some (1, 501)) (k4 : kd (r + 4) = some (1, 501)) (x2 : P r 2 = some (r + 2)) (x3 : P r 3 = some (r + 3)) (x4 : P r 4 = some (r + 4)) (x0 : P r 0 = some x) (kx : kd x = some (2, XL)) (ox : x < r ∨ r + 4 < x) (i1 : I r 1 = nI len) (t3 : len ≤ 500) (t4 : len ≤ XL) (xl : XL < 2 ^ 30) : Ct yX5_cutIntoTokens cX5_cutIntoTokens 5 none 7 0 0 [.ref r] n kd I J P (am_is none n kd (tI r (lexF (I x) len 500 0 ++ [(nI 0, len, len)]) I) J P) := by
  refine ct_of 4 (by decide +kernel) (Nat.le_of_ble_eq_true rfl) rfl ?_
  refine r_aload_n dX5_cutIntoTokens_0 rfl ?_
  refine r_iconst (v := nI 0) dX5_cutIntoTokens_1 (by decide) ?_
  refine r_putI dX5_cutIntoTokens_2 fl_X5_29 rfl rfl k0 ?_
  rw [tI_nil]
  refine r_iconst (v := nI 0) dX5_cutIntoTokens_5 (by decide) ?_
  refine r_istore_n dX5_cutIntoTokens_6 (by decide) ?_
  refine r_iconst (v := nI 0) dX5_cutIntoTokens_7 (by decide) ?_
  refine r_istore_n dX5_cutIntoTokens_8 (by decide) ?_
  exact w_X5_cutIntoTokens r x XL len k0 k2 k3 k4 x2 x3 x4 x0 kx ox i1 t3 t4 xl 500 0 0 [] none none (by omega) (by decide) (by omega)

theorem lexF_in (X : Nat → Int32) (len : Nat) : ∀ (k b : Nat), b ≤ len → ∀ t ∈ lexF X len k b, t.2.1 ≤ t.2.2 ∧ t.2.2 ≤ len
  | 0, b, _, t, h => by simp [lexF] at h
  | k + 1, b, hb, t, h => by
    unfold lexF at h
    have e1 := runE_le isL X (len - b) b
    have e2 := runE_le isD X (len - b) b
    by_cases c0 : b < len
    · rw [if_pos c0] at h
      split at h
      · rcases List.mem_cons.mp h with h | h
        · subst h; dsimp only; omega
        · exact lexF_in X len k _ (by omega) t h
      split at h
      · rcases List.mem_cons.mp h with h | h
        · subst h; dsimp only; omega
        · exact lexF_in X len k _ (by omega) t h
      split at h
      · exact lexF_in X len k _ (by omega) t h
      · rcases List.mem_cons.mp h with h | h
        · subst h; dsimp only; omega
        · exact lexF_in X len k _ (by omega) t h
    · rw [if_neg c0] at h
      simp at h
theorem lexF_len (X : Nat → Int32) (len : Nat) : ∀ (k b : Nat), (lexF X len k b).length ≤ k
  | 0, b => by simp [lexF]
  | k + 1, b => by
    unfold lexF
    split
    · split
      · simp; exact lexF_len X len k _
      split
      · simp; exact lexF_len X len k _
      split
      · have := lexF_len X len k (b + 1); omega
      · simp; exact lexF_len X len k _
    · simp
