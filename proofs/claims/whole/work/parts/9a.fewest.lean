/-! LOOKING AT DOORS: the fewest looks -/
theorem pw8 {H : Nat} (h : H ≤ 8) : 2 ^ H ≤ 256 := show 2 ^ H ≤ 2 ^ 8 from Nat.pow_le_pow_right (by decide) h
theorem or_lt {H D h : Nat} (hh : h < H) (hD : D < 2 ^ H) : D ||| 2 ^ h < 2 ^ H := Nat.or_lt_two_pow hD (Nat.pow_lt_pow_right (by decide) hh)
def gF (nm : Nat → Nat → Nat) (c H D i : Nat) : Nat := gV (alF nm c) c H (8 - pc8 D) D (clB nm c H D i)
theorem gF_8 (nm : Nat → Nat → Nat) (c H D i : Nat) : gF nm c H D i ≤ 8 := gV_8 _ _ _ _ _ _
def KI (nm : Nat → Nat → Nat) (c H : Nat) (A : Nat → Int32) : Prop := ∀ D i, D < 2 ^ H → i < c → A (D * 40 + i) = -1 ∨ A (D * 40 + i) = nI (gF nm c H D i)
theorem KI.put {nm : Nat → Nat → Nat} {c H : Nat} {A : Nat → Int32} (hA : KI nm c H A) (hc : c ≤ 40) {D i : Nat} (hi : i < c) : KI nm c H (va_up A (D * 40 + i) (nI (gF nm c H D i))) := by
  intro D' i' hD hi'
  by_cases e : D' * 40 + i' = D * 40 + i
  · have e1 : D' = D := by omega
    have e2 : i' = i := by omega
    subst e1; subst e2
    rw [am_up_s]; exact Or.inr rfl
  · rw [am_up_n _ _ e]; exact hA D' i' hD hi'
theorem one0 {w : Nat} (hw : w < 2 ^ 40) : lg_cmp (jN w &&& (jN w - 1)) 0 = 0 ↔ one w = true := by rw [lg_cmp_eq, jN_one hw]
def lkS (k z c H : Nat) (nm : Nat → Nat → Nat) (kd : mK) (I : mI) (J : mJ) (P : mP) : Prop := kG kd P k ∧ P k 3 = some z ∧ kd z = some (1, 10240) ∧ k ≠ z ∧ I k 0 = nI H ∧ I k 1 = nI c ∧ (∀ h i, h < H → i < c → J (k + 1) (h * 40 + i) = jN (alF nm c h i)) ∧ c ≤ 40 ∧ H ≤ 8
theorem dX3_allNumberings_0 : decode cX3_allNumberings 0 = .ok (.lconst 1, 1) := by decide +kernel
theorem dX3_allNumberings_1 : decode cX3_allNumberings 1 = .ok (.aload_n 0, 1) := by decide +kernel
theorem dX3_allNumberings_2 : decode cX3_allNumberings 2 = .ok (.getfield 15, 3) := by decide +kernel
theorem dX3_allNumberings_5 : decode cX3_allNumberings 5 = .ok (.lshl, 1) := by decide +kernel
theorem dX3_allNumberings_6 : decode cX3_allNumberings 6 = .ok (.lconst 1, 1) := by decide +kernel
theorem dX3_allNumberings_7 : decode cX3_allNumberings 7 = .ok (.lsub, 1) := by decide +kernel
theorem dX3_allNumberings_8 : decode cX3_allNumberings 8 = .ok (.lreturn, 1) := by decide +kernel
set_option maxHeartbeats 4000000 in
set_option maxRecDepth 100000 in
theorem c_X3_allNumberings (k c : Nat) {n : Nat} {kd : mK} {I : mI} {J : mJ} {P : mP} (hG : kG kd P k) (hc : c ≤ 40) (h1 : I k 1 = nI c) : Ct yX3_allNumberings cX3_allNumberings 1 (some .long) 1 0 0 [.ref k] n kd I J P (am_is (some (.long (jN (2 ^ c - 1)))) n kd I J P) := by
  refine ct_of 0 (by decide +kernel) (Nat.le_of_ble_eq_true rfl) rfl ?_
  refine r_lconst (v := 1) dX3_allNumberings_0 (by decide) ?_
  refine r_aload_n dX3_allNumberings_1 rfl ?_
  refine r_getI dX3_allNumberings_2 fl_X3_15 rfl hG.1 ?_
  rw [h1]
  refine r_lshl dX3_allNumberings_5 ?_
  refine r_lconst (v := 1) dX3_allNumberings_6 (by decide) ?_
  refine r_lsub dX3_allNumberings_7 ?_
  rw [sh_jN c hc]
  refine r_lret rfl dX3_allNumberings_8 ?_
  exact am_is.mk

theorem dX3_scratchRow_0 : decode cX3_scratchRow 0 = .ok (.aload_n 0, 1) := by decide +kernel
theorem dX3_scratchRow_1 : decode cX3_scratchRow 1 = .ok (.getfield 22, 3) := by decide +kernel
theorem dX3_scratchRow_4 : decode cX3_scratchRow 4 = .ok (.ifnonnull 12, 3) := by decide +kernel
theorem dX3_scratchRow_7 : decode cX3_scratchRow 7 = .ok (.aload_n 0, 1) := by decide +kernel
theorem dX3_scratchRow_8 : decode cX3_scratchRow 8 = .ok (.sipush 10240, 3) := by decide +kernel
theorem dX3_scratchRow_11 : decode cX3_scratchRow 11 = .ok (.newarray .int, 2) := by decide +kernel
theorem dX3_scratchRow_13 : decode cX3_scratchRow 13 = .ok (.putfield 22, 3) := by decide +kernel
theorem dX3_scratchRow_16 : decode cX3_scratchRow 16 = .ok (.aload_n 0, 1) := by decide +kernel
theorem dX3_scratchRow_17 : decode cX3_scratchRow 17 = .ok (.getfield 22, 3) := by decide +kernel
theorem dX3_scratchRow_20 : decode cX3_scratchRow 20 = .ok (.areturn, 1) := by decide +kernel
set_option maxHeartbeats 4000000 in
set_option maxRecDepth 100000 in
theorem c_X3_scratchRow (k z : Nat) {n : Nat} {kd : mK} {I : mI} {J : mJ} {P : mP} (hG : kG kd P k) (h3 : P k 3 = some z) : Ct yX3_scratchRow cX3_scratchRow 1 (some (.array .int)) 1 0 0 [.ref k] n kd I J P (am_is (some (.ref z)) n kd I J P) := by
  refine ct_of 0 (by decide +kernel) (Nat.le_of_ble_eq_true rfl) rfl ?_
  refine r_aload_n dX3_scratchRow_0 rfl ?_
  refine r_getR dX3_scratchRow_1 fl_X3_22 rfl hG.1 h3 ?_
  refine r_nonnull (tgt := 16) dX3_scratchRow_4 (by decide) ?_
  refine r_aload_n dX3_scratchRow_16 rfl ?_
  refine r_getR dX3_scratchRow_17 fl_X3_22 rfl hG.1 h3 ?_
  refine r_aret rfl dX3_scratchRow_20 ?_
  exact am_is.mk

set_option maxHeartbeats 4000000 in
set_option maxRecDepth 100000 in
theorem c_X3_scratchRow_new (k : Nat) {n : Nat} {kd : mK} {I : mI} {J : mJ} {P : mP} (hG : kG kd P k) (h3 : P k 3 = none) (hn : n < 1000000) (hk : k ≠ n) : Ct yX3_scratchRow cX3_scratchRow 1 (some (.array .int)) 1 1 10240 [.ref k] n kd I J P (am_is (some (.ref n)) (n + 1) (va_up kd n (some (1, 10240))) (va_up I n (fun _ => 0)) (va_up J n (fun _ => 0)) (va_up P k (va_up (P k) 3 (some n)))) := by
  refine ct_of 0 (by decide +kernel) (Nat.le_of_ble_eq_true rfl) rfl ?_
  have k0 : va_up kd n (some (1, 10240)) k = some (0, 3) := by rw [am_up_n _ _ hk]; exact hG.1
  refine r_aload_n dX3_scratchRow_0 rfl ?_
  refine r_getN dX3_scratchRow_1 fl_X3_22 rfl hG.1 h3 ?_
  refine r_nonnullN dX3_scratchRow_4 ?_
  refine r_aload_n dX3_scratchRow_7 rfl ?_
  refine r_sipush (v := nI 10240) dX3_scratchRow_8 (by decide) ?_
  refine r_newInt (N := 10240) (kc2 := 0) (ks2 := 0) dX3_scratchRow_11 (by decide) (by decide) (by decide) hn (by decide) (by decide) ?_
  refine r_putR dX3_scratchRow_13 fl_X3_22 (Or.inl rfl) rfl k0 hn ?_
  refine r_aload_n dX3_scratchRow_16 rfl ?_
  refine r_getR (b := n) dX3_scratchRow_17 fl_X3_22 rfl k0 (by rw [am_up_s, am_up_s]) ?_
  refine r_aret rfl dX3_scratchRow_20 ?_
  exact am_is.mk

theorem dX3_fewestLooksAmong_0 : decode cX3_fewestLooksAmong 0 = .ok (.lload_n 1, 1) := by decide +kernel
theorem dX3_fewestLooksAmong_1 : decode cX3_fewestLooksAmong 1 = .ok (.lload_n 1, 1) := by decide +kernel
theorem dX3_fewestLooksAmong_2 : decode cX3_fewestLooksAmong 2 = .ok (.lconst 1, 1) := by decide +kernel
theorem dX3_fewestLooksAmong_3 : decode cX3_fewestLooksAmong 3 = .ok (.lsub, 1) := by decide +kernel
theorem dX3_fewestLooksAmong_4 : decode cX3_fewestLooksAmong 4 = .ok (.land, 1) := by decide +kernel
theorem dX3_fewestLooksAmong_5 : decode cX3_fewestLooksAmong 5 = .ok (.lconst 0, 1) := by decide +kernel
theorem dX3_fewestLooksAmong_6 : decode cX3_fewestLooksAmong 6 = .ok (.lcmp, 1) := by decide +kernel
theorem dX3_fewestLooksAmong_7 : decode cX3_fewestLooksAmong 7 = .ok (.ifCond .ne 5, 3) := by decide +kernel
theorem dX3_fewestLooksAmong_10 : decode cX3_fewestLooksAmong 10 = .ok (.iconst 0, 1) := by decide +kernel
theorem dX3_fewestLooksAmong_11 : decode cX3_fewestLooksAmong 11 = .ok (.ireturn, 1) := by decide +kernel
theorem dX3_fewestLooksAmong_12 : decode cX3_fewestLooksAmong 12 = .ok (.aload_n 0, 1) := by decide +kernel
theorem dX3_fewestLooksAmong_13 : decode cX3_fewestLooksAmong 13 = .ok (.invokevirtual 40, 3) := by decide +kernel
theorem dX3_fewestLooksAmong_16 : decode cX3_fewestLooksAmong 16 = .ok (.astore 4, 2) := by decide +kernel
theorem dX3_fewestLooksAmong_18 : decode cX3_fewestLooksAmong 18 = .ok (.iload_n 3, 1) := by decide +kernel
theorem dX3_fewestLooksAmong_19 : decode cX3_fewestLooksAmong 19 = .ok (.bipush 40, 2) := by decide +kernel
theorem dX3_fewestLooksAmong_21 : decode cX3_fewestLooksAmong 21 = .ok (.imul, 1) := by decide +kernel
theorem dX3_fewestLooksAmong_22 : decode cX3_fewestLooksAmong 22 = .ok (.lload_n 1, 1) := by decide +kernel
theorem dX3_fewestLooksAmong_23 : decode cX3_fewestLooksAmong 23 = .ok (.invokestatic 56, 3) := by decide +kernel
theorem dX3_fewestLooksAmong_26 : decode cX3_fewestLooksAmong 26 = .ok (.iadd, 1) := by decide +kernel
theorem dX3_fewestLooksAmong_27 : decode cX3_fewestLooksAmong 27 = .ok (.istore 5, 2) := by decide +kernel
theorem dX3_fewestLooksAmong_29 : decode cX3_fewestLooksAmong 29 = .ok (.iload 5, 2) := by decide +kernel
theorem dX3_fewestLooksAmong_31 : decode cX3_fewestLooksAmong 31 = .ok (.ifCond .lt 11, 3) := by decide +kernel
theorem dX3_fewestLooksAmong_34 : decode cX3_fewestLooksAmong 34 = .ok (.iload 5, 2) := by decide +kernel
theorem dX3_fewestLooksAmong_36 : decode cX3_fewestLooksAmong 36 = .ok (.aload 4, 2) := by decide +kernel
theorem dX3_fewestLooksAmong_38 : decode cX3_fewestLooksAmong 38 = .ok (.arraylength, 1) := by decide +kernel
theorem dX3_fewestLooksAmong_39 : decode cX3_fewestLooksAmong 39 = .ok (.if_icmp .lt 5, 3) := by decide +kernel
theorem dX3_fewestLooksAmong_42 : decode cX3_fewestLooksAmong 42 = .ok (.iconst 0, 1) := by decide +kernel
theorem dX3_fewestLooksAmong_43 : decode cX3_fewestLooksAmong 43 = .ok (.ireturn, 1) := by decide +kernel
theorem dX3_fewestLooksAmong_44 : decode cX3_fewestLooksAmong 44 = .ok (.aload 4, 2) := by decide +kernel
theorem dX3_fewestLooksAmong_46 : decode cX3_fewestLooksAmong 46 = .ok (.iload 5, 2) := by decide +kernel
theorem dX3_fewestLooksAmong_48 : decode cX3_fewestLooksAmong 48 = .ok (.iaload, 1) := by decide +kernel
theorem dX3_fewestLooksAmong_49 : decode cX3_fewestLooksAmong 49 = .ok (.iconst (-1), 1) := by decide +kernel
theorem dX3_fewestLooksAmong_50 : decode cX3_fewestLooksAmong 50 = .ok (.if_icmp .ne 58, 3) := by decide +kernel
theorem dX3_fewestLooksAmong_53 : decode cX3_fewestLooksAmong 53 = .ok (.bipush 8, 2) := by decide +kernel
theorem dX3_fewestLooksAmong_55 : decode cX3_fewestLooksAmong 55 = .ok (.istore 6, 2) := by decide +kernel
theorem dX3_fewestLooksAmong_57 : decode cX3_fewestLooksAmong 57 = .ok (.iconst 0, 1) := by decide +kernel
theorem dX3_fewestLooksAmong_58 : decode cX3_fewestLooksAmong 58 = .ok (.istore 7, 2) := by decide +kernel
theorem dX3_fewestLooksAmong_60 : decode cX3_fewestLooksAmong 60 = .ok (.iload 7, 2) := by decide +kernel
theorem dX3_fewestLooksAmong_62 : decode cX3_fewestLooksAmong 62 = .ok (.aload_n 0, 1) := by decide +kernel
theorem dX3_fewestLooksAmong_63 : decode cX3_fewestLooksAmong 63 = .ok (.getfield 9, 3) := by decide +kernel
theorem dX3_fewestLooksAmong_66 : decode cX3_fewestLooksAmong 66 = .ok (.if_icmp .ge 35, 3) := by decide +kernel
theorem dX3_fewestLooksAmong_69 : decode cX3_fewestLooksAmong 69 = .ok (.iload_n 3, 1) := by decide +kernel
theorem dX3_fewestLooksAmong_70 : decode cX3_fewestLooksAmong 70 = .ok (.iload 7, 2) := by decide +kernel
theorem dX3_fewestLooksAmong_72 : decode cX3_fewestLooksAmong 72 = .ok (.ishr, 1) := by decide +kernel
theorem dX3_fewestLooksAmong_73 : decode cX3_fewestLooksAmong 73 = .ok (.iconst 1, 1) := by decide +kernel
theorem dX3_fewestLooksAmong_74 : decode cX3_fewestLooksAmong 74 = .ok (.iand, 1) := by decide +kernel
theorem dX3_fewestLooksAmong_75 : decode cX3_fewestLooksAmong 75 = .ok (.ifCond .ne 20, 3) := by decide +kernel
theorem dX3_fewestLooksAmong_78 : decode cX3_fewestLooksAmong 78 = .ok (.iload 6, 2) := by decide +kernel
theorem dX3_fewestLooksAmong_80 : decode cX3_fewestLooksAmong 80 = .ok (.iconst 1, 1) := by decide +kernel
theorem dX3_fewestLooksAmong_81 : decode cX3_fewestLooksAmong 81 = .ok (.aload_n 0, 1) := by decide +kernel
theorem dX3_fewestLooksAmong_82 : decode cX3_fewestLooksAmong 82 = .ok (.iload 7, 2) := by decide +kernel
theorem dX3_fewestLooksAmong_84 : decode cX3_fewestLooksAmong 84 = .ok (.lload_n 1, 1) := by decide +kernel
theorem dX3_fewestLooksAmong_85 : decode cX3_fewestLooksAmong 85 = .ok (.iload_n 3, 1) := by decide +kernel
theorem dX3_fewestLooksAmong_86 : decode cX3_fewestLooksAmong 86 = .ok (.invokevirtual 52, 3) := by decide +kernel
theorem dX3_fewestLooksAmong_89 : decode cX3_fewestLooksAmong 89 = .ok (.iadd, 1) := by decide +kernel
theorem dX3_fewestLooksAmong_90 : decode cX3_fewestLooksAmong 90 = .ok (.invokestatic 26, 3) := by decide +kernel
theorem dX3_fewestLooksAmong_93 : decode cX3_fewestLooksAmong 93 = .ok (.istore 6, 2) := by decide +kernel
theorem dX3_fewestLooksAmong_95 : decode cX3_fewestLooksAmong 95 = .ok (.iinc 7 1, 3) := by decide +kernel
theorem dX3_fewestLooksAmong_98 : decode cX3_fewestLooksAmong 98 = .ok (.goto (-38), 3) := by decide +kernel
theorem dX3_fewestLooksAmong_101 : decode cX3_fewestLooksAmong 101 = .ok (.aload 4, 2) := by decide +kernel
theorem dX3_fewestLooksAmong_103 : decode cX3_fewestLooksAmong 103 = .ok (.iload 5, 2) := by decide +kernel
theorem dX3_fewestLooksAmong_105 : decode cX3_fewestLooksAmong 105 = .ok (.iload 6, 2) := by decide +kernel
theorem dX3_fewestLooksAmong_107 : decode cX3_fewestLooksAmong 107 = .ok (.iastore, 1) := by decide +kernel
theorem dX3_fewestLooksAmong_108 : decode cX3_fewestLooksAmong 108 = .ok (.aload 4, 2) := by decide +kernel
theorem dX3_fewestLooksAmong_110 : decode cX3_fewestLooksAmong 110 = .ok (.iload 5, 2) := by decide +kernel
theorem dX3_fewestLooksAmong_112 : decode cX3_fewestLooksAmong 112 = .ok (.iaload, 1) := by decide +kernel
theorem dX3_fewestLooksAmong_113 : decode cX3_fewestLooksAmong 113 = .ok (.ireturn, 1) := by decide +kernel
theorem dX3_worstBehind_0 : decode cX3_worstBehind 0 = .ok (.iconst 0, 1) := by decide +kernel
theorem dX3_worstBehind_1 : decode cX3_worstBehind 1 = .ok (.istore 5, 2) := by decide +kernel
theorem dX3_worstBehind_3 : decode cX3_worstBehind 3 = .ok (.lload_n 2, 1) := by decide +kernel
theorem dX3_worstBehind_4 : decode cX3_worstBehind 4 = .ok (.lstore 6, 2) := by decide +kernel
theorem dX3_worstBehind_6 : decode cX3_worstBehind 6 = .ok (.iconst 0, 1) := by decide +kernel
theorem dX3_worstBehind_7 : decode cX3_worstBehind 7 = .ok (.istore 8, 2) := by decide +kernel
theorem dX3_worstBehind_9 : decode cX3_worstBehind 9 = .ok (.iload 8, 2) := by decide +kernel
theorem dX3_worstBehind_11 : decode cX3_worstBehind 11 = .ok (.aload_n 0, 1) := by decide +kernel
theorem dX3_worstBehind_12 : decode cX3_worstBehind 12 = .ok (.getfield 15, 3) := by decide +kernel
theorem dX3_worstBehind_15 : decode cX3_worstBehind 15 = .ok (.if_icmp .ge 86, 3) := by decide +kernel
theorem dX3_worstBehind_18 : decode cX3_worstBehind 18 = .ok (.lload 6, 2) := by decide +kernel
theorem dX3_worstBehind_20 : decode cX3_worstBehind 20 = .ok (.lconst 0, 1) := by decide +kernel
theorem dX3_worstBehind_21 : decode cX3_worstBehind 21 = .ok (.lcmp, 1) := by decide +kernel
theorem dX3_worstBehind_22 : decode cX3_worstBehind 22 = .ok (.ifCond .eq 79, 3) := by decide +kernel
theorem dX3_worstBehind_25 : decode cX3_worstBehind 25 = .ok (.lload 6, 2) := by decide +kernel
theorem dX3_worstBehind_27 : decode cX3_worstBehind 27 = .ok (.iload 8, 2) := by decide +kernel
theorem dX3_worstBehind_29 : decode cX3_worstBehind 29 = .ok (.lshr, 1) := by decide +kernel
theorem dX3_worstBehind_30 : decode cX3_worstBehind 30 = .ok (.lconst 1, 1) := by decide +kernel
theorem dX3_worstBehind_31 : decode cX3_worstBehind 31 = .ok (.land, 1) := by decide +kernel
theorem dX3_worstBehind_32 : decode cX3_worstBehind 32 = .ok (.lconst 0, 1) := by decide +kernel
theorem dX3_worstBehind_33 : decode cX3_worstBehind 33 = .ok (.lcmp, 1) := by decide +kernel
theorem dX3_worstBehind_34 : decode cX3_worstBehind 34 = .ok (.ifCond .eq 61, 3) := by decide +kernel
theorem dX3_worstBehind_37 : decode cX3_worstBehind 37 = .ok (.lload_n 2, 1) := by decide +kernel
theorem dX3_worstBehind_38 : decode cX3_worstBehind 38 = .ok (.aload_n 0, 1) := by decide +kernel
theorem dX3_worstBehind_39 : decode cX3_worstBehind 39 = .ok (.getfield 18, 3) := by decide +kernel
theorem dX3_worstBehind_42 : decode cX3_worstBehind 42 = .ok (.iload_n 1, 1) := by decide +kernel
theorem dX3_worstBehind_43 : decode cX3_worstBehind 43 = .ok (.bipush 40, 2) := by decide +kernel
theorem dX3_worstBehind_45 : decode cX3_worstBehind 45 = .ok (.imul, 1) := by decide +kernel
theorem dX3_worstBehind_46 : decode cX3_worstBehind 46 = .ok (.iload 8, 2) := by decide +kernel
theorem dX3_worstBehind_48 : decode cX3_worstBehind 48 = .ok (.iadd, 1) := by decide +kernel
theorem dX3_worstBehind_49 : decode cX3_worstBehind 49 = .ok (.laload, 1) := by decide +kernel
theorem dX3_worstBehind_50 : decode cX3_worstBehind 50 = .ok (.land, 1) := by decide +kernel
theorem dX3_worstBehind_51 : decode cX3_worstBehind 51 = .ok (.lstore 9, 2) := by decide +kernel
theorem dX3_worstBehind_53 : decode cX3_worstBehind 53 = .ok (.lload 9, 2) := by decide +kernel
theorem dX3_worstBehind_55 : decode cX3_worstBehind 55 = .ok (.lload_n 2, 1) := by decide +kernel
theorem dX3_worstBehind_56 : decode cX3_worstBehind 56 = .ok (.lcmp, 1) := by decide +kernel
theorem dX3_worstBehind_57 : decode cX3_worstBehind 57 = .ok (.ifCond .ne 8, 3) := by decide +kernel
theorem dX3_worstBehind_60 : decode cX3_worstBehind 60 = .ok (.bipush 8, 2) := by decide +kernel
theorem dX3_worstBehind_62 : decode cX3_worstBehind 62 = .ok (.goto 20, 3) := by decide +kernel
theorem dX3_worstBehind_65 : decode cX3_worstBehind 65 = .ok (.iload 5, 2) := by decide +kernel
theorem dX3_worstBehind_67 : decode cX3_worstBehind 67 = .ok (.aload_n 0, 1) := by decide +kernel
theorem dX3_worstBehind_68 : decode cX3_worstBehind 68 = .ok (.lload 9, 2) := by decide +kernel
theorem dX3_worstBehind_70 : decode cX3_worstBehind 70 = .ok (.iload 4, 2) := by decide +kernel
theorem dX3_worstBehind_72 : decode cX3_worstBehind 72 = .ok (.iconst 1, 1) := by decide +kernel
theorem dX3_worstBehind_73 : decode cX3_worstBehind 73 = .ok (.iload_n 1, 1) := by decide +kernel
theorem dX3_worstBehind_74 : decode cX3_worstBehind 74 = .ok (.ishl, 1) := by decide +kernel
theorem dX3_worstBehind_75 : decode cX3_worstBehind 75 = .ok (.ior, 1) := by decide +kernel
theorem dX3_worstBehind_76 : decode cX3_worstBehind 76 = .ok (.invokevirtual 48, 3) := by decide +kernel
theorem dX3_worstBehind_79 : decode cX3_worstBehind 79 = .ok (.invokestatic 62, 3) := by decide +kernel
theorem dX3_worstBehind_82 : decode cX3_worstBehind 82 = .ok (.istore 5, 2) := by decide +kernel
theorem dX3_worstBehind_84 : decode cX3_worstBehind 84 = .ok (.lload 6, 2) := by decide +kernel
theorem dX3_worstBehind_86 : decode cX3_worstBehind 86 = .ok (.lload 9, 2) := by decide +kernel
theorem dX3_worstBehind_88 : decode cX3_worstBehind 88 = .ok (.ldc2_w 65, 3) := by decide +kernel
theorem dX3_worstBehind_91 : decode cX3_worstBehind 91 = .ok (.lxor, 1) := by decide +kernel
theorem dX3_worstBehind_92 : decode cX3_worstBehind 92 = .ok (.land, 1) := by decide +kernel
theorem dX3_worstBehind_93 : decode cX3_worstBehind 93 = .ok (.lstore 6, 2) := by decide +kernel
theorem dX3_worstBehind_95 : decode cX3_worstBehind 95 = .ok (.iinc 8 1, 3) := by decide +kernel
theorem dX3_worstBehind_98 : decode cX3_worstBehind 98 = .ok (.goto (-89), 3) := by decide +kernel
theorem dX3_worstBehind_101 : decode cX3_worstBehind 101 = .ok (.iload 5, 2) := by decide +kernel
theorem dX3_worstBehind_103 : decode cX3_worstBehind 103 = .ok (.ireturn, 1) := by decide +kernel

def FAp (k z c H : Nat) (nm : Nat → Nat → Nat) (n : Nat) (kd : mK) (I : mI) (J : mJ) (P : mP) (f : Nat) : Prop := ∀ (D i0 : Nat) (A : Nat → Int32), D < 2 ^ H → f + pc8 D = 8 → i0 < c → KI nm c H A → Ct yX3_fewestLooksAmong cX3_fewestLooksAmong 8 (some .int) (2 * f + 3) 0 0 [.ref k, .long (jN (clB nm c H D i0)), .int (nI D)] n kd (va_up I z A) J P (fun y n' kd' I' J' P' => ∃ A' : Nat → Int32, KI nm c H A' ∧ am_is (some (.int (nI (gF nm c H D i0)))) n kd (va_up I z A') J P y n' kd' I' J' P')
set_option maxHeartbeats 4000000 in
set_option maxRecDepth 100000 in
theorem wb_loop (k z c H : Nat) (nm : Nat → Nat → Nat) (f D h i0 R : Nat) {n : Nat} {kd : mK} {I : mI} {J : mJ} {P : mP} (hS : lkS k z c H nm kd I J P) (hF : FAp k z c H nm n kd I J P f) (hD : D < 2 ^ H) (hp : f + 1 + pc8 D = 8) (hh : h < H) (hDh : ¬ D.testBit h = true) (hi0 : i0 < c) : ∀ (cnt i worst rest : Nat) (z9 z10 : Option Value) (A : Nat → Int32), i + cnt = c → worst ≤ 8 → (∀ j, rest.testBit j = true → (clB nm c H D i0).testBit j = true) → KI nm c H A → wl (gV (alF nm c) c H f (D ||| 2 ^ h)) (alF nm c h) (clB nm c H D i0) cnt i worst rest = R → Ru yX3_worstBehind.cls cX3_worstBehind 11 (some .int) yX3_worstBehind.name (2 * f + 4) (fun y n' kd' I' J' P' => ∃ A' : Nat → Int32, KI nm c H A' ∧ am_is (some (.int (nI (R)))) n kd (va_up I z A') J P y n' kd' I' J' P') 0 0 9 [some (.ref k), some (.int (nI h)), some (.long (jN (clB nm c H D i0))), none, some (.int (nI D)), some (.int (nI worst)), some (.long (jN rest)), none, some (.int (nI i)), z9, z10] [] n kd (va_up I z A) J P := by
  have hS0 := hS
  obtain ⟨hG, h3, hz, hkz, e0, e1, hJ, hc, hH⟩ := hS0
  have hw40 : (clB nm c H D i0) < 2 ^ 40 := clB_lt hc
  have hD8 : D < 256 := Nat.lt_of_lt_of_le hD (pw8 hH)
  have hpo := pc_or D hD8 h (by omega) hDh
  intro cnt
  induction cnt with
  | zero =>
    intro i worst rest z9 z10 A hi hwo hr hA hR
    unfold wl at hR
    subst hR
    have ei : i = c := by omega
    subst ei
    refine r_iload dX3_worstBehind_9 rfl ?_
    refine r_aload_n dX3_worstBehind_11 rfl ?_
    refine r_getI dX3_worstBehind_12 fl_X3_15 rfl hG.1 ?_
    rw [am_up_n _ _ hkz, e1]
    refine r_icmp_ge (tgt := 101) dX3_worstBehind_15 (by decide) (fun _ => ?_) (fun hz => absurd (show _ from (by rw [nI_leI (by omega) (by omega)]; omega)) hz)
    refine r_iload dX3_worstBehind_101 rfl ?_
    refine r_iret rfl dX3_worstBehind_103 ?_
    exact ⟨A, hA, am_is.mk⟩
  | succ cnt ih =>
    intro i worst rest z9 z10 A hi hwo hr hA hR
    unfold wl at hR
    by_cases q0 : rest = 0
    · rw [if_pos q0] at hR
      subst hR
      subst q0
      refine r_iload dX3_worstBehind_9 rfl ?_
      refine r_aload_n dX3_worstBehind_11 rfl ?_
      refine r_getI dX3_worstBehind_12 fl_X3_15 rfl hG.1 ?_
      rw [am_up_n _ _ hkz, e1]
      refine r_icmp_ge (tgt := 101) dX3_worstBehind_15 (by decide) (fun hz => absurd hz (show ¬ _ from (by rw [nI_leI (by omega) (by omega)]; omega))) (fun _ => ?_)
      refine r_lload dX3_worstBehind_18 rfl ?_
      refine r_lconst (v := 0) dX3_worstBehind_20 (by decide) ?_
      refine r_lcmp dX3_worstBehind_21 ?_
      refine r_if_eq (tgt := 101) dX3_worstBehind_22 (by decide) (fun _ => ?_) (fun hz => absurd (show _ from (by decide)) hz)
      refine r_iload dX3_worstBehind_101 rfl ?_
      refine r_iret rfl dX3_worstBehind_103 ?_
      exact ⟨A, hA, am_is.mk⟩
    · rw [if_neg q0] at hR
      have hr40 : rest < 2 ^ 40 := Nat.lt_pow_two_of_testBit _ (fun j hj => by
        by_cases q : rest.testBit j = true
        · have := (clB_bit.mp (hr j q)).1
          omega
        · simpa using q)
      have qz : ¬ lg_cmp (jN rest) 0 = 0 := fun z => q0 (jN_inj (b := 0) (by omega) (by decide) (by rw [(lg_cmp_eq _ _).mp z, jN_0]))
      by_cases qb : rest.testBit i = true
      · rw [if_pos qb] at hR
        have hst := clB_step (h := h) hh (hr i qb)
        rw [hst] at hR
        have hb : (jN rest >>> ((nI i).toInt64 &&& 63)) &&& 1 = 1 := by rw [jN_ask rest (by omega), if_pos qb]
        have hr2 : ∀ j, (rest ^^^ (rest &&& (clB nm c H (D ||| 2 ^ h) i))).testBit j = true → (clB nm c H D i0).testBit j = true := fun j hj => by
          refine hr j ?_
          rw [Nat.testBit_xor, Nat.testBit_and] at hj
          cases hx : rest.testBit j
          · rw [hx] at hj; simp at hj
          · rfl
        have hsw : (clB nm c H (D ||| 2 ^ h) i) < 2 ^ 40 := clB_lt hc
        by_cases qs : (clB nm c H (D ||| 2 ^ h) i) = (clB nm c H D i0)
        · rw [if_pos qs] at hR
          refine r_iload dX3_worstBehind_9 rfl ?_
          refine r_aload_n dX3_worstBehind_11 rfl ?_
          refine r_getI dX3_worstBehind_12 fl_X3_15 rfl hG.1 ?_
          rw [am_up_n _ _ hkz, e1]
          refine r_icmp_ge (tgt := 101) dX3_worstBehind_15 (by decide) (fun hz => absurd hz (show ¬ _ from (by rw [nI_leI (by omega) (by omega)]; omega))) (fun _ => ?_)
          refine r_lload dX3_worstBehind_18 rfl ?_
          refine r_lconst (v := 0) dX3_worstBehind_20 (by decide) ?_
          refine r_lcmp dX3_worstBehind_21 ?_
          refine r_if_eq (tgt := 101) dX3_worstBehind_22 (by decide) (fun hz => absurd hz (show ¬ _ from qz)) (fun _ => ?_)
          refine r_lload dX3_worstBehind_25 rfl ?_
          refine r_iload dX3_worstBehind_27 rfl ?_
          refine r_lshr dX3_worstBehind_29 ?_
          refine r_lconst (v := 1) dX3_worstBehind_30 (by decide) ?_
          refine r_land dX3_worstBehind_31 ?_
          rw [hb]
          refine r_lconst (v := 0) dX3_worstBehind_32 (by decide) ?_
          refine r_lcmp dX3_worstBehind_33 ?_
          refine r_if_eq (tgt := 95) dX3_worstBehind_34 (by decide) (fun hz => absurd hz (show ¬ _ from (by decide))) (fun _ => ?_)
          refine r_lload_n dX3_worstBehind_37 rfl ?_
          refine r_aload_n dX3_worstBehind_38 rfl ?_
          refine r_getR dX3_worstBehind_39 fl_X3_18 rfl hG.1 hG.2.2 ?_
          refine r_iload_n dX3_worstBehind_42 rfl ?_
          refine r_bipush (v := nI 40) dX3_worstBehind_43 (by decide) ?_
          refine r_imul dX3_worstBehind_45 ?_
          rw [pk_mul]
          refine r_iload dX3_worstBehind_46 rfl ?_
          refine r_iadd dX3_worstBehind_48 ?_
          rw [nI_add]
          refine r_lald dX3_worstBehind_49 hG.2.1 (nI_in8 320 (by omega) (by decide)) (nI_clamp (by omega)) ?_
          rw [hJ h i hh (by omega)]
          refine r_land dX3_worstBehind_50 ?_
          rw [jN_and, hst]
          refine r_lstore dX3_worstBehind_51 (by decide) ?_
          refine r_lload dX3_worstBehind_53 rfl ?_
          refine r_lload_n dX3_worstBehind_55 rfl ?_
          refine r_lcmp dX3_worstBehind_56 ?_
          refine r_if_ne (tgt := 65) dX3_worstBehind_57 (by decide) (fun hz => absurd (show _ from ((lg_cmp_eq _ _).mpr (by rw [qs]))) hz) (fun _ => ?_)
          refine r_bipush (v := nI 8) dX3_worstBehind_60 (by decide) ?_
          refine r_goto (tgt := 82) dX3_worstBehind_62 (by decide) ?_
          refine r_istore dX3_worstBehind_82 (by decide) ?_
          refine r_lload dX3_worstBehind_84 rfl ?_
          refine r_lload dX3_worstBehind_86 rfl ?_
          refine r_ldc2 dX3_worstBehind_88 lc_X3_65 ?_
          refine r_lxor dX3_worstBehind_91 ?_
          refine r_land dX3_worstBehind_92 ?_
          rw [jN_dif]
          refine r_lstore dX3_worstBehind_93 (by decide) ?_
          refine r_iinc (v := nI (i + 1)) dX3_worstBehind_95 rfl (nI_inc i) ?_
          refine r_goto (tgt := 9) dX3_worstBehind_98 (by decide) ?_
          exact ih (i + 1) 8 _ _ _ A (by omega) (by omega) hr2 hA hR
        · rw [if_neg qs] at hR
          have qn : ¬ lg_cmp (jN (clB nm c H (D ||| 2 ^ h) i)) (jN (clB nm c H D i0)) = 0 := fun z => qs (jN_inj (by omega) (by omega) ((lg_cmp_eq _ _).mp z))
          have hgf : gV (alF nm c) c H f (D ||| 2 ^ h) (clB nm c H (D ||| 2 ^ h) i) = gF nm c H (D ||| 2 ^ h) i := by unfold gF; rw [show 8 - pc8 (D ||| 2 ^ h) = f by omega]
          rw [hgf] at hR
          have hg8 := gF_8 nm c H (D ||| 2 ^ h) i
          refine r_iload dX3_worstBehind_9 rfl ?_
          refine r_aload_n dX3_worstBehind_11 rfl ?_
          refine r_getI dX3_worstBehind_12 fl_X3_15 rfl hG.1 ?_
          rw [am_up_n _ _ hkz, e1]
          refine r_icmp_ge (tgt := 101) dX3_worstBehind_15 (by decide) (fun hz => absurd hz (show ¬ _ from (by rw [nI_leI (by omega) (by omega)]; omega))) (fun _ => ?_)
          refine r_lload dX3_worstBehind_18 rfl ?_
          refine r_lconst (v := 0) dX3_worstBehind_20 (by decide) ?_
          refine r_lcmp dX3_worstBehind_21 ?_
          refine r_if_eq (tgt := 101) dX3_worstBehind_22 (by decide) (fun hz => absurd hz (show ¬ _ from qz)) (fun _ => ?_)
          refine r_lload dX3_worstBehind_25 rfl ?_
          refine r_iload dX3_worstBehind_27 rfl ?_
          refine r_lshr dX3_worstBehind_29 ?_
          refine r_lconst (v := 1) dX3_worstBehind_30 (by decide) ?_
          refine r_land dX3_worstBehind_31 ?_
          rw [hb]
          refine r_lconst (v := 0) dX3_worstBehind_32 (by decide) ?_
          refine r_lcmp dX3_worstBehind_33 ?_
          refine r_if_eq (tgt := 95) dX3_worstBehind_34 (by decide) (fun hz => absurd hz (show ¬ _ from (by decide))) (fun _ => ?_)
          refine r_lload_n dX3_worstBehind_37 rfl ?_
          refine r_aload_n dX3_worstBehind_38 rfl ?_
          refine r_getR dX3_worstBehind_39 fl_X3_18 rfl hG.1 hG.2.2 ?_
          refine r_iload_n dX3_worstBehind_42 rfl ?_
          refine r_bipush (v := nI 40) dX3_worstBehind_43 (by decide) ?_
          refine r_imul dX3_worstBehind_45 ?_
          rw [pk_mul]
          refine r_iload dX3_worstBehind_46 rfl ?_
          refine r_iadd dX3_worstBehind_48 ?_
          rw [nI_add]
          refine r_lald dX3_worstBehind_49 hG.2.1 (nI_in8 320 (by omega) (by decide)) (nI_clamp (by omega)) ?_
          rw [hJ h i hh (by omega)]
          refine r_land dX3_worstBehind_50 ?_
          rw [jN_and, hst]
          refine r_lstore dX3_worstBehind_51 (by decide) ?_
          refine r_lload dX3_worstBehind_53 rfl ?_
          refine r_lload_n dX3_worstBehind_55 rfl ?_
          refine r_lcmp dX3_worstBehind_56 ?_
          refine r_if_ne (tgt := 65) dX3_worstBehind_57 (by decide) (fun _ => ?_) (fun hz => absurd hz (show ¬ _ from qn))
          refine r_iload dX3_worstBehind_65 rfl ?_
          refine r_aload_n dX3_worstBehind_67 rfl ?_
          refine r_lload dX3_worstBehind_68 rfl ?_
          refine r_iload dX3_worstBehind_70 rfl ?_
          refine r_iconst (v := nI 1) dX3_worstBehind_72 (by decide) ?_
          refine r_iload_n dX3_worstBehind_73 rfl ?_
          refine r_ishl dX3_worstBehind_74 ?_
          refine r_ior dX3_worstBehind_75 ?_
          rw [or_sh D hD8 h (by omega)]
          refine r_virt (hF (D ||| 2 ^ h) i A (or_lt hh hD) (by omega) (by omega) hA) lk_X3_48 mc_X3_fewestLooksAmong dX3_worstBehind_76 hG.1 (by omega) rfl rfl (Nat.le_of_ble_eq_true rfl) (Nat.le_of_eq (Nat.zero_add _)) (Nat.le_of_eq (Nat.zero_add _)) (fun _ _ _ _ _ _ hx => by obtain ⟨_, _, hx⟩ := hx; exact nomatch hx.1) (fun v n' kd' I' J' P' hx => ?_)
          obtain ⟨A2, hA2, hv, rfl, rfl, rfl, rfl, rfl⟩ := hx
          cases hv
          refine r_mmax dX3_worstBehind_79 mm_X3_62 (by omega) (Nat.le_of_ble_eq_true rfl) ?_
          rw [mx_nI (by omega) (by omega)]
          refine r_istore dX3_worstBehind_82 (by decide) ?_
          refine r_lload dX3_worstBehind_84 rfl ?_
          refine r_lload dX3_worstBehind_86 rfl ?_
          refine r_ldc2 dX3_worstBehind_88 lc_X3_65 ?_
          refine r_lxor dX3_worstBehind_91 ?_
          refine r_land dX3_worstBehind_92 ?_
          rw [jN_dif]
          refine r_lstore dX3_worstBehind_93 (by decide) ?_
          refine r_iinc (v := nI (i + 1)) dX3_worstBehind_95 rfl (nI_inc i) ?_
          refine r_goto (tgt := 9) dX3_worstBehind_98 (by decide) ?_
          exact ih (i + 1) _ _ _ _ A2 (by omega) (by omega) hr2 hA2 hR
      · rw [if_neg qb] at hR
        have hb : (jN rest >>> ((nI i).toInt64 &&& 63)) &&& 1 = 0 := by rw [jN_ask rest (by omega), if_neg qb]
        refine r_iload dX3_worstBehind_9 rfl ?_
        refine r_aload_n dX3_worstBehind_11 rfl ?_
        refine r_getI dX3_worstBehind_12 fl_X3_15 rfl hG.1 ?_
        rw [am_up_n _ _ hkz, e1]
        refine r_icmp_ge (tgt := 101) dX3_worstBehind_15 (by decide) (fun hz => absurd hz (show ¬ _ from (by rw [nI_leI (by omega) (by omega)]; omega))) (fun _ => ?_)
        refine r_lload dX3_worstBehind_18 rfl ?_
        refine r_lconst (v := 0) dX3_worstBehind_20 (by decide) ?_
        refine r_lcmp dX3_worstBehind_21 ?_
        refine r_if_eq (tgt := 101) dX3_worstBehind_22 (by decide) (fun hz => absurd hz (show ¬ _ from qz)) (fun _ => ?_)
        refine r_lload dX3_worstBehind_25 rfl ?_
        refine r_iload dX3_worstBehind_27 rfl ?_
        refine r_lshr dX3_worstBehind_29 ?_
        refine r_lconst (v := 1) dX3_worstBehind_30 (by decide) ?_
        refine r_land dX3_worstBehind_31 ?_
        rw [hb]
        refine r_lconst (v := 0) dX3_worstBehind_32 (by decide) ?_
        refine r_lcmp dX3_worstBehind_33 ?_
        refine r_if_eq (tgt := 95) dX3_worstBehind_34 (by decide) (fun _ => ?_) (fun hz => absurd (show _ from (by decide)) hz)
        refine r_iinc (v := nI (i + 1)) dX3_worstBehind_95 rfl (nI_inc i) ?_
        refine r_goto (tgt := 9) dX3_worstBehind_98 (by decide) ?_
        exact ih (i + 1) worst rest z9 z10 A (by omega) hwo hr hA hR

set_option maxHeartbeats 4000000 in
set_option maxRecDepth 100000 in
theorem c_wb (k z c H : Nat) (nm : Nat → Nat → Nat) (f D h i0 : Nat) {n : Nat} {kd : mK} {I : mI} {J : mJ} {P : mP} (hS : lkS k z c H nm kd I J P) (hF : FAp k z c H nm n kd I J P f) (hD : D < 2 ^ H) (hp : f + 1 + pc8 D = 8) (hh : h < H) (hDh : ¬ D.testBit h = true) (hi0 : i0 < c) (A : Nat → Int32) (hA : KI nm c H A) : Ct yX3_worstBehind cX3_worstBehind 11 (some .int) (2 * f + 4) 0 0 [.ref k, .int (nI h), .long (jN (clB nm c H D i0)), .int (nI D)] n kd (va_up I z A) J P (fun y n' kd' I' J' P' => ∃ A' : Nat → Int32, KI nm c H A' ∧ am_is (some (.int (nI (wl (gV (alF nm c) c H f (D ||| 2 ^ h)) (alF nm c h) (clB nm c H D i0) c 0 0 (clB nm c H D i0))))) n kd (va_up I z A') J P y n' kd' I' J' P') := by
  refine ct_of 6 (by decide +kernel) (Nat.le_of_ble_eq_true rfl) rfl ?_
  refine r_iconst (v := nI 0) dX3_worstBehind_0 (by decide) ?_
  refine r_istore dX3_worstBehind_1 (by decide) ?_
  refine r_lload_n dX3_worstBehind_3 rfl ?_
  refine r_lstore dX3_worstBehind_4 (by decide) ?_
  refine r_iconst (v := nI 0) dX3_worstBehind_6 (by decide) ?_
  refine r_istore dX3_worstBehind_7 (by decide) ?_
  exact wb_loop k z c H nm f D h i0 _ hS hF hD hp hh hDh hi0 c 0 0 _ none none A (by omega) (by omega) (fun j hj => hj) hA rfl

set_option maxHeartbeats 4000000 in
set_option maxRecDepth 100000 in
theorem fa_loop (k z c H : Nat) (nm : Nat → Nat → Nat) (f D i0 t : Nat) {n : Nat} {kd : mK} {I : mI} {J : mJ} {P : mP} (hS : lkS k z c H nm kd I J P) (hF : FAp k z c H nm n kd I J P f) (hD : D < 2 ^ H) (hp : f + 1 + pc8 D = 8) (hi0 : i0 < c) (ht : t < c) (htc : clB nm c H D t = (clB nm c H D i0)) (ho : ¬ one (clB nm c H D i0) = true) : ∀ (cnt h : Nat) (A : Nat → Int32), h + cnt = H → KI nm c H A → Ru yX3_fewestLooksAmong.cls cX3_fewestLooksAmong 8 (some .int) yX3_fewestLooksAmong.name (2 * (f + 1) + 3) (fun y n' kd' I' J' P' => ∃ A' : Nat → Int32, KI nm c H A' ∧ am_is (some (.int (nI (gF nm c H D i0)))) n kd (va_up I z A') J P y n' kd' I' J' P') 0 0 60 [some (.ref k), some (.long (jN (clB nm c H D i0))), none, some (.int (nI D)), some (.ref z), some (.int (nI (D * 40 + t))), some (.int (nI (gB (fun h => wl (gV (alF nm c) c H f (D ||| 2 ^ h)) (alF nm c h) (clB nm c H D i0) c 0 0 (clB nm c H D i0)) D h))), some (.int (nI h))] [] n kd (va_up I z A) J P := by
  have hS0 := hS
  obtain ⟨hG, h3, hz, hkz, e0, e1, hJ, hc, hH⟩ := hS0
  have hD8 : D < 256 := Nat.lt_of_lt_of_le hD (pw8 hH)
  have hgf : gF nm c H D i0 = gB (fun h => wl (gV (alF nm c) c H f (D ||| 2 ^ h)) (alF nm c h) (clB nm c H D i0) c 0 0 (clB nm c H D i0)) D H := by
    unfold gF
    rw [show 8 - pc8 D = f + 1 by omega]
    show (if one (clB nm c H D i0) = true then 0 else _) = _
    rw [if_neg ho]
  have hgt : gF nm c H D t = gF nm c H D i0 := by unfold gF; rw [htc]
  have hfin : ∀ A, KI nm c H A → ∃ A', KI nm c H A' ∧ am_is (some (.int (nI (gF nm c H D i0)))) n kd (va_up I z A') J P (.inl (some (.int (nI (gB (fun h => wl (gV (alF nm c) c H f (D ||| 2 ^ h)) (alF nm c h) (clB nm c H D i0) c 0 0 (clB nm c H D i0)) D H))))) n kd (va_up I z (va_up A (D * 40 + t) (nI (gB (fun h => wl (gV (alF nm c) c H f (D ||| 2 ^ h)) (alF nm c h) (clB nm c H D i0) c 0 0 (clB nm c H D i0)) D H)))) J P := fun A hA => ⟨va_up A (D * 40 + t) (nI (gF nm c H D t)), hA.put hc ht, by rw [hgt, hgf]; exact am_is.mk⟩
  intro cnt
  induction cnt with
  | zero =>
    intro h A he hA
    have eh : h = H := by omega
    subst eh
    refine r_iload dX3_fewestLooksAmong_60 rfl ?_
    refine r_aload_n dX3_fewestLooksAmong_62 rfl ?_
    refine r_getI dX3_fewestLooksAmong_63 fl_X3_9 rfl hG.1 ?_
    rw [am_up_n _ _ hkz, e0]
    refine r_icmp_ge (tgt := 101) dX3_fewestLooksAmong_66 (by decide) (fun _ => ?_) (fun hz => absurd (show _ from (by rw [nI_leI (by omega) (by omega)]; omega)) hz)
    refine r_aload dX3_fewestLooksAmong_101 rfl ?_
    refine r_iload dX3_fewestLooksAmong_103 rfl ?_
    refine r_iload dX3_fewestLooksAmong_105 rfl ?_
    refine r_iast dX3_fewestLooksAmong_107 hz (nI_in8 10240 (by omega) (by decide)) (nI_clamp (by omega)) ?_
    rw [am_up_s, am_up_up]
    refine r_aload dX3_fewestLooksAmong_108 rfl ?_
    refine r_iload dX3_fewestLooksAmong_110 rfl ?_
    refine r_iald dX3_fewestLooksAmong_112 hz (nI_in8 10240 (by omega) (by decide)) (nI_clamp (by omega)) ?_
    rw [am_up_s, am_up_s]
    refine r_iret rfl dX3_fewestLooksAmong_113 ?_
    exact hfin A hA
  | succ cnt ih =>
    intro h A he hA
    have hg8 := gB_8 (W := (fun h => wl (gV (alF nm c) c H f (D ||| 2 ^ h)) (alF nm c h) (clB nm c H D i0) c 0 0 (clB nm c H D i0))) (D := D) h
    have hq : gB (fun h => wl (gV (alF nm c) c H f (D ||| 2 ^ h)) (alF nm c h) (clB nm c H D i0) c 0 0 (clB nm c H D i0)) D (h + 1) = if D.testBit h then gB (fun h => wl (gV (alF nm c) c H f (D ||| 2 ^ h)) (alF nm c h) (clB nm c H D i0) c 0 0 (clB nm c H D i0)) D h else min (gB (fun h => wl (gV (alF nm c) c H f (D ||| 2 ^ h)) (alF nm c h) (clB nm c H D i0) c 0 0 (clB nm c H D i0)) D h) (1 + wl (gV (alF nm c) c H f (D ||| 2 ^ h)) (alF nm c h) (clB nm c H D i0) c 0 0 (clB nm c H D i0)) := rfl
    have ih2 := fun A => ih (h + 1) A (by omega)
    rw [hq] at ih2
    by_cases qb : D.testBit h = true
    · rw [if_pos qb] at ih2
      refine r_iload dX3_fewestLooksAmong_60 rfl ?_
      refine r_aload_n dX3_fewestLooksAmong_62 rfl ?_
      refine r_getI dX3_fewestLooksAmong_63 fl_X3_9 rfl hG.1 ?_
      rw [am_up_n _ _ hkz, e0]
      refine r_icmp_ge (tgt := 101) dX3_fewestLooksAmong_66 (by decide) (fun hz => absurd hz (show ¬ _ from (by rw [nI_leI (by omega) (by omega)]; omega))) (fun _ => ?_)
      refine r_iload_n dX3_fewestLooksAmong_69 rfl ?_
      refine r_iload dX3_fewestLooksAmong_70 rfl ?_
      refine r_ishr dX3_fewestLooksAmong_72 ?_
      refine r_iconst (v := nI 1) dX3_fewestLooksAmong_73 (by decide) ?_
      refine r_iand dX3_fewestLooksAmong_74 ?_
      rw [b_ask _ (by omega), bt_nI D (by omega), if_pos qb]
      refine r_if_ne (tgt := 95) dX3_fewestLooksAmong_75 (by decide) (fun _ => ?_) (fun hz => absurd hz (show ¬ _ from (by decide)))
      refine r_iinc (v := nI (h + 1)) dX3_fewestLooksAmong_95 rfl (nI_inc h) ?_
      refine r_goto (tgt := 60) dX3_fewestLooksAmong_98 (by decide) ?_
      exact ih2 A hA
    · rw [if_neg qb] at ih2
      have hw8 : wl (gV (alF nm c) c H f (D ||| 2 ^ h)) (alF nm c h) (clB nm c H D i0) c 0 0 (clB nm c H D i0) ≤ 8 := wl_8 (fun x => gV_8 _ _ _ _ _ x) c 0 0 _ (by omega)
      refine r_iload dX3_fewestLooksAmong_60 rfl ?_
      refine r_aload_n dX3_fewestLooksAmong_62 rfl ?_
      refine r_getI dX3_fewestLooksAmong_63 fl_X3_9 rfl hG.1 ?_
      rw [am_up_n _ _ hkz, e0]
      refine r_icmp_ge (tgt := 101) dX3_fewestLooksAmong_66 (by decide) (fun hz => absurd hz (show ¬ _ from (by rw [nI_leI (by omega) (by omega)]; omega))) (fun _ => ?_)
      refine r_iload_n dX3_fewestLooksAmong_69 rfl ?_
      refine r_iload dX3_fewestLooksAmong_70 rfl ?_
      refine r_ishr dX3_fewestLooksAmong_72 ?_
      refine r_iconst (v := nI 1) dX3_fewestLooksAmong_73 (by decide) ?_
      refine r_iand dX3_fewestLooksAmong_74 ?_
      rw [b_ask _ (by omega), bt_nI D (by omega), if_neg qb]
      refine r_if_ne (tgt := 95) dX3_fewestLooksAmong_75 (by decide) (fun hz => absurd (show _ from (by decide)) hz) (fun _ => ?_)
      refine r_iload dX3_fewestLooksAmong_78 rfl ?_
      refine r_iconst (v := nI 1) dX3_fewestLooksAmong_80 (by decide) ?_
      refine r_aload_n dX3_fewestLooksAmong_81 rfl ?_
      refine r_iload dX3_fewestLooksAmong_82 rfl ?_
      refine r_lload_n dX3_fewestLooksAmong_84 rfl ?_
      refine r_iload_n dX3_fewestLooksAmong_85 rfl ?_
      refine r_virt (c_wb k z c H nm f D h i0 hS hF hD hp (by omega) qb hi0 A hA) lk_X3_52 mc_X3_worstBehind dX3_fewestLooksAmong_86 hG.1 (by omega) rfl rfl (Nat.le_of_ble_eq_true rfl) (Nat.le_of_eq (Nat.zero_add _)) (Nat.le_of_eq (Nat.zero_add _)) (fun _ _ _ _ _ _ hx => by obtain ⟨_, _, hx⟩ := hx; exact nomatch hx.1) (fun v n' kd' I' J' P' hx => ?_)
      obtain ⟨A2, hA2, hv, rfl, rfl, rfl, rfl, rfl⟩ := hx
      cases hv
      refine r_iadd dX3_fewestLooksAmong_89 ?_
      rw [nI_add]
      refine r_mmin dX3_fewestLooksAmong_90 mm_X3_26 (by omega) (Nat.le_of_ble_eq_true rfl) ?_
      rw [mn_nI (by omega) (by omega)]
      refine r_istore dX3_fewestLooksAmong_93 (by decide) ?_
      refine r_iinc (v := nI (h + 1)) dX3_fewestLooksAmong_95 rfl (nI_inc h) ?_
      refine r_goto (tgt := 60) dX3_fewestLooksAmong_98 (by decide) ?_
      exact ih2 A2 hA2

set_option maxHeartbeats 4000000 in
set_option maxRecDepth 100000 in
theorem fa_loop0 (k z c H : Nat) (nm : Nat → Nat → Nat) (D i0 t : Nat) {n : Nat} {kd : mK} {I : mI} {J : mJ} {P : mP} (hS : lkS k z c H nm kd I J P) (hD : D < 2 ^ H) (hp : pc8 D = 8) (hi0 : i0 < c) (ht : t < c) (htc : clB nm c H D t = (clB nm c H D i0)) (ho : ¬ one (clB nm c H D i0) = true) : ∀ (cnt h : Nat) (A : Nat → Int32), h + cnt = H → KI nm c H A → Ru yX3_fewestLooksAmong.cls cX3_fewestLooksAmong 8 (some .int) yX3_fewestLooksAmong.name (2 * 0 + 3) (fun y n' kd' I' J' P' => ∃ A' : Nat → Int32, KI nm c H A' ∧ am_is (some (.int (nI (gF nm c H D i0)))) n kd (va_up I z A') J P y n' kd' I' J' P') 0 0 60 [some (.ref k), some (.long (jN (clB nm c H D i0))), none, some (.int (nI D)), some (.ref z), some (.int (nI (D * 40 + t))), some (.int (nI 8)), some (.int (nI h))] [] n kd (va_up I z A) J P := by
  have hS0 := hS
  obtain ⟨hG, h3, hz, hkz, e0, e1, hJ, hc, hH⟩ := hS0
  have hD8 : D < 256 := Nat.lt_of_lt_of_le hD (pw8 hH)
  have hgf : gF nm c H D i0 = 8 := by
    unfold gF
    rw [hp]
    show (if one (clB nm c H D i0) = true then 0 else 8) = _
    rw [if_neg ho]
  have hgt : gF nm c H D t = gF nm c H D i0 := by unfold gF; rw [htc]
  have hfin : ∀ A, KI nm c H A → ∃ A', KI nm c H A' ∧ am_is (some (.int (nI (gF nm c H D i0)))) n kd (va_up I z A') J P (.inl (some (.int (nI 8)))) n kd (va_up I z (va_up A (D * 40 + t) (nI 8))) J P := fun A hA => ⟨va_up A (D * 40 + t) (nI (gF nm c H D t)), hA.put hc ht, by rw [hgt, hgf]; exact am_is.mk⟩
  intro cnt
  induction cnt with
  | zero =>
    intro h A he hA
    have eh : h = H := by omega
    subst eh
    refine r_iload dX3_fewestLooksAmong_60 rfl ?_
    refine r_aload_n dX3_fewestLooksAmong_62 rfl ?_
    refine r_getI dX3_fewestLooksAmong_63 fl_X3_9 rfl hG.1 ?_
    rw [am_up_n _ _ hkz, e0]
    refine r_icmp_ge (tgt := 101) dX3_fewestLooksAmong_66 (by decide) (fun _ => ?_) (fun hz => absurd (show _ from (by rw [nI_leI (by omega) (by omega)]; omega)) hz)
    refine r_aload dX3_fewestLooksAmong_101 rfl ?_
    refine r_iload dX3_fewestLooksAmong_103 rfl ?_
    refine r_iload dX3_fewestLooksAmong_105 rfl ?_
    refine r_iast dX3_fewestLooksAmong_107 hz (nI_in8 10240 (by omega) (by decide)) (nI_clamp (by omega)) ?_
    rw [am_up_s, am_up_up]
    refine r_aload dX3_fewestLooksAmong_108 rfl ?_
    refine r_iload dX3_fewestLooksAmong_110 rfl ?_
    refine r_iald dX3_fewestLooksAmong_112 hz (nI_in8 10240 (by omega) (by decide)) (nI_clamp (by omega)) ?_
    rw [am_up_s, am_up_s]
    refine r_iret rfl dX3_fewestLooksAmong_113 ?_
    exact hfin A hA
  | succ cnt ih =>
    intro h A he hA
    have qb := pc_all D hD8 hp h (by omega)
    refine r_iload dX3_fewestLooksAmong_60 rfl ?_
    refine r_aload_n dX3_fewestLooksAmong_62 rfl ?_
    refine r_getI dX3_fewestLooksAmong_63 fl_X3_9 rfl hG.1 ?_
    rw [am_up_n _ _ hkz, e0]
    refine r_icmp_ge (tgt := 101) dX3_fewestLooksAmong_66 (by decide) (fun hz => absurd hz (show ¬ _ from (by rw [nI_leI (by omega) (by omega)]; omega))) (fun _ => ?_)
    refine r_iload_n dX3_fewestLooksAmong_69 rfl ?_
    refine r_iload dX3_fewestLooksAmong_70 rfl ?_
    refine r_ishr dX3_fewestLooksAmong_72 ?_
    refine r_iconst (v := nI 1) dX3_fewestLooksAmong_73 (by decide) ?_
    refine r_iand dX3_fewestLooksAmong_74 ?_
    rw [b_ask _ (by omega), bt_nI D (by omega), if_pos qb]
    refine r_if_ne (tgt := 95) dX3_fewestLooksAmong_75 (by decide) (fun _ => ?_) (fun hz => absurd hz (show ¬ _ from (by decide)))
    refine r_iinc (v := nI (h + 1)) dX3_fewestLooksAmong_95 rfl (nI_inc h) ?_
    refine r_goto (tgt := 60) dX3_fewestLooksAmong_98 (by decide) ?_
    exact ih (h + 1) A (by omega) hA

set_option maxHeartbeats 4000000 in
set_option maxRecDepth 100000 in
theorem fa_head (k z c H : Nat) (nm : Nat → Nat → Nat) (f D i0 : Nat) {n : Nat} {kd : mK} {I : mI} {J : mJ} {P : mP} (hS : lkS k z c H nm kd I J P) (hD : D < 2 ^ H) (hp : f + pc8 D = 8) (hi0 : i0 < c) (A : Nat → Int32) (hA : KI nm c H A) (hk : ∀ t, t < c → clB nm c H D t = (clB nm c H D i0) → ¬ one (clB nm c H D i0) = true → Ru yX3_fewestLooksAmong.cls cX3_fewestLooksAmong 8 (some .int) yX3_fewestLooksAmong.name (2 * f + 3) (fun y n' kd' I' J' P' => ∃ A' : Nat → Int32, KI nm c H A' ∧ am_is (some (.int (nI (gF nm c H D i0)))) n kd (va_up I z A') J P y n' kd' I' J' P') 0 0 60 [some (.ref k), some (.long (jN (clB nm c H D i0))), none, some (.int (nI D)), some (.ref z), some (.int (nI (D * 40 + t))), some (.int (nI 8)), some (.int (nI 0))] [] n kd (va_up I z A) J P) : Ct yX3_fewestLooksAmong cX3_fewestLooksAmong 8 (some .int) (2 * f + 3) 0 0 [.ref k, .long (jN (clB nm c H D i0)), .int (nI D)] n kd (va_up I z A) J P (fun y n' kd' I' J' P' => ∃ A' : Nat → Int32, KI nm c H A' ∧ am_is (some (.int (nI (gF nm c H D i0)))) n kd (va_up I z A') J P y n' kd' I' J' P') := by
  have hS0 := hS
  obtain ⟨hG, h3, hz, hkz, e0, e1, hJ, hc, hH⟩ := hS0
  have hw40 : (clB nm c H D i0) < 2 ^ 40 := clB_lt hc
  have hD8 : D < 256 := Nat.lt_of_lt_of_le hD (pw8 hH)
  have hii : (clB nm c H D i0).testBit i0 = true := clB_bit.mpr ⟨hi0, fun _ _ _ => rfl⟩
  refine ct_of 4 (by decide +kernel) (Nat.le_of_ble_eq_true rfl) rfl ?_
  by_cases ho : one (clB nm c H D i0) = true
  · have hg0 : gF nm c H D i0 = 0 := by
      unfold gF
      cases 8 - pc8 D with
      | zero => show (if one (clB nm c H D i0) = true then 0 else 8) = _; rw [if_pos ho]
      | succ f => show (if one (clB nm c H D i0) = true then 0 else _) = _; rw [if_pos ho]
    rw [hg0]
    refine r_lload_n dX3_fewestLooksAmong_0 rfl ?_
    refine r_lload_n dX3_fewestLooksAmong_1 rfl ?_
    refine r_lconst (v := 1) dX3_fewestLooksAmong_2 (by decide) ?_
    refine r_lsub dX3_fewestLooksAmong_3 ?_
    refine r_land dX3_fewestLooksAmong_4 ?_
    refine r_lconst (v := 0) dX3_fewestLooksAmong_5 (by decide) ?_
    refine r_lcmp dX3_fewestLooksAmong_6 ?_
    refine r_if_ne (tgt := 12) dX3_fewestLooksAmong_7 (by decide) (fun hz => absurd (show _ from ((one0 hw40).mpr ho)) hz) (fun _ => ?_)
    refine r_iconst (v := nI 0) dX3_fewestLooksAmong_10 (by decide) ?_
    refine r_iret rfl dX3_fewestLooksAmong_11 ?_
    exact ⟨A, hA, am_is.mk⟩
  · have h0 : (clB nm c H D i0) ≠ 0 := fun q => by rw [q, Nat.zero_testBit] at hii; exact nomatch hii
    obtain ⟨t, ht, htm⟩ := low_bit h0
    have htc := (clB_bit.mp ht).1
    have hte := clB_eq ht
    have hgt : gF nm c H D t = gF nm c H D i0 := by unfold gF; rw [hte]
    have hg8 := gF_8 nm c H D i0
    refine r_lload_n dX3_fewestLooksAmong_0 rfl ?_
    refine r_lload_n dX3_fewestLooksAmong_1 rfl ?_
    refine r_lconst (v := 1) dX3_fewestLooksAmong_2 (by decide) ?_
    refine r_lsub dX3_fewestLooksAmong_3 ?_
    refine r_land dX3_fewestLooksAmong_4 ?_
    refine r_lconst (v := 0) dX3_fewestLooksAmong_5 (by decide) ?_
    refine r_lcmp dX3_fewestLooksAmong_6 ?_
    refine r_if_ne (tgt := 12) dX3_fewestLooksAmong_7 (by decide) (fun _ => ?_) (fun hz => absurd hz (show ¬ _ from (fun q => ho ((one0 hw40).mp q))))
    refine r_aload_n dX3_fewestLooksAmong_12 rfl ?_
    refine r_virtE (c_X3_scratchRow k z hG h3) lk_X3_40 mc_X3_scratchRow dX3_fewestLooksAmong_13 hG.1 (by omega) rfl rfl (Nat.le_of_ble_eq_true rfl) ?_
    refine r_astore dX3_fewestLooksAmong_16 (by decide) ?_
    refine r_iload_n dX3_fewestLooksAmong_18 rfl ?_
    refine r_bipush (v := nI 40) dX3_fewestLooksAmong_19 (by decide) ?_
    refine r_imul dX3_fewestLooksAmong_21 ?_
    rw [pk_mul]
    refine r_lload_n dX3_fewestLooksAmong_22 rfl ?_
    refine r_statE (c_J13_numberOfTrailingZeros_95d88 (clB nm c H D i0) t hw40 ht htm) lk_X3_56 mc_J13_numberOfTrailingZeros_95d88 dX3_fewestLooksAmong_23 (by omega) rfl rfl (Nat.le_of_ble_eq_true rfl) ?_
    refine r_iadd dX3_fewestLooksAmong_26 ?_
    rw [nI_add]
    refine r_istore dX3_fewestLooksAmong_27 (by decide) ?_
    refine r_iload dX3_fewestLooksAmong_29 rfl ?_
    refine r_if_lt (tgt := 42) dX3_fewestLooksAmong_31 (by decide) (fun hz => absurd hz (show ¬ _ from (z_nlt (by omega)))) (fun _ => ?_)
    refine r_iload dX3_fewestLooksAmong_34 rfl ?_
    refine r_aload dX3_fewestLooksAmong_36 rfl ?_
    refine r_alen dX3_fewestLooksAmong_38 hz (by decide) ?_
    refine r_icmp_lt (tgt := 44) dX3_fewestLooksAmong_39 (by decide) (fun _ => ?_) (fun hz => absurd (show _ from (by rw [nI_ltI (by omega) (by omega)]; omega)) hz)
    refine r_aload dX3_fewestLooksAmong_44 rfl ?_
    refine r_iload dX3_fewestLooksAmong_46 rfl ?_
    refine r_iald dX3_fewestLooksAmong_48 hz (nI_in8 10240 (by omega) (by decide)) (nI_clamp (by omega)) ?_
    rw [am_up_s]
    rcases hA D t hD htc with ha | ha
    · rw [ha]
      refine r_iconst (v := (-1)) dX3_fewestLooksAmong_49 (by decide) ?_
      refine r_icmp_ne (tgt := 108) dX3_fewestLooksAmong_50 (by decide) (fun hz => absurd (show _ from rfl) hz) (fun _ => ?_)
      refine r_bipush (v := nI 8) dX3_fewestLooksAmong_53 (by decide) ?_
      refine r_istore dX3_fewestLooksAmong_55 (by decide) ?_
      refine r_iconst (v := nI 0) dX3_fewestLooksAmong_57 (by decide) ?_
      refine r_istore dX3_fewestLooksAmong_58 (by decide) ?_
      exact hk t htc hte ho
    · rw [ha, hgt]
      refine r_iconst (v := (-1)) dX3_fewestLooksAmong_49 (by decide) ?_
      refine r_icmp_ne (tgt := 108) dX3_fewestLooksAmong_50 (by decide) (fun _ => ?_) (fun hz => absurd hz (show ¬ _ from (nI_m1 (by omega))))
      refine r_aload dX3_fewestLooksAmong_108 rfl ?_
      refine r_iload dX3_fewestLooksAmong_110 rfl ?_
      refine r_iald dX3_fewestLooksAmong_112 hz (nI_in8 10240 (by omega) (by decide)) (nI_clamp (by omega)) ?_
      rw [am_up_s, ha, hgt]
      refine r_iret rfl dX3_fewestLooksAmong_113 ?_
      exact ⟨A, hA, am_is.mk⟩

set_option maxHeartbeats 4000000 in
set_option maxRecDepth 100000 in
theorem c_FA (k z c H : Nat) (nm : Nat → Nat → Nat) {n : Nat} {kd : mK} {I : mI} {J : mJ} {P : mP} (hS : lkS k z c H nm kd I J P) : ∀ f, FAp k z c H nm n kd I J P f
  | 0 => fun D i0 A hD hp hi0 hA => fa_head k z c H nm 0 D i0 hS hD hp hi0 A hA (fun t h1 h2 h3 => fa_loop0 k z c H nm D i0 t hS hD (by omega) hi0 h1 h2 h3 H 0 A (by omega) hA)
  | f + 1 => fun D i0 A hD hp hi0 hA => fa_head k z c H nm (f + 1) D i0 hS hD hp hi0 A hA (fun t h1 h2 h3 => fa_loop k z c H nm f D i0 t hS (c_FA k z c H nm hS f) hD hp hi0 h1 h2 h3 H 0 A (by omega) hA)
theorem dX3_fewestLooks_0 : decode cX3_fewestLooks 0 = .ok (.aload_n 0, 1) := by decide +kernel
theorem dX3_fewestLooks_1 : decode cX3_fewestLooks 1 = .ok (.getfield 15, 3) := by decide +kernel
theorem dX3_fewestLooks_4 : decode cX3_fewestLooks 4 = .ok (.iconst 2, 1) := by decide +kernel
theorem dX3_fewestLooks_5 : decode cX3_fewestLooks 5 = .ok (.if_icmp .ge 5, 3) := by decide +kernel
theorem dX3_fewestLooks_8 : decode cX3_fewestLooks 8 = .ok (.iconst 0, 1) := by decide +kernel
theorem dX3_fewestLooks_9 : decode cX3_fewestLooks 9 = .ok (.ireturn, 1) := by decide +kernel
theorem dX3_fewestLooks_10 : decode cX3_fewestLooks 10 = .ok (.aload_n 0, 1) := by decide +kernel
theorem dX3_fewestLooks_11 : decode cX3_fewestLooks 11 = .ok (.invokevirtual 40, 3) := by decide +kernel
theorem dX3_fewestLooks_14 : decode cX3_fewestLooks 14 = .ok (.astore_n 1, 1) := by decide +kernel
theorem dX3_fewestLooks_15 : decode cX3_fewestLooks 15 = .ok (.iconst 1, 1) := by decide +kernel
theorem dX3_fewestLooks_16 : decode cX3_fewestLooks 16 = .ok (.aload_n 0, 1) := by decide +kernel
theorem dX3_fewestLooks_17 : decode cX3_fewestLooks 17 = .ok (.getfield 9, 3) := by decide +kernel
theorem dX3_fewestLooks_20 : decode cX3_fewestLooks 20 = .ok (.ishl, 1) := by decide +kernel
theorem dX3_fewestLooks_21 : decode cX3_fewestLooks 21 = .ok (.bipush 40, 2) := by decide +kernel
theorem dX3_fewestLooks_23 : decode cX3_fewestLooks 23 = .ok (.imul, 1) := by decide +kernel
theorem dX3_fewestLooks_24 : decode cX3_fewestLooks 24 = .ok (.istore_n 2, 1) := by decide +kernel
theorem dX3_fewestLooks_25 : decode cX3_fewestLooks 25 = .ok (.iconst 0, 1) := by decide +kernel
theorem dX3_fewestLooks_26 : decode cX3_fewestLooks 26 = .ok (.istore_n 3, 1) := by decide +kernel
theorem dX3_fewestLooks_27 : decode cX3_fewestLooks 27 = .ok (.iload_n 3, 1) := by decide +kernel
theorem dX3_fewestLooks_28 : decode cX3_fewestLooks 28 = .ok (.iload_n 2, 1) := by decide +kernel
theorem dX3_fewestLooks_29 : decode cX3_fewestLooks 29 = .ok (.if_icmp .ge 19, 3) := by decide +kernel
theorem dX3_fewestLooks_32 : decode cX3_fewestLooks 32 = .ok (.iload_n 3, 1) := by decide +kernel
theorem dX3_fewestLooks_33 : decode cX3_fewestLooks 33 = .ok (.aload_n 1, 1) := by decide +kernel
theorem dX3_fewestLooks_34 : decode cX3_fewestLooks 34 = .ok (.arraylength, 1) := by decide +kernel
theorem dX3_fewestLooks_35 : decode cX3_fewestLooks 35 = .ok (.if_icmp .ge 13, 3) := by decide +kernel
theorem dX3_fewestLooks_38 : decode cX3_fewestLooks 38 = .ok (.aload_n 1, 1) := by decide +kernel
theorem dX3_fewestLooks_39 : decode cX3_fewestLooks 39 = .ok (.iload_n 3, 1) := by decide +kernel
theorem dX3_fewestLooks_40 : decode cX3_fewestLooks 40 = .ok (.iconst (-1), 1) := by decide +kernel
theorem dX3_fewestLooks_41 : decode cX3_fewestLooks 41 = .ok (.iastore, 1) := by decide +kernel
theorem dX3_fewestLooks_42 : decode cX3_fewestLooks 42 = .ok (.iinc 3 1, 3) := by decide +kernel
theorem dX3_fewestLooks_45 : decode cX3_fewestLooks 45 = .ok (.goto (-18), 3) := by decide +kernel
theorem dX3_fewestLooks_48 : decode cX3_fewestLooks 48 = .ok (.aload_n 0, 1) := by decide +kernel
theorem dX3_fewestLooks_49 : decode cX3_fewestLooks 49 = .ok (.aload_n 0, 1) := by decide +kernel
theorem dX3_fewestLooks_50 : decode cX3_fewestLooks 50 = .ok (.invokevirtual 44, 3) := by decide +kernel
theorem dX3_fewestLooks_53 : decode cX3_fewestLooks 53 = .ok (.iconst 0, 1) := by decide +kernel
theorem dX3_fewestLooks_54 : decode cX3_fewestLooks 54 = .ok (.invokevirtual 48, 3) := by decide +kernel
theorem dX3_fewestLooks_57 : decode cX3_fewestLooks 57 = .ok (.ireturn, 1) := by decide +kernel

set_option maxHeartbeats 4000000 in
set_option maxRecDepth 100000 in
theorem fl_loop (k z c H : Nat) (nm : Nat → Nat → Nat) {n : Nat} {kd : mK} {I : mI} {J : mJ} {P : mP} {kc ks : Nat} (hS : lkS k z c H nm kd I J P) (hc1 : 0 < c) : ∀ (cnt i : Nat) (A : Nat → Int32), i + cnt = 2 ^ H * 40 → (∀ j, j < i → A j = -1) → Ru yX3_fewestLooks.cls cX3_fewestLooks 4 (some .int) yX3_fewestLooks.name 21 (fun y n' kd' I' J' P' => ∃ A' : Nat → Int32, KI nm c H A' ∧ am_is (some (.int (nI (gV (alF nm c) c H 8 0 (2 ^ c - 1))))) n kd (va_up I z A') J P y n' kd' I' J' P') kc ks 27 [some (.ref k), some (.ref z), some (.int (nI (2 ^ H * 40))), some (.int (nI i))] [] n kd (va_up I z A) J P := by
  have hS0 := hS
  obtain ⟨hG, h3, hz, hkz, e0, e1, hJ, hc, hH⟩ := hS0
  have h40 := (sh_40 H hH).2
  intro cnt
  induction cnt with
  | zero =>
    intro i A hi hA
    have ei : i = 2 ^ H * 40 := by omega
    subst ei
    have hF := c_FA (n := n) k z c H nm hS 8 0 0 A (Nat.two_pow_pos H) (by decide) hc1 (fun D j hD hj => Or.inl (hA _ (by
      have := Nat.mul_le_mul_right 40 (show D + 1 ≤ 2 ^ H from hD)
      omega)))
    unfold gF at hF
    rw [clB_0, show 8 - pc8 0 = 8 from by decide] at hF
    refine r_iload_n dX3_fewestLooks_27 rfl ?_
    refine r_iload_n dX3_fewestLooks_28 rfl ?_
    refine r_icmp_ge (tgt := 48) dX3_fewestLooks_29 (by decide) (fun _ => ?_) (fun hz => absurd (show _ from (by rw [nI_leI (by omega) (by omega)]; omega)) hz)
    refine r_aload_n dX3_fewestLooks_48 rfl ?_
    refine r_aload_n dX3_fewestLooks_49 rfl ?_
    refine r_virtE (c_X3_allNumberings k c hG hc (by rw [am_up_n _ _ hkz]; exact e1)) lk_X3_44 mc_X3_allNumberings dX3_fewestLooks_50 hG.1 (by decide) rfl rfl (Nat.le_of_ble_eq_true rfl) ?_
    refine r_iconst (v := nI 0) dX3_fewestLooks_53 (by decide) ?_
    refine r_virt hF lk_X3_48 mc_X3_fewestLooksAmong dX3_fewestLooks_54 hG.1 (by omega) rfl rfl (Nat.le_of_ble_eq_true rfl) (Nat.le_of_eq (Nat.zero_add _)) (Nat.le_of_eq (Nat.zero_add _)) (fun _ _ _ _ _ _ hx => by obtain ⟨_, _, hx⟩ := hx; exact nomatch hx.1) (fun v n' kd' I' J' P' hx => ?_)
    obtain ⟨A2, hA2, hv, rfl, rfl, rfl, rfl, rfl⟩ := hx
    cases hv
    refine r_iret rfl dX3_fewestLooks_57 ?_
    exact ⟨A2, hA2, am_is.mk⟩
  | succ cnt ih =>
    intro i A hi hA
    refine r_iload_n dX3_fewestLooks_27 rfl ?_
    refine r_iload_n dX3_fewestLooks_28 rfl ?_
    refine r_icmp_ge (tgt := 48) dX3_fewestLooks_29 (by decide) (fun hz => absurd hz (show ¬ _ from (by rw [nI_leI (by omega) (by omega)]; omega))) (fun _ => ?_)
    refine r_iload_n dX3_fewestLooks_32 rfl ?_
    refine r_aload_n dX3_fewestLooks_33 rfl ?_
    refine r_alen dX3_fewestLooks_34 hz (by decide) ?_
    refine r_icmp_ge (tgt := 48) dX3_fewestLooks_35 (by decide) (fun hz => absurd hz (show ¬ _ from (by rw [nI_leI (by omega) (by omega)]; omega))) (fun _ => ?_)
    refine r_aload_n dX3_fewestLooks_38 rfl ?_
    refine r_iload_n dX3_fewestLooks_39 rfl ?_
    refine r_iconst (v := (-1)) dX3_fewestLooks_40 (by decide) ?_
    refine r_iast dX3_fewestLooks_41 hz (nI_in8 10240 (by omega) (by decide)) (nI_clamp (by omega)) ?_
    rw [am_up_s, am_up_up]
    refine r_iinc (v := nI (i + 1)) dX3_fewestLooks_42 rfl (nI_inc i) ?_
    refine r_goto (tgt := 27) dX3_fewestLooks_45 (by decide) ?_
    exact ih (i + 1) _ (by omega) (fun j hj => by
      by_cases e : j = i
      · rw [e, am_up_s]
      · rw [am_up_n _ _ e, hA j (by omega)])

theorem gV_few (al : Nat → Nat → Nat) {c H : Nat} (h : c < 2) : gV al c H 8 0 (2 ^ c - 1) = 0 := by
  have : one (2 ^ c - 1) = true := by
    rcases (by omega : c = 0 ∨ c = 1) with rfl | rfl <;> decide
  unfold gV
  rw [if_pos this]
set_option maxHeartbeats 4000000 in
set_option maxRecDepth 100000 in
theorem c_fl_few (k c : Nat) {n : Nat} {kd : mK} {I : mI} {J : mJ} {P : mP} (hG : kG kd P k) (e1 : I k 1 = nI c) (hc : c < 2) : Ct yX3_fewestLooks cX3_fewestLooks 4 (some .int) 21 1 10240 [.ref k] n kd I J P (am_is (some (.int (nI 0))) n kd I J P) := by
  refine ct_of 3 (by decide +kernel) (Nat.le_of_ble_eq_true rfl) rfl ?_
  refine r_aload_n dX3_fewestLooks_0 rfl ?_
  refine r_getI dX3_fewestLooks_1 fl_X3_15 rfl hG.1 ?_
  rw [e1]
  refine r_iconst (v := nI 2) dX3_fewestLooks_4 (by decide) ?_
  refine r_icmp_ge (tgt := 10) dX3_fewestLooks_5 (by decide) (fun hz => absurd hz (show ¬ _ from (by rw [nI_leI (by omega) (by omega)]; omega))) (fun _ => ?_)
  refine r_iconst (v := nI 0) dX3_fewestLooks_8 (by decide) ?_
  refine r_iret rfl dX3_fewestLooks_9 ?_
  exact am_is.mk

set_option maxHeartbeats 4000000 in
set_option maxRecDepth 100000 in
theorem c_fl_some (k z c H : Nat) (nm : Nat → Nat → Nat) {n : Nat} {kd : mK} {I : mI} {J : mJ} {P : mP} (hS : lkS k z c H nm kd I J P) (hc2 : 2 ≤ c) : Ct yX3_fewestLooks cX3_fewestLooks 4 (some .int) 21 1 10240 [.ref k] n kd I J P (fun y n' kd' I' J' P' => ∃ A' : Nat → Int32, am_is (some (.int (nI (gV (alF nm c) c H 8 0 (2 ^ c - 1))))) n kd (va_up I z A') J P y n' kd' I' J' P') := by
  have hS0 := hS
  obtain ⟨hG, h3, hz, hkz, e0, e1, hJ, hc, hH⟩ := hS0
  have hl := fl_loop (n := n) (kc := 1) (ks := 10240) k z c H nm hS (by omega) (2 ^ H * 40) 0 (I z) (by omega) (fun j hj => absurd hj (by omega))
  rw [am_up_id] at hl
  refine ct_of 3 (by decide +kernel) (Nat.le_of_ble_eq_true rfl) rfl ?_
  refine r_aload_n dX3_fewestLooks_0 rfl ?_
  refine r_getI dX3_fewestLooks_1 fl_X3_15 rfl hG.1 ?_
  rw [e1]
  refine r_iconst (v := nI 2) dX3_fewestLooks_4 (by decide) ?_
  refine r_icmp_ge (tgt := 10) dX3_fewestLooks_5 (by decide) (fun _ => ?_) (fun hz => absurd (show _ from (by rw [nI_leI (by omega) (by omega)]; omega)) hz)
  refine r_aload_n dX3_fewestLooks_10 rfl ?_
  refine r_virtE (c_X3_scratchRow k z hG h3) lk_X3_40 mc_X3_scratchRow dX3_fewestLooks_11 hG.1 (by decide) rfl rfl (Nat.le_of_ble_eq_true rfl) ?_
  refine r_astore_n dX3_fewestLooks_14 (by decide) ?_
  refine r_iconst (v := nI 1) dX3_fewestLooks_15 (by decide) ?_
  refine r_aload_n dX3_fewestLooks_16 rfl ?_
  refine r_getI dX3_fewestLooks_17 fl_X3_9 rfl hG.1 ?_
  rw [e0]
  refine r_ishl dX3_fewestLooks_20 ?_
  refine r_bipush (v := nI 40) dX3_fewestLooks_21 (by decide) ?_
  refine r_imul dX3_fewestLooks_23 ?_
  rw [(sh_40 H hH).1]
  refine r_istore_n dX3_fewestLooks_24 (by decide) ?_
  refine r_iconst (v := nI 0) dX3_fewestLooks_25 (by decide) ?_
  refine r_istore_n dX3_fewestLooks_26 (by decide) ?_
  exact RuZ.mono hl (fun _ _ _ _ _ _ h => by obtain ⟨A, _, h⟩ := h; exact ⟨A, h⟩)

set_option maxHeartbeats 4000000 in
set_option maxRecDepth 100000 in
theorem c_fl_none (k c H : Nat) (nm : Nat → Nat → Nat) {n : Nat} {kd : mK} {I : mI} {J : mJ} {P : mP} (hG : kG kd P k) (h3 : P k 3 = none) (hn : n < 1000000) (hkn : k + 1 < n) (e0 : I k 0 = nI H) (e1 : I k 1 = nI c) (hJ : ∀ h i, h < H → i < c → J (k + 1) (h * 40 + i) = jN (alF nm c h i)) (hc : c ≤ 40) (hH : H ≤ 8) (hc2 : 2 ≤ c) : Ct yX3_fewestLooks cX3_fewestLooks 4 (some .int) 21 1 10240 [.ref k] n kd I J P (fun y n' kd' I' J' P' => ∃ A' : Nat → Int32, am_is (some (.int (nI (gV (alF nm c) c H 8 0 (2 ^ c - 1))))) (n + 1) (va_up kd n (some (1, 10240))) (va_up I n A') (va_up J n (fun _ => 0)) (va_up P k (va_up (P k) 3 (some n))) y n' kd' I' J' P') := by
  have k0 : va_up kd n (some (1, 10240)) k = some (0, 3) := by rw [am_up_n _ _ (by omega)]; exact hG.1
  have hS : lkS k n c H nm (va_up kd n (some (1, 10240))) (va_up I n (fun _ => 0)) (va_up J n (fun _ => 0)) (va_up P k (va_up (P k) 3 (some n))) := ⟨⟨k0, by rw [am_up_n _ _ (by omega)]; exact hG.2.1, by rw [am_up_s, am_up_n _ _ (by decide)]; exact hG.2.2⟩, by rw [am_up_s, am_up_s], by rw [am_up_s], by omega, by rw [am_up_n _ _ (by omega)]; exact e0, by rw [am_up_n _ _ (by omega)]; exact e1, by rw [am_up_n _ _ (by omega)]; exact hJ, hc, hH⟩
  have hl := fl_loop (n := n + 1) (kc := 0) (ks := 0) k n c H nm hS (by omega) (2 ^ H * 40) 0 (fun _ => 0) (by omega) (fun j hj => absurd hj (by omega))
  simp only [am_up_up] at hl
  refine ct_of 3 (by decide +kernel) (Nat.le_of_ble_eq_true rfl) rfl ?_
  refine r_aload_n dX3_fewestLooks_0 rfl ?_
  refine r_getI dX3_fewestLooks_1 fl_X3_15 rfl hG.1 ?_
  rw [e1]
  refine r_iconst (v := nI 2) dX3_fewestLooks_4 (by decide) ?_
  refine r_icmp_ge (tgt := 10) dX3_fewestLooks_5 (by decide) (fun _ => ?_) (fun hz => absurd (show _ from (by rw [nI_leI (by omega) (by omega)]; omega)) hz)
  refine r_aload_n dX3_fewestLooks_10 rfl ?_
  refine r_virt (kc2 := 0) (ks2 := 0) (c_X3_scratchRow_new k hG h3 hn (by omega)) lk_X3_40 mc_X3_scratchRow dX3_fewestLooks_11 hG.1 (by decide) rfl rfl (Nat.le_of_ble_eq_true rfl) (by decide) (by decide) (fun _ _ _ _ _ _ h => nomatch h.1) (fun v n' kd' I' J' P' hx => ?_)
  obtain ⟨hv, rfl, rfl, rfl, rfl, rfl⟩ := hx
  cases hv
  refine r_astore_n dX3_fewestLooks_14 (by decide) ?_
  refine r_iconst (v := nI 1) dX3_fewestLooks_15 (by decide) ?_
  refine r_aload_n dX3_fewestLooks_16 rfl ?_
  refine r_getI dX3_fewestLooks_17 fl_X3_9 rfl k0 ?_
  rw [am_up_n _ _ (by omega), e0]
  refine r_ishl dX3_fewestLooks_20 ?_
  refine r_bipush (v := nI 40) dX3_fewestLooks_21 (by decide) ?_
  refine r_imul dX3_fewestLooks_23 ?_
  rw [(sh_40 H hH).1]
  refine r_istore_n dX3_fewestLooks_24 (by decide) ?_
  refine r_iconst (v := nI 0) dX3_fewestLooks_25 (by decide) ?_
  refine r_istore_n dX3_fewestLooks_26 (by decide) ?_
  exact RuZ.mono hl (fun _ _ _ _ _ _ h => by obtain ⟨A, _, h⟩ := h; exact ⟨A, h⟩)

