/-! THE NEW OBJECT: its street written -/
set_option maxHeartbeats 4000000 in
set_option maxRecDepth 100000 in
theorem c_spelled_5 {n : Nat} {kd : mK} {I : mI} {J : mJ} {P : mP} : Ct yX10_spelled cX10_spelled 8 (some .long) 1 0 0 [.int (nI 109), .int (nI 111), .int (nI 115), .int (nI 116), .int (nI 0), .int (nI 0)] n kd I J P (am_is (some (.long 441972)) n kd I J P) := by
  refine ct_of 2 (by decide +kernel) (Nat.le_of_ble_eq_true rfl) rfl ?_
  refine r_iload_n dX10_spelled_0 rfl ?_
  refine r_i2l dX10_spelled_1 ?_
  refine r_ldc2 dX10_spelled_2 lc_X10_239 ?_
  refine r_lsub dX10_spelled_5 ?_
  refine r_iconst (v := nI 5) dX10_spelled_6 (by decide) ?_
  refine r_lshl dX10_spelled_7 ?_
  refine r_iload_n dX10_spelled_8 rfl ?_
  refine r_bipush (v := nI 96) dX10_spelled_9 (by decide) ?_
  refine r_isub dX10_spelled_11 ?_
  refine r_i2l dX10_spelled_12 ?_
  refine r_lor dX10_spelled_13 ?_
  refine r_lstore dX10_spelled_14 (by decide) ?_
  refine r_iload_n dX10_spelled_16 rfl ?_
  refine r_if_eq (tgt := 32) dX10_spelled_17 (by decide) (fun hz => absurd hz (show ¬ _ from by decide)) (fun _ => ?_)
  refine r_lload dX10_spelled_20 rfl ?_
  refine r_iconst (v := nI 5) dX10_spelled_22 (by decide) ?_
  refine r_lshl dX10_spelled_23 ?_
  refine r_iload_n dX10_spelled_24 rfl ?_
  refine r_bipush (v := nI 96) dX10_spelled_25 (by decide) ?_
  refine r_isub dX10_spelled_27 ?_
  refine r_i2l dX10_spelled_28 ?_
  refine r_lor dX10_spelled_29 ?_
  refine r_lstore dX10_spelled_30 (by decide) ?_
  refine r_iload_n dX10_spelled_32 rfl ?_
  refine r_if_eq (tgt := 48) dX10_spelled_33 (by decide) (fun hz => absurd hz (show ¬ _ from by decide)) (fun _ => ?_)
  refine r_lload dX10_spelled_36 rfl ?_
  refine r_iconst (v := nI 5) dX10_spelled_38 (by decide) ?_
  refine r_lshl dX10_spelled_39 ?_
  refine r_iload_n dX10_spelled_40 rfl ?_
  refine r_bipush (v := nI 96) dX10_spelled_41 (by decide) ?_
  refine r_isub dX10_spelled_43 ?_
  refine r_i2l dX10_spelled_44 ?_
  refine r_lor dX10_spelled_45 ?_
  refine r_lstore dX10_spelled_46 (by decide) ?_
  refine r_iload dX10_spelled_48 rfl ?_
  refine r_if_eq (tgt := 66) dX10_spelled_50 (by decide) (fun _ => ?_) (fun hz => absurd (show _ from by decide) hz)
  refine r_iload dX10_spelled_66 rfl ?_
  refine r_if_eq (tgt := 84) dX10_spelled_68 (by decide) (fun _ => ?_) (fun hz => absurd (show _ from by decide) hz)
  refine r_lload dX10_spelled_84 rfl ?_
  refine r_lret rfl dX10_spelled_86 ?_
  exact am_isL (by decide +kernel)

set_option maxHeartbeats 4000000 in
set_option maxRecDepth 100000 in
theorem c_letters_5 {n : Nat} {kd : mK} {I : mI} {J : mJ} {P : mP} : Ct yX10_letters cX10_letters 1 (some .long) 2 0 0 [.int (nI 5)] n kd I J P (am_is (some (.long 441972)) n kd I J P) := by
  refine ct_of 0 (by decide +kernel) (Nat.le_of_ble_eq_true rfl) rfl ?_
  refine r_iload_n dX10_letters_0 rfl ?_
  refine r_tabE (off := 137) (tgt := 138) rfl dX10_letters_1 (by decide) (by decide) (by decide) (by decide) ?_
  refine r_bipush (v := nI 109) dX10_letters_138 (by decide) ?_
  refine r_bipush (v := nI 111) dX10_letters_140 (by decide) ?_
  refine r_bipush (v := nI 115) dX10_letters_142 (by decide) ?_
  refine r_bipush (v := nI 116) dX10_letters_144 (by decide) ?_
  refine r_iconst (v := nI 0) dX10_letters_146 (by decide) ?_
  refine r_iconst (v := nI 0) dX10_letters_147 (by decide) ?_
  refine r_statE (c_spelled_5) lk_X10_241 mc_X10_spelled dX10_letters_148 (by decide) rfl rfl (Nat.le_of_ble_eq_true rfl) ?_
  refine r_lret rfl dX10_letters_151 ?_
  exact am_is.mk

theorem wOk_5 : wOk 441972 4 [nI 109, nI 111, nI 115, nI 116] := ⟨by decide +kernel, by decide +kernel, by decide +kernel, rfl, by decide, by decide⟩
set_option maxHeartbeats 4000000 in
set_option maxRecDepth 100000 in
theorem c_word_5 (m : Nat) (q : PS) {n : Nat} {kd : mK} {I : mI} {J : mJ} {P : mP} (hM : kM kd P m) (hp : pPl q + 6 < 1100) : Ct yX10_writesWord cX10_writesWord 6 none 3 0 0 [.ref m, .int (nI 5)] n kd (gI m q I) J P (am_is none n kd (gI m (pWs [nI 109, nI 111, nI 115, nI 116] q) I) J P) := by
  refine ct_of 4 (by decide +kernel) (Nat.le_of_ble_eq_true rfl) rfl ?_
  refine r_iload_n dX10_writesWord_0 rfl ?_
  refine r_statE (c_letters_5) lk_X10_245 mc_X10_letters dX10_writesWord_1 (by decide) rfl rfl (Nat.le_of_ble_eq_true rfl) ?_
  refine r_lstore_n dX10_writesWord_4 (by decide) ?_
  refine r_iconst (v := nI 0) dX10_writesWord_5 (by decide) ?_
  refine r_istore dX10_writesWord_6 (by decide) ?_
  exact (wa_X10_writesWord m 4 (nI 5) 441972 [nI 109, nI 111, nI 115, nI 116] q hM wOk_5 (by omega) 4 0 (by omega))

def pg9 (pg : Nat → Int32) : Nat → Int32 := va_up (va_up (va_up (va_up (va_up (va_up (va_up (pg) 0 (nI 109)) 1 (nI 111)) 2 (nI 115)) 3 (nI 116)) 4 (nI 32)) 5 (nI 57)) 6 (nI 59)
def wrQ (I : mI) (m : Nat) : PS := (I m 78, I m 1, nO (I m 30), 7, I (m + 1), I (m + 2), I (m + 3), I (m + 4), I (m + 5), I (m + 6), I (m + 7), I (m + 8), I (m + 9), I (m + 10), pg9 (I (m + 40)))
theorem dX10_writesAll_0 : decode cX10_writesAll 0 = .ok (.aload_n 0, 1) := by decide +kernel
theorem dX10_writesAll_1 : decode cX10_writesAll 1 = .ok (.iconst 0, 1) := by decide +kernel
theorem dX10_writesAll_2 : decode cX10_writesAll 2 = .ok (.putfield 505, 3) := by decide +kernel
theorem dX10_writesAll_5 : decode cX10_writesAll 5 = .ok (.aload_n 0, 1) := by decide +kernel
theorem dX10_writesAll_6 : decode cX10_writesAll 6 = .ok (.iconst 5, 1) := by decide +kernel
theorem dX10_writesAll_7 : decode cX10_writesAll 7 = .ok (.invokevirtual 514, 3) := by decide +kernel
theorem dX10_writesAll_10 : decode cX10_writesAll 10 = .ok (.aload_n 0, 1) := by decide +kernel
theorem dX10_writesAll_11 : decode cX10_writesAll 11 = .ok (.bipush 32, 2) := by decide +kernel
theorem dX10_writesAll_13 : decode cX10_writesAll 13 = .ok (.invokevirtual 508, 3) := by decide +kernel
theorem dX10_writesAll_16 : decode cX10_writesAll 16 = .ok (.aload_n 0, 1) := by decide +kernel
theorem dX10_writesAll_17 : decode cX10_writesAll 17 = .ok (.aload_n 0, 1) := by decide +kernel
theorem dX10_writesAll_18 : decode cX10_writesAll 18 = .ok (.getfield 7, 3) := by decide +kernel
theorem dX10_writesAll_21 : decode cX10_writesAll 21 = .ok (.invokevirtual 517, 3) := by decide +kernel
theorem dX10_writesAll_24 : decode cX10_writesAll 24 = .ok (.aload_n 0, 1) := by decide +kernel
theorem dX10_writesAll_25 : decode cX10_writesAll 25 = .ok (.bipush 59, 2) := by decide +kernel
theorem dX10_writesAll_27 : decode cX10_writesAll 27 = .ok (.invokevirtual 508, 3) := by decide +kernel
theorem dX10_writesAll_30 : decode cX10_writesAll 30 = .ok (.aload_n 0, 1) := by decide +kernel
theorem dX10_writesAll_31 : decode cX10_writesAll 31 = .ok (.getfield 353, 3) := by decide +kernel
theorem dX10_writesAll_34 : decode cX10_writesAll 34 = .ok (.ifCond .eq 15, 3) := by decide +kernel
theorem dX10_writesAll_37 : decode cX10_writesAll 37 = .ok (.aload_n 0, 1) := by decide +kernel
theorem dX10_writesAll_38 : decode cX10_writesAll 38 = .ok (.bipush 7, 2) := by decide +kernel
theorem dX10_writesAll_40 : decode cX10_writesAll 40 = .ok (.invokevirtual 514, 3) := by decide +kernel
theorem dX10_writesAll_43 : decode cX10_writesAll 43 = .ok (.aload_n 0, 1) := by decide +kernel
theorem dX10_writesAll_44 : decode cX10_writesAll 44 = .ok (.bipush 59, 2) := by decide +kernel
theorem dX10_writesAll_46 : decode cX10_writesAll 46 = .ok (.invokevirtual 508, 3) := by decide +kernel
theorem dX10_writesAll_49 : decode cX10_writesAll 49 = .ok (.iconst 0, 1) := by decide +kernel
theorem dX10_writesAll_50 : decode cX10_writesAll 50 = .ok (.istore_n 1, 1) := by decide +kernel
theorem dX10_writesAll_51 : decode cX10_writesAll 51 = .ok (.iload_n 1, 1) := by decide +kernel
theorem dX10_writesAll_52 : decode cX10_writesAll 52 = .ok (.aload_n 0, 1) := by decide +kernel
theorem dX10_writesAll_53 : decode cX10_writesAll 53 = .ok (.getfield 350, 3) := by decide +kernel
theorem dX10_writesAll_56 : decode cX10_writesAll 56 = .ok (.if_icmp .ge 86, 3) := by decide +kernel
theorem dX10_writesAll_59 : decode cX10_writesAll 59 = .ok (.aload_n 0, 1) := by decide +kernel
theorem dX10_writesAll_60 : decode cX10_writesAll 60 = .ok (.bipush 8, 2) := by decide +kernel
theorem dX10_writesAll_62 : decode cX10_writesAll 62 = .ok (.invokevirtual 514, 3) := by decide +kernel
theorem dX10_writesAll_65 : decode cX10_writesAll 65 = .ok (.aload_n 0, 1) := by decide +kernel
theorem dX10_writesAll_66 : decode cX10_writesAll 66 = .ok (.bipush 32, 2) := by decide +kernel
theorem dX10_writesAll_68 : decode cX10_writesAll 68 = .ok (.invokevirtual 508, 3) := by decide +kernel
theorem dX10_writesAll_71 : decode cX10_writesAll 71 = .ok (.aload_n 0, 1) := by decide +kernel
theorem dX10_writesAll_72 : decode cX10_writesAll 72 = .ok (.aload_n 0, 1) := by decide +kernel
theorem dX10_writesAll_73 : decode cX10_writesAll 73 = .ok (.getfield 13, 3) := by decide +kernel
theorem dX10_writesAll_76 : decode cX10_writesAll 76 = .ok (.iload_n 1, 1) := by decide +kernel
theorem dX10_writesAll_77 : decode cX10_writesAll 77 = .ok (.iaload, 1) := by decide +kernel
theorem dX10_writesAll_78 : decode cX10_writesAll 78 = .ok (.invokevirtual 517, 3) := by decide +kernel
theorem dX10_writesAll_81 : decode cX10_writesAll 81 = .ok (.aload_n 0, 1) := by decide +kernel
theorem dX10_writesAll_82 : decode cX10_writesAll 82 = .ok (.bipush 32, 2) := by decide +kernel
theorem dX10_writesAll_84 : decode cX10_writesAll 84 = .ok (.invokevirtual 508, 3) := by decide +kernel
theorem dX10_writesAll_87 : decode cX10_writesAll 87 = .ok (.aload_n 0, 1) := by decide +kernel
theorem dX10_writesAll_88 : decode cX10_writesAll 88 = .ok (.aload_n 0, 1) := by decide +kernel
theorem dX10_writesAll_89 : decode cX10_writesAll 89 = .ok (.getfield 17, 3) := by decide +kernel
theorem dX10_writesAll_92 : decode cX10_writesAll 92 = .ok (.iload_n 1, 1) := by decide +kernel
theorem dX10_writesAll_93 : decode cX10_writesAll 93 = .ok (.iaload, 1) := by decide +kernel
theorem dX10_writesAll_94 : decode cX10_writesAll 94 = .ok (.invokevirtual 517, 3) := by decide +kernel
theorem dX10_writesAll_97 : decode cX10_writesAll 97 = .ok (.aload_n 0, 1) := by decide +kernel
theorem dX10_writesAll_98 : decode cX10_writesAll 98 = .ok (.getfield 20, 3) := by decide +kernel
theorem dX10_writesAll_101 : decode cX10_writesAll 101 = .ok (.iload_n 1, 1) := by decide +kernel
theorem dX10_writesAll_102 : decode cX10_writesAll 102 = .ok (.iaload, 1) := by decide +kernel
theorem dX10_writesAll_103 : decode cX10_writesAll 103 = .ok (.iconst 1, 1) := by decide +kernel
theorem dX10_writesAll_104 : decode cX10_writesAll 104 = .ok (.if_icmp .ne 26, 3) := by decide +kernel
theorem dX10_writesAll_107 : decode cX10_writesAll 107 = .ok (.aload_n 0, 1) := by decide +kernel
theorem dX10_writesAll_108 : decode cX10_writesAll 108 = .ok (.bipush 32, 2) := by decide +kernel
theorem dX10_writesAll_110 : decode cX10_writesAll 110 = .ok (.invokevirtual 508, 3) := by decide +kernel
theorem dX10_writesAll_113 : decode cX10_writesAll 113 = .ok (.aload_n 0, 1) := by decide +kernel
theorem dX10_writesAll_114 : decode cX10_writesAll 114 = .ok (.bipush 9, 2) := by decide +kernel
theorem dX10_writesAll_116 : decode cX10_writesAll 116 = .ok (.invokevirtual 514, 3) := by decide +kernel
theorem dX10_writesAll_119 : decode cX10_writesAll 119 = .ok (.aload_n 0, 1) := by decide +kernel
theorem dX10_writesAll_120 : decode cX10_writesAll 120 = .ok (.bipush 32, 2) := by decide +kernel
theorem dX10_writesAll_122 : decode cX10_writesAll 122 = .ok (.invokevirtual 508, 3) := by decide +kernel
theorem dX10_writesAll_125 : decode cX10_writesAll 125 = .ok (.aload_n 0, 1) := by decide +kernel
theorem dX10_writesAll_126 : decode cX10_writesAll 126 = .ok (.iload_n 1, 1) := by decide +kernel
theorem dX10_writesAll_127 : decode cX10_writesAll 127 = .ok (.invokevirtual 520, 3) := by decide +kernel
theorem dX10_writesAll_130 : decode cX10_writesAll 130 = .ok (.aload_n 0, 1) := by decide +kernel
theorem dX10_writesAll_131 : decode cX10_writesAll 131 = .ok (.bipush 59, 2) := by decide +kernel
theorem dX10_writesAll_133 : decode cX10_writesAll 133 = .ok (.invokevirtual 508, 3) := by decide +kernel
theorem dX10_writesAll_136 : decode cX10_writesAll 136 = .ok (.iinc 1 1, 3) := by decide +kernel
theorem dX10_writesAll_139 : decode cX10_writesAll 139 = .ok (.goto (-88), 3) := by decide +kernel
theorem dX10_writesAll_142 : decode cX10_writesAll 142 = .ok (.return_, 1) := by decide +kernel
set_option maxHeartbeats 4000000 in
set_option maxRecDepth 100000 in
theorem c_wrAll (m : Nat) {n : Nat} {kd : mK} {I : mI} {J : mJ} {P : mP} (hM : kM kd P m) (h1 : I m 1 = nI 0) (h2 : I m 2 = nI 9) (h3 : I m 3 = nI 0) : Ct yX10_writesAll cX10_writesAll 2 none 4 0 0 [.ref m] n kd I J P (am_is none n kd (gI m (wrQ I m) I) J P) := by
  have e : va_up I m (va_up (I m) 77 (nI 0)) = gI m (I m 78, I m 1, nO (I m 30), 0, I (m + 1), I (m + 2), I (m + 3), I (m + 4), I (m + 5), I (m + 6), I (m + 7), I (m + 8), I (m + 9), I (m + 10), I (m + 40)) I := by
    have h := gI_ppl (it := I m 78) (ho := I m 1) (tp := nO (I m 30)) (pl := nO (I m 77)) (so := I (m + 1)) (de := I (m + 2)) (ri := I (m + 3)) (mu := I (m + 4)) (ra := I (m + 5)) (lk := I (m + 6)) (cd := I (m + 7)) (te := I (m + 8)) (tf := I (m + 9)) (tt := I (m + 10)) (pg := I (m + 40)) m I 0
    have e0 := gI_self m I
    unfold psOf at e0
    rw [e0] at h
    exact h
  refine ct_of 1 (by decide +kernel) (Nat.le_of_ble_eq_true rfl) rfl ?_
  refine r_aload_n dX10_writesAll_0 rfl ?_
  refine r_iconst (v := nI 0) dX10_writesAll_1 (by decide) ?_
  refine r_putI dX10_writesAll_2 fl_X10_505 rfl rfl (kM_0 hM) ?_
  rw [e]
  refine r_aload_n dX10_writesAll_5 rfl ?_
  refine r_iconst (v := nI 5) dX10_writesAll_6 (by decide) ?_
  refine r_virtV (c_word_5 m (I m 78, I m 1, nO (I m 30), 0, I (m + 1), I (m + 2), I (m + 3), I (m + 4), I (m + 5), I (m + 6), I (m + 7), I (m + 8), I (m + 9), I (m + 10), I (m + 40)) hM (by show 0 + 6 < 1100; decide)) lk_X10_514 mc_X10_writesWord dX10_writesAll_7 hM.1 (by decide) rfl rfl (Nat.le_of_ble_eq_true rfl) ?_
  change RuZ _ _ _ _ _ _ _ _ _ _ _ _ _ _ _ (gI m ((I m 78, I m 1, nO (I m 30), 4, I (m + 1), I (m + 2), I (m + 3), I (m + 4), I (m + 5), I (m + 6), I (m + 7), I (m + 8), I (m + 9), I (m + 10), va_up (va_up (va_up (va_up (I (m + 40)) 0 (nI 109)) 1 (nI 111)) 2 (nI 115)) 3 (nI 116))) I) _ _
  refine r_aload_n dX10_writesAll_10 rfl ?_
  refine r_bipush (v := nI 32) dX10_writesAll_11 (by decide) ?_
  refine r_virtV (c_w m (I m 78, I m 1, nO (I m 30), 4, I (m + 1), I (m + 2), I (m + 3), I (m + 4), I (m + 5), I (m + 6), I (m + 7), I (m + 8), I (m + 9), I (m + 10), va_up (va_up (va_up (va_up (I (m + 40)) 0 (nI 109)) 1 (nI 111)) 2 (nI 115)) 3 (nI 116)) (nI 32) hM (by show 4 < 1100; decide)) lk_X10_508 mc_X10_writes dX10_writesAll_13 hM.1 (by decide) rfl rfl (Nat.le_of_ble_eq_true rfl) ?_
  change RuZ _ _ _ _ _ _ _ _ _ _ _ _ _ _ _ (gI m ((I m 78, I m 1, nO (I m 30), 5, I (m + 1), I (m + 2), I (m + 3), I (m + 4), I (m + 5), I (m + 6), I (m + 7), I (m + 8), I (m + 9), I (m + 10), va_up (va_up (va_up (va_up (va_up (I (m + 40)) 0 (nI 109)) 1 (nI 111)) 2 (nI 115)) 3 (nI 116)) 4 (nI 32))) I) _ _
  refine r_aload_n dX10_writesAll_16 rfl ?_
  refine r_aload_n dX10_writesAll_17 rfl ?_
  refine r_getI dX10_writesAll_18 fl_X10_7 rfl (kM_0 hM) ?_
  rw [gI_o m I (by decide), h2]
  refine r_virtV (c_n m 9 (I m 78, I m 1, nO (I m 30), 5, I (m + 1), I (m + 2), I (m + 3), I (m + 4), I (m + 5), I (m + 6), I (m + 7), I (m + 8), I (m + 9), I (m + 10), va_up (va_up (va_up (va_up (va_up (I (m + 40)) 0 (nI 109)) 1 (nI 111)) 2 (nI 115)) 3 (nI 116)) 4 (nI 32)) hM (by decide) (by show 5 + 2 < 1100; decide)) lk_X10_517 mc_X10_writesNumber dX10_writesAll_21 hM.1 (by decide) rfl rfl (Nat.le_of_ble_eq_true rfl) ?_
  change RuZ _ _ _ _ _ _ _ _ _ _ _ _ _ _ _ (gI m ((I m 78, I m 1, nO (I m 30), 6, I (m + 1), I (m + 2), I (m + 3), I (m + 4), I (m + 5), I (m + 6), I (m + 7), I (m + 8), I (m + 9), I (m + 10), va_up (va_up (va_up (va_up (va_up (va_up (I (m + 40)) 0 (nI 109)) 1 (nI 111)) 2 (nI 115)) 3 (nI 116)) 4 (nI 32)) 5 (nI 57))) I) _ _
  refine r_aload_n dX10_writesAll_24 rfl ?_
  refine r_bipush (v := nI 59) dX10_writesAll_25 (by decide) ?_
  refine r_virtV (c_w m (I m 78, I m 1, nO (I m 30), 6, I (m + 1), I (m + 2), I (m + 3), I (m + 4), I (m + 5), I (m + 6), I (m + 7), I (m + 8), I (m + 9), I (m + 10), va_up (va_up (va_up (va_up (va_up (va_up (I (m + 40)) 0 (nI 109)) 1 (nI 111)) 2 (nI 115)) 3 (nI 116)) 4 (nI 32)) 5 (nI 57)) (nI 59) hM (by show 6 < 1100; decide)) lk_X10_508 mc_X10_writes dX10_writesAll_27 hM.1 (by decide) rfl rfl (Nat.le_of_ble_eq_true rfl) ?_
  change RuZ _ _ _ _ _ _ _ _ _ _ _ _ _ _ _ (gI m ((I m 78, I m 1, nO (I m 30), 7, I (m + 1), I (m + 2), I (m + 3), I (m + 4), I (m + 5), I (m + 6), I (m + 7), I (m + 8), I (m + 9), I (m + 10), va_up (va_up (va_up (va_up (va_up (va_up (va_up (I (m + 40)) 0 (nI 109)) 1 (nI 111)) 2 (nI 115)) 3 (nI 116)) 4 (nI 32)) 5 (nI 57)) 6 (nI 59))) I) _ _
  refine r_aload_n dX10_writesAll_30 rfl ?_
  refine r_getI dX10_writesAll_31 fl_X10_353 rfl (kM_0 hM) ?_
  rw [gI_o m I (by decide), h3]
  refine r_if_eq (tgt := 49) dX10_writesAll_34 (by decide) (fun _ => ?_) (fun hz => absurd (show _ from rfl) hz)
  refine r_iconst (v := nI 0) dX10_writesAll_49 (by decide) ?_
  refine r_istore_n dX10_writesAll_50 (by decide) ?_
  refine r_iload_n dX10_writesAll_51 rfl ?_
  refine r_aload_n dX10_writesAll_52 rfl ?_
  refine r_getI dX10_writesAll_53 fl_X10_350 rfl (kM_0 hM) ?_
  rw [show gI m ((I m 78, I m 1, nO (I m 30), 7, I (m + 1), I (m + 2), I (m + 3), I (m + 4), I (m + 5), I (m + 6), I (m + 7), I (m + 8), I (m + 9), I (m + 10), va_up (va_up (va_up (va_up (va_up (va_up (va_up (I (m + 40)) 0 (nI 109)) 1 (nI 111)) 2 (nI 115)) 3 (nI 116)) 4 (nI 32)) 5 (nI 57)) 6 (nI 59))) I m 1 = nI 0 from by rw [gI_ho]; exact h1]
  refine r_icmp_ge (tgt := 142) dX10_writesAll_56 (by decide) (fun _ => ?_) (fun hz => absurd (show _ from (by decide)) hz)
  refine r_vret rfl dX10_writesAll_142 ?_
  exact am_is.mk

theorem dX10_written_0 : decode cX10_written 0 = .ok (.aload_n 0, 1) := by decide +kernel
theorem dX10_written_1 : decode cX10_written 1 = .ok (.iconst 0, 1) := by decide +kernel
theorem dX10_written_2 : decode cX10_written 2 = .ok (.putfield 193, 3) := by decide +kernel
theorem dX10_written_5 : decode cX10_written 5 = .ok (.aload_n 0, 1) := by decide +kernel
theorem dX10_written_6 : decode cX10_written 6 = .ok (.invokevirtual 523, 3) := by decide +kernel
theorem dX10_written_9 : decode cX10_written 9 = .ok (.aload_n 0, 1) := by decide +kernel
theorem dX10_written_10 : decode cX10_written 10 = .ok (.iload_n 1, 1) := by decide +kernel
theorem dX10_written_11 : decode cX10_written 11 = .ok (.iconst (-1), 1) := by decide +kernel
theorem dX10_written_12 : decode cX10_written 12 = .ok (.if_icmp .lt 15, 3) := by decide +kernel
theorem dX10_written_15 : decode cX10_written 15 = .ok (.iload_n 1, 1) := by decide +kernel
theorem dX10_written_16 : decode cX10_written 16 = .ok (.aload_n 0, 1) := by decide +kernel
theorem dX10_written_17 : decode cX10_written 17 = .ok (.getfield 505, 3) := by decide +kernel
theorem dX10_written_20 : decode cX10_written 20 = .ok (.if_icmp .ge 7, 3) := by decide +kernel
theorem dX10_written_23 : decode cX10_written 23 = .ok (.iconst 1, 1) := by decide +kernel
theorem dX10_written_24 : decode cX10_written 24 = .ok (.goto 4, 3) := by decide +kernel
theorem dX10_written_27 : decode cX10_written 27 = .ok (.iconst 0, 1) := by decide +kernel
theorem dX10_written_28 : decode cX10_written 28 = .ok (.iconst 1, 1) := by decide +kernel
theorem dX10_written_29 : decode cX10_written 29 = .ok (.invokevirtual 343, 3) := by decide +kernel
theorem dX10_written_32 : decode cX10_written 32 = .ok (.ifCond .ne 5, 3) := by decide +kernel
theorem dX10_written_35 : decode cX10_written 35 = .ok (.iconst 0, 1) := by decide +kernel
theorem dX10_written_36 : decode cX10_written 36 = .ok (.ireturn, 1) := by decide +kernel
theorem dX10_written_37 : decode cX10_written 37 = .ok (.iload_n 1, 1) := by decide +kernel
theorem dX10_written_38 : decode cX10_written 38 = .ok (.iconst (-1), 1) := by decide +kernel
theorem dX10_written_39 : decode cX10_written 39 = .ok (.if_icmp .ne 10, 3) := by decide +kernel
theorem dX10_written_42 : decode cX10_written 42 = .ok (.aload_n 0, 1) := by decide +kernel
theorem dX10_written_43 : decode cX10_written 43 = .ok (.getfield 505, 3) := by decide +kernel
theorem dX10_written_46 : decode cX10_written 46 = .ok (.goto 9, 3) := by decide +kernel
theorem dX10_written_49 : decode cX10_written 49 = .ok (.aload_n 0, 1) := by decide +kernel
theorem dX10_written_50 : decode cX10_written 50 = .ok (.getfield 145, 3) := by decide +kernel
theorem dX10_written_53 : decode cX10_written 53 = .ok (.iload_n 1, 1) := by decide +kernel
theorem dX10_written_54 : decode cX10_written 54 = .ok (.iaload, 1) := by decide +kernel
theorem dX10_written_55 : decode cX10_written 55 = .ok (.ireturn, 1) := by decide +kernel

set_option maxHeartbeats 4000000 in
set_option maxRecDepth 100000 in
theorem q_written_l (m : Nat) {n : Nat} {kd : mK} {I : mI} {J : mJ} {P : mP} (hF : fsM m kd I J P) : Ct yX10_written cX10_written 2 (some .int) 5 0 0 [.ref m, .int (-1)] n kd I J P (pR m n kd I J P (some (.int (nI 7))) 0) := by
  have hM := hF.1
  have hm := hF.2.1
  refine ct_of 0 (by decide +kernel) (Nat.le_of_ble_eq_true rfl) rfl ?_
  refine r_aload_n dX10_written_0 rfl ?_
  refine r_iconst (v := nI 0) dX10_written_1 (by decide) ?_
  refine r_putI dX10_written_2 fl_X10_193 rfl rfl (kM_0 hM) ?_
  rw [hF.th]
  refine r_aload_n dX10_written_5 rfl ?_
  refine r_virtV (c_wrAll m hM (by rw [hm]; rfl) (by rw [hm]; rfl) (by rw [hm]; rfl)) lk_X10_523 mc_X10_writesAll dX10_written_6 hM.1 (by decide) rfl rfl (Nat.le_of_ble_eq_true rfl) ?_
  refine r_aload_n dX10_written_9 rfl ?_
  refine r_iload_n dX10_written_10 rfl ?_
  refine r_iconst (v := (-1)) dX10_written_11 (by decide) ?_
  refine r_icmp_lt (tgt := 27) dX10_written_12 (by decide) (fun hz => absurd hz (show ¬ _ from (by decide))) (fun _ => ?_)
  refine r_iload_n dX10_written_15 rfl ?_
  refine r_aload_n dX10_written_16 rfl ?_
  refine r_getI dX10_written_17 fl_X10_505 rfl (kM_0 hM) ?_
  rw [show gI m (wrQ I m) I m 77 = nI 7 from by unfold wrQ; rw [gI_pl]]
  refine r_icmp_ge (tgt := 27) dX10_written_20 (by decide) (fun hz => absurd hz (show ¬ _ from (by decide))) (fun _ => ?_)
  refine r_iconst (v := nI 1) dX10_written_23 (by decide) ?_
  refine r_goto (tgt := 28) dX10_written_24 (by decide) ?_
  refine r_iconst (v := nI 1) dX10_written_28 (by decide) ?_
  refine r_virtE (c_X10_right m true (nI 1) hM (by show gI m (wrQ I m) I m 0 = nI 0; unfold wrQ; rw [gI_o m I (by decide), hm]; rfl) (by decide)) lk_X10_343 mc_X10_right dX10_written_29 hM.1 (by decide) rfl rfl (Nat.le_of_ble_eq_true rfl) ?_
  rw [thM_ok]
  refine r_if_ne (tgt := 37) dX10_written_32 (by decide) (fun _ => ?_) (fun hz => absurd hz (show ¬ _ from (by decide)))
  refine r_iload_n dX10_written_37 rfl ?_
  refine r_iconst (v := (-1)) dX10_written_38 (by decide) ?_
  refine r_icmp_ne (tgt := 49) dX10_written_39 (by decide) (fun hz => absurd (show _ from rfl) hz) (fun _ => ?_)
  refine r_aload_n dX10_written_42 rfl ?_
  refine r_getI dX10_written_43 fl_X10_505 rfl (kM_0 hM) ?_
  rw [show gI m (wrQ I m) I m 77 = nI 7 from by unfold wrQ; rw [gI_pl]]
  refine r_goto (tgt := 55) dX10_written_46 (by decide) ?_
  refine r_iret rfl dX10_written_55 ?_
  exact ⟨rfl, rfl, rfl, rfl, (by show gI m (wrQ I m) I m 0 = nI 0; unfold wrQ; rw [gI_o m I (by decide), hm]; rfl), rfl⟩

def byt (i : Nat) : Int32 := [nI 109, nI 111, nI 115, nI 116, nI 32, nI 57, nI 59].getD i 0
theorem pg9_at (pg : Nat → Int32) (i : Nat) (h : i < 7) : pg9 pg i = byt i := by
  rcases (by omega : i = 0 ∨ i = 1 ∨ i = 2 ∨ i = 3 ∨ i = 4 ∨ i = 5 ∨ i = 6) with e | e | e | e | e | e | e <;> subst e <;> rfl
set_option maxHeartbeats 4000000 in
set_option maxRecDepth 100000 in
theorem q_written_b (m i : Nat) {n : Nat} {kd : mK} {I : mI} {J : mJ} {P : mP} (hF : fsM m kd I J P) (hi : i < 7) : Ct yX10_written cX10_written 2 (some .int) 5 0 0 [.ref m, .int (nI i)] n kd I J P (pR m n kd I J P (some (.int (byt i))) 0) := by
  have hM := hF.1
  have hm := hF.2.1
  refine ct_of 0 (by decide +kernel) (Nat.le_of_ble_eq_true rfl) rfl ?_
  refine r_aload_n dX10_written_0 rfl ?_
  refine r_iconst (v := nI 0) dX10_written_1 (by decide) ?_
  refine r_putI dX10_written_2 fl_X10_193 rfl rfl (kM_0 hM) ?_
  rw [hF.th]
  refine r_aload_n dX10_written_5 rfl ?_
  refine r_virtV (c_wrAll m hM (by rw [hm]; rfl) (by rw [hm]; rfl) (by rw [hm]; rfl)) lk_X10_523 mc_X10_writesAll dX10_written_6 hM.1 (by decide) rfl rfl (Nat.le_of_ble_eq_true rfl) ?_
  refine r_aload_n dX10_written_9 rfl ?_
  refine r_iload_n dX10_written_10 rfl ?_
  refine r_iconst (v := (-1)) dX10_written_11 (by decide) ?_
  refine r_icmp_lt (tgt := 27) dX10_written_12 (by decide) (fun hz => absurd hz (show ¬ _ from (fun q => z_nlt (k := i) (by omega) (Int32.lt_trans q (by decide))))) (fun _ => ?_)
  refine r_iload_n dX10_written_15 rfl ?_
  refine r_aload_n dX10_written_16 rfl ?_
  refine r_getI dX10_written_17 fl_X10_505 rfl (kM_0 hM) ?_
  rw [show gI m (wrQ I m) I m 77 = nI 7 from by unfold wrQ; rw [gI_pl]]
  refine r_icmp_ge (tgt := 27) dX10_written_20 (by decide) (fun hz => absurd hz (show ¬ _ from (by rw [nI_leI (by omega) (by omega)]; omega))) (fun _ => ?_)
  refine r_iconst (v := nI 1) dX10_written_23 (by decide) ?_
  refine r_goto (tgt := 28) dX10_written_24 (by decide) ?_
  refine r_iconst (v := nI 1) dX10_written_28 (by decide) ?_
  refine r_virtE (c_X10_right m true (nI 1) hM (by show gI m (wrQ I m) I m 0 = nI 0; unfold wrQ; rw [gI_o m I (by decide), hm]; rfl) (by decide)) lk_X10_343 mc_X10_right dX10_written_29 hM.1 (by decide) rfl rfl (Nat.le_of_ble_eq_true rfl) ?_
  rw [thM_ok]
  refine r_if_ne (tgt := 37) dX10_written_32 (by decide) (fun _ => ?_) (fun hz => absurd hz (show ¬ _ from (by decide)))
  refine r_iload_n dX10_written_37 rfl ?_
  refine r_iconst (v := (-1)) dX10_written_38 (by decide) ?_
  refine r_icmp_ne (tgt := 49) dX10_written_39 (by decide) (fun _ => ?_) (fun hz => absurd hz (show ¬ _ from (nI_m1 (by omega))))
  refine r_aload_n dX10_written_49 rfl ?_
  refine r_getR dX10_written_50 fl_X10_145 rfl (kM_0 hM) (pM_76 hM) ?_
  refine r_iload_n dX10_written_53 rfl ?_
  refine r_iald dX10_written_54 (aM_76 hM) (nI_in8 1100 (by omega) (by decide)) (nI_clamp (by omega)) ?_
  rw [show gI m (wrQ I m) I (m + 40) = pg9 (I (m + 40)) from by unfold wrQ; rw [gI_apg], pg9_at _ i hi]
  refine r_iret rfl dX10_written_55 ?_
  exact ⟨rfl, rfl, rfl, rfl, (by show gI m (wrQ I m) I m 0 = nI 0; unfold wrQ; rw [gI_o m I (by decide), hm]; rfl), rfl⟩

set_option maxHeartbeats 4000000 in
set_option maxRecDepth 100000 in
theorem q_written_no (m : Nat) (x : Int32) {n : Nat} {kd : mK} {I : mI} {J : mJ} {P : mP} (hF : fsM m kd I J P) (hx : x < -1 ∨ nI 7 ≤ x) : Ct yX10_written cX10_written 2 (some .int) 5 0 0 [.ref m, .int x] n kd I J P (pR m n kd I J P (some (.int (nI 0))) 1) := by
  have hM := hF.1
  have hm := hF.2.1
  refine ct_of 0 (by decide +kernel) (Nat.le_of_ble_eq_true rfl) rfl ?_
  refine r_aload_n dX10_written_0 rfl ?_
  refine r_iconst (v := nI 0) dX10_written_1 (by decide) ?_
  refine r_putI dX10_written_2 fl_X10_193 rfl rfl (kM_0 hM) ?_
  rw [hF.th]
  refine r_aload_n dX10_written_5 rfl ?_
  refine r_virtV (c_wrAll m hM (by rw [hm]; rfl) (by rw [hm]; rfl) (by rw [hm]; rfl)) lk_X10_523 mc_X10_writesAll dX10_written_6 hM.1 (by decide) rfl rfl (Nat.le_of_ble_eq_true rfl) ?_
  refine r_aload_n dX10_written_9 rfl ?_
  refine r_iload_n dX10_written_10 rfl ?_
  refine r_iconst (v := (-1)) dX10_written_11 (by decide) ?_
  refine r_icmp_lt (tgt := 27) dX10_written_12 (by decide) (fun h12 => ?_) (fun h12 => ?_)
  · skip
    refine r_iconst (v := nI 0) dX10_written_27 (by decide) ?_
    refine r_iconst (v := nI 1) dX10_written_28 (by decide) ?_
    refine r_virtE (c_X10_right m false (nI 1) hM (by show gI m (wrQ I m) I m 0 = nI 0; unfold wrQ; rw [gI_o m I (by decide), hm]; rfl) (by decide)) lk_X10_343 mc_X10_right dX10_written_29 hM.1 (by decide) rfl rfl (Nat.le_of_ble_eq_true rfl) ?_
    refine r_if_ne (tgt := 37) dX10_written_32 (by decide) (fun hz => absurd (show _ from rfl) hz) (fun _ => ?_)
    refine r_iconst (v := nI 0) dX10_written_35 (by decide) ?_
    refine r_iret rfl dX10_written_36 ?_
    refine ⟨rfl, rfl, rfl, rfl, ?_, rfl⟩
    simp only [thM, am_up_s, Bool.false_eq_true, if_false]
  · skip
    refine r_iload_n dX10_written_15 rfl ?_
    refine r_aload_n dX10_written_16 rfl ?_
    refine r_getI dX10_written_17 fl_X10_505 rfl (kM_0 hM) ?_
    rw [show gI m (wrQ I m) I m 77 = nI 7 from by unfold wrQ; rw [gI_pl]]
    refine r_icmp_ge (tgt := 27) dX10_written_20 (by decide) (fun _ => ?_) (fun hz => absurd (show _ from (hx.resolve_left h12)) hz)
    refine r_iconst (v := nI 0) dX10_written_27 (by decide) ?_
    refine r_iconst (v := nI 1) dX10_written_28 (by decide) ?_
    refine r_virtE (c_X10_right m false (nI 1) hM (by show gI m (wrQ I m) I m 0 = nI 0; unfold wrQ; rw [gI_o m I (by decide), hm]; rfl) (by decide)) lk_X10_343 mc_X10_right dX10_written_29 hM.1 (by decide) rfl rfl (Nat.le_of_ble_eq_true rfl) ?_
    refine r_if_ne (tgt := 37) dX10_written_32 (by decide) (fun hz => absurd (show _ from rfl) hz) (fun _ => ?_)
    refine r_iconst (v := nI 0) dX10_written_35 (by decide) ?_
    refine r_iret rfl dX10_written_36 ?_
    refine ⟨rfl, rfl, rfl, rfl, ?_, rfl⟩
    simp only [thM, am_up_s, Bool.false_eq_true, if_false]

theorem hdB_9 : hdB 9 0 = [nI 109, nI 111, nI 115, nI 116, nI 32, nI 57, nI 59] := by decide +kernel
theorem dX4_writeStreet_0 : decode cX4_writeStreet 0 = .ok (.aload_n 0, 1) := by decide +kernel
theorem dX4_writeStreet_1 : decode cX4_writeStreet 1 = .ok (.iconst 0, 1) := by decide +kernel
theorem dX4_writeStreet_2 : decode cX4_writeStreet 2 = .ok (.putfield 13, 3) := by decide +kernel
theorem dX4_writeStreet_5 : decode cX4_writeStreet 5 = .ok (.aload_n 0, 1) := by decide +kernel
theorem dX4_writeStreet_6 : decode cX4_writeStreet 6 = .ok (.aload_n 1, 1) := by decide +kernel
theorem dX4_writeStreet_7 : decode cX4_writeStreet 7 = .ok (.invokevirtual 52, 3) := by decide +kernel
theorem dX4_writeStreet_10 : decode cX4_writeStreet 10 = .ok (.iconst 0, 1) := by decide +kernel
theorem dX4_writeStreet_11 : decode cX4_writeStreet 11 = .ok (.istore_n 3, 1) := by decide +kernel
theorem dX4_writeStreet_12 : decode cX4_writeStreet 12 = .ok (.iload_n 3, 1) := by decide +kernel
theorem dX4_writeStreet_13 : decode cX4_writeStreet 13 = .ok (.aload_n 1, 1) := by decide +kernel
theorem dX4_writeStreet_14 : decode cX4_writeStreet 14 = .ok (.getfield 56, 3) := by decide +kernel
theorem dX4_writeStreet_17 : decode cX4_writeStreet 17 = .ok (.if_icmp .ge 97, 3) := by decide +kernel
theorem dX4_writeStreet_20 : decode cX4_writeStreet 20 = .ok (.aload_n 0, 1) := by decide +kernel
theorem dX4_writeStreet_21 : decode cX4_writeStreet 21 = .ok (.ldc 59, 2) := by decide +kernel
theorem dX4_writeStreet_23 : decode cX4_writeStreet 23 = .ok (.invokevirtual 32, 3) := by decide +kernel
theorem dX4_writeStreet_26 : decode cX4_writeStreet 26 = .ok (.aload_n 0, 1) := by decide +kernel
theorem dX4_writeStreet_27 : decode cX4_writeStreet 27 = .ok (.aload_n 2, 1) := by decide +kernel
theorem dX4_writeStreet_28 : decode cX4_writeStreet 28 = .ok (.getfield 61, 3) := by decide +kernel
theorem dX4_writeStreet_31 : decode cX4_writeStreet 31 = .ok (.iload_n 3, 1) := by decide +kernel
theorem dX4_writeStreet_32 : decode cX4_writeStreet 32 = .ok (.iaload, 1) := by decide +kernel
theorem dX4_writeStreet_33 : decode cX4_writeStreet 33 = .ok (.invokevirtual 41, 3) := by decide +kernel
theorem dX4_writeStreet_36 : decode cX4_writeStreet 36 = .ok (.aload_n 0, 1) := by decide +kernel
theorem dX4_writeStreet_37 : decode cX4_writeStreet 37 = .ok (.bipush 32, 2) := by decide +kernel
theorem dX4_writeStreet_39 : decode cX4_writeStreet 39 = .ok (.invokevirtual 26, 3) := by decide +kernel
theorem dX4_writeStreet_42 : decode cX4_writeStreet 42 = .ok (.aload_n 0, 1) := by decide +kernel
theorem dX4_writeStreet_43 : decode cX4_writeStreet 43 = .ok (.aload_n 2, 1) := by decide +kernel
theorem dX4_writeStreet_44 : decode cX4_writeStreet 44 = .ok (.getfield 67, 3) := by decide +kernel
theorem dX4_writeStreet_47 : decode cX4_writeStreet 47 = .ok (.iload_n 3, 1) := by decide +kernel
theorem dX4_writeStreet_48 : decode cX4_writeStreet 48 = .ok (.iaload, 1) := by decide +kernel
theorem dX4_writeStreet_49 : decode cX4_writeStreet 49 = .ok (.invokevirtual 41, 3) := by decide +kernel
theorem dX4_writeStreet_52 : decode cX4_writeStreet 52 = .ok (.aload_n 1, 1) := by decide +kernel
theorem dX4_writeStreet_53 : decode cX4_writeStreet 53 = .ok (.iload_n 3, 1) := by decide +kernel
theorem dX4_writeStreet_54 : decode cX4_writeStreet 54 = .ok (.invokevirtual 70, 3) := by decide +kernel
theorem dX4_writeStreet_57 : decode cX4_writeStreet 57 = .ok (.ifCond .eq 45, 3) := by decide +kernel
theorem dX4_writeStreet_60 : decode cX4_writeStreet 60 = .ok (.aload_n 0, 1) := by decide +kernel
theorem dX4_writeStreet_61 : decode cX4_writeStreet 61 = .ok (.ldc 74, 2) := by decide +kernel
theorem dX4_writeStreet_63 : decode cX4_writeStreet 63 = .ok (.invokevirtual 32, 3) := by decide +kernel
theorem dX4_writeStreet_66 : decode cX4_writeStreet 66 = .ok (.aload_n 1, 1) := by decide +kernel
theorem dX4_writeStreet_67 : decode cX4_writeStreet 67 = .ok (.getfield 76, 3) := by decide +kernel
theorem dX4_writeStreet_70 : decode cX4_writeStreet 70 = .ok (.iload_n 3, 1) := by decide +kernel
theorem dX4_writeStreet_71 : decode cX4_writeStreet 71 = .ok (.iaload, 1) := by decide +kernel
theorem dX4_writeStreet_72 : decode cX4_writeStreet 72 = .ok (.istore 4, 2) := by decide +kernel
theorem dX4_writeStreet_74 : decode cX4_writeStreet 74 = .ok (.iload 4, 2) := by decide +kernel
theorem dX4_writeStreet_76 : decode cX4_writeStreet 76 = .ok (.aload_n 1, 1) := by decide +kernel
theorem dX4_writeStreet_77 : decode cX4_writeStreet 77 = .ok (.getfield 79, 3) := by decide +kernel
theorem dX4_writeStreet_80 : decode cX4_writeStreet 80 = .ok (.iload_n 3, 1) := by decide +kernel
theorem dX4_writeStreet_81 : decode cX4_writeStreet 81 = .ok (.iaload, 1) := by decide +kernel
theorem dX4_writeStreet_82 : decode cX4_writeStreet 82 = .ok (.if_icmp .ge 20, 3) := by decide +kernel
theorem dX4_writeStreet_85 : decode cX4_writeStreet 85 = .ok (.aload_n 0, 1) := by decide +kernel
theorem dX4_writeStreet_86 : decode cX4_writeStreet 86 = .ok (.aload_n 1, 1) := by decide +kernel
theorem dX4_writeStreet_87 : decode cX4_writeStreet 87 = .ok (.getfield 82, 3) := by decide +kernel
theorem dX4_writeStreet_90 : decode cX4_writeStreet 90 = .ok (.iload 4, 2) := by decide +kernel
theorem dX4_writeStreet_92 : decode cX4_writeStreet 92 = .ok (.baload, 1) := by decide +kernel
theorem dX4_writeStreet_93 : decode cX4_writeStreet 93 = .ok (.invokevirtual 26, 3) := by decide +kernel
theorem dX4_writeStreet_96 : decode cX4_writeStreet 96 = .ok (.iinc 4 1, 3) := by decide +kernel
theorem dX4_writeStreet_99 : decode cX4_writeStreet 99 = .ok (.goto (-25), 3) := by decide +kernel
theorem dX4_writeStreet_102 : decode cX4_writeStreet 102 = .ok (.aload_n 0, 1) := by decide +kernel
theorem dX4_writeStreet_103 : decode cX4_writeStreet 103 = .ok (.bipush 59, 2) := by decide +kernel
theorem dX4_writeStreet_105 : decode cX4_writeStreet 105 = .ok (.invokevirtual 26, 3) := by decide +kernel
theorem dX4_writeStreet_108 : decode cX4_writeStreet 108 = .ok (.iinc 3 1, 3) := by decide +kernel
theorem dX4_writeStreet_111 : decode cX4_writeStreet 111 = .ok (.goto (-99), 3) := by decide +kernel
theorem dX4_writeStreet_114 : decode cX4_writeStreet 114 = .ok (.return_, 1) := by decide +kernel
set_option maxHeartbeats 4000000 in
set_option maxRecDepth 100000 in
theorem c_wrS (p s f : Nat) {n : Nat} {kd : mK} {I : mI} {J : mJ} {P : mP} (hP : kPg kd P p) (hs0 : kd s = some (0, 7)) (hs1 : s ≠ p) (hs2 : s ≠ p + 1) (h0 : I s 0 = nI 0) (h1 : I s 1 = nI 9) (h2 : I s 2 = 0) : Ct yX4_writeStreet cX4_writeStreet 5 none 8 0 0 [.ref p, .ref s, .ref f] n kd I J P (am_is none n kd (pgI p (hdB 9 0) I) J P) := by
  refine ct_of 2 (by decide +kernel) (Nat.le_of_ble_eq_true rfl) rfl ?_
  refine r_aload_n dX4_writeStreet_0 rfl ?_
  refine r_iconst (v := nI 0) dX4_writeStreet_1 (by decide) ?_
  refine r_putI dX4_writeStreet_2 fl_X4_13 rfl rfl hP.1 ?_
  rw [pgI_nil]
  refine r_aload_n dX4_writeStreet_5 rfl ?_
  refine r_aload_n dX4_writeStreet_6 rfl ?_
  refine r_virtV (c_X4_writeHead p s 9 0 [] hP hs0 hs1 hs2 h1 (by decide) h2 (by decide)) lk_X4_52 mc_X4_writeHead dX4_writeStreet_7 hP.1 (by decide) rfl rfl (Nat.le_of_ble_eq_true rfl) ?_
  rw [List.nil_append]
  refine r_iconst (v := nI 0) dX4_writeStreet_10 (by decide) ?_
  refine r_istore_n dX4_writeStreet_11 (by decide) ?_
  refine r_iload_n dX4_writeStreet_12 rfl ?_
  refine r_aload_n dX4_writeStreet_13 rfl ?_
  refine r_getI dX4_writeStreet_14 fl_X4_56 rfl hs0 ?_
  rw [pgI_ne _ _ hs1 hs2, h0]
  refine r_icmp_ge (tgt := 114) dX4_writeStreet_17 (by decide) (fun _ => ?_) (fun hz => absurd (show _ from (by decide)) hz)
  refine r_vret rfl dX4_writeStreet_114 ?_
  exact am_is.mk

theorem dX9_written_0 : decode cX9_written 0 = .ok (.aload_n 0, 1) := by decide +kernel
theorem dX9_written_1 : decode cX9_written 1 = .ok (.getfield 103, 3) := by decide +kernel
theorem dX9_written_4 : decode cX9_written 4 = .ok (.ifCond .ne 23, 3) := by decide +kernel
theorem dX9_written_7 : decode cX9_written 7 = .ok (.aload_n 0, 1) := by decide +kernel
theorem dX9_written_8 : decode cX9_written 8 = .ok (.getfield 99, 3) := by decide +kernel
theorem dX9_written_11 : decode cX9_written 11 = .ok (.aload_n 0, 1) := by decide +kernel
theorem dX9_written_12 : decode cX9_written 12 = .ok (.getfield 27, 3) := by decide +kernel
theorem dX9_written_15 : decode cX9_written 15 = .ok (.aload_n 0, 1) := by decide +kernel
theorem dX9_written_16 : decode cX9_written 16 = .ok (.getfield 37, 3) := by decide +kernel
theorem dX9_written_19 : decode cX9_written 19 = .ok (.invokevirtual 343, 3) := by decide +kernel
theorem dX9_written_22 : decode cX9_written 22 = .ok (.aload_n 0, 1) := by decide +kernel
theorem dX9_written_23 : decode cX9_written 23 = .ok (.iconst 1, 1) := by decide +kernel
theorem dX9_written_24 : decode cX9_written 24 = .ok (.putfield 103, 3) := by decide +kernel
theorem dX9_written_27 : decode cX9_written 27 = .ok (.iload_n 1, 1) := by decide +kernel
theorem dX9_written_28 : decode cX9_written 28 = .ok (.iconst (-1), 1) := by decide +kernel
theorem dX9_written_29 : decode cX9_written 29 = .ok (.if_icmp .lt 14, 3) := by decide +kernel
theorem dX9_written_32 : decode cX9_written 32 = .ok (.iload_n 1, 1) := by decide +kernel
theorem dX9_written_33 : decode cX9_written 33 = .ok (.aload_n 0, 1) := by decide +kernel
theorem dX9_written_34 : decode cX9_written 34 = .ok (.getfield 99, 3) := by decide +kernel
theorem dX9_written_37 : decode cX9_written 37 = .ok (.getfield 347, 3) := by decide +kernel
theorem dX9_written_40 : decode cX9_written 40 = .ok (.if_icmp .lt 11, 3) := by decide +kernel
theorem dX9_written_43 : decode cX9_written 43 = .ok (.new 139, 3) := by decide +kernel
theorem dX9_written_46 : decode cX9_written 46 = .ok (.dup, 1) := by decide +kernel
theorem dX9_written_47 : decode cX9_written 47 = .ok (.invokespecial 141, 3) := by decide +kernel
theorem dX9_written_50 : decode cX9_written 50 = .ok (.athrow, 1) := by decide +kernel
theorem dX9_written_51 : decode cX9_written 51 = .ok (.iload_n 1, 1) := by decide +kernel
theorem dX9_written_52 : decode cX9_written 52 = .ok (.iconst (-1), 1) := by decide +kernel
theorem dX9_written_53 : decode cX9_written 53 = .ok (.if_icmp .ne 13, 3) := by decide +kernel
theorem dX9_written_56 : decode cX9_written 56 = .ok (.aload_n 0, 1) := by decide +kernel
theorem dX9_written_57 : decode cX9_written 57 = .ok (.getfield 99, 3) := by decide +kernel
theorem dX9_written_60 : decode cX9_written 60 = .ok (.getfield 347, 3) := by decide +kernel
theorem dX9_written_63 : decode cX9_written 63 = .ok (.goto 12, 3) := by decide +kernel
theorem dX9_written_66 : decode cX9_written 66 = .ok (.aload_n 0, 1) := by decide +kernel
theorem dX9_written_67 : decode cX9_written 67 = .ok (.getfield 99, 3) := by decide +kernel
theorem dX9_written_70 : decode cX9_written 70 = .ok (.getfield 348, 3) := by decide +kernel
theorem dX9_written_73 : decode cX9_written 73 = .ok (.iload_n 1, 1) := by decide +kernel
theorem dX9_written_74 : decode cX9_written 74 = .ok (.baload, 1) := by decide +kernel
theorem dX9_written_75 : decode cX9_written 75 = .ok (.ireturn, 1) := by decide +kernel
set_option maxHeartbeats 4000000 in
set_option maxRecDepth 100000 in
theorem p_written_l (o : Nat) {n : Nat} {kd : mK} {I : mI} {J : mJ} {P : mP} (hF : fsC o n kd I J P) : Ct yX9_written cX9_written 2 (some .int) 9 1 6 [.ref o, .int (-1)] n kd I J P (pC o n kd I J P (.inl (some (.int (nI 7))))) := by
  have hF0 := hF
  obtain ⟨hX, hO, h12, hz, hn, f3, f13, f23, f29, f35, f41, f47, f56, f58, f61, f66, f67, f48⟩ := hF
  have hX0 := hX
  obtain ⟨⟨c0, c1, c2⟩, ⟨s3, s13⟩, ⟨l23, l29, l35⟩, ⟨q41, a47, g56, w58, r61, d66, p67⟩, ⟨e0, e3, e8, e10, e12, e13, e14, e15, e16, e17⟩, ⟨e4, e5, e6, e7⟩, hbs, hfl, ho⟩ := hX
  refine ct_of 0 (by decide +kernel) (Nat.le_of_ble_eq_true rfl) rfl ?_
  refine r_aload_n dX9_written_0 rfl ?_
  refine r_getI dX9_written_1 fl_X9_103 rfl c0 ?_
  rw [show I o 18 = nI 0 from by rw [hO]; rfl]
  refine r_if_ne (tgt := 27) dX9_written_4 (by decide) (fun hz => absurd (show _ from rfl) hz) (fun _ => ?_)
  refine r_aload_n dX9_written_7 rfl ?_
  refine r_getR dX9_written_8 fl_X9_99 rfl c0 e17 ?_
  refine r_aload_n dX9_written_11 rfl ?_
  refine r_getR dX9_written_12 fl_X9_27 rfl c0 e4 ?_
  refine r_aload_n dX9_written_15 rfl ?_
  refine r_getR dX9_written_16 fl_X9_37 rfl c0 e6 ?_
  refine r_virtV (c_wrS (o + 67) (o + 3) (o + 23) p67 s3.1 (by omega) (by omega) (by rw [f3.1]; rfl) (by rw [f3.1]; rfl) (by rw [f3.1]; rfl)) lk_X9_343 mc_X4_writeStreet dX9_written_19 p67.1 (by decide) rfl rfl (Nat.le_of_ble_eq_true rfl) ?_
  rw [hdB_9]
  refine r_aload_n dX9_written_22 rfl ?_
  refine r_iconst (v := nI 1) dX9_written_23 (by decide) ?_
  refine r_putZ dX9_written_24 fl_X9_103 rfl rfl (Or.inr rfl) c0 ?_
  refine r_iload_n dX9_written_27 rfl ?_
  refine r_iconst (v := (-1)) dX9_written_28 (by decide) ?_
  refine r_icmp_lt (tgt := 43) dX9_written_29 (by decide) (fun hz => absurd hz (show ¬ _ from (by decide))) (fun _ => ?_)
  refine r_iload_n dX9_written_32 rfl ?_
  refine r_aload_n dX9_written_33 rfl ?_
  refine r_getR dX9_written_34 fl_X9_99 rfl c0 e17 ?_
  refine r_getI dX9_written_37 fl_X9_347 rfl p67.1 ?_
  rw [am_up_n _ _ (by omega), pgI_1, show [nI 109, nI 111, nI 115, nI 116, nI 32, nI 57, nI 59].length = 7 from rfl]
  refine r_icmp_lt (tgt := 51) dX9_written_40 (by decide) (fun _ => ?_) (fun hz => absurd (show _ from (by decide)) hz)
  refine r_iload_n dX9_written_51 rfl ?_
  refine r_iconst (v := (-1)) dX9_written_52 (by decide) ?_
  refine r_icmp_ne (tgt := 66) dX9_written_53 (by decide) (fun hz => absurd (show _ from rfl) hz) (fun _ => ?_)
  refine r_aload_n dX9_written_56 rfl ?_
  refine r_getR dX9_written_57 fl_X9_99 rfl c0 e17 ?_
  refine r_getI dX9_written_60 fl_X9_347 rfl p67.1 ?_
  rw [am_up_n _ _ (by omega), pgI_1, show [nI 109, nI 111, nI 115, nI 116, nI 32, nI 57, nI 59].length = 7 from rfl]
  refine r_goto (tgt := 75) dX9_written_63 (by decide) ?_
  refine r_iret rfl dX9_written_75 ?_
  exact ⟨rfl, ⟨by omega, by omega⟩, fun a a1 _ => ⟨rfl, by rw [am_up_n _ _ (by omega), pgI_ne _ _ (by omega) (by omega)], rfl, rfl⟩⟩

set_option maxHeartbeats 4000000 in
set_option maxRecDepth 100000 in
theorem p_written_b (o i : Nat) {n : Nat} {kd : mK} {I : mI} {J : mJ} {P : mP} (hF : fsC o n kd I J P) (hi : i < 7) : Ct yX9_written cX9_written 2 (some .int) 9 1 6 [.ref o, .int (nI i)] n kd I J P (pC o n kd I J P (.inl (some (.int (byt i))))) := by
  have hF0 := hF
  obtain ⟨hX, hO, h12, hz, hn, f3, f13, f23, f29, f35, f41, f47, f56, f58, f61, f66, f67, f48⟩ := hF
  have hX0 := hX
  obtain ⟨⟨c0, c1, c2⟩, ⟨s3, s13⟩, ⟨l23, l29, l35⟩, ⟨q41, a47, g56, w58, r61, d66, p67⟩, ⟨e0, e3, e8, e10, e12, e13, e14, e15, e16, e17⟩, ⟨e4, e5, e6, e7⟩, hbs, hfl, ho⟩ := hX
  have hb : ∀ g : Nat → Int32, [nI 109, nI 111, nI 115, nI 116, nI 32, nI 57, nI 59].getD i (g i) = byt i := fun g => by
    rcases (by omega : i = 0 ∨ i = 1 ∨ i = 2 ∨ i = 3 ∨ i = 4 ∨ i = 5 ∨ i = 6) with e | e | e | e | e | e | e <;> subst e <;> rfl
  refine ct_of 0 (by decide +kernel) (Nat.le_of_ble_eq_true rfl) rfl ?_
  refine r_aload_n dX9_written_0 rfl ?_
  refine r_getI dX9_written_1 fl_X9_103 rfl c0 ?_
  rw [show I o 18 = nI 0 from by rw [hO]; rfl]
  refine r_if_ne (tgt := 27) dX9_written_4 (by decide) (fun hz => absurd (show _ from rfl) hz) (fun _ => ?_)
  refine r_aload_n dX9_written_7 rfl ?_
  refine r_getR dX9_written_8 fl_X9_99 rfl c0 e17 ?_
  refine r_aload_n dX9_written_11 rfl ?_
  refine r_getR dX9_written_12 fl_X9_27 rfl c0 e4 ?_
  refine r_aload_n dX9_written_15 rfl ?_
  refine r_getR dX9_written_16 fl_X9_37 rfl c0 e6 ?_
  refine r_virtV (c_wrS (o + 67) (o + 3) (o + 23) p67 s3.1 (by omega) (by omega) (by rw [f3.1]; rfl) (by rw [f3.1]; rfl) (by rw [f3.1]; rfl)) lk_X9_343 mc_X4_writeStreet dX9_written_19 p67.1 (by decide) rfl rfl (Nat.le_of_ble_eq_true rfl) ?_
  rw [hdB_9]
  refine r_aload_n dX9_written_22 rfl ?_
  refine r_iconst (v := nI 1) dX9_written_23 (by decide) ?_
  refine r_putZ dX9_written_24 fl_X9_103 rfl rfl (Or.inr rfl) c0 ?_
  refine r_iload_n dX9_written_27 rfl ?_
  refine r_iconst (v := (-1)) dX9_written_28 (by decide) ?_
  refine r_icmp_lt (tgt := 43) dX9_written_29 (by decide) (fun hz => absurd hz (show ¬ _ from (fun q => z_nlt (k := i) (by omega) (Int32.lt_trans q (by decide))))) (fun _ => ?_)
  refine r_iload_n dX9_written_32 rfl ?_
  refine r_aload_n dX9_written_33 rfl ?_
  refine r_getR dX9_written_34 fl_X9_99 rfl c0 e17 ?_
  refine r_getI dX9_written_37 fl_X9_347 rfl p67.1 ?_
  rw [am_up_n _ _ (by omega), pgI_1, show [nI 109, nI 111, nI 115, nI 116, nI 32, nI 57, nI 59].length = 7 from rfl]
  refine r_icmp_lt (tgt := 51) dX9_written_40 (by decide) (fun _ => ?_) (fun hz => absurd (show _ from (by rw [nI_ltI (by omega) (by omega)]; omega)) hz)
  refine r_iload_n dX9_written_51 rfl ?_
  refine r_iconst (v := (-1)) dX9_written_52 (by decide) ?_
  refine r_icmp_ne (tgt := 66) dX9_written_53 (by decide) (fun _ => ?_) (fun hz => absurd hz (show ¬ _ from (nI_m1 (by omega))))
  refine r_aload_n dX9_written_66 rfl ?_
  refine r_getR dX9_written_67 fl_X9_99 rfl c0 e17 ?_
  refine r_getR dX9_written_70 fl_X9_348 rfl p67.1 p67.2.2 ?_
  refine r_iload_n dX9_written_73 rfl ?_
  refine r_bald dX9_written_74 p67.2.1 (nI_in8 1200 (by omega) (by decide)) (nI_clamp (by omega)) ?_
  rw [am_up_n _ _ (by omega), pgI_b]
  rw [show (fun j => [nI 109, nI 111, nI 115, nI 116, nI 32, nI 57, nI 59].getD j (I (o + 67 + 1) j)) i = byt i from hb _]
  refine r_iret rfl dX9_written_75 ?_
  exact ⟨rfl, ⟨by omega, by omega⟩, fun a a1 _ => ⟨rfl, by rw [am_up_n _ _ (by omega), pgI_ne _ _ (by omega) (by omega)], rfl, rfl⟩⟩

set_option maxHeartbeats 4000000 in
set_option maxRecDepth 100000 in
theorem p_written_no (o : Nat) (x : Int32) {n : Nat} {kd : mK} {I : mI} {J : mJ} {P : mP} (hF : fsC o n kd I J P) (hx : x < -1 ∨ nI 7 ≤ x) : Ct yX9_written cX9_written 2 (some .int) 9 1 6 [.ref o, .int x] n kd I J P (pC o n kd I J P (.inr "java/util/NoSuchElementException")) := by
  have hF0 := hF
  obtain ⟨hX, hO, h12, hz, hn, f3, f13, f23, f29, f35, f41, f47, f56, f58, f61, f66, f67, f48⟩ := hF
  have hX0 := hX
  obtain ⟨⟨c0, c1, c2⟩, ⟨s3, s13⟩, ⟨l23, l29, l35⟩, ⟨q41, a47, g56, w58, r61, d66, p67⟩, ⟨e0, e3, e8, e10, e12, e13, e14, e15, e16, e17⟩, ⟨e4, e5, e6, e7⟩, hbs, hfl, ho⟩ := hX
  refine ct_of 0 (by decide +kernel) (Nat.le_of_ble_eq_true rfl) rfl ?_
  refine r_aload_n dX9_written_0 rfl ?_
  refine r_getI dX9_written_1 fl_X9_103 rfl c0 ?_
  rw [show I o 18 = nI 0 from by rw [hO]; rfl]
  refine r_if_ne (tgt := 27) dX9_written_4 (by decide) (fun hz => absurd (show _ from rfl) hz) (fun _ => ?_)
  refine r_aload_n dX9_written_7 rfl ?_
  refine r_getR dX9_written_8 fl_X9_99 rfl c0 e17 ?_
  refine r_aload_n dX9_written_11 rfl ?_
  refine r_getR dX9_written_12 fl_X9_27 rfl c0 e4 ?_
  refine r_aload_n dX9_written_15 rfl ?_
  refine r_getR dX9_written_16 fl_X9_37 rfl c0 e6 ?_
  refine r_virtV (c_wrS (o + 67) (o + 3) (o + 23) p67 s3.1 (by omega) (by omega) (by rw [f3.1]; rfl) (by rw [f3.1]; rfl) (by rw [f3.1]; rfl)) lk_X9_343 mc_X4_writeStreet dX9_written_19 p67.1 (by decide) rfl rfl (Nat.le_of_ble_eq_true rfl) ?_
  rw [hdB_9]
  refine r_aload_n dX9_written_22 rfl ?_
  refine r_iconst (v := nI 1) dX9_written_23 (by decide) ?_
  refine r_putZ dX9_written_24 fl_X9_103 rfl rfl (Or.inr rfl) c0 ?_
  refine r_iload_n dX9_written_27 rfl ?_
  refine r_iconst (v := (-1)) dX9_written_28 (by decide) ?_
  refine r_icmp_lt (tgt := 43) dX9_written_29 (by decide) (fun h29 => ?_) (fun h29 => ?_)
  · skip
    refine r_throw (cls := "java/util/NoSuchElementException") (names := ["java/lang/RuntimeException", "java/lang/Exception"]) dX9_written_43 dX9_written_46 dX9_written_47 dX9_written_50 (by decide +kernel) (by decide +kernel) cl_X9_139 xi_NoSuchElementException xa_nse xb_nse (by decide) (Nat.le_of_ble_eq_true rfl) (by omega) (by omega) ?_
    exact ⟨rfl, ⟨by omega, by omega⟩, fun a a1 _ => ⟨rfl, by rw [am_up_n _ _ (by omega), pgI_ne _ _ (by omega) (by omega)], rfl, rfl⟩⟩
  · skip
    refine r_iload_n dX9_written_32 rfl ?_
    refine r_aload_n dX9_written_33 rfl ?_
    refine r_getR dX9_written_34 fl_X9_99 rfl c0 e17 ?_
    refine r_getI dX9_written_37 fl_X9_347 rfl p67.1 ?_
    rw [am_up_n _ _ (by omega), pgI_1, show [nI 109, nI 111, nI 115, nI 116, nI 32, nI 57, nI 59].length = 7 from rfl]
    refine r_icmp_lt (tgt := 51) dX9_written_40 (by decide) (fun hz => absurd hz (show ¬ _ from (fun q => Int32.not_lt.mpr (hx.resolve_left h29) q))) (fun _ => ?_)
    refine r_throw (cls := "java/util/NoSuchElementException") (names := ["java/lang/RuntimeException", "java/lang/Exception"]) dX9_written_43 dX9_written_46 dX9_written_47 dX9_written_50 (by decide +kernel) (by decide +kernel) cl_X9_139 xi_NoSuchElementException xa_nse xb_nse (by decide) (Nat.le_of_ble_eq_true rfl) (by omega) (by omega) ?_
    exact ⟨rfl, ⟨by omega, by omega⟩, fun a a1 _ => ⟨rfl, by rw [am_up_n _ _ (by omega), pgI_ne _ _ (by omega) (by omega)], rfl, rfl⟩⟩

