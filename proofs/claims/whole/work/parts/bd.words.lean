/-! WORDS AND PAGES OF THE REFERENCE -/
set_option maxHeartbeats 4000000 in
set_option maxRecDepth 100000 in
theorem c_spelled_1 {n : Nat} {kd : mK} {I : mI} {J : mJ} {P : mP} : Ct yX10_spelled cX10_spelled 8 (some .long) 1 0 0 [.int (nI 98), .int (nI 101), .int (nI 102), .int (nI 111), .int (nI 114), .int (nI 101)] n kd I J P (am_is (some (.long 72564293)) n kd I J P) := by
  refine ct_of 2 (by decide +kernel) (Nat.le_of_ble_eq_true rfl) rfl ?_
  refine r_iload_n dX10_spelled_0 rfl ?_
  refine r_i2l dX10_spelled_1 ?_
  refine r_ldc2 dX10_spelled_2 lc_X10_239 ?_
  refine r_lsub dX10_spelled_5 ?_
  refine r_iconst (v := nI 5) dX10_spelled_6 (by decide) ?_
  refine r_lshl dX10_spelled_7 ?_
  refine r_iload_n dX10_spelled_8 rfl ?_
  refine r_bipush (v := nI 96) dX10_spelled_9 (by decide) ?_
  refine r_isub dX10_spelled_11 ?_
  refine r_i2l dX10_spelled_12 ?_
  refine r_lor dX10_spelled_13 ?_
  refine r_lstore dX10_spelled_14 (by decide) ?_
  refine r_iload_n dX10_spelled_16 rfl ?_
  refine r_if_eq (tgt := 32) dX10_spelled_17 (by decide) (fun hz => absurd hz (show ¬ _ from (by decide))) (fun _ => ?_)
  refine r_lload dX10_spelled_20 rfl ?_
  refine r_iconst (v := nI 5) dX10_spelled_22 (by decide) ?_
  refine r_lshl dX10_spelled_23 ?_
  refine r_iload_n dX10_spelled_24 rfl ?_
  refine r_bipush (v := nI 96) dX10_spelled_25 (by decide) ?_
  refine r_isub dX10_spelled_27 ?_
  refine r_i2l dX10_spelled_28 ?_
  refine r_lor dX10_spelled_29 ?_
  refine r_lstore dX10_spelled_30 (by decide) ?_
  refine r_iload_n dX10_spelled_32 rfl ?_
  refine r_if_eq (tgt := 48) dX10_spelled_33 (by decide) (fun hz => absurd hz (show ¬ _ from (by decide))) (fun _ => ?_)
  refine r_lload dX10_spelled_36 rfl ?_
  refine r_iconst (v := nI 5) dX10_spelled_38 (by decide) ?_
  refine r_lshl dX10_spelled_39 ?_
  refine r_iload_n dX10_spelled_40 rfl ?_
  refine r_bipush (v := nI 96) dX10_spelled_41 (by decide) ?_
  refine r_isub dX10_spelled_43 ?_
  refine r_i2l dX10_spelled_44 ?_
  refine r_lor dX10_spelled_45 ?_
  refine r_lstore dX10_spelled_46 (by decide) ?_
  refine r_iload dX10_spelled_48 rfl ?_
  refine r_if_eq (tgt := 66) dX10_spelled_50 (by decide) (fun hz => absurd hz (show ¬ _ from (by decide))) (fun _ => ?_)
  refine r_lload dX10_spelled_53 rfl ?_
  refine r_iconst (v := nI 5) dX10_spelled_55 (by decide) ?_
  refine r_lshl dX10_spelled_56 ?_
  refine r_iload dX10_spelled_57 rfl ?_
  refine r_bipush (v := nI 96) dX10_spelled_59 (by decide) ?_
  refine r_isub dX10_spelled_61 ?_
  refine r_i2l dX10_spelled_62 ?_
  refine r_lor dX10_spelled_63 ?_
  refine r_lstore dX10_spelled_64 (by decide) ?_
  refine r_iload dX10_spelled_66 rfl ?_
  refine r_if_eq (tgt := 84) dX10_spelled_68 (by decide) (fun hz => absurd hz (show ¬ _ from (by decide))) (fun _ => ?_)
  refine r_lload dX10_spelled_71 rfl ?_
  refine r_iconst (v := nI 5) dX10_spelled_73 (by decide) ?_
  refine r_lshl dX10_spelled_74 ?_
  refine r_iload dX10_spelled_75 rfl ?_
  refine r_bipush (v := nI 96) dX10_spelled_77 (by decide) ?_
  refine r_isub dX10_spelled_79 ?_
  refine r_i2l dX10_spelled_80 ?_
  refine r_lor dX10_spelled_81 ?_
  refine r_lstore dX10_spelled_82 (by decide) ?_
  refine r_lload dX10_spelled_84 rfl ?_
  refine r_lret rfl dX10_spelled_86 ?_
  exact am_isL (by decide +kernel)

set_option maxHeartbeats 4000000 in
set_option maxRecDepth 100000 in
theorem c_spelled_2 {n : Nat} {kd : mK} {I : mI} {J : mJ} {P : mP} : Ct yX10_spelled cX10_spelled 8 (some .long) 1 0 0 [.int (nI 97), .int (nI 102), .int (nI 116), .int (nI 101), .int (nI 114), .int (nI 0)] n kd I J P (am_is (some (.long 1265842)) n kd I J P) := by
  refine ct_of 2 (by decide +kernel) (Nat.le_of_ble_eq_true rfl) rfl ?_
  refine r_iload_n dX10_spelled_0 rfl ?_
  refine r_i2l dX10_spelled_1 ?_
  refine r_ldc2 dX10_spelled_2 lc_X10_239 ?_
  refine r_lsub dX10_spelled_5 ?_
  refine r_iconst (v := nI 5) dX10_spelled_6 (by decide) ?_
  refine r_lshl dX10_spelled_7 ?_
  refine r_iload_n dX10_spelled_8 rfl ?_
  refine r_bipush (v := nI 96) dX10_spelled_9 (by decide) ?_
  refine r_isub dX10_spelled_11 ?_
  refine r_i2l dX10_spelled_12 ?_
  refine r_lor dX10_spelled_13 ?_
  refine r_lstore dX10_spelled_14 (by decide) ?_
  refine r_iload_n dX10_spelled_16 rfl ?_
  refine r_if_eq (tgt := 32) dX10_spelled_17 (by decide) (fun hz => absurd hz (show ¬ _ from (by decide))) (fun _ => ?_)
  refine r_lload dX10_spelled_20 rfl ?_
  refine r_iconst (v := nI 5) dX10_spelled_22 (by decide) ?_
  refine r_lshl dX10_spelled_23 ?_
  refine r_iload_n dX10_spelled_24 rfl ?_
  refine r_bipush (v := nI 96) dX10_spelled_25 (by decide) ?_
  refine r_isub dX10_spelled_27 ?_
  refine r_i2l dX10_spelled_28 ?_
  refine r_lor dX10_spelled_29 ?_
  refine r_lstore dX10_spelled_30 (by decide) ?_
  refine r_iload_n dX10_spelled_32 rfl ?_
  refine r_if_eq (tgt := 48) dX10_spelled_33 (by decide) (fun hz => absurd hz (show ¬ _ from (by decide))) (fun _ => ?_)
  refine r_lload dX10_spelled_36 rfl ?_
  refine r_iconst (v := nI 5) dX10_spelled_38 (by decide) ?_
  refine r_lshl dX10_spelled_39 ?_
  refine r_iload_n dX10_spelled_40 rfl ?_
  refine r_bipush (v := nI 96) dX10_spelled_41 (by decide) ?_
  refine r_isub dX10_spelled_43 ?_
  refine r_i2l dX10_spelled_44 ?_
  refine r_lor dX10_spelled_45 ?_
  refine r_lstore dX10_spelled_46 (by decide) ?_
  refine r_iload dX10_spelled_48 rfl ?_
  refine r_if_eq (tgt := 66) dX10_spelled_50 (by decide) (fun hz => absurd hz (show ¬ _ from (by decide))) (fun _ => ?_)
  refine r_lload dX10_spelled_53 rfl ?_
  refine r_iconst (v := nI 5) dX10_spelled_55 (by decide) ?_
  refine r_lshl dX10_spelled_56 ?_
  refine r_iload dX10_spelled_57 rfl ?_
  refine r_bipush (v := nI 96) dX10_spelled_59 (by decide) ?_
  refine r_isub dX10_spelled_61 ?_
  refine r_i2l dX10_spelled_62 ?_
  refine r_lor dX10_spelled_63 ?_
  refine r_lstore dX10_spelled_64 (by decide) ?_
  refine r_iload dX10_spelled_66 rfl ?_
  refine r_if_eq (tgt := 84) dX10_spelled_68 (by decide) (fun _ => ?_) (fun hz => absurd (show _ from (by decide)) hz)
  refine r_lload dX10_spelled_84 rfl ?_
  refine r_lret rfl dX10_spelled_86 ?_
  exact am_isL (by decide +kernel)

set_option maxHeartbeats 4000000 in
set_option maxRecDepth 100000 in
theorem c_spelled_3 {n : Nat} {kd : mK} {I : mI} {J : mJ} {P : mP} : Ct yX10_spelled cX10_spelled 8 (some .long) 1 0 0 [.int (nI 115), .int (nI 111), .int (nI 110), .int (nI 115), .int (nI 0), .int (nI 0)] n kd I J P (am_is (some (.long 638419)) n kd I J P) := by
  refine ct_of 2 (by decide +kernel) (Nat.le_of_ble_eq_true rfl) rfl ?_
  refine r_iload_n dX10_spelled_0 rfl ?_
  refine r_i2l dX10_spelled_1 ?_
  refine r_ldc2 dX10_spelled_2 lc_X10_239 ?_
  refine r_lsub dX10_spelled_5 ?_
  refine r_iconst (v := nI 5) dX10_spelled_6 (by decide) ?_
  refine r_lshl dX10_spelled_7 ?_
  refine r_iload_n dX10_spelled_8 rfl ?_
  refine r_bipush (v := nI 96) dX10_spelled_9 (by decide) ?_
  refine r_isub dX10_spelled_11 ?_
  refine r_i2l dX10_spelled_12 ?_
  refine r_lor dX10_spelled_13 ?_
  refine r_lstore dX10_spelled_14 (by decide) ?_
  refine r_iload_n dX10_spelled_16 rfl ?_
  refine r_if_eq (tgt := 32) dX10_spelled_17 (by decide) (fun hz => absurd hz (show ¬ _ from (by decide))) (fun _ => ?_)
  refine r_lload dX10_spelled_20 rfl ?_
  refine r_iconst (v := nI 5) dX10_spelled_22 (by decide) ?_
  refine r_lshl dX10_spelled_23 ?_
  refine r_iload_n dX10_spelled_24 rfl ?_
  refine r_bipush (v := nI 96) dX10_spelled_25 (by decide) ?_
  refine r_isub dX10_spelled_27 ?_
  refine r_i2l dX10_spelled_28 ?_
  refine r_lor dX10_spelled_29 ?_
  refine r_lstore dX10_spelled_30 (by decide) ?_
  refine r_iload_n dX10_spelled_32 rfl ?_
  refine r_if_eq (tgt := 48) dX10_spelled_33 (by decide) (fun hz => absurd hz (show ¬ _ from (by decide))) (fun _ => ?_)
  refine r_lload dX10_spelled_36 rfl ?_
  refine r_iconst (v := nI 5) dX10_spelled_38 (by decide) ?_
  refine r_lshl dX10_spelled_39 ?_
  refine r_iload_n dX10_spelled_40 rfl ?_
  refine r_bipush (v := nI 96) dX10_spelled_41 (by decide) ?_
  refine r_isub dX10_spelled_43 ?_
  refine r_i2l dX10_spelled_44 ?_
  refine r_lor dX10_spelled_45 ?_
  refine r_lstore dX10_spelled_46 (by decide) ?_
  refine r_iload dX10_spelled_48 rfl ?_
  refine r_if_eq (tgt := 66) dX10_spelled_50 (by decide) (fun _ => ?_) (fun hz => absurd (show _ from (by decide)) hz)
  refine r_iload dX10_spelled_66 rfl ?_
  refine r_if_eq (tgt := 84) dX10_spelled_68 (by decide) (fun _ => ?_) (fun hz => absurd (show _ from (by decide)) hz)
  refine r_lload dX10_spelled_84 rfl ?_
  refine r_lret rfl dX10_spelled_86 ?_
  exact am_isL (by decide +kernel)

set_option maxHeartbeats 4000000 in
set_option maxRecDepth 100000 in
theorem c_spelled_4 {n : Nat} {kd : mK} {I : mI} {J : mJ} {P : mP} : Ct yX10_spelled cX10_spelled 8 (some .long) 1 0 0 [.int (nI 100), .int (nI 101), .int (nI 98), .int (nI 116), .int (nI 115), .int (nI 0)] n kd I J P (am_is (some (.long 4360851)) n kd I J P) := by
  refine ct_of 2 (by decide +kernel) (Nat.le_of_ble_eq_true rfl) rfl ?_
  refine r_iload_n dX10_spelled_0 rfl ?_
  refine r_i2l dX10_spelled_1 ?_
  refine r_ldc2 dX10_spelled_2 lc_X10_239 ?_
  refine r_lsub dX10_spelled_5 ?_
  refine r_iconst (v := nI 5) dX10_spelled_6 (by decide) ?_
  refine r_lshl dX10_spelled_7 ?_
  refine r_iload_n dX10_spelled_8 rfl ?_
  refine r_bipush (v := nI 96) dX10_spelled_9 (by decide) ?_
  refine r_isub dX10_spelled_11 ?_
  refine r_i2l dX10_spelled_12 ?_
  refine r_lor dX10_spelled_13 ?_
  refine r_lstore dX10_spelled_14 (by decide) ?_
  refine r_iload_n dX10_spelled_16 rfl ?_
  refine r_if_eq (tgt := 32) dX10_spelled_17 (by decide) (fun hz => absurd hz (show ¬ _ from (by decide))) (fun _ => ?_)
  refine r_lload dX10_spelled_20 rfl ?_
  refine r_iconst (v := nI 5) dX10_spelled_22 (by decide) ?_
  refine r_lshl dX10_spelled_23 ?_
  refine r_iload_n dX10_spelled_24 rfl ?_
  refine r_bipush (v := nI 96) dX10_spelled_25 (by decide) ?_
  refine r_isub dX10_spelled_27 ?_
  refine r_i2l dX10_spelled_28 ?_
  refine r_lor dX10_spelled_29 ?_
  refine r_lstore dX10_spelled_30 (by decide) ?_
  refine r_iload_n dX10_spelled_32 rfl ?_
  refine r_if_eq (tgt := 48) dX10_spelled_33 (by decide) (fun hz => absurd hz (show ¬ _ from (by decide))) (fun _ => ?_)
  refine r_lload dX10_spelled_36 rfl ?_
  refine r_iconst (v := nI 5) dX10_spelled_38 (by decide) ?_
  refine r_lshl dX10_spelled_39 ?_
  refine r_iload_n dX10_spelled_40 rfl ?_
  refine r_bipush (v := nI 96) dX10_spelled_41 (by decide) ?_
  refine r_isub dX10_spelled_43 ?_
  refine r_i2l dX10_spelled_44 ?_
  refine r_lor dX10_spelled_45 ?_
  refine r_lstore dX10_spelled_46 (by decide) ?_
  refine r_iload dX10_spelled_48 rfl ?_
  refine r_if_eq (tgt := 66) dX10_spelled_50 (by decide) (fun hz => absurd hz (show ¬ _ from (by decide))) (fun _ => ?_)
  refine r_lload dX10_spelled_53 rfl ?_
  refine r_iconst (v := nI 5) dX10_spelled_55 (by decide) ?_
  refine r_lshl dX10_spelled_56 ?_
  refine r_iload dX10_spelled_57 rfl ?_
  refine r_bipush (v := nI 96) dX10_spelled_59 (by decide) ?_
  refine r_isub dX10_spelled_61 ?_
  refine r_i2l dX10_spelled_62 ?_
  refine r_lor dX10_spelled_63 ?_
  refine r_lstore dX10_spelled_64 (by decide) ?_
  refine r_iload dX10_spelled_66 rfl ?_
  refine r_if_eq (tgt := 84) dX10_spelled_68 (by decide) (fun _ => ?_) (fun hz => absurd (show _ from (by decide)) hz)
  refine r_lload dX10_spelled_84 rfl ?_
  refine r_lret rfl dX10_spelled_86 ?_
  exact am_isL (by decide +kernel)

set_option maxHeartbeats 4000000 in
set_option maxRecDepth 100000 in
theorem c_spelled_5 {n : Nat} {kd : mK} {I : mI} {J : mJ} {P : mP} : Ct yX10_spelled cX10_spelled 8 (some .long) 1 0 0 [.int (nI 109), .int (nI 111), .int (nI 115), .int (nI 116), .int (nI 0), .int (nI 0)] n kd I J P (am_is (some (.long 441972)) n kd I J P) := by
  refine ct_of 2 (by decide +kernel) (Nat.le_of_ble_eq_true rfl) rfl ?_
  refine r_iload_n dX10_spelled_0 rfl ?_
  refine r_i2l dX10_spelled_1 ?_
  refine r_ldc2 dX10_spelled_2 lc_X10_239 ?_
  refine r_lsub dX10_spelled_5 ?_
  refine r_iconst (v := nI 5) dX10_spelled_6 (by decide) ?_
  refine r_lshl dX10_spelled_7 ?_
  refine r_iload_n dX10_spelled_8 rfl ?_
  refine r_bipush (v := nI 96) dX10_spelled_9 (by decide) ?_
  refine r_isub dX10_spelled_11 ?_
  refine r_i2l dX10_spelled_12 ?_
  refine r_lor dX10_spelled_13 ?_
  refine r_lstore dX10_spelled_14 (by decide) ?_
  refine r_iload_n dX10_spelled_16 rfl ?_
  refine r_if_eq (tgt := 32) dX10_spelled_17 (by decide) (fun hz => absurd hz (show ¬ _ from (by decide))) (fun _ => ?_)
  refine r_lload dX10_spelled_20 rfl ?_
  refine r_iconst (v := nI 5) dX10_spelled_22 (by decide) ?_
  refine r_lshl dX10_spelled_23 ?_
  refine r_iload_n dX10_spelled_24 rfl ?_
  refine r_bipush (v := nI 96) dX10_spelled_25 (by decide) ?_
  refine r_isub dX10_spelled_27 ?_
  refine r_i2l dX10_spelled_28 ?_
  refine r_lor dX10_spelled_29 ?_
  refine r_lstore dX10_spelled_30 (by decide) ?_
  refine r_iload_n dX10_spelled_32 rfl ?_
  refine r_if_eq (tgt := 48) dX10_spelled_33 (by decide) (fun hz => absurd hz (show ¬ _ from (by decide))) (fun _ => ?_)
  refine r_lload dX10_spelled_36 rfl ?_
  refine r_iconst (v := nI 5) dX10_spelled_38 (by decide) ?_
  refine r_lshl dX10_spelled_39 ?_
  refine r_iload_n dX10_spelled_40 rfl ?_
  refine r_bipush (v := nI 96) dX10_spelled_41 (by decide) ?_
  refine r_isub dX10_spelled_43 ?_
  refine r_i2l dX10_spelled_44 ?_
  refine r_lor dX10_spelled_45 ?_
  refine r_lstore dX10_spelled_46 (by decide) ?_
  refine r_iload dX10_spelled_48 rfl ?_
  refine r_if_eq (tgt := 66) dX10_spelled_50 (by decide) (fun _ => ?_) (fun hz => absurd (show _ from (by decide)) hz)
  refine r_iload dX10_spelled_66 rfl ?_
  refine r_if_eq (tgt := 84) dX10_spelled_68 (by decide) (fun _ => ?_) (fun hz => absurd (show _ from (by decide)) hz)
  refine r_lload dX10_spelled_84 rfl ?_
  refine r_lret rfl dX10_spelled_86 ?_
  exact am_isL (by decide +kernel)

set_option maxHeartbeats 4000000 in
set_option maxRecDepth 100000 in
theorem c_spelled_7 {n : Nat} {kd : mK} {I : mI} {J : mJ} {P : mP} : Ct yX10_spelled cX10_spelled 8 (some .long) 1 0 0 [.int (nI 117), .int (nI 110), .int (nI 108), .int (nI 105), .int (nI 107), .int (nI 101)] n kd I J P (am_is (some (.long 719725925)) n kd I J P) := by
  refine ct_of 2 (by decide +kernel) (Nat.le_of_ble_eq_true rfl) rfl ?_
  refine r_iload_n dX10_spelled_0 rfl ?_
  refine r_i2l dX10_spelled_1 ?_
  refine r_ldc2 dX10_spelled_2 lc_X10_239 ?_
  refine r_lsub dX10_spelled_5 ?_
  refine r_iconst (v := nI 5) dX10_spelled_6 (by decide) ?_
  refine r_lshl dX10_spelled_7 ?_
  refine r_iload_n dX10_spelled_8 rfl ?_
  refine r_bipush (v := nI 96) dX10_spelled_9 (by decide) ?_
  refine r_isub dX10_spelled_11 ?_
  refine r_i2l dX10_spelled_12 ?_
  refine r_lor dX10_spelled_13 ?_
  refine r_lstore dX10_spelled_14 (by decide) ?_
  refine r_iload_n dX10_spelled_16 rfl ?_
  refine r_if_eq (tgt := 32) dX10_spelled_17 (by decide) (fun hz => absurd hz (show ¬ _ from (by decide))) (fun _ => ?_)
  refine r_lload dX10_spelled_20 rfl ?_
  refine r_iconst (v := nI 5) dX10_spelled_22 (by decide) ?_
  refine r_lshl dX10_spelled_23 ?_
  refine r_iload_n dX10_spelled_24 rfl ?_
  refine r_bipush (v := nI 96) dX10_spelled_25 (by decide) ?_
  refine r_isub dX10_spelled_27 ?_
  refine r_i2l dX10_spelled_28 ?_
  refine r_lor dX10_spelled_29 ?_
  refine r_lstore dX10_spelled_30 (by decide) ?_
  refine r_iload_n dX10_spelled_32 rfl ?_
  refine r_if_eq (tgt := 48) dX10_spelled_33 (by decide) (fun hz => absurd hz (show ¬ _ from (by decide))) (fun _ => ?_)
  refine r_lload dX10_spelled_36 rfl ?_
  refine r_iconst (v := nI 5) dX10_spelled_38 (by decide) ?_
  refine r_lshl dX10_spelled_39 ?_
  refine r_iload_n dX10_spelled_40 rfl ?_
  refine r_bipush (v := nI 96) dX10_spelled_41 (by decide) ?_
  refine r_isub dX10_spelled_43 ?_
  refine r_i2l dX10_spelled_44 ?_
  refine r_lor dX10_spelled_45 ?_
  refine r_lstore dX10_spelled_46 (by decide) ?_
  refine r_iload dX10_spelled_48 rfl ?_
  refine r_if_eq (tgt := 66) dX10_spelled_50 (by decide) (fun hz => absurd hz (show ¬ _ from (by decide))) (fun _ => ?_)
  refine r_lload dX10_spelled_53 rfl ?_
  refine r_iconst (v := nI 5) dX10_spelled_55 (by decide) ?_
  refine r_lshl dX10_spelled_56 ?_
  refine r_iload dX10_spelled_57 rfl ?_
  refine r_bipush (v := nI 96) dX10_spelled_59 (by decide) ?_
  refine r_isub dX10_spelled_61 ?_
  refine r_i2l dX10_spelled_62 ?_
  refine r_lor dX10_spelled_63 ?_
  refine r_lstore dX10_spelled_64 (by decide) ?_
  refine r_iload dX10_spelled_66 rfl ?_
  refine r_if_eq (tgt := 84) dX10_spelled_68 (by decide) (fun hz => absurd hz (show ¬ _ from (by decide))) (fun _ => ?_)
  refine r_lload dX10_spelled_71 rfl ?_
  refine r_iconst (v := nI 5) dX10_spelled_73 (by decide) ?_
  refine r_lshl dX10_spelled_74 ?_
  refine r_iload dX10_spelled_75 rfl ?_
  refine r_bipush (v := nI 96) dX10_spelled_77 (by decide) ?_
  refine r_isub dX10_spelled_79 ?_
  refine r_i2l dX10_spelled_80 ?_
  refine r_lor dX10_spelled_81 ?_
  refine r_lstore dX10_spelled_82 (by decide) ?_
  refine r_lload dX10_spelled_84 rfl ?_
  refine r_lret rfl dX10_spelled_86 ?_
  exact am_isL (by decide +kernel)

set_option maxHeartbeats 4000000 in
set_option maxRecDepth 100000 in
theorem c_spelled_8 {n : Nat} {kd : mK} {I : mI} {J : mJ} {P : mP} : Ct yX10_spelled cX10_spelled 8 (some .long) 1 0 0 [.int (nI 104), .int (nI 111), .int (nI 117), .int (nI 115), .int (nI 101), .int (nI 0)] n kd I J P (am_is (some (.long 8902245)) n kd I J P) := by
  refine ct_of 2 (by decide +kernel) (Nat.le_of_ble_eq_true rfl) rfl ?_
  refine r_iload_n dX10_spelled_0 rfl ?_
  refine r_i2l dX10_spelled_1 ?_
  refine r_ldc2 dX10_spelled_2 lc_X10_239 ?_
  refine r_lsub dX10_spelled_5 ?_
  refine r_iconst (v := nI 5) dX10_spelled_6 (by decide) ?_
  refine r_lshl dX10_spelled_7 ?_
  refine r_iload_n dX10_spelled_8 rfl ?_
  refine r_bipush (v := nI 96) dX10_spelled_9 (by decide) ?_
  refine r_isub dX10_spelled_11 ?_
  refine r_i2l dX10_spelled_12 ?_
  refine r_lor dX10_spelled_13 ?_
  refine r_lstore dX10_spelled_14 (by decide) ?_
  refine r_iload_n dX10_spelled_16 rfl ?_
  refine r_if_eq (tgt := 32) dX10_spelled_17 (by decide) (fun hz => absurd hz (show ¬ _ from (by decide))) (fun _ => ?_)
  refine r_lload dX10_spelled_20 rfl ?_
  refine r_iconst (v := nI 5) dX10_spelled_22 (by decide) ?_
  refine r_lshl dX10_spelled_23 ?_
  refine r_iload_n dX10_spelled_24 rfl ?_
  refine r_bipush (v := nI 96) dX10_spelled_25 (by decide) ?_
  refine r_isub dX10_spelled_27 ?_
  refine r_i2l dX10_spelled_28 ?_
  refine r_lor dX10_spelled_29 ?_
  refine r_lstore dX10_spelled_30 (by decide) ?_
  refine r_iload_n dX10_spelled_32 rfl ?_
  refine r_if_eq (tgt := 48) dX10_spelled_33 (by decide) (fun hz => absurd hz (show ¬ _ from (by decide))) (fun _ => ?_)
  refine r_lload dX10_spelled_36 rfl ?_
  refine r_iconst (v := nI 5) dX10_spelled_38 (by decide) ?_
  refine r_lshl dX10_spelled_39 ?_
  refine r_iload_n dX10_spelled_40 rfl ?_
  refine r_bipush (v := nI 96) dX10_spelled_41 (by decide) ?_
  refine r_isub dX10_spelled_43 ?_
  refine r_i2l dX10_spelled_44 ?_
  refine r_lor dX10_spelled_45 ?_
  refine r_lstore dX10_spelled_46 (by decide) ?_
  refine r_iload dX10_spelled_48 rfl ?_
  refine r_if_eq (tgt := 66) dX10_spelled_50 (by decide) (fun hz => absurd hz (show ¬ _ from (by decide))) (fun _ => ?_)
  refine r_lload dX10_spelled_53 rfl ?_
  refine r_iconst (v := nI 5) dX10_spelled_55 (by decide) ?_
  refine r_lshl dX10_spelled_56 ?_
  refine r_iload dX10_spelled_57 rfl ?_
  refine r_bipush (v := nI 96) dX10_spelled_59 (by decide) ?_
  refine r_isub dX10_spelled_61 ?_
  refine r_i2l dX10_spelled_62 ?_
  refine r_lor dX10_spelled_63 ?_
  refine r_lstore dX10_spelled_64 (by decide) ?_
  refine r_iload dX10_spelled_66 rfl ?_
  refine r_if_eq (tgt := 84) dX10_spelled_68 (by decide) (fun _ => ?_) (fun hz => absurd (show _ from (by decide)) hz)
  refine r_lload dX10_spelled_84 rfl ?_
  refine r_lret rfl dX10_spelled_86 ?_
  exact am_isL (by decide +kernel)

set_option maxHeartbeats 4000000 in
set_option maxRecDepth 100000 in
theorem c_spelled_9 {n : Nat} {kd : mK} {I : mI} {J : mJ} {P : mP} : Ct yX10_spelled cX10_spelled 8 (some .long) 1 0 0 [.int (nI 115), .int (nI 97), .int (nI 121), .int (nI 115), .int (nI 0), .int (nI 0)] n kd I J P (am_is (some (.long 624435)) n kd I J P) := by
  refine ct_of 2 (by decide +kernel) (Nat.le_of_ble_eq_true rfl) rfl ?_
  refine r_iload_n dX10_spelled_0 rfl ?_
  refine r_i2l dX10_spelled_1 ?_
  refine r_ldc2 dX10_spelled_2 lc_X10_239 ?_
  refine r_lsub dX10_spelled_5 ?_
  refine r_iconst (v := nI 5) dX10_spelled_6 (by decide) ?_
  refine r_lshl dX10_spelled_7 ?_
  refine r_iload_n dX10_spelled_8 rfl ?_
  refine r_bipush (v := nI 96) dX10_spelled_9 (by decide) ?_
  refine r_isub dX10_spelled_11 ?_
  refine r_i2l dX10_spelled_12 ?_
  refine r_lor dX10_spelled_13 ?_
  refine r_lstore dX10_spelled_14 (by decide) ?_
  refine r_iload_n dX10_spelled_16 rfl ?_
  refine r_if_eq (tgt := 32) dX10_spelled_17 (by decide) (fun hz => absurd hz (show ¬ _ from (by decide))) (fun _ => ?_)
  refine r_lload dX10_spelled_20 rfl ?_
  refine r_iconst (v := nI 5) dX10_spelled_22 (by decide) ?_
  refine r_lshl dX10_spelled_23 ?_
  refine r_iload_n dX10_spelled_24 rfl ?_
  refine r_bipush (v := nI 96) dX10_spelled_25 (by decide) ?_
  refine r_isub dX10_spelled_27 ?_
  refine r_i2l dX10_spelled_28 ?_
  refine r_lor dX10_spelled_29 ?_
  refine r_lstore dX10_spelled_30 (by decide) ?_
  refine r_iload_n dX10_spelled_32 rfl ?_
  refine r_if_eq (tgt := 48) dX10_spelled_33 (by decide) (fun hz => absurd hz (show ¬ _ from (by decide))) (fun _ => ?_)
  refine r_lload dX10_spelled_36 rfl ?_
  refine r_iconst (v := nI 5) dX10_spelled_38 (by decide) ?_
  refine r_lshl dX10_spelled_39 ?_
  refine r_iload_n dX10_spelled_40 rfl ?_
  refine r_bipush (v := nI 96) dX10_spelled_41 (by decide) ?_
  refine r_isub dX10_spelled_43 ?_
  refine r_i2l dX10_spelled_44 ?_
  refine r_lor dX10_spelled_45 ?_
  refine r_lstore dX10_spelled_46 (by decide) ?_
  refine r_iload dX10_spelled_48 rfl ?_
  refine r_if_eq (tgt := 66) dX10_spelled_50 (by decide) (fun _ => ?_) (fun hz => absurd (show _ from (by decide)) hz)
  refine r_iload dX10_spelled_66 rfl ?_
  refine r_if_eq (tgt := 84) dX10_spelled_68 (by decide) (fun _ => ?_) (fun hz => absurd (show _ from (by decide)) hz)
  refine r_lload dX10_spelled_84 rfl ?_
  refine r_lret rfl dX10_spelled_86 ?_
  exact am_isL (by decide +kernel)

set_option maxHeartbeats 4000000 in
set_option maxRecDepth 100000 in
theorem c_spelled_10 {n : Nat} {kd : mK} {I : mI} {J : mJ} {P : mP} : Ct yX10_spelled cX10_spelled 8 (some .long) 1 0 0 [.int (nI 97), .int (nI 110), .int (nI 100), .int (nI 0), .int (nI 0), .int (nI 0)] n kd I J P (am_is (some (.long 1476)) n kd I J P) := by
  refine ct_of 2 (by decide +kernel) (Nat.le_of_ble_eq_true rfl) rfl ?_
  refine r_iload_n dX10_spelled_0 rfl ?_
  refine r_i2l dX10_spelled_1 ?_
  refine r_ldc2 dX10_spelled_2 lc_X10_239 ?_
  refine r_lsub dX10_spelled_5 ?_
  refine r_iconst (v := nI 5) dX10_spelled_6 (by decide) ?_
  refine r_lshl dX10_spelled_7 ?_
  refine r_iload_n dX10_spelled_8 rfl ?_
  refine r_bipush (v := nI 96) dX10_spelled_9 (by decide) ?_
  refine r_isub dX10_spelled_11 ?_
  refine r_i2l dX10_spelled_12 ?_
  refine r_lor dX10_spelled_13 ?_
  refine r_lstore dX10_spelled_14 (by decide) ?_
  refine r_iload_n dX10_spelled_16 rfl ?_
  refine r_if_eq (tgt := 32) dX10_spelled_17 (by decide) (fun hz => absurd hz (show ¬ _ from (by decide))) (fun _ => ?_)
  refine r_lload dX10_spelled_20 rfl ?_
  refine r_iconst (v := nI 5) dX10_spelled_22 (by decide) ?_
  refine r_lshl dX10_spelled_23 ?_
  refine r_iload_n dX10_spelled_24 rfl ?_
  refine r_bipush (v := nI 96) dX10_spelled_25 (by decide) ?_
  refine r_isub dX10_spelled_27 ?_
  refine r_i2l dX10_spelled_28 ?_
  refine r_lor dX10_spelled_29 ?_
  refine r_lstore dX10_spelled_30 (by decide) ?_
  refine r_iload_n dX10_spelled_32 rfl ?_
  refine r_if_eq (tgt := 48) dX10_spelled_33 (by decide) (fun _ => ?_) (fun hz => absurd (show _ from (by decide)) hz)
  refine r_iload dX10_spelled_48 rfl ?_
  refine r_if_eq (tgt := 66) dX10_spelled_50 (by decide) (fun _ => ?_) (fun hz => absurd (show _ from (by decide)) hz)
  refine r_iload dX10_spelled_66 rfl ?_
  refine r_if_eq (tgt := 84) dX10_spelled_68 (by decide) (fun _ => ?_) (fun hz => absurd (show _ from (by decide)) hz)
  refine r_lload dX10_spelled_84 rfl ?_
  refine r_lret rfl dX10_spelled_86 ?_
  exact am_isL (by decide +kernel)

set_option maxHeartbeats 4000000 in
set_option maxRecDepth 100000 in
theorem c_spelled_11 {n : Nat} {kd : mK} {I : mI} {J : mJ} {P : mP} : Ct yX10_spelled cX10_spelled 8 (some .long) 1 0 0 [.int (nI 111), .int (nI 114), .int (nI 0), .int (nI 0), .int (nI 0), .int (nI 0)] n kd I J P (am_is (some (.long 498)) n kd I J P) := by
  refine ct_of 2 (by decide +kernel) (Nat.le_of_ble_eq_true rfl) rfl ?_
  refine r_iload_n dX10_spelled_0 rfl ?_
  refine r_i2l dX10_spelled_1 ?_
  refine r_ldc2 dX10_spelled_2 lc_X10_239 ?_
  refine r_lsub dX10_spelled_5 ?_
  refine r_iconst (v := nI 5) dX10_spelled_6 (by decide) ?_
  refine r_lshl dX10_spelled_7 ?_
  refine r_iload_n dX10_spelled_8 rfl ?_
  refine r_bipush (v := nI 96) dX10_spelled_9 (by decide) ?_
  refine r_isub dX10_spelled_11 ?_
  refine r_i2l dX10_spelled_12 ?_
  refine r_lor dX10_spelled_13 ?_
  refine r_lstore dX10_spelled_14 (by decide) ?_
  refine r_iload_n dX10_spelled_16 rfl ?_
  refine r_if_eq (tgt := 32) dX10_spelled_17 (by decide) (fun _ => ?_) (fun hz => absurd (show _ from (by decide)) hz)
  refine r_iload_n dX10_spelled_32 rfl ?_
  refine r_if_eq (tgt := 48) dX10_spelled_33 (by decide) (fun _ => ?_) (fun hz => absurd (show _ from (by decide)) hz)
  refine r_iload dX10_spelled_48 rfl ?_
  refine r_if_eq (tgt := 66) dX10_spelled_50 (by decide) (fun _ => ?_) (fun hz => absurd (show _ from (by decide)) hz)
  refine r_iload dX10_spelled_66 rfl ?_
  refine r_if_eq (tgt := 84) dX10_spelled_68 (by decide) (fun _ => ?_) (fun hz => absurd (show _ from (by decide)) hz)
  refine r_lload dX10_spelled_84 rfl ?_
  refine r_lret rfl dX10_spelled_86 ?_
  exact am_isL (by decide +kernel)

set_option maxHeartbeats 4000000 in
set_option maxRecDepth 100000 in
theorem c_letters_1 {n : Nat} {kd : mK} {I : mI} {J : mJ} {P : mP} : Ct yX10_letters cX10_letters 1 (some .long) 2 0 0 [.int (nI 1)] n kd I J P (am_is (some (.long 72564293)) n kd I J P) := by
  refine ct_of 0 (by decide +kernel) (Nat.le_of_ble_eq_true rfl) rfl ?_
  refine r_iload_n dX10_letters_0 rfl ?_
  refine r_tabE (off := 77) (tgt := 78) rfl dX10_letters_1 (by decide) (by decide) (by decide) (by decide) ?_
  refine r_bipush (v := nI 98) dX10_letters_78 (by decide) ?_
  refine r_bipush (v := nI 101) dX10_letters_80 (by decide) ?_
  refine r_bipush (v := nI 102) dX10_letters_82 (by decide) ?_
  refine r_bipush (v := nI 111) dX10_letters_84 (by decide) ?_
  refine r_bipush (v := nI 114) dX10_letters_86 (by decide) ?_
  refine r_bipush (v := nI 101) dX10_letters_88 (by decide) ?_
  refine r_statE (c_spelled_1) lk_X10_241 mc_X10_spelled dX10_letters_90 (by decide) rfl rfl (Nat.le_of_ble_eq_true rfl) ?_
  refine r_lret rfl dX10_letters_93 ?_
  exact am_is.mk

set_option maxHeartbeats 4000000 in
set_option maxRecDepth 100000 in
theorem c_letters_2 {n : Nat} {kd : mK} {I : mI} {J : mJ} {P : mP} : Ct yX10_letters cX10_letters 1 (some .long) 2 0 0 [.int (nI 2)] n kd I J P (am_is (some (.long 1265842)) n kd I J P) := by
  refine ct_of 0 (by decide +kernel) (Nat.le_of_ble_eq_true rfl) rfl ?_
  refine r_iload_n dX10_letters_0 rfl ?_
  refine r_tabE (off := 93) (tgt := 94) rfl dX10_letters_1 (by decide) (by decide) (by decide) (by decide) ?_
  refine r_bipush (v := nI 97) dX10_letters_94 (by decide) ?_
  refine r_bipush (v := nI 102) dX10_letters_96 (by decide) ?_
  refine r_bipush (v := nI 116) dX10_letters_98 (by decide) ?_
  refine r_bipush (v := nI 101) dX10_letters_100 (by decide) ?_
  refine r_bipush (v := nI 114) dX10_letters_102 (by decide) ?_
  refine r_iconst (v := nI 0) dX10_letters_104 (by decide) ?_
  refine r_statE (c_spelled_2) lk_X10_241 mc_X10_spelled dX10_letters_105 (by decide) rfl rfl (Nat.le_of_ble_eq_true rfl) ?_
  refine r_lret rfl dX10_letters_108 ?_
  exact am_is.mk

set_option maxHeartbeats 4000000 in
set_option maxRecDepth 100000 in
theorem c_letters_3 {n : Nat} {kd : mK} {I : mI} {J : mJ} {P : mP} : Ct yX10_letters cX10_letters 1 (some .long) 2 0 0 [.int (nI 3)] n kd I J P (am_is (some (.long 638419)) n kd I J P) := by
  refine ct_of 0 (by decide +kernel) (Nat.le_of_ble_eq_true rfl) rfl ?_
  refine r_iload_n dX10_letters_0 rfl ?_
  refine r_tabE (off := 108) (tgt := 109) rfl dX10_letters_1 (by decide) (by decide) (by decide) (by decide) ?_
  refine r_bipush (v := nI 115) dX10_letters_109 (by decide) ?_
  refine r_bipush (v := nI 111) dX10_letters_111 (by decide) ?_
  refine r_bipush (v := nI 110) dX10_letters_113 (by decide) ?_
  refine r_bipush (v := nI 115) dX10_letters_115 (by decide) ?_
  refine r_iconst (v := nI 0) dX10_letters_117 (by decide) ?_
  refine r_iconst (v := nI 0) dX10_letters_118 (by decide) ?_
  refine r_statE (c_spelled_3) lk_X10_241 mc_X10_spelled dX10_letters_119 (by decide) rfl rfl (Nat.le_of_ble_eq_true rfl) ?_
  refine r_lret rfl dX10_letters_122 ?_
  exact am_is.mk

set_option maxHeartbeats 4000000 in
set_option maxRecDepth 100000 in
theorem c_letters_4 {n : Nat} {kd : mK} {I : mI} {J : mJ} {P : mP} : Ct yX10_letters cX10_letters 1 (some .long) 2 0 0 [.int (nI 4)] n kd I J P (am_is (some (.long 4360851)) n kd I J P) := by
  refine ct_of 0 (by decide +kernel) (Nat.le_of_ble_eq_true rfl) rfl ?_
  refine r_iload_n dX10_letters_0 rfl ?_
  refine r_tabE (off := 122) (tgt := 123) rfl dX10_letters_1 (by decide) (by decide) (by decide) (by decide) ?_
  refine r_bipush (v := nI 100) dX10_letters_123 (by decide) ?_
  refine r_bipush (v := nI 101) dX10_letters_125 (by decide) ?_
  refine r_bipush (v := nI 98) dX10_letters_127 (by decide) ?_
  refine r_bipush (v := nI 116) dX10_letters_129 (by decide) ?_
  refine r_bipush (v := nI 115) dX10_letters_131 (by decide) ?_
  refine r_iconst (v := nI 0) dX10_letters_133 (by decide) ?_
  refine r_statE (c_spelled_4) lk_X10_241 mc_X10_spelled dX10_letters_134 (by decide) rfl rfl (Nat.le_of_ble_eq_true rfl) ?_
  refine r_lret rfl dX10_letters_137 ?_
  exact am_is.mk

set_option maxHeartbeats 4000000 in
set_option maxRecDepth 100000 in
theorem c_letters_5 {n : Nat} {kd : mK} {I : mI} {J : mJ} {P : mP} : Ct yX10_letters cX10_letters 1 (some .long) 2 0 0 [.int (nI 5)] n kd I J P (am_is (some (.long 441972)) n kd I J P) := by
  refine ct_of 0 (by decide +kernel) (Nat.le_of_ble_eq_true rfl) rfl ?_
  refine r_iload_n dX10_letters_0 rfl ?_
  refine r_tabE (off := 137) (tgt := 138) rfl dX10_letters_1 (by decide) (by decide) (by decide) (by decide) ?_
  refine r_bipush (v := nI 109) dX10_letters_138 (by decide) ?_
  refine r_bipush (v := nI 111) dX10_letters_140 (by decide) ?_
  refine r_bipush (v := nI 115) dX10_letters_142 (by decide) ?_
  refine r_bipush (v := nI 116) dX10_letters_144 (by decide) ?_
  refine r_iconst (v := nI 0) dX10_letters_146 (by decide) ?_
  refine r_iconst (v := nI 0) dX10_letters_147 (by decide) ?_
  refine r_statE (c_spelled_5) lk_X10_241 mc_X10_spelled dX10_letters_148 (by decide) rfl rfl (Nat.le_of_ble_eq_true rfl) ?_
  refine r_lret rfl dX10_letters_151 ?_
  exact am_is.mk

set_option maxHeartbeats 4000000 in
set_option maxRecDepth 100000 in
theorem c_letters_7 {n : Nat} {kd : mK} {I : mI} {J : mJ} {P : mP} : Ct yX10_letters cX10_letters 1 (some .long) 2 0 0 [.int (nI 7)] n kd I J P (am_is (some (.long 719725925)) n kd I J P) := by
  refine ct_of 0 (by decide +kernel) (Nat.le_of_ble_eq_true rfl) rfl ?_
  refine r_iload_n dX10_letters_0 rfl ?_
  refine r_tabE (off := 163) (tgt := 164) rfl dX10_letters_1 (by decide) (by decide) (by decide) (by decide) ?_
  refine r_bipush (v := nI 117) dX10_letters_164 (by decide) ?_
  refine r_bipush (v := nI 110) dX10_letters_166 (by decide) ?_
  refine r_bipush (v := nI 108) dX10_letters_168 (by decide) ?_
  refine r_bipush (v := nI 105) dX10_letters_170 (by decide) ?_
  refine r_bipush (v := nI 107) dX10_letters_172 (by decide) ?_
  refine r_bipush (v := nI 101) dX10_letters_174 (by decide) ?_
  refine r_statE (c_spelled_7) lk_X10_241 mc_X10_spelled dX10_letters_176 (by decide) rfl rfl (Nat.le_of_ble_eq_true rfl) ?_
  refine r_lret rfl dX10_letters_179 ?_
  exact am_is.mk

set_option maxHeartbeats 4000000 in
set_option maxRecDepth 100000 in
theorem c_letters_8 {n : Nat} {kd : mK} {I : mI} {J : mJ} {P : mP} : Ct yX10_letters cX10_letters 1 (some .long) 2 0 0 [.int (nI 8)] n kd I J P (am_is (some (.long 8902245)) n kd I J P) := by
  refine ct_of 0 (by decide +kernel) (Nat.le_of_ble_eq_true rfl) rfl ?_
  refine r_iload_n dX10_letters_0 rfl ?_
  refine r_tabE (off := 179) (tgt := 180) rfl dX10_letters_1 (by decide) (by decide) (by decide) (by decide) ?_
  refine r_bipush (v := nI 104) dX10_letters_180 (by decide) ?_
  refine r_bipush (v := nI 111) dX10_letters_182 (by decide) ?_
  refine r_bipush (v := nI 117) dX10_letters_184 (by decide) ?_
  refine r_bipush (v := nI 115) dX10_letters_186 (by decide) ?_
  refine r_bipush (v := nI 101) dX10_letters_188 (by decide) ?_
  refine r_iconst (v := nI 0) dX10_letters_190 (by decide) ?_
  refine r_statE (c_spelled_8) lk_X10_241 mc_X10_spelled dX10_letters_191 (by decide) rfl rfl (Nat.le_of_ble_eq_true rfl) ?_
  refine r_lret rfl dX10_letters_194 ?_
  exact am_is.mk

set_option maxHeartbeats 4000000 in
set_option maxRecDepth 100000 in
theorem c_letters_9 {n : Nat} {kd : mK} {I : mI} {J : mJ} {P : mP} : Ct yX10_letters cX10_letters 1 (some .long) 2 0 0 [.int (nI 9)] n kd I J P (am_is (some (.long 624435)) n kd I J P) := by
  refine ct_of 0 (by decide +kernel) (Nat.le_of_ble_eq_true rfl) rfl ?_
  refine r_iload_n dX10_letters_0 rfl ?_
  refine r_tabE (off := 194) (tgt := 195) rfl dX10_letters_1 (by decide) (by decide) (by decide) (by decide) ?_
  refine r_bipush (v := nI 115) dX10_letters_195 (by decide) ?_
  refine r_bipush (v := nI 97) dX10_letters_197 (by decide) ?_
  refine r_bipush (v := nI 121) dX10_letters_199 (by decide) ?_
  refine r_bipush (v := nI 115) dX10_letters_201 (by decide) ?_
  refine r_iconst (v := nI 0) dX10_letters_203 (by decide) ?_
  refine r_iconst (v := nI 0) dX10_letters_204 (by decide) ?_
  refine r_statE (c_spelled_9) lk_X10_241 mc_X10_spelled dX10_letters_205 (by decide) rfl rfl (Nat.le_of_ble_eq_true rfl) ?_
  refine r_lret rfl dX10_letters_208 ?_
  exact am_is.mk

set_option maxHeartbeats 4000000 in
set_option maxRecDepth 100000 in
theorem c_letters_10 {n : Nat} {kd : mK} {I : mI} {J : mJ} {P : mP} : Ct yX10_letters cX10_letters 1 (some .long) 2 0 0 [.int (nI 10)] n kd I J P (am_is (some (.long 1476)) n kd I J P) := by
  refine ct_of 0 (by decide +kernel) (Nat.le_of_ble_eq_true rfl) rfl ?_
  refine r_iload_n dX10_letters_0 rfl ?_
  refine r_tabE (off := 208) (tgt := 209) rfl dX10_letters_1 (by decide) (by decide) (by decide) (by decide) ?_
  refine r_bipush (v := nI 97) dX10_letters_209 (by decide) ?_
  refine r_bipush (v := nI 110) dX10_letters_211 (by decide) ?_
  refine r_bipush (v := nI 100) dX10_letters_213 (by decide) ?_
  refine r_iconst (v := nI 0) dX10_letters_215 (by decide) ?_
  refine r_iconst (v := nI 0) dX10_letters_216 (by decide) ?_
  refine r_iconst (v := nI 0) dX10_letters_217 (by decide) ?_
  refine r_statE (c_spelled_10) lk_X10_241 mc_X10_spelled dX10_letters_218 (by decide) rfl rfl (Nat.le_of_ble_eq_true rfl) ?_
  refine r_lret rfl dX10_letters_221 ?_
  exact am_is.mk

set_option maxHeartbeats 4000000 in
set_option maxRecDepth 100000 in
theorem c_letters_11 {n : Nat} {kd : mK} {I : mI} {J : mJ} {P : mP} : Ct yX10_letters cX10_letters 1 (some .long) 2 0 0 [.int (nI 11)] n kd I J P (am_is (some (.long 498)) n kd I J P) := by
  refine ct_of 0 (by decide +kernel) (Nat.le_of_ble_eq_true rfl) rfl ?_
  refine r_iload_n dX10_letters_0 rfl ?_
  refine r_tabE (off := 221) (tgt := 222) rfl dX10_letters_1 (by decide) (by decide) (by decide) (by decide) ?_
  refine r_bipush (v := nI 111) dX10_letters_222 (by decide) ?_
  refine r_bipush (v := nI 114) dX10_letters_224 (by decide) ?_
  refine r_iconst (v := nI 0) dX10_letters_226 (by decide) ?_
  refine r_iconst (v := nI 0) dX10_letters_227 (by decide) ?_
  refine r_iconst (v := nI 0) dX10_letters_228 (by decide) ?_
  refine r_iconst (v := nI 0) dX10_letters_229 (by decide) ?_
  refine r_statE (c_spelled_11) lk_X10_241 mc_X10_spelled dX10_letters_230 (by decide) rfl rfl (Nat.le_of_ble_eq_true rfl) ?_
  refine r_lret rfl dX10_letters_233 ?_
  exact am_is.mk

/-- a page that holds some bytes -/
def pgR (m : Nat) (bs : List Int32) (I : mI) : mI := va_up (va_up I (m + 40) (fun j => bs.getD j (I (m + 40) j))) m (va_up (I m) 77 (nI bs.length))
def qB (m : Nat) (bs : List Int32) (I : mI) : PS := (I m 78, I m 1, nO (I m 30), bs.length, I (m + 1), I (m + 2), I (m + 3), I (m + 4), I (m + 5), I (m + 6), I (m + 7), I (m + 8), I (m + 9), I (m + 10), fun j => bs.getD j (I (m + 40) j))
theorem pgR_m {m : Nat} {bs : List Int32} {I : mI} : pgR m bs I m = va_up (I m) 77 (nI bs.length) := am_up_s _ _ _
theorem pgR_40 {m : Nat} {bs : List Int32} {I : mI} : pgR m bs I (m + 40) = fun j => bs.getD j (I (m + 40) j) := by unfold pgR; rw [am_up_n _ _ (by omega), am_up_s]
theorem pgR_n {m a : Nat} {bs : List Int32} {I : mI} (h : a ≠ m) (h2 : a ≠ m + 40) : pgR m bs I a = I a := by unfold pgR; rw [am_up_n _ _ h, am_up_n _ _ h2]
theorem pgR_j {m j : Nat} {bs : List Int32} {I : mI} (h : j ≠ 77) : pgR m bs I m j = I m j := by rw [pgR_m, am_up_n _ _ h]
theorem pgR_77 {m : Nat} {bs : List Int32} {I : mI} : pgR m bs I m 77 = nI bs.length := by rw [pgR_m, am_up_s]
theorem gI_qB (m : Nat) (bs : List Int32) (I : mI) : gI m (qB m bs I) I = pgR m bs I := by
  funext a
  by_cases h : a = m
  · subst h
    rw [pgR_m]
    funext j
    show (if a = a then _ else _ : Nat → Int32) j = _
    rw [if_pos rfl]
    show (if j = 78 then I a 78 else if j = 1 then I a 1 else if j = 30 then nI (nO (I a 30)) else if j = 77 then nI bs.length else I a j) = _
    by_cases h1 : j = 78
    · rw [if_pos h1, am_up_n _ _ (by omega), h1]
    rw [if_neg h1]
    by_cases h2 : j = 1
    · rw [if_pos h2, am_up_n _ _ (by omega), h2]
    rw [if_neg h2]
    by_cases h3 : j = 30
    · rw [if_pos h3, am_up_n _ _ (by omega), h3, nO_eq]
    rw [if_neg h3]
    by_cases h4 : j = 77
    · rw [if_pos h4, h4, am_up_s]
    rw [if_neg h4, am_up_n _ _ h4]
  · by_cases h40 : a = m + 40
    · rw [h40, pgR_40]
      show (if m + 40 = m then _ else _ : Nat → Int32) = _
      simp
    · rw [pgR_n h h40]
      show (if a = m then _ else if a = m + 1 then I (m + 1) else if a = m + 2 then I (m + 2) else if a = m + 3 then I (m + 3) else if a = m + 4 then I (m + 4) else if a = m + 5 then I (m + 5) else if a = m + 6 then I (m + 6) else if a = m + 7 then I (m + 7) else if a = m + 8 then I (m + 8) else if a = m + 9 then I (m + 9) else if a = m + 10 then I (m + 10) else if a = m + 40 then _ else I a) = I a
      rw [if_neg h, if_neg h40]
      by_cases h1 : a = m + 1
      · rw [if_pos h1, h1]
      rw [if_neg h1]
      by_cases h2 : a = m + 2
      · rw [if_pos h2, h2]
      rw [if_neg h2]
      by_cases h3 : a = m + 3
      · rw [if_pos h3, h3]
      rw [if_neg h3]
      by_cases h4 : a = m + 4
      · rw [if_pos h4, h4]
      rw [if_neg h4]
      by_cases h5 : a = m + 5
      · rw [if_pos h5, h5]
      rw [if_neg h5]
      by_cases h6 : a = m + 6
      · rw [if_pos h6, h6]
      rw [if_neg h6]
      by_cases h7 : a = m + 7
      · rw [if_pos h7, h7]
      rw [if_neg h7]
      by_cases h8 : a = m + 8
      · rw [if_pos h8, h8]
      rw [if_neg h8]
      by_cases h9 : a = m + 9
      · rw [if_pos h9, h9]
      rw [if_neg h9]
      by_cases h10 : a = m + 10
      · rw [if_pos h10, h10]
      rw [if_neg h10]
theorem pW_qB (m : Nat) (bs : List Int32) (c : Int32) (I : mI) : pW c (qB m bs I) = qB m (bs ++ [c]) I := by
  unfold qB pW
  rw [List.length_append, getD_snoc]
  rfl
theorem pWs_qB (m : Nat) (I : mI) : ∀ (ws bs : List Int32), pWs ws (qB m bs I) = qB m (bs ++ ws) I
  | [], bs => by rw [List.append_nil]; rfl
  | c :: t, bs => by
    show pWs t (pW c (qB m bs I)) = _
    rw [pW_qB, pWs_qB m I t, List.append_assoc]
    rfl
set_option maxHeartbeats 4000000 in
set_option maxRecDepth 100000 in
theorem c_rw (m : Nat) (bs : List Int32) (c : Int32) {n : Nat} {kd : mK} {I : mI} {J : mJ} {P : mP} (hM : kM kd P m) (hl : bs.length < 1100) : Ct yX10_writes cX10_writes 2 none 1 0 0 [.ref m, .int c] n kd (pgR m (bs) I) J P (am_is none n kd (pgR m (bs ++ [c]) I) J P) := by
  have h := c_w (n := n) (I := I) (J := J) m (qB m bs I) c hM hl
  rw [gI_qB, pW_qB, gI_qB] at h
  exact h

set_option maxHeartbeats 4000000 in
set_option maxRecDepth 100000 in
theorem c_rn (m k : Nat) (bs : List Int32) {n : Nat} {kd : mK} {I : mI} {J : mJ} {P : mP} (hM : kM kd P m) (hk : k < 100) (hl : bs.length + 2 < 1100) : Ct yX10_writesNumber cX10_writesNumber 2 none 2 0 0 [.ref m, .int (nI k)] n kd (pgR m (bs) I) J P (am_is none n kd (pgR m (bs ++ dg k) I) J P) := by
  have h := c_n (n := n) (I := I) (J := J) m k (qB m bs I) hM hk hl
  rw [gI_qB, pWs_qB, gI_qB] at h
  exact h

theorem wOk_5 : wOk 441972 4 [nI 109, nI 111, nI 115, nI 116] := ⟨by decide +kernel, by decide +kernel, by decide +kernel, rfl, by decide, by decide⟩
set_option maxHeartbeats 4000000 in
set_option maxRecDepth 100000 in
theorem c_word_5 (m : Nat) (q : PS) {n : Nat} {kd : mK} {I : mI} {J : mJ} {P : mP} (hM : kM kd P m) (hp : pPl q + 6 < 1100) : Ct yX10_writesWord cX10_writesWord 6 none 3 0 0 [.ref m, .int (nI 5)] n kd (gI m q I) J P (am_is none n kd (gI m (pWs [nI 109, nI 111, nI 115, nI 116] q) I) J P) := by
  refine ct_of 4 (by decide +kernel) (Nat.le_of_ble_eq_true rfl) rfl ?_
  refine r_iload_n dX10_writesWord_0 rfl ?_
  refine r_statE (c_letters_5) lk_X10_245 mc_X10_letters dX10_writesWord_1 (by decide) rfl rfl (Nat.le_of_ble_eq_true rfl) ?_
  refine r_lstore_n dX10_writesWord_4 (by decide) ?_
  refine r_iconst (v := nI 0) dX10_writesWord_5 (by decide) ?_
  refine r_istore dX10_writesWord_6 (by decide) ?_
  exact (wa_X10_writesWord m 4 (nI 5) 441972 [nI 109, nI 111, nI 115, nI 116] q hM wOk_5 (by omega) 4 0 (by omega))

set_option maxHeartbeats 4000000 in
set_option maxRecDepth 100000 in
theorem c_rword_5 (m : Nat) (bs : List Int32) {n : Nat} {kd : mK} {I : mI} {J : mJ} {P : mP} (hM : kM kd P m) (hl : bs.length + 6 < 1100) : Ct yX10_writesWord cX10_writesWord 6 none 3 0 0 [.ref m, .int (nI 5)] n kd (pgR m (bs) I) J P (am_is none n kd (pgR m (bs ++ [nI 109, nI 111, nI 115, nI 116]) I) J P) := by
  have h := c_word_5 (n := n) (I := I) (J := J) m (qB m bs I) hM hl
  rw [gI_qB, pWs_qB, gI_qB] at h
  exact h

theorem wOk_7 : wOk 719725925 6 [nI 117, nI 110, nI 108, nI 105, nI 107, nI 101] := ⟨by decide +kernel, by decide +kernel, by decide +kernel, rfl, by decide, by decide⟩
set_option maxHeartbeats 4000000 in
set_option maxRecDepth 100000 in
theorem c_word_7 (m : Nat) (q : PS) {n : Nat} {kd : mK} {I : mI} {J : mJ} {P : mP} (hM : kM kd P m) (hp : pPl q + 6 < 1100) : Ct yX10_writesWord cX10_writesWord 6 none 3 0 0 [.ref m, .int (nI 7)] n kd (gI m q I) J P (am_is none n kd (gI m (pWs [nI 117, nI 110, nI 108, nI 105, nI 107, nI 101] q) I) J P) := by
  refine ct_of 4 (by decide +kernel) (Nat.le_of_ble_eq_true rfl) rfl ?_
  refine r_iload_n dX10_writesWord_0 rfl ?_
  refine r_statE (c_letters_7) lk_X10_245 mc_X10_letters dX10_writesWord_1 (by decide) rfl rfl (Nat.le_of_ble_eq_true rfl) ?_
  refine r_lstore_n dX10_writesWord_4 (by decide) ?_
  refine r_iconst (v := nI 0) dX10_writesWord_5 (by decide) ?_
  refine r_istore dX10_writesWord_6 (by decide) ?_
  exact (wa_X10_writesWord m 6 (nI 7) 719725925 [nI 117, nI 110, nI 108, nI 105, nI 107, nI 101] q hM wOk_7 (by omega) 6 0 (by omega))

set_option maxHeartbeats 4000000 in
set_option maxRecDepth 100000 in
theorem c_rword_7 (m : Nat) (bs : List Int32) {n : Nat} {kd : mK} {I : mI} {J : mJ} {P : mP} (hM : kM kd P m) (hl : bs.length + 6 < 1100) : Ct yX10_writesWord cX10_writesWord 6 none 3 0 0 [.ref m, .int (nI 7)] n kd (pgR m (bs) I) J P (am_is none n kd (pgR m (bs ++ [nI 117, nI 110, nI 108, nI 105, nI 107, nI 101]) I) J P) := by
  have h := c_word_7 (n := n) (I := I) (J := J) m (qB m bs I) hM hl
  rw [gI_qB, pWs_qB, gI_qB] at h
  exact h

theorem wOk_8 : wOk 8902245 5 [nI 104, nI 111, nI 117, nI 115, nI 101] := ⟨by decide +kernel, by decide +kernel, by decide +kernel, rfl, by decide, by decide⟩
set_option maxHeartbeats 4000000 in
set_option maxRecDepth 100000 in
theorem c_word_8 (m : Nat) (q : PS) {n : Nat} {kd : mK} {I : mI} {J : mJ} {P : mP} (hM : kM kd P m) (hp : pPl q + 6 < 1100) : Ct yX10_writesWord cX10_writesWord 6 none 3 0 0 [.ref m, .int (nI 8)] n kd (gI m q I) J P (am_is none n kd (gI m (pWs [nI 104, nI 111, nI 117, nI 115, nI 101] q) I) J P) := by
  refine ct_of 4 (by decide +kernel) (Nat.le_of_ble_eq_true rfl) rfl ?_
  refine r_iload_n dX10_writesWord_0 rfl ?_
  refine r_statE (c_letters_8) lk_X10_245 mc_X10_letters dX10_writesWord_1 (by decide) rfl rfl (Nat.le_of_ble_eq_true rfl) ?_
  refine r_lstore_n dX10_writesWord_4 (by decide) ?_
  refine r_iconst (v := nI 0) dX10_writesWord_5 (by decide) ?_
  refine r_istore dX10_writesWord_6 (by decide) ?_
  exact (wa_X10_writesWord m 5 (nI 8) 8902245 [nI 104, nI 111, nI 117, nI 115, nI 101] q hM wOk_8 (by omega) 5 0 (by omega))

set_option maxHeartbeats 4000000 in
set_option maxRecDepth 100000 in
theorem c_rword_8 (m : Nat) (bs : List Int32) {n : Nat} {kd : mK} {I : mI} {J : mJ} {P : mP} (hM : kM kd P m) (hl : bs.length + 6 < 1100) : Ct yX10_writesWord cX10_writesWord 6 none 3 0 0 [.ref m, .int (nI 8)] n kd (pgR m (bs) I) J P (am_is none n kd (pgR m (bs ++ [nI 104, nI 111, nI 117, nI 115, nI 101]) I) J P) := by
  have h := c_word_8 (n := n) (I := I) (J := J) m (qB m bs I) hM hl
  rw [gI_qB, pWs_qB, gI_qB] at h
  exact h

theorem wOk_9 : wOk 624435 4 [nI 115, nI 97, nI 121, nI 115] := ⟨by decide +kernel, by decide +kernel, by decide +kernel, rfl, by decide, by decide⟩
set_option maxHeartbeats 4000000 in
set_option maxRecDepth 100000 in
theorem c_word_9 (m : Nat) (q : PS) {n : Nat} {kd : mK} {I : mI} {J : mJ} {P : mP} (hM : kM kd P m) (hp : pPl q + 6 < 1100) : Ct yX10_writesWord cX10_writesWord 6 none 3 0 0 [.ref m, .int (nI 9)] n kd (gI m q I) J P (am_is none n kd (gI m (pWs [nI 115, nI 97, nI 121, nI 115] q) I) J P) := by
  refine ct_of 4 (by decide +kernel) (Nat.le_of_ble_eq_true rfl) rfl ?_
  refine r_iload_n dX10_writesWord_0 rfl ?_
  refine r_statE (c_letters_9) lk_X10_245 mc_X10_letters dX10_writesWord_1 (by decide) rfl rfl (Nat.le_of_ble_eq_true rfl) ?_
  refine r_lstore_n dX10_writesWord_4 (by decide) ?_
  refine r_iconst (v := nI 0) dX10_writesWord_5 (by decide) ?_
  refine r_istore dX10_writesWord_6 (by decide) ?_
  exact (wa_X10_writesWord m 4 (nI 9) 624435 [nI 115, nI 97, nI 121, nI 115] q hM wOk_9 (by omega) 4 0 (by omega))

set_option maxHeartbeats 4000000 in
set_option maxRecDepth 100000 in
theorem c_rword_9 (m : Nat) (bs : List Int32) {n : Nat} {kd : mK} {I : mI} {J : mJ} {P : mP} (hM : kM kd P m) (hl : bs.length + 6 < 1100) : Ct yX10_writesWord cX10_writesWord 6 none 3 0 0 [.ref m, .int (nI 9)] n kd (pgR m (bs) I) J P (am_is none n kd (pgR m (bs ++ [nI 115, nI 97, nI 121, nI 115]) I) J P) := by
  have h := c_word_9 (n := n) (I := I) (J := J) m (qB m bs I) hM hl
  rw [gI_qB, pWs_qB, gI_qB] at h
  exact h

theorem dX10_isLetter_0 : decode cX10_isLetter 0 = .ok (.iload_n 0, 1) := by decide +kernel
theorem dX10_isLetter_1 : decode cX10_isLetter 1 = .ok (.bipush 97, 2) := by decide +kernel
theorem dX10_isLetter_3 : decode cX10_isLetter 3 = .ok (.if_icmp .lt 13, 3) := by decide +kernel
theorem dX10_isLetter_6 : decode cX10_isLetter 6 = .ok (.iload_n 0, 1) := by decide +kernel
theorem dX10_isLetter_7 : decode cX10_isLetter 7 = .ok (.bipush 122, 2) := by decide +kernel
theorem dX10_isLetter_9 : decode cX10_isLetter 9 = .ok (.if_icmp .gt 7, 3) := by decide +kernel
theorem dX10_isLetter_12 : decode cX10_isLetter 12 = .ok (.iconst 1, 1) := by decide +kernel
theorem dX10_isLetter_13 : decode cX10_isLetter 13 = .ok (.goto 4, 3) := by decide +kernel
theorem dX10_isLetter_16 : decode cX10_isLetter 16 = .ok (.iconst 0, 1) := by decide +kernel
theorem dX10_isLetter_17 : decode cX10_isLetter 17 = .ok (.ireturn, 1) := by decide +kernel

set_option maxHeartbeats 4000000 in
set_option maxRecDepth 100000 in
theorem c_X10_isLetter (x : Int32) {n : Nat} {kd : mK} {I : mI} {J : mJ} {P : mP} : Ct yX10_isLetter cX10_isLetter 1 (some .boolean) 1 0 0 [.int x] n kd I J P (am_is (some (.int (bz (isL x)))) n kd I J P) := by
  refine ct_of 0 (by decide +kernel) (Nat.le_of_ble_eq_true rfl) rfl ?_
  by_cases c1 : x < nI 97
  · skip
    refine r_iload_n dX10_isLetter_0 rfl ?_
    refine r_bipush (v := nI 97) dX10_isLetter_1 (by decide) ?_
    refine r_icmp_lt (tgt := 16) dX10_isLetter_3 (by decide) (fun _ => ?_) (fun hz => absurd (show _ from c1) hz)
    refine r_iconst (v := nI 0) dX10_isLetter_16 (by decide) ?_
    refine r_zret rfl dX10_isLetter_17 (by first | exact Or.inl rfl | exact Or.inr rfl | assumption) ?_
    rw [show isL x = false from by unfold isL; rw [decide_eq_true c1]; rfl]
    exact am_is.mk
  by_cases c2 : nI 122 < x
  · skip
    refine r_iload_n dX10_isLetter_0 rfl ?_
    refine r_bipush (v := nI 97) dX10_isLetter_1 (by decide) ?_
    refine r_icmp_lt (tgt := 16) dX10_isLetter_3 (by decide) (fun hz => absurd hz (show ¬ _ from c1)) (fun _ => ?_)
    refine r_iload_n dX10_isLetter_6 rfl ?_
    refine r_bipush (v := nI 122) dX10_isLetter_7 (by decide) ?_
    refine r_icmp_gt (tgt := 16) dX10_isLetter_9 (by decide) (fun _ => ?_) (fun hz => absurd (show _ from c2) hz)
    refine r_iconst (v := nI 0) dX10_isLetter_16 (by decide) ?_
    refine r_zret rfl dX10_isLetter_17 (by first | exact Or.inl rfl | exact Or.inr rfl | assumption) ?_
    rw [show isL x = false from by unfold isL; rw [decide_eq_true c2, Bool.not_true, Bool.and_false]]
    exact am_is.mk
  · skip
    refine r_iload_n dX10_isLetter_0 rfl ?_
    refine r_bipush (v := nI 97) dX10_isLetter_1 (by decide) ?_
    refine r_icmp_lt (tgt := 16) dX10_isLetter_3 (by decide) (fun hz => absurd hz (show ¬ _ from c1)) (fun _ => ?_)
    refine r_iload_n dX10_isLetter_6 rfl ?_
    refine r_bipush (v := nI 122) dX10_isLetter_7 (by decide) ?_
    refine r_icmp_gt (tgt := 16) dX10_isLetter_9 (by decide) (fun hz => absurd hz (show ¬ _ from c2)) (fun _ => ?_)
    refine r_iconst (v := nI 1) dX10_isLetter_12 (by decide) ?_
    refine r_goto (tgt := 17) dX10_isLetter_13 (by decide) ?_
    refine r_zret rfl dX10_isLetter_17 (by first | exact Or.inl rfl | exact Or.inr rfl | assumption) ?_
    rw [show isL x = true from by unfold isL; rw [decide_eq_false c1, decide_eq_false c2]; rfl]
    exact am_is.mk

theorem dX10_isDigit_0 : decode cX10_isDigit 0 = .ok (.iload_n 0, 1) := by decide +kernel
theorem dX10_isDigit_1 : decode cX10_isDigit 1 = .ok (.bipush 48, 2) := by decide +kernel
theorem dX10_isDigit_3 : decode cX10_isDigit 3 = .ok (.if_icmp .lt 13, 3) := by decide +kernel
theorem dX10_isDigit_6 : decode cX10_isDigit 6 = .ok (.iload_n 0, 1) := by decide +kernel
theorem dX10_isDigit_7 : decode cX10_isDigit 7 = .ok (.bipush 57, 2) := by decide +kernel
theorem dX10_isDigit_9 : decode cX10_isDigit 9 = .ok (.if_icmp .gt 7, 3) := by decide +kernel
theorem dX10_isDigit_12 : decode cX10_isDigit 12 = .ok (.iconst 1, 1) := by decide +kernel
theorem dX10_isDigit_13 : decode cX10_isDigit 13 = .ok (.goto 4, 3) := by decide +kernel
theorem dX10_isDigit_16 : decode cX10_isDigit 16 = .ok (.iconst 0, 1) := by decide +kernel
theorem dX10_isDigit_17 : decode cX10_isDigit 17 = .ok (.ireturn, 1) := by decide +kernel

set_option maxHeartbeats 4000000 in
set_option maxRecDepth 100000 in
theorem c_X10_isDigit (x : Int32) {n : Nat} {kd : mK} {I : mI} {J : mJ} {P : mP} : Ct yX10_isDigit cX10_isDigit 1 (some .boolean) 1 0 0 [.int x] n kd I J P (am_is (some (.int (bz (isD x)))) n kd I J P) := by
  refine ct_of 0 (by decide +kernel) (Nat.le_of_ble_eq_true rfl) rfl ?_
  by_cases c1 : x < nI 48
  · skip
    refine r_iload_n dX10_isDigit_0 rfl ?_
    refine r_bipush (v := nI 48) dX10_isDigit_1 (by decide) ?_
    refine r_icmp_lt (tgt := 16) dX10_isDigit_3 (by decide) (fun _ => ?_) (fun hz => absurd (show _ from c1) hz)
    refine r_iconst (v := nI 0) dX10_isDigit_16 (by decide) ?_
    refine r_zret rfl dX10_isDigit_17 (by first | exact Or.inl rfl | exact Or.inr rfl | assumption) ?_
    rw [show isD x = false from by unfold isD; rw [decide_eq_true c1]; rfl]
    exact am_is.mk
  by_cases c2 : nI 57 < x
  · skip
    refine r_iload_n dX10_isDigit_0 rfl ?_
    refine r_bipush (v := nI 48) dX10_isDigit_1 (by decide) ?_
    refine r_icmp_lt (tgt := 16) dX10_isDigit_3 (by decide) (fun hz => absurd hz (show ¬ _ from c1)) (fun _ => ?_)
    refine r_iload_n dX10_isDigit_6 rfl ?_
    refine r_bipush (v := nI 57) dX10_isDigit_7 (by decide) ?_
    refine r_icmp_gt (tgt := 16) dX10_isDigit_9 (by decide) (fun _ => ?_) (fun hz => absurd (show _ from c2) hz)
    refine r_iconst (v := nI 0) dX10_isDigit_16 (by decide) ?_
    refine r_zret rfl dX10_isDigit_17 (by first | exact Or.inl rfl | exact Or.inr rfl | assumption) ?_
    rw [show isD x = false from by unfold isD; rw [decide_eq_true c2, Bool.not_true, Bool.and_false]]
    exact am_is.mk
  · skip
    refine r_iload_n dX10_isDigit_0 rfl ?_
    refine r_bipush (v := nI 48) dX10_isDigit_1 (by decide) ?_
    refine r_icmp_lt (tgt := 16) dX10_isDigit_3 (by decide) (fun hz => absurd hz (show ¬ _ from c1)) (fun _ => ?_)
    refine r_iload_n dX10_isDigit_6 rfl ?_
    refine r_bipush (v := nI 57) dX10_isDigit_7 (by decide) ?_
    refine r_icmp_gt (tgt := 16) dX10_isDigit_9 (by decide) (fun hz => absurd hz (show ¬ _ from c2)) (fun _ => ?_)
    refine r_iconst (v := nI 1) dX10_isDigit_12 (by decide) ?_
    refine r_goto (tgt := 17) dX10_isDigit_13 (by decide) ?_
    refine r_zret rfl dX10_isDigit_17 (by first | exact Or.inl rfl | exact Or.inr rfl | assumption) ?_
    rw [show isD x = true from by unfold isD; rw [decide_eq_false c1, decide_eq_false c2]; rfl]
    exact am_is.mk

theorem wdl_eq (x : Int32) : wdl x = (isL x || isD x) := by
  unfold wdl isL isD
  have e : decide (x ≤ nI 122) = !decide (nI 122 < x) := by
    rw [← decide_not]
    exact decide_eq_decide.mpr Int32.not_lt.symm
  rw [e]
theorem dX10_isWritten_0 : decode cX10_isWritten 0 = .ok (.iload_n 0, 1) := by decide +kernel
theorem dX10_isWritten_1 : decode cX10_isWritten 1 = .ok (.invokestatic 229, 3) := by decide +kernel
theorem dX10_isWritten_4 : decode cX10_isWritten 4 = .ok (.ifCond .ne 10, 3) := by decide +kernel
theorem dX10_isWritten_7 : decode cX10_isWritten 7 = .ok (.iload_n 0, 1) := by decide +kernel
theorem dX10_isWritten_8 : decode cX10_isWritten 8 = .ok (.invokestatic 233, 3) := by decide +kernel
theorem dX10_isWritten_11 : decode cX10_isWritten 11 = .ok (.ifCond .eq 7, 3) := by decide +kernel
theorem dX10_isWritten_14 : decode cX10_isWritten 14 = .ok (.iconst 1, 1) := by decide +kernel
theorem dX10_isWritten_15 : decode cX10_isWritten 15 = .ok (.goto 4, 3) := by decide +kernel
theorem dX10_isWritten_18 : decode cX10_isWritten 18 = .ok (.iconst 0, 1) := by decide +kernel
theorem dX10_isWritten_19 : decode cX10_isWritten 19 = .ok (.ireturn, 1) := by decide +kernel

set_option maxHeartbeats 4000000 in
set_option maxRecDepth 100000 in
theorem c_X10_isWritten (x : Int32) {n : Nat} {kd : mK} {I : mI} {J : mJ} {P : mP} : Ct yX10_isWritten cX10_isWritten 1 (some .boolean) 2 0 0 [.int x] n kd I J P (am_is (some (.int (bz (wdl x)))) n kd I J P) := by
  refine ct_of 0 (by decide +kernel) (Nat.le_of_ble_eq_true rfl) rfl ?_
  cases c1 : isL x
  · cases c2 : isD x
    · skip
      refine r_iload_n dX10_isWritten_0 rfl ?_
      refine r_statE (c_X10_isLetter (x)) lk_X10_229 mc_X10_isLetter dX10_isWritten_1 (by decide) rfl rfl (Nat.le_of_ble_eq_true rfl) ?_
      rw [c1]
      refine r_if_ne (tgt := 14) dX10_isWritten_4 (by decide) (fun hz => absurd (show _ from rfl) hz) (fun _ => ?_)
      refine r_iload_n dX10_isWritten_7 rfl ?_
      refine r_statE (c_X10_isDigit x) lk_X10_233 mc_X10_isDigit dX10_isWritten_8 (by decide) rfl rfl (Nat.le_of_ble_eq_true rfl) ?_
      rw [c2]
      refine r_if_eq (tgt := 18) dX10_isWritten_11 (by decide) (fun _ => ?_) (fun hz => absurd (show _ from rfl) hz)
      refine r_iconst (v := nI 0) dX10_isWritten_18 (by decide) ?_
      refine r_zret rfl dX10_isWritten_19 (by first | exact Or.inl rfl | exact Or.inr rfl | assumption) ?_
      rw [show wdl x = false from by rw [wdl_eq, c1, c2]; rfl]
      exact am_is.mk
    · skip
      refine r_iload_n dX10_isWritten_0 rfl ?_
      refine r_statE (c_X10_isLetter (x)) lk_X10_229 mc_X10_isLetter dX10_isWritten_1 (by decide) rfl rfl (Nat.le_of_ble_eq_true rfl) ?_
      rw [c1]
      refine r_if_ne (tgt := 14) dX10_isWritten_4 (by decide) (fun hz => absurd (show _ from rfl) hz) (fun _ => ?_)
      refine r_iload_n dX10_isWritten_7 rfl ?_
      refine r_statE (c_X10_isDigit x) lk_X10_233 mc_X10_isDigit dX10_isWritten_8 (by decide) rfl rfl (Nat.le_of_ble_eq_true rfl) ?_
      rw [c2]
      refine r_if_eq (tgt := 18) dX10_isWritten_11 (by decide) (fun hz => absurd hz (show ¬ _ from (by decide))) (fun _ => ?_)
      refine r_iconst (v := nI 1) dX10_isWritten_14 (by decide) ?_
      refine r_goto (tgt := 19) dX10_isWritten_15 (by decide) ?_
      refine r_zret rfl dX10_isWritten_19 (by first | exact Or.inl rfl | exact Or.inr rfl | assumption) ?_
      rw [show wdl x = true from by rw [wdl_eq, c1, c2]; rfl]
      exact am_is.mk
  · skip
    refine r_iload_n dX10_isWritten_0 rfl ?_
    refine r_statE (c_X10_isLetter (x)) lk_X10_229 mc_X10_isLetter dX10_isWritten_1 (by decide) rfl rfl (Nat.le_of_ble_eq_true rfl) ?_
    rw [c1]
    refine r_if_ne (tgt := 14) dX10_isWritten_4 (by decide) (fun _ => ?_) (fun hz => absurd hz (show ¬ _ from (by decide)))
    refine r_iconst (v := nI 1) dX10_isWritten_14 (by decide) ?_
    refine r_goto (tgt := 19) dX10_isWritten_15 (by decide) ?_
    refine r_zret rfl dX10_isWritten_19 (by first | exact Or.inl rfl | exact Or.inr rfl | assumption) ?_
    rw [show wdl x = true from by rw [wdl_eq, c1, Bool.true_or]]
    exact am_is.mk

theorem dX10_writesRiddle_0 : decode cX10_writesRiddle 0 = .ok (.bipush 32, 2) := by decide +kernel
theorem dX10_writesRiddle_2 : decode cX10_writesRiddle 2 = .ok (.istore_n 2, 1) := by decide +kernel
theorem dX10_writesRiddle_3 : decode cX10_writesRiddle 3 = .ok (.iconst 0, 1) := by decide +kernel
theorem dX10_writesRiddle_4 : decode cX10_writesRiddle 4 = .ok (.istore_n 3, 1) := by decide +kernel
theorem dX10_writesRiddle_5 : decode cX10_writesRiddle 5 = .ok (.aload_n 0, 1) := by decide +kernel
theorem dX10_writesRiddle_6 : decode cX10_writesRiddle 6 = .ok (.getfield 38, 3) := by decide +kernel
theorem dX10_writesRiddle_9 : decode cX10_writesRiddle 9 = .ok (.iload_n 1, 1) := by decide +kernel
theorem dX10_writesRiddle_10 : decode cX10_writesRiddle 10 = .ok (.iaload, 1) := by decide +kernel
theorem dX10_writesRiddle_11 : decode cX10_writesRiddle 11 = .ok (.istore 4, 2) := by decide +kernel
theorem dX10_writesRiddle_13 : decode cX10_writesRiddle 13 = .ok (.iload 4, 2) := by decide +kernel
theorem dX10_writesRiddle_15 : decode cX10_writesRiddle 15 = .ok (.aload_n 0, 1) := by decide +kernel
theorem dX10_writesRiddle_16 : decode cX10_writesRiddle 16 = .ok (.getfield 41, 3) := by decide +kernel
theorem dX10_writesRiddle_19 : decode cX10_writesRiddle 19 = .ok (.iload_n 1, 1) := by decide +kernel
theorem dX10_writesRiddle_20 : decode cX10_writesRiddle 20 = .ok (.iaload, 1) := by decide +kernel
theorem dX10_writesRiddle_21 : decode cX10_writesRiddle 21 = .ok (.if_icmp .ge 97, 3) := by decide +kernel
theorem dX10_writesRiddle_24 : decode cX10_writesRiddle 24 = .ok (.aload_n 0, 1) := by decide +kernel
theorem dX10_writesRiddle_25 : decode cX10_writesRiddle 25 = .ok (.getfield 35, 3) := by decide +kernel
theorem dX10_writesRiddle_28 : decode cX10_writesRiddle 28 = .ok (.iload 4, 2) := by decide +kernel
theorem dX10_writesRiddle_30 : decode cX10_writesRiddle 30 = .ok (.iaload, 1) := by decide +kernel
theorem dX10_writesRiddle_31 : decode cX10_writesRiddle 31 = .ok (.istore 5, 2) := by decide +kernel
theorem dX10_writesRiddle_33 : decode cX10_writesRiddle 33 = .ok (.iload 5, 2) := by decide +kernel
theorem dX10_writesRiddle_35 : decode cX10_writesRiddle 35 = .ok (.bipush 32, 2) := by decide +kernel
theorem dX10_writesRiddle_37 : decode cX10_writesRiddle 37 = .ok (.if_icmp .eq 10, 3) := by decide +kernel
theorem dX10_writesRiddle_40 : decode cX10_writesRiddle 40 = .ok (.iload 5, 2) := by decide +kernel
theorem dX10_writesRiddle_42 : decode cX10_writesRiddle 42 = .ok (.bipush 10, 2) := by decide +kernel
theorem dX10_writesRiddle_44 : decode cX10_writesRiddle 44 = .ok (.if_icmp .ne 8, 3) := by decide +kernel
theorem dX10_writesRiddle_47 : decode cX10_writesRiddle 47 = .ok (.iconst 1, 1) := by decide +kernel
theorem dX10_writesRiddle_48 : decode cX10_writesRiddle 48 = .ok (.istore_n 3, 1) := by decide +kernel
theorem dX10_writesRiddle_49 : decode cX10_writesRiddle 49 = .ok (.goto 63, 3) := by decide +kernel
theorem dX10_writesRiddle_52 : decode cX10_writesRiddle 52 = .ok (.iload_n 3, 1) := by decide +kernel
theorem dX10_writesRiddle_53 : decode cX10_writesRiddle 53 = .ok (.ifCond .ne 15, 3) := by decide +kernel
theorem dX10_writesRiddle_56 : decode cX10_writesRiddle 56 = .ok (.iload 5, 2) := by decide +kernel
theorem dX10_writesRiddle_58 : decode cX10_writesRiddle 58 = .ok (.invokestatic 229, 3) := by decide +kernel
theorem dX10_writesRiddle_61 : decode cX10_writesRiddle 61 = .ok (.iload_n 2, 1) := by decide +kernel
theorem dX10_writesRiddle_62 : decode cX10_writesRiddle 62 = .ok (.invokestatic 229, 3) := by decide +kernel
theorem dX10_writesRiddle_65 : decode cX10_writesRiddle 65 = .ok (.if_icmp .eq 7, 3) := by decide +kernel
theorem dX10_writesRiddle_68 : decode cX10_writesRiddle 68 = .ok (.iconst 1, 1) := by decide +kernel
theorem dX10_writesRiddle_69 : decode cX10_writesRiddle 69 = .ok (.goto 4, 3) := by decide +kernel
theorem dX10_writesRiddle_72 : decode cX10_writesRiddle 72 = .ok (.iconst 0, 1) := by decide +kernel
theorem dX10_writesRiddle_73 : decode cX10_writesRiddle 73 = .ok (.istore 6, 2) := by decide +kernel
theorem dX10_writesRiddle_75 : decode cX10_writesRiddle 75 = .ok (.iload 6, 2) := by decide +kernel
theorem dX10_writesRiddle_77 : decode cX10_writesRiddle 77 = .ok (.ifCond .eq 24, 3) := by decide +kernel
theorem dX10_writesRiddle_80 : decode cX10_writesRiddle 80 = .ok (.iload 5, 2) := by decide +kernel
theorem dX10_writesRiddle_82 : decode cX10_writesRiddle 82 = .ok (.invokestatic 511, 3) := by decide +kernel
theorem dX10_writesRiddle_85 : decode cX10_writesRiddle 85 = .ok (.ifCond .eq 16, 3) := by decide +kernel
theorem dX10_writesRiddle_88 : decode cX10_writesRiddle 88 = .ok (.iload_n 2, 1) := by decide +kernel
theorem dX10_writesRiddle_89 : decode cX10_writesRiddle 89 = .ok (.invokestatic 511, 3) := by decide +kernel
theorem dX10_writesRiddle_92 : decode cX10_writesRiddle 92 = .ok (.ifCond .eq 9, 3) := by decide +kernel
theorem dX10_writesRiddle_95 : decode cX10_writesRiddle 95 = .ok (.aload_n 0, 1) := by decide +kernel
theorem dX10_writesRiddle_96 : decode cX10_writesRiddle 96 = .ok (.bipush 32, 2) := by decide +kernel
theorem dX10_writesRiddle_98 : decode cX10_writesRiddle 98 = .ok (.invokevirtual 508, 3) := by decide +kernel
theorem dX10_writesRiddle_101 : decode cX10_writesRiddle 101 = .ok (.aload_n 0, 1) := by decide +kernel
theorem dX10_writesRiddle_102 : decode cX10_writesRiddle 102 = .ok (.iload 5, 2) := by decide +kernel
theorem dX10_writesRiddle_104 : decode cX10_writesRiddle 104 = .ok (.invokevirtual 508, 3) := by decide +kernel
theorem dX10_writesRiddle_107 : decode cX10_writesRiddle 107 = .ok (.iload 5, 2) := by decide +kernel
theorem dX10_writesRiddle_109 : decode cX10_writesRiddle 109 = .ok (.istore_n 2, 1) := by decide +kernel
theorem dX10_writesRiddle_110 : decode cX10_writesRiddle 110 = .ok (.iconst 0, 1) := by decide +kernel
theorem dX10_writesRiddle_111 : decode cX10_writesRiddle 111 = .ok (.istore_n 3, 1) := by decide +kernel
theorem dX10_writesRiddle_112 : decode cX10_writesRiddle 112 = .ok (.iinc 4 1, 3) := by decide +kernel
theorem dX10_writesRiddle_115 : decode cX10_writesRiddle 115 = .ok (.goto (-102), 3) := by decide +kernel
theorem dX10_writesRiddle_118 : decode cX10_writesRiddle 118 = .ok (.return_, 1) := by decide +kernel

theorem wrT_len (X : Nat → Int32) : ∀ (k p : Nat) (la : Int32) (ap : Bool), (wrT X k p la ap).length ≤ 2 * k
  | 0, _, _, _ => Nat.le_refl _
  | k + 1, p, la, ap => by
    show (if X p = nI 32 ∨ X p = nI 10 then wrT X k (p + 1) la true else (if ((ap || (isL (X p) != isL la)) && (wdl (X p) && wdl la)) = true then [nI 32] else []) ++ X p :: wrT X k (p + 1) (X p) false).length ≤ _
    have h1 := wrT_len X k (p + 1) la true
    have h2 := wrT_len X k (p + 1) (X p) false
    split
    · omega
    · rw [List.length_append, List.length_cons]
      split
      · rw [List.length_singleton]; omega
      · rw [List.length_nil]; omega
theorem bz_inj {x y : Bool} (h : bz x = bz y) : x = y := by cases x <;> cases y <;> first | rfl | exact absurd h (by decide)
set_option maxHeartbeats 4000000 in
set_option maxRecDepth 100000 in
theorem w_rid (m h E : Nat) {n : Nat} {kd : mK} {I : mI} {J : mJ} {P : mP} (hM : kM kd P m) (hh : h < 8) (hT : I (m + 10) h = nI E) (hE5 : E ≤ 500) : ∀ (k p : Nat) (la : Int32) (ap : Bool) (bs : List Int32) (z5 z6 : Option Value), p + k = E → bs.length + (wrT (I (m + 8)) k p la ap).length ≤ 1100 → Ru yX10_writesRiddle.cls cX10_writesRiddle 7 none yX10_writesRiddle.name 4 (am_is none n kd (pgR m (bs ++ wrT (I (m + 8)) k p la ap) I) J P) 0 0 13 [some (.ref m), some (.int (nI h)), some (.int la), some (.int (bz ap)), some (.int (nI p)), z5, z6] [] n kd (pgR m (bs) I) J P
  | 0, p, la, ap, bs, z5, z6, hp, hl => by
    rw [show bs ++ wrT (I (m + 8)) 0 p la ap = bs from List.append_nil _]
    refine r_iload dX10_writesRiddle_13 rfl ?_
    refine r_aload_n dX10_writesRiddle_15 rfl ?_
    refine r_getR dX10_writesRiddle_16 fl_X10_41 rfl hM.1 (pM_13 hM) ?_
    refine r_iload_n dX10_writesRiddle_19 rfl ?_
    refine r_iald dX10_writesRiddle_20 (aM_13 hM) (nI_in8 8 (by omega) (by decide)) (nI_clamp (by omega)) ?_
    rw [pgR_n (by omega) (by omega), hT]
    refine r_icmp_ge (tgt := 118) dX10_writesRiddle_21 (by decide) (fun _ => ?_) (fun hz => absurd (show _ from (by rw [nI_leI (by omega) (by omega)]; omega)) hz)
    refine r_vret rfl dX10_writesRiddle_118 ?_
    exact am_is.mk
  | k + 1, p, la, ap, bs, z5, z6, hp, hl => by
    by_cases c1 : I (m + 8) p = nI 32
    · have hs : wrT (I (m + 8)) (k + 1) p la ap = wrT (I (m + 8)) k (p + 1) la true := if_pos (Or.inl c1)
      rw [hs] at hl
      refine r_iload dX10_writesRiddle_13 rfl ?_
      refine r_aload_n dX10_writesRiddle_15 rfl ?_
      refine r_getR dX10_writesRiddle_16 fl_X10_41 rfl hM.1 (pM_13 hM) ?_
      refine r_iload_n dX10_writesRiddle_19 rfl ?_
      refine r_iald dX10_writesRiddle_20 (aM_13 hM) (nI_in8 8 (by omega) (by decide)) (nI_clamp (by omega)) ?_
      rw [pgR_n (by omega) (by omega), hT]
      refine r_icmp_ge (tgt := 118) dX10_writesRiddle_21 (by decide) (fun hz => absurd hz (show ¬ _ from (by rw [nI_leI (by omega) (by omega)]; omega))) (fun _ => ?_)
      refine r_aload_n dX10_writesRiddle_24 rfl ?_
      refine r_getR dX10_writesRiddle_25 fl_X10_35 rfl hM.1 (pM_11 hM) ?_
      refine r_iload dX10_writesRiddle_28 rfl ?_
      refine r_iald dX10_writesRiddle_30 (aM_11 hM) (nI_in8 500 (by omega) (by decide)) (nI_clamp (by omega)) ?_
      rw [pgR_n (by omega) (by omega)]
      refine r_istore dX10_writesRiddle_31 (by decide) ?_
      refine r_iload dX10_writesRiddle_33 rfl ?_
      refine r_bipush (v := nI 32) dX10_writesRiddle_35 (by decide) ?_
      refine r_icmp_eq (tgt := 47) dX10_writesRiddle_37 (by decide) (fun _ => ?_) (fun hz => absurd (show _ from c1) hz)
      refine r_iconst (v := nI 1) dX10_writesRiddle_47 (by decide) ?_
      refine r_istore_n dX10_writesRiddle_48 (by decide) ?_
      refine r_goto (tgt := 112) dX10_writesRiddle_49 (by decide) ?_
      refine r_iinc (v := nI (p + 1)) dX10_writesRiddle_112 rfl (nI_inc p) ?_
      refine r_goto (tgt := 13) dX10_writesRiddle_115 (by decide) ?_
      have hx := w_rid m h E (n := n) (J := J) hM hh hT hE5 k (p + 1) la true bs (some (.int (I (m + 8) p))) z6 (by omega) (by omega)
      rw [← hs] at hx
      exact hx
    by_cases c2 : I (m + 8) p = nI 10
    · have hs : wrT (I (m + 8)) (k + 1) p la ap = wrT (I (m + 8)) k (p + 1) la true := if_pos (Or.inr c2)
      rw [hs] at hl
      refine r_iload dX10_writesRiddle_13 rfl ?_
      refine r_aload_n dX10_writesRiddle_15 rfl ?_
      refine r_getR dX10_writesRiddle_16 fl_X10_41 rfl hM.1 (pM_13 hM) ?_
      refine r_iload_n dX10_writesRiddle_19 rfl ?_
      refine r_iald dX10_writesRiddle_20 (aM_13 hM) (nI_in8 8 (by omega) (by decide)) (nI_clamp (by omega)) ?_
      rw [pgR_n (by omega) (by omega), hT]
      refine r_icmp_ge (tgt := 118) dX10_writesRiddle_21 (by decide) (fun hz => absurd hz (show ¬ _ from (by rw [nI_leI (by omega) (by omega)]; omega))) (fun _ => ?_)
      refine r_aload_n dX10_writesRiddle_24 rfl ?_
      refine r_getR dX10_writesRiddle_25 fl_X10_35 rfl hM.1 (pM_11 hM) ?_
      refine r_iload dX10_writesRiddle_28 rfl ?_
      refine r_iald dX10_writesRiddle_30 (aM_11 hM) (nI_in8 500 (by omega) (by decide)) (nI_clamp (by omega)) ?_
      rw [pgR_n (by omega) (by omega)]
      refine r_istore dX10_writesRiddle_31 (by decide) ?_
      refine r_iload dX10_writesRiddle_33 rfl ?_
      refine r_bipush (v := nI 32) dX10_writesRiddle_35 (by decide) ?_
      refine r_icmp_eq (tgt := 47) dX10_writesRiddle_37 (by decide) (fun hz => absurd hz (show ¬ _ from c1)) (fun _ => ?_)
      refine r_iload dX10_writesRiddle_40 rfl ?_
      refine r_bipush (v := nI 10) dX10_writesRiddle_42 (by decide) ?_
      refine r_icmp_ne (tgt := 52) dX10_writesRiddle_44 (by decide) (fun hz => absurd (show _ from c2) hz) (fun _ => ?_)
      refine r_iconst (v := nI 1) dX10_writesRiddle_47 (by decide) ?_
      refine r_istore_n dX10_writesRiddle_48 (by decide) ?_
      refine r_goto (tgt := 112) dX10_writesRiddle_49 (by decide) ?_
      refine r_iinc (v := nI (p + 1)) dX10_writesRiddle_112 rfl (nI_inc p) ?_
      refine r_goto (tgt := 13) dX10_writesRiddle_115 (by decide) ?_
      have hx := w_rid m h E (n := n) (J := J) hM hh hT hE5 k (p + 1) la true bs (some (.int (I (m + 8) p))) z6 (by omega) (by omega)
      rw [← hs] at hx
      exact hx
    cases ap with
    | true =>
      cases c5 : wdl (I (m + 8) p)
      · skip
        have hs : wrT (I (m + 8)) (k + 1) p la true = [] ++ I (m + 8) p :: wrT (I (m + 8)) k (p + 1) (I (m + 8) p) false := by show (if I (m + 8) p = nI 32 ∨ I (m + 8) p = nI 10 then _ else (if ((true || (isL (I (m + 8) p) != isL la)) && (wdl (I (m + 8) p) && wdl la)) = true then [nI 32] else []) ++ I (m + 8) p :: wrT (I (m + 8)) k (p + 1) (I (m + 8) p) false) = _; rw [if_neg (fun z => z.elim c1 c2), if_neg (by rw [c5]; simp)]
        have hl9 := hl
        rw [hs] at hl9
        simp only [List.length_append, List.length_cons, List.length_singleton, List.length_nil] at hl9
        refine r_iload dX10_writesRiddle_13 rfl ?_
        refine r_aload_n dX10_writesRiddle_15 rfl ?_
        refine r_getR dX10_writesRiddle_16 fl_X10_41 rfl hM.1 (pM_13 hM) ?_
        refine r_iload_n dX10_writesRiddle_19 rfl ?_
        refine r_iald dX10_writesRiddle_20 (aM_13 hM) (nI_in8 8 (by omega) (by decide)) (nI_clamp (by omega)) ?_
        rw [pgR_n (by omega) (by omega), hT]
        refine r_icmp_ge (tgt := 118) dX10_writesRiddle_21 (by decide) (fun hz => absurd hz (show ¬ _ from (by rw [nI_leI (by omega) (by omega)]; omega))) (fun _ => ?_)
        refine r_aload_n dX10_writesRiddle_24 rfl ?_
        refine r_getR dX10_writesRiddle_25 fl_X10_35 rfl hM.1 (pM_11 hM) ?_
        refine r_iload dX10_writesRiddle_28 rfl ?_
        refine r_iald dX10_writesRiddle_30 (aM_11 hM) (nI_in8 500 (by omega) (by decide)) (nI_clamp (by omega)) ?_
        rw [pgR_n (by omega) (by omega)]
        refine r_istore dX10_writesRiddle_31 (by decide) ?_
        refine r_iload dX10_writesRiddle_33 rfl ?_
        refine r_bipush (v := nI 32) dX10_writesRiddle_35 (by decide) ?_
        refine r_icmp_eq (tgt := 47) dX10_writesRiddle_37 (by decide) (fun hz => absurd hz (show ¬ _ from c1)) (fun _ => ?_)
        refine r_iload dX10_writesRiddle_40 rfl ?_
        refine r_bipush (v := nI 10) dX10_writesRiddle_42 (by decide) ?_
        refine r_icmp_ne (tgt := 52) dX10_writesRiddle_44 (by decide) (fun _ => ?_) (fun hz => absurd hz (show ¬ _ from c2))
        refine r_iload_n dX10_writesRiddle_52 rfl ?_
        refine r_if_ne (tgt := 68) dX10_writesRiddle_53 (by decide) (fun _ => ?_) (fun hz => absurd hz (show ¬ _ from (by decide)))
        refine r_iconst (v := nI 1) dX10_writesRiddle_68 (by decide) ?_
        refine r_goto (tgt := 73) dX10_writesRiddle_69 (by decide) ?_
        refine r_istore dX10_writesRiddle_73 (by decide) ?_
        refine r_iload dX10_writesRiddle_75 rfl ?_
        refine r_if_eq (tgt := 101) dX10_writesRiddle_77 (by decide) (fun hz => absurd hz (show ¬ _ from (by decide))) (fun _ => ?_)
        refine r_iload dX10_writesRiddle_80 rfl ?_
        refine r_statE (c_X10_isWritten (I (m + 8) p)) lk_X10_511 mc_X10_isWritten dX10_writesRiddle_82 (by decide) rfl rfl (Nat.le_of_ble_eq_true rfl) ?_
        rw [c5]
        refine r_if_eq (tgt := 101) dX10_writesRiddle_85 (by decide) (fun _ => ?_) (fun hz => absurd (show _ from rfl) hz)
        refine r_aload_n dX10_writesRiddle_101 rfl ?_
        refine r_iload dX10_writesRiddle_102 rfl ?_
        refine r_virtV (c_rw m bs (I (m + 8) p) hM (by omega)) lk_X10_508 mc_X10_writes dX10_writesRiddle_104 hM.1 (by decide) rfl rfl (Nat.le_of_ble_eq_true rfl) ?_
        refine r_iload dX10_writesRiddle_107 rfl ?_
        refine r_istore_n dX10_writesRiddle_109 (by decide) ?_
        refine r_iconst (v := nI 0) dX10_writesRiddle_110 (by decide) ?_
        refine r_istore_n dX10_writesRiddle_111 (by decide) ?_
        refine r_iinc (v := nI (p + 1)) dX10_writesRiddle_112 rfl (nI_inc p) ?_
        refine r_goto (tgt := 13) dX10_writesRiddle_115 (by decide) ?_
        have hx := w_rid m h E (n := n) (J := J) hM hh hT hE5 k (p + 1) (I (m + 8) p) false (bs ++ [(I (m + 8) p)]) (some (.int (I (m + 8) p))) (some (.int (nI 1))) (by omega) (by simp only [List.length_append, List.length_singleton]; omega)
        rw [hs]
        simp only [List.append_assoc, List.singleton_append, List.nil_append] at hx ⊢
        exact hx
      · cases c6 : wdl la
        · skip
          have hs : wrT (I (m + 8)) (k + 1) p la true = [] ++ I (m + 8) p :: wrT (I (m + 8)) k (p + 1) (I (m + 8) p) false := by show (if I (m + 8) p = nI 32 ∨ I (m + 8) p = nI 10 then _ else (if ((true || (isL (I (m + 8) p) != isL la)) && (wdl (I (m + 8) p) && wdl la)) = true then [nI 32] else []) ++ I (m + 8) p :: wrT (I (m + 8)) k (p + 1) (I (m + 8) p) false) = _; rw [if_neg (fun z => z.elim c1 c2), if_neg (by rw [c5, c6]; simp)]
          have hl9 := hl
          rw [hs] at hl9
          simp only [List.length_append, List.length_cons, List.length_singleton, List.length_nil] at hl9
          refine r_iload dX10_writesRiddle_13 rfl ?_
          refine r_aload_n dX10_writesRiddle_15 rfl ?_
          refine r_getR dX10_writesRiddle_16 fl_X10_41 rfl hM.1 (pM_13 hM) ?_
          refine r_iload_n dX10_writesRiddle_19 rfl ?_
          refine r_iald dX10_writesRiddle_20 (aM_13 hM) (nI_in8 8 (by omega) (by decide)) (nI_clamp (by omega)) ?_
          rw [pgR_n (by omega) (by omega), hT]
          refine r_icmp_ge (tgt := 118) dX10_writesRiddle_21 (by decide) (fun hz => absurd hz (show ¬ _ from (by rw [nI_leI (by omega) (by omega)]; omega))) (fun _ => ?_)
          refine r_aload_n dX10_writesRiddle_24 rfl ?_
          refine r_getR dX10_writesRiddle_25 fl_X10_35 rfl hM.1 (pM_11 hM) ?_
          refine r_iload dX10_writesRiddle_28 rfl ?_
          refine r_iald dX10_writesRiddle_30 (aM_11 hM) (nI_in8 500 (by omega) (by decide)) (nI_clamp (by omega)) ?_
          rw [pgR_n (by omega) (by omega)]
          refine r_istore dX10_writesRiddle_31 (by decide) ?_
          refine r_iload dX10_writesRiddle_33 rfl ?_
          refine r_bipush (v := nI 32) dX10_writesRiddle_35 (by decide) ?_
          refine r_icmp_eq (tgt := 47) dX10_writesRiddle_37 (by decide) (fun hz => absurd hz (show ¬ _ from c1)) (fun _ => ?_)
          refine r_iload dX10_writesRiddle_40 rfl ?_
          refine r_bipush (v := nI 10) dX10_writesRiddle_42 (by decide) ?_
          refine r_icmp_ne (tgt := 52) dX10_writesRiddle_44 (by decide) (fun _ => ?_) (fun hz => absurd hz (show ¬ _ from c2))
          refine r_iload_n dX10_writesRiddle_52 rfl ?_
          refine r_if_ne (tgt := 68) dX10_writesRiddle_53 (by decide) (fun _ => ?_) (fun hz => absurd hz (show ¬ _ from (by decide)))
          refine r_iconst (v := nI 1) dX10_writesRiddle_68 (by decide) ?_
          refine r_goto (tgt := 73) dX10_writesRiddle_69 (by decide) ?_
          refine r_istore dX10_writesRiddle_73 (by decide) ?_
          refine r_iload dX10_writesRiddle_75 rfl ?_
          refine r_if_eq (tgt := 101) dX10_writesRiddle_77 (by decide) (fun hz => absurd hz (show ¬ _ from (by decide))) (fun _ => ?_)
          refine r_iload dX10_writesRiddle_80 rfl ?_
          refine r_statE (c_X10_isWritten (I (m + 8) p)) lk_X10_511 mc_X10_isWritten dX10_writesRiddle_82 (by decide) rfl rfl (Nat.le_of_ble_eq_true rfl) ?_
          rw [c5]
          refine r_if_eq (tgt := 101) dX10_writesRiddle_85 (by decide) (fun hz => absurd hz (show ¬ _ from (by decide))) (fun _ => ?_)
          refine r_iload_n dX10_writesRiddle_88 rfl ?_
          refine r_statE (c_X10_isWritten la) lk_X10_511 mc_X10_isWritten dX10_writesRiddle_89 (by decide) rfl rfl (Nat.le_of_ble_eq_true rfl) ?_
          rw [c6]
          refine r_if_eq (tgt := 101) dX10_writesRiddle_92 (by decide) (fun _ => ?_) (fun hz => absurd (show _ from rfl) hz)
          refine r_aload_n dX10_writesRiddle_101 rfl ?_
          refine r_iload dX10_writesRiddle_102 rfl ?_
          refine r_virtV (c_rw m bs (I (m + 8) p) hM (by omega)) lk_X10_508 mc_X10_writes dX10_writesRiddle_104 hM.1 (by decide) rfl rfl (Nat.le_of_ble_eq_true rfl) ?_
          refine r_iload dX10_writesRiddle_107 rfl ?_
          refine r_istore_n dX10_writesRiddle_109 (by decide) ?_
          refine r_iconst (v := nI 0) dX10_writesRiddle_110 (by decide) ?_
          refine r_istore_n dX10_writesRiddle_111 (by decide) ?_
          refine r_iinc (v := nI (p + 1)) dX10_writesRiddle_112 rfl (nI_inc p) ?_
          refine r_goto (tgt := 13) dX10_writesRiddle_115 (by decide) ?_
          have hx := w_rid m h E (n := n) (J := J) hM hh hT hE5 k (p + 1) (I (m + 8) p) false (bs ++ [(I (m + 8) p)]) (some (.int (I (m + 8) p))) (some (.int (nI 1))) (by omega) (by simp only [List.length_append, List.length_singleton]; omega)
          rw [hs]
          simp only [List.append_assoc, List.singleton_append, List.nil_append] at hx ⊢
          exact hx
        · skip
          have hs : wrT (I (m + 8)) (k + 1) p la true = [nI 32] ++ I (m + 8) p :: wrT (I (m + 8)) k (p + 1) (I (m + 8) p) false := by show (if I (m + 8) p = nI 32 ∨ I (m + 8) p = nI 10 then _ else (if ((true || (isL (I (m + 8) p) != isL la)) && (wdl (I (m + 8) p) && wdl la)) = true then [nI 32] else []) ++ I (m + 8) p :: wrT (I (m + 8)) k (p + 1) (I (m + 8) p) false) = _; rw [if_neg (fun z => z.elim c1 c2), if_pos (by rw [c5, c6]; simp)]
          have hl9 := hl
          rw [hs] at hl9
          simp only [List.length_append, List.length_cons, List.length_singleton, List.length_nil] at hl9
          refine r_iload dX10_writesRiddle_13 rfl ?_
          refine r_aload_n dX10_writesRiddle_15 rfl ?_
          refine r_getR dX10_writesRiddle_16 fl_X10_41 rfl hM.1 (pM_13 hM) ?_
          refine r_iload_n dX10_writesRiddle_19 rfl ?_
          refine r_iald dX10_writesRiddle_20 (aM_13 hM) (nI_in8 8 (by omega) (by decide)) (nI_clamp (by omega)) ?_
          rw [pgR_n (by omega) (by omega), hT]
          refine r_icmp_ge (tgt := 118) dX10_writesRiddle_21 (by decide) (fun hz => absurd hz (show ¬ _ from (by rw [nI_leI (by omega) (by omega)]; omega))) (fun _ => ?_)
          refine r_aload_n dX10_writesRiddle_24 rfl ?_
          refine r_getR dX10_writesRiddle_25 fl_X10_35 rfl hM.1 (pM_11 hM) ?_
          refine r_iload dX10_writesRiddle_28 rfl ?_
          refine r_iald dX10_writesRiddle_30 (aM_11 hM) (nI_in8 500 (by omega) (by decide)) (nI_clamp (by omega)) ?_
          rw [pgR_n (by omega) (by omega)]
          refine r_istore dX10_writesRiddle_31 (by decide) ?_
          refine r_iload dX10_writesRiddle_33 rfl ?_
          refine r_bipush (v := nI 32) dX10_writesRiddle_35 (by decide) ?_
          refine r_icmp_eq (tgt := 47) dX10_writesRiddle_37 (by decide) (fun hz => absurd hz (show ¬ _ from c1)) (fun _ => ?_)
          refine r_iload dX10_writesRiddle_40 rfl ?_
          refine r_bipush (v := nI 10) dX10_writesRiddle_42 (by decide) ?_
          refine r_icmp_ne (tgt := 52) dX10_writesRiddle_44 (by decide) (fun _ => ?_) (fun hz => absurd hz (show ¬ _ from c2))
          refine r_iload_n dX10_writesRiddle_52 rfl ?_
          refine r_if_ne (tgt := 68) dX10_writesRiddle_53 (by decide) (fun _ => ?_) (fun hz => absurd hz (show ¬ _ from (by decide)))
          refine r_iconst (v := nI 1) dX10_writesRiddle_68 (by decide) ?_
          refine r_goto (tgt := 73) dX10_writesRiddle_69 (by decide) ?_
          refine r_istore dX10_writesRiddle_73 (by decide) ?_
          refine r_iload dX10_writesRiddle_75 rfl ?_
          refine r_if_eq (tgt := 101) dX10_writesRiddle_77 (by decide) (fun hz => absurd hz (show ¬ _ from (by decide))) (fun _ => ?_)
          refine r_iload dX10_writesRiddle_80 rfl ?_
          refine r_statE (c_X10_isWritten (I (m + 8) p)) lk_X10_511 mc_X10_isWritten dX10_writesRiddle_82 (by decide) rfl rfl (Nat.le_of_ble_eq_true rfl) ?_
          rw [c5]
          refine r_if_eq (tgt := 101) dX10_writesRiddle_85 (by decide) (fun hz => absurd hz (show ¬ _ from (by decide))) (fun _ => ?_)
          refine r_iload_n dX10_writesRiddle_88 rfl ?_
          refine r_statE (c_X10_isWritten la) lk_X10_511 mc_X10_isWritten dX10_writesRiddle_89 (by decide) rfl rfl (Nat.le_of_ble_eq_true rfl) ?_
          rw [c6]
          refine r_if_eq (tgt := 101) dX10_writesRiddle_92 (by decide) (fun hz => absurd hz (show ¬ _ from (by decide))) (fun _ => ?_)
          refine r_aload_n dX10_writesRiddle_95 rfl ?_
          refine r_bipush (v := nI 32) dX10_writesRiddle_96 (by decide) ?_
          refine r_virtV (c_rw m bs (nI 32) hM (by omega)) lk_X10_508 mc_X10_writes dX10_writesRiddle_98 hM.1 (by decide) rfl rfl (Nat.le_of_ble_eq_true rfl) ?_
          refine r_aload_n dX10_writesRiddle_101 rfl ?_
          refine r_iload dX10_writesRiddle_102 rfl ?_
          refine r_virtV (c_rw m (bs ++ [nI 32]) (I (m + 8) p) hM (by rw [List.length_append, List.length_singleton]; omega)) lk_X10_508 mc_X10_writes dX10_writesRiddle_104 hM.1 (by decide) rfl rfl (Nat.le_of_ble_eq_true rfl) ?_
          refine r_iload dX10_writesRiddle_107 rfl ?_
          refine r_istore_n dX10_writesRiddle_109 (by decide) ?_
          refine r_iconst (v := nI 0) dX10_writesRiddle_110 (by decide) ?_
          refine r_istore_n dX10_writesRiddle_111 (by decide) ?_
          refine r_iinc (v := nI (p + 1)) dX10_writesRiddle_112 rfl (nI_inc p) ?_
          refine r_goto (tgt := 13) dX10_writesRiddle_115 (by decide) ?_
          have hx := w_rid m h E (n := n) (J := J) hM hh hT hE5 k (p + 1) (I (m + 8) p) false ((bs ++ [nI 32]) ++ [(I (m + 8) p)]) (some (.int (I (m + 8) p))) (some (.int (nI 1))) (by omega) (by simp only [List.length_append, List.length_singleton]; omega)
          rw [hs]
          simp only [List.append_assoc, List.singleton_append, List.nil_append] at hx ⊢
          exact hx
    | false =>
      by_cases c4 : isL (I (m + 8) p) = isL la
      · have c9 : (isL (I (m + 8) p) != isL la) = false := by rw [c4]; cases isL la <;> rfl
        have hs : wrT (I (m + 8)) (k + 1) p la false = [] ++ I (m + 8) p :: wrT (I (m + 8)) k (p + 1) (I (m + 8) p) false := by show (if I (m + 8) p = nI 32 ∨ I (m + 8) p = nI 10 then _ else (if ((false || (isL (I (m + 8) p) != isL la)) && (wdl (I (m + 8) p) && wdl la)) = true then [nI 32] else []) ++ I (m + 8) p :: wrT (I (m + 8)) k (p + 1) (I (m + 8) p) false) = _; rw [if_neg (fun z => z.elim c1 c2), if_neg (by rw [c9]; simp)]
        have hl9 := hl
        rw [hs] at hl9
        simp only [List.length_append, List.length_cons, List.length_singleton, List.length_nil] at hl9
        refine r_iload dX10_writesRiddle_13 rfl ?_
        refine r_aload_n dX10_writesRiddle_15 rfl ?_
        refine r_getR dX10_writesRiddle_16 fl_X10_41 rfl hM.1 (pM_13 hM) ?_
        refine r_iload_n dX10_writesRiddle_19 rfl ?_
        refine r_iald dX10_writesRiddle_20 (aM_13 hM) (nI_in8 8 (by omega) (by decide)) (nI_clamp (by omega)) ?_
        rw [pgR_n (by omega) (by omega), hT]
        refine r_icmp_ge (tgt := 118) dX10_writesRiddle_21 (by decide) (fun hz => absurd hz (show ¬ _ from (by rw [nI_leI (by omega) (by omega)]; omega))) (fun _ => ?_)
        refine r_aload_n dX10_writesRiddle_24 rfl ?_
        refine r_getR dX10_writesRiddle_25 fl_X10_35 rfl hM.1 (pM_11 hM) ?_
        refine r_iload dX10_writesRiddle_28 rfl ?_
        refine r_iald dX10_writesRiddle_30 (aM_11 hM) (nI_in8 500 (by omega) (by decide)) (nI_clamp (by omega)) ?_
        rw [pgR_n (by omega) (by omega)]
        refine r_istore dX10_writesRiddle_31 (by decide) ?_
        refine r_iload dX10_writesRiddle_33 rfl ?_
        refine r_bipush (v := nI 32) dX10_writesRiddle_35 (by decide) ?_
        refine r_icmp_eq (tgt := 47) dX10_writesRiddle_37 (by decide) (fun hz => absurd hz (show ¬ _ from c1)) (fun _ => ?_)
        refine r_iload dX10_writesRiddle_40 rfl ?_
        refine r_bipush (v := nI 10) dX10_writesRiddle_42 (by decide) ?_
        refine r_icmp_ne (tgt := 52) dX10_writesRiddle_44 (by decide) (fun _ => ?_) (fun hz => absurd hz (show ¬ _ from c2))
        refine r_iload_n dX10_writesRiddle_52 rfl ?_
        refine r_if_ne (tgt := 68) dX10_writesRiddle_53 (by decide) (fun hz => absurd (show _ from rfl) hz) (fun _ => ?_)
        refine r_iload dX10_writesRiddle_56 rfl ?_
        refine r_statE (c_X10_isLetter (I (m + 8) p)) lk_X10_229 mc_X10_isLetter dX10_writesRiddle_58 (by decide) rfl rfl (Nat.le_of_ble_eq_true rfl) ?_
        refine r_iload_n dX10_writesRiddle_61 rfl ?_
        refine r_statE (c_X10_isLetter la) lk_X10_229 mc_X10_isLetter dX10_writesRiddle_62 (by decide) rfl rfl (Nat.le_of_ble_eq_true rfl) ?_
        refine r_icmp_eq (tgt := 72) dX10_writesRiddle_65 (by decide) (fun _ => ?_) (fun hz => absurd (show _ from (by rw [c4])) hz)
        refine r_iconst (v := nI 0) dX10_writesRiddle_72 (by decide) ?_
        refine r_istore dX10_writesRiddle_73 (by decide) ?_
        refine r_iload dX10_writesRiddle_75 rfl ?_
        refine r_if_eq (tgt := 101) dX10_writesRiddle_77 (by decide) (fun _ => ?_) (fun hz => absurd (show _ from rfl) hz)
        refine r_aload_n dX10_writesRiddle_101 rfl ?_
        refine r_iload dX10_writesRiddle_102 rfl ?_
        refine r_virtV (c_rw m bs (I (m + 8) p) hM (by omega)) lk_X10_508 mc_X10_writes dX10_writesRiddle_104 hM.1 (by decide) rfl rfl (Nat.le_of_ble_eq_true rfl) ?_
        refine r_iload dX10_writesRiddle_107 rfl ?_
        refine r_istore_n dX10_writesRiddle_109 (by decide) ?_
        refine r_iconst (v := nI 0) dX10_writesRiddle_110 (by decide) ?_
        refine r_istore_n dX10_writesRiddle_111 (by decide) ?_
        refine r_iinc (v := nI (p + 1)) dX10_writesRiddle_112 rfl (nI_inc p) ?_
        refine r_goto (tgt := 13) dX10_writesRiddle_115 (by decide) ?_
        have hx := w_rid m h E (n := n) (J := J) hM hh hT hE5 k (p + 1) (I (m + 8) p) false (bs ++ [(I (m + 8) p)]) (some (.int (I (m + 8) p))) (some (.int (nI 0))) (by omega) (by simp only [List.length_append, List.length_singleton]; omega)
        rw [hs]
        simp only [List.append_assoc, List.singleton_append, List.nil_append] at hx ⊢
        exact hx
      · have c9 : (isL (I (m + 8) p) != isL la) = true := by cases h1 : isL (I (m + 8) p) <;> cases h2 : isL la <;> simp_all
        cases c5 : wdl (I (m + 8) p)
        · skip
          have hs : wrT (I (m + 8)) (k + 1) p la false = [] ++ I (m + 8) p :: wrT (I (m + 8)) k (p + 1) (I (m + 8) p) false := by show (if I (m + 8) p = nI 32 ∨ I (m + 8) p = nI 10 then _ else (if ((false || (isL (I (m + 8) p) != isL la)) && (wdl (I (m + 8) p) && wdl la)) = true then [nI 32] else []) ++ I (m + 8) p :: wrT (I (m + 8)) k (p + 1) (I (m + 8) p) false) = _; rw [if_neg (fun z => z.elim c1 c2), if_neg (by rw [c9, c5]; simp)]
          have hl9 := hl
          rw [hs] at hl9
          simp only [List.length_append, List.length_cons, List.length_singleton, List.length_nil] at hl9
          refine r_iload dX10_writesRiddle_13 rfl ?_
          refine r_aload_n dX10_writesRiddle_15 rfl ?_
          refine r_getR dX10_writesRiddle_16 fl_X10_41 rfl hM.1 (pM_13 hM) ?_
          refine r_iload_n dX10_writesRiddle_19 rfl ?_
          refine r_iald dX10_writesRiddle_20 (aM_13 hM) (nI_in8 8 (by omega) (by decide)) (nI_clamp (by omega)) ?_
          rw [pgR_n (by omega) (by omega), hT]
          refine r_icmp_ge (tgt := 118) dX10_writesRiddle_21 (by decide) (fun hz => absurd hz (show ¬ _ from (by rw [nI_leI (by omega) (by omega)]; omega))) (fun _ => ?_)
          refine r_aload_n dX10_writesRiddle_24 rfl ?_
          refine r_getR dX10_writesRiddle_25 fl_X10_35 rfl hM.1 (pM_11 hM) ?_
          refine r_iload dX10_writesRiddle_28 rfl ?_
          refine r_iald dX10_writesRiddle_30 (aM_11 hM) (nI_in8 500 (by omega) (by decide)) (nI_clamp (by omega)) ?_
          rw [pgR_n (by omega) (by omega)]
          refine r_istore dX10_writesRiddle_31 (by decide) ?_
          refine r_iload dX10_writesRiddle_33 rfl ?_
          refine r_bipush (v := nI 32) dX10_writesRiddle_35 (by decide) ?_
          refine r_icmp_eq (tgt := 47) dX10_writesRiddle_37 (by decide) (fun hz => absurd hz (show ¬ _ from c1)) (fun _ => ?_)
          refine r_iload dX10_writesRiddle_40 rfl ?_
          refine r_bipush (v := nI 10) dX10_writesRiddle_42 (by decide) ?_
          refine r_icmp_ne (tgt := 52) dX10_writesRiddle_44 (by decide) (fun _ => ?_) (fun hz => absurd hz (show ¬ _ from c2))
          refine r_iload_n dX10_writesRiddle_52 rfl ?_
          refine r_if_ne (tgt := 68) dX10_writesRiddle_53 (by decide) (fun hz => absurd (show _ from rfl) hz) (fun _ => ?_)
          refine r_iload dX10_writesRiddle_56 rfl ?_
          refine r_statE (c_X10_isLetter (I (m + 8) p)) lk_X10_229 mc_X10_isLetter dX10_writesRiddle_58 (by decide) rfl rfl (Nat.le_of_ble_eq_true rfl) ?_
          refine r_iload_n dX10_writesRiddle_61 rfl ?_
          refine r_statE (c_X10_isLetter la) lk_X10_229 mc_X10_isLetter dX10_writesRiddle_62 (by decide) rfl rfl (Nat.le_of_ble_eq_true rfl) ?_
          refine r_icmp_eq (tgt := 72) dX10_writesRiddle_65 (by decide) (fun hz => absurd hz (show ¬ _ from (fun z => c4 (bz_inj z)))) (fun _ => ?_)
          refine r_iconst (v := nI 1) dX10_writesRiddle_68 (by decide) ?_
          refine r_goto (tgt := 73) dX10_writesRiddle_69 (by decide) ?_
          refine r_istore dX10_writesRiddle_73 (by decide) ?_
          refine r_iload dX10_writesRiddle_75 rfl ?_
          refine r_if_eq (tgt := 101) dX10_writesRiddle_77 (by decide) (fun hz => absurd hz (show ¬ _ from (by decide))) (fun _ => ?_)
          refine r_iload dX10_writesRiddle_80 rfl ?_
          refine r_statE (c_X10_isWritten (I (m + 8) p)) lk_X10_511 mc_X10_isWritten dX10_writesRiddle_82 (by decide) rfl rfl (Nat.le_of_ble_eq_true rfl) ?_
          rw [c5]
          refine r_if_eq (tgt := 101) dX10_writesRiddle_85 (by decide) (fun _ => ?_) (fun hz => absurd (show _ from rfl) hz)
          refine r_aload_n dX10_writesRiddle_101 rfl ?_
          refine r_iload dX10_writesRiddle_102 rfl ?_
          refine r_virtV (c_rw m bs (I (m + 8) p) hM (by omega)) lk_X10_508 mc_X10_writes dX10_writesRiddle_104 hM.1 (by decide) rfl rfl (Nat.le_of_ble_eq_true rfl) ?_
          refine r_iload dX10_writesRiddle_107 rfl ?_
          refine r_istore_n dX10_writesRiddle_109 (by decide) ?_
          refine r_iconst (v := nI 0) dX10_writesRiddle_110 (by decide) ?_
          refine r_istore_n dX10_writesRiddle_111 (by decide) ?_
          refine r_iinc (v := nI (p + 1)) dX10_writesRiddle_112 rfl (nI_inc p) ?_
          refine r_goto (tgt := 13) dX10_writesRiddle_115 (by decide) ?_
          have hx := w_rid m h E (n := n) (J := J) hM hh hT hE5 k (p + 1) (I (m + 8) p) false (bs ++ [(I (m + 8) p)]) (some (.int (I (m + 8) p))) (some (.int (nI 1))) (by omega) (by simp only [List.length_append, List.length_singleton]; omega)
          rw [hs]
          simp only [List.append_assoc, List.singleton_append, List.nil_append] at hx ⊢
          exact hx
        · cases c6 : wdl la
          · skip
            have hs : wrT (I (m + 8)) (k + 1) p la false = [] ++ I (m + 8) p :: wrT (I (m + 8)) k (p + 1) (I (m + 8) p) false := by show (if I (m + 8) p = nI 32 ∨ I (m + 8) p = nI 10 then _ else (if ((false || (isL (I (m + 8) p) != isL la)) && (wdl (I (m + 8) p) && wdl la)) = true then [nI 32] else []) ++ I (m + 8) p :: wrT (I (m + 8)) k (p + 1) (I (m + 8) p) false) = _; rw [if_neg (fun z => z.elim c1 c2), if_neg (by rw [c9, c5, c6]; simp)]
            have hl9 := hl
            rw [hs] at hl9
            simp only [List.length_append, List.length_cons, List.length_singleton, List.length_nil] at hl9
            refine r_iload dX10_writesRiddle_13 rfl ?_
            refine r_aload_n dX10_writesRiddle_15 rfl ?_
            refine r_getR dX10_writesRiddle_16 fl_X10_41 rfl hM.1 (pM_13 hM) ?_
            refine r_iload_n dX10_writesRiddle_19 rfl ?_
            refine r_iald dX10_writesRiddle_20 (aM_13 hM) (nI_in8 8 (by omega) (by decide)) (nI_clamp (by omega)) ?_
            rw [pgR_n (by omega) (by omega), hT]
            refine r_icmp_ge (tgt := 118) dX10_writesRiddle_21 (by decide) (fun hz => absurd hz (show ¬ _ from (by rw [nI_leI (by omega) (by omega)]; omega))) (fun _ => ?_)
            refine r_aload_n dX10_writesRiddle_24 rfl ?_
            refine r_getR dX10_writesRiddle_25 fl_X10_35 rfl hM.1 (pM_11 hM) ?_
            refine r_iload dX10_writesRiddle_28 rfl ?_
            refine r_iald dX10_writesRiddle_30 (aM_11 hM) (nI_in8 500 (by omega) (by decide)) (nI_clamp (by omega)) ?_
            rw [pgR_n (by omega) (by omega)]
            refine r_istore dX10_writesRiddle_31 (by decide) ?_
            refine r_iload dX10_writesRiddle_33 rfl ?_
            refine r_bipush (v := nI 32) dX10_writesRiddle_35 (by decide) ?_
            refine r_icmp_eq (tgt := 47) dX10_writesRiddle_37 (by decide) (fun hz => absurd hz (show ¬ _ from c1)) (fun _ => ?_)
            refine r_iload dX10_writesRiddle_40 rfl ?_
            refine r_bipush (v := nI 10) dX10_writesRiddle_42 (by decide) ?_
            refine r_icmp_ne (tgt := 52) dX10_writesRiddle_44 (by decide) (fun _ => ?_) (fun hz => absurd hz (show ¬ _ from c2))
            refine r_iload_n dX10_writesRiddle_52 rfl ?_
            refine r_if_ne (tgt := 68) dX10_writesRiddle_53 (by decide) (fun hz => absurd (show _ from rfl) hz) (fun _ => ?_)
            refine r_iload dX10_writesRiddle_56 rfl ?_
            refine r_statE (c_X10_isLetter (I (m + 8) p)) lk_X10_229 mc_X10_isLetter dX10_writesRiddle_58 (by decide) rfl rfl (Nat.le_of_ble_eq_true rfl) ?_
            refine r_iload_n dX10_writesRiddle_61 rfl ?_
            refine r_statE (c_X10_isLetter la) lk_X10_229 mc_X10_isLetter dX10_writesRiddle_62 (by decide) rfl rfl (Nat.le_of_ble_eq_true rfl) ?_
            refine r_icmp_eq (tgt := 72) dX10_writesRiddle_65 (by decide) (fun hz => absurd hz (show ¬ _ from (fun z => c4 (bz_inj z)))) (fun _ => ?_)
            refine r_iconst (v := nI 1) dX10_writesRiddle_68 (by decide) ?_
            refine r_goto (tgt := 73) dX10_writesRiddle_69 (by decide) ?_
            refine r_istore dX10_writesRiddle_73 (by decide) ?_
            refine r_iload dX10_writesRiddle_75 rfl ?_
            refine r_if_eq (tgt := 101) dX10_writesRiddle_77 (by decide) (fun hz => absurd hz (show ¬ _ from (by decide))) (fun _ => ?_)
            refine r_iload dX10_writesRiddle_80 rfl ?_
            refine r_statE (c_X10_isWritten (I (m + 8) p)) lk_X10_511 mc_X10_isWritten dX10_writesRiddle_82 (by decide) rfl rfl (Nat.le_of_ble_eq_true rfl) ?_
            rw [c5]
            refine r_if_eq (tgt := 101) dX10_writesRiddle_85 (by decide) (fun hz => absurd hz (show ¬ _ from (by decide))) (fun _ => ?_)
            refine r_iload_n dX10_writesRiddle_88 rfl ?_
            refine r_statE (c_X10_isWritten la) lk_X10_511 mc_X10_isWritten dX10_writesRiddle_89 (by decide) rfl rfl (Nat.le_of_ble_eq_true rfl) ?_
            rw [c6]
            refine r_if_eq (tgt := 101) dX10_writesRiddle_92 (by decide) (fun _ => ?_) (fun hz => absurd (show _ from rfl) hz)
            refine r_aload_n dX10_writesRiddle_101 rfl ?_
            refine r_iload dX10_writesRiddle_102 rfl ?_
            refine r_virtV (c_rw m bs (I (m + 8) p) hM (by omega)) lk_X10_508 mc_X10_writes dX10_writesRiddle_104 hM.1 (by decide) rfl rfl (Nat.le_of_ble_eq_true rfl) ?_
            refine r_iload dX10_writesRiddle_107 rfl ?_
            refine r_istore_n dX10_writesRiddle_109 (by decide) ?_
            refine r_iconst (v := nI 0) dX10_writesRiddle_110 (by decide) ?_
            refine r_istore_n dX10_writesRiddle_111 (by decide) ?_
            refine r_iinc (v := nI (p + 1)) dX10_writesRiddle_112 rfl (nI_inc p) ?_
            refine r_goto (tgt := 13) dX10_writesRiddle_115 (by decide) ?_
            have hx := w_rid m h E (n := n) (J := J) hM hh hT hE5 k (p + 1) (I (m + 8) p) false (bs ++ [(I (m + 8) p)]) (some (.int (I (m + 8) p))) (some (.int (nI 1))) (by omega) (by simp only [List.length_append, List.length_singleton]; omega)
            rw [hs]
            simp only [List.append_assoc, List.singleton_append, List.nil_append] at hx ⊢
            exact hx
          · skip
            have hs : wrT (I (m + 8)) (k + 1) p la false = [nI 32] ++ I (m + 8) p :: wrT (I (m + 8)) k (p + 1) (I (m + 8) p) false := by show (if I (m + 8) p = nI 32 ∨ I (m + 8) p = nI 10 then _ else (if ((false || (isL (I (m + 8) p) != isL la)) && (wdl (I (m + 8) p) && wdl la)) = true then [nI 32] else []) ++ I (m + 8) p :: wrT (I (m + 8)) k (p + 1) (I (m + 8) p) false) = _; rw [if_neg (fun z => z.elim c1 c2), if_pos (by rw [c9, c5, c6]; simp)]
            have hl9 := hl
            rw [hs] at hl9
            simp only [List.length_append, List.length_cons, List.length_singleton, List.length_nil] at hl9
            refine r_iload dX10_writesRiddle_13 rfl ?_
            refine r_aload_n dX10_writesRiddle_15 rfl ?_
            refine r_getR dX10_writesRiddle_16 fl_X10_41 rfl hM.1 (pM_13 hM) ?_
            refine r_iload_n dX10_writesRiddle_19 rfl ?_
            refine r_iald dX10_writesRiddle_20 (aM_13 hM) (nI_in8 8 (by omega) (by decide)) (nI_clamp (by omega)) ?_
            rw [pgR_n (by omega) (by omega), hT]
            refine r_icmp_ge (tgt := 118) dX10_writesRiddle_21 (by decide) (fun hz => absurd hz (show ¬ _ from (by rw [nI_leI (by omega) (by omega)]; omega))) (fun _ => ?_)
            refine r_aload_n dX10_writesRiddle_24 rfl ?_
            refine r_getR dX10_writesRiddle_25 fl_X10_35 rfl hM.1 (pM_11 hM) ?_
            refine r_iload dX10_writesRiddle_28 rfl ?_
            refine r_iald dX10_writesRiddle_30 (aM_11 hM) (nI_in8 500 (by omega) (by decide)) (nI_clamp (by omega)) ?_
            rw [pgR_n (by omega) (by omega)]
            refine r_istore dX10_writesRiddle_31 (by decide) ?_
            refine r_iload dX10_writesRiddle_33 rfl ?_
            refine r_bipush (v := nI 32) dX10_writesRiddle_35 (by decide) ?_
            refine r_icmp_eq (tgt := 47) dX10_writesRiddle_37 (by decide) (fun hz => absurd hz (show ¬ _ from c1)) (fun _ => ?_)
            refine r_iload dX10_writesRiddle_40 rfl ?_
            refine r_bipush (v := nI 10) dX10_writesRiddle_42 (by decide) ?_
            refine r_icmp_ne (tgt := 52) dX10_writesRiddle_44 (by decide) (fun _ => ?_) (fun hz => absurd hz (show ¬ _ from c2))
            refine r_iload_n dX10_writesRiddle_52 rfl ?_
            refine r_if_ne (tgt := 68) dX10_writesRiddle_53 (by decide) (fun hz => absurd (show _ from rfl) hz) (fun _ => ?_)
            refine r_iload dX10_writesRiddle_56 rfl ?_
            refine r_statE (c_X10_isLetter (I (m + 8) p)) lk_X10_229 mc_X10_isLetter dX10_writesRiddle_58 (by decide) rfl rfl (Nat.le_of_ble_eq_true rfl) ?_
            refine r_iload_n dX10_writesRiddle_61 rfl ?_
            refine r_statE (c_X10_isLetter la) lk_X10_229 mc_X10_isLetter dX10_writesRiddle_62 (by decide) rfl rfl (Nat.le_of_ble_eq_true rfl) ?_
            refine r_icmp_eq (tgt := 72) dX10_writesRiddle_65 (by decide) (fun hz => absurd hz (show ¬ _ from (fun z => c4 (bz_inj z)))) (fun _ => ?_)
            refine r_iconst (v := nI 1) dX10_writesRiddle_68 (by decide) ?_
            refine r_goto (tgt := 73) dX10_writesRiddle_69 (by decide) ?_
            refine r_istore dX10_writesRiddle_73 (by decide) ?_
            refine r_iload dX10_writesRiddle_75 rfl ?_
            refine r_if_eq (tgt := 101) dX10_writesRiddle_77 (by decide) (fun hz => absurd hz (show ¬ _ from (by decide))) (fun _ => ?_)
            refine r_iload dX10_writesRiddle_80 rfl ?_
            refine r_statE (c_X10_isWritten (I (m + 8) p)) lk_X10_511 mc_X10_isWritten dX10_writesRiddle_82 (by decide) rfl rfl (Nat.le_of_ble_eq_true rfl) ?_
            rw [c5]
            refine r_if_eq (tgt := 101) dX10_writesRiddle_85 (by decide) (fun hz => absurd hz (show ¬ _ from (by decide))) (fun _ => ?_)
            refine r_iload_n dX10_writesRiddle_88 rfl ?_
            refine r_statE (c_X10_isWritten la) lk_X10_511 mc_X10_isWritten dX10_writesRiddle_89 (by decide) rfl rfl (Nat.le_of_ble_eq_true rfl) ?_
            rw [c6]
            refine r_if_eq (tgt := 101) dX10_writesRiddle_92 (by decide) (fun hz => absurd hz (show ¬ _ from (by decide))) (fun _ => ?_)
            refine r_aload_n dX10_writesRiddle_95 rfl ?_
            refine r_bipush (v := nI 32) dX10_writesRiddle_96 (by decide) ?_
            refine r_virtV (c_rw m bs (nI 32) hM (by omega)) lk_X10_508 mc_X10_writes dX10_writesRiddle_98 hM.1 (by decide) rfl rfl (Nat.le_of_ble_eq_true rfl) ?_
            refine r_aload_n dX10_writesRiddle_101 rfl ?_
            refine r_iload dX10_writesRiddle_102 rfl ?_
            refine r_virtV (c_rw m (bs ++ [nI 32]) (I (m + 8) p) hM (by rw [List.length_append, List.length_singleton]; omega)) lk_X10_508 mc_X10_writes dX10_writesRiddle_104 hM.1 (by decide) rfl rfl (Nat.le_of_ble_eq_true rfl) ?_
            refine r_iload dX10_writesRiddle_107 rfl ?_
            refine r_istore_n dX10_writesRiddle_109 (by decide) ?_
            refine r_iconst (v := nI 0) dX10_writesRiddle_110 (by decide) ?_
            refine r_istore_n dX10_writesRiddle_111 (by decide) ?_
            refine r_iinc (v := nI (p + 1)) dX10_writesRiddle_112 rfl (nI_inc p) ?_
            refine r_goto (tgt := 13) dX10_writesRiddle_115 (by decide) ?_
            have hx := w_rid m h E (n := n) (J := J) hM hh hT hE5 k (p + 1) (I (m + 8) p) false ((bs ++ [nI 32]) ++ [(I (m + 8) p)]) (some (.int (I (m + 8) p))) (some (.int (nI 1))) (by omega) (by simp only [List.length_append, List.length_singleton]; omega)
            rw [hs]
            simp only [List.append_assoc, List.singleton_append, List.nil_append] at hx ⊢
            exact hx

set_option maxHeartbeats 4000000 in
set_option maxRecDepth 100000 in
theorem c_X10_writesRiddle (m h p q : Nat) (bs : List Int32) {n : Nat} {kd : mK} {I : mI} {J : mJ} {P : mP} (hM : kM kd P m) (hh : h < 8) (hF : I (m + 9) h = nI p) (hT : I (m + 10) h = nI (p + q)) (hE5 : p + q ≤ 500) (hl : bs.length + (wrT (I (m + 8)) q p (nI 32) false).length ≤ 1100) : Ct yX10_writesRiddle cX10_writesRiddle 7 none 4 0 0 [.ref m, .int (nI h)] n kd (pgR m (bs) I) J P (am_is none n kd (pgR m (bs ++ wrT (I (m + 8)) q p (nI 32) false) I) J P) := by
  refine ct_of 5 (by decide +kernel) (Nat.le_of_ble_eq_true rfl) rfl ?_
  refine r_bipush (v := nI 32) dX10_writesRiddle_0 (by decide) ?_
  refine r_istore_n dX10_writesRiddle_2 (by decide) ?_
  refine r_iconst (v := nI 0) dX10_writesRiddle_3 (by decide) ?_
  refine r_istore_n dX10_writesRiddle_4 (by decide) ?_
  refine r_aload_n dX10_writesRiddle_5 rfl ?_
  refine r_getR dX10_writesRiddle_6 fl_X10_38 rfl hM.1 (pM_12 hM) ?_
  refine r_iload_n dX10_writesRiddle_9 rfl ?_
  refine r_iald dX10_writesRiddle_10 (aM_12 hM) (nI_in8 8 (by omega) (by decide)) (nI_clamp (by omega)) ?_
  rw [pgR_n (by omega) (by omega), hF]
  refine r_istore dX10_writesRiddle_11 (by decide) ?_
  exact w_rid m h (p + q) hM hh hT hE5 q p (nI 32) false bs _ _ rfl hl

