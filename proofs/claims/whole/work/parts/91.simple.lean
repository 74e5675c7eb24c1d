/-! SMALL PUBLIC METHODS: both sides -/
theorem dX9_count_0 : decode cX9_count 0 = .ok (.iload_n 1, 1) := by decide +kernel
theorem dX9_count_1 : decode cX9_count 1 = .ok (.tableswitch 125 0 8 #[51, 59, 67, 83, 91, 99, 104, 111, 118], 51) := by decide +kernel
theorem dX9_count_52 : decode cX9_count 52 = .ok (.aload_n 0, 1) := by decide +kernel
theorem dX9_count_53 : decode cX9_count 53 = .ok (.getfield 27, 3) := by decide +kernel
theorem dX9_count_56 : decode cX9_count 56 = .ok (.getfield 124, 3) := by decide +kernel
theorem dX9_count_59 : decode cX9_count 59 = .ok (.ireturn, 1) := by decide +kernel
theorem dX9_count_60 : decode cX9_count 60 = .ok (.aload_n 0, 1) := by decide +kernel
theorem dX9_count_61 : decode cX9_count 61 = .ok (.getfield 27, 3) := by decide +kernel
theorem dX9_count_64 : decode cX9_count 64 = .ok (.getfield 127, 3) := by decide +kernel
theorem dX9_count_67 : decode cX9_count 67 = .ok (.ireturn, 1) := by decide +kernel
theorem dX9_count_68 : decode cX9_count 68 = .ok (.aload_n 0, 1) := by decide +kernel
theorem dX9_count_69 : decode cX9_count 69 = .ok (.getfield 27, 3) := by decide +kernel
theorem dX9_count_72 : decode cX9_count 72 = .ok (.getfield 130, 3) := by decide +kernel
theorem dX9_count_75 : decode cX9_count 75 = .ok (.ifCond .eq 7, 3) := by decide +kernel
theorem dX9_count_78 : decode cX9_count 78 = .ok (.iconst 1, 1) := by decide +kernel
theorem dX9_count_79 : decode cX9_count 79 = .ok (.goto 4, 3) := by decide +kernel
theorem dX9_count_82 : decode cX9_count 82 = .ok (.iconst 0, 1) := by decide +kernel
theorem dX9_count_83 : decode cX9_count 83 = .ok (.ireturn, 1) := by decide +kernel
theorem dX9_count_84 : decode cX9_count 84 = .ok (.aload_n 0, 1) := by decide +kernel
theorem dX9_count_85 : decode cX9_count 85 = .ok (.getfield 37, 3) := by decide +kernel
theorem dX9_count_88 : decode cX9_count 88 = .ok (.getfield 133, 3) := by decide +kernel
theorem dX9_count_91 : decode cX9_count 91 = .ok (.ireturn, 1) := by decide +kernel
theorem dX9_count_92 : decode cX9_count 92 = .ok (.aload_n 0, 1) := by decide +kernel
theorem dX9_count_93 : decode cX9_count 93 = .ok (.getfield 37, 3) := by decide +kernel
theorem dX9_count_96 : decode cX9_count 96 = .ok (.getfield 136, 3) := by decide +kernel
theorem dX9_count_99 : decode cX9_count 99 = .ok (.ireturn, 1) := by decide +kernel
theorem dX9_count_100 : decode cX9_count 100 = .ok (.aload_n 0, 1) := by decide +kernel
theorem dX9_count_101 : decode cX9_count 101 = .ok (.getfield 13, 3) := by decide +kernel
theorem dX9_count_104 : decode cX9_count 104 = .ok (.ireturn, 1) := by decide +kernel
theorem dX9_count_105 : decode cX9_count 105 = .ok (.aload_n 0, 1) := by decide +kernel
theorem dX9_count_106 : decode cX9_count 106 = .ok (.getfield 20, 3) := by decide +kernel
theorem dX9_count_109 : decode cX9_count 109 = .ok (.iconst 0, 1) := by decide +kernel
theorem dX9_count_110 : decode cX9_count 110 = .ok (.iaload, 1) := by decide +kernel
theorem dX9_count_111 : decode cX9_count 111 = .ok (.ireturn, 1) := by decide +kernel
theorem dX9_count_112 : decode cX9_count 112 = .ok (.aload_n 0, 1) := by decide +kernel
theorem dX9_count_113 : decode cX9_count 113 = .ok (.getfield 20, 3) := by decide +kernel
theorem dX9_count_116 : decode cX9_count 116 = .ok (.iconst 1, 1) := by decide +kernel
theorem dX9_count_117 : decode cX9_count 117 = .ok (.iaload, 1) := by decide +kernel
theorem dX9_count_118 : decode cX9_count 118 = .ok (.ireturn, 1) := by decide +kernel
theorem dX9_count_119 : decode cX9_count 119 = .ok (.aload_n 0, 1) := by decide +kernel
theorem dX9_count_120 : decode cX9_count 120 = .ok (.getfield 20, 3) := by decide +kernel
theorem dX9_count_123 : decode cX9_count 123 = .ok (.iconst 2, 1) := by decide +kernel
theorem dX9_count_124 : decode cX9_count 124 = .ok (.iaload, 1) := by decide +kernel
theorem dX9_count_125 : decode cX9_count 125 = .ok (.ireturn, 1) := by decide +kernel
theorem dX9_count_126 : decode cX9_count 126 = .ok (.new 139, 3) := by decide +kernel
theorem dX9_count_129 : decode cX9_count 129 = .ok (.dup, 1) := by decide +kernel
theorem dX9_count_130 : decode cX9_count 130 = .ok (.invokespecial 141, 3) := by decide +kernel
theorem dX9_count_133 : decode cX9_count 133 = .ok (.athrow, 1) := by decide +kernel

set_option maxHeartbeats 4000000 in
set_option maxRecDepth 100000 in
theorem c_count_0 (o b f : Nat) {n : Nat} {kd : mK} {I : mI} {J : mJ} {P : mP} (ho : kd o = some (0, 9)) (hb : kd b = some (0, 7)) (hf : kd f = some (0, 2)) (hr : kd (o + 2) = some (1, 3)) (p4 : P o 4 = some b) (p6 : P o 6 = some f) (p3 : P o 3 = some (o + 2)) : Ct yX9_count cX9_count 2 (some .int) 9 1 6 [.ref o, .int (nI 0)] n kd I J P (am_is (some (.int (I b 0))) n kd I J P) := by
  refine ct_of 0 (by decide +kernel) (Nat.le_of_ble_eq_true rfl) rfl ?_
  refine r_iload_n dX9_count_0 rfl ?_
  refine r_tabE (off := 51) (tgt := 52) rfl dX9_count_1 (by decide) (by decide) (by decide) (by decide) ?_
  refine r_aload_n dX9_count_52 rfl ?_
  refine r_getR dX9_count_53 fl_X9_27 rfl ho p4 ?_
  refine r_getI dX9_count_56 fl_X9_124 rfl hb ?_
  refine r_iret rfl dX9_count_59 ?_
  exact am_is.mk

set_option maxHeartbeats 4000000 in
set_option maxRecDepth 100000 in
theorem c_count_1 (o b f : Nat) {n : Nat} {kd : mK} {I : mI} {J : mJ} {P : mP} (ho : kd o = some (0, 9)) (hb : kd b = some (0, 7)) (hf : kd f = some (0, 2)) (hr : kd (o + 2) = some (1, 3)) (p4 : P o 4 = some b) (p6 : P o 6 = some f) (p3 : P o 3 = some (o + 2)) : Ct yX9_count cX9_count 2 (some .int) 9 1 6 [.ref o, .int (nI 1)] n kd I J P (am_is (some (.int (I b 1))) n kd I J P) := by
  refine ct_of 0 (by decide +kernel) (Nat.le_of_ble_eq_true rfl) rfl ?_
  refine r_iload_n dX9_count_0 rfl ?_
  refine r_tabE (off := 59) (tgt := 60) rfl dX9_count_1 (by decide) (by decide) (by decide) (by decide) ?_
  refine r_aload_n dX9_count_60 rfl ?_
  refine r_getR dX9_count_61 fl_X9_27 rfl ho p4 ?_
  refine r_getI dX9_count_64 fl_X9_127 rfl hb ?_
  refine r_iret rfl dX9_count_67 ?_
  exact am_is.mk

set_option maxHeartbeats 4000000 in
set_option maxRecDepth 100000 in
theorem c_count_2 (o b f : Nat) {n : Nat} {kd : mK} {I : mI} {J : mJ} {P : mP} (ho : kd o = some (0, 9)) (hb : kd b = some (0, 7)) (hf : kd f = some (0, 2)) (hr : kd (o + 2) = some (1, 3)) (p4 : P o 4 = some b) (p6 : P o 6 = some f) (p3 : P o 3 = some (o + 2)) : Ct yX9_count cX9_count 2 (some .int) 9 1 6 [.ref o, .int (nI 2)] n kd I J P (am_is (some (.int ((if I b 2 = 0 then nI 0 else nI 1)))) n kd I J P) := by
  refine ct_of 0 (by decide +kernel) (Nat.le_of_ble_eq_true rfl) rfl ?_
  by_cases c : I b 2 = 0
  · rw [if_pos c]
    refine r_iload_n dX9_count_0 rfl ?_
    refine r_tabE (off := 67) (tgt := 68) rfl dX9_count_1 (by decide) (by decide) (by decide) (by decide) ?_
    refine r_aload_n dX9_count_68 rfl ?_
    refine r_getR dX9_count_69 fl_X9_27 rfl ho p4 ?_
    refine r_getI dX9_count_72 fl_X9_130 rfl hb ?_
    refine r_if_eq (tgt := 82) dX9_count_75 (by decide) (fun _ => ?_) (fun hz => absurd (show _ from c) hz)
    refine r_iconst (v := nI 0) dX9_count_82 (by decide) ?_
    refine r_iret rfl dX9_count_83 ?_
    exact am_is.mk
  · rw [if_neg c]
    refine r_iload_n dX9_count_0 rfl ?_
    refine r_tabE (off := 67) (tgt := 68) rfl dX9_count_1 (by decide) (by decide) (by decide) (by decide) ?_
    refine r_aload_n dX9_count_68 rfl ?_
    refine r_getR dX9_count_69 fl_X9_27 rfl ho p4 ?_
    refine r_getI dX9_count_72 fl_X9_130 rfl hb ?_
    refine r_if_eq (tgt := 82) dX9_count_75 (by decide) (fun hz => absurd hz (show ¬ _ from c)) (fun _ => ?_)
    refine r_iconst (v := nI 1) dX9_count_78 (by decide) ?_
    refine r_goto (tgt := 83) dX9_count_79 (by decide) ?_
    refine r_iret rfl dX9_count_83 ?_
    exact am_is.mk

set_option maxHeartbeats 4000000 in
set_option maxRecDepth 100000 in
theorem c_count_3 (o b f : Nat) {n : Nat} {kd : mK} {I : mI} {J : mJ} {P : mP} (ho : kd o = some (0, 9)) (hb : kd b = some (0, 7)) (hf : kd f = some (0, 2)) (hr : kd (o + 2) = some (1, 3)) (p4 : P o 4 = some b) (p6 : P o 6 = some f) (p3 : P o 3 = some (o + 2)) : Ct yX9_count cX9_count 2 (some .int) 9 1 6 [.ref o, .int (nI 3)] n kd I J P (am_is (some (.int (I f 4))) n kd I J P) := by
  refine ct_of 0 (by decide +kernel) (Nat.le_of_ble_eq_true rfl) rfl ?_
  refine r_iload_n dX9_count_0 rfl ?_
  refine r_tabE (off := 83) (tgt := 84) rfl dX9_count_1 (by decide) (by decide) (by decide) (by decide) ?_
  refine r_aload_n dX9_count_84 rfl ?_
  refine r_getR dX9_count_85 fl_X9_37 rfl ho p6 ?_
  refine r_getI dX9_count_88 fl_X9_133 rfl hf ?_
  refine r_iret rfl dX9_count_91 ?_
  exact am_is.mk

set_option maxHeartbeats 4000000 in
set_option maxRecDepth 100000 in
theorem c_count_4 (o b f : Nat) {n : Nat} {kd : mK} {I : mI} {J : mJ} {P : mP} (ho : kd o = some (0, 9)) (hb : kd b = some (0, 7)) (hf : kd f = some (0, 2)) (hr : kd (o + 2) = some (1, 3)) (p4 : P o 4 = some b) (p6 : P o 6 = some f) (p3 : P o 3 = some (o + 2)) : Ct yX9_count cX9_count 2 (some .int) 9 1 6 [.ref o, .int (nI 4)] n kd I J P (am_is (some (.int (I f 7))) n kd I J P) := by
  refine ct_of 0 (by decide +kernel) (Nat.le_of_ble_eq_true rfl) rfl ?_
  refine r_iload_n dX9_count_0 rfl ?_
  refine r_tabE (off := 91) (tgt := 92) rfl dX9_count_1 (by decide) (by decide) (by decide) (by decide) ?_
  refine r_aload_n dX9_count_92 rfl ?_
  refine r_getR dX9_count_93 fl_X9_37 rfl ho p6 ?_
  refine r_getI dX9_count_96 fl_X9_136 rfl hf ?_
  refine r_iret rfl dX9_count_99 ?_
  exact am_is.mk

set_option maxHeartbeats 4000000 in
set_option maxRecDepth 100000 in
theorem c_count_5 (o b f : Nat) {n : Nat} {kd : mK} {I : mI} {J : mJ} {P : mP} (ho : kd o = some (0, 9)) (hb : kd b = some (0, 7)) (hf : kd f = some (0, 2)) (hr : kd (o + 2) = some (1, 3)) (p4 : P o 4 = some b) (p6 : P o 6 = some f) (p3 : P o 3 = some (o + 2)) : Ct yX9_count cX9_count 2 (some .int) 9 1 6 [.ref o, .int (nI 5)] n kd I J P (am_is (some (.int (I o 1))) n kd I J P) := by
  refine ct_of 0 (by decide +kernel) (Nat.le_of_ble_eq_true rfl) rfl ?_
  refine r_iload_n dX9_count_0 rfl ?_
  refine r_tabE (off := 99) (tgt := 100) rfl dX9_count_1 (by decide) (by decide) (by decide) (by decide) ?_
  refine r_aload_n dX9_count_100 rfl ?_
  refine r_getI dX9_count_101 fl_X9_13 rfl ho ?_
  refine r_iret rfl dX9_count_104 ?_
  exact am_is.mk

set_option maxHeartbeats 4000000 in
set_option maxRecDepth 100000 in
theorem c_count_6 (o b f : Nat) {n : Nat} {kd : mK} {I : mI} {J : mJ} {P : mP} (ho : kd o = some (0, 9)) (hb : kd b = some (0, 7)) (hf : kd f = some (0, 2)) (hr : kd (o + 2) = some (1, 3)) (p4 : P o 4 = some b) (p6 : P o 6 = some f) (p3 : P o 3 = some (o + 2)) : Ct yX9_count cX9_count 2 (some .int) 9 1 6 [.ref o, .int (nI 6)] n kd I J P (am_is (some (.int (I (o + 2) 0))) n kd I J P) := by
  refine ct_of 0 (by decide +kernel) (Nat.le_of_ble_eq_true rfl) rfl ?_
  refine r_iload_n dX9_count_0 rfl ?_
  refine r_tabE (off := 104) (tgt := 105) rfl dX9_count_1 (by decide) (by decide) (by decide) (by decide) ?_
  refine r_aload_n dX9_count_105 rfl ?_
  refine r_getR dX9_count_106 fl_X9_20 rfl ho p3 ?_
  refine r_iconst (v := nI 0) dX9_count_109 (by decide) ?_
  refine r_iald dX9_count_110 hr (nI_in8 3 (by decide) (by decide)) (nI_clamp (by decide)) ?_
  refine r_iret rfl dX9_count_111 ?_
  exact am_is.mk

set_option maxHeartbeats 4000000 in
set_option maxRecDepth 100000 in
theorem c_count_7 (o b f : Nat) {n : Nat} {kd : mK} {I : mI} {J : mJ} {P : mP} (ho : kd o = some (0, 9)) (hb : kd b = some (0, 7)) (hf : kd f = some (0, 2)) (hr : kd (o + 2) = some (1, 3)) (p4 : P o 4 = some b) (p6 : P o 6 = some f) (p3 : P o 3 = some (o + 2)) : Ct yX9_count cX9_count 2 (some .int) 9 1 6 [.ref o, .int (nI 7)] n kd I J P (am_is (some (.int (I (o + 2) 1))) n kd I J P) := by
  refine ct_of 0 (by decide +kernel) (Nat.le_of_ble_eq_true rfl) rfl ?_
  refine r_iload_n dX9_count_0 rfl ?_
  refine r_tabE (off := 111) (tgt := 112) rfl dX9_count_1 (by decide) (by decide) (by decide) (by decide) ?_
  refine r_aload_n dX9_count_112 rfl ?_
  refine r_getR dX9_count_113 fl_X9_20 rfl ho p3 ?_
  refine r_iconst (v := nI 1) dX9_count_116 (by decide) ?_
  refine r_iald dX9_count_117 hr (nI_in8 3 (by decide) (by decide)) (nI_clamp (by decide)) ?_
  refine r_iret rfl dX9_count_118 ?_
  exact am_is.mk

set_option maxHeartbeats 4000000 in
set_option maxRecDepth 100000 in
theorem c_count_8 (o b f : Nat) {n : Nat} {kd : mK} {I : mI} {J : mJ} {P : mP} (ho : kd o = some (0, 9)) (hb : kd b = some (0, 7)) (hf : kd f = some (0, 2)) (hr : kd (o + 2) = some (1, 3)) (p4 : P o 4 = some b) (p6 : P o 6 = some f) (p3 : P o 3 = some (o + 2)) : Ct yX9_count cX9_count 2 (some .int) 9 1 6 [.ref o, .int (nI 8)] n kd I J P (am_is (some (.int (I (o + 2) 2))) n kd I J P) := by
  refine ct_of 0 (by decide +kernel) (Nat.le_of_ble_eq_true rfl) rfl ?_
  refine r_iload_n dX9_count_0 rfl ?_
  refine r_tabE (off := 118) (tgt := 119) rfl dX9_count_1 (by decide) (by decide) (by decide) (by decide) ?_
  refine r_aload_n dX9_count_119 rfl ?_
  refine r_getR dX9_count_120 fl_X9_20 rfl ho p3 ?_
  refine r_iconst (v := nI 2) dX9_count_123 (by decide) ?_
  refine r_iald dX9_count_124 hr (nI_in8 3 (by decide) (by decide)) (nI_clamp (by decide)) ?_
  refine r_iret rfl dX9_count_125 ?_
  exact am_is.mk

set_option maxHeartbeats 4000000 in
set_option maxRecDepth 100000 in
theorem c_count_no (o : Nat) (x : Int32) {n : Nat} {kd : mK} {I : mI} {J : mJ} {P : mP} (hx : ¬ (0 ≤ x.toInt ∧ x.toInt ≤ 8)) : Ct yX9_count cX9_count 2 (some .int) 9 1 6 [.ref o, .int x] n kd I J P (fun z n' kd' I' J' P' => z = .inr "java/util/NoSuchElementException" ∧ n' = n ∧ kd' = kd ∧ I' = I ∧ J' = J ∧ P' = P) := by
  refine ct_of 0 (by decide +kernel) (Nat.le_of_ble_eq_true rfl) rfl ?_
  refine r_iload_n dX9_count_0 rfl ?_
  refine r_tabOut (tgt := 126) dX9_count_1 (by omega) (by decide) ?_
  refine r_throw (cls := "java/util/NoSuchElementException") (names := ["java/lang/RuntimeException", "java/lang/Exception"]) dX9_count_126 dX9_count_129 dX9_count_130 dX9_count_133 (by decide +kernel) (by decide +kernel) cl_X9_139 xi_NoSuchElementException xa_nse xb_nse (by decide) (Nat.le_of_ble_eq_true rfl) (by omega) (by omega) ?_
  exact ⟨rfl, rfl, rfl, rfl, rfl, rfl⟩

theorem dX10_count_0 : decode cX10_count 0 = .ok (.aload_n 0, 1) := by decide +kernel
theorem dX10_count_1 : decode cX10_count 1 = .ok (.iconst 0, 1) := by decide +kernel
theorem dX10_count_2 : decode cX10_count 2 = .ok (.putfield 193, 3) := by decide +kernel
theorem dX10_count_5 : decode cX10_count 5 = .ok (.aload_n 0, 1) := by decide +kernel
theorem dX10_count_6 : decode cX10_count 6 = .ok (.iload_n 1, 1) := by decide +kernel
theorem dX10_count_7 : decode cX10_count 7 = .ok (.iconst 0, 1) := by decide +kernel
theorem dX10_count_8 : decode cX10_count 8 = .ok (.bipush 8, 2) := by decide +kernel
theorem dX10_count_10 : decode cX10_count 10 = .ok (.invokestatic 369, 3) := by decide +kernel
theorem dX10_count_13 : decode cX10_count 13 = .ok (.iconst 1, 1) := by decide +kernel
theorem dX10_count_14 : decode cX10_count 14 = .ok (.invokevirtual 343, 3) := by decide +kernel
theorem dX10_count_17 : decode cX10_count 17 = .ok (.ifCond .ne 5, 3) := by decide +kernel
theorem dX10_count_20 : decode cX10_count 20 = .ok (.iconst 0, 1) := by decide +kernel
theorem dX10_count_21 : decode cX10_count 21 = .ok (.ireturn, 1) := by decide +kernel
theorem dX10_count_22 : decode cX10_count 22 = .ok (.iload_n 1, 1) := by decide +kernel
theorem dX10_count_23 : decode cX10_count 23 = .ok (.tableswitch 75 0 5 #[37, 42, 47, 60, 65, 70], 37) := by decide +kernel
theorem dX10_count_60 : decode cX10_count 60 = .ok (.aload_n 0, 1) := by decide +kernel
theorem dX10_count_61 : decode cX10_count 61 = .ok (.getfield 350, 3) := by decide +kernel
theorem dX10_count_64 : decode cX10_count 64 = .ok (.ireturn, 1) := by decide +kernel
theorem dX10_count_65 : decode cX10_count 65 = .ok (.aload_n 0, 1) := by decide +kernel
theorem dX10_count_66 : decode cX10_count 66 = .ok (.getfield 7, 3) := by decide +kernel
theorem dX10_count_69 : decode cX10_count 69 = .ok (.ireturn, 1) := by decide +kernel
theorem dX10_count_70 : decode cX10_count 70 = .ok (.aload_n 0, 1) := by decide +kernel
theorem dX10_count_71 : decode cX10_count 71 = .ok (.getfield 353, 3) := by decide +kernel
theorem dX10_count_74 : decode cX10_count 74 = .ok (.ifCond .eq 7, 3) := by decide +kernel
theorem dX10_count_77 : decode cX10_count 77 = .ok (.iconst 1, 1) := by decide +kernel
theorem dX10_count_78 : decode cX10_count 78 = .ok (.goto 4, 3) := by decide +kernel
theorem dX10_count_81 : decode cX10_count 81 = .ok (.iconst 0, 1) := by decide +kernel
theorem dX10_count_82 : decode cX10_count 82 = .ok (.ireturn, 1) := by decide +kernel
theorem dX10_count_83 : decode cX10_count 83 = .ok (.aload_n 0, 1) := by decide +kernel
theorem dX10_count_84 : decode cX10_count 84 = .ok (.getfield 360, 3) := by decide +kernel
theorem dX10_count_87 : decode cX10_count 87 = .ok (.ireturn, 1) := by decide +kernel
theorem dX10_count_88 : decode cX10_count 88 = .ok (.aload_n 0, 1) := by decide +kernel
theorem dX10_count_89 : decode cX10_count 89 = .ok (.getfield 363, 3) := by decide +kernel
theorem dX10_count_92 : decode cX10_count 92 = .ok (.ireturn, 1) := by decide +kernel
theorem dX10_count_93 : decode cX10_count 93 = .ok (.aload_n 0, 1) := by decide +kernel
theorem dX10_count_94 : decode cX10_count 94 = .ok (.getfield 196, 3) := by decide +kernel
theorem dX10_count_97 : decode cX10_count 97 = .ok (.ireturn, 1) := by decide +kernel
theorem dX10_count_98 : decode cX10_count 98 = .ok (.aload_n 0, 1) := by decide +kernel
theorem dX10_count_99 : decode cX10_count 99 = .ok (.getfield 50, 3) := by decide +kernel
theorem dX10_count_102 : decode cX10_count 102 = .ok (.iload_n 1, 1) := by decide +kernel
theorem dX10_count_103 : decode cX10_count 103 = .ok (.bipush 6, 2) := by decide +kernel
theorem dX10_count_105 : decode cX10_count 105 = .ok (.isub, 1) := by decide +kernel
theorem dX10_count_106 : decode cX10_count 106 = .ok (.iaload, 1) := by decide +kernel
theorem dX10_count_107 : decode cX10_count 107 = .ok (.ireturn, 1) := by decide +kernel

set_option maxHeartbeats 4000000 in
set_option maxRecDepth 100000 in
theorem c_countR_0 (m : Nat) {n : Nat} {kd : mK} {I : mI} {J : mJ} {P : mP} (hM : kM kd P m) : Ct yX10_count cX10_count 2 (some .int) 3 0 0 [.ref m, .int (nI 0)] n kd I J P (am_is (some (.int (I m 1))) n kd (va_up I m (va_up (I m) 0 (nI 0))) J P) := by
  have hin : (!decide (nI 0 < nI 0) && !decide (nI 8 < nI 0)) = true := by decide
  refine ct_of 0 (by decide +kernel) (Nat.le_of_ble_eq_true rfl) rfl ?_
  refine r_aload_n dX10_count_0 rfl ?_
  refine r_iconst (v := nI 0) dX10_count_1 (by decide) ?_
  refine r_putI dX10_count_2 fl_X10_193 rfl rfl (kM_0 hM) ?_
  refine r_aload_n dX10_count_5 rfl ?_
  refine r_iload_n dX10_count_6 rfl ?_
  refine r_iconst (v := nI 0) dX10_count_7 (by decide) ?_
  refine r_bipush (v := nI 8) dX10_count_8 (by decide) ?_
  refine r_statE (c_X10_within (nI 0) (nI 0) (nI 8)) lk_X10_369 mc_X10_within dX10_count_10 (by decide) rfl rfl (Nat.le_of_ble_eq_true rfl) ?_
  rw [show (!decide (nI 0 < nI 0) && !decide (nI 8 < nI 0)) = true from hin]
  refine r_iconst (v := nI 1) dX10_count_13 (by decide) ?_
  refine r_virtE (c_X10_right m true (nI 1) hM (by rw [am_up_s, am_up_s]; rfl) (by decide)) lk_X10_343 mc_X10_right dX10_count_14 (kM_0 hM) (by decide) rfl rfl (Nat.le_of_ble_eq_true rfl) ?_
  rw [thM_ok]
  refine r_if_ne (tgt := 22) dX10_count_17 (by decide) (fun _ => ?_) (fun hz => absurd hz (show ¬ _ from by decide))
  refine r_iload_n dX10_count_22 rfl ?_
  refine r_tabE (off := 37) (tgt := 60) rfl dX10_count_23 (by decide) (by decide) (by decide) (by decide) ?_
  refine r_aload_n dX10_count_60 rfl ?_
  refine r_getI dX10_count_61 fl_X10_350 rfl (kM_0 hM) ?_
  rw [am_up_s, am_up_n _ _ (by decide)]
  refine r_iret rfl dX10_count_64 ?_
  exact am_is.mk

set_option maxHeartbeats 4000000 in
set_option maxRecDepth 100000 in
theorem c_countR_1 (m : Nat) {n : Nat} {kd : mK} {I : mI} {J : mJ} {P : mP} (hM : kM kd P m) : Ct yX10_count cX10_count 2 (some .int) 3 0 0 [.ref m, .int (nI 1)] n kd I J P (am_is (some (.int (I m 2))) n kd (va_up I m (va_up (I m) 0 (nI 0))) J P) := by
  have hin : (!decide (nI 1 < nI 0) && !decide (nI 8 < nI 1)) = true := by decide
  refine ct_of 0 (by decide +kernel) (Nat.le_of_ble_eq_true rfl) rfl ?_
  refine r_aload_n dX10_count_0 rfl ?_
  refine r_iconst (v := nI 0) dX10_count_1 (by decide) ?_
  refine r_putI dX10_count_2 fl_X10_193 rfl rfl (kM_0 hM) ?_
  refine r_aload_n dX10_count_5 rfl ?_
  refine r_iload_n dX10_count_6 rfl ?_
  refine r_iconst (v := nI 0) dX10_count_7 (by decide) ?_
  refine r_bipush (v := nI 8) dX10_count_8 (by decide) ?_
  refine r_statE (c_X10_within (nI 1) (nI 0) (nI 8)) lk_X10_369 mc_X10_within dX10_count_10 (by decide) rfl rfl (Nat.le_of_ble_eq_true rfl) ?_
  rw [show (!decide (nI 1 < nI 0) && !decide (nI 8 < nI 1)) = true from hin]
  refine r_iconst (v := nI 1) dX10_count_13 (by decide) ?_
  refine r_virtE (c_X10_right m true (nI 1) hM (by rw [am_up_s, am_up_s]; rfl) (by decide)) lk_X10_343 mc_X10_right dX10_count_14 (kM_0 hM) (by decide) rfl rfl (Nat.le_of_ble_eq_true rfl) ?_
  rw [thM_ok]
  refine r_if_ne (tgt := 22) dX10_count_17 (by decide) (fun _ => ?_) (fun hz => absurd hz (show ¬ _ from by decide))
  refine r_iload_n dX10_count_22 rfl ?_
  refine r_tabE (off := 42) (tgt := 65) rfl dX10_count_23 (by decide) (by decide) (by decide) (by decide) ?_
  refine r_aload_n dX10_count_65 rfl ?_
  refine r_getI dX10_count_66 fl_X10_7 rfl (kM_0 hM) ?_
  rw [am_up_s, am_up_n _ _ (by decide)]
  refine r_iret rfl dX10_count_69 ?_
  exact am_is.mk

set_option maxHeartbeats 4000000 in
set_option maxRecDepth 100000 in
theorem c_countR_2 (m : Nat) {n : Nat} {kd : mK} {I : mI} {J : mJ} {P : mP} (hM : kM kd P m) : Ct yX10_count cX10_count 2 (some .int) 3 0 0 [.ref m, .int (nI 2)] n kd I J P (am_is (some (.int ((if I m 3 = 0 then nI 0 else nI 1)))) n kd (va_up I m (va_up (I m) 0 (nI 0))) J P) := by
  have hin : (!decide (nI 2 < nI 0) && !decide (nI 8 < nI 2)) = true := by decide
  refine ct_of 0 (by decide +kernel) (Nat.le_of_ble_eq_true rfl) rfl ?_
  by_cases c : I m 3 = 0
  · rw [if_pos c]
    refine r_aload_n dX10_count_0 rfl ?_
    refine r_iconst (v := nI 0) dX10_count_1 (by decide) ?_
    refine r_putI dX10_count_2 fl_X10_193 rfl rfl (kM_0 hM) ?_
    refine r_aload_n dX10_count_5 rfl ?_
    refine r_iload_n dX10_count_6 rfl ?_
    refine r_iconst (v := nI 0) dX10_count_7 (by decide) ?_
    refine r_bipush (v := nI 8) dX10_count_8 (by decide) ?_
    refine r_statE (c_X10_within (nI 2) (nI 0) (nI 8)) lk_X10_369 mc_X10_within dX10_count_10 (by decide) rfl rfl (Nat.le_of_ble_eq_true rfl) ?_
    rw [show (!decide (nI 2 < nI 0) && !decide (nI 8 < nI 2)) = true from hin]
    refine r_iconst (v := nI 1) dX10_count_13 (by decide) ?_
    refine r_virtE (c_X10_right m true (nI 1) hM (by rw [am_up_s, am_up_s]; rfl) (by decide)) lk_X10_343 mc_X10_right dX10_count_14 (kM_0 hM) (by decide) rfl rfl (Nat.le_of_ble_eq_true rfl) ?_
    rw [thM_ok]
    refine r_if_ne (tgt := 22) dX10_count_17 (by decide) (fun _ => ?_) (fun hz => absurd hz (show ¬ _ from by decide))
    refine r_iload_n dX10_count_22 rfl ?_
    refine r_tabE (off := 47) (tgt := 70) rfl dX10_count_23 (by decide) (by decide) (by decide) (by decide) ?_
    refine r_aload_n dX10_count_70 rfl ?_
    refine r_getI dX10_count_71 fl_X10_353 rfl (kM_0 hM) ?_
    rw [am_up_s, am_up_n _ _ (by decide)]
    refine r_if_eq (tgt := 81) dX10_count_74 (by decide) (fun _ => ?_) (fun hz => absurd (show _ from c) hz)
    refine r_iconst (v := nI 0) dX10_count_81 (by decide) ?_
    refine r_iret rfl dX10_count_82 ?_
    exact am_is.mk
  · rw [if_neg c]
    refine r_aload_n dX10_count_0 rfl ?_
    refine r_iconst (v := nI 0) dX10_count_1 (by decide) ?_
    refine r_putI dX10_count_2 fl_X10_193 rfl rfl (kM_0 hM) ?_
    refine r_aload_n dX10_count_5 rfl ?_
    refine r_iload_n dX10_count_6 rfl ?_
    refine r_iconst (v := nI 0) dX10_count_7 (by decide) ?_
    refine r_bipush (v := nI 8) dX10_count_8 (by decide) ?_
    refine r_statE (c_X10_within (nI 2) (nI 0) (nI 8)) lk_X10_369 mc_X10_within dX10_count_10 (by decide) rfl rfl (Nat.le_of_ble_eq_true rfl) ?_
    rw [show (!decide (nI 2 < nI 0) && !decide (nI 8 < nI 2)) = true from hin]
    refine r_iconst (v := nI 1) dX10_count_13 (by decide) ?_
    refine r_virtE (c_X10_right m true (nI 1) hM (by rw [am_up_s, am_up_s]; rfl) (by decide)) lk_X10_343 mc_X10_right dX10_count_14 (kM_0 hM) (by decide) rfl rfl (Nat.le_of_ble_eq_true rfl) ?_
    rw [thM_ok]
    refine r_if_ne (tgt := 22) dX10_count_17 (by decide) (fun _ => ?_) (fun hz => absurd hz (show ¬ _ from by decide))
    refine r_iload_n dX10_count_22 rfl ?_
    refine r_tabE (off := 47) (tgt := 70) rfl dX10_count_23 (by decide) (by decide) (by decide) (by decide) ?_
    refine r_aload_n dX10_count_70 rfl ?_
    refine r_getI dX10_count_71 fl_X10_353 rfl (kM_0 hM) ?_
    rw [am_up_s, am_up_n _ _ (by decide)]
    refine r_if_eq (tgt := 81) dX10_count_74 (by decide) (fun hz => absurd hz (show ¬ _ from c)) (fun _ => ?_)
    refine r_iconst (v := nI 1) dX10_count_77 (by decide) ?_
    refine r_goto (tgt := 82) dX10_count_78 (by decide) ?_
    refine r_iret rfl dX10_count_82 ?_
    exact am_is.mk

set_option maxHeartbeats 4000000 in
set_option maxRecDepth 100000 in
theorem c_countR_3 (m : Nat) {n : Nat} {kd : mK} {I : mI} {J : mJ} {P : mP} (hM : kM kd P m) : Ct yX10_count cX10_count 2 (some .int) 3 0 0 [.ref m, .int (nI 3)] n kd I J P (am_is (some (.int (I m 45))) n kd (va_up I m (va_up (I m) 0 (nI 0))) J P) := by
  have hin : (!decide (nI 3 < nI 0) && !decide (nI 8 < nI 3)) = true := by decide
  refine ct_of 0 (by decide +kernel) (Nat.le_of_ble_eq_true rfl) rfl ?_
  refine r_aload_n dX10_count_0 rfl ?_
  refine r_iconst (v := nI 0) dX10_count_1 (by decide) ?_
  refine r_putI dX10_count_2 fl_X10_193 rfl rfl (kM_0 hM) ?_
  refine r_aload_n dX10_count_5 rfl ?_
  refine r_iload_n dX10_count_6 rfl ?_
  refine r_iconst (v := nI 0) dX10_count_7 (by decide) ?_
  refine r_bipush (v := nI 8) dX10_count_8 (by decide) ?_
  refine r_statE (c_X10_within (nI 3) (nI 0) (nI 8)) lk_X10_369 mc_X10_within dX10_count_10 (by decide) rfl rfl (Nat.le_of_ble_eq_true rfl) ?_
  rw [show (!decide (nI 3 < nI 0) && !decide (nI 8 < nI 3)) = true from hin]
  refine r_iconst (v := nI 1) dX10_count_13 (by decide) ?_
  refine r_virtE (c_X10_right m true (nI 1) hM (by rw [am_up_s, am_up_s]; rfl) (by decide)) lk_X10_343 mc_X10_right dX10_count_14 (kM_0 hM) (by decide) rfl rfl (Nat.le_of_ble_eq_true rfl) ?_
  rw [thM_ok]
  refine r_if_ne (tgt := 22) dX10_count_17 (by decide) (fun _ => ?_) (fun hz => absurd hz (show ¬ _ from by decide))
  refine r_iload_n dX10_count_22 rfl ?_
  refine r_tabE (off := 60) (tgt := 83) rfl dX10_count_23 (by decide) (by decide) (by decide) (by decide) ?_
  refine r_aload_n dX10_count_83 rfl ?_
  refine r_getI dX10_count_84 fl_X10_360 rfl (kM_0 hM) ?_
  rw [am_up_s, am_up_n _ _ (by decide)]
  refine r_iret rfl dX10_count_87 ?_
  exact am_is.mk

set_option maxHeartbeats 4000000 in
set_option maxRecDepth 100000 in
theorem c_countR_4 (m : Nat) {n : Nat} {kd : mK} {I : mI} {J : mJ} {P : mP} (hM : kM kd P m) : Ct yX10_count cX10_count 2 (some .int) 3 0 0 [.ref m, .int (nI 4)] n kd I J P (am_is (some (.int (I m 47))) n kd (va_up I m (va_up (I m) 0 (nI 0))) J P) := by
  have hin : (!decide (nI 4 < nI 0) && !decide (nI 8 < nI 4)) = true := by decide
  refine ct_of 0 (by decide +kernel) (Nat.le_of_ble_eq_true rfl) rfl ?_
  refine r_aload_n dX10_count_0 rfl ?_
  refine r_iconst (v := nI 0) dX10_count_1 (by decide) ?_
  refine r_putI dX10_count_2 fl_X10_193 rfl rfl (kM_0 hM) ?_
  refine r_aload_n dX10_count_5 rfl ?_
  refine r_iload_n dX10_count_6 rfl ?_
  refine r_iconst (v := nI 0) dX10_count_7 (by decide) ?_
  refine r_bipush (v := nI 8) dX10_count_8 (by decide) ?_
  refine r_statE (c_X10_within (nI 4) (nI 0) (nI 8)) lk_X10_369 mc_X10_within dX10_count_10 (by decide) rfl rfl (Nat.le_of_ble_eq_true rfl) ?_
  rw [show (!decide (nI 4 < nI 0) && !decide (nI 8 < nI 4)) = true from hin]
  refine r_iconst (v := nI 1) dX10_count_13 (by decide) ?_
  refine r_virtE (c_X10_right m true (nI 1) hM (by rw [am_up_s, am_up_s]; rfl) (by decide)) lk_X10_343 mc_X10_right dX10_count_14 (kM_0 hM) (by decide) rfl rfl (Nat.le_of_ble_eq_true rfl) ?_
  rw [thM_ok]
  refine r_if_ne (tgt := 22) dX10_count_17 (by decide) (fun _ => ?_) (fun hz => absurd hz (show ¬ _ from by decide))
  refine r_iload_n dX10_count_22 rfl ?_
  refine r_tabE (off := 65) (tgt := 88) rfl dX10_count_23 (by decide) (by decide) (by decide) (by decide) ?_
  refine r_aload_n dX10_count_88 rfl ?_
  refine r_getI dX10_count_89 fl_X10_363 rfl (kM_0 hM) ?_
  rw [am_up_s, am_up_n _ _ (by decide)]
  refine r_iret rfl dX10_count_92 ?_
  exact am_is.mk

set_option maxHeartbeats 4000000 in
set_option maxRecDepth 100000 in
theorem c_countR_5 (m : Nat) {n : Nat} {kd : mK} {I : mI} {J : mJ} {P : mP} (hM : kM kd P m) : Ct yX10_count cX10_count 2 (some .int) 3 0 0 [.ref m, .int (nI 5)] n kd I J P (am_is (some (.int (I m 15))) n kd (va_up I m (va_up (I m) 0 (nI 0))) J P) := by
  have hin : (!decide (nI 5 < nI 0) && !decide (nI 8 < nI 5)) = true := by decide
  refine ct_of 0 (by decide +kernel) (Nat.le_of_ble_eq_true rfl) rfl ?_
  refine r_aload_n dX10_count_0 rfl ?_
  refine r_iconst (v := nI 0) dX10_count_1 (by decide) ?_
  refine r_putI dX10_count_2 fl_X10_193 rfl rfl (kM_0 hM) ?_
  refine r_aload_n dX10_count_5 rfl ?_
  refine r_iload_n dX10_count_6 rfl ?_
  refine r_iconst (v := nI 0) dX10_count_7 (by decide) ?_
  refine r_bipush (v := nI 8) dX10_count_8 (by decide) ?_
  refine r_statE (c_X10_within (nI 5) (nI 0) (nI 8)) lk_X10_369 mc_X10_within dX10_count_10 (by decide) rfl rfl (Nat.le_of_ble_eq_true rfl) ?_
  rw [show (!decide (nI 5 < nI 0) && !decide (nI 8 < nI 5)) = true from hin]
  refine r_iconst (v := nI 1) dX10_count_13 (by decide) ?_
  refine r_virtE (c_X10_right m true (nI 1) hM (by rw [am_up_s, am_up_s]; rfl) (by decide)) lk_X10_343 mc_X10_right dX10_count_14 (kM_0 hM) (by decide) rfl rfl (Nat.le_of_ble_eq_true rfl) ?_
  rw [thM_ok]
  refine r_if_ne (tgt := 22) dX10_count_17 (by decide) (fun _ => ?_) (fun hz => absurd hz (show ¬ _ from by decide))
  refine r_iload_n dX10_count_22 rfl ?_
  refine r_tabE (off := 70) (tgt := 93) rfl dX10_count_23 (by decide) (by decide) (by decide) (by decide) ?_
  refine r_aload_n dX10_count_93 rfl ?_
  refine r_getI dX10_count_94 fl_X10_196 rfl (kM_0 hM) ?_
  rw [am_up_s, am_up_n _ _ (by decide)]
  refine r_iret rfl dX10_count_97 ?_
  exact am_is.mk

set_option maxHeartbeats 4000000 in
set_option maxRecDepth 100000 in
theorem c_countR_6 (m : Nat) {n : Nat} {kd : mK} {I : mI} {J : mJ} {P : mP} (hM : kM kd P m) : Ct yX10_count cX10_count 2 (some .int) 3 0 0 [.ref m, .int (nI 6)] n kd I J P (am_is (some (.int (I (m + 12) 0))) n kd (va_up I m (va_up (I m) 0 (nI 0))) J P) := by
  have hin : (!decide (nI 6 < nI 0) && !decide (nI 8 < nI 6)) = true := by decide
  refine ct_of 0 (by decide +kernel) (Nat.le_of_ble_eq_true rfl) rfl ?_
  refine r_aload_n dX10_count_0 rfl ?_
  refine r_iconst (v := nI 0) dX10_count_1 (by decide) ?_
  refine r_putI dX10_count_2 fl_X10_193 rfl rfl (kM_0 hM) ?_
  refine r_aload_n dX10_count_5 rfl ?_
  refine r_iload_n dX10_count_6 rfl ?_
  refine r_iconst (v := nI 0) dX10_count_7 (by decide) ?_
  refine r_bipush (v := nI 8) dX10_count_8 (by decide) ?_
  refine r_statE (c_X10_within (nI 6) (nI 0) (nI 8)) lk_X10_369 mc_X10_within dX10_count_10 (by decide) rfl rfl (Nat.le_of_ble_eq_true rfl) ?_
  rw [show (!decide (nI 6 < nI 0) && !decide (nI 8 < nI 6)) = true from hin]
  refine r_iconst (v := nI 1) dX10_count_13 (by decide) ?_
  refine r_virtE (c_X10_right m true (nI 1) hM (by rw [am_up_s, am_up_s]; rfl) (by decide)) lk_X10_343 mc_X10_right dX10_count_14 (kM_0 hM) (by decide) rfl rfl (Nat.le_of_ble_eq_true rfl) ?_
  rw [thM_ok]
  refine r_if_ne (tgt := 22) dX10_count_17 (by decide) (fun _ => ?_) (fun hz => absurd hz (show ¬ _ from by decide))
  refine r_iload_n dX10_count_22 rfl ?_
  refine r_tabOut (tgt := 98) dX10_count_23 (by decide) (by decide) ?_
  refine r_aload_n dX10_count_98 rfl ?_
  refine r_getR dX10_count_99 fl_X10_50 rfl (kM_0 hM) (pM_18 hM) ?_
  refine r_iload_n dX10_count_102 rfl ?_
  refine r_bipush (v := nI 6) dX10_count_103 (by decide) ?_
  refine r_isub dX10_count_105 ?_
  rw [pk_sub (by decide)]
  refine r_iald dX10_count_106 (aM_18 hM) (nI_in8 3 (by decide) (by decide)) (show _ = 0 from nI_clamp (by decide)) ?_
  rw [am_up_n _ _ (show m + 12 ≠ m by omega)]
  refine r_iret rfl dX10_count_107 ?_
  exact am_is.mk

set_option maxHeartbeats 4000000 in
set_option maxRecDepth 100000 in
theorem c_countR_7 (m : Nat) {n : Nat} {kd : mK} {I : mI} {J : mJ} {P : mP} (hM : kM kd P m) : Ct yX10_count cX10_count 2 (some .int) 3 0 0 [.ref m, .int (nI 7)] n kd I J P (am_is (some (.int (I (m + 12) 1))) n kd (va_up I m (va_up (I m) 0 (nI 0))) J P) := by
  have hin : (!decide (nI 7 < nI 0) && !decide (nI 8 < nI 7)) = true := by decide
  refine ct_of 0 (by decide +kernel) (Nat.le_of_ble_eq_true rfl) rfl ?_
  refine r_aload_n dX10_count_0 rfl ?_
  refine r_iconst (v := nI 0) dX10_count_1 (by decide) ?_
  refine r_putI dX10_count_2 fl_X10_193 rfl rfl (kM_0 hM) ?_
  refine r_aload_n dX10_count_5 rfl ?_
  refine r_iload_n dX10_count_6 rfl ?_
  refine r_iconst (v := nI 0) dX10_count_7 (by decide) ?_
  refine r_bipush (v := nI 8) dX10_count_8 (by decide) ?_
  refine r_statE (c_X10_within (nI 7) (nI 0) (nI 8)) lk_X10_369 mc_X10_within dX10_count_10 (by decide) rfl rfl (Nat.le_of_ble_eq_true rfl) ?_
  rw [show (!decide (nI 7 < nI 0) && !decide (nI 8 < nI 7)) = true from hin]
  refine r_iconst (v := nI 1) dX10_count_13 (by decide) ?_
  refine r_virtE (c_X10_right m true (nI 1) hM (by rw [am_up_s, am_up_s]; rfl) (by decide)) lk_X10_343 mc_X10_right dX10_count_14 (kM_0 hM) (by decide) rfl rfl (Nat.le_of_ble_eq_true rfl) ?_
  rw [thM_ok]
  refine r_if_ne (tgt := 22) dX10_count_17 (by decide) (fun _ => ?_) (fun hz => absurd hz (show ¬ _ from by decide))
  refine r_iload_n dX10_count_22 rfl ?_
  refine r_tabOut (tgt := 98) dX10_count_23 (by decide) (by decide) ?_
  refine r_aload_n dX10_count_98 rfl ?_
  refine r_getR dX10_count_99 fl_X10_50 rfl (kM_0 hM) (pM_18 hM) ?_
  refine r_iload_n dX10_count_102 rfl ?_
  refine r_bipush (v := nI 6) dX10_count_103 (by decide) ?_
  refine r_isub dX10_count_105 ?_
  rw [pk_sub (by decide)]
  refine r_iald dX10_count_106 (aM_18 hM) (nI_in8 3 (by decide) (by decide)) (show _ = 1 from nI_clamp (by decide)) ?_
  rw [am_up_n _ _ (show m + 12 ≠ m by omega)]
  refine r_iret rfl dX10_count_107 ?_
  exact am_is.mk

set_option maxHeartbeats 4000000 in
set_option maxRecDepth 100000 in
theorem c_countR_8 (m : Nat) {n : Nat} {kd : mK} {I : mI} {J : mJ} {P : mP} (hM : kM kd P m) : Ct yX10_count cX10_count 2 (some .int) 3 0 0 [.ref m, .int (nI 8)] n kd I J P (am_is (some (.int (I (m + 12) 2))) n kd (va_up I m (va_up (I m) 0 (nI 0))) J P) := by
  have hin : (!decide (nI 8 < nI 0) && !decide (nI 8 < nI 8)) = true := by decide
  refine ct_of 0 (by decide +kernel) (Nat.le_of_ble_eq_true rfl) rfl ?_
  refine r_aload_n dX10_count_0 rfl ?_
  refine r_iconst (v := nI 0) dX10_count_1 (by decide) ?_
  refine r_putI dX10_count_2 fl_X10_193 rfl rfl (kM_0 hM) ?_
  refine r_aload_n dX10_count_5 rfl ?_
  refine r_iload_n dX10_count_6 rfl ?_
  refine r_iconst (v := nI 0) dX10_count_7 (by decide) ?_
  refine r_bipush (v := nI 8) dX10_count_8 (by decide) ?_
  refine r_statE (c_X10_within (nI 8) (nI 0) (nI 8)) lk_X10_369 mc_X10_within dX10_count_10 (by decide) rfl rfl (Nat.le_of_ble_eq_true rfl) ?_
  rw [show (!decide (nI 8 < nI 0) && !decide (nI 8 < nI 8)) = true from hin]
  refine r_iconst (v := nI 1) dX10_count_13 (by decide) ?_
  refine r_virtE (c_X10_right m true (nI 1) hM (by rw [am_up_s, am_up_s]; rfl) (by decide)) lk_X10_343 mc_X10_right dX10_count_14 (kM_0 hM) (by decide) rfl rfl (Nat.le_of_ble_eq_true rfl) ?_
  rw [thM_ok]
  refine r_if_ne (tgt := 22) dX10_count_17 (by decide) (fun _ => ?_) (fun hz => absurd hz (show ¬ _ from by decide))
  refine r_iload_n dX10_count_22 rfl ?_
  refine r_tabOut (tgt := 98) dX10_count_23 (by decide) (by decide) ?_
  refine r_aload_n dX10_count_98 rfl ?_
  refine r_getR dX10_count_99 fl_X10_50 rfl (kM_0 hM) (pM_18 hM) ?_
  refine r_iload_n dX10_count_102 rfl ?_
  refine r_bipush (v := nI 6) dX10_count_103 (by decide) ?_
  refine r_isub dX10_count_105 ?_
  rw [pk_sub (by decide)]
  refine r_iald dX10_count_106 (aM_18 hM) (nI_in8 3 (by decide) (by decide)) (show _ = 2 from nI_clamp (by decide)) ?_
  rw [am_up_n _ _ (show m + 12 ≠ m by omega)]
  refine r_iret rfl dX10_count_107 ?_
  exact am_is.mk

set_option maxHeartbeats 4000000 in
set_option maxRecDepth 100000 in
theorem c_countR_no (m : Nat) (x : Int32) {n : Nat} {kd : mK} {I : mI} {J : mJ} {P : mP} (hM : kM kd P m) (hin : (!decide (x < nI 0) && !decide (nI 8 < x)) = false) : Ct yX10_count cX10_count 2 (some .int) 3 0 0 [.ref m, .int x] n kd I J P (am_is (some (.int (nI 0))) n kd (va_up I m (va_up (I m) 0 (nI 1))) J P) := by
  refine ct_of 0 (by decide +kernel) (Nat.le_of_ble_eq_true rfl) rfl ?_
  refine r_aload_n dX10_count_0 rfl ?_
  refine r_iconst (v := nI 0) dX10_count_1 (by decide) ?_
  refine r_putI dX10_count_2 fl_X10_193 rfl rfl (kM_0 hM) ?_
  refine r_aload_n dX10_count_5 rfl ?_
  refine r_iload_n dX10_count_6 rfl ?_
  refine r_iconst (v := nI 0) dX10_count_7 (by decide) ?_
  refine r_bipush (v := nI 8) dX10_count_8 (by decide) ?_
  refine r_statE (c_X10_within (x) (nI 0) (nI 8)) lk_X10_369 mc_X10_within dX10_count_10 (by decide) rfl rfl (Nat.le_of_ble_eq_true rfl) ?_
  rw [show (!decide (x < nI 0) && !decide (nI 8 < x)) = false from hin]
  refine r_iconst (v := nI 1) dX10_count_13 (by decide) ?_
  refine r_virtE (c_X10_right m false (nI 1) hM (by rw [am_up_s, am_up_s]; rfl) (by decide)) lk_X10_343 mc_X10_right dX10_count_14 (kM_0 hM) (by decide) rfl rfl (Nat.le_of_ble_eq_true rfl) ?_
  refine r_if_ne (tgt := 22) dX10_count_17 (by decide) (fun hz => absurd (show _ from rfl) hz) (fun _ => ?_)
  refine r_iconst (v := nI 0) dX10_count_20 (by decide) ?_
  refine r_iret rfl dX10_count_21 ?_
  rw [show thM false (va_up I m (va_up (I m) 0 (nI 0))) m (nI 1) = va_up I m (va_up (I m) 0 (nI 1)) by show va_up (va_up I m _) m (va_up (va_up I m _ m) 0 (nI 1)) = _; rw [am_up_up, am_up_s, am_up_up]]
  exact am_is.mk

theorem dX10_years_0 : decode cX10_years 0 = .ok (.aload_n 0, 1) := by decide +kernel
theorem dX10_years_1 : decode cX10_years 1 = .ok (.iconst 0, 1) := by decide +kernel
theorem dX10_years_2 : decode cX10_years 2 = .ok (.putfield 193, 3) := by decide +kernel
theorem dX10_years_5 : decode cX10_years 5 = .ok (.aload_n 0, 1) := by decide +kernel
theorem dX10_years_6 : decode cX10_years 6 = .ok (.iload_n 2, 1) := by decide +kernel
theorem dX10_years_7 : decode cX10_years 7 = .ok (.iconst 0, 1) := by decide +kernel
theorem dX10_years_8 : decode cX10_years 8 = .ok (.bipush 30, 2) := by decide +kernel
theorem dX10_years_10 : decode cX10_years 10 = .ok (.invokestatic 369, 3) := by decide +kernel
theorem dX10_years_13 : decode cX10_years 13 = .ok (.iconst 1, 1) := by decide +kernel
theorem dX10_years_14 : decode cX10_years 14 = .ok (.invokevirtual 343, 3) := by decide +kernel
theorem dX10_years_17 : decode cX10_years 17 = .ok (.ifCond .ne 5, 3) := by decide +kernel
theorem dX10_years_20 : decode cX10_years 20 = .ok (.iconst 0, 1) := by decide +kernel
theorem dX10_years_21 : decode cX10_years 21 = .ok (.ireturn, 1) := by decide +kernel
theorem dX10_years_22 : decode cX10_years 22 = .ok (.aload_n 0, 1) := by decide +kernel
theorem dX10_years_23 : decode cX10_years 23 = .ok (.getfield 350, 3) := by decide +kernel
theorem dX10_years_26 : decode cX10_years 26 = .ok (.ifCond .ne 5, 3) := by decide +kernel
theorem dX10_years_29 : decode cX10_years 29 = .ok (.iload_n 2, 1) := by decide +kernel
theorem dX10_years_30 : decode cX10_years 30 = .ok (.ireturn, 1) := by decide +kernel
theorem dX10_years_31 : decode cX10_years 31 = .ok (.aload_n 0, 1) := by decide +kernel
theorem dX10_years_32 : decode cX10_years 32 = .ok (.aload_n 0, 1) := by decide +kernel
theorem dX10_years_33 : decode cX10_years 33 = .ok (.getfield 13, 3) := by decide +kernel
theorem dX10_years_36 : decode cX10_years 36 = .ok (.aload_n 0, 1) := by decide +kernel
theorem dX10_years_37 : decode cX10_years 37 = .ok (.getfield 121, 3) := by decide +kernel
theorem dX10_years_40 : decode cX10_years 40 = .ok (.invokevirtual 356, 3) := by decide +kernel
theorem dX10_years_43 : decode cX10_years 43 = .ok (.iload_n 1, 1) := by decide +kernel
theorem dX10_years_44 : decode cX10_years 44 = .ok (.istore_n 3, 1) := by decide +kernel
theorem dX10_years_45 : decode cX10_years 45 = .ok (.iconst 0, 1) := by decide +kernel
theorem dX10_years_46 : decode cX10_years 46 = .ok (.istore 4, 2) := by decide +kernel
theorem dX10_years_48 : decode cX10_years 48 = .ok (.iconst 1, 1) := by decide +kernel
theorem dX10_years_49 : decode cX10_years 49 = .ok (.istore 5, 2) := by decide +kernel
theorem dX10_years_51 : decode cX10_years 51 = .ok (.iconst 0, 1) := by decide +kernel
theorem dX10_years_52 : decode cX10_years 52 = .ok (.istore 6, 2) := by decide +kernel
theorem dX10_years_54 : decode cX10_years 54 = .ok (.iload 6, 2) := by decide +kernel
theorem dX10_years_56 : decode cX10_years 56 = .ok (.iload_n 2, 1) := by decide +kernel
theorem dX10_years_57 : decode cX10_years 57 = .ok (.if_icmp .ge 102, 3) := by decide +kernel
theorem dX10_years_60 : decode cX10_years 60 = .ok (.iload 5, 2) := by decide +kernel
theorem dX10_years_62 : decode cX10_years 62 = .ok (.ifCond .eq 97, 3) := by decide +kernel
theorem dX10_years_65 : decode cX10_years 65 = .ok (.iload_n 3, 1) := by decide +kernel
theorem dX10_years_66 : decode cX10_years 66 = .ok (.ldc_w 474, 3) := by decide +kernel
theorem dX10_years_69 : decode cX10_years 69 = .ok (.imul, 1) := by decide +kernel
theorem dX10_years_70 : decode cX10_years 70 = .ok (.sipush 12345, 3) := by decide +kernel
theorem dX10_years_73 : decode cX10_years 73 = .ok (.iadd, 1) := by decide +kernel
theorem dX10_years_74 : decode cX10_years 74 = .ok (.istore_n 3, 1) := by decide +kernel
theorem dX10_years_75 : decode cX10_years 75 = .ok (.iload_n 3, 1) := by decide +kernel
theorem dX10_years_76 : decode cX10_years 76 = .ok (.bipush 16, 2) := by decide +kernel
theorem dX10_years_78 : decode cX10_years 78 = .ok (.ishr, 1) := by decide +kernel
theorem dX10_years_79 : decode cX10_years 79 = .ok (.sipush 32767, 3) := by decide +kernel
theorem dX10_years_82 : decode cX10_years 82 = .ok (.iand, 1) := by decide +kernel
theorem dX10_years_83 : decode cX10_years 83 = .ok (.aload_n 0, 1) := by decide +kernel
theorem dX10_years_84 : decode cX10_years 84 = .ok (.getfield 350, 3) := by decide +kernel
theorem dX10_years_87 : decode cX10_years 87 = .ok (.irem, 1) := by decide +kernel
theorem dX10_years_88 : decode cX10_years 88 = .ok (.istore 7, 2) := by decide +kernel
theorem dX10_years_90 : decode cX10_years 90 = .ok (.iload_n 3, 1) := by decide +kernel
theorem dX10_years_91 : decode cX10_years 91 = .ok (.ldc_w 474, 3) := by decide +kernel
theorem dX10_years_94 : decode cX10_years 94 = .ok (.imul, 1) := by decide +kernel
theorem dX10_years_95 : decode cX10_years 95 = .ok (.sipush 12345, 3) := by decide +kernel
theorem dX10_years_98 : decode cX10_years 98 = .ok (.iadd, 1) := by decide +kernel
theorem dX10_years_99 : decode cX10_years 99 = .ok (.istore_n 3, 1) := by decide +kernel
theorem dX10_years_100 : decode cX10_years 100 = .ok (.aload_n 0, 1) := by decide +kernel
theorem dX10_years_101 : decode cX10_years 101 = .ok (.getfield 13, 3) := by decide +kernel
theorem dX10_years_104 : decode cX10_years 104 = .ok (.iload 7, 2) := by decide +kernel
theorem dX10_years_106 : decode cX10_years 106 = .ok (.iload_n 3, 1) := by decide +kernel
theorem dX10_years_107 : decode cX10_years 107 = .ok (.bipush 16, 2) := by decide +kernel
theorem dX10_years_109 : decode cX10_years 109 = .ok (.ishr, 1) := by decide +kernel
theorem dX10_years_110 : decode cX10_years 110 = .ok (.sipush 32767, 3) := by decide +kernel
theorem dX10_years_113 : decode cX10_years 113 = .ok (.iand, 1) := by decide +kernel
theorem dX10_years_114 : decode cX10_years 114 = .ok (.bipush 10, 2) := by decide +kernel
theorem dX10_years_116 : decode cX10_years 116 = .ok (.irem, 1) := by decide +kernel
theorem dX10_years_117 : decode cX10_years 117 = .ok (.iastore, 1) := by decide +kernel
theorem dX10_years_118 : decode cX10_years 118 = .ok (.aload_n 0, 1) := by decide +kernel
theorem dX10_years_119 : decode cX10_years 119 = .ok (.aload_n 0, 1) := by decide +kernel
theorem dX10_years_120 : decode cX10_years 120 = .ok (.invokevirtual 429, 3) := by decide +kernel
theorem dX10_years_123 : decode cX10_years 123 = .ok (.iconst 1, 1) := by decide +kernel
theorem dX10_years_124 : decode cX10_years 124 = .ok (.iconst 2, 1) := by decide +kernel
theorem dX10_years_125 : decode cX10_years 125 = .ok (.invokevirtual 432, 3) := by decide +kernel
theorem dX10_years_128 : decode cX10_years 128 = .ok (.istore 5, 2) := by decide +kernel
theorem dX10_years_130 : decode cX10_years 130 = .ok (.iload 4, 2) := by decide +kernel
theorem dX10_years_132 : decode cX10_years 132 = .ok (.iload 5, 2) := by decide +kernel
theorem dX10_years_134 : decode cX10_years 134 = .ok (.ifCond .eq 15, 3) := by decide +kernel
theorem dX10_years_137 : decode cX10_years 137 = .ok (.aload_n 0, 1) := by decide +kernel
theorem dX10_years_138 : decode cX10_years 138 = .ok (.getfield 413, 3) := by decide +kernel
theorem dX10_years_141 : decode cX10_years 141 = .ok (.iconst 1, 1) := by decide +kernel
theorem dX10_years_142 : decode cX10_years 142 = .ok (.if_icmp .ne 7, 3) := by decide +kernel
theorem dX10_years_145 : decode cX10_years 145 = .ok (.iconst 1, 1) := by decide +kernel
theorem dX10_years_146 : decode cX10_years 146 = .ok (.goto 4, 3) := by decide +kernel
theorem dX10_years_149 : decode cX10_years 149 = .ok (.iconst 0, 1) := by decide +kernel
theorem dX10_years_150 : decode cX10_years 150 = .ok (.iadd, 1) := by decide +kernel
theorem dX10_years_151 : decode cX10_years 151 = .ok (.istore 4, 2) := by decide +kernel
theorem dX10_years_153 : decode cX10_years 153 = .ok (.iinc 6 1, 3) := by decide +kernel
theorem dX10_years_156 : decode cX10_years 156 = .ok (.goto (-102), 3) := by decide +kernel
theorem dX10_years_159 : decode cX10_years 159 = .ok (.aload_n 0, 1) := by decide +kernel
theorem dX10_years_160 : decode cX10_years 160 = .ok (.aload_n 0, 1) := by decide +kernel
theorem dX10_years_161 : decode cX10_years 161 = .ok (.getfield 121, 3) := by decide +kernel
theorem dX10_years_164 : decode cX10_years 164 = .ok (.aload_n 0, 1) := by decide +kernel
theorem dX10_years_165 : decode cX10_years 165 = .ok (.getfield 13, 3) := by decide +kernel
theorem dX10_years_168 : decode cX10_years 168 = .ok (.invokevirtual 356, 3) := by decide +kernel
theorem dX10_years_171 : decode cX10_years 171 = .ok (.iload 5, 2) := by decide +kernel
theorem dX10_years_173 : decode cX10_years 173 = .ok (.ifCond .eq 8, 3) := by decide +kernel
theorem dX10_years_176 : decode cX10_years 176 = .ok (.iload 4, 2) := by decide +kernel
theorem dX10_years_178 : decode cX10_years 178 = .ok (.goto 5, 3) := by decide +kernel
theorem dX10_years_181 : decode cX10_years 181 = .ok (.bipush (-2), 2) := by decide +kernel
theorem dX10_years_183 : decode cX10_years 183 = .ok (.ireturn, 1) := by decide +kernel

set_option maxHeartbeats 4000000 in
set_option maxRecDepth 100000 in
theorem c_yearsR_no (m : Nat) (y x : Int32) {n : Nat} {kd : mK} {I : mI} {J : mJ} {P : mP} (hM : kM kd P m) (hin : (!decide (x < nI 0) && !decide (nI 30 < x)) = false) : Ct yX10_years cX10_years 8 (some .int) 3 0 0 [.ref m, .int y, .int x] n kd I J P (am_is (some (.int (nI 0))) n kd (va_up I m (va_up (I m) 0 (nI 1))) J P) := by
  refine ct_of 5 (by decide +kernel) (Nat.le_of_ble_eq_true rfl) rfl ?_
  refine r_aload_n dX10_years_0 rfl ?_
  refine r_iconst (v := nI 0) dX10_years_1 (by decide) ?_
  refine r_putI dX10_years_2 fl_X10_193 rfl rfl (kM_0 hM) ?_
  refine r_aload_n dX10_years_5 rfl ?_
  refine r_iload_n dX10_years_6 rfl ?_
  refine r_iconst (v := nI 0) dX10_years_7 (by decide) ?_
  refine r_bipush (v := nI 30) dX10_years_8 (by decide) ?_
  refine r_statE (c_X10_within (x) (nI 0) (nI 30)) lk_X10_369 mc_X10_within dX10_years_10 (by decide) rfl rfl (Nat.le_of_ble_eq_true rfl) ?_
  rw [show (!decide (x < nI 0) && !decide (nI 30 < x)) = false from hin]
  refine r_iconst (v := nI 1) dX10_years_13 (by decide) ?_
  refine r_virtE (c_X10_right m false (nI 1) hM (by rw [am_up_s, am_up_s]; rfl) (by decide)) lk_X10_343 mc_X10_right dX10_years_14 (kM_0 hM) (by decide) rfl rfl (Nat.le_of_ble_eq_true rfl) ?_
  refine r_if_ne (tgt := 22) dX10_years_17 (by decide) (fun hz => absurd (show _ from rfl) hz) (fun _ => ?_)
  refine r_iconst (v := nI 0) dX10_years_20 (by decide) ?_
  refine r_iret rfl dX10_years_21 ?_
  rw [show thM false (va_up I m (va_up (I m) 0 (nI 0))) m (nI 1) = va_up I m (va_up (I m) 0 (nI 1)) by show va_up (va_up I m _) m (va_up (va_up I m _ m) 0 (nI 1)) = _; rw [am_up_up, am_up_s, am_up_up]]
  exact am_is.mk

set_option maxHeartbeats 4000000 in
set_option maxRecDepth 100000 in
theorem c_plantR_no (m : Nat) (y x : Int32) {n : Nat} {kd : mK} {I : mI} {J : mJ} {P : mP} (hM : kM kd P m) (hin : (!decide (x < nI 1) && !decide (nI 8 < x)) = false) : Ct yX10_plant cX10_plant 3 (some .int) 3 0 0 [.ref m, .int y, .int x] n kd I J P (am_is (some (.int (nI 0))) n kd (va_up I m (va_up (I m) 0 (nI 1))) J P) := by
  refine ct_of 0 (by decide +kernel) (Nat.le_of_ble_eq_true rfl) rfl ?_
  refine r_aload_n dX10_plant_0 rfl ?_
  refine r_iconst (v := nI 0) dX10_plant_1 (by decide) ?_
  refine r_putI dX10_plant_2 fl_X10_193 rfl rfl (kM_0 hM) ?_
  refine r_aload_n dX10_plant_5 rfl ?_
  refine r_iload_n dX10_plant_6 rfl ?_
  refine r_iconst (v := nI 1) dX10_plant_7 (by decide) ?_
  refine r_bipush (v := nI 8) dX10_plant_8 (by decide) ?_
  refine r_statE (c_X10_within (x) (nI 1) (nI 8)) lk_X10_369 mc_X10_within dX10_plant_10 (by decide) rfl rfl (Nat.le_of_ble_eq_true rfl) ?_
  rw [show (!decide (x < nI 1) && !decide (nI 8 < x)) = false from hin]
  refine r_iconst (v := nI 1) dX10_plant_13 (by decide) ?_
  refine r_virtE (c_X10_right m false (nI 1) hM (by rw [am_up_s, am_up_s]; rfl) (by decide)) lk_X10_343 mc_X10_right dX10_plant_14 (kM_0 hM) (by decide) rfl rfl (Nat.le_of_ble_eq_true rfl) ?_
  refine r_if_ne (tgt := 22) dX10_plant_17 (by decide) (fun hz => absurd (show _ from rfl) hz) (fun _ => ?_)
  refine r_iconst (v := nI 0) dX10_plant_20 (by decide) ?_
  refine r_iret rfl dX10_plant_21 ?_
  rw [show thM false (va_up I m (va_up (I m) 0 (nI 0))) m (nI 1) = va_up I m (va_up (I m) 0 (nI 1)) by show va_up (va_up I m _) m (va_up (va_up I m _ m) 0 (nI 1)) = _; rw [am_up_up, am_up_s, am_up_up]]
  exact am_is.mk

set_option maxHeartbeats 4000000 in
set_option maxRecDepth 100000 in
theorem c_yearsR_0 (m : Nat) (y x : Int32) {n : Nat} {kd : mK} {I : mI} {J : mJ} {P : mP} (hM : kM kd P m) (hH : I m 1 = nI 0) (hin : (!decide (x < nI 0) && !decide (nI 30 < x)) = true) : Ct yX10_years cX10_years 8 (some .int) 3 0 0 [.ref m, .int y, .int x] n kd I J P (am_is (some (.int x)) n kd (va_up I m (va_up (I m) 0 (nI 0))) J P) := by
  refine ct_of 5 (by decide +kernel) (Nat.le_of_ble_eq_true rfl) rfl ?_
  refine r_aload_n dX10_years_0 rfl ?_
  refine r_iconst (v := nI 0) dX10_years_1 (by decide) ?_
  refine r_putI dX10_years_2 fl_X10_193 rfl rfl (kM_0 hM) ?_
  refine r_aload_n dX10_years_5 rfl ?_
  refine r_iload_n dX10_years_6 rfl ?_
  refine r_iconst (v := nI 0) dX10_years_7 (by decide) ?_
  refine r_bipush (v := nI 30) dX10_years_8 (by decide) ?_
  refine r_statE (c_X10_within (x) (nI 0) (nI 30)) lk_X10_369 mc_X10_within dX10_years_10 (by decide) rfl rfl (Nat.le_of_ble_eq_true rfl) ?_
  rw [show (!decide (x < nI 0) && !decide (nI 30 < x)) = true from hin]
  refine r_iconst (v := nI 1) dX10_years_13 (by decide) ?_
  refine r_virtE (c_X10_right m true (nI 1) hM (by rw [am_up_s, am_up_s]; rfl) (by decide)) lk_X10_343 mc_X10_right dX10_years_14 (kM_0 hM) (by decide) rfl rfl (Nat.le_of_ble_eq_true rfl) ?_
  rw [thM_ok]
  refine r_if_ne (tgt := 22) dX10_years_17 (by decide) (fun _ => ?_) (fun hz => absurd hz (show ¬ _ from by decide))
  refine r_aload_n dX10_years_22 rfl ?_
  refine r_getI dX10_years_23 fl_X10_350 rfl (kM_0 hM) ?_
  rw [am_up_s, am_up_n _ _ (by decide)]
  rw [hH]
  refine r_if_ne (tgt := 31) dX10_years_26 (by decide) (fun hz => absurd (show _ from rfl) hz) (fun _ => ?_)
  refine r_iload_n dX10_years_29 rfl ?_
  refine r_iret rfl dX10_years_30 ?_
  exact am_is.mk

theorem dX9_years_0 : decode cX9_years 0 = .ok (.iload_n 2, 1) := by decide +kernel
theorem dX9_years_1 : decode cX9_years 1 = .ok (.ifCond .lt 9, 3) := by decide +kernel
theorem dX9_years_4 : decode cX9_years 4 = .ok (.iload_n 2, 1) := by decide +kernel
theorem dX9_years_5 : decode cX9_years 5 = .ok (.bipush 30, 2) := by decide +kernel
theorem dX9_years_7 : decode cX9_years 7 = .ok (.if_icmp .le 11, 3) := by decide +kernel
theorem dX9_years_10 : decode cX9_years 10 = .ok (.new 110, 3) := by decide +kernel
theorem dX9_years_13 : decode cX9_years 13 = .ok (.dup, 1) := by decide +kernel
theorem dX9_years_14 : decode cX9_years 14 = .ok (.invokespecial 112, 3) := by decide +kernel
theorem dX9_years_17 : decode cX9_years 17 = .ok (.athrow, 1) := by decide +kernel
theorem dX9_years_18 : decode cX9_years 18 = .ok (.aload_n 0, 1) := by decide +kernel
theorem dX9_years_19 : decode cX9_years 19 = .ok (.getfield 27, 3) := by decide +kernel
theorem dX9_years_22 : decode cX9_years 22 = .ok (.getfield 124, 3) := by decide +kernel
theorem dX9_years_25 : decode cX9_years 25 = .ok (.ifCond .ne 5, 3) := by decide +kernel
theorem dX9_years_28 : decode cX9_years 28 = .ok (.iload_n 2, 1) := by decide +kernel
theorem dX9_years_29 : decode cX9_years 29 = .ok (.ireturn, 1) := by decide +kernel
theorem dX9_years_30 : decode cX9_years 30 = .ok (.aload_n 0, 1) := by decide +kernel
theorem dX9_years_31 : decode cX9_years 31 = .ok (.getfield 41, 3) := by decide +kernel
theorem dX9_years_34 : decode cX9_years 34 = .ok (.aload_n 0, 1) := by decide +kernel
theorem dX9_years_35 : decode cX9_years 35 = .ok (.getfield 37, 3) := by decide +kernel
theorem dX9_years_38 : decode cX9_years 38 = .ok (.invokevirtual 264, 3) := by decide +kernel
theorem dX9_years_41 : decode cX9_years 41 = .ok (.aload_n 0, 1) := by decide +kernel
theorem dX9_years_42 : decode cX9_years 42 = .ok (.getfield 92, 3) := by decide +kernel
theorem dX9_years_45 : decode cX9_years 45 = .ok (.iload_n 1, 1) := by decide +kernel
theorem dX9_years_46 : decode cX9_years 46 = .ok (.invokevirtual 268, 3) := by decide +kernel
theorem dX9_years_49 : decode cX9_years 49 = .ok (.iconst 0, 1) := by decide +kernel
theorem dX9_years_50 : decode cX9_years 50 = .ok (.istore_n 3, 1) := by decide +kernel
theorem dX9_years_51 : decode cX9_years 51 = .ok (.iconst 0, 1) := by decide +kernel
theorem dX9_years_52 : decode cX9_years 52 = .ok (.istore 4, 2) := by decide +kernel
theorem dX9_years_54 : decode cX9_years 54 = .ok (.iload 4, 2) := by decide +kernel
theorem dX9_years_56 : decode cX9_years 56 = .ok (.iload_n 2, 1) := by decide +kernel
theorem dX9_years_57 : decode cX9_years 57 = .ok (.if_icmp .ge 80, 3) := by decide +kernel
theorem dX9_years_60 : decode cX9_years 60 = .ok (.aload_n 0, 1) := by decide +kernel
theorem dX9_years_61 : decode cX9_years 61 = .ok (.getfield 92, 3) := by decide +kernel
theorem dX9_years_64 : decode cX9_years 64 = .ok (.aload_n 0, 1) := by decide +kernel
theorem dX9_years_65 : decode cX9_years 65 = .ok (.getfield 27, 3) := by decide +kernel
theorem dX9_years_68 : decode cX9_years 68 = .ok (.getfield 124, 3) := by decide +kernel
theorem dX9_years_71 : decode cX9_years 71 = .ok (.invokevirtual 271, 3) := by decide +kernel
theorem dX9_years_74 : decode cX9_years 74 = .ok (.istore 5, 2) := by decide +kernel
theorem dX9_years_76 : decode cX9_years 76 = .ok (.aload_n 0, 1) := by decide +kernel
theorem dX9_years_77 : decode cX9_years 77 = .ok (.getfield 41, 3) := by decide +kernel
theorem dX9_years_80 : decode cX9_years 80 = .ok (.iconst 0, 1) := by decide +kernel
theorem dX9_years_81 : decode cX9_years 81 = .ok (.iload 5, 2) := by decide +kernel
theorem dX9_years_83 : decode cX9_years 83 = .ok (.aload_n 0, 1) := by decide +kernel
theorem dX9_years_84 : decode cX9_years 84 = .ok (.getfield 92, 3) := by decide +kernel
theorem dX9_years_87 : decode cX9_years 87 = .ok (.bipush 10, 2) := by decide +kernel
theorem dX9_years_89 : decode cX9_years 89 = .ok (.invokevirtual 271, 3) := by decide +kernel
theorem dX9_years_92 : decode cX9_years 92 = .ok (.invokevirtual 274, 3) := by decide +kernel
theorem dX9_years_95 : decode cX9_years 95 = .ok (.aload_n 0, 1) := by decide +kernel
theorem dX9_years_96 : decode cX9_years 96 = .ok (.getfield 64, 3) := by decide +kernel
theorem dX9_years_99 : decode cX9_years 99 = .ok (.aload_n 0, 1) := by decide +kernel
theorem dX9_years_100 : decode cX9_years 100 = .ok (.getfield 27, 3) := by decide +kernel
theorem dX9_years_103 : decode cX9_years 103 = .ok (.aload_n 0, 1) := by decide +kernel
theorem dX9_years_104 : decode cX9_years 104 = .ok (.getfield 41, 3) := by decide +kernel
theorem dX9_years_107 : decode cX9_years 107 = .ok (.invokevirtual 277, 3) := by decide +kernel
theorem dX9_years_110 : decode cX9_years 110 = .ok (.istore 6, 2) := by decide +kernel
theorem dX9_years_112 : decode cX9_years 112 = .ok (.iload 6, 2) := by decide +kernel
theorem dX9_years_114 : decode cX9_years 114 = .ok (.bipush (-2), 2) := by decide +kernel
theorem dX9_years_116 : decode cX9_years 116 = .ok (.if_icmp .ne 6, 3) := by decide +kernel
theorem dX9_years_119 : decode cX9_years 119 = .ok (.bipush (-2), 2) := by decide +kernel
theorem dX9_years_121 : decode cX9_years 121 = .ok (.ireturn, 1) := by decide +kernel
theorem dX9_years_122 : decode cX9_years 122 = .ok (.iload 6, 2) := by decide +kernel
theorem dX9_years_124 : decode cX9_years 124 = .ok (.iconst 1, 1) := by decide +kernel
theorem dX9_years_125 : decode cX9_years 125 = .ok (.if_icmp .ne 6, 3) := by decide +kernel
theorem dX9_years_128 : decode cX9_years 128 = .ok (.iinc 3 1, 3) := by decide +kernel
theorem dX9_years_131 : decode cX9_years 131 = .ok (.iinc 4 1, 3) := by decide +kernel
theorem dX9_years_134 : decode cX9_years 134 = .ok (.goto (-80), 3) := by decide +kernel
theorem dX9_years_137 : decode cX9_years 137 = .ok (.iload_n 3, 1) := by decide +kernel
theorem dX9_years_138 : decode cX9_years 138 = .ok (.ireturn, 1) := by decide +kernel

set_option maxHeartbeats 4000000 in
set_option maxRecDepth 100000 in
theorem c_years_no (o : Nat) (y x : Int32) {n : Nat} {kd : mK} {I : mI} {J : mJ} {P : mP} (hx : x < 0 ∨ nI 30 < x) : Ct yX9_years cX9_years 7 (some .int) 9 1 6 [.ref o, .int y, .int x] n kd I J P (fun z n' kd' I' J' P' => z = .inr "java/lang/IllegalArgumentException" ∧ n' = n ∧ kd' = kd ∧ I' = I ∧ J' = J ∧ P' = P) := by
  refine ct_of 4 (by decide +kernel) (Nat.le_of_ble_eq_true rfl) rfl ?_
  by_cases c : x < 0
  · skip
    refine r_iload_n dX9_years_0 rfl ?_
    refine r_if_lt (tgt := 10) dX9_years_1 (by decide) (fun _ => ?_) (fun hz => absurd (show _ from c) hz)
    refine r_throw (cls := "java/lang/IllegalArgumentException") (names := ["java/lang/RuntimeException", "java/lang/Exception"]) dX9_years_10 dX9_years_13 dX9_years_14 dX9_years_17 (by decide +kernel) (by decide +kernel) cl_X9_110 xi_IllegalArgumentException xa_iae xb_iae (by decide) (Nat.le_of_ble_eq_true rfl) (by omega) (by omega) ?_
    exact ⟨rfl, rfl, rfl, rfl, rfl, rfl⟩
  · skip
    refine r_iload_n dX9_years_0 rfl ?_
    refine r_if_lt (tgt := 10) dX9_years_1 (by decide) (fun hz => absurd hz (show ¬ _ from c)) (fun _ => ?_)
    refine r_iload_n dX9_years_4 rfl ?_
    refine r_bipush (v := nI 30) dX9_years_5 (by decide) ?_
    refine r_icmp_le (tgt := 18) dX9_years_7 (by decide) (fun hz => absurd hz (show ¬ _ from Int32.not_le.mpr (hx.resolve_left c))) (fun _ => ?_)
    refine r_throw (cls := "java/lang/IllegalArgumentException") (names := ["java/lang/RuntimeException", "java/lang/Exception"]) dX9_years_10 dX9_years_13 dX9_years_14 dX9_years_17 (by decide +kernel) (by decide +kernel) cl_X9_110 xi_IllegalArgumentException xa_iae xb_iae (by decide) (Nat.le_of_ble_eq_true rfl) (by omega) (by omega) ?_
    exact ⟨rfl, rfl, rfl, rfl, rfl, rfl⟩

set_option maxHeartbeats 4000000 in
set_option maxRecDepth 100000 in
theorem c_years_0 (o b : Nat) (y x : Int32) {n : Nat} {kd : mK} {I : mI} {J : mJ} {P : mP} (ho : kd o = some (0, 9)) (hb : kd b = some (0, 7)) (p4 : P o 4 = some b) (hH : I b 0 = nI 0) (h0 : ¬ x < 0) (h30 : ¬ nI 30 < x) : Ct yX9_years cX9_years 7 (some .int) 9 1 6 [.ref o, .int y, .int x] n kd I J P (am_is (some (.int x)) n kd I J P) := by
  refine ct_of 4 (by decide +kernel) (Nat.le_of_ble_eq_true rfl) rfl ?_
  refine r_iload_n dX9_years_0 rfl ?_
  refine r_if_lt (tgt := 10) dX9_years_1 (by decide) (fun hz => absurd hz (show ¬ _ from h0)) (fun _ => ?_)
  refine r_iload_n dX9_years_4 rfl ?_
  refine r_bipush (v := nI 30) dX9_years_5 (by decide) ?_
  refine r_icmp_le (tgt := 18) dX9_years_7 (by decide) (fun _ => ?_) (fun hz => absurd (show _ from Int32.not_lt.mp h30) hz)
  refine r_aload_n dX9_years_18 rfl ?_
  refine r_getR dX9_years_19 fl_X9_27 rfl ho p4 ?_
  refine r_getI dX9_years_22 fl_X9_124 rfl hb ?_
  rw [hH]
  refine r_if_ne (tgt := 30) dX9_years_25 (by decide) (fun hz => absurd (show _ from rfl) hz) (fun _ => ?_)
  refine r_iload_n dX9_years_28 rfl ?_
  refine r_iret rfl dX9_years_29 ?_
  exact am_is.mk

set_option maxHeartbeats 4000000 in
set_option maxRecDepth 100000 in
theorem c_plant_no (o : Nat) (y x : Int32) {n : Nat} {kd : mK} {I : mI} {J : mJ} {P : mP} (hx : x < nI 1 ∨ nI 8 < x) : Ct yX9_plant cX9_plant 3 (some .int) 9 1 6 [.ref o, .int y, .int x] n kd I J P (fun z n' kd' I' J' P' => z = .inr "java/lang/IllegalArgumentException" ∧ n' = n ∧ kd' = kd ∧ I' = I ∧ J' = J ∧ P' = P) := by
  refine ct_of 0 (by decide +kernel) (Nat.le_of_ble_eq_true rfl) rfl ?_
  by_cases c : x < nI 1
  · skip
    refine r_iload_n dX9_plant_0 rfl ?_
    refine r_iconst (v := nI 1) dX9_plant_1 (by decide) ?_
    refine r_icmp_lt (tgt := 11) dX9_plant_2 (by decide) (fun _ => ?_) (fun hz => absurd (show _ from c) hz)
    refine r_throw (cls := "java/lang/IllegalArgumentException") (names := ["java/lang/RuntimeException", "java/lang/Exception"]) dX9_plant_11 dX9_plant_14 dX9_plant_15 dX9_plant_18 (by decide +kernel) (by decide +kernel) cl_X9_110 xi_IllegalArgumentException xa_iae xb_iae (by decide) (Nat.le_of_ble_eq_true rfl) (by omega) (by omega) ?_
    exact ⟨rfl, rfl, rfl, rfl, rfl, rfl⟩
  · skip
    refine r_iload_n dX9_plant_0 rfl ?_
    refine r_iconst (v := nI 1) dX9_plant_1 (by decide) ?_
    refine r_icmp_lt (tgt := 11) dX9_plant_2 (by decide) (fun hz => absurd hz (show ¬ _ from c)) (fun _ => ?_)
    refine r_iload_n dX9_plant_5 rfl ?_
    refine r_bipush (v := nI 8) dX9_plant_6 (by decide) ?_
    refine r_icmp_le (tgt := 19) dX9_plant_8 (by decide) (fun hz => absurd hz (show ¬ _ from Int32.not_le.mpr (hx.resolve_left c))) (fun _ => ?_)
    refine r_throw (cls := "java/lang/IllegalArgumentException") (names := ["java/lang/RuntimeException", "java/lang/Exception"]) dX9_plant_11 dX9_plant_14 dX9_plant_15 dX9_plant_18 (by decide +kernel) (by decide +kernel) cl_X9_110 xi_IllegalArgumentException xa_iae xb_iae (by decide) (Nat.le_of_ble_eq_true rfl) (by omega) (by omega) ?_
    exact ⟨rfl, rfl, rfl, rfl, rfl, rfl⟩

theorem dX9_undo_0 : decode cX9_undo 0 = .ok (.aload_n 0, 1) := by decide +kernel
theorem dX9_undo_1 : decode cX9_undo 1 = .ok (.getfield 37, 3) := by decide +kernel
theorem dX9_undo_4 : decode cX9_undo 4 = .ok (.getfield 133, 3) := by decide +kernel
theorem dX9_undo_7 : decode cX9_undo 7 = .ok (.ifCond .ne 5, 3) := by decide +kernel
theorem dX9_undo_10 : decode cX9_undo 10 = .ok (.iconst (-1), 1) := by decide +kernel
theorem dX9_undo_11 : decode cX9_undo 11 = .ok (.ireturn, 1) := by decide +kernel
theorem dX9_undo_12 : decode cX9_undo 12 = .ok (.aload_n 0, 1) := by decide +kernel
theorem dX9_undo_13 : decode cX9_undo 13 = .ok (.getfield 37, 3) := by decide +kernel
theorem dX9_undo_16 : decode cX9_undo 16 = .ok (.invokevirtual 177, 3) := by decide +kernel
theorem dX9_undo_19 : decode cX9_undo 19 = .ok (.aload_n 0, 1) := by decide +kernel
theorem dX9_undo_20 : decode cX9_undo 20 = .ok (.invokevirtual 174, 3) := by decide +kernel
theorem dX9_undo_23 : decode cX9_undo 23 = .ok (.aload_n 0, 1) := by decide +kernel
theorem dX9_undo_24 : decode cX9_undo 24 = .ok (.getfield 37, 3) := by decide +kernel
theorem dX9_undo_27 : decode cX9_undo 27 = .ok (.getfield 133, 3) := by decide +kernel
theorem dX9_undo_30 : decode cX9_undo 30 = .ok (.ireturn, 1) := by decide +kernel
set_option maxHeartbeats 4000000 in
set_option maxRecDepth 100000 in
theorem n_X9_undo (o f : Nat) {n : Nat} {kd : mK} {I : mI} {J : mJ} {P : mP} (ho : kd o = some (0, 9)) (hf : kd f = some (0, 2)) (p6 : P o 6 = some f) (h0 : I f 4 = nI 0) : Ct yX9_undo cX9_undo 1 (some .int) 9 1 6 [.ref o] n kd I J P (am_is (some (.int (-1))) n kd I J P) := by
  refine ct_of 0 (by decide +kernel) (Nat.le_of_ble_eq_true rfl) rfl ?_
  refine r_aload_n dX9_undo_0 rfl ?_
  refine r_getR dX9_undo_1 fl_X9_37 rfl ho p6 ?_
  refine r_getI dX9_undo_4 fl_X9_133 rfl hf ?_
  rw [h0]
  refine r_if_ne (tgt := 12) dX9_undo_7 (by decide) (fun hz => absurd (show _ from rfl) hz) (fun _ => ?_)
  refine r_iconst (v := (-1)) dX9_undo_10 (by decide) ?_
  refine r_iret rfl dX9_undo_11 ?_
  exact am_is.mk

theorem dX9_unletter_0 : decode cX9_unletter 0 = .ok (.aload_n 0, 1) := by decide +kernel
theorem dX9_unletter_1 : decode cX9_unletter 1 = .ok (.getfield 37, 3) := by decide +kernel
theorem dX9_unletter_4 : decode cX9_unletter 4 = .ok (.getfield 136, 3) := by decide +kernel
theorem dX9_unletter_7 : decode cX9_unletter 7 = .ok (.ifCond .ne 5, 3) := by decide +kernel
theorem dX9_unletter_10 : decode cX9_unletter 10 = .ok (.iconst (-1), 1) := by decide +kernel
theorem dX9_unletter_11 : decode cX9_unletter 11 = .ok (.ireturn, 1) := by decide +kernel
theorem dX9_unletter_12 : decode cX9_unletter 12 = .ok (.aload_n 0, 1) := by decide +kernel
theorem dX9_unletter_13 : decode cX9_unletter 13 = .ok (.getfield 37, 3) := by decide +kernel
theorem dX9_unletter_16 : decode cX9_unletter 16 = .ok (.dup, 1) := by decide +kernel
theorem dX9_unletter_17 : decode cX9_unletter 17 = .ok (.getfield 136, 3) := by decide +kernel
theorem dX9_unletter_20 : decode cX9_unletter 20 = .ok (.iconst 1, 1) := by decide +kernel
theorem dX9_unletter_21 : decode cX9_unletter 21 = .ok (.isub, 1) := by decide +kernel
theorem dX9_unletter_22 : decode cX9_unletter 22 = .ok (.putfield 136, 3) := by decide +kernel
theorem dX9_unletter_25 : decode cX9_unletter 25 = .ok (.aload_n 0, 1) := by decide +kernel
theorem dX9_unletter_26 : decode cX9_unletter 26 = .ok (.invokevirtual 174, 3) := by decide +kernel
theorem dX9_unletter_29 : decode cX9_unletter 29 = .ok (.aload_n 0, 1) := by decide +kernel
theorem dX9_unletter_30 : decode cX9_unletter 30 = .ok (.getfield 37, 3) := by decide +kernel
theorem dX9_unletter_33 : decode cX9_unletter 33 = .ok (.getfield 136, 3) := by decide +kernel
theorem dX9_unletter_36 : decode cX9_unletter 36 = .ok (.ireturn, 1) := by decide +kernel
set_option maxHeartbeats 4000000 in
set_option maxRecDepth 100000 in
theorem n_X9_unletter (o f : Nat) {n : Nat} {kd : mK} {I : mI} {J : mJ} {P : mP} (ho : kd o = some (0, 9)) (hf : kd f = some (0, 2)) (p6 : P o 6 = some f) (h0 : I f 7 = nI 0) : Ct yX9_unletter cX9_unletter 1 (some .int) 9 1 6 [.ref o] n kd I J P (am_is (some (.int (-1))) n kd I J P) := by
  refine ct_of 0 (by decide +kernel) (Nat.le_of_ble_eq_true rfl) rfl ?_
  refine r_aload_n dX9_unletter_0 rfl ?_
  refine r_getR dX9_unletter_1 fl_X9_37 rfl ho p6 ?_
  refine r_getI dX9_unletter_4 fl_X9_136 rfl hf ?_
  rw [h0]
  refine r_if_ne (tgt := 12) dX9_unletter_7 (by decide) (fun hz => absurd (show _ from rfl) hz) (fun _ => ?_)
  refine r_iconst (v := (-1)) dX9_unletter_10 (by decide) ?_
  refine r_iret rfl dX9_unletter_11 ?_
  exact am_is.mk

theorem dX10_undo_0 : decode cX10_undo 0 = .ok (.aload_n 0, 1) := by decide +kernel
theorem dX10_undo_1 : decode cX10_undo 1 = .ok (.iconst 0, 1) := by decide +kernel
theorem dX10_undo_2 : decode cX10_undo 2 = .ok (.putfield 193, 3) := by decide +kernel
theorem dX10_undo_5 : decode cX10_undo 5 = .ok (.aload_n 0, 1) := by decide +kernel
theorem dX10_undo_6 : decode cX10_undo 6 = .ok (.getfield 360, 3) := by decide +kernel
theorem dX10_undo_9 : decode cX10_undo 9 = .ok (.ifCond .ne 5, 3) := by decide +kernel
theorem dX10_undo_12 : decode cX10_undo 12 = .ok (.iconst (-1), 1) := by decide +kernel
theorem dX10_undo_13 : decode cX10_undo 13 = .ok (.ireturn, 1) := by decide +kernel
theorem dX10_undo_14 : decode cX10_undo 14 = .ok (.aload_n 0, 1) := by decide +kernel
theorem dX10_undo_15 : decode cX10_undo 15 = .ok (.dup, 1) := by decide +kernel
theorem dX10_undo_16 : decode cX10_undo 16 = .ok (.getfield 360, 3) := by decide +kernel
theorem dX10_undo_19 : decode cX10_undo 19 = .ok (.iconst 1, 1) := by decide +kernel
theorem dX10_undo_20 : decode cX10_undo 20 = .ok (.isub, 1) := by decide +kernel
theorem dX10_undo_21 : decode cX10_undo 21 = .ok (.putfield 360, 3) := by decide +kernel
theorem dX10_undo_24 : decode cX10_undo 24 = .ok (.aload_n 0, 1) := by decide +kernel
theorem dX10_undo_25 : decode cX10_undo 25 = .ok (.aload_n 0, 1) := by decide +kernel
theorem dX10_undo_26 : decode cX10_undo 26 = .ok (.getfield 84, 3) := by decide +kernel
theorem dX10_undo_29 : decode cX10_undo 29 = .ok (.iconst 3, 1) := by decide +kernel
theorem dX10_undo_30 : decode cX10_undo 30 = .ok (.aload_n 0, 1) := by decide +kernel
theorem dX10_undo_31 : decode cX10_undo 31 = .ok (.getfield 360, 3) := by decide +kernel
theorem dX10_undo_34 : decode cX10_undo 34 = .ok (.imul, 1) := by decide +kernel
theorem dX10_undo_35 : decode cX10_undo 35 = .ok (.iaload, 1) := by decide +kernel
theorem dX10_undo_36 : decode cX10_undo 36 = .ok (.aload_n 0, 1) := by decide +kernel
theorem dX10_undo_37 : decode cX10_undo 37 = .ok (.getfield 84, 3) := by decide +kernel
theorem dX10_undo_40 : decode cX10_undo 40 = .ok (.iconst 3, 1) := by decide +kernel
theorem dX10_undo_41 : decode cX10_undo 41 = .ok (.aload_n 0, 1) := by decide +kernel
theorem dX10_undo_42 : decode cX10_undo 42 = .ok (.getfield 360, 3) := by decide +kernel
theorem dX10_undo_45 : decode cX10_undo 45 = .ok (.imul, 1) := by decide +kernel
theorem dX10_undo_46 : decode cX10_undo 46 = .ok (.iconst 1, 1) := by decide +kernel
theorem dX10_undo_47 : decode cX10_undo 47 = .ok (.iadd, 1) := by decide +kernel
theorem dX10_undo_48 : decode cX10_undo 48 = .ok (.iaload, 1) := by decide +kernel
theorem dX10_undo_49 : decode cX10_undo 49 = .ok (.aload_n 0, 1) := by decide +kernel
theorem dX10_undo_50 : decode cX10_undo 50 = .ok (.getfield 84, 3) := by decide +kernel
theorem dX10_undo_53 : decode cX10_undo 53 = .ok (.iconst 3, 1) := by decide +kernel
theorem dX10_undo_54 : decode cX10_undo 54 = .ok (.aload_n 0, 1) := by decide +kernel
theorem dX10_undo_55 : decode cX10_undo 55 = .ok (.getfield 360, 3) := by decide +kernel
theorem dX10_undo_58 : decode cX10_undo 58 = .ok (.imul, 1) := by decide +kernel
theorem dX10_undo_59 : decode cX10_undo 59 = .ok (.iconst 2, 1) := by decide +kernel
theorem dX10_undo_60 : decode cX10_undo 60 = .ok (.iadd, 1) := by decide +kernel
theorem dX10_undo_61 : decode cX10_undo 61 = .ok (.iaload, 1) := by decide +kernel
theorem dX10_undo_62 : decode cX10_undo 62 = .ok (.invokevirtual 385, 3) := by decide +kernel
theorem dX10_undo_65 : decode cX10_undo 65 = .ok (.pop, 1) := by decide +kernel
theorem dX10_undo_66 : decode cX10_undo 66 = .ok (.aload_n 0, 1) := by decide +kernel
theorem dX10_undo_67 : decode cX10_undo 67 = .ok (.getfield 360, 3) := by decide +kernel
theorem dX10_undo_70 : decode cX10_undo 70 = .ok (.ireturn, 1) := by decide +kernel
set_option maxHeartbeats 4000000 in
set_option maxRecDepth 100000 in
theorem n_X10_undo (m : Nat) {n : Nat} {kd : mK} {I : mI} {J : mJ} {P : mP} (hM : kM kd P m) (h0 : I m 45 = nI 0) : Ct yX10_undo cX10_undo 1 (some .int) 3 0 0 [.ref m] n kd I J P (am_is (some (.int (-1))) n kd (va_up I m (va_up (I m) 0 (nI 0))) J P) := by
  refine ct_of 0 (by decide +kernel) (Nat.le_of_ble_eq_true rfl) rfl ?_
  refine r_aload_n dX10_undo_0 rfl ?_
  refine r_iconst (v := nI 0) dX10_undo_1 (by decide) ?_
  refine r_putI dX10_undo_2 fl_X10_193 rfl rfl (kM_0 hM) ?_
  refine r_aload_n dX10_undo_5 rfl ?_
  refine r_getI dX10_undo_6 fl_X10_360 rfl (kM_0 hM) ?_
  rw [am_up_s, am_up_n _ _ (by decide)]
  rw [h0]
  refine r_if_ne (tgt := 14) dX10_undo_9 (by decide) (fun hz => absurd (show _ from rfl) hz) (fun _ => ?_)
  refine r_iconst (v := (-1)) dX10_undo_12 (by decide) ?_
  refine r_iret rfl dX10_undo_13 ?_
  exact am_is.mk

theorem dX10_unletter_0 : decode cX10_unletter 0 = .ok (.aload_n 0, 1) := by decide +kernel
theorem dX10_unletter_1 : decode cX10_unletter 1 = .ok (.iconst 0, 1) := by decide +kernel
theorem dX10_unletter_2 : decode cX10_unletter 2 = .ok (.putfield 193, 3) := by decide +kernel
theorem dX10_unletter_5 : decode cX10_unletter 5 = .ok (.aload_n 0, 1) := by decide +kernel
theorem dX10_unletter_6 : decode cX10_unletter 6 = .ok (.getfield 363, 3) := by decide +kernel
theorem dX10_unletter_9 : decode cX10_unletter 9 = .ok (.ifCond .ne 5, 3) := by decide +kernel
theorem dX10_unletter_12 : decode cX10_unletter 12 = .ok (.iconst (-1), 1) := by decide +kernel
theorem dX10_unletter_13 : decode cX10_unletter 13 = .ok (.ireturn, 1) := by decide +kernel
theorem dX10_unletter_14 : decode cX10_unletter 14 = .ok (.aload_n 0, 1) := by decide +kernel
theorem dX10_unletter_15 : decode cX10_unletter 15 = .ok (.dup, 1) := by decide +kernel
theorem dX10_unletter_16 : decode cX10_unletter 16 = .ok (.getfield 363, 3) := by decide +kernel
theorem dX10_unletter_19 : decode cX10_unletter 19 = .ok (.iconst 1, 1) := by decide +kernel
theorem dX10_unletter_20 : decode cX10_unletter 20 = .ok (.isub, 1) := by decide +kernel
theorem dX10_unletter_21 : decode cX10_unletter 21 = .ok (.putfield 363, 3) := by decide +kernel
theorem dX10_unletter_24 : decode cX10_unletter 24 = .ok (.aload_n 0, 1) := by decide +kernel
theorem dX10_unletter_25 : decode cX10_unletter 25 = .ok (.getfield 363, 3) := by decide +kernel
theorem dX10_unletter_28 : decode cX10_unletter 28 = .ok (.ireturn, 1) := by decide +kernel
set_option maxHeartbeats 4000000 in
set_option maxRecDepth 100000 in
theorem n_X10_unletter (m : Nat) {n : Nat} {kd : mK} {I : mI} {J : mJ} {P : mP} (hM : kM kd P m) (h0 : I m 47 = nI 0) : Ct yX10_unletter cX10_unletter 1 (some .int) 3 0 0 [.ref m] n kd I J P (am_is (some (.int (-1))) n kd (va_up I m (va_up (I m) 0 (nI 0))) J P) := by
  refine ct_of 0 (by decide +kernel) (Nat.le_of_ble_eq_true rfl) rfl ?_
  refine r_aload_n dX10_unletter_0 rfl ?_
  refine r_iconst (v := nI 0) dX10_unletter_1 (by decide) ?_
  refine r_putI dX10_unletter_2 fl_X10_193 rfl rfl (kM_0 hM) ?_
  refine r_aload_n dX10_unletter_5 rfl ?_
  refine r_getI dX10_unletter_6 fl_X10_363 rfl (kM_0 hM) ?_
  rw [am_up_s, am_up_n _ _ (by decide)]
  rw [h0]
  refine r_if_ne (tgt := 14) dX10_unletter_9 (by decide) (fun hz => absurd (show _ from rfl) hz) (fun _ => ?_)
  refine r_iconst (v := (-1)) dX10_unletter_12 (by decide) ?_
  refine r_iret rfl dX10_unletter_13 ?_
  exact am_is.mk

theorem dX9_restore_0 : decode cX9_restore 0 = .ok (.aload_n 0, 1) := by decide +kernel
theorem dX9_restore_1 : decode cX9_restore 1 = .ok (.getfield 47, 3) := by decide +kernel
theorem dX9_restore_4 : decode cX9_restore 4 = .ok (.ifCond .ne 5, 3) := by decide +kernel
theorem dX9_restore_7 : decode cX9_restore 7 = .ok (.iconst 0, 1) := by decide +kernel
theorem dX9_restore_8 : decode cX9_restore 8 = .ok (.ireturn, 1) := by decide +kernel
theorem dX9_restore_9 : decode cX9_restore 9 = .ok (.aload_n 0, 1) := by decide +kernel
theorem dX9_restore_10 : decode cX9_restore 10 = .ok (.getfield 37, 3) := by decide +kernel
theorem dX9_restore_13 : decode cX9_restore 13 = .ok (.aload_n 0, 1) := by decide +kernel
theorem dX9_restore_14 : decode cX9_restore 14 = .ok (.getfield 44, 3) := by decide +kernel
theorem dX9_restore_17 : decode cX9_restore 17 = .ok (.invokevirtual 264, 3) := by decide +kernel
theorem dX9_restore_20 : decode cX9_restore 20 = .ok (.aload_n 0, 1) := by decide +kernel
theorem dX9_restore_21 : decode cX9_restore 21 = .ok (.invokevirtual 174, 3) := by decide +kernel
theorem dX9_restore_24 : decode cX9_restore 24 = .ok (.iconst 1, 1) := by decide +kernel
theorem dX9_restore_25 : decode cX9_restore 25 = .ok (.ireturn, 1) := by decide +kernel
set_option maxHeartbeats 4000000 in
set_option maxRecDepth 100000 in
theorem n_X9_restore (o : Nat) {n : Nat} {kd : mK} {I : mI} {J : mJ} {P : mP} (ho : kd o = some (0, 9)) (h0 : I o 9 = nI 0) : Ct yX9_restore cX9_restore 1 (some .boolean) 9 1 6 [.ref o] n kd I J P (am_is (some (.int (nI 0))) n kd I J P) := by
  refine ct_of 0 (by decide +kernel) (Nat.le_of_ble_eq_true rfl) rfl ?_
  refine r_aload_n dX9_restore_0 rfl ?_
  refine r_getI dX9_restore_1 fl_X9_47 rfl ho ?_
  rw [h0]
  refine r_if_ne (tgt := 9) dX9_restore_4 (by decide) (fun hz => absurd (show _ from rfl) hz) (fun _ => ?_)
  refine r_iconst (v := nI 0) dX9_restore_7 (by decide) ?_
  refine r_zret rfl dX9_restore_8 (by first | exact Or.inl rfl | exact Or.inr rfl | assumption) ?_
  exact am_is.mk

theorem dX10_restore_0 : decode cX10_restore 0 = .ok (.aload_n 0, 1) := by decide +kernel
theorem dX10_restore_1 : decode cX10_restore 1 = .ok (.iconst 0, 1) := by decide +kernel
theorem dX10_restore_2 : decode cX10_restore 2 = .ok (.putfield 193, 3) := by decide +kernel
theorem dX10_restore_5 : decode cX10_restore 5 = .ok (.aload_n 0, 1) := by decide +kernel
theorem dX10_restore_6 : decode cX10_restore 6 = .ok (.getfield 366, 3) := by decide +kernel
theorem dX10_restore_9 : decode cX10_restore 9 = .ok (.ifCond .ne 5, 3) := by decide +kernel
theorem dX10_restore_12 : decode cX10_restore 12 = .ok (.iconst 0, 1) := by decide +kernel
theorem dX10_restore_13 : decode cX10_restore 13 = .ok (.ireturn, 1) := by decide +kernel
theorem dX10_restore_14 : decode cX10_restore 14 = .ok (.aload_n 0, 1) := by decide +kernel
theorem dX10_restore_15 : decode cX10_restore 15 = .ok (.aload_n 0, 1) := by decide +kernel
theorem dX10_restore_16 : decode cX10_restore 16 = .ok (.getfield 560, 3) := by decide +kernel
theorem dX10_restore_19 : decode cX10_restore 19 = .ok (.putfield 360, 3) := by decide +kernel
theorem dX10_restore_22 : decode cX10_restore 22 = .ok (.aload_n 0, 1) := by decide +kernel
theorem dX10_restore_23 : decode cX10_restore 23 = .ok (.aload_n 0, 1) := by decide +kernel
theorem dX10_restore_24 : decode cX10_restore 24 = .ok (.getfield 563, 3) := by decide +kernel
theorem dX10_restore_27 : decode cX10_restore 27 = .ok (.putfield 363, 3) := by decide +kernel
theorem dX10_restore_30 : decode cX10_restore 30 = .ok (.aload_n 0, 1) := by decide +kernel
theorem dX10_restore_31 : decode cX10_restore 31 = .ok (.aload_n 0, 1) := by decide +kernel
theorem dX10_restore_32 : decode cX10_restore 32 = .ok (.getfield 178, 3) := by decide +kernel
theorem dX10_restore_35 : decode cX10_restore 35 = .ok (.aload_n 0, 1) := by decide +kernel
theorem dX10_restore_36 : decode cX10_restore 36 = .ok (.getfield 13, 3) := by decide +kernel
theorem dX10_restore_39 : decode cX10_restore 39 = .ok (.invokevirtual 356, 3) := by decide +kernel
theorem dX10_restore_42 : decode cX10_restore 42 = .ok (.aload_n 0, 1) := by decide +kernel
theorem dX10_restore_43 : decode cX10_restore 43 = .ok (.aload_n 0, 1) := by decide +kernel
theorem dX10_restore_44 : decode cX10_restore 44 = .ok (.getfield 181, 3) := by decide +kernel
theorem dX10_restore_47 : decode cX10_restore 47 = .ok (.aload_n 0, 1) := by decide +kernel
theorem dX10_restore_48 : decode cX10_restore 48 = .ok (.getfield 17, 3) := by decide +kernel
theorem dX10_restore_51 : decode cX10_restore 51 = .ok (.invokevirtual 356, 3) := by decide +kernel
theorem dX10_restore_54 : decode cX10_restore 54 = .ok (.aload_n 0, 1) := by decide +kernel
theorem dX10_restore_55 : decode cX10_restore 55 = .ok (.aload_n 0, 1) := by decide +kernel
theorem dX10_restore_56 : decode cX10_restore 56 = .ok (.getfield 184, 3) := by decide +kernel
theorem dX10_restore_59 : decode cX10_restore 59 = .ok (.aload_n 0, 1) := by decide +kernel
theorem dX10_restore_60 : decode cX10_restore 60 = .ok (.getfield 23, 3) := by decide +kernel
theorem dX10_restore_63 : decode cX10_restore 63 = .ok (.invokevirtual 356, 3) := by decide +kernel
theorem dX10_restore_66 : decode cX10_restore 66 = .ok (.aload_n 0, 1) := by decide +kernel
theorem dX10_restore_67 : decode cX10_restore 67 = .ok (.aload_n 0, 1) := by decide +kernel
theorem dX10_restore_68 : decode cX10_restore 68 = .ok (.getfield 187, 3) := by decide +kernel
theorem dX10_restore_71 : decode cX10_restore 71 = .ok (.aload_n 0, 1) := by decide +kernel
theorem dX10_restore_72 : decode cX10_restore 72 = .ok (.getfield 84, 3) := by decide +kernel
theorem dX10_restore_75 : decode cX10_restore 75 = .ok (.invokevirtual 356, 3) := by decide +kernel
theorem dX10_restore_78 : decode cX10_restore 78 = .ok (.aload_n 0, 1) := by decide +kernel
theorem dX10_restore_79 : decode cX10_restore 79 = .ok (.aload_n 0, 1) := by decide +kernel
theorem dX10_restore_80 : decode cX10_restore 80 = .ok (.getfield 190, 3) := by decide +kernel
theorem dX10_restore_83 : decode cX10_restore 83 = .ok (.aload_n 0, 1) := by decide +kernel
theorem dX10_restore_84 : decode cX10_restore 84 = .ok (.getfield 87, 3) := by decide +kernel
theorem dX10_restore_87 : decode cX10_restore 87 = .ok (.invokevirtual 356, 3) := by decide +kernel
theorem dX10_restore_90 : decode cX10_restore 90 = .ok (.iconst 1, 1) := by decide +kernel
theorem dX10_restore_91 : decode cX10_restore 91 = .ok (.ireturn, 1) := by decide +kernel
set_option maxHeartbeats 4000000 in
set_option maxRecDepth 100000 in
theorem n_X10_restore (m : Nat) {n : Nat} {kd : mK} {I : mI} {J : mJ} {P : mP} (hM : kM kd P m) (h0 : I m 90 = nI 0) : Ct yX10_restore cX10_restore 1 (some .boolean) 3 0 0 [.ref m] n kd I J P (am_is (some (.int (nI 0))) n kd (va_up I m (va_up (I m) 0 (nI 0))) J P) := by
  refine ct_of 0 (by decide +kernel) (Nat.le_of_ble_eq_true rfl) rfl ?_
  refine r_aload_n dX10_restore_0 rfl ?_
  refine r_iconst (v := nI 0) dX10_restore_1 (by decide) ?_
  refine r_putI dX10_restore_2 fl_X10_193 rfl rfl (kM_0 hM) ?_
  refine r_aload_n dX10_restore_5 rfl ?_
  refine r_getI dX10_restore_6 fl_X10_366 rfl (kM_0 hM) ?_
  rw [am_up_s, am_up_n _ _ (by decide)]
  rw [h0]
  refine r_if_ne (tgt := 14) dX10_restore_9 (by decide) (fun hz => absurd (show _ from rfl) hz) (fun _ => ?_)
  refine r_iconst (v := nI 0) dX10_restore_12 (by decide) ?_
  refine r_zret rfl dX10_restore_13 (by first | exact Or.inl rfl | exact Or.inr rfl | assumption) ?_
  exact am_is.mk

theorem dX9_door_0 : decode cX9_door 0 = .ok (.aload_n 0, 1) := by decide +kernel
theorem dX9_door_1 : decode cX9_door 1 = .ok (.getfield 78, 3) := by decide +kernel
theorem dX9_door_4 : decode cX9_door 4 = .ok (.getfield 329, 3) := by decide +kernel
theorem dX9_door_7 : decode cX9_door 7 = .ok (.ifCond .eq 19, 3) := by decide +kernel
theorem dX9_door_10 : decode cX9_door 10 = .ok (.iload_n 1, 1) := by decide +kernel
theorem dX9_door_11 : decode cX9_door 11 = .ok (.iconst (-1), 1) := by decide +kernel
theorem dX9_door_12 : decode cX9_door 12 = .ok (.if_icmp .lt 14, 3) := by decide +kernel
theorem dX9_door_15 : decode cX9_door 15 = .ok (.iload_n 1, 1) := by decide +kernel
theorem dX9_door_16 : decode cX9_door 16 = .ok (.aload_n 0, 1) := by decide +kernel
theorem dX9_door_17 : decode cX9_door 17 = .ok (.getfield 78, 3) := by decide +kernel
theorem dX9_door_20 : decode cX9_door 20 = .ok (.getfield 331, 3) := by decide +kernel
theorem dX9_door_23 : decode cX9_door 23 = .ok (.if_icmp .lt 11, 3) := by decide +kernel
theorem dX9_door_26 : decode cX9_door 26 = .ok (.new 139, 3) := by decide +kernel
theorem dX9_door_29 : decode cX9_door 29 = .ok (.dup, 1) := by decide +kernel
theorem dX9_door_30 : decode cX9_door 30 = .ok (.invokespecial 141, 3) := by decide +kernel
theorem dX9_door_33 : decode cX9_door 33 = .ok (.athrow, 1) := by decide +kernel
theorem dX9_door_34 : decode cX9_door 34 = .ok (.iload_n 1, 1) := by decide +kernel
theorem dX9_door_35 : decode cX9_door 35 = .ok (.iconst (-1), 1) := by decide +kernel
theorem dX9_door_36 : decode cX9_door 36 = .ok (.if_icmp .ne 13, 3) := by decide +kernel
theorem dX9_door_39 : decode cX9_door 39 = .ok (.aload_n 0, 1) := by decide +kernel
theorem dX9_door_40 : decode cX9_door 40 = .ok (.getfield 78, 3) := by decide +kernel
theorem dX9_door_43 : decode cX9_door 43 = .ok (.getfield 331, 3) := by decide +kernel
theorem dX9_door_46 : decode cX9_door 46 = .ok (.goto 12, 3) := by decide +kernel
theorem dX9_door_49 : decode cX9_door 49 = .ok (.aload_n 0, 1) := by decide +kernel
theorem dX9_door_50 : decode cX9_door 50 = .ok (.getfield 78, 3) := by decide +kernel
theorem dX9_door_53 : decode cX9_door 53 = .ok (.getfield 334, 3) := by decide +kernel
theorem dX9_door_56 : decode cX9_door 56 = .ok (.iload_n 1, 1) := by decide +kernel
theorem dX9_door_57 : decode cX9_door 57 = .ok (.iaload, 1) := by decide +kernel
theorem dX9_door_58 : decode cX9_door 58 = .ok (.ireturn, 1) := by decide +kernel
set_option maxHeartbeats 4000000 in
set_option maxRecDepth 100000 in
theorem n_X9_door (o : Nat) (x : Int32) {n : Nat} {kd : mK} {I : mI} {J : mJ} {P : mP} (ho : kd o = some (0, 9)) (hw : kd (o + 58) = some (0, 8)) (p14 : P o 14 = some (o + 58)) (h0 : I (o + 58) 6 = nI 0) : Ct yX9_door cX9_door 2 (some .int) 9 1 6 [.ref o, .int x] n kd I J P (fun z n' kd' I' J' P' => z = .inr "java/util/NoSuchElementException" ∧ n' = n ∧ kd' = kd ∧ I' = I ∧ J' = J ∧ P' = P) := by
  refine ct_of 0 (by decide +kernel) (Nat.le_of_ble_eq_true rfl) rfl ?_
  refine r_aload_n dX9_door_0 rfl ?_
  refine r_getR dX9_door_1 fl_X9_78 rfl ho p14 ?_
  refine r_getI dX9_door_4 fl_X9_329 rfl hw ?_
  rw [h0]
  refine r_if_eq (tgt := 26) dX9_door_7 (by decide) (fun _ => ?_) (fun hz => absurd (show _ from rfl) hz)
  refine r_throw (cls := "java/util/NoSuchElementException") (names := ["java/lang/RuntimeException", "java/lang/Exception"]) dX9_door_26 dX9_door_29 dX9_door_30 dX9_door_33 (by decide +kernel) (by decide +kernel) cl_X9_139 xi_NoSuchElementException xa_nse xb_nse (by decide) (Nat.le_of_ble_eq_true rfl) (by omega) (by omega) ?_
  exact ⟨rfl, rfl, rfl, rfl, rfl, rfl⟩

theorem dX10_door_0 : decode cX10_door 0 = .ok (.aload_n 0, 1) := by decide +kernel
theorem dX10_door_1 : decode cX10_door 1 = .ok (.iconst 0, 1) := by decide +kernel
theorem dX10_door_2 : decode cX10_door 2 = .ok (.putfield 193, 3) := by decide +kernel
theorem dX10_door_5 : decode cX10_door 5 = .ok (.aload_n 0, 1) := by decide +kernel
theorem dX10_door_6 : decode cX10_door 6 = .ok (.aload_n 0, 1) := by decide +kernel
theorem dX10_door_7 : decode cX10_door 7 = .ok (.getfield 139, 3) := by decide +kernel
theorem dX10_door_10 : decode cX10_door 10 = .ok (.iconst (-1), 1) := by decide +kernel
theorem dX10_door_11 : decode cX10_door 11 = .ok (.if_icmp .eq 20, 3) := by decide +kernel
theorem dX10_door_14 : decode cX10_door 14 = .ok (.iload_n 1, 1) := by decide +kernel
theorem dX10_door_15 : decode cX10_door 15 = .ok (.iconst (-1), 1) := by decide +kernel
theorem dX10_door_16 : decode cX10_door 16 = .ok (.if_icmp .lt 15, 3) := by decide +kernel
theorem dX10_door_19 : decode cX10_door 19 = .ok (.iload_n 1, 1) := by decide +kernel
theorem dX10_door_20 : decode cX10_door 20 = .ok (.aload_n 0, 1) := by decide +kernel
theorem dX10_door_21 : decode cX10_door 21 = .ok (.getfield 139, 3) := by decide +kernel
theorem dX10_door_24 : decode cX10_door 24 = .ok (.if_icmp .ge 7, 3) := by decide +kernel
theorem dX10_door_27 : decode cX10_door 27 = .ok (.iconst 1, 1) := by decide +kernel
theorem dX10_door_28 : decode cX10_door 28 = .ok (.goto 4, 3) := by decide +kernel
theorem dX10_door_31 : decode cX10_door 31 = .ok (.iconst 0, 1) := by decide +kernel
theorem dX10_door_32 : decode cX10_door 32 = .ok (.iconst 1, 1) := by decide +kernel
theorem dX10_door_33 : decode cX10_door 33 = .ok (.invokevirtual 343, 3) := by decide +kernel
theorem dX10_door_36 : decode cX10_door 36 = .ok (.ifCond .ne 5, 3) := by decide +kernel
theorem dX10_door_39 : decode cX10_door 39 = .ok (.iconst 0, 1) := by decide +kernel
theorem dX10_door_40 : decode cX10_door 40 = .ok (.ireturn, 1) := by decide +kernel
theorem dX10_door_41 : decode cX10_door 41 = .ok (.iload_n 1, 1) := by decide +kernel
theorem dX10_door_42 : decode cX10_door 42 = .ok (.iconst (-1), 1) := by decide +kernel
theorem dX10_door_43 : decode cX10_door 43 = .ok (.if_icmp .ne 10, 3) := by decide +kernel
theorem dX10_door_46 : decode cX10_door 46 = .ok (.aload_n 0, 1) := by decide +kernel
theorem dX10_door_47 : decode cX10_door 47 = .ok (.getfield 139, 3) := by decide +kernel
theorem dX10_door_50 : decode cX10_door 50 = .ok (.goto 9, 3) := by decide +kernel
theorem dX10_door_53 : decode cX10_door 53 = .ok (.aload_n 0, 1) := by decide +kernel
theorem dX10_door_54 : decode cX10_door 54 = .ok (.getfield 133, 3) := by decide +kernel
theorem dX10_door_57 : decode cX10_door 57 = .ok (.iload_n 1, 1) := by decide +kernel
theorem dX10_door_58 : decode cX10_door 58 = .ok (.iaload, 1) := by decide +kernel
theorem dX10_door_59 : decode cX10_door 59 = .ok (.ireturn, 1) := by decide +kernel
set_option maxHeartbeats 4000000 in
set_option maxRecDepth 100000 in
theorem n_X10_door (m : Nat) (x : Int32) {n : Nat} {kd : mK} {I : mI} {J : mJ} {P : mP} (hM : kM kd P m) (h0 : I m 74 = -1) : Ct yX10_door cX10_door 2 (some .int) 3 0 0 [.ref m, .int x] n kd I J P (am_is (some (.int (nI 0))) n kd (va_up I m (va_up (I m) 0 (nI 1))) J P) := by
  refine ct_of 0 (by decide +kernel) (Nat.le_of_ble_eq_true rfl) rfl ?_
  refine r_aload_n dX10_door_0 rfl ?_
  refine r_iconst (v := nI 0) dX10_door_1 (by decide) ?_
  refine r_putI dX10_door_2 fl_X10_193 rfl rfl (kM_0 hM) ?_
  refine r_aload_n dX10_door_5 rfl ?_
  refine r_aload_n dX10_door_6 rfl ?_
  refine r_getI dX10_door_7 fl_X10_139 rfl (kM_0 hM) ?_
  rw [am_up_s, am_up_n _ _ (by decide)]
  rw [h0]
  refine r_iconst (v := (-1)) dX10_door_10 (by decide) ?_
  refine r_icmp_eq (tgt := 31) dX10_door_11 (by decide) (fun _ => ?_) (fun hz => absurd (show _ from rfl) hz)
  refine r_iconst (v := nI 0) dX10_door_31 (by decide) ?_
  refine r_iconst (v := nI 1) dX10_door_32 (by decide) ?_
  refine r_virtE (c_X10_right m false (nI 1) hM (by rw [am_up_s, am_up_s]; rfl) (by decide)) lk_X10_343 mc_X10_right dX10_door_33 (kM_0 hM) (by decide) rfl rfl (Nat.le_of_ble_eq_true rfl) ?_
  refine r_if_ne (tgt := 41) dX10_door_36 (by decide) (fun hz => absurd (show _ from rfl) hz) (fun _ => ?_)
  refine r_iconst (v := nI 0) dX10_door_39 (by decide) ?_
  refine r_iret rfl dX10_door_40 ?_
  rw [show thM false (va_up I m (va_up (I m) 0 (nI 0))) m (nI 1) = va_up I m (va_up (I m) 0 (nI 1)) by show va_up (va_up I m _) m (va_up (va_up I m _ m) 0 (nI 1)) = _; rw [am_up_up, am_up_s, am_up_up]]
  exact am_is.mk

