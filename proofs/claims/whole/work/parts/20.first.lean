theorem dX1_start_0 : decode cX1_start 0 = .ok (.aload_n 0, 1) := by decide +kernel
theorem dX1_start_1 : decode cX1_start 1 = .ok (.iload_n 1, 1) := by decide +kernel
theorem dX1_start_2 : decode cX1_start 2 = .ok (.putfield 7, 3) := by decide +kernel
theorem dX1_start_5 : decode cX1_start 5 = .ok (.return_, 1) := by decide +kernel
set_option maxHeartbeats 4000000 in
set_option maxRecDepth 100000 in
theorem c_X1_start (o : Nat) (x : Int32) {n : Nat} {kd : mK} {I : mI} {J : mJ} {P : mP} (hk : kd o = some (0, 1)) : Ct yX1_start cX1_start 2 none 1 0 0 [.ref o, .int x] n kd I J P (am_is none n kd (va_up I o (va_up (I o) 0 x)) J P) := by
  refine ct_of 0 (by decide +kernel) (Nat.le_of_ble_eq_true rfl) rfl ?_
  refine r_aload_n dX1_start_0 rfl ?_
  refine r_iload_n dX1_start_1 rfl ?_
  refine r_putI dX1_start_2 fl_X1_7 rfl rfl (by assumption) ?_
  refine r_vret rfl dX1_start_5 ?_
  exact am_is.mk

theorem dX1_next_0 : decode cX1_next 0 = .ok (.aload_n 0, 1) := by decide +kernel
theorem dX1_next_1 : decode cX1_next 1 = .ok (.aload_n 0, 1) := by decide +kernel
theorem dX1_next_2 : decode cX1_next 2 = .ok (.getfield 7, 3) := by decide +kernel
theorem dX1_next_5 : decode cX1_next 5 = .ok (.ldc 13, 2) := by decide +kernel
theorem dX1_next_7 : decode cX1_next 7 = .ok (.imul, 1) := by decide +kernel
theorem dX1_next_8 : decode cX1_next 8 = .ok (.sipush 12345, 3) := by decide +kernel
theorem dX1_next_11 : decode cX1_next 11 = .ok (.iadd, 1) := by decide +kernel
theorem dX1_next_12 : decode cX1_next 12 = .ok (.putfield 7, 3) := by decide +kernel
theorem dX1_next_15 : decode cX1_next 15 = .ok (.iload_n 1, 1) := by decide +kernel
theorem dX1_next_16 : decode cX1_next 16 = .ok (.iconst 1, 1) := by decide +kernel
theorem dX1_next_17 : decode cX1_next 17 = .ok (.if_icmp .ge 7, 3) := by decide +kernel
theorem dX1_next_20 : decode cX1_next 20 = .ok (.iconst 0, 1) := by decide +kernel
theorem dX1_next_21 : decode cX1_next 21 = .ok (.goto 16, 3) := by decide +kernel
theorem dX1_next_24 : decode cX1_next 24 = .ok (.aload_n 0, 1) := by decide +kernel
theorem dX1_next_25 : decode cX1_next 25 = .ok (.getfield 7, 3) := by decide +kernel
theorem dX1_next_28 : decode cX1_next 28 = .ok (.bipush 16, 2) := by decide +kernel
theorem dX1_next_30 : decode cX1_next 30 = .ok (.ishr, 1) := by decide +kernel
theorem dX1_next_31 : decode cX1_next 31 = .ok (.sipush 32767, 3) := by decide +kernel
theorem dX1_next_34 : decode cX1_next 34 = .ok (.iand, 1) := by decide +kernel
theorem dX1_next_35 : decode cX1_next 35 = .ok (.iload_n 1, 1) := by decide +kernel
theorem dX1_next_36 : decode cX1_next 36 = .ok (.irem, 1) := by decide +kernel
theorem dX1_next_37 : decode cX1_next 37 = .ok (.ireturn, 1) := by decide +kernel
set_option maxHeartbeats 4000000 in
set_option maxRecDepth 100000 in
theorem c_X1_next (o : Nat) (x : Int32) {n : Nat} {kd : mK} {I : mI} {J : mJ} {P : mP} (hk : kd o = some (0, 1)) : Ct yX1_next cX1_next 2 (some .int) 1 0 0 [.ref o, .int x] n kd I J P (am_is (some (.int (if nI 1 ≤ x then ((I o 0 * 1103515245 + nI 12345) >>> (nI 16 &&& 31) &&& nI 32767) - ((I o 0 * 1103515245 + nI 12345) >>> (nI 16 &&& 31) &&& nI 32767) / x * x else nI 0))) n kd (va_up I o (va_up (I o) 0 (I o 0 * 1103515245 + nI 12345))) J P) := by
  refine ct_of 0 (by decide +kernel) (Nat.le_of_ble_eq_true rfl) rfl ?_
  refine r_aload_n dX1_next_0 rfl ?_
  refine r_aload_n dX1_next_1 rfl ?_
  refine r_getI dX1_next_2 fl_X1_7 rfl (by assumption) ?_
  refine r_ldc dX1_next_5 ic_X1_13 ?_
  refine r_imul dX1_next_7 ?_
  refine r_sipush (v := nI 12345) dX1_next_8 (by decide) ?_
  refine r_iadd dX1_next_11 ?_
  refine r_putI dX1_next_12 fl_X1_7 rfl rfl (by assumption) ?_
  refine r_iload_n dX1_next_15 rfl ?_
  refine r_iconst (v := nI 1) dX1_next_16 (by decide) ?_
  refine r_icmp_ge (tgt := 24) dX1_next_17 (by decide) (fun h17 => ?_) (fun h17 => ?_)
  · skip
    refine r_aload_n dX1_next_24 rfl ?_
    refine r_getI dX1_next_25 fl_X1_7 rfl (by assumption) ?_
    refine r_bipush (v := nI 16) dX1_next_28 (by decide) ?_
    refine r_ishr dX1_next_30 ?_
    refine r_sipush (v := nI 32767) dX1_next_31 (by decide) ?_
    refine r_iand dX1_next_34 ?_
    refine r_iload_n dX1_next_35 rfl ?_
    refine r_irem dX1_next_36 (fun h0 => absurd h17 (by rw [h0]; decide)) ?_
    refine r_iret rfl dX1_next_37 ?_
    exact ⟨by simp [h17, am_up2s], rfl, rfl, rfl, rfl, rfl⟩
  · skip
    refine r_iconst (v := nI 0) dX1_next_20 (by decide) ?_
    refine r_goto (tgt := 37) dX1_next_21 (by decide) ?_
    refine r_iret rfl dX1_next_37 ?_
    exact ⟨by simp [h17, am_up2s], rfl, rfl, rfl, rfl, rfl⟩

theorem dX6_numberIn_0 : decode cX6_numberIn 0 = .ok (.iload_n 1, 1) := by decide +kernel
theorem dX6_numberIn_1 : decode cX6_numberIn 1 = .ok (.ifCond .lt 10, 3) := by decide +kernel
theorem dX6_numberIn_4 : decode cX6_numberIn 4 = .ok (.iload_n 1, 1) := by decide +kernel
theorem dX6_numberIn_5 : decode cX6_numberIn 5 = .ok (.sipush 1000, 3) := by decide +kernel
theorem dX6_numberIn_8 : decode cX6_numberIn 8 = .ok (.if_icmp .lt 7, 3) := by decide +kernel
theorem dX6_numberIn_11 : decode cX6_numberIn 11 = .ok (.iconst 0, 1) := by decide +kernel
theorem dX6_numberIn_12 : decode cX6_numberIn 12 = .ok (.goto 17, 3) := by decide +kernel
theorem dX6_numberIn_15 : decode cX6_numberIn 15 = .ok (.aload_n 0, 1) := by decide +kernel
theorem dX6_numberIn_16 : decode cX6_numberIn 16 = .ok (.getfield 36, 3) := by decide +kernel
theorem dX6_numberIn_19 : decode cX6_numberIn 19 = .ok (.iload_n 1, 1) := by decide +kernel
theorem dX6_numberIn_20 : decode cX6_numberIn 20 = .ok (.laload, 1) := by decide +kernel
theorem dX6_numberIn_21 : decode cX6_numberIn 21 = .ok (.iconst 5, 1) := by decide +kernel
theorem dX6_numberIn_22 : decode cX6_numberIn 22 = .ok (.iload_n 2, 1) := by decide +kernel
theorem dX6_numberIn_23 : decode cX6_numberIn 23 = .ok (.imul, 1) := by decide +kernel
theorem dX6_numberIn_24 : decode cX6_numberIn 24 = .ok (.lshr, 1) := by decide +kernel
theorem dX6_numberIn_25 : decode cX6_numberIn 25 = .ok (.l2i, 1) := by decide +kernel
theorem dX6_numberIn_26 : decode cX6_numberIn 26 = .ok (.bipush 31, 2) := by decide +kernel
theorem dX6_numberIn_28 : decode cX6_numberIn 28 = .ok (.iand, 1) := by decide +kernel
theorem dX6_numberIn_29 : decode cX6_numberIn 29 = .ok (.ireturn, 1) := by decide +kernel
set_option maxHeartbeats 4000000 in
set_option maxRecDepth 100000 in
theorem c_X6_numberIn (o r : Nat) (i h : Int32) {n : Nat} {kd : mK} {I : mI} {J : mJ} {P : mP} (hk : kd o = some (0, 6)) (hr : P o 7 = some r) (hkr : kd r = some (4, 1000)) : Ct yX6_numberIn cX6_numberIn 3 (some .int) 1 0 0 [.ref o, .int i, .int h] n kd I J P (am_is (some (.int (if i < 0 then nI 0 else if i < nI 1000 then (J r i.toNatClampNeg >>> ((nI 5 * h).toInt64 &&& 63)).toInt32 &&& nI 31 else nI 0))) n kd I J P) := by
  refine ct_of 0 (by decide +kernel) (Nat.le_of_ble_eq_true rfl) rfl ?_
  refine r_iload_n dX6_numberIn_0 rfl ?_
  refine r_if_lt (tgt := 11) dX6_numberIn_1 (by decide) (fun h1 => ?_) (fun h1 => ?_)
  · skip
    refine r_iconst (v := nI 0) dX6_numberIn_11 (by decide) ?_
    refine r_goto (tgt := 29) dX6_numberIn_12 (by decide) ?_
    refine r_iret rfl dX6_numberIn_29 ?_
    exact ⟨by simp [*], rfl, rfl, rfl, rfl, rfl⟩
  · skip
    refine r_iload_n dX6_numberIn_4 rfl ?_
    refine r_sipush (v := nI 1000) dX6_numberIn_5 (by decide) ?_
    refine r_icmp_lt (tgt := 15) dX6_numberIn_8 (by decide) (fun h8 => ?_) (fun h8 => ?_)
    · skip
      refine r_aload_n dX6_numberIn_15 rfl ?_
      refine r_getR dX6_numberIn_16 fl_X6_36 rfl (by assumption) (by assumption) ?_
      refine r_iload_n dX6_numberIn_19 rfl ?_
      have hin : vp_in i 1000 := by rw [vp_in_iff]; rw [Int32.lt_iff_toInt_lt] at h1 h8; have e1 : (nI 1000).toInt = 1000 := (by decide); rw [e1] at h8; simp at h1; omega
      refine r_lald dX6_numberIn_20 (by assumption) hin rfl ?_
      refine r_iconst (v := nI 5) dX6_numberIn_21 (by decide) ?_
      refine r_iload_n dX6_numberIn_22 rfl ?_
      refine r_imul dX6_numberIn_23 ?_
      refine r_lshr dX6_numberIn_24 ?_
      refine r_l2i dX6_numberIn_25 ?_
      refine r_bipush (v := nI 31) dX6_numberIn_26 (by decide) ?_
      refine r_iand dX6_numberIn_28 ?_
      refine r_iret rfl dX6_numberIn_29 ?_
      exact ⟨by simp [*], rfl, rfl, rfl, rfl, rfl⟩
    · skip
      refine r_iconst (v := nI 0) dX6_numberIn_11 (by decide) ?_
      refine r_goto (tgt := 29) dX6_numberIn_12 (by decide) ?_
      refine r_iret rfl dX6_numberIn_29 ?_
      exact ⟨by simp [*], rfl, rfl, rfl, rfl, rfl⟩

