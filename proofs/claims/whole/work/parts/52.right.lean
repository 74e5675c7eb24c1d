/-! THE REFERENCE: what it throws, small questions -/
/-- the memory behind a test of the reference: what is thrown is set where it fails -/
def thM (ok : Bool) (I : mI) (m : Nat) (x : Int32) : mI := if ok then I else va_up I m (va_up (I m) 0 x)
theorem dX10_thrown_0 : decode cX10_thrown 0 = .ok (.aload_n 0, 1) := by decide +kernel
theorem dX10_thrown_1 : decode cX10_thrown 1 = .ok (.getfield 193, 3) := by decide +kernel
theorem dX10_thrown_4 : decode cX10_thrown 4 = .ok (.ireturn, 1) := by decide +kernel
set_option maxHeartbeats 4000000 in
set_option maxRecDepth 100000 in
theorem c_X10_thrown (m : Nat) {n : Nat} {kd : mK} {I : mI} {J : mJ} {P : mP} (hM : kM kd P m) : Ct yX10_thrown cX10_thrown 1 (some .int) 1 0 0 [.ref m] n kd I J P (am_is (some (.int (I m 0))) n kd I J P) := by
  refine ct_of 0 (by decide +kernel) (Nat.le_of_ble_eq_true rfl) rfl ?_
  refine r_aload_n dX10_thrown_0 rfl ?_
  refine r_getI dX10_thrown_1 fl_X10_193 rfl (kM_0 hM) ?_
  try simp (disch := omega) only [am_up_s, am_up_n, am_up_up]
  refine r_iret rfl dX10_thrown_4 ?_
  exact am_is.mk

theorem dX10_within_0 : decode cX10_within 0 = .ok (.iload_n 0, 1) := by decide +kernel
theorem dX10_within_1 : decode cX10_within 1 = .ok (.iload_n 1, 1) := by decide +kernel
theorem dX10_within_2 : decode cX10_within 2 = .ok (.if_icmp .lt 12, 3) := by decide +kernel
theorem dX10_within_5 : decode cX10_within 5 = .ok (.iload_n 0, 1) := by decide +kernel
theorem dX10_within_6 : decode cX10_within 6 = .ok (.iload_n 2, 1) := by decide +kernel
theorem dX10_within_7 : decode cX10_within 7 = .ok (.if_icmp .gt 7, 3) := by decide +kernel
theorem dX10_within_10 : decode cX10_within 10 = .ok (.iconst 1, 1) := by decide +kernel
theorem dX10_within_11 : decode cX10_within 11 = .ok (.goto 4, 3) := by decide +kernel
theorem dX10_within_14 : decode cX10_within 14 = .ok (.iconst 0, 1) := by decide +kernel
theorem dX10_within_15 : decode cX10_within 15 = .ok (.ireturn, 1) := by decide +kernel
set_option maxHeartbeats 4000000 in
set_option maxRecDepth 100000 in
theorem c_X10_within (x a b : Int32) {n : Nat} {kd : mK} {I : mI} {J : mJ} {P : mP} : Ct yX10_within cX10_within 3 (some .boolean) 1 0 0 [.int x, .int a, .int b] n kd I J P (am_is (some (.int (bz (!decide (x < a) && !decide (b < x))))) n kd I J P) := by
  refine ct_of 0 (by decide +kernel) (Nat.le_of_ble_eq_true rfl) rfl ?_
  refine r_iload_n dX10_within_0 rfl ?_
  refine r_iload_n dX10_within_1 rfl ?_
  refine r_icmp_lt (tgt := 14) dX10_within_2 (by decide) (fun h2 => ?_) (fun h2 => ?_)
  · skip
    refine r_iconst (v := nI 0) dX10_within_14 (by decide) ?_
    refine r_zret rfl dX10_within_15 (by first | exact Or.inl rfl | exact Or.inr rfl | assumption) ?_
    exact ⟨by simp [*, bz], rfl, rfl, rfl, rfl, rfl⟩
  · skip
    refine r_iload_n dX10_within_5 rfl ?_
    refine r_iload_n dX10_within_6 rfl ?_
    refine r_icmp_gt (tgt := 14) dX10_within_7 (by decide) (fun h7 => ?_) (fun h7 => ?_)
    · skip
      refine r_iconst (v := nI 0) dX10_within_14 (by decide) ?_
      refine r_zret rfl dX10_within_15 (by first | exact Or.inl rfl | exact Or.inr rfl | assumption) ?_
      exact ⟨by simp [*, bz], rfl, rfl, rfl, rfl, rfl⟩
    · skip
      refine r_iconst (v := nI 1) dX10_within_10 (by decide) ?_
      refine r_goto (tgt := 15) dX10_within_11 (by decide) ?_
      refine r_zret rfl dX10_within_15 (by first | exact Or.inl rfl | exact Or.inr rfl | assumption) ?_
      exact ⟨by simp [*, bz], rfl, rfl, rfl, rfl, rfl⟩

theorem dX10_right_0 : decode cX10_right 0 = .ok (.aload_n 0, 1) := by decide +kernel
theorem dX10_right_1 : decode cX10_right 1 = .ok (.getfield 193, 3) := by decide +kernel
theorem dX10_right_4 : decode cX10_right 4 = .ok (.ifCond .ne 12, 3) := by decide +kernel
theorem dX10_right_7 : decode cX10_right 7 = .ok (.iload_n 1, 1) := by decide +kernel
theorem dX10_right_8 : decode cX10_right 8 = .ok (.ifCond .ne 8, 3) := by decide +kernel
theorem dX10_right_11 : decode cX10_right 11 = .ok (.aload_n 0, 1) := by decide +kernel
theorem dX10_right_12 : decode cX10_right 12 = .ok (.iload_n 2, 1) := by decide +kernel
theorem dX10_right_13 : decode cX10_right 13 = .ok (.putfield 193, 3) := by decide +kernel
theorem dX10_right_16 : decode cX10_right 16 = .ok (.aload_n 0, 1) := by decide +kernel
theorem dX10_right_17 : decode cX10_right 17 = .ok (.getfield 193, 3) := by decide +kernel
theorem dX10_right_20 : decode cX10_right 20 = .ok (.ifCond .ne 7, 3) := by decide +kernel
theorem dX10_right_23 : decode cX10_right 23 = .ok (.iconst 1, 1) := by decide +kernel
theorem dX10_right_24 : decode cX10_right 24 = .ok (.goto 4, 3) := by decide +kernel
theorem dX10_right_27 : decode cX10_right 27 = .ok (.iconst 0, 1) := by decide +kernel
theorem dX10_right_28 : decode cX10_right 28 = .ok (.ireturn, 1) := by decide +kernel
set_option maxHeartbeats 4000000 in
set_option maxRecDepth 100000 in
theorem c_X10_right (m : Nat) (ok : Bool) (x : Int32) {n : Nat} {kd : mK} {I : mI} {J : mJ} {P : mP} (hM : kM kd P m) (h0 : I m 0 = 0) (hx : ¬ x = 0) : Ct yX10_right cX10_right 3 (some .boolean) 1 0 0 [.ref m, .int (bz ok), .int x] n kd I J P (am_is (some (.int (bz ok))) n kd (thM ok I m x) J P) := by
  refine ct_of 0 (by decide +kernel) (Nat.le_of_ble_eq_true rfl) rfl ?_
  cases ok with
  | true =>
    refine r_aload_n dX10_right_0 rfl ?_
    refine r_getI dX10_right_1 fl_X10_193 rfl (kM_0 hM) ?_
    rw [h0]
    refine r_if_ne (tgt := 16) dX10_right_4 (by decide) (fun hz => absurd (show _ from rfl) hz) (fun _ => ?_)
    refine r_iload_n dX10_right_7 rfl ?_
    refine r_if_ne (tgt := 16) dX10_right_8 (by decide) (fun _ => ?_) (fun hz => absurd hz (show ¬ _ from (by decide)))
    refine r_aload_n dX10_right_16 rfl ?_
    refine r_getI dX10_right_17 fl_X10_193 rfl (kM_0 hM) ?_
    rw [h0]
    refine r_if_ne (tgt := 27) dX10_right_20 (by decide) (fun hz => absurd (show _ from rfl) hz) (fun _ => ?_)
    refine r_iconst (v := nI 1) dX10_right_23 (by decide) ?_
    refine r_goto (tgt := 28) dX10_right_24 (by decide) ?_
    refine r_zret rfl dX10_right_28 (by first | exact Or.inl rfl | exact Or.inr rfl | assumption) ?_
    exact am_is.mk
  | false =>
    refine r_aload_n dX10_right_0 rfl ?_
    refine r_getI dX10_right_1 fl_X10_193 rfl (kM_0 hM) ?_
    rw [h0]
    refine r_if_ne (tgt := 16) dX10_right_4 (by decide) (fun hz => absurd (show _ from rfl) hz) (fun _ => ?_)
    refine r_iload_n dX10_right_7 rfl ?_
    refine r_if_ne (tgt := 16) dX10_right_8 (by decide) (fun hz => absurd (show _ from rfl) hz) (fun _ => ?_)
    refine r_aload_n dX10_right_11 rfl ?_
    refine r_iload_n dX10_right_12 rfl ?_
    refine r_putI dX10_right_13 fl_X10_193 rfl rfl (kM_0 hM) ?_
    try simp (disch := omega) only [am_up_s, am_up_n, am_up_up]
    refine r_aload_n dX10_right_16 rfl ?_
    refine r_getI dX10_right_17 fl_X10_193 rfl (kM_0 hM) ?_
    rw [am_up2s]
    refine r_if_ne (tgt := 27) dX10_right_20 (by decide) (fun _ => ?_) (fun hz => absurd hz (show ¬ _ from hx))
    refine r_iconst (v := nI 0) dX10_right_27 (by decide) ?_
    refine r_zret rfl dX10_right_28 (by first | exact Or.inl rfl | exact Or.inr rfl | assumption) ?_
    exact am_is.mk

theorem dX10_isHouse_0 : decode cX10_isHouse 0 = .ok (.aload_n 0, 1) := by decide +kernel
theorem dX10_isHouse_1 : decode cX10_isHouse 1 = .ok (.iload_n 1, 1) := by decide +kernel
theorem dX10_isHouse_2 : decode cX10_isHouse 2 = .ok (.ifCond .lt 15, 3) := by decide +kernel
theorem dX10_isHouse_5 : decode cX10_isHouse 5 = .ok (.iload_n 1, 1) := by decide +kernel
theorem dX10_isHouse_6 : decode cX10_isHouse 6 = .ok (.aload_n 0, 1) := by decide +kernel
theorem dX10_isHouse_7 : decode cX10_isHouse 7 = .ok (.getfield 350, 3) := by decide +kernel
theorem dX10_isHouse_10 : decode cX10_isHouse 10 = .ok (.if_icmp .ge 7, 3) := by decide +kernel
theorem dX10_isHouse_13 : decode cX10_isHouse 13 = .ok (.iconst 1, 1) := by decide +kernel
theorem dX10_isHouse_14 : decode cX10_isHouse 14 = .ok (.goto 4, 3) := by decide +kernel
theorem dX10_isHouse_17 : decode cX10_isHouse 17 = .ok (.iconst 0, 1) := by decide +kernel
theorem dX10_isHouse_18 : decode cX10_isHouse 18 = .ok (.iconst 1, 1) := by decide +kernel
theorem dX10_isHouse_19 : decode cX10_isHouse 19 = .ok (.invokevirtual 343, 3) := by decide +kernel
theorem dX10_isHouse_22 : decode cX10_isHouse 22 = .ok (.ireturn, 1) := by decide +kernel
set_option maxHeartbeats 4000000 in
set_option maxRecDepth 100000 in
theorem c_X10_isHouse (m : Nat) (y : Int32) {n : Nat} {kd : mK} {I : mI} {J : mJ} {P : mP} (hM : kM kd P m) (h0 : I m 0 = 0) : Ct yX10_isHouse cX10_isHouse 2 (some .boolean) 2 0 0 [.ref m, .int y] n kd I J P (am_is (some (.int (bz (!decide (y < 0) && decide (y < I m 1))))) n kd (thM (!decide (y < 0) && decide (y < I m 1)) I m (nI 1)) J P) := by
  refine ct_of 0 (by decide +kernel) (Nat.le_of_ble_eq_true rfl) rfl ?_
  by_cases h1 : y < 0
  · have hok : (!decide (y < 0) && decide (y < I m 1)) = false := by simp [h1]
    refine r_aload_n dX10_isHouse_0 rfl ?_
    refine r_iload_n dX10_isHouse_1 rfl ?_
    refine r_if_lt (tgt := 17) dX10_isHouse_2 (by decide) (fun _ => ?_) (fun hz => absurd (show _ from h1) hz)
    refine r_iconst (v := nI 0) dX10_isHouse_17 (by decide) ?_
    refine r_iconst (v := nI 1) dX10_isHouse_18 (by decide) ?_
    refine r_virtE (c_X10_right m false (nI 1) hM h0 (by decide)) lk_X10_343 mc_X10_right dX10_isHouse_19 (kM_0 hM) (by decide) rfl rfl (Nat.le_of_ble_eq_true rfl) ?_
    refine r_zret rfl dX10_isHouse_22 (bz01 _) ?_
    exact ⟨by rw [hok], rfl, rfl, by rw [hok], rfl, rfl⟩
  · by_cases h2 : y < I m 1
    · have hok : (!decide (y < 0) && decide (y < I m 1)) = true := by simp [h1, h2]
      refine r_aload_n dX10_isHouse_0 rfl ?_
      refine r_iload_n dX10_isHouse_1 rfl ?_
      refine r_if_lt (tgt := 17) dX10_isHouse_2 (by decide) (fun hz => absurd hz (show ¬ _ from h1)) (fun _ => ?_)
      refine r_iload_n dX10_isHouse_5 rfl ?_
      refine r_aload_n dX10_isHouse_6 rfl ?_
      refine r_getI dX10_isHouse_7 fl_X10_350 rfl (kM_0 hM) ?_
      try simp (disch := omega) only [am_up_s, am_up_n, am_up_up]
      refine r_icmp_ge (tgt := 17) dX10_isHouse_10 (by decide) (fun hz => absurd hz (show ¬ _ from (Int32.not_le.mpr h2))) (fun _ => ?_)
      refine r_iconst (v := nI 1) dX10_isHouse_13 (by decide) ?_
      refine r_goto (tgt := 18) dX10_isHouse_14 (by decide) ?_
      refine r_iconst (v := nI 1) dX10_isHouse_18 (by decide) ?_
      refine r_virtE (c_X10_right m true (nI 1) hM h0 (by decide)) lk_X10_343 mc_X10_right dX10_isHouse_19 (kM_0 hM) (by decide) rfl rfl (Nat.le_of_ble_eq_true rfl) ?_
      refine r_zret rfl dX10_isHouse_22 (bz01 _) ?_
      exact ⟨by rw [hok], rfl, rfl, by rw [hok], rfl, rfl⟩
    · have hok : (!decide (y < 0) && decide (y < I m 1)) = false := by simp [h2]
      refine r_aload_n dX10_isHouse_0 rfl ?_
      refine r_iload_n dX10_isHouse_1 rfl ?_
      refine r_if_lt (tgt := 17) dX10_isHouse_2 (by decide) (fun hz => absurd hz (show ¬ _ from h1)) (fun _ => ?_)
      refine r_iload_n dX10_isHouse_5 rfl ?_
      refine r_aload_n dX10_isHouse_6 rfl ?_
      refine r_getI dX10_isHouse_7 fl_X10_350 rfl (kM_0 hM) ?_
      try simp (disch := omega) only [am_up_s, am_up_n, am_up_up]
      refine r_icmp_ge (tgt := 17) dX10_isHouse_10 (by decide) (fun _ => ?_) (fun hz => absurd (show _ from (Int32.not_lt.mp h2)) hz)
      refine r_iconst (v := nI 0) dX10_isHouse_17 (by decide) ?_
      refine r_iconst (v := nI 1) dX10_isHouse_18 (by decide) ?_
      refine r_virtE (c_X10_right m false (nI 1) hM h0 (by decide)) lk_X10_343 mc_X10_right dX10_isHouse_19 (kM_0 hM) (by decide) rfl rfl (Nat.le_of_ble_eq_true rfl) ?_
      refine r_zret rfl dX10_isHouse_22 (bz01 _) ?_
      exact ⟨by rw [hok], rfl, rfl, by rw [hok], rfl, rfl⟩

theorem dX10_isTwo_0 : decode cX10_isTwo 0 = .ok (.aload_n 0, 1) := by decide +kernel
theorem dX10_isTwo_1 : decode cX10_isTwo 1 = .ok (.iload_n 1, 1) := by decide +kernel
theorem dX10_isTwo_2 : decode cX10_isTwo 2 = .ok (.ifCond .eq 8, 3) := by decide +kernel
theorem dX10_isTwo_5 : decode cX10_isTwo 5 = .ok (.iload_n 1, 1) := by decide +kernel
theorem dX10_isTwo_6 : decode cX10_isTwo 6 = .ok (.iconst 1, 1) := by decide +kernel
theorem dX10_isTwo_7 : decode cX10_isTwo 7 = .ok (.if_icmp .ne 7, 3) := by decide +kernel
theorem dX10_isTwo_10 : decode cX10_isTwo 10 = .ok (.iconst 1, 1) := by decide +kernel
theorem dX10_isTwo_11 : decode cX10_isTwo 11 = .ok (.goto 4, 3) := by decide +kernel
theorem dX10_isTwo_14 : decode cX10_isTwo 14 = .ok (.iconst 0, 1) := by decide +kernel
theorem dX10_isTwo_15 : decode cX10_isTwo 15 = .ok (.iconst 1, 1) := by decide +kernel
theorem dX10_isTwo_16 : decode cX10_isTwo 16 = .ok (.invokevirtual 343, 3) := by decide +kernel
theorem dX10_isTwo_19 : decode cX10_isTwo 19 = .ok (.ireturn, 1) := by decide +kernel
set_option maxHeartbeats 4000000 in
set_option maxRecDepth 100000 in
theorem c_X10_isTwo (m : Nat) (y : Int32) {n : Nat} {kd : mK} {I : mI} {J : mJ} {P : mP} (hM : kM kd P m) (h0 : I m 0 = 0) : Ct yX10_isTwo cX10_isTwo 2 (some .boolean) 2 0 0 [.ref m, .int y] n kd I J P (am_is (some (.int (bz (decide (y = 0) || decide (y = nI 1))))) n kd (thM (decide (y = 0) || decide (y = nI 1)) I m (nI 1)) J P) := by
  refine ct_of 0 (by decide +kernel) (Nat.le_of_ble_eq_true rfl) rfl ?_
  by_cases h1 : y = 0
  · have hok : (decide (y = 0) || decide (y = nI 1)) = true := by simp [h1]
    refine r_aload_n dX10_isTwo_0 rfl ?_
    refine r_iload_n dX10_isTwo_1 rfl ?_
    refine r_if_eq (tgt := 10) dX10_isTwo_2 (by decide) (fun _ => ?_) (fun hz => absurd (show _ from h1) hz)
    refine r_iconst (v := nI 1) dX10_isTwo_10 (by decide) ?_
    refine r_goto (tgt := 15) dX10_isTwo_11 (by decide) ?_
    refine r_iconst (v := nI 1) dX10_isTwo_15 (by decide) ?_
    refine r_virtE (c_X10_right m true (nI 1) hM h0 (by decide)) lk_X10_343 mc_X10_right dX10_isTwo_16 (kM_0 hM) (by decide) rfl rfl (Nat.le_of_ble_eq_true rfl) ?_
    refine r_zret rfl dX10_isTwo_19 (bz01 _) ?_
    exact ⟨by rw [hok], rfl, rfl, by rw [hok], rfl, rfl⟩
  · by_cases h2 : y = nI 1
    · have hok : (decide (y = 0) || decide (y = nI 1)) = true := by simp [h2]
      refine r_aload_n dX10_isTwo_0 rfl ?_
      refine r_iload_n dX10_isTwo_1 rfl ?_
      refine r_if_eq (tgt := 10) dX10_isTwo_2 (by decide) (fun hz => absurd hz (show ¬ _ from h1)) (fun _ => ?_)
      refine r_iload_n dX10_isTwo_5 rfl ?_
      refine r_iconst (v := nI 1) dX10_isTwo_6 (by decide) ?_
      refine r_icmp_ne (tgt := 14) dX10_isTwo_7 (by decide) (fun hz => absurd (show _ from h2) hz) (fun _ => ?_)
      refine r_iconst (v := nI 1) dX10_isTwo_10 (by decide) ?_
      refine r_goto (tgt := 15) dX10_isTwo_11 (by decide) ?_
      refine r_iconst (v := nI 1) dX10_isTwo_15 (by decide) ?_
      refine r_virtE (c_X10_right m true (nI 1) hM h0 (by decide)) lk_X10_343 mc_X10_right dX10_isTwo_16 (kM_0 hM) (by decide) rfl rfl (Nat.le_of_ble_eq_true rfl) ?_
      refine r_zret rfl dX10_isTwo_19 (bz01 _) ?_
      exact ⟨by rw [hok], rfl, rfl, by rw [hok], rfl, rfl⟩
    · have hok : (decide (y = 0) || decide (y = nI 1)) = false := by simp [h1, h2]
      refine r_aload_n dX10_isTwo_0 rfl ?_
      refine r_iload_n dX10_isTwo_1 rfl ?_
      refine r_if_eq (tgt := 10) dX10_isTwo_2 (by decide) (fun hz => absurd hz (show ¬ _ from h1)) (fun _ => ?_)
      refine r_iload_n dX10_isTwo_5 rfl ?_
      refine r_iconst (v := nI 1) dX10_isTwo_6 (by decide) ?_
      refine r_icmp_ne (tgt := 14) dX10_isTwo_7 (by decide) (fun _ => ?_) (fun hz => absurd hz (show ¬ _ from h2))
      refine r_iconst (v := nI 0) dX10_isTwo_14 (by decide) ?_
      refine r_iconst (v := nI 1) dX10_isTwo_15 (by decide) ?_
      refine r_virtE (c_X10_right m false (nI 1) hM h0 (by decide)) lk_X10_343 mc_X10_right dX10_isTwo_16 (kM_0 hM) (by decide) rfl rfl (Nat.le_of_ble_eq_true rfl) ?_
      refine r_zret rfl dX10_isTwo_19 (bz01 _) ?_
      exact ⟨by rw [hok], rfl, rfl, by rw [hok], rfl, rfl⟩

theorem dX10_at_0 : decode cX10_at 0 = .ok (.aload_n 0, 1) := by decide +kernel
theorem dX10_at_1 : decode cX10_at 1 = .ok (.getfield 96, 3) := by decide +kernel
theorem dX10_at_4 : decode cX10_at 4 = .ok (.bipush 8, 2) := by decide +kernel
theorem dX10_at_6 : decode cX10_at 6 = .ok (.iload_n 1, 1) := by decide +kernel
theorem dX10_at_7 : decode cX10_at 7 = .ok (.imul, 1) := by decide +kernel
theorem dX10_at_8 : decode cX10_at 8 = .ok (.iload_n 2, 1) := by decide +kernel
theorem dX10_at_9 : decode cX10_at 9 = .ok (.iadd, 1) := by decide +kernel
theorem dX10_at_10 : decode cX10_at 10 = .ok (.iaload, 1) := by decide +kernel
theorem dX10_at_11 : decode cX10_at 11 = .ok (.ireturn, 1) := by decide +kernel
set_option maxHeartbeats 4000000 in
set_option maxRecDepth 100000 in
theorem c_X10_at (m i h : Nat) {n : Nat} {kd : mK} {I : mI} {J : mJ} {P : mP} (hM : kM kd P m) (hi : i < 1000) (hh : h < 8) : Ct yX10_at cX10_at 3 (some .int) 1 0 0 [.ref m, .int (nI i), .int (nI h)] n kd I J P (am_is (some (.int (I (m + 27) (8 * i + h)))) n kd I J P) := by
  refine ct_of 0 (by decide +kernel) (Nat.le_of_ble_eq_true rfl) rfl ?_
  refine r_aload_n dX10_at_0 rfl ?_
  refine r_getR dX10_at_1 fl_X10_96 rfl (kM_0 hM) (pM_51 hM) ?_
  refine r_bipush (v := nI 8) dX10_at_4 (by decide) ?_
  refine r_iload_n dX10_at_6 rfl ?_
  refine r_imul dX10_at_7 ?_
  rw [pk_mul]
  refine r_iload_n dX10_at_8 rfl ?_
  refine r_iadd dX10_at_9 ?_
  rw [nI_add (8 * i) h]
  refine r_iald dX10_at_10 (aM_51 hM) (nI_in8 8000 (by omega) (by decide)) (nI_clamp (by omega)) ?_
  try simp (disch := omega) only [am_up_s, am_up_n, am_up_up]
  refine r_iret rfl dX10_at_11 ?_
  exact am_is.mk

def myR (B : Nat → Int32) (h : Nat) : Nat → Int32
  | 0 => nI 0
  | i + 1 => myR B h i ||| (nI 1 <<< (B (8 * i + h) &&& 31))
theorem dX10_mayOf_0 : decode cX10_mayOf 0 = .ok (.iconst 0, 1) := by decide +kernel
theorem dX10_mayOf_1 : decode cX10_mayOf 1 = .ok (.istore_n 2, 1) := by decide +kernel
theorem dX10_mayOf_2 : decode cX10_mayOf 2 = .ok (.iconst 0, 1) := by decide +kernel
theorem dX10_mayOf_3 : decode cX10_mayOf 3 = .ok (.istore_n 3, 1) := by decide +kernel
theorem dX10_mayOf_4 : decode cX10_mayOf 4 = .ok (.iload_n 3, 1) := by decide +kernel
theorem dX10_mayOf_5 : decode cX10_mayOf 5 = .ok (.aload_n 0, 1) := by decide +kernel
theorem dX10_mayOf_6 : decode cX10_mayOf 6 = .ok (.getfield 413, 3) := by decide +kernel
theorem dX10_mayOf_9 : decode cX10_mayOf 9 = .ok (.if_icmp .ge 20, 3) := by decide +kernel
theorem dX10_mayOf_12 : decode cX10_mayOf 12 = .ok (.iload_n 2, 1) := by decide +kernel
theorem dX10_mayOf_13 : decode cX10_mayOf 13 = .ok (.iconst 1, 1) := by decide +kernel
theorem dX10_mayOf_14 : decode cX10_mayOf 14 = .ok (.aload_n 0, 1) := by decide +kernel
theorem dX10_mayOf_15 : decode cX10_mayOf 15 = .ok (.iload_n 3, 1) := by decide +kernel
theorem dX10_mayOf_16 : decode cX10_mayOf 16 = .ok (.iload_n 1, 1) := by decide +kernel
theorem dX10_mayOf_17 : decode cX10_mayOf 17 = .ok (.invokevirtual 439, 3) := by decide +kernel
theorem dX10_mayOf_20 : decode cX10_mayOf 20 = .ok (.ishl, 1) := by decide +kernel
theorem dX10_mayOf_21 : decode cX10_mayOf 21 = .ok (.ior, 1) := by decide +kernel
theorem dX10_mayOf_22 : decode cX10_mayOf 22 = .ok (.istore_n 2, 1) := by decide +kernel
theorem dX10_mayOf_23 : decode cX10_mayOf 23 = .ok (.iinc 3 1, 3) := by decide +kernel
theorem dX10_mayOf_26 : decode cX10_mayOf 26 = .ok (.goto (-22), 3) := by decide +kernel
theorem dX10_mayOf_29 : decode cX10_mayOf 29 = .ok (.iload_n 2, 1) := by decide +kernel
theorem dX10_mayOf_30 : decode cX10_mayOf 30 = .ok (.ireturn, 1) := by decide +kernel

set_option maxHeartbeats 4000000 in
set_option maxRecDepth 100000 in
theorem w_X10_mayOf (m h F : Nat) {n : Nat} {kd : mK} {I : mI} {J : mJ} {P : mP} (hM : kM kd P m) (hh : h < 8) (hF : I m 52 = nI F) (hF1 : F ≤ 1000) : ∀ (c i : Nat), i + c = F → Ru yX10_mayOf.cls cX10_mayOf 4 (some .int) yX10_mayOf.name 2 (am_is (some (.int (myR (I (m + 27)) h F))) n kd I J P) 0 0 4 [some (.ref m), some (.int (nI h)), some (.int (myR (I (m + 27)) h i)), some (.int (nI i))] [] n kd I J P := by
  intro c
  induction c with
  | zero =>
    intro i hi
    have hi : i = F := by omega
    rw [hi]
    refine r_iload_n dX10_mayOf_4 rfl ?_
    refine r_aload_n dX10_mayOf_5 rfl ?_
    refine r_getI dX10_mayOf_6 fl_X10_413 rfl (kM_0 hM) ?_
    rw [hF]
    refine r_icmp_ge (tgt := 29) dX10_mayOf_9 (by decide) (fun _ => ?_) (fun hz => absurd (show _ from (by rw [nI_leI (by omega) (by omega)]; omega)) hz)
    refine r_iload_n dX10_mayOf_29 rfl ?_
    refine r_iret rfl dX10_mayOf_30 ?_
    exact am_is.mk
  | succ c ih =>
    intro i hi
    refine r_iload_n dX10_mayOf_4 rfl ?_
    refine r_aload_n dX10_mayOf_5 rfl ?_
    refine r_getI dX10_mayOf_6 fl_X10_413 rfl (kM_0 hM) ?_
    rw [hF]
    refine r_icmp_ge (tgt := 29) dX10_mayOf_9 (by decide) (fun hz => absurd hz (show ¬ _ from (by rw [nI_leI (by omega) (by omega)]; omega))) (fun _ => ?_)
    refine r_iload_n dX10_mayOf_12 rfl ?_
    refine r_iconst (v := nI 1) dX10_mayOf_13 (by decide) ?_
    refine r_aload_n dX10_mayOf_14 rfl ?_
    refine r_iload_n dX10_mayOf_15 rfl ?_
    refine r_iload_n dX10_mayOf_16 rfl ?_
    refine r_virtE (c_X10_at m i h hM (by omega) hh) lk_X10_439 mc_X10_at dX10_mayOf_17 (kM_0 hM) (by decide) rfl rfl (Nat.le_of_ble_eq_true rfl) ?_
    refine r_ishl dX10_mayOf_20 ?_
    refine r_ior dX10_mayOf_21 ?_
    refine r_istore_n dX10_mayOf_22 (by decide) ?_
    refine r_iinc (v := nI (i + 1)) dX10_mayOf_23 rfl (nI_inc i) ?_
    refine r_goto (tgt := 4) dX10_mayOf_26 (by decide) ?_
    exact ih (i + 1) (by omega)

set_option maxHeartbeats 4000000 in
set_option maxRecDepth 100000 in
theorem c_X10_mayOf (m h F : Nat) {n : Nat} {kd : mK} {I : mI} {J : mJ} {P : mP} (hM : kM kd P m) (hh : h < 8) (hF : I m 52 = nI F) (hF1 : F ≤ 1000) : Ct yX10_mayOf cX10_mayOf 4 (some .int) 2 0 0 [.ref m, .int (nI h)] n kd I J P (am_is (some (.int (myR (I (m + 27)) h F))) n kd I J P) := by
  refine ct_of 2 (by decide +kernel) (Nat.le_of_ble_eq_true rfl) rfl ?_
  refine r_iconst (v := nI 0) dX10_mayOf_0 (by decide) ?_
  refine r_istore_n dX10_mayOf_1 (by decide) ?_
  refine r_iconst (v := nI 0) dX10_mayOf_2 (by decide) ?_
  refine r_istore_n dX10_mayOf_3 (by decide) ?_
  exact w_X10_mayOf m h F hM hh hF hF1 F 0 (by omega)

