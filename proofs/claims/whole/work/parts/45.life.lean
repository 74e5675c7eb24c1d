/-! SMALL THINGS OF LIFE; TESTS THAT THROW -/
def am_ot (ok : Bool) (E : String) (v : Option Value) (n : Nat) (kd : mK) (I : mI) (J : mJ) (P : mP) : am_Post := fun o n' kd' I' J' P' => o = (if ok then .inl v else .inr E) ∧ n' = n ∧ kd' = kd ∧ I' = I ∧ J' = J ∧ P' = P
theorem dX9_mustBeWhat_0 : decode cX9_mustBeWhat 0 = .ok (.iload_n 1, 1) := by decide +kernel
theorem dX9_mustBeWhat_1 : decode cX9_mustBeWhat 1 = .ok (.ifCond .lt 8, 3) := by decide +kernel
theorem dX9_mustBeWhat_4 : decode cX9_mustBeWhat 4 = .ok (.iload_n 1, 1) := by decide +kernel
theorem dX9_mustBeWhat_5 : decode cX9_mustBeWhat 5 = .ok (.iload_n 2, 1) := by decide +kernel
theorem dX9_mustBeWhat_6 : decode cX9_mustBeWhat 6 = .ok (.if_icmp .lt 11, 3) := by decide +kernel
theorem dX9_mustBeWhat_9 : decode cX9_mustBeWhat 9 = .ok (.new 139, 3) := by decide +kernel
theorem dX9_mustBeWhat_12 : decode cX9_mustBeWhat 12 = .ok (.dup, 1) := by decide +kernel
theorem dX9_mustBeWhat_13 : decode cX9_mustBeWhat 13 = .ok (.invokespecial 141, 3) := by decide +kernel
theorem dX9_mustBeWhat_16 : decode cX9_mustBeWhat 16 = .ok (.athrow, 1) := by decide +kernel
theorem dX9_mustBeWhat_17 : decode cX9_mustBeWhat 17 = .ok (.return_, 1) := by decide +kernel
set_option maxHeartbeats 4000000 in
set_option maxRecDepth 100000 in
theorem c_X9_mustBeWhat (o : Nat) (x y : Int32) {n : Nat} {kd : mK} {I : mI} {J : mJ} {P : mP} : Ct yX9_mustBeWhat cX9_mustBeWhat 3 none 8 1 6 [.ref o, .int x, .int y] n kd I J P (am_ot (!decide (x < 0) && decide (x < y)) "java/util/NoSuchElementException" none n kd I J P) := by
  refine ct_of 0 (by decide +kernel) (Nat.le_of_ble_eq_true rfl) rfl ?_
  refine r_iload_n dX9_mustBeWhat_0 rfl ?_
  refine r_if_lt (tgt := 9) dX9_mustBeWhat_1 (by decide) (fun h1 => ?_) (fun h1 => ?_)
  · skip
    refine r_throw (cls := "java/util/NoSuchElementException") (names := ["java/lang/RuntimeException", "java/lang/Exception"]) dX9_mustBeWhat_9 dX9_mustBeWhat_12 dX9_mustBeWhat_13 dX9_mustBeWhat_16 (by decide +kernel) (by decide +kernel) cl_X9_139 xi_NoSuchElementException xa_nse xb_nse (by decide) (Nat.le_of_ble_eq_true rfl) (by omega) (by omega) ?_
    exact ⟨by rw [if_neg]; simp [*], rfl, rfl, rfl, rfl, rfl⟩
  · skip
    refine r_iload_n dX9_mustBeWhat_4 rfl ?_
    refine r_iload_n dX9_mustBeWhat_5 rfl ?_
    refine r_icmp_lt (tgt := 17) dX9_mustBeWhat_6 (by decide) (fun h6 => ?_) (fun h6 => ?_)
    · skip
      refine r_vret rfl dX9_mustBeWhat_17 ?_
      exact ⟨by rw [if_pos]; simp [*], rfl, rfl, rfl, rfl, rfl⟩
    · skip
      refine r_throw (cls := "java/util/NoSuchElementException") (names := ["java/lang/RuntimeException", "java/lang/Exception"]) dX9_mustBeWhat_9 dX9_mustBeWhat_12 dX9_mustBeWhat_13 dX9_mustBeWhat_16 (by decide +kernel) (by decide +kernel) cl_X9_139 xi_NoSuchElementException xa_nse xb_nse (by decide) (Nat.le_of_ble_eq_true rfl) (by omega) (by omega) ?_
      exact ⟨by rw [if_neg]; simp [*], rfl, rfl, rfl, rfl, rfl⟩

theorem dX9_mustBeHouse_0 : decode cX9_mustBeHouse 0 = .ok (.iload_n 1, 1) := by decide +kernel
theorem dX9_mustBeHouse_1 : decode cX9_mustBeHouse 1 = .ok (.ifCond .lt 14, 3) := by decide +kernel
theorem dX9_mustBeHouse_4 : decode cX9_mustBeHouse 4 = .ok (.iload_n 1, 1) := by decide +kernel
theorem dX9_mustBeHouse_5 : decode cX9_mustBeHouse 5 = .ok (.aload_n 0, 1) := by decide +kernel
theorem dX9_mustBeHouse_6 : decode cX9_mustBeHouse 6 = .ok (.getfield 27, 3) := by decide +kernel
theorem dX9_mustBeHouse_9 : decode cX9_mustBeHouse 9 = .ok (.getfield 124, 3) := by decide +kernel
theorem dX9_mustBeHouse_12 : decode cX9_mustBeHouse 12 = .ok (.if_icmp .lt 11, 3) := by decide +kernel
theorem dX9_mustBeHouse_15 : decode cX9_mustBeHouse 15 = .ok (.new 139, 3) := by decide +kernel
theorem dX9_mustBeHouse_18 : decode cX9_mustBeHouse 18 = .ok (.dup, 1) := by decide +kernel
theorem dX9_mustBeHouse_19 : decode cX9_mustBeHouse 19 = .ok (.invokespecial 141, 3) := by decide +kernel
theorem dX9_mustBeHouse_22 : decode cX9_mustBeHouse 22 = .ok (.athrow, 1) := by decide +kernel
theorem dX9_mustBeHouse_23 : decode cX9_mustBeHouse 23 = .ok (.return_, 1) := by decide +kernel
set_option maxHeartbeats 4000000 in
set_option maxRecDepth 100000 in
theorem c_X9_mustBeHouse (o b : Nat) (x : Int32) {n : Nat} {kd : mK} {I : mI} {J : mJ} {P : mP} (ho : kd o = some (0, 9)) (hp : P o 4 = some b) (hb : kd b = some (0, 7)) : Ct yX9_mustBeHouse cX9_mustBeHouse 2 none 8 1 6 [.ref o, .int x] n kd I J P (am_ot (!decide (x < 0) && decide (x < I b 0)) "java/util/NoSuchElementException" none n kd I J P) := by
  refine ct_of 0 (by decide +kernel) (Nat.le_of_ble_eq_true rfl) rfl ?_
  refine r_iload_n dX9_mustBeHouse_0 rfl ?_
  refine r_if_lt (tgt := 15) dX9_mustBeHouse_1 (by decide) (fun h1 => ?_) (fun h1 => ?_)
  · skip
    refine r_throw (cls := "java/util/NoSuchElementException") (names := ["java/lang/RuntimeException", "java/lang/Exception"]) dX9_mustBeHouse_15 dX9_mustBeHouse_18 dX9_mustBeHouse_19 dX9_mustBeHouse_22 (by decide +kernel) (by decide +kernel) cl_X9_139 xi_NoSuchElementException xa_nse xb_nse (by decide) (Nat.le_of_ble_eq_true rfl) (by omega) (by omega) ?_
    exact ⟨by rw [if_neg]; simp [*], rfl, rfl, rfl, rfl, rfl⟩
  · skip
    refine r_iload_n dX9_mustBeHouse_4 rfl ?_
    refine r_aload_n dX9_mustBeHouse_5 rfl ?_
    refine r_getR dX9_mustBeHouse_6 fl_X9_27 rfl (by assumption) (by assumption) ?_
    refine r_getI dX9_mustBeHouse_9 fl_X9_124 rfl (by assumption) ?_
    refine r_icmp_lt (tgt := 23) dX9_mustBeHouse_12 (by decide) (fun h12 => ?_) (fun h12 => ?_)
    · skip
      refine r_vret rfl dX9_mustBeHouse_23 ?_
      exact ⟨by rw [if_pos]; simp [*], rfl, rfl, rfl, rfl, rfl⟩
    · skip
      refine r_throw (cls := "java/util/NoSuchElementException") (names := ["java/lang/RuntimeException", "java/lang/Exception"]) dX9_mustBeHouse_15 dX9_mustBeHouse_18 dX9_mustBeHouse_19 dX9_mustBeHouse_22 (by decide +kernel) (by decide +kernel) cl_X9_139 xi_NoSuchElementException xa_nse xb_nse (by decide) (Nat.le_of_ble_eq_true rfl) (by omega) (by omega) ?_
      exact ⟨by rw [if_neg]; simp [*], rfl, rfl, rfl, rfl, rfl⟩

theorem dX9_mustBeNumber_0 : decode cX9_mustBeNumber 0 = .ok (.iload_n 1, 1) := by decide +kernel
theorem dX9_mustBeNumber_1 : decode cX9_mustBeNumber 1 = .ok (.iconst 1, 1) := by decide +kernel
theorem dX9_mustBeNumber_2 : decode cX9_mustBeNumber 2 = .ok (.if_icmp .lt 14, 3) := by decide +kernel
theorem dX9_mustBeNumber_5 : decode cX9_mustBeNumber 5 = .ok (.iload_n 1, 1) := by decide +kernel
theorem dX9_mustBeNumber_6 : decode cX9_mustBeNumber 6 = .ok (.aload_n 0, 1) := by decide +kernel
theorem dX9_mustBeNumber_7 : decode cX9_mustBeNumber 7 = .ok (.getfield 27, 3) := by decide +kernel
theorem dX9_mustBeNumber_10 : decode cX9_mustBeNumber 10 = .ok (.getfield 127, 3) := by decide +kernel
theorem dX9_mustBeNumber_13 : decode cX9_mustBeNumber 13 = .ok (.if_icmp .le 11, 3) := by decide +kernel
theorem dX9_mustBeNumber_16 : decode cX9_mustBeNumber 16 = .ok (.new 110, 3) := by decide +kernel
theorem dX9_mustBeNumber_19 : decode cX9_mustBeNumber 19 = .ok (.dup, 1) := by decide +kernel
theorem dX9_mustBeNumber_20 : decode cX9_mustBeNumber 20 = .ok (.invokespecial 112, 3) := by decide +kernel
theorem dX9_mustBeNumber_23 : decode cX9_mustBeNumber 23 = .ok (.athrow, 1) := by decide +kernel
theorem dX9_mustBeNumber_24 : decode cX9_mustBeNumber 24 = .ok (.return_, 1) := by decide +kernel
set_option maxHeartbeats 4000000 in
set_option maxRecDepth 100000 in
theorem c_X9_mustBeNumber (o b : Nat) (x : Int32) {n : Nat} {kd : mK} {I : mI} {J : mJ} {P : mP} (ho : kd o = some (0, 9)) (hp : P o 4 = some b) (hb : kd b = some (0, 7)) : Ct yX9_mustBeNumber cX9_mustBeNumber 2 none 8 1 6 [.ref o, .int x] n kd I J P (am_ot (!decide (x < nI 1) && decide (x ≤ I b 1)) "java/lang/IllegalArgumentException" none n kd I J P) := by
  refine ct_of 0 (by decide +kernel) (Nat.le_of_ble_eq_true rfl) rfl ?_
  refine r_iload_n dX9_mustBeNumber_0 rfl ?_
  refine r_iconst (v := nI 1) dX9_mustBeNumber_1 (by decide) ?_
  refine r_icmp_lt (tgt := 16) dX9_mustBeNumber_2 (by decide) (fun h2 => ?_) (fun h2 => ?_)
  · skip
    refine r_throw (cls := "java/lang/IllegalArgumentException") (names := ["java/lang/RuntimeException", "java/lang/Exception"]) dX9_mustBeNumber_16 dX9_mustBeNumber_19 dX9_mustBeNumber_20 dX9_mustBeNumber_23 (by decide +kernel) (by decide +kernel) cl_X9_110 xi_IllegalArgumentException xa_iae xb_iae (by decide) (Nat.le_of_ble_eq_true rfl) (by omega) (by omega) ?_
    exact ⟨by rw [if_neg]; simp [*], rfl, rfl, rfl, rfl, rfl⟩
  · skip
    refine r_iload_n dX9_mustBeNumber_5 rfl ?_
    refine r_aload_n dX9_mustBeNumber_6 rfl ?_
    refine r_getR dX9_mustBeNumber_7 fl_X9_27 rfl (by assumption) (by assumption) ?_
    refine r_getI dX9_mustBeNumber_10 fl_X9_127 rfl (by assumption) ?_
    refine r_icmp_le (tgt := 24) dX9_mustBeNumber_13 (by decide) (fun h13 => ?_) (fun h13 => ?_)
    · skip
      refine r_vret rfl dX9_mustBeNumber_24 ?_
      exact ⟨by rw [if_pos]; simp [*], rfl, rfl, rfl, rfl, rfl⟩
    · skip
      refine r_throw (cls := "java/lang/IllegalArgumentException") (names := ["java/lang/RuntimeException", "java/lang/Exception"]) dX9_mustBeNumber_16 dX9_mustBeNumber_19 dX9_mustBeNumber_20 dX9_mustBeNumber_23 (by decide +kernel) (by decide +kernel) cl_X9_110 xi_IllegalArgumentException xa_iae xb_iae (by decide) (Nat.le_of_ble_eq_true rfl) (by omega) (by omega) ?_
      exact ⟨by rw [if_neg]; simp [*], rfl, rfl, rfl, rfl, rfl⟩

theorem dX9_forget_0 : decode cX9_forget 0 = .ok (.aload_n 0, 1) := by decide +kernel
theorem dX9_forget_1 : decode cX9_forget 1 = .ok (.iconst 0, 1) := by decide +kernel
theorem dX9_forget_2 : decode cX9_forget 2 = .ok (.putfield 58, 3) := by decide +kernel
theorem dX9_forget_5 : decode cX9_forget 5 = .ok (.aload_n 0, 1) := by decide +kernel
theorem dX9_forget_6 : decode cX9_forget 6 = .ok (.iconst 0, 1) := by decide +kernel
theorem dX9_forget_7 : decode cX9_forget 7 = .ok (.putfield 103, 3) := by decide +kernel
theorem dX9_forget_10 : decode cX9_forget 10 = .ok (.return_, 1) := by decide +kernel
set_option maxHeartbeats 4000000 in
set_option maxRecDepth 100000 in
theorem c_X9_forget (o : Nat) {n : Nat} {kd : mK} {I : mI} {J : mJ} {P : mP} (ho : kd o = some (0, 9)) : Ct yX9_forget cX9_forget 1 none 1 0 0 [.ref o] n kd I J P (am_is none n kd (va_up I o (va_up (va_up (I o) 11 (nI 0)) 18 (nI 0))) J P) := by
  refine ct_of 0 (by decide +kernel) (Nat.le_of_ble_eq_true rfl) rfl ?_
  refine r_aload_n dX9_forget_0 rfl ?_
  refine r_iconst (v := nI 0) dX9_forget_1 (by decide) ?_
  refine r_putZ dX9_forget_2 fl_X9_58 rfl rfl (by first | exact Or.inl rfl | exact Or.inr rfl | assumption) (by assumption) ?_
  refine r_aload_n dX9_forget_5 rfl ?_
  refine r_iconst (v := nI 0) dX9_forget_6 (by decide) ?_
  refine r_putZ dX9_forget_7 fl_X9_103 rfl rfl (by first | exact Or.inl rfl | exact Or.inr rfl | assumption) (by assumption) ?_
  refine r_vret rfl dX9_forget_10 ?_
  rw [am_up_s I, am_up_up I]
  exact am_is.mk

theorem dX9_fault_0 : decode cX9_fault 0 = .ok (.aload_n 0, 1) := by decide +kernel
theorem dX9_fault_1 : decode cX9_fault 1 = .ok (.getfield 17, 3) := by decide +kernel
theorem dX9_fault_4 : decode cX9_fault 4 = .ok (.ireturn, 1) := by decide +kernel
set_option maxHeartbeats 4000000 in
set_option maxRecDepth 100000 in
theorem c_X9_fault (o : Nat) {n : Nat} {kd : mK} {I : mI} {J : mJ} {P : mP} (ho : kd o = some (0, 9)) : Ct yX9_fault cX9_fault 1 (some .int) 1 0 0 [.ref o] n kd I J P (am_is (some (.int (I o 2))) n kd I J P) := by
  refine ct_of 0 (by decide +kernel) (Nat.le_of_ble_eq_true rfl) rfl ?_
  refine r_aload_n dX9_fault_0 rfl ?_
  refine r_getI dX9_fault_1 fl_X9_17 rfl (by assumption) ?_
  refine r_iret rfl dX9_fault_4 ?_
  exact am_is.mk

theorem dX2_had_0 : decode cX2_had 0 = .ok (.iload_n 2, 1) := by decide +kernel
theorem dX2_had_1 : decode cX2_had 1 = .ok (.ifCond .lt 9, 3) := by decide +kernel
theorem dX2_had_4 : decode cX2_had 4 = .ok (.iload_n 2, 1) := by decide +kernel
theorem dX2_had_5 : decode cX2_had 5 = .ok (.bipush 8, 2) := by decide +kernel
theorem dX2_had_7 : decode cX2_had 7 = .ok (.if_icmp .lt 5, 3) := by decide +kernel
theorem dX2_had_10 : decode cX2_had 10 = .ok (.iconst 0, 1) := by decide +kernel
theorem dX2_had_11 : decode cX2_had 11 = .ok (.ireturn, 1) := by decide +kernel
theorem dX2_had_12 : decode cX2_had 12 = .ok (.iload_n 1, 1) := by decide +kernel
theorem dX2_had_13 : decode cX2_had 13 = .ok (.ifCond .ne 12, 3) := by decide +kernel
theorem dX2_had_16 : decode cX2_had 16 = .ok (.aload_n 0, 1) := by decide +kernel
theorem dX2_had_17 : decode cX2_had 17 = .ok (.getfield 9, 3) := by decide +kernel
theorem dX2_had_20 : decode cX2_had 20 = .ok (.iload_n 2, 1) := by decide +kernel
theorem dX2_had_21 : decode cX2_had 21 = .ok (.iaload, 1) := by decide +kernel
theorem dX2_had_22 : decode cX2_had 22 = .ok (.goto 25, 3) := by decide +kernel
theorem dX2_had_25 : decode cX2_had 25 = .ok (.iload_n 1, 1) := by decide +kernel
theorem dX2_had_26 : decode cX2_had 26 = .ok (.iconst 1, 1) := by decide +kernel
theorem dX2_had_27 : decode cX2_had 27 = .ok (.if_icmp .ne 12, 3) := by decide +kernel
theorem dX2_had_30 : decode cX2_had 30 = .ok (.aload_n 0, 1) := by decide +kernel
theorem dX2_had_31 : decode cX2_had 31 = .ok (.getfield 15, 3) := by decide +kernel
theorem dX2_had_34 : decode cX2_had 34 = .ok (.iload_n 2, 1) := by decide +kernel
theorem dX2_had_35 : decode cX2_had 35 = .ok (.iaload, 1) := by decide +kernel
theorem dX2_had_36 : decode cX2_had 36 = .ok (.goto 11, 3) := by decide +kernel
theorem dX2_had_39 : decode cX2_had 39 = .ok (.aload_n 0, 1) := by decide +kernel
theorem dX2_had_40 : decode cX2_had 40 = .ok (.getfield 18, 3) := by decide +kernel
theorem dX2_had_43 : decode cX2_had 43 = .ok (.iload_n 2, 1) := by decide +kernel
theorem dX2_had_44 : decode cX2_had 44 = .ok (.ishr, 1) := by decide +kernel
theorem dX2_had_45 : decode cX2_had 45 = .ok (.iconst 1, 1) := by decide +kernel
theorem dX2_had_46 : decode cX2_had 46 = .ok (.iand, 1) := by decide +kernel
theorem dX2_had_47 : decode cX2_had 47 = .ok (.ireturn, 1) := by decide +kernel
set_option maxHeartbeats 4000000 in
set_option maxRecDepth 100000 in
theorem c_X2_had (l h : Nat) (k : Int32) {n : Nat} {kd : mK} {I : mI} {J : mJ} {P : mP} (hL : kL kd P l) (hh : h < 8) : Ct yX2_had cX2_had 3 (some .int) 1 0 0 [.ref l, .int k, .int (nI h)] n kd I J P (am_is (some (.int (if k = 0 then I (l + 1) h else if k = nI 1 then I (l + 2) h else (I l 2 >>> (nI h &&& 31)) &&& nI 1))) n kd I J P) := by
  obtain ⟨l0, l1, l2, l3, l4, l5, q0, q1, q3, q5, q6⟩ := hL
  refine ct_of 0 (by decide +kernel) (Nat.le_of_ble_eq_true rfl) rfl ?_
  refine r_iload_n dX2_had_0 rfl ?_
  refine r_if_lt (tgt := 10) dX2_had_1 (by decide) (fun hz => absurd hz (show ¬ _ from (z_nlt (by omega)))) (fun _ => ?_)
  refine r_iload_n dX2_had_4 rfl ?_
  refine r_bipush (v := nI 8) dX2_had_5 (by decide) ?_
  refine r_icmp_lt (tgt := 12) dX2_had_7 (by decide) (fun _ => ?_) (fun hz => absurd (show _ from (by rw [nI_ltI (by omega) (by omega)]; omega)) hz)
  refine r_iload_n dX2_had_12 rfl ?_
  refine r_if_ne (tgt := 25) dX2_had_13 (by decide) (fun h13 => ?_) (fun h13 => ?_)
  · skip
    refine r_iload_n dX2_had_25 rfl ?_
    refine r_iconst (v := nI 1) dX2_had_26 (by decide) ?_
    refine r_icmp_ne (tgt := 39) dX2_had_27 (by decide) (fun h27 => ?_) (fun h27 => ?_)
    · skip
      refine r_aload_n dX2_had_39 rfl ?_
      refine r_getI dX2_had_40 fl_X2_18 rfl (by assumption) ?_
      refine r_iload_n dX2_had_43 rfl ?_
      refine r_ishr dX2_had_44 ?_
      refine r_iconst (v := nI 1) dX2_had_45 (by decide) ?_
      refine r_iand dX2_had_46 ?_
      refine r_iret rfl dX2_had_47 ?_
      exact ⟨by repeat (first | rw [if_pos (by assumption)] | rw [if_neg (by assumption)]), rfl, rfl, rfl, rfl, rfl⟩
    · skip
      refine r_aload_n dX2_had_30 rfl ?_
      refine r_getR dX2_had_31 fl_X2_15 rfl (by assumption) (by assumption) ?_
      refine r_iload_n dX2_had_34 rfl ?_
      refine r_iald dX2_had_35 l2 (nI_in8 8 hh (by decide)) (nI_clamp (by omega)) ?_
      refine r_goto (tgt := 47) dX2_had_36 (by decide) ?_
      refine r_iret rfl dX2_had_47 ?_
      exact ⟨by repeat (first | rw [if_pos (by assumption)] | rw [if_neg (by assumption)]), rfl, rfl, rfl, rfl, rfl⟩
  · skip
    refine r_aload_n dX2_had_16 rfl ?_
    refine r_getR dX2_had_17 fl_X2_9 rfl (by assumption) (by assumption) ?_
    refine r_iload_n dX2_had_20 rfl ?_
    refine r_iald dX2_had_21 l1 (nI_in8 8 hh (by decide)) (nI_clamp (by omega)) ?_
    refine r_goto (tgt := 47) dX2_had_22 (by decide) ?_
    refine r_iret rfl dX2_had_47 ?_
    exact ⟨by repeat (first | rw [if_pos (by assumption)] | rw [if_neg (by assumption)]), rfl, rfl, rfl, rfl, rfl⟩

/-- Life.put, what it does to the memory -/
def putL (I : mI) (l : Nat) (k : Int32) (h : Nat) (v : Int32) : mI := if k = 0 then va_up I (l + 1) (va_up (I (l + 1)) h v) else if k = nI 1 then va_up I (l + 2) (va_up (I (l + 2)) h v) else va_up I l (va_up (I l) 2 ((I l 2 &&& ((nI 1 <<< (nI h &&& 31)) ^^^ (-1))) ||| (v <<< (nI h &&& 31))))
theorem dX2_put_0 : decode cX2_put 0 = .ok (.iload_n 2, 1) := by decide +kernel
theorem dX2_put_1 : decode cX2_put 1 = .ok (.ifCond .lt 9, 3) := by decide +kernel
theorem dX2_put_4 : decode cX2_put 4 = .ok (.iload_n 2, 1) := by decide +kernel
theorem dX2_put_5 : decode cX2_put 5 = .ok (.bipush 8, 2) := by decide +kernel
theorem dX2_put_7 : decode cX2_put 7 = .ok (.if_icmp .lt 4, 3) := by decide +kernel
theorem dX2_put_10 : decode cX2_put 10 = .ok (.return_, 1) := by decide +kernel
theorem dX2_put_11 : decode cX2_put 11 = .ok (.iload_n 1, 1) := by decide +kernel
theorem dX2_put_12 : decode cX2_put 12 = .ok (.ifCond .ne 13, 3) := by decide +kernel
theorem dX2_put_15 : decode cX2_put 15 = .ok (.aload_n 0, 1) := by decide +kernel
theorem dX2_put_16 : decode cX2_put 16 = .ok (.getfield 9, 3) := by decide +kernel
theorem dX2_put_19 : decode cX2_put 19 = .ok (.iload_n 2, 1) := by decide +kernel
theorem dX2_put_20 : decode cX2_put 20 = .ok (.iload_n 3, 1) := by decide +kernel
theorem dX2_put_21 : decode cX2_put 21 = .ok (.iastore, 1) := by decide +kernel
theorem dX2_put_22 : decode cX2_put 22 = .ok (.goto 36, 3) := by decide +kernel
theorem dX2_put_25 : decode cX2_put 25 = .ok (.iload_n 1, 1) := by decide +kernel
theorem dX2_put_26 : decode cX2_put 26 = .ok (.iconst 1, 1) := by decide +kernel
theorem dX2_put_27 : decode cX2_put 27 = .ok (.if_icmp .ne 13, 3) := by decide +kernel
theorem dX2_put_30 : decode cX2_put 30 = .ok (.aload_n 0, 1) := by decide +kernel
theorem dX2_put_31 : decode cX2_put 31 = .ok (.getfield 15, 3) := by decide +kernel
theorem dX2_put_34 : decode cX2_put 34 = .ok (.iload_n 2, 1) := by decide +kernel
theorem dX2_put_35 : decode cX2_put 35 = .ok (.iload_n 3, 1) := by decide +kernel
theorem dX2_put_36 : decode cX2_put 36 = .ok (.iastore, 1) := by decide +kernel
theorem dX2_put_37 : decode cX2_put 37 = .ok (.goto 21, 3) := by decide +kernel
theorem dX2_put_40 : decode cX2_put 40 = .ok (.aload_n 0, 1) := by decide +kernel
theorem dX2_put_41 : decode cX2_put 41 = .ok (.aload_n 0, 1) := by decide +kernel
theorem dX2_put_42 : decode cX2_put 42 = .ok (.getfield 18, 3) := by decide +kernel
theorem dX2_put_45 : decode cX2_put 45 = .ok (.iconst 1, 1) := by decide +kernel
theorem dX2_put_46 : decode cX2_put 46 = .ok (.iload_n 2, 1) := by decide +kernel
theorem dX2_put_47 : decode cX2_put 47 = .ok (.ishl, 1) := by decide +kernel
theorem dX2_put_48 : decode cX2_put 48 = .ok (.iconst (-1), 1) := by decide +kernel
theorem dX2_put_49 : decode cX2_put 49 = .ok (.ixor, 1) := by decide +kernel
theorem dX2_put_50 : decode cX2_put 50 = .ok (.iand, 1) := by decide +kernel
theorem dX2_put_51 : decode cX2_put 51 = .ok (.iload_n 3, 1) := by decide +kernel
theorem dX2_put_52 : decode cX2_put 52 = .ok (.iload_n 2, 1) := by decide +kernel
theorem dX2_put_53 : decode cX2_put 53 = .ok (.ishl, 1) := by decide +kernel
theorem dX2_put_54 : decode cX2_put 54 = .ok (.ior, 1) := by decide +kernel
theorem dX2_put_55 : decode cX2_put 55 = .ok (.putfield 18, 3) := by decide +kernel
theorem dX2_put_58 : decode cX2_put 58 = .ok (.return_, 1) := by decide +kernel
set_option maxHeartbeats 4000000 in
set_option maxRecDepth 100000 in
theorem c_X2_put (l h : Nat) (k v : Int32) {n : Nat} {kd : mK} {I : mI} {J : mJ} {P : mP} (hL : kL kd P l) (hh : h < 8) : Ct yX2_put cX2_put 4 none 1 0 0 [.ref l, .int k, .int (nI h), .int v] n kd I J P (am_is none n kd (putL I l k h v) J P) := by
  obtain ⟨l0, l1, l2, l3, l4, l5, q0, q1, q3, q5, q6⟩ := hL
  refine ct_of 0 (by decide +kernel) (Nat.le_of_ble_eq_true rfl) rfl ?_
  refine r_iload_n dX2_put_0 rfl ?_
  refine r_if_lt (tgt := 10) dX2_put_1 (by decide) (fun hz => absurd hz (show ¬ _ from (z_nlt (by omega)))) (fun _ => ?_)
  refine r_iload_n dX2_put_4 rfl ?_
  refine r_bipush (v := nI 8) dX2_put_5 (by decide) ?_
  refine r_icmp_lt (tgt := 11) dX2_put_7 (by decide) (fun _ => ?_) (fun hz => absurd (show _ from (by rw [nI_ltI (by omega) (by omega)]; omega)) hz)
  refine r_iload_n dX2_put_11 rfl ?_
  refine r_if_ne (tgt := 25) dX2_put_12 (by decide) (fun h12 => ?_) (fun h12 => ?_)
  · skip
    refine r_iload_n dX2_put_25 rfl ?_
    refine r_iconst (v := nI 1) dX2_put_26 (by decide) ?_
    refine r_icmp_ne (tgt := 40) dX2_put_27 (by decide) (fun h27 => ?_) (fun h27 => ?_)
    · skip
      refine r_aload_n dX2_put_40 rfl ?_
      refine r_aload_n dX2_put_41 rfl ?_
      refine r_getI dX2_put_42 fl_X2_18 rfl (by assumption) ?_
      refine r_iconst (v := nI 1) dX2_put_45 (by decide) ?_
      refine r_iload_n dX2_put_46 rfl ?_
      refine r_ishl dX2_put_47 ?_
      refine r_iconst (v := (-1)) dX2_put_48 (by decide) ?_
      refine r_ixor dX2_put_49 ?_
      refine r_iand dX2_put_50 ?_
      refine r_iload_n dX2_put_51 rfl ?_
      refine r_iload_n dX2_put_52 rfl ?_
      refine r_ishl dX2_put_53 ?_
      refine r_ior dX2_put_54 ?_
      refine r_putI dX2_put_55 fl_X2_18 rfl rfl (by assumption) ?_
      refine r_vret rfl dX2_put_58 ?_
      exact ⟨rfl, rfl, rfl, by unfold putL; repeat (first | rw [if_pos (by assumption)] | rw [if_neg (by assumption)]), rfl, rfl⟩
    · skip
      refine r_aload_n dX2_put_30 rfl ?_
      refine r_getR dX2_put_31 fl_X2_15 rfl (by assumption) (by assumption) ?_
      refine r_iload_n dX2_put_34 rfl ?_
      refine r_iload_n dX2_put_35 rfl ?_
      refine r_iast dX2_put_36 l2 (nI_in8 8 hh (by decide)) (nI_clamp (by omega)) ?_
      refine r_goto (tgt := 58) dX2_put_37 (by decide) ?_
      refine r_vret rfl dX2_put_58 ?_
      exact ⟨rfl, rfl, rfl, by unfold putL; repeat (first | rw [if_pos (by assumption)] | rw [if_neg (by assumption)]), rfl, rfl⟩
  · skip
    refine r_aload_n dX2_put_15 rfl ?_
    refine r_getR dX2_put_16 fl_X2_9 rfl (by assumption) (by assumption) ?_
    refine r_iload_n dX2_put_19 rfl ?_
    refine r_iload_n dX2_put_20 rfl ?_
    refine r_iast dX2_put_21 l1 (nI_in8 8 hh (by decide)) (nI_clamp (by omega)) ?_
    refine r_goto (tgt := 58) dX2_put_22 (by decide) ?_
    refine r_vret rfl dX2_put_58 ?_
    exact ⟨rfl, rfl, rfl, by unfold putL; repeat (first | rw [if_pos (by assumption)] | rw [if_neg (by assumption)]), rfl, rfl⟩

theorem dX2_addLetter_0 : decode cX2_addLetter 0 = .ok (.aload_n 0, 1) := by decide +kernel
theorem dX2_addLetter_1 : decode cX2_addLetter 1 = .ok (.getfield 34, 3) := by decide +kernel
theorem dX2_addLetter_4 : decode cX2_addLetter 4 = .ok (.bipush 10, 2) := by decide +kernel
theorem dX2_addLetter_6 : decode cX2_addLetter 6 = .ok (.if_icmp .lt 4, 3) := by decide +kernel
theorem dX2_addLetter_9 : decode cX2_addLetter 9 = .ok (.return_, 1) := by decide +kernel
theorem dX2_addLetter_10 : decode cX2_addLetter 10 = .ok (.aload_n 0, 1) := by decide +kernel
theorem dX2_addLetter_11 : decode cX2_addLetter 11 = .ok (.getfield 28, 3) := by decide +kernel
theorem dX2_addLetter_14 : decode cX2_addLetter 14 = .ok (.aload_n 0, 1) := by decide +kernel
theorem dX2_addLetter_15 : decode cX2_addLetter 15 = .ok (.getfield 34, 3) := by decide +kernel
theorem dX2_addLetter_18 : decode cX2_addLetter 18 = .ok (.iload_n 1, 1) := by decide +kernel
theorem dX2_addLetter_19 : decode cX2_addLetter 19 = .ok (.iastore, 1) := by decide +kernel
theorem dX2_addLetter_20 : decode cX2_addLetter 20 = .ok (.aload_n 0, 1) := by decide +kernel
theorem dX2_addLetter_21 : decode cX2_addLetter 21 = .ok (.getfield 31, 3) := by decide +kernel
theorem dX2_addLetter_24 : decode cX2_addLetter 24 = .ok (.aload_n 0, 1) := by decide +kernel
theorem dX2_addLetter_25 : decode cX2_addLetter 25 = .ok (.getfield 34, 3) := by decide +kernel
theorem dX2_addLetter_28 : decode cX2_addLetter 28 = .ok (.iload_n 2, 1) := by decide +kernel
theorem dX2_addLetter_29 : decode cX2_addLetter 29 = .ok (.iastore, 1) := by decide +kernel
theorem dX2_addLetter_30 : decode cX2_addLetter 30 = .ok (.aload_n 0, 1) := by decide +kernel
theorem dX2_addLetter_31 : decode cX2_addLetter 31 = .ok (.dup, 1) := by decide +kernel
theorem dX2_addLetter_32 : decode cX2_addLetter 32 = .ok (.getfield 34, 3) := by decide +kernel
theorem dX2_addLetter_35 : decode cX2_addLetter 35 = .ok (.iconst 1, 1) := by decide +kernel
theorem dX2_addLetter_36 : decode cX2_addLetter 36 = .ok (.iadd, 1) := by decide +kernel
theorem dX2_addLetter_37 : decode cX2_addLetter 37 = .ok (.putfield 34, 3) := by decide +kernel
theorem dX2_addLetter_40 : decode cX2_addLetter 40 = .ok (.return_, 1) := by decide +kernel
set_option maxHeartbeats 4000000 in
set_option maxRecDepth 100000 in
theorem c_X2_addLetter (l L : Nat) (h v : Int32) {n : Nat} {kd : mK} {I : mI} {J : mJ} {P : mP} (hL : kL kd P l) (hLe : I l 7 = nI L) (hL10 : L < 10) : Ct yX2_addLetter cX2_addLetter 3 none 1 0 0 [.ref l, .int h, .int v] n kd I J P (am_is none n kd (va_up (va_up (va_up I (l + 4) (va_up (I (l + 4)) L h)) (l + 5) (va_up (I (l + 5)) L v)) l (va_up (I l) 7 (nI (L + 1)))) J P) := by
  obtain ⟨l0, l1, l2, l3, l4, l5, q0, q1, q3, q5, q6⟩ := hL
  refine ct_of 0 (by decide +kernel) (Nat.le_of_ble_eq_true rfl) rfl ?_
  refine r_aload_n dX2_addLetter_0 rfl ?_
  refine r_getI dX2_addLetter_1 fl_X2_34 rfl l0 ?_
  rw [hLe]
  refine r_bipush (v := nI 10) dX2_addLetter_4 (by decide) ?_
  refine r_icmp_lt (tgt := 10) dX2_addLetter_6 (by decide) (fun _ => ?_) (fun hz => absurd (show _ from (by rw [nI_ltI (by omega) (by omega)]; omega)) hz)
  refine r_aload_n dX2_addLetter_10 rfl ?_
  refine r_getR dX2_addLetter_11 fl_X2_28 rfl (by assumption) (by assumption) ?_
  refine r_aload_n dX2_addLetter_14 rfl ?_
  refine r_getI dX2_addLetter_15 fl_X2_34 rfl l0 ?_
  rw [hLe]
  refine r_iload_n dX2_addLetter_18 rfl ?_
  refine r_iast dX2_addLetter_19 l4 (nI_in8 10 hL10 (by decide)) (nI_clamp (by omega)) ?_
  refine r_aload_n dX2_addLetter_20 rfl ?_
  refine r_getR dX2_addLetter_21 fl_X2_31 rfl (by assumption) (by assumption) ?_
  refine r_aload_n dX2_addLetter_24 rfl ?_
  refine r_getI dX2_addLetter_25 fl_X2_34 rfl l0 ?_
  rw [am_up_n I _ (by omega : l ≠ l + 4), hLe]
  refine r_iload_n dX2_addLetter_28 rfl ?_
  refine r_iast dX2_addLetter_29 l5 (nI_in8 10 hL10 (by decide)) (nI_clamp (by omega)) ?_
  rw [am_up_n I _ (by omega : l + 5 ≠ l + 4)]
  refine r_aload_n dX2_addLetter_30 rfl ?_
  refine r_dup dX2_addLetter_31 rfl ?_
  refine r_getI dX2_addLetter_32 fl_X2_34 rfl l0 ?_
  rw [am_up_n _ _ (by omega : l ≠ l + 5), am_up_n I _ (by omega : l ≠ l + 4), hLe]
  refine r_iconst (v := nI 1) dX2_addLetter_35 (by decide) ?_
  refine r_iadd dX2_addLetter_36 ?_
  rw [nI_add L 1]
  refine r_putI dX2_addLetter_37 fl_X2_34 rfl rfl (by assumption) ?_
  refine r_vret rfl dX2_addLetter_40 ?_
  rw [am_up_n _ _ (by omega : l ≠ l + 5), am_up_n I _ (by omega : l ≠ l + 4)]
  exact am_is.mk

theorem dX2_clear_0 : decode cX2_clear 0 = .ok (.aload_n 0, 1) := by decide +kernel
theorem dX2_clear_1 : decode cX2_clear 1 = .ok (.getfield 9, 3) := by decide +kernel
theorem dX2_clear_4 : decode cX2_clear 4 = .ok (.iconst 0, 1) := by decide +kernel
theorem dX2_clear_5 : decode cX2_clear 5 = .ok (.invokestatic 37, 3) := by decide +kernel
theorem dX2_clear_8 : decode cX2_clear 8 = .ok (.aload_n 0, 1) := by decide +kernel
theorem dX2_clear_9 : decode cX2_clear 9 = .ok (.getfield 15, 3) := by decide +kernel
theorem dX2_clear_12 : decode cX2_clear 12 = .ok (.iconst 0, 1) := by decide +kernel
theorem dX2_clear_13 : decode cX2_clear 13 = .ok (.invokestatic 37, 3) := by decide +kernel
theorem dX2_clear_16 : decode cX2_clear 16 = .ok (.aload_n 0, 1) := by decide +kernel
theorem dX2_clear_17 : decode cX2_clear 17 = .ok (.iconst 0, 1) := by decide +kernel
theorem dX2_clear_18 : decode cX2_clear 18 = .ok (.putfield 18, 3) := by decide +kernel
theorem dX2_clear_21 : decode cX2_clear 21 = .ok (.aload_n 0, 1) := by decide +kernel
theorem dX2_clear_22 : decode cX2_clear 22 = .ok (.iconst 0, 1) := by decide +kernel
theorem dX2_clear_23 : decode cX2_clear 23 = .ok (.putfield 25, 3) := by decide +kernel
theorem dX2_clear_26 : decode cX2_clear 26 = .ok (.aload_n 0, 1) := by decide +kernel
theorem dX2_clear_27 : decode cX2_clear 27 = .ok (.iconst 0, 1) := by decide +kernel
theorem dX2_clear_28 : decode cX2_clear 28 = .ok (.putfield 34, 3) := by decide +kernel
theorem dX2_clear_31 : decode cX2_clear 31 = .ok (.return_, 1) := by decide +kernel
set_option maxHeartbeats 4000000 in
set_option maxRecDepth 100000 in
theorem c_X2_clear (l : Nat) {n : Nat} {kd : mK} {I : mI} {J : mJ} {P : mP} (hL : kL kd P l) : Ct yX2_clear cX2_clear 1 none 2 0 0 [.ref l] n kd I J P (am_is none n kd (va_up (va_up (va_up I (l + 1) (fun j => if j < 8 then nI 0 else I (l + 1) j)) (l + 2) (fun j => if j < 8 then nI 0 else I (l + 2) j)) l (va_up (va_up (va_up (I l) 2 (nI 0)) 4 (nI 0)) 7 (nI 0))) J P) := by
  obtain ⟨l0, l1, l2, l3, l4, l5, q0, q1, q3, q5, q6⟩ := hL
  refine ct_of 0 (by decide +kernel) (Nat.le_of_ble_eq_true rfl) rfl ?_
  refine r_aload_n dX2_clear_0 rfl ?_
  refine r_getR dX2_clear_1 fl_X2_9 rfl (by assumption) (by assumption) ?_
  refine r_iconst (v := nI 0) dX2_clear_4 (by decide) ?_
  refine r_statV (c_J7_fill_53178 (l + 1) 8 (nI 0) l1 (by decide)) lk_X2_37 mc_J7_fill_53178 dX2_clear_5 (by decide) rfl rfl (Nat.le_of_ble_eq_true rfl) ?_
  refine r_aload_n dX2_clear_8 rfl ?_
  refine r_getR dX2_clear_9 fl_X2_15 rfl (by assumption) (by assumption) ?_
  refine r_iconst (v := nI 0) dX2_clear_12 (by decide) ?_
  refine r_statV (c_J7_fill_53178 (l + 2) 8 (nI 0) l2 (by decide)) lk_X2_37 mc_J7_fill_53178 dX2_clear_13 (by decide) rfl rfl (Nat.le_of_ble_eq_true rfl) ?_
  rw [am_up_n I _ (by omega : l + 2 ≠ l + 1)]
  refine r_aload_n dX2_clear_16 rfl ?_
  refine r_iconst (v := nI 0) dX2_clear_17 (by decide) ?_
  refine r_putI dX2_clear_18 fl_X2_18 rfl rfl (by assumption) ?_
  refine r_aload_n dX2_clear_21 rfl ?_
  refine r_iconst (v := nI 0) dX2_clear_22 (by decide) ?_
  refine r_putI dX2_clear_23 fl_X2_25 rfl rfl (by assumption) ?_
  refine r_aload_n dX2_clear_26 rfl ?_
  refine r_iconst (v := nI 0) dX2_clear_27 (by decide) ?_
  refine r_putI dX2_clear_28 fl_X2_34 rfl rfl (by assumption) ?_
  refine r_vret rfl dX2_clear_31 ?_
  rw [am_up_s, am_up_s, am_up_up, am_up_up, am_up_n _ _ (by omega : l ≠ l + 2), am_up_n I _ (by omega : l ≠ l + 1)]
  exact am_is.mk

