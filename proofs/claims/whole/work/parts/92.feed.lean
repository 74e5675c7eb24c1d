/-! FEED: both; KNOT: both -/
def tpI (o ar fl t : Nat) (row : Nat → Int32) (I : mI) : mI := va_up (va_up I ar row) o (va_up (I o) fl (nI t))
theorem tpI_t {o ar fl t : Nat} {row : Nat → Int32} {I : mI} : tpI o ar fl t row I o fl = nI t := by unfold tpI; rw [am_up_s, am_up_s]
theorem tpI_r {o ar fl t : Nat} {row : Nat → Int32} {I : mI} (h : ar ≠ o) : tpI o ar fl t row I ar = row := by unfold tpI; rw [am_up_n _ _ h, am_up_s]
theorem tpI_w {o ar fl t : Nat} {row W : Nat → Int32} {I : mI} (h : ar ≠ o) : va_up (tpI o ar fl t row I) ar W = tpI o ar fl t W I := by unfold tpI; rw [am_up_cm _ _ _ (Ne.symm h), am_up_up]
theorem tpI_p {o ar fl t u : Nat} {row : Nat → Int32} {I : mI} : va_up (tpI o ar fl t row I) o (va_up (tpI o ar fl t row I o) fl (nI u)) = tpI o ar fl u row I := by unfold tpI; rw [am_up_s, am_up_up, am_up_up]
theorem tpI_self {o ar fl t : Nat} {I : mI} (h : I o fl = nI t) : tpI o ar fl t (I ar) I = I := by unfold tpI; rw [am_up_id, ← h, am_up_id, am_up_id]
def tb (v : Int32) (s : Nat) : Int32 := (v >>> (nI s &&& 31)).toInt8.toInt32
def tb2 (v : Int32) (s : Nat) : Int32 := (v >>> (nI s &&& 31)) &&& nI 255
def tp4 (f : Int32 → Nat → Int32) (v : Int32) (t : Nat) (row : Nat → Int32) : Nat → Int32 := va_up (va_up (va_up (va_up row t (f v 24)) (t + 1) (f v 16)) (t + 2) (f v 8)) (t + 3) (f v 0)
theorem dX9_putOnTape_0 : decode cX9_putOnTape 0 = .ok (.bipush 24, 2) := by decide +kernel
theorem dX9_putOnTape_2 : decode cX9_putOnTape 2 = .ok (.istore_n 2, 1) := by decide +kernel
theorem dX9_putOnTape_3 : decode cX9_putOnTape 3 = .ok (.iload_n 2, 1) := by decide +kernel
theorem dX9_putOnTape_4 : decode cX9_putOnTape 4 = .ok (.ifCond .lt 42, 3) := by decide +kernel
theorem dX9_putOnTape_7 : decode cX9_putOnTape 7 = .ok (.aload_n 0, 1) := by decide +kernel
theorem dX9_putOnTape_8 : decode cX9_putOnTape 8 = .ok (.getfield 13, 3) := by decide +kernel
theorem dX9_putOnTape_11 : decode cX9_putOnTape 11 = .ok (.sipush 500, 3) := by decide +kernel
theorem dX9_putOnTape_14 : decode cX9_putOnTape 14 = .ok (.if_icmp .ge 32, 3) := by decide +kernel
theorem dX9_putOnTape_17 : decode cX9_putOnTape 17 = .ok (.aload_n 0, 1) := by decide +kernel
theorem dX9_putOnTape_18 : decode cX9_putOnTape 18 = .ok (.getfield 9, 3) := by decide +kernel
theorem dX9_putOnTape_21 : decode cX9_putOnTape 21 = .ok (.aload_n 0, 1) := by decide +kernel
theorem dX9_putOnTape_22 : decode cX9_putOnTape 22 = .ok (.getfield 13, 3) := by decide +kernel
theorem dX9_putOnTape_25 : decode cX9_putOnTape 25 = .ok (.iload_n 1, 1) := by decide +kernel
theorem dX9_putOnTape_26 : decode cX9_putOnTape 26 = .ok (.iload_n 2, 1) := by decide +kernel
theorem dX9_putOnTape_27 : decode cX9_putOnTape 27 = .ok (.ishr, 1) := by decide +kernel
theorem dX9_putOnTape_28 : decode cX9_putOnTape 28 = .ok (.i2b, 1) := by decide +kernel
theorem dX9_putOnTape_29 : decode cX9_putOnTape 29 = .ok (.bastore, 1) := by decide +kernel
theorem dX9_putOnTape_30 : decode cX9_putOnTape 30 = .ok (.aload_n 0, 1) := by decide +kernel
theorem dX9_putOnTape_31 : decode cX9_putOnTape 31 = .ok (.dup, 1) := by decide +kernel
theorem dX9_putOnTape_32 : decode cX9_putOnTape 32 = .ok (.getfield 13, 3) := by decide +kernel
theorem dX9_putOnTape_35 : decode cX9_putOnTape 35 = .ok (.iconst 1, 1) := by decide +kernel
theorem dX9_putOnTape_36 : decode cX9_putOnTape 36 = .ok (.iadd, 1) := by decide +kernel
theorem dX9_putOnTape_37 : decode cX9_putOnTape 37 = .ok (.putfield 13, 3) := by decide +kernel
theorem dX9_putOnTape_40 : decode cX9_putOnTape 40 = .ok (.iinc 2 (-8), 3) := by decide +kernel
theorem dX9_putOnTape_43 : decode cX9_putOnTape 43 = .ok (.goto (-40), 3) := by decide +kernel
theorem dX9_putOnTape_46 : decode cX9_putOnTape 46 = .ok (.return_, 1) := by decide +kernel

set_option maxHeartbeats 4000000 in
set_option maxRecDepth 100000 in
theorem w4_X9_putOnTape (o t : Nat) (v : Int32) (row : Nat → Int32) {n : Nat} {kd : mK} {I : mI} {J : mJ} {P : mP} (ho : kd o = some (0, 9)) (ha : kd (o + 1) = some (2, 500)) (pa : P o 0 = some (o + 1)) : Ru yX9_putOnTape.cls cX9_putOnTape 3 none yX9_putOnTape.name 1 (am_is none n kd (tpI o (o + 1) 1 (t) (row) I) J P) 0 0 3 [some (.ref o), some (.int v), some (.int (-8))] [] n kd (tpI o (o + 1) 1 (t) (row) I) J P := by
  refine r_iload_n dX9_putOnTape_3 rfl ?_
  refine r_if_lt (tgt := 46) dX9_putOnTape_4 (by decide) (fun _ => ?_) (fun hz => absurd (show _ from by decide) hz)
  refine r_vret rfl dX9_putOnTape_46 ?_
  exact am_is.mk

set_option maxHeartbeats 4000000 in
set_option maxRecDepth 100000 in
theorem w3_X9_putOnTape (o t : Nat) (v : Int32) (row : Nat → Int32) {n : Nat} {kd : mK} {I : mI} {J : mJ} {P : mP} (ho : kd o = some (0, 9)) (ha : kd (o + 1) = some (2, 500)) (pa : P o 0 = some (o + 1)) (ht : t + 1 ≤ 500) : Ru yX9_putOnTape.cls cX9_putOnTape 3 none yX9_putOnTape.name 1 (am_is none n kd (tpI o (o + 1) 1 (t + 1) (va_up (row) (t) (tb v 0)) I) J P) 0 0 3 [some (.ref o), some (.int v), some (.int (nI 0))] [] n kd (tpI o (o + 1) 1 (t) (row) I) J P := by
  refine r_iload_n dX9_putOnTape_3 rfl ?_
  refine r_if_lt (tgt := 46) dX9_putOnTape_4 (by decide) (fun hz => absurd hz (show ¬ _ from by decide)) (fun _ => ?_)
  refine r_aload_n dX9_putOnTape_7 rfl ?_
  refine r_getI dX9_putOnTape_8 fl_X9_13 rfl ho ?_
  rw [tpI_t]
  refine r_sipush (v := nI 500) dX9_putOnTape_11 (by decide) ?_
  refine r_icmp_ge (tgt := 46) dX9_putOnTape_14 (by decide) (fun hz => absurd hz (show ¬ _ from (by rw [nI_leI (by omega) (by omega)]; omega))) (fun _ => ?_)
  refine r_aload_n dX9_putOnTape_17 rfl ?_
  refine r_getR dX9_putOnTape_18 fl_X9_9 rfl ho pa ?_
  refine r_aload_n dX9_putOnTape_21 rfl ?_
  refine r_getI dX9_putOnTape_22 fl_X9_13 rfl ho ?_
  rw [tpI_t]
  refine r_iload_n dX9_putOnTape_25 rfl ?_
  refine r_iload_n dX9_putOnTape_26 rfl ?_
  refine r_ishr dX9_putOnTape_27 ?_
  refine r_i2b dX9_putOnTape_28 ?_
  refine r_bast dX9_putOnTape_29 ha (nI_in8 500 (by omega) (by decide)) (nI_clamp (by omega)) ?_
  rw [pk_vb, tpI_r (by omega), tpI_w (by omega)]
  refine r_aload_n dX9_putOnTape_30 rfl ?_
  refine r_dup dX9_putOnTape_31 rfl ?_
  refine r_getI dX9_putOnTape_32 fl_X9_13 rfl ho ?_
  rw [tpI_t]
  refine r_iconst (v := nI 1) dX9_putOnTape_35 (by decide) ?_
  refine r_iadd dX9_putOnTape_36 ?_
  rw [nI_add]
  refine r_putI dX9_putOnTape_37 fl_X9_13 rfl rfl ho ?_
  rw [tpI_p]
  refine r_iinc (v := -8) dX9_putOnTape_40 rfl (by decide) ?_
  refine r_goto (tgt := 3) dX9_putOnTape_43 (by decide) ?_
  exact w4_X9_putOnTape o (t + 1) v (va_up row t (tb v 0)) ho ha pa

set_option maxHeartbeats 4000000 in
set_option maxRecDepth 100000 in
theorem w2_X9_putOnTape (o t : Nat) (v : Int32) (row : Nat → Int32) {n : Nat} {kd : mK} {I : mI} {J : mJ} {P : mP} (ho : kd o = some (0, 9)) (ha : kd (o + 1) = some (2, 500)) (pa : P o 0 = some (o + 1)) (ht : t + 2 ≤ 500) : Ru yX9_putOnTape.cls cX9_putOnTape 3 none yX9_putOnTape.name 1 (am_is none n kd (tpI o (o + 1) 1 (t + 2) (va_up (va_up (row) (t) (tb v 8)) (t + 1) (tb v 0)) I) J P) 0 0 3 [some (.ref o), some (.int v), some (.int (nI 8))] [] n kd (tpI o (o + 1) 1 (t) (row) I) J P := by
  refine r_iload_n dX9_putOnTape_3 rfl ?_
  refine r_if_lt (tgt := 46) dX9_putOnTape_4 (by decide) (fun hz => absurd hz (show ¬ _ from by decide)) (fun _ => ?_)
  refine r_aload_n dX9_putOnTape_7 rfl ?_
  refine r_getI dX9_putOnTape_8 fl_X9_13 rfl ho ?_
  rw [tpI_t]
  refine r_sipush (v := nI 500) dX9_putOnTape_11 (by decide) ?_
  refine r_icmp_ge (tgt := 46) dX9_putOnTape_14 (by decide) (fun hz => absurd hz (show ¬ _ from (by rw [nI_leI (by omega) (by omega)]; omega))) (fun _ => ?_)
  refine r_aload_n dX9_putOnTape_17 rfl ?_
  refine r_getR dX9_putOnTape_18 fl_X9_9 rfl ho pa ?_
  refine r_aload_n dX9_putOnTape_21 rfl ?_
  refine r_getI dX9_putOnTape_22 fl_X9_13 rfl ho ?_
  rw [tpI_t]
  refine r_iload_n dX9_putOnTape_25 rfl ?_
  refine r_iload_n dX9_putOnTape_26 rfl ?_
  refine r_ishr dX9_putOnTape_27 ?_
  refine r_i2b dX9_putOnTape_28 ?_
  refine r_bast dX9_putOnTape_29 ha (nI_in8 500 (by omega) (by decide)) (nI_clamp (by omega)) ?_
  rw [pk_vb, tpI_r (by omega), tpI_w (by omega)]
  refine r_aload_n dX9_putOnTape_30 rfl ?_
  refine r_dup dX9_putOnTape_31 rfl ?_
  refine r_getI dX9_putOnTape_32 fl_X9_13 rfl ho ?_
  rw [tpI_t]
  refine r_iconst (v := nI 1) dX9_putOnTape_35 (by decide) ?_
  refine r_iadd dX9_putOnTape_36 ?_
  rw [nI_add]
  refine r_putI dX9_putOnTape_37 fl_X9_13 rfl rfl ho ?_
  rw [tpI_p]
  refine r_iinc (v := nI 0) dX9_putOnTape_40 rfl (by decide) ?_
  refine r_goto (tgt := 3) dX9_putOnTape_43 (by decide) ?_
  exact w3_X9_putOnTape o (t + 1) v (va_up row t (tb v 8)) ho ha pa (by omega)

set_option maxHeartbeats 4000000 in
set_option maxRecDepth 100000 in
theorem w1_X9_putOnTape (o t : Nat) (v : Int32) (row : Nat → Int32) {n : Nat} {kd : mK} {I : mI} {J : mJ} {P : mP} (ho : kd o = some (0, 9)) (ha : kd (o + 1) = some (2, 500)) (pa : P o 0 = some (o + 1)) (ht : t + 3 ≤ 500) : Ru yX9_putOnTape.cls cX9_putOnTape 3 none yX9_putOnTape.name 1 (am_is none n kd (tpI o (o + 1) 1 (t + 3) (va_up (va_up (va_up (row) (t) (tb v 16)) (t + 1) (tb v 8)) (t + 2) (tb v 0)) I) J P) 0 0 3 [some (.ref o), some (.int v), some (.int (nI 16))] [] n kd (tpI o (o + 1) 1 (t) (row) I) J P := by
  refine r_iload_n dX9_putOnTape_3 rfl ?_
  refine r_if_lt (tgt := 46) dX9_putOnTape_4 (by decide) (fun hz => absurd hz (show ¬ _ from by decide)) (fun _ => ?_)
  refine r_aload_n dX9_putOnTape_7 rfl ?_
  refine r_getI dX9_putOnTape_8 fl_X9_13 rfl ho ?_
  rw [tpI_t]
  refine r_sipush (v := nI 500) dX9_putOnTape_11 (by decide) ?_
  refine r_icmp_ge (tgt := 46) dX9_putOnTape_14 (by decide) (fun hz => absurd hz (show ¬ _ from (by rw [nI_leI (by omega) (by omega)]; omega))) (fun _ => ?_)
  refine r_aload_n dX9_putOnTape_17 rfl ?_
  refine r_getR dX9_putOnTape_18 fl_X9_9 rfl ho pa ?_
  refine r_aload_n dX9_putOnTape_21 rfl ?_
  refine r_getI dX9_putOnTape_22 fl_X9_13 rfl ho ?_
  rw [tpI_t]
  refine r_iload_n dX9_putOnTape_25 rfl ?_
  refine r_iload_n dX9_putOnTape_26 rfl ?_
  refine r_ishr dX9_putOnTape_27 ?_
  refine r_i2b dX9_putOnTape_28 ?_
  refine r_bast dX9_putOnTape_29 ha (nI_in8 500 (by omega) (by decide)) (nI_clamp (by omega)) ?_
  rw [pk_vb, tpI_r (by omega), tpI_w (by omega)]
  refine r_aload_n dX9_putOnTape_30 rfl ?_
  refine r_dup dX9_putOnTape_31 rfl ?_
  refine r_getI dX9_putOnTape_32 fl_X9_13 rfl ho ?_
  rw [tpI_t]
  refine r_iconst (v := nI 1) dX9_putOnTape_35 (by decide) ?_
  refine r_iadd dX9_putOnTape_36 ?_
  rw [nI_add]
  refine r_putI dX9_putOnTape_37 fl_X9_13 rfl rfl ho ?_
  rw [tpI_p]
  refine r_iinc (v := nI 8) dX9_putOnTape_40 rfl (by decide) ?_
  refine r_goto (tgt := 3) dX9_putOnTape_43 (by decide) ?_
  exact w2_X9_putOnTape o (t + 1) v (va_up row t (tb v 16)) ho ha pa (by omega)

set_option maxHeartbeats 4000000 in
set_option maxRecDepth 100000 in
theorem w0_X9_putOnTape (o t : Nat) (v : Int32) (row : Nat → Int32) {n : Nat} {kd : mK} {I : mI} {J : mJ} {P : mP} (ho : kd o = some (0, 9)) (ha : kd (o + 1) = some (2, 500)) (pa : P o 0 = some (o + 1)) (ht : t + 4 ≤ 500) : Ru yX9_putOnTape.cls cX9_putOnTape 3 none yX9_putOnTape.name 1 (am_is none n kd (tpI o (o + 1) 1 (t + 4) (va_up (va_up (va_up (va_up (row) (t) (tb v 24)) (t + 1) (tb v 16)) (t + 2) (tb v 8)) (t + 3) (tb v 0)) I) J P) 0 0 3 [some (.ref o), some (.int v), some (.int (nI 24))] [] n kd (tpI o (o + 1) 1 (t) (row) I) J P := by
  refine r_iload_n dX9_putOnTape_3 rfl ?_
  refine r_if_lt (tgt := 46) dX9_putOnTape_4 (by decide) (fun hz => absurd hz (show ¬ _ from by decide)) (fun _ => ?_)
  refine r_aload_n dX9_putOnTape_7 rfl ?_
  refine r_getI dX9_putOnTape_8 fl_X9_13 rfl ho ?_
  rw [tpI_t]
  refine r_sipush (v := nI 500) dX9_putOnTape_11 (by decide) ?_
  refine r_icmp_ge (tgt := 46) dX9_putOnTape_14 (by decide) (fun hz => absurd hz (show ¬ _ from (by rw [nI_leI (by omega) (by omega)]; omega))) (fun _ => ?_)
  refine r_aload_n dX9_putOnTape_17 rfl ?_
  refine r_getR dX9_putOnTape_18 fl_X9_9 rfl ho pa ?_
  refine r_aload_n dX9_putOnTape_21 rfl ?_
  refine r_getI dX9_putOnTape_22 fl_X9_13 rfl ho ?_
  rw [tpI_t]
  refine r_iload_n dX9_putOnTape_25 rfl ?_
  refine r_iload_n dX9_putOnTape_26 rfl ?_
  refine r_ishr dX9_putOnTape_27 ?_
  refine r_i2b dX9_putOnTape_28 ?_
  refine r_bast dX9_putOnTape_29 ha (nI_in8 500 (by omega) (by decide)) (nI_clamp (by omega)) ?_
  rw [pk_vb, tpI_r (by omega), tpI_w (by omega)]
  refine r_aload_n dX9_putOnTape_30 rfl ?_
  refine r_dup dX9_putOnTape_31 rfl ?_
  refine r_getI dX9_putOnTape_32 fl_X9_13 rfl ho ?_
  rw [tpI_t]
  refine r_iconst (v := nI 1) dX9_putOnTape_35 (by decide) ?_
  refine r_iadd dX9_putOnTape_36 ?_
  rw [nI_add]
  refine r_putI dX9_putOnTape_37 fl_X9_13 rfl rfl ho ?_
  rw [tpI_p]
  refine r_iinc (v := nI 16) dX9_putOnTape_40 rfl (by decide) ?_
  refine r_goto (tgt := 3) dX9_putOnTape_43 (by decide) ?_
  exact w1_X9_putOnTape o (t + 1) v (va_up row t (tb v 24)) ho ha pa (by omega)

set_option maxHeartbeats 4000000 in
set_option maxRecDepth 100000 in
theorem c_X9_putOnTape (o t : Nat) (v : Int32) (row : Nat → Int32) {n : Nat} {kd : mK} {I : mI} {J : mJ} {P : mP} (ho : kd o = some (0, 9)) (ha : kd (o + 1) = some (2, 500)) (pa : P o 0 = some (o + 1)) (ht : t + 4 ≤ 500) : Ct yX9_putOnTape cX9_putOnTape 3 none 1 0 0 [.ref o, .int v] n kd (tpI o (o + 1) 1 (t) (row) I) J P (am_is none n kd (tpI o (o + 1) 1 (t + 4) (tp4 tb v t row) I) J P) := by
  refine ct_of 1 (by decide +kernel) (Nat.le_of_ble_eq_true rfl) rfl ?_
  refine r_bipush (v := nI 24) dX9_putOnTape_0 (by decide) ?_
  refine r_istore_n dX9_putOnTape_2 (by decide) ?_
  exact w0_X9_putOnTape o t v row ho ha pa ht

theorem dX9_feed_0 : decode cX9_feed 0 = .ok (.aload_n 0, 1) := by decide +kernel
theorem dX9_feed_1 : decode cX9_feed 1 = .ok (.getfield 13, 3) := by decide +kernel
theorem dX9_feed_4 : decode cX9_feed 4 = .ok (.bipush 20, 2) := by decide +kernel
theorem dX9_feed_6 : decode cX9_feed 6 = .ok (.iadd, 1) := by decide +kernel
theorem dX9_feed_7 : decode cX9_feed 7 = .ok (.sipush 500, 3) := by decide +kernel
theorem dX9_feed_10 : decode cX9_feed 10 = .ok (.if_icmp .le 5, 3) := by decide +kernel
theorem dX9_feed_13 : decode cX9_feed 13 = .ok (.iconst (-1), 1) := by decide +kernel
theorem dX9_feed_14 : decode cX9_feed 14 = .ok (.ireturn, 1) := by decide +kernel
theorem dX9_feed_15 : decode cX9_feed 15 = .ok (.aload_n 0, 1) := by decide +kernel
theorem dX9_feed_16 : decode cX9_feed 16 = .ok (.iload_n 1, 1) := by decide +kernel
theorem dX9_feed_17 : decode cX9_feed 17 = .ok (.invokevirtual 106, 3) := by decide +kernel
theorem dX9_feed_20 : decode cX9_feed 20 = .ok (.aload_n 0, 1) := by decide +kernel
theorem dX9_feed_21 : decode cX9_feed 21 = .ok (.iload_n 2, 1) := by decide +kernel
theorem dX9_feed_22 : decode cX9_feed 22 = .ok (.invokevirtual 106, 3) := by decide +kernel
theorem dX9_feed_25 : decode cX9_feed 25 = .ok (.aload_n 0, 1) := by decide +kernel
theorem dX9_feed_26 : decode cX9_feed 26 = .ok (.iload_n 3, 1) := by decide +kernel
theorem dX9_feed_27 : decode cX9_feed 27 = .ok (.invokevirtual 106, 3) := by decide +kernel
theorem dX9_feed_30 : decode cX9_feed 30 = .ok (.aload_n 0, 1) := by decide +kernel
theorem dX9_feed_31 : decode cX9_feed 31 = .ok (.iload 4, 2) := by decide +kernel
theorem dX9_feed_33 : decode cX9_feed 33 = .ok (.invokevirtual 106, 3) := by decide +kernel
theorem dX9_feed_36 : decode cX9_feed 36 = .ok (.aload_n 0, 1) := by decide +kernel
theorem dX9_feed_37 : decode cX9_feed 37 = .ok (.iload 5, 2) := by decide +kernel
theorem dX9_feed_39 : decode cX9_feed 39 = .ok (.invokevirtual 106, 3) := by decide +kernel
theorem dX9_feed_42 : decode cX9_feed 42 = .ok (.aload_n 0, 1) := by decide +kernel
theorem dX9_feed_43 : decode cX9_feed 43 = .ok (.getfield 13, 3) := by decide +kernel
theorem dX9_feed_46 : decode cX9_feed 46 = .ok (.ireturn, 1) := by decide +kernel
set_option maxHeartbeats 4000000 in
set_option maxRecDepth 100000 in
theorem c_X9_feed (o t : Nat) (v1 v2 v3 v4 v5 : Int32) {n : Nat} {kd : mK} {I : mI} {J : mJ} {P : mP} (ho : kd o = some (0, 9)) (ha : kd (o + 1) = some (2, 500)) (pa : P o 0 = some (o + 1)) (h1 : I o 1 = nI t) (ht : t + 20 ≤ 500) : Ct yX9_feed cX9_feed 6 (some .int) 2 0 0 [.ref o, .int v1, .int v2, .int v3, .int v4, .int v5] n kd I J P (am_is (some (.int (nI (t + 20)))) n kd (tpI o (o + 1) 1 (t + 20) (tp4 tb v5 (t + 16) (tp4 tb v4 (t + 12) (tp4 tb v3 (t + 8) (tp4 tb v2 (t + 4) (tp4 tb v1 (t) (I (o + 1))))))) I) J P) := by
  suffices h9 : Ct yX9_feed cX9_feed 6 (some .int) 2 0 0 [.ref o, .int v1, .int v2, .int v3, .int v4, .int v5] n kd (tpI o (o + 1) 1 t (I (o + 1)) I) J P (am_is (some (.int (nI (t + 20)))) n kd (tpI o (o + 1) 1 (t + 20) (tp4 tb v5 (t + 16) (tp4 tb v4 (t + 12) (tp4 tb v3 (t + 8) (tp4 tb v2 (t + 4) (tp4 tb v1 (t) (I (o + 1))))))) I) J P) by rw [tpI_self h1] at h9; exact h9
  refine ct_of 0 (by decide +kernel) (Nat.le_of_ble_eq_true rfl) rfl ?_
  refine r_aload_n dX9_feed_0 rfl ?_
  refine r_getI dX9_feed_1 fl_X9_13 rfl ho ?_
  rw [tpI_t]
  refine r_bipush (v := nI 20) dX9_feed_4 (by decide) ?_
  refine r_iadd dX9_feed_6 ?_
  rw [nI_add]
  refine r_sipush (v := nI 500) dX9_feed_7 (by decide) ?_
  refine r_icmp_le (tgt := 15) dX9_feed_10 (by decide) (fun _ => ?_) (fun hz => absurd (show _ from (by rw [nI_leI (by omega) (by omega)]; omega)) hz)
  refine r_aload_n dX9_feed_15 rfl ?_
  refine r_iload_n dX9_feed_16 rfl ?_
  refine r_virtV (c_X9_putOnTape o (t) v1 (I (o + 1)) ho ha pa (by omega)) lk_X9_106 mc_X9_putOnTape dX9_feed_17 ho (by decide) rfl rfl (Nat.le_of_ble_eq_true rfl) ?_
  refine r_aload_n dX9_feed_20 rfl ?_
  refine r_iload_n dX9_feed_21 rfl ?_
  refine r_virtV (c_X9_putOnTape o (t + 4) v2 (tp4 tb v1 (t) (I (o + 1))) ho ha pa (by omega)) lk_X9_106 mc_X9_putOnTape dX9_feed_22 ho (by decide) rfl rfl (Nat.le_of_ble_eq_true rfl) ?_
  refine r_aload_n dX9_feed_25 rfl ?_
  refine r_iload_n dX9_feed_26 rfl ?_
  refine r_virtV (c_X9_putOnTape o (t + 8) v3 (tp4 tb v2 (t + 4) (tp4 tb v1 (t) (I (o + 1)))) ho ha pa (by omega)) lk_X9_106 mc_X9_putOnTape dX9_feed_27 ho (by decide) rfl rfl (Nat.le_of_ble_eq_true rfl) ?_
  refine r_aload_n dX9_feed_30 rfl ?_
  refine r_iload dX9_feed_31 rfl ?_
  refine r_virtV (c_X9_putOnTape o (t + 12) v4 (tp4 tb v3 (t + 8) (tp4 tb v2 (t + 4) (tp4 tb v1 (t) (I (o + 1))))) ho ha pa (by omega)) lk_X9_106 mc_X9_putOnTape dX9_feed_33 ho (by decide) rfl rfl (Nat.le_of_ble_eq_true rfl) ?_
  refine r_aload_n dX9_feed_36 rfl ?_
  refine r_iload dX9_feed_37 rfl ?_
  refine r_virtV (c_X9_putOnTape o (t + 16) v5 (tp4 tb v4 (t + 12) (tp4 tb v3 (t + 8) (tp4 tb v2 (t + 4) (tp4 tb v1 (t) (I (o + 1)))))) ho ha pa (by omega)) lk_X9_106 mc_X9_putOnTape dX9_feed_39 ho (by decide) rfl rfl (Nat.le_of_ble_eq_true rfl) ?_
  refine r_aload_n dX9_feed_42 rfl ?_
  refine r_getI dX9_feed_43 fl_X9_13 rfl ho ?_
  rw [tpI_t]
  refine r_iret rfl dX9_feed_46 ?_
  exact am_is.mk

theorem dX10_lays_0 : decode cX10_lays 0 = .ok (.bipush 24, 2) := by decide +kernel
theorem dX10_lays_2 : decode cX10_lays 2 = .ok (.istore_n 2, 1) := by decide +kernel
theorem dX10_lays_3 : decode cX10_lays 3 = .ok (.iload_n 2, 1) := by decide +kernel
theorem dX10_lays_4 : decode cX10_lays 4 = .ok (.ifCond .lt 35, 3) := by decide +kernel
theorem dX10_lays_7 : decode cX10_lays 7 = .ok (.aload_n 0, 1) := by decide +kernel
theorem dX10_lays_8 : decode cX10_lays 8 = .ok (.getfield 44, 3) := by decide +kernel
theorem dX10_lays_11 : decode cX10_lays 11 = .ok (.aload_n 0, 1) := by decide +kernel
theorem dX10_lays_12 : decode cX10_lays 12 = .ok (.getfield 196, 3) := by decide +kernel
theorem dX10_lays_15 : decode cX10_lays 15 = .ok (.iload_n 1, 1) := by decide +kernel
theorem dX10_lays_16 : decode cX10_lays 16 = .ok (.iload_n 2, 1) := by decide +kernel
theorem dX10_lays_17 : decode cX10_lays 17 = .ok (.ishr, 1) := by decide +kernel
theorem dX10_lays_18 : decode cX10_lays 18 = .ok (.sipush 255, 3) := by decide +kernel
theorem dX10_lays_21 : decode cX10_lays 21 = .ok (.iand, 1) := by decide +kernel
theorem dX10_lays_22 : decode cX10_lays 22 = .ok (.iastore, 1) := by decide +kernel
theorem dX10_lays_23 : decode cX10_lays 23 = .ok (.aload_n 0, 1) := by decide +kernel
theorem dX10_lays_24 : decode cX10_lays 24 = .ok (.dup, 1) := by decide +kernel
theorem dX10_lays_25 : decode cX10_lays 25 = .ok (.getfield 196, 3) := by decide +kernel
theorem dX10_lays_28 : decode cX10_lays 28 = .ok (.iconst 1, 1) := by decide +kernel
theorem dX10_lays_29 : decode cX10_lays 29 = .ok (.iadd, 1) := by decide +kernel
theorem dX10_lays_30 : decode cX10_lays 30 = .ok (.putfield 196, 3) := by decide +kernel
theorem dX10_lays_33 : decode cX10_lays 33 = .ok (.iinc 2 (-8), 3) := by decide +kernel
theorem dX10_lays_36 : decode cX10_lays 36 = .ok (.goto (-33), 3) := by decide +kernel
theorem dX10_lays_39 : decode cX10_lays 39 = .ok (.return_, 1) := by decide +kernel

set_option maxHeartbeats 4000000 in
set_option maxRecDepth 100000 in
theorem w4_X10_lays (m t : Nat) (v : Int32) (row : Nat → Int32) {n : Nat} {kd : mK} {I : mI} {J : mJ} {P : mP} (hM : kM kd P m) : Ru yX10_lays.cls cX10_lays 3 none yX10_lays.name 1 (am_is none n kd (tpI m (m + 11) 15 (t) (row) I) J P) 0 0 3 [some (.ref m), some (.int v), some (.int (-8))] [] n kd (tpI m (m + 11) 15 (t) (row) I) J P := by
  refine r_iload_n dX10_lays_3 rfl ?_
  refine r_if_lt (tgt := 39) dX10_lays_4 (by decide) (fun _ => ?_) (fun hz => absurd (show _ from by decide) hz)
  refine r_vret rfl dX10_lays_39 ?_
  exact am_is.mk

set_option maxHeartbeats 4000000 in
set_option maxRecDepth 100000 in
theorem w3_X10_lays (m t : Nat) (v : Int32) (row : Nat → Int32) {n : Nat} {kd : mK} {I : mI} {J : mJ} {P : mP} (hM : kM kd P m) (ht : t + 1 ≤ 500) : Ru yX10_lays.cls cX10_lays 3 none yX10_lays.name 1 (am_is none n kd (tpI m (m + 11) 15 (t + 1) (va_up (row) (t) (tb2 v 0)) I) J P) 0 0 3 [some (.ref m), some (.int v), some (.int (nI 0))] [] n kd (tpI m (m + 11) 15 (t) (row) I) J P := by
  refine r_iload_n dX10_lays_3 rfl ?_
  refine r_if_lt (tgt := 39) dX10_lays_4 (by decide) (fun hz => absurd hz (show ¬ _ from by decide)) (fun _ => ?_)
  refine r_aload_n dX10_lays_7 rfl ?_
  refine r_getR dX10_lays_8 fl_X10_44 rfl (kM_0 hM) (pM_14 hM) ?_
  refine r_aload_n dX10_lays_11 rfl ?_
  refine r_getI dX10_lays_12 fl_X10_196 rfl (kM_0 hM) ?_
  rw [tpI_t]
  refine r_iload_n dX10_lays_15 rfl ?_
  refine r_iload_n dX10_lays_16 rfl ?_
  refine r_ishr dX10_lays_17 ?_
  refine r_sipush (v := nI 255) dX10_lays_18 (by decide) ?_
  refine r_iand dX10_lays_21 ?_
  refine r_iast dX10_lays_22 (aM_14 hM) (nI_in8 500 (by omega) (by decide)) (nI_clamp (by omega)) ?_
  rw [tpI_r (by omega), tpI_w (by omega)]
  refine r_aload_n dX10_lays_23 rfl ?_
  refine r_dup dX10_lays_24 rfl ?_
  refine r_getI dX10_lays_25 fl_X10_196 rfl (kM_0 hM) ?_
  rw [tpI_t]
  refine r_iconst (v := nI 1) dX10_lays_28 (by decide) ?_
  refine r_iadd dX10_lays_29 ?_
  rw [nI_add]
  refine r_putI dX10_lays_30 fl_X10_196 rfl rfl (kM_0 hM) ?_
  rw [tpI_p]
  refine r_iinc (v := -8) dX10_lays_33 rfl (by decide) ?_
  refine r_goto (tgt := 3) dX10_lays_36 (by decide) ?_
  exact w4_X10_lays m (t + 1) v (va_up row t (tb2 v 0)) hM

set_option maxHeartbeats 4000000 in
set_option maxRecDepth 100000 in
theorem w2_X10_lays (m t : Nat) (v : Int32) (row : Nat → Int32) {n : Nat} {kd : mK} {I : mI} {J : mJ} {P : mP} (hM : kM kd P m) (ht : t + 2 ≤ 500) : Ru yX10_lays.cls cX10_lays 3 none yX10_lays.name 1 (am_is none n kd (tpI m (m + 11) 15 (t + 2) (va_up (va_up (row) (t) (tb2 v 8)) (t + 1) (tb2 v 0)) I) J P) 0 0 3 [some (.ref m), some (.int v), some (.int (nI 8))] [] n kd (tpI m (m + 11) 15 (t) (row) I) J P := by
  refine r_iload_n dX10_lays_3 rfl ?_
  refine r_if_lt (tgt := 39) dX10_lays_4 (by decide) (fun hz => absurd hz (show ¬ _ from by decide)) (fun _ => ?_)
  refine r_aload_n dX10_lays_7 rfl ?_
  refine r_getR dX10_lays_8 fl_X10_44 rfl (kM_0 hM) (pM_14 hM) ?_
  refine r_aload_n dX10_lays_11 rfl ?_
  refine r_getI dX10_lays_12 fl_X10_196 rfl (kM_0 hM) ?_
  rw [tpI_t]
  refine r_iload_n dX10_lays_15 rfl ?_
  refine r_iload_n dX10_lays_16 rfl ?_
  refine r_ishr dX10_lays_17 ?_
  refine r_sipush (v := nI 255) dX10_lays_18 (by decide) ?_
  refine r_iand dX10_lays_21 ?_
  refine r_iast dX10_lays_22 (aM_14 hM) (nI_in8 500 (by omega) (by decide)) (nI_clamp (by omega)) ?_
  rw [tpI_r (by omega), tpI_w (by omega)]
  refine r_aload_n dX10_lays_23 rfl ?_
  refine r_dup dX10_lays_24 rfl ?_
  refine r_getI dX10_lays_25 fl_X10_196 rfl (kM_0 hM) ?_
  rw [tpI_t]
  refine r_iconst (v := nI 1) dX10_lays_28 (by decide) ?_
  refine r_iadd dX10_lays_29 ?_
  rw [nI_add]
  refine r_putI dX10_lays_30 fl_X10_196 rfl rfl (kM_0 hM) ?_
  rw [tpI_p]
  refine r_iinc (v := nI 0) dX10_lays_33 rfl (by decide) ?_
  refine r_goto (tgt := 3) dX10_lays_36 (by decide) ?_
  exact w3_X10_lays m (t + 1) v (va_up row t (tb2 v 8)) hM (by omega)

set_option maxHeartbeats 4000000 in
set_option maxRecDepth 100000 in
theorem w1_X10_lays (m t : Nat) (v : Int32) (row : Nat → Int32) {n : Nat} {kd : mK} {I : mI} {J : mJ} {P : mP} (hM : kM kd P m) (ht : t + 3 ≤ 500) : Ru yX10_lays.cls cX10_lays 3 none yX10_lays.name 1 (am_is none n kd (tpI m (m + 11) 15 (t + 3) (va_up (va_up (va_up (row) (t) (tb2 v 16)) (t + 1) (tb2 v 8)) (t + 2) (tb2 v 0)) I) J P) 0 0 3 [some (.ref m), some (.int v), some (.int (nI 16))] [] n kd (tpI m (m + 11) 15 (t) (row) I) J P := by
  refine r_iload_n dX10_lays_3 rfl ?_
  refine r_if_lt (tgt := 39) dX10_lays_4 (by decide) (fun hz => absurd hz (show ¬ _ from by decide)) (fun _ => ?_)
  refine r_aload_n dX10_lays_7 rfl ?_
  refine r_getR dX10_lays_8 fl_X10_44 rfl (kM_0 hM) (pM_14 hM) ?_
  refine r_aload_n dX10_lays_11 rfl ?_
  refine r_getI dX10_lays_12 fl_X10_196 rfl (kM_0 hM) ?_
  rw [tpI_t]
  refine r_iload_n dX10_lays_15 rfl ?_
  refine r_iload_n dX10_lays_16 rfl ?_
  refine r_ishr dX10_lays_17 ?_
  refine r_sipush (v := nI 255) dX10_lays_18 (by decide) ?_
  refine r_iand dX10_lays_21 ?_
  refine r_iast dX10_lays_22 (aM_14 hM) (nI_in8 500 (by omega) (by decide)) (nI_clamp (by omega)) ?_
  rw [tpI_r (by omega), tpI_w (by omega)]
  refine r_aload_n dX10_lays_23 rfl ?_
  refine r_dup dX10_lays_24 rfl ?_
  refine r_getI dX10_lays_25 fl_X10_196 rfl (kM_0 hM) ?_
  rw [tpI_t]
  refine r_iconst (v := nI 1) dX10_lays_28 (by decide) ?_
  refine r_iadd dX10_lays_29 ?_
  rw [nI_add]
  refine r_putI dX10_lays_30 fl_X10_196 rfl rfl (kM_0 hM) ?_
  rw [tpI_p]
  refine r_iinc (v := nI 8) dX10_lays_33 rfl (by decide) ?_
  refine r_goto (tgt := 3) dX10_lays_36 (by decide) ?_
  exact w2_X10_lays m (t + 1) v (va_up row t (tb2 v 16)) hM (by omega)

set_option maxHeartbeats 4000000 in
set_option maxRecDepth 100000 in
theorem w0_X10_lays (m t : Nat) (v : Int32) (row : Nat → Int32) {n : Nat} {kd : mK} {I : mI} {J : mJ} {P : mP} (hM : kM kd P m) (ht : t + 4 ≤ 500) : Ru yX10_lays.cls cX10_lays 3 none yX10_lays.name 1 (am_is none n kd (tpI m (m + 11) 15 (t + 4) (va_up (va_up (va_up (va_up (row) (t) (tb2 v 24)) (t + 1) (tb2 v 16)) (t + 2) (tb2 v 8)) (t + 3) (tb2 v 0)) I) J P) 0 0 3 [some (.ref m), some (.int v), some (.int (nI 24))] [] n kd (tpI m (m + 11) 15 (t) (row) I) J P := by
  refine r_iload_n dX10_lays_3 rfl ?_
  refine r_if_lt (tgt := 39) dX10_lays_4 (by decide) (fun hz => absurd hz (show ¬ _ from by decide)) (fun _ => ?_)
  refine r_aload_n dX10_lays_7 rfl ?_
  refine r_getR dX10_lays_8 fl_X10_44 rfl (kM_0 hM) (pM_14 hM) ?_
  refine r_aload_n dX10_lays_11 rfl ?_
  refine r_getI dX10_lays_12 fl_X10_196 rfl (kM_0 hM) ?_
  rw [tpI_t]
  refine r_iload_n dX10_lays_15 rfl ?_
  refine r_iload_n dX10_lays_16 rfl ?_
  refine r_ishr dX10_lays_17 ?_
  refine r_sipush (v := nI 255) dX10_lays_18 (by decide) ?_
  refine r_iand dX10_lays_21 ?_
  refine r_iast dX10_lays_22 (aM_14 hM) (nI_in8 500 (by omega) (by decide)) (nI_clamp (by omega)) ?_
  rw [tpI_r (by omega), tpI_w (by omega)]
  refine r_aload_n dX10_lays_23 rfl ?_
  refine r_dup dX10_lays_24 rfl ?_
  refine r_getI dX10_lays_25 fl_X10_196 rfl (kM_0 hM) ?_
  rw [tpI_t]
  refine r_iconst (v := nI 1) dX10_lays_28 (by decide) ?_
  refine r_iadd dX10_lays_29 ?_
  rw [nI_add]
  refine r_putI dX10_lays_30 fl_X10_196 rfl rfl (kM_0 hM) ?_
  rw [tpI_p]
  refine r_iinc (v := nI 16) dX10_lays_33 rfl (by decide) ?_
  refine r_goto (tgt := 3) dX10_lays_36 (by decide) ?_
  exact w1_X10_lays m (t + 1) v (va_up row t (tb2 v 24)) hM (by omega)

set_option maxHeartbeats 4000000 in
set_option maxRecDepth 100000 in
theorem c_X10_lays (m t : Nat) (v : Int32) (row : Nat → Int32) {n : Nat} {kd : mK} {I : mI} {J : mJ} {P : mP} (hM : kM kd P m) (ht : t + 4 ≤ 500) : Ct yX10_lays cX10_lays 3 none 1 0 0 [.ref m, .int v] n kd (tpI m (m + 11) 15 (t) (row) I) J P (am_is none n kd (tpI m (m + 11) 15 (t + 4) (tp4 tb2 v t row) I) J P) := by
  refine ct_of 1 (by decide +kernel) (Nat.le_of_ble_eq_true rfl) rfl ?_
  refine r_bipush (v := nI 24) dX10_lays_0 (by decide) ?_
  refine r_istore_n dX10_lays_2 (by decide) ?_
  exact w0_X10_lays m t v row hM ht

theorem dX10_feed_0 : decode cX10_feed 0 = .ok (.aload_n 0, 1) := by decide +kernel
theorem dX10_feed_1 : decode cX10_feed 1 = .ok (.iconst 0, 1) := by decide +kernel
theorem dX10_feed_2 : decode cX10_feed 2 = .ok (.putfield 193, 3) := by decide +kernel
theorem dX10_feed_5 : decode cX10_feed 5 = .ok (.aload_n 0, 1) := by decide +kernel
theorem dX10_feed_6 : decode cX10_feed 6 = .ok (.getfield 196, 3) := by decide +kernel
theorem dX10_feed_9 : decode cX10_feed 9 = .ok (.bipush 20, 2) := by decide +kernel
theorem dX10_feed_11 : decode cX10_feed 11 = .ok (.iadd, 1) := by decide +kernel
theorem dX10_feed_12 : decode cX10_feed 12 = .ok (.sipush 500, 3) := by decide +kernel
theorem dX10_feed_15 : decode cX10_feed 15 = .ok (.if_icmp .le 5, 3) := by decide +kernel
theorem dX10_feed_18 : decode cX10_feed 18 = .ok (.iconst (-1), 1) := by decide +kernel
theorem dX10_feed_19 : decode cX10_feed 19 = .ok (.ireturn, 1) := by decide +kernel
theorem dX10_feed_20 : decode cX10_feed 20 = .ok (.aload_n 0, 1) := by decide +kernel
theorem dX10_feed_21 : decode cX10_feed 21 = .ok (.iload_n 1, 1) := by decide +kernel
theorem dX10_feed_22 : decode cX10_feed 22 = .ok (.invokevirtual 199, 3) := by decide +kernel
theorem dX10_feed_25 : decode cX10_feed 25 = .ok (.aload_n 0, 1) := by decide +kernel
theorem dX10_feed_26 : decode cX10_feed 26 = .ok (.iload_n 2, 1) := by decide +kernel
theorem dX10_feed_27 : decode cX10_feed 27 = .ok (.invokevirtual 199, 3) := by decide +kernel
theorem dX10_feed_30 : decode cX10_feed 30 = .ok (.aload_n 0, 1) := by decide +kernel
theorem dX10_feed_31 : decode cX10_feed 31 = .ok (.iload_n 3, 1) := by decide +kernel
theorem dX10_feed_32 : decode cX10_feed 32 = .ok (.invokevirtual 199, 3) := by decide +kernel
theorem dX10_feed_35 : decode cX10_feed 35 = .ok (.aload_n 0, 1) := by decide +kernel
theorem dX10_feed_36 : decode cX10_feed 36 = .ok (.iload 4, 2) := by decide +kernel
theorem dX10_feed_38 : decode cX10_feed 38 = .ok (.invokevirtual 199, 3) := by decide +kernel
theorem dX10_feed_41 : decode cX10_feed 41 = .ok (.aload_n 0, 1) := by decide +kernel
theorem dX10_feed_42 : decode cX10_feed 42 = .ok (.iload 5, 2) := by decide +kernel
theorem dX10_feed_44 : decode cX10_feed 44 = .ok (.invokevirtual 199, 3) := by decide +kernel
theorem dX10_feed_47 : decode cX10_feed 47 = .ok (.aload_n 0, 1) := by decide +kernel
theorem dX10_feed_48 : decode cX10_feed 48 = .ok (.getfield 196, 3) := by decide +kernel
theorem dX10_feed_51 : decode cX10_feed 51 = .ok (.ireturn, 1) := by decide +kernel
set_option maxHeartbeats 4000000 in
set_option maxRecDepth 100000 in
theorem c_X10_feed (m t : Nat) (v1 v2 v3 v4 v5 : Int32) {n : Nat} {kd : mK} {I : mI} {J : mJ} {P : mP} (hM : kM kd P m) (h1 : I m 15 = nI t) (ht : t + 20 ≤ 500) : Ct yX10_feed cX10_feed 6 (some .int) 2 0 0 [.ref m, .int v1, .int v2, .int v3, .int v4, .int v5] n kd I J P (am_is (some (.int (nI (t + 20)))) n kd (tpI m (m + 11) 15 (t + 20) (tp4 tb2 v5 (t + 16) (tp4 tb2 v4 (t + 12) (tp4 tb2 v3 (t + 8) (tp4 tb2 v2 (t + 4) (tp4 tb2 v1 (t) (I (m + 11))))))) (va_up I m (va_up (I m) 0 (nI 0)))) J P) := by
  refine ct_of 0 (by decide +kernel) (Nat.le_of_ble_eq_true rfl) rfl ?_
  refine r_aload_n dX10_feed_0 rfl ?_
  refine r_iconst (v := nI 0) dX10_feed_1 (by decide) ?_
  refine r_putI dX10_feed_2 fl_X10_193 rfl rfl (kM_0 hM) ?_
  generalize hI1 : va_up I m (va_up (I m) 0 (nI 0)) = I1
  have e1 : I1 m 15 = nI t := by rw [← hI1, am_up_s, am_up_n _ _ (by decide)]; exact h1
  have e2 : I1 (m + 11) = I (m + 11) := by rw [← hI1, am_up_n _ _ (by omega)]
  rw [← tpI_self (ar := m + 11) e1, e2]
  refine r_aload_n dX10_feed_5 rfl ?_
  refine r_getI dX10_feed_6 fl_X10_196 rfl (kM_0 hM) ?_
  rw [tpI_t]
  refine r_bipush (v := nI 20) dX10_feed_9 (by decide) ?_
  refine r_iadd dX10_feed_11 ?_
  rw [nI_add]
  refine r_sipush (v := nI 500) dX10_feed_12 (by decide) ?_
  refine r_icmp_le (tgt := 20) dX10_feed_15 (by decide) (fun _ => ?_) (fun hz => absurd (show _ from (by rw [nI_leI (by omega) (by omega)]; omega)) hz)
  refine r_aload_n dX10_feed_20 rfl ?_
  refine r_iload_n dX10_feed_21 rfl ?_
  refine r_virtV (c_X10_lays m (t) v1 (I (m + 11)) hM (by omega)) lk_X10_199 mc_X10_lays dX10_feed_22 (kM_0 hM) (by decide) rfl rfl (Nat.le_of_ble_eq_true rfl) ?_
  refine r_aload_n dX10_feed_25 rfl ?_
  refine r_iload_n dX10_feed_26 rfl ?_
  refine r_virtV (c_X10_lays m (t + 4) v2 (tp4 tb2 v1 (t) (I (m + 11))) hM (by omega)) lk_X10_199 mc_X10_lays dX10_feed_27 (kM_0 hM) (by decide) rfl rfl (Nat.le_of_ble_eq_true rfl) ?_
  refine r_aload_n dX10_feed_30 rfl ?_
  refine r_iload_n dX10_feed_31 rfl ?_
  refine r_virtV (c_X10_lays m (t + 8) v3 (tp4 tb2 v2 (t + 4) (tp4 tb2 v1 (t) (I (m + 11)))) hM (by omega)) lk_X10_199 mc_X10_lays dX10_feed_32 (kM_0 hM) (by decide) rfl rfl (Nat.le_of_ble_eq_true rfl) ?_
  refine r_aload_n dX10_feed_35 rfl ?_
  refine r_iload dX10_feed_36 rfl ?_
  refine r_virtV (c_X10_lays m (t + 12) v4 (tp4 tb2 v3 (t + 8) (tp4 tb2 v2 (t + 4) (tp4 tb2 v1 (t) (I (m + 11))))) hM (by omega)) lk_X10_199 mc_X10_lays dX10_feed_38 (kM_0 hM) (by decide) rfl rfl (Nat.le_of_ble_eq_true rfl) ?_
  refine r_aload_n dX10_feed_41 rfl ?_
  refine r_iload dX10_feed_42 rfl ?_
  refine r_virtV (c_X10_lays m (t + 16) v5 (tp4 tb2 v4 (t + 12) (tp4 tb2 v3 (t + 8) (tp4 tb2 v2 (t + 4) (tp4 tb2 v1 (t) (I (m + 11)))))) hM (by omega)) lk_X10_199 mc_X10_lays dX10_feed_44 (kM_0 hM) (by decide) rfl rfl (Nat.le_of_ble_eq_true rfl) ?_
  refine r_aload_n dX10_feed_47 rfl ?_
  refine r_getI dX10_feed_48 fl_X10_196 rfl (kM_0 hM) ?_
  rw [tpI_t]
  refine r_iret rfl dX10_feed_51 ?_
  have e3 := tpI_self (ar := m + 11) e1
  rw [e2] at e3
  rw [e3]
  subst hI1
  exact am_is.mk

