/-! THE REFERENCE: who speaks, rows copied, refusals; THE CLASS: numberings with a number, a row given -/
def spR (A B : Nat → Int32) : Nat → Int32
  | 0 => nI 0
  | i + 1 => spR A B i ||| (if A i = nI 1 then (if B i = 0 then nI 1 <<< (nI i &&& 31) else nI 0) else nI 0)
theorem dX10_speaking_0 : decode cX10_speaking 0 = .ok (.iconst 0, 1) := by decide +kernel
theorem dX10_speaking_1 : decode cX10_speaking 1 = .ok (.istore_n 1, 1) := by decide +kernel
theorem dX10_speaking_2 : decode cX10_speaking 2 = .ok (.iconst 0, 1) := by decide +kernel
theorem dX10_speaking_3 : decode cX10_speaking 3 = .ok (.istore_n 2, 1) := by decide +kernel
theorem dX10_speaking_4 : decode cX10_speaking 4 = .ok (.iload_n 2, 1) := by decide +kernel
theorem dX10_speaking_5 : decode cX10_speaking 5 = .ok (.aload_n 0, 1) := by decide +kernel
theorem dX10_speaking_6 : decode cX10_speaking 6 = .ok (.getfield 350, 3) := by decide +kernel
theorem dX10_speaking_9 : decode cX10_speaking 9 = .ok (.if_icmp .ge 38, 3) := by decide +kernel
theorem dX10_speaking_12 : decode cX10_speaking 12 = .ok (.iload_n 1, 1) := by decide +kernel
theorem dX10_speaking_13 : decode cX10_speaking 13 = .ok (.aload_n 0, 1) := by decide +kernel
theorem dX10_speaking_14 : decode cX10_speaking 14 = .ok (.getfield 20, 3) := by decide +kernel
theorem dX10_speaking_17 : decode cX10_speaking 17 = .ok (.iload_n 2, 1) := by decide +kernel
theorem dX10_speaking_18 : decode cX10_speaking 18 = .ok (.iaload, 1) := by decide +kernel
theorem dX10_speaking_19 : decode cX10_speaking 19 = .ok (.iconst 1, 1) := by decide +kernel
theorem dX10_speaking_20 : decode cX10_speaking 20 = .ok (.if_icmp .ne 18, 3) := by decide +kernel
theorem dX10_speaking_23 : decode cX10_speaking 23 = .ok (.aload_n 0, 1) := by decide +kernel
theorem dX10_speaking_24 : decode cX10_speaking 24 = .ok (.getfield 23, 3) := by decide +kernel
theorem dX10_speaking_27 : decode cX10_speaking 27 = .ok (.iload_n 2, 1) := by decide +kernel
theorem dX10_speaking_28 : decode cX10_speaking 28 = .ok (.iaload, 1) := by decide +kernel
theorem dX10_speaking_29 : decode cX10_speaking 29 = .ok (.ifCond .ne 9, 3) := by decide +kernel
theorem dX10_speaking_32 : decode cX10_speaking 32 = .ok (.iconst 1, 1) := by decide +kernel
theorem dX10_speaking_33 : decode cX10_speaking 33 = .ok (.iload_n 2, 1) := by decide +kernel
theorem dX10_speaking_34 : decode cX10_speaking 34 = .ok (.ishl, 1) := by decide +kernel
theorem dX10_speaking_35 : decode cX10_speaking 35 = .ok (.goto 4, 3) := by decide +kernel
theorem dX10_speaking_38 : decode cX10_speaking 38 = .ok (.iconst 0, 1) := by decide +kernel
theorem dX10_speaking_39 : decode cX10_speaking 39 = .ok (.ior, 1) := by decide +kernel
theorem dX10_speaking_40 : decode cX10_speaking 40 = .ok (.istore_n 1, 1) := by decide +kernel
theorem dX10_speaking_41 : decode cX10_speaking 41 = .ok (.iinc 2 1, 3) := by decide +kernel
theorem dX10_speaking_44 : decode cX10_speaking 44 = .ok (.goto (-40), 3) := by decide +kernel
theorem dX10_speaking_47 : decode cX10_speaking 47 = .ok (.iload_n 1, 1) := by decide +kernel
theorem dX10_speaking_48 : decode cX10_speaking 48 = .ok (.ireturn, 1) := by decide +kernel

set_option maxHeartbeats 4000000 in
set_option maxRecDepth 100000 in
theorem w_X10_speaking (m H : Nat) {n : Nat} {kd : mK} {I : mI} {J : mJ} {P : mP} (hM : kM kd P m) (hH : I m 1 = nI H) (hH8 : H ≤ 8) : ∀ (c i : Nat), i + c = H → Ru yX10_speaking.cls cX10_speaking 3 (some .int) yX10_speaking.name 1 (am_is (some (.int (spR (I (m + 3)) (I (m + 4)) H))) n kd I J P) 0 0 4 [some (.ref m), some (.int (spR (I (m + 3)) (I (m + 4)) i)), some (.int (nI i))] [] n kd I J P := by
  intro c
  induction c with
  | zero =>
    intro i hi
    have hi : i = H := by omega
    rw [hi]
    refine r_iload_n dX10_speaking_4 rfl ?_
    refine r_aload_n dX10_speaking_5 rfl ?_
    refine r_getI dX10_speaking_6 fl_X10_350 rfl (kM_0 hM) ?_
    rw [hH]
    refine r_icmp_ge (tgt := 47) dX10_speaking_9 (by decide) (fun _ => ?_) (fun hz => absurd (show _ from (by rw [nI_leI (by omega) (by omega)]; omega)) hz)
    refine r_iload_n dX10_speaking_47 rfl ?_
    refine r_iret rfl dX10_speaking_48 ?_
    exact am_is.mk
  | succ c ih =>
    intro i hi
    by_cases ha : I (m + 3) i = nI 1
    · by_cases hb : I (m + 4) i = 0
      · skip
        refine r_iload_n dX10_speaking_4 rfl ?_
        refine r_aload_n dX10_speaking_5 rfl ?_
        refine r_getI dX10_speaking_6 fl_X10_350 rfl (kM_0 hM) ?_
        rw [hH]
        refine r_icmp_ge (tgt := 47) dX10_speaking_9 (by decide) (fun hz => absurd hz (show ¬ _ from (by rw [nI_leI (by omega) (by omega)]; omega))) (fun _ => ?_)
        refine r_iload_n dX10_speaking_12 rfl ?_
        refine r_aload_n dX10_speaking_13 rfl ?_
        refine r_getR dX10_speaking_14 fl_X10_20 rfl (kM_0 hM) (pM_6 hM) ?_
        refine r_iload_n dX10_speaking_17 rfl ?_
        refine r_iald dX10_speaking_18 (aM_6 hM) (nI_in8 8 (by omega) (by decide)) (nI_clamp (by omega)) ?_
        try simp (disch := omega) only [am_up_s, am_up_n, am_up_up]
        refine r_iconst (v := nI 1) dX10_speaking_19 (by decide) ?_
        refine r_icmp_ne (tgt := 38) dX10_speaking_20 (by decide) (fun hz => absurd (show _ from ha) hz) (fun _ => ?_)
        refine r_aload_n dX10_speaking_23 rfl ?_
        refine r_getR dX10_speaking_24 fl_X10_23 rfl (kM_0 hM) (pM_7 hM) ?_
        refine r_iload_n dX10_speaking_27 rfl ?_
        refine r_iald dX10_speaking_28 (aM_7 hM) (nI_in8 8 (by omega) (by decide)) (nI_clamp (by omega)) ?_
        try simp (disch := omega) only [am_up_s, am_up_n, am_up_up]
        refine r_if_ne (tgt := 38) dX10_speaking_29 (by decide) (fun hz => absurd (show _ from hb) hz) (fun _ => ?_)
        refine r_iconst (v := nI 1) dX10_speaking_32 (by decide) ?_
        refine r_iload_n dX10_speaking_33 rfl ?_
        refine r_ishl dX10_speaking_34 ?_
        refine r_goto (tgt := 39) dX10_speaking_35 (by decide) ?_
        refine r_ior dX10_speaking_39 ?_
        refine r_istore_n dX10_speaking_40 (by decide) ?_
        refine r_iinc (v := nI (i + 1)) dX10_speaking_41 rfl (nI_inc i) ?_
        refine r_goto (tgt := 4) dX10_speaking_44 (by decide) ?_
        have hgo := ih (i + 1) (by omega)
        rw [spR, if_pos ha, if_pos hb] at hgo
        exact hgo
      · skip
        refine r_iload_n dX10_speaking_4 rfl ?_
        refine r_aload_n dX10_speaking_5 rfl ?_
        refine r_getI dX10_speaking_6 fl_X10_350 rfl (kM_0 hM) ?_
        rw [hH]
        refine r_icmp_ge (tgt := 47) dX10_speaking_9 (by decide) (fun hz => absurd hz (show ¬ _ from (by rw [nI_leI (by omega) (by omega)]; omega))) (fun _ => ?_)
        refine r_iload_n dX10_speaking_12 rfl ?_
        refine r_aload_n dX10_speaking_13 rfl ?_
        refine r_getR dX10_speaking_14 fl_X10_20 rfl (kM_0 hM) (pM_6 hM) ?_
        refine r_iload_n dX10_speaking_17 rfl ?_
        refine r_iald dX10_speaking_18 (aM_6 hM) (nI_in8 8 (by omega) (by decide)) (nI_clamp (by omega)) ?_
        try simp (disch := omega) only [am_up_s, am_up_n, am_up_up]
        refine r_iconst (v := nI 1) dX10_speaking_19 (by decide) ?_
        refine r_icmp_ne (tgt := 38) dX10_speaking_20 (by decide) (fun hz => absurd (show _ from ha) hz) (fun _ => ?_)
        refine r_aload_n dX10_speaking_23 rfl ?_
        refine r_getR dX10_speaking_24 fl_X10_23 rfl (kM_0 hM) (pM_7 hM) ?_
        refine r_iload_n dX10_speaking_27 rfl ?_
        refine r_iald dX10_speaking_28 (aM_7 hM) (nI_in8 8 (by omega) (by decide)) (nI_clamp (by omega)) ?_
        try simp (disch := omega) only [am_up_s, am_up_n, am_up_up]
        refine r_if_ne (tgt := 38) dX10_speaking_29 (by decide) (fun _ => ?_) (fun hz => absurd hz (show ¬ _ from hb))
        refine r_iconst (v := nI 0) dX10_speaking_38 (by decide) ?_
        refine r_ior dX10_speaking_39 ?_
        refine r_istore_n dX10_speaking_40 (by decide) ?_
        refine r_iinc (v := nI (i + 1)) dX10_speaking_41 rfl (nI_inc i) ?_
        refine r_goto (tgt := 4) dX10_speaking_44 (by decide) ?_
        have hgo := ih (i + 1) (by omega)
        rw [spR, if_pos ha, if_neg hb] at hgo
        exact hgo
    · skip
      refine r_iload_n dX10_speaking_4 rfl ?_
      refine r_aload_n dX10_speaking_5 rfl ?_
      refine r_getI dX10_speaking_6 fl_X10_350 rfl (kM_0 hM) ?_
      rw [hH]
      refine r_icmp_ge (tgt := 47) dX10_speaking_9 (by decide) (fun hz => absurd hz (show ¬ _ from (by rw [nI_leI (by omega) (by omega)]; omega))) (fun _ => ?_)
      refine r_iload_n dX10_speaking_12 rfl ?_
      refine r_aload_n dX10_speaking_13 rfl ?_
      refine r_getR dX10_speaking_14 fl_X10_20 rfl (kM_0 hM) (pM_6 hM) ?_
      refine r_iload_n dX10_speaking_17 rfl ?_
      refine r_iald dX10_speaking_18 (aM_6 hM) (nI_in8 8 (by omega) (by decide)) (nI_clamp (by omega)) ?_
      try simp (disch := omega) only [am_up_s, am_up_n, am_up_up]
      refine r_iconst (v := nI 1) dX10_speaking_19 (by decide) ?_
      refine r_icmp_ne (tgt := 38) dX10_speaking_20 (by decide) (fun _ => ?_) (fun hz => absurd hz (show ¬ _ from ha))
      refine r_iconst (v := nI 0) dX10_speaking_38 (by decide) ?_
      refine r_ior dX10_speaking_39 ?_
      refine r_istore_n dX10_speaking_40 (by decide) ?_
      refine r_iinc (v := nI (i + 1)) dX10_speaking_41 rfl (nI_inc i) ?_
      refine r_goto (tgt := 4) dX10_speaking_44 (by decide) ?_
      have hgo := ih (i + 1) (by omega)
      rw [spR, if_neg ha] at hgo
      exact hgo

set_option maxHeartbeats 4000000 in
set_option maxRecDepth 100000 in
theorem c_X10_speaking (m H : Nat) {n : Nat} {kd : mK} {I : mI} {J : mJ} {P : mP} (hM : kM kd P m) (hH : I m 1 = nI H) (hH8 : H ≤ 8) : Ct yX10_speaking cX10_speaking 3 (some .int) 1 0 0 [.ref m] n kd I J P (am_is (some (.int (spR (I (m + 3)) (I (m + 4)) H))) n kd I J P) := by
  refine ct_of 2 (by decide +kernel) (Nat.le_of_ble_eq_true rfl) rfl ?_
  refine r_iconst (v := nI 0) dX10_speaking_0 (by decide) ?_
  refine r_istore_n dX10_speaking_1 (by decide) ?_
  refine r_iconst (v := nI 0) dX10_speaking_2 (by decide) ?_
  refine r_istore_n dX10_speaking_3 (by decide) ?_
  exact w_X10_speaking m H hM hH hH8 H 0 (by omega)

theorem dX10_copies_0 : decode cX10_copies 0 = .ok (.iconst 0, 1) := by decide +kernel
theorem dX10_copies_1 : decode cX10_copies 1 = .ok (.istore_n 3, 1) := by decide +kernel
theorem dX10_copies_2 : decode cX10_copies 2 = .ok (.iload_n 3, 1) := by decide +kernel
theorem dX10_copies_3 : decode cX10_copies 3 = .ok (.aload_n 1, 1) := by decide +kernel
theorem dX10_copies_4 : decode cX10_copies 4 = .ok (.arraylength, 1) := by decide +kernel
theorem dX10_copies_5 : decode cX10_copies 5 = .ok (.if_icmp .ge 15, 3) := by decide +kernel
theorem dX10_copies_8 : decode cX10_copies 8 = .ok (.aload_n 2, 1) := by decide +kernel
theorem dX10_copies_9 : decode cX10_copies 9 = .ok (.iload_n 3, 1) := by decide +kernel
theorem dX10_copies_10 : decode cX10_copies 10 = .ok (.aload_n 1, 1) := by decide +kernel
theorem dX10_copies_11 : decode cX10_copies 11 = .ok (.iload_n 3, 1) := by decide +kernel
theorem dX10_copies_12 : decode cX10_copies 12 = .ok (.iaload, 1) := by decide +kernel
theorem dX10_copies_13 : decode cX10_copies 13 = .ok (.iastore, 1) := by decide +kernel
theorem dX10_copies_14 : decode cX10_copies 14 = .ok (.iinc 3 1, 3) := by decide +kernel
theorem dX10_copies_17 : decode cX10_copies 17 = .ok (.goto (-15), 3) := by decide +kernel
theorem dX10_copies_20 : decode cX10_copies 20 = .ok (.return_, 1) := by decide +kernel

theorem cp_step (A B : Nat → Int32) (i : Nat) : va_up (fun j => if j < i then A j else B j) i (A i) = (fun j => if j < i + 1 then A j else B j) := by
  funext j
  unfold va_up
  by_cases h : j = i
  · subst h; simp
  · by_cases h2 : j < i
    · simp [h, h2, show j < i + 1 by omega]
    · simp [h, h2, show ¬ j < i + 1 by omega]
theorem cp_0 (A B : Nat → Int32) : (fun j => if j < 0 then A j else B j) = B := by funext j; simp
set_option maxHeartbeats 4000000 in
set_option maxRecDepth 100000 in
theorem w_X10_copies (m a b len lenb : Nat) {n : Nat} {kd : mK} {I : mI} {J : mJ} {P : mP} (ha : kd a = some (1, len)) (hb : kd b = some (1, lenb)) (hab : a ≠ b) (hlen : len < 2 ^ 31) (hle : len ≤ lenb) (hlb : lenb < 2 ^ 31) : ∀ (c i : Nat), i + c = len → Ru yX10_copies.cls cX10_copies 4 none yX10_copies.name 1 (am_is none n kd (va_up I b (fun j => if j < len then I a j else I b j)) J P) 0 0 2 [some (.ref m), some (.ref a), some (.ref b), some (.int (nI i))] [] n kd (va_up I b (fun j => if j < i then I a j else I b j)) J P := by
  intro c
  induction c with
  | zero =>
    intro i hi
    have hi : i = len := by omega
    rw [hi]
    refine r_iload_n dX10_copies_2 rfl ?_
    refine r_aload_n dX10_copies_3 rfl ?_
    refine r_alen dX10_copies_4 ha (by decide) ?_
    refine r_icmp_ge (tgt := 20) dX10_copies_5 (by decide) (fun _ => ?_) (fun hz => absurd (show _ from (by rw [nI_leI (by omega) (by omega)]; omega)) hz)
    refine r_vret rfl dX10_copies_20 ?_
    exact am_is.mk
  | succ c ih =>
    intro i hi
    refine r_iload_n dX10_copies_2 rfl ?_
    refine r_aload_n dX10_copies_3 rfl ?_
    refine r_alen dX10_copies_4 ha (by decide) ?_
    refine r_icmp_ge (tgt := 20) dX10_copies_5 (by decide) (fun hz => absurd hz (show ¬ _ from (by rw [nI_leI (by omega) (by omega)]; omega))) (fun _ => ?_)
    refine r_aload_n dX10_copies_8 rfl ?_
    refine r_iload_n dX10_copies_9 rfl ?_
    refine r_aload_n dX10_copies_10 rfl ?_
    refine r_iload_n dX10_copies_11 rfl ?_
    refine r_iald dX10_copies_12 ha (nI_in8 len (by omega) hlen) (nI_clamp (by omega)) ?_
    rw [am_up_n I _ hab]
    refine r_iast dX10_copies_13 hb (nI_in8 lenb (by omega) (by omega)) (nI_clamp (by omega)) ?_
    rw [am_up_s I, am_up_up I, cp_step]
    refine r_iinc (v := nI (i + 1)) dX10_copies_14 rfl (nI_inc i) ?_
    refine r_goto (tgt := 2) dX10_copies_17 (by decide) ?_
    exact ih (i + 1) (by omega)

set_option maxHeartbeats 4000000 in
set_option maxRecDepth 100000 in
theorem c_X10_copies (m a b len lenb : Nat) {n : Nat} {kd : mK} {I : mI} {J : mJ} {P : mP} (ha : kd a = some (1, len)) (hb : kd b = some (1, lenb)) (hab : a ≠ b) (hlen : len < 2 ^ 31) (hle : len ≤ lenb) (hlb : lenb < 2 ^ 31) : Ct yX10_copies cX10_copies 4 none 1 0 0 [.ref m, .ref a, .ref b] n kd I J P (am_is none n kd (va_up I b (fun j => if j < len then I a j else I b j)) J P) := by
  refine ct_of 1 (by decide +kernel) (Nat.le_of_ble_eq_true rfl) rfl ?_
  refine r_iconst (v := nI 0) dX10_copies_0 (by decide) ?_
  refine r_istore_n dX10_copies_1 (by decide) ?_
  have hw := w_X10_copies (n := n) (kd := kd) (I := I) (J := J) (P := P) m a b len lenb ha hb hab hlen hle hlb len 0 (by omega)
  rw [cp_0, am_up_id] at hw
  exact hw

theorem dX10_refuses_0 : decode cX10_refuses 0 = .ok (.aload_n 0, 1) := by decide +kernel
theorem dX10_refuses_1 : decode cX10_refuses 1 = .ok (.getfield 50, 3) := by decide +kernel
theorem dX10_refuses_4 : decode cX10_refuses 4 = .ok (.iload_n 1, 1) := by decide +kernel
theorem dX10_refuses_5 : decode cX10_refuses 5 = .ok (.dup2, 1) := by decide +kernel
theorem dX10_refuses_6 : decode cX10_refuses 6 = .ok (.iaload, 1) := by decide +kernel
theorem dX10_refuses_7 : decode cX10_refuses 7 = .ok (.iconst 1, 1) := by decide +kernel
theorem dX10_refuses_8 : decode cX10_refuses 8 = .ok (.iadd, 1) := by decide +kernel
theorem dX10_refuses_9 : decode cX10_refuses 9 = .ok (.iastore, 1) := by decide +kernel
theorem dX10_refuses_10 : decode cX10_refuses 10 = .ok (.iconst (-1), 1) := by decide +kernel
theorem dX10_refuses_11 : decode cX10_refuses 11 = .ok (.ireturn, 1) := by decide +kernel
set_option maxHeartbeats 4000000 in
set_option maxRecDepth 100000 in
theorem c_X10_refuses (m w : Nat) {n : Nat} {kd : mK} {I : mI} {J : mJ} {P : mP} (hM : kM kd P m) (hw : w < 3) : Ct yX10_refuses cX10_refuses 2 (some .int) 1 0 0 [.ref m, .int (nI w)] n kd I J P (am_is (some (.int (-1))) n kd (va_up I (m + 12) (va_up (I (m + 12)) w (I (m + 12) w + nI 1))) J P) := by
  refine ct_of 0 (by decide +kernel) (Nat.le_of_ble_eq_true rfl) rfl ?_
  refine r_aload_n dX10_refuses_0 rfl ?_
  refine r_getR dX10_refuses_1 fl_X10_50 rfl (kM_0 hM) (pM_18 hM) ?_
  refine r_iload_n dX10_refuses_4 rfl ?_
  refine r_dup2 dX10_refuses_5 rfl rfl ?_
  refine r_iald dX10_refuses_6 (aM_18 hM) (nI_in8 3 (by omega) (by decide)) (nI_clamp (by omega)) ?_
  try simp (disch := omega) only [am_up_s, am_up_n, am_up_up]
  refine r_iconst (v := nI 1) dX10_refuses_7 (by decide) ?_
  refine r_iadd dX10_refuses_8 ?_
  refine r_iast dX10_refuses_9 (aM_18 hM) (nI_in8 3 (by omega) (by decide)) (nI_clamp (by omega)) ?_
  try simp (disch := omega) only [am_up_s, am_up_n, am_up_up]
  refine r_iconst (v := (-1)) dX10_refuses_10 (by decide) ?_
  refine r_iret rfl dX10_refuses_11 ?_
  exact am_is.mk

theorem dX10_fault_0 : decode cX10_fault 0 = .ok (.aload_n 0, 1) := by decide +kernel
theorem dX10_fault_1 : decode cX10_fault 1 = .ok (.iconst 0, 1) := by decide +kernel
theorem dX10_fault_2 : decode cX10_fault 2 = .ok (.putfield 193, 3) := by decide +kernel
theorem dX10_fault_5 : decode cX10_fault 5 = .ok (.aload_n 0, 1) := by decide +kernel
theorem dX10_fault_6 : decode cX10_fault 6 = .ok (.getfield 47, 3) := by decide +kernel
theorem dX10_fault_9 : decode cX10_fault 9 = .ok (.ireturn, 1) := by decide +kernel
set_option maxHeartbeats 4000000 in
set_option maxRecDepth 100000 in
theorem c_X10_fault (m : Nat) {n : Nat} {kd : mK} {I : mI} {J : mJ} {P : mP} (hM : kM kd P m) : Ct yX10_fault cX10_fault 1 (some .int) 1 0 0 [.ref m] n kd I J P (am_is (some (.int (I m 17))) n kd (va_up I m (va_up (I m) 0 (nI 0))) J P) := by
  refine ct_of 0 (by decide +kernel) (Nat.le_of_ble_eq_true rfl) rfl ?_
  refine r_aload_n dX10_fault_0 rfl ?_
  refine r_iconst (v := nI 0) dX10_fault_1 (by decide) ?_
  refine r_putI dX10_fault_2 fl_X10_193 rfl rfl (kM_0 hM) ?_
  try simp (disch := omega) only [am_up_s, am_up_n, am_up_up]
  refine r_aload_n dX10_fault_5 rfl ?_
  refine r_getI dX10_fault_6 fl_X10_47 rfl (kM_0 hM) ?_
  try simp (disch := omega) only [am_up_s, am_up_n, am_up_up]
  refine r_iret rfl dX10_fault_9 ?_
  exact am_is.mk

/-- a number out of a row that was kept -/
def nmI (x : Int64) (h : Int32) : Int32 := (x >>> ((nI 5 * h).toInt64 &&& 63)).toInt32 &&& nI 31
def cwR (B : Nat → Int64) (h v : Int32) : Nat → Nat
  | 0 => 0
  | i + 1 => if nmI (B i) h = v then cwR B h v i + 1 else cwR B h v i
theorem cwR_le (B : Nat → Int64) (h v : Int32) : ∀ i, cwR B h v i ≤ i
  | 0 => Nat.le_refl 0
  | i + 1 => by rw [cwR]; have := cwR_le B h v i; split <;> omega
theorem dX6_foundWith_0 : decode cX6_foundWith 0 = .ok (.iconst 0, 1) := by decide +kernel
theorem dX6_foundWith_1 : decode cX6_foundWith 1 = .ok (.istore_n 3, 1) := by decide +kernel
theorem dX6_foundWith_2 : decode cX6_foundWith 2 = .ok (.iconst 0, 1) := by decide +kernel
theorem dX6_foundWith_3 : decode cX6_foundWith 3 = .ok (.istore 4, 2) := by decide +kernel
theorem dX6_foundWith_5 : decode cX6_foundWith 5 = .ok (.iload 4, 2) := by decide +kernel
theorem dX6_foundWith_7 : decode cX6_foundWith 7 = .ok (.aload_n 0, 1) := by decide +kernel
theorem dX6_foundWith_8 : decode cX6_foundWith 8 = .ok (.getfield 46, 3) := by decide +kernel
theorem dX6_foundWith_11 : decode cX6_foundWith 11 = .ok (.if_icmp .ge 23, 3) := by decide +kernel
theorem dX6_foundWith_14 : decode cX6_foundWith 14 = .ok (.aload_n 0, 1) := by decide +kernel
theorem dX6_foundWith_15 : decode cX6_foundWith 15 = .ok (.iload 4, 2) := by decide +kernel
theorem dX6_foundWith_17 : decode cX6_foundWith 17 = .ok (.iload_n 1, 1) := by decide +kernel
theorem dX6_foundWith_18 : decode cX6_foundWith 18 = .ok (.invokevirtual 91, 3) := by decide +kernel
theorem dX6_foundWith_21 : decode cX6_foundWith 21 = .ok (.iload_n 2, 1) := by decide +kernel
theorem dX6_foundWith_22 : decode cX6_foundWith 22 = .ok (.if_icmp .ne 6, 3) := by decide +kernel
theorem dX6_foundWith_25 : decode cX6_foundWith 25 = .ok (.iinc 3 1, 3) := by decide +kernel
theorem dX6_foundWith_28 : decode cX6_foundWith 28 = .ok (.iinc 4 1, 3) := by decide +kernel
theorem dX6_foundWith_31 : decode cX6_foundWith 31 = .ok (.goto (-26), 3) := by decide +kernel
theorem dX6_foundWith_34 : decode cX6_foundWith 34 = .ok (.iload_n 3, 1) := by decide +kernel
theorem dX6_foundWith_35 : decode cX6_foundWith 35 = .ok (.ireturn, 1) := by decide +kernel

set_option maxHeartbeats 4000000 in
set_option maxRecDepth 100000 in
theorem w_X6_foundWith (o F : Nat) (h v : Int32) {n : Nat} {kd : mK} {I : mI} {J : mJ} {P : mP} (hQ : kQ kd P o) (hF : I o 10 = nI F) (hF1 : F ≤ 1000) : ∀ (c i : Nat), i + c = F → Ru yX6_foundWith.cls cX6_foundWith 5 (some .int) yX6_foundWith.name 2 (am_is (some (.int (nI (cwR (J (o + 4)) h v F)))) n kd I J P) 0 0 5 [some (.ref o), some (.int h), some (.int v), some (.int (nI (cwR (J (o + 4)) h v i))), some (.int (nI i))] [] n kd I J P := by
  obtain ⟨t0, t1, t2, t3, t4, t5, u2, u3, u6, u7, u8⟩ := hQ
  intro c
  induction c with
  | zero =>
    intro i hi
    have hi : i = F := by omega
    rw [hi]
    refine r_iload dX6_foundWith_5 rfl ?_
    refine r_aload_n dX6_foundWith_7 rfl ?_
    refine r_getI dX6_foundWith_8 fl_X6_46 rfl t0 ?_
    rw [hF]
    refine r_icmp_ge (tgt := 34) dX6_foundWith_11 (by decide) (fun _ => ?_) (fun hz => absurd (show _ from (by rw [nI_leI (by omega) (by omega)]; omega)) hz)
    refine r_iload_n dX6_foundWith_34 rfl ?_
    refine r_iret rfl dX6_foundWith_35 ?_
    exact am_is.mk
  | succ c ih =>
    intro i hi
    by_cases hx : nmI (J (o + 4) i) h = v
    · skip
      refine r_iload dX6_foundWith_5 rfl ?_
      refine r_aload_n dX6_foundWith_7 rfl ?_
      refine r_getI dX6_foundWith_8 fl_X6_46 rfl t0 ?_
      rw [hF]
      refine r_icmp_ge (tgt := 34) dX6_foundWith_11 (by decide) (fun hz => absurd hz (show ¬ _ from (by rw [nI_leI (by omega) (by omega)]; omega))) (fun _ => ?_)
      refine r_aload_n dX6_foundWith_14 rfl ?_
      refine r_iload dX6_foundWith_15 rfl ?_
      refine r_iload_n dX6_foundWith_17 rfl ?_
      refine r_virtE (c_X6_numberIn o (o + 4) (nI i) h t0 u7 t4) lk_X6_91 mc_X6_numberIn dX6_foundWith_18 t0 (by decide) rfl rfl (Nat.le_of_ble_eq_true rfl) ?_
      rw [if_neg (z_nlt (by omega)), if_pos (by rw [nI_ltI (by omega) (by omega)]; omega), nI_clamp (by omega), show (J (o + 4) i >>> ((nI 5 * h).toInt64 &&& 63)).toInt32 &&& nI 31 = nmI (J (o + 4) i) h from rfl]
      refine r_iload_n dX6_foundWith_21 rfl ?_
      refine r_icmp_ne (tgt := 28) dX6_foundWith_22 (by decide) (fun hz => absurd (show _ from hx) hz) (fun _ => ?_)
      refine r_iinc (v := nI (cwR (J (o + 4)) h v i + 1)) dX6_foundWith_25 rfl (nI_inc _) ?_
      refine r_iinc (v := nI (i + 1)) dX6_foundWith_28 rfl (nI_inc i) ?_
      refine r_goto (tgt := 5) dX6_foundWith_31 (by decide) ?_
      have hgo := ih (i + 1) (by omega)
      rw [cwR, if_pos hx] at hgo
      exact hgo
    · skip
      refine r_iload dX6_foundWith_5 rfl ?_
      refine r_aload_n dX6_foundWith_7 rfl ?_
      refine r_getI dX6_foundWith_8 fl_X6_46 rfl t0 ?_
      rw [hF]
      refine r_icmp_ge (tgt := 34) dX6_foundWith_11 (by decide) (fun hz => absurd hz (show ¬ _ from (by rw [nI_leI (by omega) (by omega)]; omega))) (fun _ => ?_)
      refine r_aload_n dX6_foundWith_14 rfl ?_
      refine r_iload dX6_foundWith_15 rfl ?_
      refine r_iload_n dX6_foundWith_17 rfl ?_
      refine r_virtE (c_X6_numberIn o (o + 4) (nI i) h t0 u7 t4) lk_X6_91 mc_X6_numberIn dX6_foundWith_18 t0 (by decide) rfl rfl (Nat.le_of_ble_eq_true rfl) ?_
      rw [if_neg (z_nlt (by omega)), if_pos (by rw [nI_ltI (by omega) (by omega)]; omega), nI_clamp (by omega), show (J (o + 4) i >>> ((nI 5 * h).toInt64 &&& 63)).toInt32 &&& nI 31 = nmI (J (o + 4) i) h from rfl]
      refine r_iload_n dX6_foundWith_21 rfl ?_
      refine r_icmp_ne (tgt := 28) dX6_foundWith_22 (by decide) (fun _ => ?_) (fun hz => absurd hz (show ¬ _ from hx))
      refine r_iinc (v := nI (i + 1)) dX6_foundWith_28 rfl (nI_inc i) ?_
      refine r_goto (tgt := 5) dX6_foundWith_31 (by decide) ?_
      have hgo := ih (i + 1) (by omega)
      rw [cwR, if_neg hx] at hgo
      exact hgo

set_option maxHeartbeats 4000000 in
set_option maxRecDepth 100000 in
theorem c_X6_foundWith (o F : Nat) (h v : Int32) {n : Nat} {kd : mK} {I : mI} {J : mJ} {P : mP} (hQ : kQ kd P o) (hF : I o 10 = nI F) (hF1 : F ≤ 1000) : Ct yX6_foundWith cX6_foundWith 5 (some .int) 2 0 0 [.ref o, .int h, .int v] n kd I J P (am_is (some (.int (nI (cwR (J (o + 4)) h v F)))) n kd I J P) := by
  refine ct_of 2 (by decide +kernel) (Nat.le_of_ble_eq_true rfl) rfl ?_
  refine r_iconst (v := nI 0) dX6_foundWith_0 (by decide) ?_
  refine r_istore_n dX6_foundWith_1 (by decide) ?_
  refine r_iconst (v := nI 0) dX6_foundWith_2 (by decide) ?_
  refine r_istore dX6_foundWith_3 (by decide) ?_
  exact w_X6_foundWith o F h v hQ hF hF1 F 0 (by omega)

