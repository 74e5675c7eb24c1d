/-! LETTERS OF A HOUSE, Arrays.fill, leading zeros -/
def llv (hs ns : Nat → Int32) (h : Int32) : Nat → Int32
  | 0 => -1
  | i + 1 => if hs i = h then llv hs ns h i &&& (nI 1 <<< (ns i &&& 31)) else llv hs ns h i
theorem dX2_lettersLeave_0 : decode cX2_lettersLeave 0 = .ok (.iconst (-1), 1) := by decide +kernel
theorem dX2_lettersLeave_1 : decode cX2_lettersLeave 1 = .ok (.istore_n 2, 1) := by decide +kernel
theorem dX2_lettersLeave_2 : decode cX2_lettersLeave 2 = .ok (.iconst 0, 1) := by decide +kernel
theorem dX2_lettersLeave_3 : decode cX2_lettersLeave 3 = .ok (.istore_n 3, 1) := by decide +kernel
theorem dX2_lettersLeave_4 : decode cX2_lettersLeave 4 = .ok (.iload_n 3, 1) := by decide +kernel
theorem dX2_lettersLeave_5 : decode cX2_lettersLeave 5 = .ok (.aload_n 0, 1) := by decide +kernel
theorem dX2_lettersLeave_6 : decode cX2_lettersLeave 6 = .ok (.getfield 34, 3) := by decide +kernel
theorem dX2_lettersLeave_9 : decode cX2_lettersLeave 9 = .ok (.if_icmp .ge 30, 3) := by decide +kernel
theorem dX2_lettersLeave_12 : decode cX2_lettersLeave 12 = .ok (.aload_n 0, 1) := by decide +kernel
theorem dX2_lettersLeave_13 : decode cX2_lettersLeave 13 = .ok (.getfield 28, 3) := by decide +kernel
theorem dX2_lettersLeave_16 : decode cX2_lettersLeave 16 = .ok (.iload_n 3, 1) := by decide +kernel
theorem dX2_lettersLeave_17 : decode cX2_lettersLeave 17 = .ok (.iaload, 1) := by decide +kernel
theorem dX2_lettersLeave_18 : decode cX2_lettersLeave 18 = .ok (.iload_n 1, 1) := by decide +kernel
theorem dX2_lettersLeave_19 : decode cX2_lettersLeave 19 = .ok (.if_icmp .ne 14, 3) := by decide +kernel
theorem dX2_lettersLeave_22 : decode cX2_lettersLeave 22 = .ok (.iload_n 2, 1) := by decide +kernel
theorem dX2_lettersLeave_23 : decode cX2_lettersLeave 23 = .ok (.iconst 1, 1) := by decide +kernel
theorem dX2_lettersLeave_24 : decode cX2_lettersLeave 24 = .ok (.aload_n 0, 1) := by decide +kernel
theorem dX2_lettersLeave_25 : decode cX2_lettersLeave 25 = .ok (.getfield 31, 3) := by decide +kernel
theorem dX2_lettersLeave_28 : decode cX2_lettersLeave 28 = .ok (.iload_n 3, 1) := by decide +kernel
theorem dX2_lettersLeave_29 : decode cX2_lettersLeave 29 = .ok (.iaload, 1) := by decide +kernel
theorem dX2_lettersLeave_30 : decode cX2_lettersLeave 30 = .ok (.ishl, 1) := by decide +kernel
theorem dX2_lettersLeave_31 : decode cX2_lettersLeave 31 = .ok (.iand, 1) := by decide +kernel
theorem dX2_lettersLeave_32 : decode cX2_lettersLeave 32 = .ok (.istore_n 2, 1) := by decide +kernel
theorem dX2_lettersLeave_33 : decode cX2_lettersLeave 33 = .ok (.iinc 3 1, 3) := by decide +kernel
theorem dX2_lettersLeave_36 : decode cX2_lettersLeave 36 = .ok (.goto (-32), 3) := by decide +kernel
theorem dX2_lettersLeave_39 : decode cX2_lettersLeave 39 = .ok (.iload_n 2, 1) := by decide +kernel
theorem dX2_lettersLeave_40 : decode cX2_lettersLeave 40 = .ok (.ireturn, 1) := by decide +kernel

set_option maxHeartbeats 4000000 in
set_option maxRecDepth 100000 in
theorem w_X2_lettersLeave (l L : Nat) (h : Int32) {n : Nat} {kd : mK} {I : mI} {J : mJ} {P : mP} (hL : kL kd P l) (hLe : I l 7 = nI L) (hL10 : L ≤ 10) : ∀ (k i : Nat), i + k = L → Ru yX2_lettersLeave.cls cX2_lettersLeave 4 (some .int) yX2_lettersLeave.name 1 (am_is (some (.int (llv (I (l + 4)) (I (l + 5)) h L))) n kd I J P) 0 0 4 [some (.ref l), some (.int h), some (.int (llv (I (l + 4)) (I (l + 5)) h i)), some (.int (nI i))] [] n kd I J P := by
  obtain ⟨l0, l1, l2, l3, l4, l5, q0, q1, q3, q5, q6⟩ := hL
  intro k
  induction k with
  | zero =>
    intro i hi
    have hi : i = L := by omega
    subst hi
    refine r_iload_n dX2_lettersLeave_4 rfl ?_
    refine r_aload_n dX2_lettersLeave_5 rfl ?_
    refine r_getI dX2_lettersLeave_6 fl_X2_34 rfl (by assumption) ?_
    rw [hLe]
    refine r_icmp_ge (tgt := 39) dX2_lettersLeave_9 (by decide) (fun _ => ?_) (fun hz => absurd (show _ from (by rw [nI_leI (by omega) (by omega)]; omega)) hz)
    refine r_iload_n dX2_lettersLeave_39 rfl ?_
    refine r_iret rfl dX2_lettersLeave_40 ?_
    exact am_is.mk
  | succ k ih =>
    intro i hi
    by_cases hx : I (l + 4) i = h
    · skip
      refine r_iload_n dX2_lettersLeave_4 rfl ?_
      refine r_aload_n dX2_lettersLeave_5 rfl ?_
      refine r_getI dX2_lettersLeave_6 fl_X2_34 rfl (by assumption) ?_
      rw [hLe]
      refine r_icmp_ge (tgt := 39) dX2_lettersLeave_9 (by decide) (fun hz => absurd hz (show ¬ _ from (by rw [nI_leI (by omega) (by omega)]; omega))) (fun _ => ?_)
      refine r_aload_n dX2_lettersLeave_12 rfl ?_
      refine r_getR dX2_lettersLeave_13 fl_X2_28 rfl (by assumption) (by assumption) ?_
      refine r_iload_n dX2_lettersLeave_16 rfl ?_
      refine r_iald dX2_lettersLeave_17 l4 (nI_in8 10 (by omega) (by decide)) (nI_clamp (by omega)) ?_
      refine r_iload_n dX2_lettersLeave_18 rfl ?_
      refine r_icmp_ne (tgt := 33) dX2_lettersLeave_19 (by decide) (fun hz => absurd (show _ from hx) hz) (fun _ => ?_)
      refine r_iload_n dX2_lettersLeave_22 rfl ?_
      refine r_iconst (v := nI 1) dX2_lettersLeave_23 (by decide) ?_
      refine r_aload_n dX2_lettersLeave_24 rfl ?_
      refine r_getR dX2_lettersLeave_25 fl_X2_31 rfl (by assumption) (by assumption) ?_
      refine r_iload_n dX2_lettersLeave_28 rfl ?_
      refine r_iald dX2_lettersLeave_29 l5 (nI_in8 10 (by omega) (by decide)) (nI_clamp (by omega)) ?_
      refine r_ishl dX2_lettersLeave_30 ?_
      refine r_iand dX2_lettersLeave_31 ?_
      refine r_istore_n dX2_lettersLeave_32 (by decide) ?_
      refine r_iinc (v := nI (i + 1)) dX2_lettersLeave_33 rfl (nI_inc i) ?_
      refine r_goto (tgt := 4) dX2_lettersLeave_36 (by decide) ?_
      have := ih (i + 1) (by omega)
      rw [llv, if_pos hx] at this
      exact this
    · skip
      refine r_iload_n dX2_lettersLeave_4 rfl ?_
      refine r_aload_n dX2_lettersLeave_5 rfl ?_
      refine r_getI dX2_lettersLeave_6 fl_X2_34 rfl (by assumption) ?_
      rw [hLe]
      refine r_icmp_ge (tgt := 39) dX2_lettersLeave_9 (by decide) (fun hz => absurd hz (show ¬ _ from (by rw [nI_leI (by omega) (by omega)]; omega))) (fun _ => ?_)
      refine r_aload_n dX2_lettersLeave_12 rfl ?_
      refine r_getR dX2_lettersLeave_13 fl_X2_28 rfl (by assumption) (by assumption) ?_
      refine r_iload_n dX2_lettersLeave_16 rfl ?_
      refine r_iald dX2_lettersLeave_17 l4 (nI_in8 10 (by omega) (by decide)) (nI_clamp (by omega)) ?_
      refine r_iload_n dX2_lettersLeave_18 rfl ?_
      refine r_icmp_ne (tgt := 33) dX2_lettersLeave_19 (by decide) (fun _ => ?_) (fun hz => absurd hz (show ¬ _ from hx))
      refine r_iinc (v := nI (i + 1)) dX2_lettersLeave_33 rfl (nI_inc i) ?_
      refine r_goto (tgt := 4) dX2_lettersLeave_36 (by decide) ?_
      have := ih (i + 1) (by omega)
      rw [llv, if_neg hx] at this
      exact this

set_option maxHeartbeats 4000000 in
set_option maxRecDepth 100000 in
theorem c_X2_lettersLeave (l L : Nat) (h : Int32) {n : Nat} {kd : mK} {I : mI} {J : mJ} {P : mP} (hL : kL kd P l) (hLe : I l 7 = nI L) (hL10 : L ≤ 10) : Ct yX2_lettersLeave cX2_lettersLeave 4 (some .int) 1 0 0 [.ref l, .int h] n kd I J P (am_is (some (.int (llv (I (l + 4)) (I (l + 5)) h L))) n kd I J P) := by
  refine ct_of 2 (by decide +kernel) (Nat.le_of_ble_eq_true rfl) rfl ?_
  refine r_iconst (v := (-1)) dX2_lettersLeave_0 (by decide) ?_
  refine r_istore_n dX2_lettersLeave_1 (by decide) ?_
  refine r_iconst (v := nI 0) dX2_lettersLeave_2 (by decide) ?_
  refine r_istore_n dX2_lettersLeave_3 (by decide) ?_
  exact w_X2_lettersLeave l L h hL hLe hL10 L 0 (by omega)

theorem dJ7_fill_53178_0 : decode cJ7_fill_53178 0 = .ok (.iconst 0, 1) := by decide +kernel
theorem dJ7_fill_53178_1 : decode cJ7_fill_53178 1 = .ok (.istore_n 2, 1) := by decide +kernel
theorem dJ7_fill_53178_2 : decode cJ7_fill_53178 2 = .ok (.aload_n 0, 1) := by decide +kernel
theorem dJ7_fill_53178_3 : decode cJ7_fill_53178 3 = .ok (.arraylength, 1) := by decide +kernel
theorem dJ7_fill_53178_4 : decode cJ7_fill_53178 4 = .ok (.istore_n 3, 1) := by decide +kernel
theorem dJ7_fill_53178_5 : decode cJ7_fill_53178 5 = .ok (.iload_n 2, 1) := by decide +kernel
theorem dJ7_fill_53178_6 : decode cJ7_fill_53178 6 = .ok (.iload_n 3, 1) := by decide +kernel
theorem dJ7_fill_53178_7 : decode cJ7_fill_53178 7 = .ok (.if_icmp .ge 13, 3) := by decide +kernel
theorem dJ7_fill_53178_10 : decode cJ7_fill_53178 10 = .ok (.aload_n 0, 1) := by decide +kernel
theorem dJ7_fill_53178_11 : decode cJ7_fill_53178 11 = .ok (.iload_n 2, 1) := by decide +kernel
theorem dJ7_fill_53178_12 : decode cJ7_fill_53178 12 = .ok (.iload_n 1, 1) := by decide +kernel
theorem dJ7_fill_53178_13 : decode cJ7_fill_53178 13 = .ok (.iastore, 1) := by decide +kernel
theorem dJ7_fill_53178_14 : decode cJ7_fill_53178 14 = .ok (.iinc 2 1, 3) := by decide +kernel
theorem dJ7_fill_53178_17 : decode cJ7_fill_53178 17 = .ok (.goto (-12), 3) := by decide +kernel
theorem dJ7_fill_53178_20 : decode cJ7_fill_53178 20 = .ok (.return_, 1) := by decide +kernel

theorem fl_step (R : Nat → Int32) (v : Int32) (i : Nat) : va_up (fun j => if j < i then v else R j) i v = (fun j => if j < i + 1 then v else R j) := by
  funext j
  unfold va_up
  by_cases h : j = i
  · subst h; simp
  · by_cases h2 : j < i
    · simp [h, h2, show j < i + 1 by omega]
    · simp [h, h2, show ¬ j < i + 1 by omega]
theorem fl_0 (R : Nat → Int32) (v : Int32) : (fun j => if j < 0 then v else R j) = R := by funext j; simp
set_option maxHeartbeats 4000000 in
set_option maxRecDepth 100000 in
theorem w_J7_fill_53178 (a len : Nat) (v : Int32) {n : Nat} {kd : mK} {I : mI} {J : mJ} {P : mP} (hk : kd a = some (1, len)) (hlen : len < 2 ^ 31) : ∀ (k i : Nat), i + k = len → Ru yJ7_fill_53178.cls cJ7_fill_53178 4 none yJ7_fill_53178.name 1 (am_is none n kd (va_up I a (fun j => if j < len then v else I a j)) J P) 0 0 5 [some (.ref a), some (.int v), some (.int (nI i)), some (.int (nI len))] [] n kd (va_up I a (fun j => if j < i then v else I a j)) J P := by
  intro k
  induction k with
  | zero =>
    intro i hi
    have hi : i = len := by omega
    subst hi
    refine r_iload_n dJ7_fill_53178_5 rfl ?_
    refine r_iload_n dJ7_fill_53178_6 rfl ?_
    refine r_icmp_ge (tgt := 20) dJ7_fill_53178_7 (by decide) (fun _ => ?_) (fun hz => absurd (show _ from (by rw [nI_leI (by omega) (by omega)]; omega)) hz)
    refine r_vret rfl dJ7_fill_53178_20 ?_
    exact am_is.mk
  | succ k ih =>
    intro i hi
    refine r_iload_n dJ7_fill_53178_5 rfl ?_
    refine r_iload_n dJ7_fill_53178_6 rfl ?_
    refine r_icmp_ge (tgt := 20) dJ7_fill_53178_7 (by decide) (fun hz => absurd hz (show ¬ _ from (by rw [nI_leI (by omega) (by omega)]; omega))) (fun _ => ?_)
    refine r_aload_n dJ7_fill_53178_10 rfl ?_
    refine r_iload_n dJ7_fill_53178_11 rfl ?_
    refine r_iload_n dJ7_fill_53178_12 rfl ?_
    refine r_iast dJ7_fill_53178_13 hk (nI_in8 len (by omega) hlen) (nI_clamp (by omega)) ?_
    rw [am_up_s I, am_up_up I, show va_up (fun j => if j < i then v else I a j) i v = (fun j => if j < i + 1 then v else I a j) from fl_step _ v i]
    refine r_iinc (v := nI (i + 1)) dJ7_fill_53178_14 rfl (nI_inc i) ?_
    refine r_goto (tgt := 5) dJ7_fill_53178_17 (by decide) ?_
    exact ih (i + 1) (by omega)

set_option maxHeartbeats 4000000 in
set_option maxRecDepth 100000 in
theorem c_J7_fill_53178 (a len : Nat) (v : Int32) {n : Nat} {kd : mK} {I : mI} {J : mJ} {P : mP} (hk : kd a = some (1, len)) (hlen : len < 2 ^ 31) : Ct yJ7_fill_53178 cJ7_fill_53178 4 none 1 0 0 [.ref a, .int v] n kd I J P (am_is none n kd (va_up I a (fun j => if j < len then v else I a j)) J P) := by
  refine ct_of 2 (by decide +kernel) (Nat.le_of_ble_eq_true rfl) rfl ?_
  refine r_iconst (v := nI 0) dJ7_fill_53178_0 (by decide) ?_
  refine r_istore_n dJ7_fill_53178_1 (by decide) ?_
  refine r_aload_n dJ7_fill_53178_2 rfl ?_
  refine r_alen dJ7_fill_53178_3 (by assumption) (by decide) ?_
  refine r_istore_n dJ7_fill_53178_4 (by decide) ?_
  have := w_J7_fill_53178 (n := n) (kd := kd) (I := I) (J := J) (P := P) a len v hk hlen len 0 (by omega)
  rw [fl_0, am_up_id] at this
  exact this

