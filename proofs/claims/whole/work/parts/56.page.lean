/-! THE PAGE: what is written, as a list of bytes -/
def pgI (p : Nat) (bs : List Int32) (I : mI) : mI := fun a => if a = p then (fun j => if j = 1 then nI bs.length else I p j) else if a = p + 1 then (fun j => bs.getD j (I (p + 1) j)) else I a
theorem pgI_1 (p : Nat) (bs : List Int32) (I : mI) : pgI p bs I p 1 = nI bs.length := by simp [pgI]
theorem pgI_b (p : Nat) (bs : List Int32) (I : mI) : pgI p bs I (p + 1) = (fun j => bs.getD j (I (p + 1) j)) := by simp [pgI]
theorem pgI_ne {p a : Nat} (bs : List Int32) (I : mI) (h : a ≠ p) (h2 : a ≠ p + 1) : pgI p bs I a = I a := by simp [pgI, h, h2]
theorem getD_snoc (bs : List Int32) (x : Int32) (R : Nat → Int32) : (fun j => (bs ++ [x]).getD j (R j)) = va_up (fun j => bs.getD j (R j)) bs.length x := by
  funext j
  unfold va_up
  by_cases h : j = bs.length
  · subst h; simp
  · by_cases h2 : j < bs.length
    · simp [h, List.getD, List.getElem?_append_left h2]
    · have h3 : (bs ++ [x])[j]? = none := List.getElem?_eq_none (by simp; omega)
      have h4 : bs[j]? = none := List.getElem?_eq_none (by omega)
      simp [h, List.getD, h3, h4]
theorem pgI_put (p : Nat) (bs : List Int32) (I : mI) (x : Int32) : va_up (va_up (pgI p bs I) (p + 1) (va_up (pgI p bs I (p + 1)) bs.length x)) p (va_up (pgI p bs I p) 1 (nI (bs.length + 1))) = pgI p (bs ++ [x]) I := by
  funext a
  by_cases h : a = p
  · subst h
    rw [am_up_s]
    funext j
    by_cases hj : j = 1
    · subst hj; rw [am_up_s]; simp [pgI]
    · rw [am_up_n _ _ hj]; simp [pgI, hj]
  · rw [am_up_n _ _ h]
    by_cases h2 : a = p + 1
    · subst h2
      rw [am_up_s, pgI_b, pgI_b, getD_snoc]
    · rw [am_up_n _ _ h2, pgI_ne _ _ h h2, pgI_ne _ _ h h2]
def dg (k : Nat) : List Int32 := if 9 < k then [nI (48 + k / 10), nI (48 + k % 10)] else [nI (48 + k % 10)]
theorem i2b_small : ∀ k, k < 128 → (nI k).toInt8.toInt32 = nI k := by decide +kernel
theorem sC_byte : ∀ i, i < 21 → ∀ j, j < 18 → (sC i j).toInt8.toInt32 = sC i j := by decide +kernel
theorem sN_len : ∀ i, i < 21 → (sB.getD i []).length = sN i := by decide +kernel
theorem dg_len (k : Nat) : (dg k).length ≤ 2 := by unfold dg; split <;> simp
theorem sC_take (i j : Nat) (hi : i < 21) (hj : j < sN i) : (sB.getD i []).take (j + 1) = (sB.getD i []).take j ++ [sC i j] := by
  have h := sN_len i hi
  have h2 : j < (sB.getD i []).length := by omega
  rw [List.take_succ]
  have h3 : (sB.getD i [])[j]? = some (sC i j) := by
    unfold sC
    rw [List.getElem?_eq_getElem h2]
    congr 1
    generalize sB.getD i [] = q at h2 ⊢
    simp [List.getD, h2]
  rw [h3]; rfl
theorem dX4_put_0 : decode cX4_put 0 = .ok (.aload_n 0, 1) := by decide +kernel
theorem dX4_put_1 : decode cX4_put 1 = .ok (.getfield 13, 3) := by decide +kernel
theorem dX4_put_4 : decode cX4_put 4 = .ok (.aload_n 0, 1) := by decide +kernel
theorem dX4_put_5 : decode cX4_put 5 = .ok (.getfield 7, 3) := by decide +kernel
theorem dX4_put_8 : decode cX4_put 8 = .ok (.arraylength, 1) := by decide +kernel
theorem dX4_put_9 : decode cX4_put 9 = .ok (.if_icmp .ge 24, 3) := by decide +kernel
theorem dX4_put_12 : decode cX4_put 12 = .ok (.aload_n 0, 1) := by decide +kernel
theorem dX4_put_13 : decode cX4_put 13 = .ok (.getfield 7, 3) := by decide +kernel
theorem dX4_put_16 : decode cX4_put 16 = .ok (.aload_n 0, 1) := by decide +kernel
theorem dX4_put_17 : decode cX4_put 17 = .ok (.getfield 13, 3) := by decide +kernel
theorem dX4_put_20 : decode cX4_put 20 = .ok (.iload_n 1, 1) := by decide +kernel
theorem dX4_put_21 : decode cX4_put 21 = .ok (.i2b, 1) := by decide +kernel
theorem dX4_put_22 : decode cX4_put 22 = .ok (.bastore, 1) := by decide +kernel
theorem dX4_put_23 : decode cX4_put 23 = .ok (.aload_n 0, 1) := by decide +kernel
theorem dX4_put_24 : decode cX4_put 24 = .ok (.dup, 1) := by decide +kernel
theorem dX4_put_25 : decode cX4_put 25 = .ok (.getfield 13, 3) := by decide +kernel
theorem dX4_put_28 : decode cX4_put 28 = .ok (.iconst 1, 1) := by decide +kernel
theorem dX4_put_29 : decode cX4_put 29 = .ok (.iadd, 1) := by decide +kernel
theorem dX4_put_30 : decode cX4_put 30 = .ok (.putfield 13, 3) := by decide +kernel
theorem dX4_put_33 : decode cX4_put 33 = .ok (.return_, 1) := by decide +kernel

set_option maxHeartbeats 4000000 in
set_option maxRecDepth 100000 in
theorem c_X4_put (p : Nat) (x y : Int32) (bs : List Int32) {n : Nat} {kd : mK} {I : mI} {J : mJ} {P : mP} (hP : kPg kd P p) (hb : y.toInt8.toInt32 = x) (hl : bs.length < 1200) : Ct yX4_put cX4_put 2 none 1 0 0 [.ref p, .int y] n kd (pgI p bs I) J P (am_is none n kd (pgI p (bs ++ [x]) I) J P) := by
  obtain ⟨g0, g1, g2⟩ := hP
  refine ct_of 0 (by decide +kernel) (Nat.le_of_ble_eq_true rfl) rfl ?_
  refine r_aload_n dX4_put_0 rfl ?_
  refine r_getI dX4_put_1 fl_X4_13 rfl g0 ?_
  rw [pgI_1]
  refine r_aload_n dX4_put_4 rfl ?_
  refine r_getR dX4_put_5 fl_X4_7 rfl g0 g2 ?_
  refine r_alen dX4_put_8 g1 (by decide) ?_
  refine r_icmp_ge (tgt := 33) dX4_put_9 (by decide) (fun hz => absurd hz (show ¬ _ from (by rw [nI_leI (by omega) (by omega)]; omega))) (fun _ => ?_)
  refine r_aload_n dX4_put_12 rfl ?_
  refine r_getR dX4_put_13 fl_X4_7 rfl g0 g2 ?_
  refine r_aload_n dX4_put_16 rfl ?_
  refine r_getI dX4_put_17 fl_X4_13 rfl g0 ?_
  rw [pgI_1]
  refine r_iload_n dX4_put_20 rfl ?_
  refine r_i2b dX4_put_21 ?_
  refine r_bast dX4_put_22 g1 (nI_in8 1200 hl (by decide)) (nI_clamp (by omega)) ?_
  refine r_aload_n dX4_put_23 rfl ?_
  refine r_dup dX4_put_24 rfl ?_
  refine r_getI dX4_put_25 fl_X4_13 rfl g0 ?_
  rw [am_up_n _ _ (show p ≠ p + 1 by omega), pgI_1]
  refine r_iconst (v := nI 1) dX4_put_28 (by decide) ?_
  refine r_iadd dX4_put_29 ?_
  rw [nI_add]
  refine r_putI dX4_put_30 fl_X4_13 rfl rfl g0 ?_
  rw [am_up_n _ _ (show p ≠ p + 1 by omega)]
  refine r_vret rfl dX4_put_33 ?_
  rw [pk_vb, hb, pgI_put]
  exact am_is.mk

theorem dX4_putWord_0 : decode cX4_putWord 0 = .ok (.iconst 0, 1) := by decide +kernel
theorem dX4_putWord_1 : decode cX4_putWord 1 = .ok (.istore_n 2, 1) := by decide +kernel
theorem dX4_putWord_2 : decode cX4_putWord 2 = .ok (.iload_n 2, 1) := by decide +kernel
theorem dX4_putWord_3 : decode cX4_putWord 3 = .ok (.aload_n 1, 1) := by decide +kernel
theorem dX4_putWord_4 : decode cX4_putWord 4 = .ok (.invokevirtual 17, 3) := by decide +kernel
theorem dX4_putWord_7 : decode cX4_putWord 7 = .ok (.if_icmp .ge 18, 3) := by decide +kernel
theorem dX4_putWord_10 : decode cX4_putWord 10 = .ok (.aload_n 0, 1) := by decide +kernel
theorem dX4_putWord_11 : decode cX4_putWord 11 = .ok (.aload_n 1, 1) := by decide +kernel
theorem dX4_putWord_12 : decode cX4_putWord 12 = .ok (.iload_n 2, 1) := by decide +kernel
theorem dX4_putWord_13 : decode cX4_putWord 13 = .ok (.invokevirtual 22, 3) := by decide +kernel
theorem dX4_putWord_16 : decode cX4_putWord 16 = .ok (.invokevirtual 26, 3) := by decide +kernel
theorem dX4_putWord_19 : decode cX4_putWord 19 = .ok (.iinc 2 1, 3) := by decide +kernel
theorem dX4_putWord_22 : decode cX4_putWord 22 = .ok (.goto (-20), 3) := by decide +kernel
theorem dX4_putWord_25 : decode cX4_putWord 25 = .ok (.return_, 1) := by decide +kernel

set_option maxHeartbeats 4000000 in
set_option maxRecDepth 100000 in
theorem w_X4_putWord (p i : Nat) (bs : List Int32) {n : Nat} {kd : mK} {I : mI} {J : mJ} {P : mP} (hP : kPg kd P p) (hi : i < 21) (hl : bs.length + sN i ≤ 1200) : ∀ (k j : Nat), j + k = sN i → Ru yX4_putWord.cls cX4_putWord 3 none yX4_putWord.name 6 (am_is none n kd (pgI p (bs ++ sB.getD i []) I) J P) 0 0 2 [some (.ref p), some (.ref (1000000 + i)), some (.int (nI j))] [] n kd (pgI p (bs ++ (sB.getD i []).take j) I) J P := by
  have h18 := sN_small i hi
  have hln := sN_len i hi
  intro k
  induction k with
  | zero =>
    intro j hj
    have hj : j = sN i := by omega
    subst hj
    refine r_iload_n dX4_putWord_2 rfl ?_
    refine r_aload_n dX4_putWord_3 rfl ?_
    refine r_virtK (c_J0_length_8abf5 i hi) lk_X4_17 mc_J0_length_8abf5 dX4_putWord_4 hi (by decide) rfl rfl (Nat.le_of_ble_eq_true rfl) ?_
    refine r_icmp_ge (tgt := 25) dX4_putWord_7 (by decide) (fun _ => ?_) (fun hz => absurd (show _ from (by rw [nI_leI (by omega) (by omega)]; omega)) hz)
    refine r_vret rfl dX4_putWord_25 ?_
    rw [List.take_of_length_le (by omega)]
    exact am_is.mk
  | succ k ih =>
    intro j hj
    refine r_iload_n dX4_putWord_2 rfl ?_
    refine r_aload_n dX4_putWord_3 rfl ?_
    refine r_virtK (c_J0_length_8abf5 i hi) lk_X4_17 mc_J0_length_8abf5 dX4_putWord_4 hi (by decide) rfl rfl (Nat.le_of_ble_eq_true rfl) ?_
    refine r_icmp_ge (tgt := 25) dX4_putWord_7 (by decide) (fun hz => absurd hz (show ¬ _ from (by rw [nI_leI (by omega) (by omega)]; omega))) (fun _ => ?_)
    refine r_aload_n dX4_putWord_10 rfl ?_
    refine r_aload_n dX4_putWord_11 rfl ?_
    refine r_iload_n dX4_putWord_12 rfl ?_
    refine r_virtK (c_J0_charAt_5068e i j hi (by omega)) lk_X4_22 mc_J0_charAt_5068e dX4_putWord_13 hi (by decide) rfl rfl (Nat.le_of_ble_eq_true rfl) ?_
    refine r_virtV (c_X4_put p (sC i j) (sC i j) (bs ++ (sB.getD i []).take j) hP (sC_byte i hi j (by omega)) (by rw [List.length_append, List.length_take]; omega)) lk_X4_26 mc_X4_put dX4_putWord_16 hP.1 (by decide) rfl rfl (Nat.le_of_ble_eq_true rfl) ?_
    rw [List.append_assoc, ← sC_take i j hi (by omega)]
    refine r_iinc (v := nI (j + 1)) dX4_putWord_19 rfl (nI_inc j) ?_
    refine r_goto (tgt := 2) dX4_putWord_22 (by decide) ?_
    exact ih (j + 1) (by omega)

set_option maxHeartbeats 4000000 in
set_option maxRecDepth 100000 in
theorem c_X4_putWord (p i : Nat) (bs : List Int32) {n : Nat} {kd : mK} {I : mI} {J : mJ} {P : mP} (hP : kPg kd P p) (hi : i < 21) (hl : bs.length + sN i ≤ 1200) : Ct yX4_putWord cX4_putWord 3 none 6 0 0 [.ref p, .ref (1000000 + i)] n kd (pgI p bs I) J P (am_is none n kd (pgI p (bs ++ sB.getD i []) I) J P) := by
  refine ct_of 1 (by decide +kernel) (Nat.le_of_ble_eq_true rfl) rfl ?_
  refine r_iconst (v := nI 0) dX4_putWord_0 (by decide) ?_
  refine r_istore_n dX4_putWord_1 (by decide) ?_
  have := w_X4_putWord (n := n) (kd := kd) (I := I) (J := J) (P := P) p i bs hP hi hl (sN i) 0 (by omega)
  rw [List.take_zero, List.append_nil] at this
  exact this

theorem dX4_putNumber_0 : decode cX4_putNumber 0 = .ok (.iload_n 1, 1) := by decide +kernel
theorem dX4_putNumber_1 : decode cX4_putNumber 1 = .ok (.bipush 9, 2) := by decide +kernel
theorem dX4_putNumber_3 : decode cX4_putNumber 3 = .ok (.if_icmp .le 14, 3) := by decide +kernel
theorem dX4_putNumber_6 : decode cX4_putNumber 6 = .ok (.aload_n 0, 1) := by decide +kernel
theorem dX4_putNumber_7 : decode cX4_putNumber 7 = .ok (.bipush 48, 2) := by decide +kernel
theorem dX4_putNumber_9 : decode cX4_putNumber 9 = .ok (.iload_n 1, 1) := by decide +kernel
theorem dX4_putNumber_10 : decode cX4_putNumber 10 = .ok (.bipush 10, 2) := by decide +kernel
theorem dX4_putNumber_12 : decode cX4_putNumber 12 = .ok (.idiv, 1) := by decide +kernel
theorem dX4_putNumber_13 : decode cX4_putNumber 13 = .ok (.iadd, 1) := by decide +kernel
theorem dX4_putNumber_14 : decode cX4_putNumber 14 = .ok (.invokevirtual 26, 3) := by decide +kernel
theorem dX4_putNumber_17 : decode cX4_putNumber 17 = .ok (.aload_n 0, 1) := by decide +kernel
theorem dX4_putNumber_18 : decode cX4_putNumber 18 = .ok (.bipush 48, 2) := by decide +kernel
theorem dX4_putNumber_20 : decode cX4_putNumber 20 = .ok (.iload_n 1, 1) := by decide +kernel
theorem dX4_putNumber_21 : decode cX4_putNumber 21 = .ok (.bipush 10, 2) := by decide +kernel
theorem dX4_putNumber_23 : decode cX4_putNumber 23 = .ok (.irem, 1) := by decide +kernel
theorem dX4_putNumber_24 : decode cX4_putNumber 24 = .ok (.iadd, 1) := by decide +kernel
theorem dX4_putNumber_25 : decode cX4_putNumber 25 = .ok (.invokevirtual 26, 3) := by decide +kernel
theorem dX4_putNumber_28 : decode cX4_putNumber 28 = .ok (.return_, 1) := by decide +kernel

set_option maxHeartbeats 4000000 in
set_option maxRecDepth 100000 in
theorem c_X4_putNumber (p k : Nat) (bs : List Int32) {n : Nat} {kd : mK} {I : mI} {J : mJ} {P : mP} (hP : kPg kd P p) (hk : k < 100) (hl : bs.length + 2 ≤ 1200) : Ct yX4_putNumber cX4_putNumber 2 none 2 0 0 [.ref p, .int (nI k)] n kd (pgI p bs I) J P (am_is none n kd (pgI p (bs ++ dg k) I) J P) := by
  unfold dg
  refine ct_of 0 (by decide +kernel) (Nat.le_of_ble_eq_true rfl) rfl ?_
  by_cases h9 : 9 < k
  · rw [if_pos h9]
    refine r_iload_n dX4_putNumber_0 rfl ?_
    refine r_bipush (v := nI 9) dX4_putNumber_1 (by decide) ?_
    refine r_icmp_le (tgt := 17) dX4_putNumber_3 (by decide) (fun hz => absurd hz (show ¬ _ from (by rw [nI_leI (by omega) (by omega)]; omega))) (fun _ => ?_)
    refine r_aload_n dX4_putNumber_6 rfl ?_
    refine r_bipush (v := nI 48) dX4_putNumber_7 (by decide) ?_
    refine r_iload_n dX4_putNumber_9 rfl ?_
    refine r_bipush (v := nI 10) dX4_putNumber_10 (by decide) ?_
    refine r_idiv dX4_putNumber_12 (by decide) ?_
    rw [pk_div (by omega) (by omega) (by omega)]
    refine r_iadd dX4_putNumber_13 ?_
    rw [nI_add]
    refine r_virtV (c_X4_put p (nI (48 + k / 10)) (nI (48 + k / 10)) bs hP (i2b_small _ (by omega)) (by omega)) lk_X4_26 mc_X4_put dX4_putNumber_14 hP.1 (by decide) rfl rfl (Nat.le_of_ble_eq_true rfl) ?_
    refine r_aload_n dX4_putNumber_17 rfl ?_
    refine r_bipush (v := nI 48) dX4_putNumber_18 (by decide) ?_
    refine r_iload_n dX4_putNumber_20 rfl ?_
    refine r_bipush (v := nI 10) dX4_putNumber_21 (by decide) ?_
    refine r_irem dX4_putNumber_23 (by decide) ?_
    rw [pk_rem (by omega) (by omega) (by omega)]
    refine r_iadd dX4_putNumber_24 ?_
    rw [nI_add]
    refine r_virtV (c_X4_put p (nI (48 + k % 10)) (nI (48 + k % 10)) (bs ++ [nI (48 + k / 10)]) hP (i2b_small _ (by omega)) (by simp; omega)) lk_X4_26 mc_X4_put dX4_putNumber_25 hP.1 (by decide) rfl rfl (Nat.le_of_ble_eq_true rfl) ?_
    refine r_vret rfl dX4_putNumber_28 ?_
    rw [List.append_assoc]
    exact am_is.mk
  · rw [if_neg h9]
    refine r_iload_n dX4_putNumber_0 rfl ?_
    refine r_bipush (v := nI 9) dX4_putNumber_1 (by decide) ?_
    refine r_icmp_le (tgt := 17) dX4_putNumber_3 (by decide) (fun _ => ?_) (fun hz => absurd (show _ from (by rw [nI_leI (by omega) (by omega)]; omega)) hz)
    refine r_aload_n dX4_putNumber_17 rfl ?_
    refine r_bipush (v := nI 48) dX4_putNumber_18 (by decide) ?_
    refine r_iload_n dX4_putNumber_20 rfl ?_
    refine r_bipush (v := nI 10) dX4_putNumber_21 (by decide) ?_
    refine r_irem dX4_putNumber_23 (by decide) ?_
    rw [pk_rem (by omega) (by omega) (by omega)]
    refine r_iadd dX4_putNumber_24 ?_
    rw [nI_add]
    refine r_virtV (c_X4_put p (nI (48 + k % 10)) (nI (48 + k % 10)) bs hP (i2b_small _ (by omega)) (by omega)) lk_X4_26 mc_X4_put dX4_putNumber_25 hP.1 (by decide) rfl rfl (Nat.le_of_ble_eq_true rfl) ?_
    refine r_vret rfl dX4_putNumber_28 ?_
    exact am_is.mk

theorem sr_X5_113 : (RX5, 113, "most", 0) ∈ sR := List.mem_of_getElem? (i := 0) rfl
theorem sr_X5_119 : (RX5, 119, "unlike", 1) ∈ sR := List.mem_of_getElem? (i := 1) rfl
theorem sr_X5_121 : (RX5, 121, "house", 2) ∈ sR := List.mem_of_getElem? (i := 2) rfl
theorem sr_X5_123 : (RX5, 123, "says", 3) ∈ sR := List.mem_of_getElem? (i := 3) rfl
theorem sr_X5_125 : (RX5, 125, "or", 4) ∈ sR := List.mem_of_getElem? (i := 4) rfl
theorem sr_X5_127 : (RX5, 127, "and", 5) ∈ sR := List.mem_of_getElem? (i := 5) rfl
theorem sr_X5_129 : (RX5, 129, "not", 6) ∈ sR := List.mem_of_getElem? (i := 6) rfl
theorem sr_X5_131 : (RX5, 131, "here", 7) ∈ sR := List.mem_of_getElem? (i := 7) rfl
theorem sr_X5_133 : (RX5, 133, "before", 8) ∈ sR := List.mem_of_getElem? (i := 8) rfl
theorem sr_X5_135 : (RX5, 135, "after", 9) ∈ sR := List.mem_of_getElem? (i := 9) rfl
theorem sr_X5_137 : (RX5, 137, "sons", 10) ∈ sR := List.mem_of_getElem? (i := 10) rfl
theorem sr_X5_139 : (RX5, 139, "debts", 11) ∈ sR := List.mem_of_getElem? (i := 11) rfl
theorem sr_X5_141 : (RX5, 141, "of", 12) ∈ sR := List.mem_of_getElem? (i := 12) rfl
theorem sr_X4_30 : (RX4, 30, "most ", 13) ∈ sR := List.mem_of_getElem? (i := 13) rfl
theorem sr_X4_48 : (RX4, 48, ";unlike;", 14) ∈ sR := List.mem_of_getElem? (i := 14) rfl
theorem sr_X4_50 : (RX4, 50, ";", 15) ∈ sR := List.mem_of_getElem? (i := 15) rfl
theorem sr_X4_59 : (RX4, 59, "house ", 16) ∈ sR := List.mem_of_getElem? (i := 16) rfl
theorem sr_X4_74 : (RX4, 74, " says ", 17) ∈ sR := List.mem_of_getElem? (i := 17) rfl
theorem sr_X4_93 : (RX4, 93, " says here=", 18) ∈ sR := List.mem_of_getElem? (i := 18) rfl
theorem sr_X4_95 : (RX4, 95, " says here=of ", 19) ∈ sR := List.mem_of_getElem? (i := 19) rfl
theorem sr_X4_97 : (RX4, 97, " says not here=of ", 20) ∈ sR := List.mem_of_getElem? (i := 20) rfl
theorem sr_X4_85 : (RX4, 85, "house", 2) ∈ sR := List.mem_of_getElem? (i := 21) rfl
def hdB (M : Nat) (u : Int32) : List Int32 := sB.getD 13 [] ++ dg M ++ (if u = 0 then sB.getD 15 [] else sB.getD 14 [])
theorem dX4_writeHead_0 : decode cX4_writeHead 0 = .ok (.aload_n 0, 1) := by decide +kernel
theorem dX4_writeHead_1 : decode cX4_writeHead 1 = .ok (.ldc 30, 2) := by decide +kernel
theorem dX4_writeHead_3 : decode cX4_writeHead 3 = .ok (.invokevirtual 32, 3) := by decide +kernel
theorem dX4_writeHead_6 : decode cX4_writeHead 6 = .ok (.aload_n 0, 1) := by decide +kernel
theorem dX4_writeHead_7 : decode cX4_writeHead 7 = .ok (.aload_n 1, 1) := by decide +kernel
theorem dX4_writeHead_8 : decode cX4_writeHead 8 = .ok (.getfield 36, 3) := by decide +kernel
theorem dX4_writeHead_11 : decode cX4_writeHead 11 = .ok (.invokevirtual 41, 3) := by decide +kernel
theorem dX4_writeHead_14 : decode cX4_writeHead 14 = .ok (.aload_n 0, 1) := by decide +kernel
theorem dX4_writeHead_15 : decode cX4_writeHead 15 = .ok (.aload_n 1, 1) := by decide +kernel
theorem dX4_writeHead_16 : decode cX4_writeHead 16 = .ok (.getfield 44, 3) := by decide +kernel
theorem dX4_writeHead_19 : decode cX4_writeHead 19 = .ok (.ifCond .eq 8, 3) := by decide +kernel
theorem dX4_writeHead_22 : decode cX4_writeHead 22 = .ok (.ldc 48, 2) := by decide +kernel
theorem dX4_writeHead_24 : decode cX4_writeHead 24 = .ok (.goto 5, 3) := by decide +kernel
theorem dX4_writeHead_27 : decode cX4_writeHead 27 = .ok (.ldc 50, 2) := by decide +kernel
theorem dX4_writeHead_29 : decode cX4_writeHead 29 = .ok (.invokevirtual 32, 3) := by decide +kernel
theorem dX4_writeHead_32 : decode cX4_writeHead 32 = .ok (.return_, 1) := by decide +kernel

set_option maxHeartbeats 4000000 in
set_option maxRecDepth 100000 in
theorem c_X4_writeHead (p s M : Nat) (u : Int32) (bs : List Int32) {n : Nat} {kd : mK} {I : mI} {J : mJ} {P : mP} (hP : kPg kd P p) (hs0 : kd s = some (0, 7)) (hs1 : s ≠ p) (hs2 : s ≠ p + 1) (hM : I s 1 = nI M) (hM99 : M < 100) (hu : I s 2 = u) (hl : bs.length + 15 ≤ 1200) : Ct yX4_writeHead cX4_writeHead 2 none 7 0 0 [.ref p, .ref s] n kd (pgI p bs I) J P (am_is none n kd (pgI p (bs ++ hdB M u) I) J P) := by
  have b13 : (sB.getD 13 []).length = 5 := by decide
  have n13 : sN 13 = 5 := by decide
  have n14 : sN 14 = 8 := by decide
  have n15 : sN 15 = 1 := by decide
  have d2 := dg_len M
  refine ct_of 0 (by decide +kernel) (Nat.le_of_ble_eq_true rfl) rfl ?_
  by_cases hx : u = 0
  · skip
    refine r_aload_n dX4_writeHead_0 rfl ?_
    refine r_ldcS (i := 13) dX4_writeHead_1 sr_X4_30 (by decide) ?_
    refine r_virtV (c_X4_putWord p 13 bs hP (by decide) (by omega)) lk_X4_32 mc_X4_putWord dX4_writeHead_3 hP.1 (by decide) rfl rfl (Nat.le_of_ble_eq_true rfl) ?_
    refine r_aload_n dX4_writeHead_6 rfl ?_
    refine r_aload_n dX4_writeHead_7 rfl ?_
    refine r_getI dX4_writeHead_8 fl_X4_36 rfl hs0 ?_
    rw [pgI_ne _ _ hs1 hs2, hM]
    refine r_virtV (c_X4_putNumber p M (bs ++ sB.getD 13 []) hP hM99 (by rw [List.length_append]; omega)) lk_X4_41 mc_X4_putNumber dX4_writeHead_11 hP.1 (by decide) rfl rfl (Nat.le_of_ble_eq_true rfl) ?_
    refine r_aload_n dX4_writeHead_14 rfl ?_
    refine r_aload_n dX4_writeHead_15 rfl ?_
    refine r_getI dX4_writeHead_16 fl_X4_44 rfl hs0 ?_
    rw [pgI_ne _ _ hs1 hs2, hu]
    refine r_if_eq (tgt := 27) dX4_writeHead_19 (by decide) (fun _ => ?_) (fun hz => absurd (show _ from hx) hz)
    refine r_ldcS (i := 15) dX4_writeHead_27 sr_X4_50 (by decide) ?_
    refine r_virtV (c_X4_putWord p 15 (bs ++ sB.getD 13 [] ++ dg M) hP (by decide) (by rw [List.length_append, List.length_append]; omega)) lk_X4_32 mc_X4_putWord dX4_writeHead_29 hP.1 (by decide) rfl rfl (Nat.le_of_ble_eq_true rfl) ?_
    refine r_vret rfl dX4_writeHead_32 ?_
    unfold hdB
    rw [if_pos hx, List.append_assoc, List.append_assoc]
    simp only [List.append_assoc]
    exact am_is.mk
  · skip
    refine r_aload_n dX4_writeHead_0 rfl ?_
    refine r_ldcS (i := 13) dX4_writeHead_1 sr_X4_30 (by decide) ?_
    refine r_virtV (c_X4_putWord p 13 bs hP (by decide) (by omega)) lk_X4_32 mc_X4_putWord dX4_writeHead_3 hP.1 (by decide) rfl rfl (Nat.le_of_ble_eq_true rfl) ?_
    refine r_aload_n dX4_writeHead_6 rfl ?_
    refine r_aload_n dX4_writeHead_7 rfl ?_
    refine r_getI dX4_writeHead_8 fl_X4_36 rfl hs0 ?_
    rw [pgI_ne _ _ hs1 hs2, hM]
    refine r_virtV (c_X4_putNumber p M (bs ++ sB.getD 13 []) hP hM99 (by rw [List.length_append]; omega)) lk_X4_41 mc_X4_putNumber dX4_writeHead_11 hP.1 (by decide) rfl rfl (Nat.le_of_ble_eq_true rfl) ?_
    refine r_aload_n dX4_writeHead_14 rfl ?_
    refine r_aload_n dX4_writeHead_15 rfl ?_
    refine r_getI dX4_writeHead_16 fl_X4_44 rfl hs0 ?_
    rw [pgI_ne _ _ hs1 hs2, hu]
    refine r_if_eq (tgt := 27) dX4_writeHead_19 (by decide) (fun hz => absurd hz (show ¬ _ from hx)) (fun _ => ?_)
    refine r_ldcS (i := 14) dX4_writeHead_22 sr_X4_48 (by decide) ?_
    refine r_goto (tgt := 29) dX4_writeHead_24 (by decide) ?_
    refine r_virtV (c_X4_putWord p 14 (bs ++ sB.getD 13 [] ++ dg M) hP (by decide) (by rw [List.length_append, List.length_append]; omega)) lk_X4_32 mc_X4_putWord dX4_writeHead_29 hP.1 (by decide) rfl rfl (Nat.le_of_ble_eq_true rfl) ?_
    refine r_vret rfl dX4_writeHead_32 ?_
    unfold hdB
    rw [if_neg hx, List.append_assoc, List.append_assoc]
    simp only [List.append_assoc]
    exact am_is.mk

