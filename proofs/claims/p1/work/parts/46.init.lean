/-! CONSTRUCTORS -/
theorem am_up_e {α : Type} (F : Nat → α) {a b : Nat} (r : α) (h : b = a) : va_up F a r b = r := by subst h; exact am_up_s F b r
/-- what lies below l is as it was -/
def lowS (l : Nat) (kd kd' : mK) (I I' : mI) (J J' : mJ) (P P' : mP) : Prop := ∀ a, a < l → kd' a = kd a ∧ I' a = I a ∧ J' a = J a ∧ P' a = P a
theorem lowS.tr {l l2 : Nat} {kd kd' kd2 : mK} {I I' I2 : mI} {J J' J2 : mJ} {P P' P2 : mP} (h : lowS l kd kd' I I' J J' P P') (h2 : lowS l2 kd' kd2 I' I2 J' J2 P' P2) (hl : l ≤ l2) : lowS l kd kd2 I I2 J J2 P P2 := fun a ha => by
  obtain ⟨a1, a2, a3, a4⟩ := h a ha
  obtain ⟨b1, b2, b3, b4⟩ := h2 a (Nat.lt_of_lt_of_le ha hl)
  exact ⟨b1.trans a1, b2.trans a2, b3.trans a3, b4.trans a4⟩
/-- a fresh object at l of which nothing was written yet -/
def bare (n l ci : Nat) (kd : mK) (I : mI) (J : mJ) (P : mP) : Prop := n = l + 1 ∧ kd l = some (0, ci) ∧ I l = (fun _ => 0) ∧ J l = (fun _ => 0) ∧ P l = (fun _ => none)
theorem dX2_init_0 : decode cX2_init 0 = .ok (.aload_n 0, 1) := by decide +kernel
theorem dX2_init_1 : decode cX2_init 1 = .ok (.invokespecial 3, 3) := by decide +kernel
theorem dX2_init_4 : decode cX2_init 4 = .ok (.aload_n 0, 1) := by decide +kernel
theorem dX2_init_5 : decode cX2_init 5 = .ok (.bipush 8, 2) := by decide +kernel
theorem dX2_init_7 : decode cX2_init 7 = .ok (.newarray .int, 2) := by decide +kernel
theorem dX2_init_9 : decode cX2_init 9 = .ok (.putfield 9, 3) := by decide +kernel
theorem dX2_init_12 : decode cX2_init 12 = .ok (.aload_n 0, 1) := by decide +kernel
theorem dX2_init_13 : decode cX2_init 13 = .ok (.bipush 8, 2) := by decide +kernel
theorem dX2_init_15 : decode cX2_init 15 = .ok (.newarray .int, 2) := by decide +kernel
theorem dX2_init_17 : decode cX2_init 17 = .ok (.putfield 15, 3) := by decide +kernel
theorem dX2_init_20 : decode cX2_init 20 = .ok (.aload_n 0, 1) := by decide +kernel
theorem dX2_init_21 : decode cX2_init 21 = .ok (.iconst 0, 1) := by decide +kernel
theorem dX2_init_22 : decode cX2_init 22 = .ok (.putfield 18, 3) := by decide +kernel
theorem dX2_init_25 : decode cX2_init 25 = .ok (.aload_n 0, 1) := by decide +kernel
theorem dX2_init_26 : decode cX2_init 26 = .ok (.bipush 30, 2) := by decide +kernel
theorem dX2_init_28 : decode cX2_init 28 = .ok (.newarray .int, 2) := by decide +kernel
theorem dX2_init_30 : decode cX2_init 30 = .ok (.putfield 22, 3) := by decide +kernel
theorem dX2_init_33 : decode cX2_init 33 = .ok (.aload_n 0, 1) := by decide +kernel
theorem dX2_init_34 : decode cX2_init 34 = .ok (.iconst 0, 1) := by decide +kernel
theorem dX2_init_35 : decode cX2_init 35 = .ok (.putfield 25, 3) := by decide +kernel
theorem dX2_init_38 : decode cX2_init 38 = .ok (.aload_n 0, 1) := by decide +kernel
theorem dX2_init_39 : decode cX2_init 39 = .ok (.bipush 10, 2) := by decide +kernel
theorem dX2_init_41 : decode cX2_init 41 = .ok (.newarray .int, 2) := by decide +kernel
theorem dX2_init_43 : decode cX2_init 43 = .ok (.putfield 28, 3) := by decide +kernel
theorem dX2_init_46 : decode cX2_init 46 = .ok (.aload_n 0, 1) := by decide +kernel
theorem dX2_init_47 : decode cX2_init 47 = .ok (.bipush 10, 2) := by decide +kernel
theorem dX2_init_49 : decode cX2_init 49 = .ok (.newarray .int, 2) := by decide +kernel
theorem dX2_init_51 : decode cX2_init 51 = .ok (.putfield 31, 3) := by decide +kernel
theorem dX2_init_54 : decode cX2_init 54 = .ok (.aload_n 0, 1) := by decide +kernel
theorem dX2_init_55 : decode cX2_init 55 = .ok (.iconst 0, 1) := by decide +kernel
theorem dX2_init_56 : decode cX2_init 56 = .ok (.putfield 34, 3) := by decide +kernel
theorem dX2_init_59 : decode cX2_init 59 = .ok (.return_, 1) := by decide +kernel
set_option maxHeartbeats 4000000 in
set_option maxRecDepth 100000 in
theorem c_X2_init (l : Nat) {n : Nat} {kd : mK} {I : mI} {J : mJ} {P : mP} (hB : bare n l 2 kd I J P) (hl : l < 999900) : Ct yX2_init cX2_init 1 none 1 5 66 [.ref l] n kd I J P (fun z n' kd' I' J' P' => z = .inl none ∧ n' = l + 6 ∧ kL kd' P' l ∧ lowS l kd kd' I I' J J' P P' ∧ I' l = (fun _ => 0) ∧ (∀ i, 1 ≤ i → i ≤ 5 → I' (l + i) = (fun _ => 0))) := by
  obtain ⟨rfl, hk0, hI0, hJ0, hP0⟩ := hB
  refine ct_of 0 (by decide +kernel) (Nat.le_of_ble_eq_true rfl) rfl ?_
  refine r_aload_n dX2_init_0 rfl ?_
  refine r_obj dX2_init_1 oi_X2 oi_in oi_co (by decide) (Nat.le_of_ble_eq_true rfl) ?_
  refine r_aload_n dX2_init_4 rfl ?_
  refine r_bipush (v := nI 8) dX2_init_5 (by decide) ?_
  refine r_newInt (N := 8) (kc2 := 4) (ks2 := 58) dX2_init_7 (by decide) (nI_clamp (by decide)) (by decide) (by omega) (by omega) (by omega) ?_
  refine r_putR dX2_init_9 fl_X2_9 (Or.inr ⟨rfl, rfl, rfl⟩) rfl (by (try simp (disch := omega) only [am_up_e, am_up_n]); exact hk0) (by omega) ?_
  refine r_aload_n dX2_init_12 rfl ?_
  refine r_bipush (v := nI 8) dX2_init_13 (by decide) ?_
  refine r_newInt (N := 8) (kc2 := 3) (ks2 := 50) dX2_init_15 (by decide) (nI_clamp (by decide)) (by decide) (by omega) (by omega) (by omega) ?_
  refine r_putR dX2_init_17 fl_X2_15 (Or.inr ⟨rfl, rfl, rfl⟩) rfl (by (try simp (disch := omega) only [am_up_e, am_up_n]); exact hk0) (by omega) ?_
  refine r_aload_n dX2_init_20 rfl ?_
  refine r_iconst (v := nI 0) dX2_init_21 (by decide) ?_
  refine r_putI dX2_init_22 fl_X2_18 rfl rfl (by (try simp (disch := omega) only [am_up_e, am_up_n]); exact hk0) ?_
  refine r_aload_n dX2_init_25 rfl ?_
  refine r_bipush (v := nI 30) dX2_init_26 (by decide) ?_
  refine r_newInt (N := 30) (kc2 := 2) (ks2 := 20) dX2_init_28 (by decide) (nI_clamp (by decide)) (by decide) (by omega) (by omega) (by omega) ?_
  refine r_putR dX2_init_30 fl_X2_22 (Or.inr ⟨rfl, rfl, rfl⟩) rfl (by (try simp (disch := omega) only [am_up_e, am_up_n]); exact hk0) (by omega) ?_
  refine r_aload_n dX2_init_33 rfl ?_
  refine r_iconst (v := nI 0) dX2_init_34 (by decide) ?_
  refine r_putI dX2_init_35 fl_X2_25 rfl rfl (by (try simp (disch := omega) only [am_up_e, am_up_n]); exact hk0) ?_
  refine r_aload_n dX2_init_38 rfl ?_
  refine r_bipush (v := nI 10) dX2_init_39 (by decide) ?_
  refine r_newInt (N := 10) (kc2 := 1) (ks2 := 10) dX2_init_41 (by decide) (nI_clamp (by decide)) (by decide) (by omega) (by omega) (by omega) ?_
  refine r_putR dX2_init_43 fl_X2_28 (Or.inr ⟨rfl, rfl, rfl⟩) rfl (by (try simp (disch := omega) only [am_up_e, am_up_n]); exact hk0) (by omega) ?_
  refine r_aload_n dX2_init_46 rfl ?_
  refine r_bipush (v := nI 10) dX2_init_47 (by decide) ?_
  refine r_newInt (N := 10) (kc2 := 0) (ks2 := 0) dX2_init_49 (by decide) (nI_clamp (by decide)) (by decide) (by omega) (by omega) (by omega) ?_
  refine r_putR dX2_init_51 fl_X2_31 (Or.inr ⟨rfl, rfl, rfl⟩) rfl (by (try simp (disch := omega) only [am_up_e, am_up_n]); exact hk0) (by omega) ?_
  refine r_aload_n dX2_init_54 rfl ?_
  refine r_iconst (v := nI 0) dX2_init_55 (by decide) ?_
  refine r_putI dX2_init_56 fl_X2_34 rfl rfl (by (try simp (disch := omega) only [am_up_e, am_up_n]); exact hk0) ?_
  refine r_vret rfl dX2_init_59 ?_
  refine ⟨rfl, rfl, ?_, ?_, ?_, ?_⟩
  · unfold kL
    simp (disch := omega) only [am_up_e, am_up_n]
    refine ⟨hk0, ?_, ?_, ?_, ?_, ?_, ?_, ?_, ?_, ?_, ?_⟩ <;> trivial
  · intro a ha
    simp (disch := omega) only [am_up_e, am_up_n]
    exact ⟨trivial, trivial, trivial, trivial⟩
  · simp (disch := omega) only [am_up_e, am_up_n]
    funext j
    simp only [va_up, hI0]
    repeat' split
    all_goals rfl
  · intro i h1 h2
    match i, h1, h2 with
    | 1, _, _ => simp (disch := omega) only [am_up_e, am_up_n]
    | 2, _, _ => simp (disch := omega) only [am_up_e, am_up_n]
    | 3, _, _ => simp (disch := omega) only [am_up_e, am_up_n]
    | 4, _, _ => simp (disch := omega) only [am_up_e, am_up_n]
    | 5, _, _ => simp (disch := omega) only [am_up_e, am_up_n]

