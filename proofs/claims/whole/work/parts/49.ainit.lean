/-! THE CONSTRUCTOR OF Asking -/
def kA (kd : mK) (P : mP) (b : Nat) : Prop := kd b = some (0, 0) ∧ kQ kd P (b + 1) ∧ kd (b + 7) = some (1, 4) ∧ kd (b + 8) = some (1, 4) ∧ P b 0 = some (b + 1) ∧ P b 1 = some (b + 7) ∧ P b 2 = some (b + 8)
theorem dX0_init_0 : decode cX0_init 0 = .ok (.aload_n 0, 1) := by decide +kernel
theorem dX0_init_1 : decode cX0_init 1 = .ok (.invokespecial 3, 3) := by decide +kernel
theorem dX0_init_4 : decode cX0_init 4 = .ok (.aload_n 0, 1) := by decide +kernel
theorem dX0_init_5 : decode cX0_init 5 = .ok (.new 9, 3) := by decide +kernel
theorem dX0_init_8 : decode cX0_init 8 = .ok (.dup, 1) := by decide +kernel
theorem dX0_init_9 : decode cX0_init 9 = .ok (.invokespecial 11, 3) := by decide +kernel
theorem dX0_init_12 : decode cX0_init 12 = .ok (.putfield 12, 3) := by decide +kernel
theorem dX0_init_15 : decode cX0_init 15 = .ok (.aload_n 0, 1) := by decide +kernel
theorem dX0_init_16 : decode cX0_init 16 = .ok (.iconst 4, 1) := by decide +kernel
theorem dX0_init_17 : decode cX0_init 17 = .ok (.newarray .int, 2) := by decide +kernel
theorem dX0_init_19 : decode cX0_init 19 = .ok (.putfield 18, 3) := by decide +kernel
theorem dX0_init_22 : decode cX0_init 22 = .ok (.aload_n 0, 1) := by decide +kernel
theorem dX0_init_23 : decode cX0_init 23 = .ok (.iconst 4, 1) := by decide +kernel
theorem dX0_init_24 : decode cX0_init 24 = .ok (.newarray .int, 2) := by decide +kernel
theorem dX0_init_26 : decode cX0_init 26 = .ok (.putfield 22, 3) := by decide +kernel
theorem dX0_init_29 : decode cX0_init 29 = .ok (.aload_n 0, 1) := by decide +kernel
theorem dX0_init_30 : decode cX0_init 30 = .ok (.iconst 0, 1) := by decide +kernel
theorem dX0_init_31 : decode cX0_init 31 = .ok (.putfield 25, 3) := by decide +kernel
theorem dX0_init_34 : decode cX0_init 34 = .ok (.aload_n 0, 1) := by decide +kernel
theorem dX0_init_35 : decode cX0_init 35 = .ok (.iconst (-1), 1) := by decide +kernel
theorem dX0_init_36 : decode cX0_init 36 = .ok (.putfield 29, 3) := by decide +kernel
theorem dX0_init_39 : decode cX0_init 39 = .ok (.return_, 1) := by decide +kernel
set_option maxHeartbeats 4000000 in
set_option maxRecDepth 100000 in
theorem c_X0_init (b : Nat) {n : Nat} {kd : mK} {I : mI} {J : mJ} {P : mP} (hB : bare n b 0 kd I J P) (hl : b < 999000) : Ct yX0_init cX0_init 1 none 2 8 1051 [.ref b] n kd I J P (fun z n' kd' I' J' P' => z = .inl none ∧ n' = b + 9 ∧ kA kd' P' b ∧ P' (b + 1) 0 = none ∧ P' (b + 1) 1 = none ∧ lowS b kd kd' I I' J J' P P' ∧ I' b = (fun j : Nat => (if j = 4 then (-1) else 0 : Int32)) ∧ I' (b + 1) = (fun j : Nat => (if j = 4 then (-1) else 0 : Int32)) ∧ (∀ i, 2 ≤ i → i ≤ 8 → I' (b + i) = (fun _ => 0) ∧ J' (b + i) = (fun _ => 0))) := by
  obtain ⟨rfl, hk0, hI0, hJ0, hP0⟩ := hB
  refine ct_of 0 (by decide +kernel) (Nat.le_of_ble_eq_true rfl) rfl ?_
  refine r_aload_n dX0_init_0 rfl ?_
  refine r_obj dX0_init_1 oi_X0 oi_in oi_co (by decide) (Nat.le_of_ble_eq_true rfl) ?_
  refine r_aload_n dX0_init_4 rfl ?_
  refine r_new (ci := 6) (kc2 := 7) (ks2 := 1040) dX0_init_5 (by decide) cl_X0_9 in_X6 (by omega) (by omega) (by show 1040 + 11 ≤ 1051; omega) ?_
  refine r_dup dX0_init_8 rfl ?_
  refine r_init (kc2 := 2) (ks2 := 8) (c_X6_init (b + 1) ⟨rfl, am_up_s _ _ _, am_up_s _ _ _, am_up_s _ _ _, am_up_s _ _ _⟩ (Nat.lt_trans (Nat.succ_lt_succ hl) (by decide))) li_X0_11 mc_X6_init dX0_init_9 (by decide) rfl rfl (Nat.le_of_ble_eq_true rfl) (by omega) (by omega) (fun _ _ _ _ _ _ h => nomatch h.1) (fun v n2 kd2 I2 J2 P2 h => ?_)
  obtain ⟨h0, rfl, hQ, hn0, hn1, hlow, hrow, harr⟩ := h
  cases h0
  show Ru _ _ _ _ _ _ _ _ _ _ _ (.ref (b + 1) :: .ref b :: []) _ _ _ _ _
  obtain ⟨lb1, lb2, lb3, lb4⟩ := hlow b (by omega)
  have hkb : kd2 b = some (0, 0) := by rw [lb1, am_up_n _ _ (by omega)]; exact hk0
  have hIb : I2 b = (fun _ => 0) := by rw [lb2, am_up_n _ _ (by omega)]; exact hI0
  refine r_putR dX0_init_12 fl_X0_12 (Or.inr ⟨rfl, rfl, rfl⟩) rfl hkb (by omega) ?_
  refine r_aload_n dX0_init_15 rfl ?_
  refine r_iconst (v := nI 4) dX0_init_16 (by decide) ?_
  refine r_newInt (N := 4) (kc2 := 1) (ks2 := 4) dX0_init_17 (by decide) (nI_clamp (by decide)) (by decide) (by omega) (by omega) (by omega) ?_
  refine r_putR dX0_init_19 fl_X0_18 (Or.inr ⟨rfl, rfl, rfl⟩) rfl (by (try simp (disch := omega) only [am_up_e, am_up_n]); exact hkb) (by omega) ?_
  refine r_aload_n dX0_init_22 rfl ?_
  refine r_iconst (v := nI 4) dX0_init_23 (by decide) ?_
  refine r_newInt (N := 4) (kc2 := 0) (ks2 := 0) dX0_init_24 (by decide) (nI_clamp (by decide)) (by decide) (by omega) (by omega) (by omega) ?_
  refine r_putR dX0_init_26 fl_X0_22 (Or.inr ⟨rfl, rfl, rfl⟩) rfl (by (try simp (disch := omega) only [am_up_e, am_up_n]); exact hkb) (by omega) ?_
  refine r_aload_n dX0_init_29 rfl ?_
  refine r_iconst (v := nI 0) dX0_init_30 (by decide) ?_
  refine r_putI dX0_init_31 fl_X0_25 rfl rfl (by (try simp (disch := omega) only [am_up_e, am_up_n]); exact hkb) ?_
  refine r_aload_n dX0_init_34 rfl ?_
  refine r_iconst (v := (-1)) dX0_init_35 (by decide) ?_
  refine r_putI dX0_init_36 fl_X0_29 rfl rfl (by (try simp (disch := omega) only [am_up_e, am_up_n]); exact hkb) ?_
  refine r_vret rfl dX0_init_39 ?_
  refine ⟨rfl, rfl, ?_, ?_, ?_, ?_, ?_, ?_, ?_⟩
  · unfold kA kQ
    simp (disch := omega) only [am_up_e, am_up_n]
    exact ⟨hkb, hQ, by first | trivial | rfl, by first | trivial | rfl, by first | trivial | rfl, by first | trivial | rfl, by first | trivial | rfl⟩
  · simp (disch := omega) only [am_up_e, am_up_n]; exact hn0
  · simp (disch := omega) only [am_up_e, am_up_n]; exact hn1
  · intro a ha
    obtain ⟨q1, q2, q3, q4⟩ := hlow a (by omega)
    simp (disch := omega) only [am_up_e, am_up_n] at q1 q2 q3 q4 ⊢
    exact ⟨q1, q2, q3, q4⟩
  · simp (disch := omega) only [am_up_e, am_up_n]
    funext j
    simp only [va_up, hIb]
    repeat' split
    all_goals first | rfl | (exfalso; omega)
  · simp (disch := omega) only [am_up_e, am_up_n]; exact hrow
  · intro i h1 h2
    match i, h1, h2 with
    | 2, _, _ => simp (disch := omega) only [am_up_e, am_up_n]; exact harr 1 (by omega) (by omega)
    | 3, _, _ => simp (disch := omega) only [am_up_e, am_up_n]; exact harr 2 (by omega) (by omega)
    | 4, _, _ => simp (disch := omega) only [am_up_e, am_up_n]; exact harr 3 (by omega) (by omega)
    | 5, _, _ => simp (disch := omega) only [am_up_e, am_up_n]; exact harr 4 (by omega) (by omega)
    | 6, _, _ => simp (disch := omega) only [am_up_e, am_up_n]; exact harr 5 (by omega) (by omega)
    | 7, _, _ => refine ⟨?_, ?_⟩ <;> simp (disch := omega) only [am_up_e, am_up_n]
    | 8, _, _ => refine ⟨?_, ?_⟩ <;> simp (disch := omega) only [am_up_e, am_up_n]

