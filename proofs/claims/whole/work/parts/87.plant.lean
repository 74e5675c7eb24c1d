/-! PLANT: both -/
theorem pcF_cn {v : Int32} {cs : Nat → List Nat} {H : Nat} (hb : ∀ i, i < 32 → bt v i = (decide (i < H) && !(cs i).isEmpty)) : ∀ j, j ≤ 32 → pcF v j = cnR cs (min j H)
  | 0, _ => by rw [Nat.zero_min]; rfl
  | j + 1, hj => by
    unfold pcF
    rw [pcF_cn hb j (by omega), hb j (by omega)]
    by_cases e : j < H
    · rw [show min j H = j by omega, show min (j + 1) H = j + 1 by omega, show cnR cs (j + 1) = cnR cs j + (if cs j = [] then 0 else 1) from rfl]
      cases c : cs j with
      | nil => simp
      | cons a t => simp [e]
    · rw [show min j H = H by omega, show min (j + 1) H = H by omega]
      simp [e]
theorem ri_small {v : Int32} {H : Nat} (hH : H ≤ 8) {f : Nat → Bool} (hb : ∀ i, i < 32 → bt v i = (decide (i < H) && f i)) : ∃ k, k < 256 ∧ v = nI k := by
  refine ⟨nO v, ?_, (nO_eq v).symm⟩
  have : nO v < 2 ^ 8 := by
    apply Nat.lt_pow_two_of_testBit
    intro i hi
    by_cases h32 : i < 32
    · have h1 : bt v i = (nO v).testBit i := by
        conv => lhs; rw [← nO_eq v]
        exact b_nI _ h32
      rw [← h1, hb i h32]
      simp [show ¬ i < H by omega]
    · exact Nat.testBit_lt_two_pow (Nat.lt_of_lt_of_le v.toBitVec.isLt (Nat.pow_le_pow_right (by decide) (by omega)))
  exact this
theorem bc_cn {v : Int32} {cs : Nat → List Nat} {H : Nat} (hH : H ≤ 8) (hb : ∀ i, i < 32 → bt v i = (decide (i < H) && !(cs i).isEmpty)) : bcF v = nI (cnR cs H) := by
  obtain ⟨k, hk, rfl⟩ := ri_small hH hb
  rw [bc_pc k hk]
  unfold pc8
  rw [pcF_cn hb 8 (by omega), show min 8 H = H by omega]
def mvG (n : Nat) (kd : mK) (I : mI) (J : mJ) (P : mP) (o b s f l : Nat) : am_Post := fun z n' kd' I' J' P' => z = .inl none ∧ n' = n ∧ kd' = kd ∧ J' = J ∧ (P' o 4 = some s ∧ P' o 5 = some b ∧ P' o 6 = some l ∧ P' o 7 = some f) ∧ (∀ k, k ≠ 4 → k ≠ 5 → k ≠ 6 → k ≠ 7 → P' o k = P o k) ∧ (∀ a, a ≠ o → P' a = P a) ∧ (∀ a, a ≠ o → a ≠ o + 58 → I' a = I a) ∧ I' (o + 58) = va_up (I (o + 58)) 6 (nI 0) ∧ I' o = va_up (va_up (va_up (I o) 9 (nI 0)) 11 (nI 0)) 18 (nI 0)
theorem dX9_moveIn_0 : decode cX9_moveIn 0 = .ok (.aload_n 0, 1) := by decide +kernel
theorem dX9_moveIn_1 : decode cX9_moveIn 1 = .ok (.getfield 27, 3) := by decide +kernel
theorem dX9_moveIn_4 : decode cX9_moveIn 4 = .ok (.astore_n 1, 1) := by decide +kernel
theorem dX9_moveIn_5 : decode cX9_moveIn 5 = .ok (.aload_n 0, 1) := by decide +kernel
theorem dX9_moveIn_6 : decode cX9_moveIn 6 = .ok (.aload_n 0, 1) := by decide +kernel
theorem dX9_moveIn_7 : decode cX9_moveIn 7 = .ok (.getfield 31, 3) := by decide +kernel
theorem dX9_moveIn_10 : decode cX9_moveIn 10 = .ok (.putfield 27, 3) := by decide +kernel
theorem dX9_moveIn_13 : decode cX9_moveIn 13 = .ok (.aload_n 0, 1) := by decide +kernel
theorem dX9_moveIn_14 : decode cX9_moveIn 14 = .ok (.aload_n 1, 1) := by decide +kernel
theorem dX9_moveIn_15 : decode cX9_moveIn 15 = .ok (.putfield 31, 3) := by decide +kernel
theorem dX9_moveIn_18 : decode cX9_moveIn 18 = .ok (.aload_n 0, 1) := by decide +kernel
theorem dX9_moveIn_19 : decode cX9_moveIn 19 = .ok (.getfield 37, 3) := by decide +kernel
theorem dX9_moveIn_22 : decode cX9_moveIn 22 = .ok (.astore_n 2, 1) := by decide +kernel
theorem dX9_moveIn_23 : decode cX9_moveIn 23 = .ok (.aload_n 0, 1) := by decide +kernel
theorem dX9_moveIn_24 : decode cX9_moveIn 24 = .ok (.aload_n 0, 1) := by decide +kernel
theorem dX9_moveIn_25 : decode cX9_moveIn 25 = .ok (.getfield 41, 3) := by decide +kernel
theorem dX9_moveIn_28 : decode cX9_moveIn 28 = .ok (.putfield 37, 3) := by decide +kernel
theorem dX9_moveIn_31 : decode cX9_moveIn 31 = .ok (.aload_n 0, 1) := by decide +kernel
theorem dX9_moveIn_32 : decode cX9_moveIn 32 = .ok (.aload_n 2, 1) := by decide +kernel
theorem dX9_moveIn_33 : decode cX9_moveIn 33 = .ok (.putfield 41, 3) := by decide +kernel
theorem dX9_moveIn_36 : decode cX9_moveIn 36 = .ok (.aload_n 0, 1) := by decide +kernel
theorem dX9_moveIn_37 : decode cX9_moveIn 37 = .ok (.iconst 0, 1) := by decide +kernel
theorem dX9_moveIn_38 : decode cX9_moveIn 38 = .ok (.putfield 47, 3) := by decide +kernel
theorem dX9_moveIn_41 : decode cX9_moveIn 41 = .ok (.aload_n 0, 1) := by decide +kernel
theorem dX9_moveIn_42 : decode cX9_moveIn 42 = .ok (.getfield 78, 3) := by decide +kernel
theorem dX9_moveIn_45 : decode cX9_moveIn 45 = .ok (.iconst 0, 1) := by decide +kernel
theorem dX9_moveIn_46 : decode cX9_moveIn 46 = .ok (.putfield 329, 3) := by decide +kernel
theorem dX9_moveIn_49 : decode cX9_moveIn 49 = .ok (.aload_n 0, 1) := by decide +kernel
theorem dX9_moveIn_50 : decode cX9_moveIn 50 = .ok (.invokevirtual 174, 3) := by decide +kernel
theorem dX9_moveIn_53 : decode cX9_moveIn 53 = .ok (.return_, 1) := by decide +kernel
set_option maxHeartbeats 4000000 in
set_option maxRecDepth 100000 in
theorem c_X9_moveIn (o b s f l : Nat) {n : Nat} {kd : mK} {I : mI} {J : mJ} {P : mP} (hX : kX kd P o b s f l) : Ct yX9_moveIn cX9_moveIn 3 none 2 0 0 [.ref o] n kd I J P (mvG n kd I J P o b s f l) := by
  have hX0 := hX
  obtain ⟨⟨c0, c1, c2⟩, ⟨s3, s13⟩, ⟨l23, l29, l35⟩, ⟨q41, a47, g56, w58, r61, d66, p67⟩, ⟨e0, e3, e8, e10, e12, e13, e14, e15, e16, e17⟩, ⟨e4, e5, e6, e7⟩, hbs, hfl, ho⟩ := hX
  refine ct_of 2 (by decide +kernel) (Nat.le_of_ble_eq_true rfl) rfl ?_
  refine r_aload_n dX9_moveIn_0 rfl ?_
  refine r_getR dX9_moveIn_1 fl_X9_27 rfl c0 e4 ?_
  refine r_astore_n dX9_moveIn_4 (by decide) ?_
  refine r_aload_n dX9_moveIn_5 rfl ?_
  refine r_aload_n dX9_moveIn_6 rfl ?_
  refine r_getR dX9_moveIn_7 fl_X9_31 rfl c0 e5 ?_
  refine r_putR dX9_moveIn_10 fl_X9_27 (Or.inl rfl) rfl c0 (by omega) ?_
  refine r_aload_n dX9_moveIn_13 rfl ?_
  refine r_aload_n dX9_moveIn_14 rfl ?_
  refine r_putR dX9_moveIn_15 fl_X9_31 (Or.inl rfl) rfl c0 (by omega) ?_
  refine r_aload_n dX9_moveIn_18 rfl ?_
  refine r_getR dX9_moveIn_19 fl_X9_37 rfl c0 (by simp (disch := decide) only [am_up_s, am_up_n]; exact e6) ?_
  refine r_astore_n dX9_moveIn_22 (by decide) ?_
  refine r_aload_n dX9_moveIn_23 rfl ?_
  refine r_aload_n dX9_moveIn_24 rfl ?_
  refine r_getR dX9_moveIn_25 fl_X9_41 rfl c0 (by simp (disch := decide) only [am_up_s, am_up_n]; exact e7) ?_
  refine r_putR dX9_moveIn_28 fl_X9_37 (Or.inl rfl) rfl c0 (by omega) ?_
  refine r_aload_n dX9_moveIn_31 rfl ?_
  refine r_aload_n dX9_moveIn_32 rfl ?_
  refine r_putR dX9_moveIn_33 fl_X9_41 (Or.inl rfl) rfl c0 (by omega) ?_
  refine r_aload_n dX9_moveIn_36 rfl ?_
  refine r_iconst (v := nI 0) dX9_moveIn_37 (by decide) ?_
  refine r_putZ dX9_moveIn_38 fl_X9_47 rfl rfl (Or.inl rfl) c0 ?_
  refine r_aload_n dX9_moveIn_41 rfl ?_
  refine r_getR dX9_moveIn_42 fl_X9_78 rfl c0 (by simp (disch := decide) only [am_up_s, am_up_n]; exact e14) ?_
  refine r_iconst (v := nI 0) dX9_moveIn_45 (by decide) ?_
  refine r_putZ dX9_moveIn_46 fl_X9_329 rfl rfl (Or.inl rfl) w58.1 ?_
  refine r_aload_n dX9_moveIn_49 rfl ?_
  refine r_virtV (c_X9_forget o c0) lk_X9_174 mc_X9_forget dX9_moveIn_50 c0 (by decide) rfl rfl (Nat.le_of_ble_eq_true rfl) ?_
  refine r_vret rfl dX9_moveIn_53 ?_
  refine ⟨rfl, rfl, rfl, rfl, ⟨?_, ?_, ?_, ?_⟩, ?_, ?_, ?_, ?_, ?_⟩
  · simp (disch := decide) only [am_up_s, am_up_n]
  · simp (disch := decide) only [am_up_s, am_up_n]
  · simp (disch := decide) only [am_up_s, am_up_n]
  · simp (disch := decide) only [am_up_s, am_up_n]
  · intro k h4 h5 h6 h7
    simp (disch := assumption) only [am_up_s, am_up_n]
  · intro a ha
    simp (disch := assumption) only [am_up_n]
  · intro a ha hb
    simp (disch := assumption) only [am_up_n]
  · rw [am_up_n _ _ (show o + 58 ≠ o by omega), am_up_s, am_up_n _ _ (show o + 58 ≠ o by omega)]
  · rw [am_up_s, am_up_n _ _ (show o ≠ o + 58 by omega), am_up_s]

theorem dX9_plant_0 : decode cX9_plant 0 = .ok (.iload_n 2, 1) := by decide +kernel
theorem dX9_plant_1 : decode cX9_plant 1 = .ok (.iconst 1, 1) := by decide +kernel
theorem dX9_plant_2 : decode cX9_plant 2 = .ok (.if_icmp .lt 9, 3) := by decide +kernel
theorem dX9_plant_5 : decode cX9_plant 5 = .ok (.iload_n 2, 1) := by decide +kernel
theorem dX9_plant_6 : decode cX9_plant 6 = .ok (.bipush 8, 2) := by decide +kernel
theorem dX9_plant_8 : decode cX9_plant 8 = .ok (.if_icmp .le 11, 3) := by decide +kernel
theorem dX9_plant_11 : decode cX9_plant 11 = .ok (.new 110, 3) := by decide +kernel
theorem dX9_plant_14 : decode cX9_plant 14 = .ok (.dup, 1) := by decide +kernel
theorem dX9_plant_15 : decode cX9_plant 15 = .ok (.invokespecial 112, 3) := by decide +kernel
theorem dX9_plant_18 : decode cX9_plant 18 = .ok (.athrow, 1) := by decide +kernel
theorem dX9_plant_19 : decode cX9_plant 19 = .ok (.aload_n 0, 1) := by decide +kernel
theorem dX9_plant_20 : decode cX9_plant 20 = .ok (.iload_n 1, 1) := by decide +kernel
theorem dX9_plant_21 : decode cX9_plant 21 = .ok (.iload_n 2, 1) := by decide +kernel
theorem dX9_plant_22 : decode cX9_plant 22 = .ok (.invokevirtual 360, 3) := by decide +kernel
theorem dX9_plant_25 : decode cX9_plant 25 = .ok (.aload_n 0, 1) := by decide +kernel
theorem dX9_plant_26 : decode cX9_plant 26 = .ok (.invokevirtual 121, 3) := by decide +kernel
theorem dX9_plant_29 : decode cX9_plant 29 = .ok (.aload_n 0, 1) := by decide +kernel
theorem dX9_plant_30 : decode cX9_plant 30 = .ok (.getfield 27, 3) := by decide +kernel
theorem dX9_plant_33 : decode cX9_plant 33 = .ok (.getfield 363, 3) := by decide +kernel
theorem dX9_plant_36 : decode cX9_plant 36 = .ok (.invokestatic 366, 3) := by decide +kernel
theorem dX9_plant_39 : decode cX9_plant 39 = .ok (.ireturn, 1) := by decide +kernel

set_option maxHeartbeats 4000000 in
set_option maxRecDepth 100000 in
theorem c_plant (o b s f l M H : Nat) (x u : Int32) {n : Nat} {kd : mK} {I : mI} {J : mJ} {P : mP} (hX : kX kd P o b s f l) (hM : I b 1 = nI M) (hM2 : 2 ≤ M) (hM20 : M ≤ 20) (hH1 : 1 ≤ H) (hH8 : H ≤ 8) (hu : I b 2 = u) : Ct yX9_plant cX9_plant 3 (some .int) 63 0 0 [.ref o, .int x, .int (nI H)] n kd I J P (fun z n' kd' I' J' P' => z = .inl (some (.int (nI (cnR (sdCs M x) H)))) ∧ n' = n ∧ kd' = kd ∧ J' = J ∧ (∀ a, (a < o ∨ o + 68 < a) → I' a = I a ∧ P' a = P a)) := by
  have hX0 := hX
  obtain ⟨⟨c0, c1, c2⟩, ⟨s3, s13⟩, ⟨l23, l29, l35⟩, ⟨q41, a47, g56, w58, r61, d66, p67⟩, ⟨e0, e3, e8, e10, e12, e13, e14, e15, e16, e17⟩, ⟨e4, e5, e6, e7⟩, hbs, hfl, ho⟩ := hX
  have hs7 : kd s = some (0, 7) := by rcases hbs with h | h <;> rw [h.2]; exact s13.1; exact s3.1
  refine ct_of 0 (by decide +kernel) (Nat.le_of_ble_eq_true rfl) rfl ?_
  refine r_iload_n dX9_plant_0 rfl ?_
  refine r_iconst (v := nI 1) dX9_plant_1 (by decide) ?_
  refine r_icmp_lt (tgt := 11) dX9_plant_2 (by decide) (fun hz => absurd hz (show ¬ _ from (by rw [nI_ltI (by omega) (by omega)]; omega))) (fun _ => ?_)
  refine r_iload_n dX9_plant_5 rfl ?_
  refine r_bipush (v := nI 8) dX9_plant_6 (by decide) ?_
  refine r_icmp_le (tgt := 19) dX9_plant_8 (by decide) (fun _ => ?_) (fun hz => absurd (show _ from (by rw [nI_leI (by omega) (by omega)]; omega)) hz)
  refine r_aload_n dX9_plant_19 rfl ?_
  refine r_iload_n dX9_plant_20 rfl ?_
  refine r_iload_n dX9_plant_21 rfl ?_
  refine r_virt (c_sow o b s f l M H x u hX0 hM hM2 hM20 hH8 hu) lk_X9_360 mc_X9_sow dX9_plant_22 c0 (by decide) rfl rfl (Nat.le_of_ble_eq_true rfl) (Nat.le_of_eq (Nat.zero_add _)) (Nat.le_of_eq (Nat.zero_add _)) (fun _ _ _ _ _ _ h => nomatch h.1) ?_
  rintro v n1 kd1 I1 J1 P1 ⟨h0, g1, g2, g3, g4, hst, hmo, hun, hlf, hfr, hoo⟩
  cases h0
  subst g1 g2 g3 g4
  simp only [Option.toList, List.nil_append]
  refine r_aload_n dX9_plant_25 rfl ?_
  refine r_virt (c_X9_moveIn o b s f l (kX_rdQ hX0)) lk_X9_121 mc_X9_moveIn dX9_plant_26 c0 (by decide) rfl rfl (Nat.le_of_ble_eq_true rfl) (Nat.le_of_eq (Nat.zero_add _)) (Nat.le_of_eq (Nat.zero_add _)) (fun _ _ _ _ _ _ h => nomatch h.1) ?_
  rintro v n2 kd2 I2 J2 P2 ⟨h0, g1, g2, g3, ⟨m4, m5, m6, m7⟩, m8, m9, m10, m11, m12⟩
  cases h0
  subst g1 g2 g3
  simp only [Option.toList, List.nil_append]
  refine r_aload_n dX9_plant_29 rfl ?_
  refine r_getR dX9_plant_30 fl_X9_27 rfl c0 m4 ?_
  refine r_getI dX9_plant_33 fl_X9_363 rfl hs7 ?_
  rw [m10 s (by omega) (by omega)]
  refine r_statE (c_J6_bitCount_0f7a4 (I1 s 3)) lk_X9_366 mc_J6_bitCount_0f7a4 dX9_plant_36 (by decide) rfl rfl (Nat.le_of_ble_eq_true rfl) ?_
  rw [bc_cn hH8 hst.2.1]
  refine r_iret rfl dX9_plant_39 ?_
  refine ⟨rfl, rfl, rfl, rfl, fun a ha => ⟨?_, ?_⟩⟩
  · rw [m10 a (by omega) (by omega)]
    exact hfr a (by omega) (by omega) (by omega) (by omega)
  · rw [m9 a (by omega)]
    exact rdQ_ne (by omega)

theorem dX10_plant_0 : decode cX10_plant 0 = .ok (.aload_n 0, 1) := by decide +kernel
theorem dX10_plant_1 : decode cX10_plant 1 = .ok (.iconst 0, 1) := by decide +kernel
theorem dX10_plant_2 : decode cX10_plant 2 = .ok (.putfield 193, 3) := by decide +kernel
theorem dX10_plant_5 : decode cX10_plant 5 = .ok (.aload_n 0, 1) := by decide +kernel
theorem dX10_plant_6 : decode cX10_plant 6 = .ok (.iload_n 2, 1) := by decide +kernel
theorem dX10_plant_7 : decode cX10_plant 7 = .ok (.iconst 1, 1) := by decide +kernel
theorem dX10_plant_8 : decode cX10_plant 8 = .ok (.bipush 8, 2) := by decide +kernel
theorem dX10_plant_10 : decode cX10_plant 10 = .ok (.invokestatic 369, 3) := by decide +kernel
theorem dX10_plant_13 : decode cX10_plant 13 = .ok (.iconst 1, 1) := by decide +kernel
theorem dX10_plant_14 : decode cX10_plant 14 = .ok (.invokevirtual 343, 3) := by decide +kernel
theorem dX10_plant_17 : decode cX10_plant 17 = .ok (.ifCond .ne 5, 3) := by decide +kernel
theorem dX10_plant_20 : decode cX10_plant 20 = .ok (.iconst 0, 1) := by decide +kernel
theorem dX10_plant_21 : decode cX10_plant 21 = .ok (.ireturn, 1) := by decide +kernel
theorem dX10_plant_22 : decode cX10_plant 22 = .ok (.aload_n 0, 1) := by decide +kernel
theorem dX10_plant_23 : decode cX10_plant 23 = .ok (.iconst 0, 1) := by decide +kernel
theorem dX10_plant_24 : decode cX10_plant 24 = .ok (.putfield 360, 3) := by decide +kernel
theorem dX10_plant_27 : decode cX10_plant 27 = .ok (.aload_n 0, 1) := by decide +kernel
theorem dX10_plant_28 : decode cX10_plant 28 = .ok (.iconst 0, 1) := by decide +kernel
theorem dX10_plant_29 : decode cX10_plant 29 = .ok (.putfield 363, 3) := by decide +kernel
theorem dX10_plant_32 : decode cX10_plant 32 = .ok (.aload_n 0, 1) := by decide +kernel
theorem dX10_plant_33 : decode cX10_plant 33 = .ok (.iconst (-1), 1) := by decide +kernel
theorem dX10_plant_34 : decode cX10_plant 34 = .ok (.putfield 139, 3) := by decide +kernel
theorem dX10_plant_37 : decode cX10_plant 37 = .ok (.aload_n 0, 1) := by decide +kernel
theorem dX10_plant_38 : decode cX10_plant 38 = .ok (.iconst 0, 1) := by decide +kernel
theorem dX10_plant_39 : decode cX10_plant 39 = .ok (.putfield 366, 3) := by decide +kernel
theorem dX10_plant_42 : decode cX10_plant 42 = .ok (.aload_n 0, 1) := by decide +kernel
theorem dX10_plant_43 : decode cX10_plant 43 = .ok (.iload_n 1, 1) := by decide +kernel
theorem dX10_plant_44 : decode cX10_plant 44 = .ok (.iload_n 2, 1) := by decide +kernel
theorem dX10_plant_45 : decode cX10_plant 45 = .ok (.invokevirtual 541, 3) := by decide +kernel
theorem dX10_plant_48 : decode cX10_plant 48 = .ok (.ireturn, 1) := by decide +kernel

theorem thM_ok (I : mI) (m : Nat) (x : Int32) : thM true I m x = I := rfl
set_option maxHeartbeats 4000000 in
set_option maxRecDepth 100000 in
theorem c_plantR (m M H : Nat) (x : Int32) {n : Nat} {kd : mK} {I : mI} {J : mJ} {P : mP} (hM : kM kd P m) (hMo : I m 2 = nI M) (hM0 : 0 < M) (hM20 : M ≤ 20) (hH1 : 1 ≤ H) (hH8 : H ≤ 8) : Ct yX10_plant cX10_plant 3 (some .int) 6 0 0 [.ref m, .int x, .int (nI H)] n kd I J P (fun z n' kd' I' J' P' => z = .inl (some (.int (nI (cnR (sdCs M x) H)))) ∧ n' = n ∧ kd' = kd ∧ J' = J ∧ P' = P ∧ I' m 0 = nI 0) := by
  refine ct_of 0 (by decide +kernel) (Nat.le_of_ble_eq_true rfl) rfl ?_
  refine r_aload_n dX10_plant_0 rfl ?_
  refine r_iconst (v := nI 0) dX10_plant_1 (by decide) ?_
  refine r_putI dX10_plant_2 fl_X10_193 rfl rfl (kM_0 hM) ?_
  refine r_aload_n dX10_plant_5 rfl ?_
  refine r_iload_n dX10_plant_6 rfl ?_
  refine r_iconst (v := nI 1) dX10_plant_7 (by decide) ?_
  refine r_bipush (v := nI 8) dX10_plant_8 (by decide) ?_
  refine r_statE (c_X10_within (nI H) (nI 1) (nI 8)) lk_X10_369 mc_X10_within dX10_plant_10 (by decide) rfl rfl (Nat.le_of_ble_eq_true rfl) ?_
  rw [show (!decide (nI H < nI 1) && !decide (nI 8 < nI H)) = true by rw [decide_eq_false (by rw [nI_ltI (by omega) (by omega)]; omega), decide_eq_false (by rw [nI_ltI (by omega) (by omega)]; omega)]; rfl]
  refine r_iconst (v := nI 1) dX10_plant_13 (by decide) ?_
  refine r_virtE (c_X10_right m true (nI 1) hM (by rw [am_up_s, am_up_s]; rfl) (by decide)) lk_X10_343 mc_X10_right dX10_plant_14 (kM_0 hM) (by decide) rfl rfl (Nat.le_of_ble_eq_true rfl) ?_
  rw [thM_ok]
  refine r_if_ne (tgt := 22) dX10_plant_17 (by decide) (fun _ => ?_) (fun hz => absurd hz (show ¬ _ from by decide))
  refine r_aload_n dX10_plant_22 rfl ?_
  refine r_iconst (v := nI 0) dX10_plant_23 (by decide) ?_
  refine r_putI dX10_plant_24 fl_X10_360 rfl rfl (kM_0 hM) ?_
  refine r_aload_n dX10_plant_27 rfl ?_
  refine r_iconst (v := nI 0) dX10_plant_28 (by decide) ?_
  refine r_putI dX10_plant_29 fl_X10_363 rfl rfl (kM_0 hM) ?_
  refine r_aload_n dX10_plant_32 rfl ?_
  refine r_iconst (v := (-1)) dX10_plant_33 (by decide) ?_
  refine r_putI dX10_plant_34 fl_X10_139 rfl rfl (kM_0 hM) ?_
  refine r_aload_n dX10_plant_37 rfl ?_
  refine r_iconst (v := nI 0) dX10_plant_38 (by decide) ?_
  refine r_putZ dX10_plant_39 fl_X10_366 rfl rfl (Or.inl rfl) (kM_0 hM) ?_
  refine r_aload_n dX10_plant_42 rfl ?_
  refine r_iload_n dX10_plant_43 rfl ?_
  refine r_iload_n dX10_plant_44 rfl ?_
  generalize hI9 : va_up _ m _ = I9
  have e2 : I9 m 2 = nI M := by rw [← hI9]; simp (disch := decide) only [am_up_s, am_up_n]; exact hMo
  have e0 : I9 m 0 = nI 0 := by rw [← hI9]; simp (disch := decide) only [am_up_s, am_up_n]
  refine r_virt (c_plantsAllN m M H x hM e2 hM0 hM20 hH8) lk_X10_541 mc_X10_plantsAll dX10_plant_45 (kM_0 hM) (by decide) rfl rfl (Nat.le_of_ble_eq_true rfl) (Nat.le_of_eq (Nat.zero_add _)) (Nat.le_of_eq (Nat.zero_add _)) (fun _ _ _ _ _ _ h => nomatch h.1) ?_
  rintro v n1 kd1 I1 J1 P1 ⟨h0, g1, g2, g3, g4, hst, hrow, hfr⟩
  cases h0
  subst g1 g2 g3 g4
  simp only [Option.toList, List.cons_append, List.nil_append]
  refine r_iret rfl dX10_plant_48 ?_
  exact ⟨rfl, rfl, rfl, rfl, rfl, by rw [hrow 0 (by decide) (by decide) (by decide) (by decide)]; exact e0⟩

