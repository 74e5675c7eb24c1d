/-! NOTS, ANDS, ORS; the whole expression -/
theorem dX5_readNot_0 : decode cX5_readNot 0 = .ok (.iconst 0, 1) := by decide +kernel
theorem dX5_readNot_1 : decode cX5_readNot 1 = .ok (.istore_n 2, 1) := by decide +kernel
theorem dX5_readNot_2 : decode cX5_readNot 2 = .ok (.iconst 0, 1) := by decide +kernel
theorem dX5_readNot_3 : decode cX5_readNot 3 = .ok (.istore_n 3, 1) := by decide +kernel
theorem dX5_readNot_4 : decode cX5_readNot 4 = .ok (.iload_n 3, 1) := by decide +kernel
theorem dX5_readNot_5 : decode cX5_readNot 5 = .ok (.bipush 6, 2) := by decide +kernel
theorem dX5_readNot_7 : decode cX5_readNot 7 = .ok (.if_icmp .gt 47, 3) := by decide +kernel
theorem dX5_readNot_10 : decode cX5_readNot 10 = .ok (.aload_n 0, 1) := by decide +kernel
theorem dX5_readNot_11 : decode cX5_readNot 11 = .ok (.getfield 35, 3) := by decide +kernel
theorem dX5_readNot_14 : decode cX5_readNot 14 = .ok (.sipush 135, 3) := by decide +kernel
theorem dX5_readNot_17 : decode cX5_readNot 17 = .ok (.if_icmp .ne 37, 3) := by decide +kernel
theorem dX5_readNot_20 : decode cX5_readNot 20 = .ok (.aload_n 0, 1) := by decide +kernel
theorem dX5_readNot_21 : decode cX5_readNot 21 = .ok (.getfield 50, 3) := by decide +kernel
theorem dX5_readNot_24 : decode cX5_readNot 24 = .ok (.ifCond .ne 30, 3) := by decide +kernel
theorem dX5_readNot_27 : decode cX5_readNot 27 = .ok (.iload_n 2, 1) := by decide +kernel
theorem dX5_readNot_28 : decode cX5_readNot 28 = .ok (.bipush 6, 2) := by decide +kernel
theorem dX5_readNot_30 : decode cX5_readNot 30 = .ok (.if_icmp .ne 11, 3) := by decide +kernel
theorem dX5_readNot_33 : decode cX5_readNot 33 = .ok (.aload_n 0, 1) := by decide +kernel
theorem dX5_readNot_34 : decode cX5_readNot 34 = .ok (.iconst 2, 1) := by decide +kernel
theorem dX5_readNot_35 : decode cX5_readNot 35 = .ok (.invokevirtual 82, 3) := by decide +kernel
theorem dX5_readNot_38 : decode cX5_readNot 38 = .ok (.goto 10, 3) := by decide +kernel
theorem dX5_readNot_41 : decode cX5_readNot 41 = .ok (.iinc 2 1, 3) := by decide +kernel
theorem dX5_readNot_44 : decode cX5_readNot 44 = .ok (.aload_n 0, 1) := by decide +kernel
theorem dX5_readNot_45 : decode cX5_readNot 45 = .ok (.invokevirtual 183, 3) := by decide +kernel
theorem dX5_readNot_48 : decode cX5_readNot 48 = .ok (.iinc 3 1, 3) := by decide +kernel
theorem dX5_readNot_51 : decode cX5_readNot 51 = .ok (.goto (-47), 3) := by decide +kernel
theorem dX5_readNot_54 : decode cX5_readNot 54 = .ok (.aload_n 0, 1) := by decide +kernel
theorem dX5_readNot_55 : decode cX5_readNot 55 = .ok (.iload_n 1, 1) := by decide +kernel
theorem dX5_readNot_56 : decode cX5_readNot 56 = .ok (.invokevirtual 192, 3) := by decide +kernel
theorem dX5_readNot_59 : decode cX5_readNot 59 = .ok (.iconst 0, 1) := by decide +kernel
theorem dX5_readNot_60 : decode cX5_readNot 60 = .ok (.istore_n 3, 1) := by decide +kernel
theorem dX5_readNot_61 : decode cX5_readNot 61 = .ok (.iload_n 3, 1) := by decide +kernel
theorem dX5_readNot_62 : decode cX5_readNot 62 = .ok (.iload_n 2, 1) := by decide +kernel
theorem dX5_readNot_63 : decode cX5_readNot 63 = .ok (.if_icmp .ge 19, 3) := by decide +kernel
theorem dX5_readNot_66 : decode cX5_readNot 66 = .ok (.aload_n 0, 1) := by decide +kernel
theorem dX5_readNot_67 : decode cX5_readNot 67 = .ok (.getfield 38, 3) := by decide +kernel
theorem dX5_readNot_70 : decode cX5_readNot 70 = .ok (.sipush 20003, 3) := by decide +kernel
theorem dX5_readNot_73 : decode cX5_readNot 73 = .ok (.invokevirtual 186, 3) := by decide +kernel
theorem dX5_readNot_76 : decode cX5_readNot 76 = .ok (.iinc 3 1, 3) := by decide +kernel
theorem dX5_readNot_79 : decode cX5_readNot 79 = .ok (.goto (-18), 3) := by decide +kernel
theorem dX5_readNot_82 : decode cX5_readNot 82 = .ok (.return_, 1) := by decide +kernel

set_option maxHeartbeats 4000000 in
set_option maxRecDepth 100000 in
theorem wb_X5_readNot (r s l x XL : Nat) (T : RT) (h : Nat) (m : Nat) {n : Nat} {kd : mK} {I : mI} {J : mJ} {P : mP} (D w : Nat) (E : RS → RS) (hD : 3 < D) (hw : w < 6) (hE : ∀ R, rInv T h R → rInv T h (E R)) (hEc : ∀ R, rInv T h R → Ct yX5_readExpression cX5_readExpression 3 none D 0 0 [.ref r, .int (nI (w + 1))] n kd (rI r s l T (R) I) J P (am_is none n kd (rI r s l T (E R) I) J P)) (hm : m ≤ 7) (hB : rOK kd P I r s l x XL T) : ∀ (k i : Nat), i + k = m → ∀ R, rInv T h R → Ru yX5_readNot.cls cX5_readNot 4 none yX5_readNot.name (D + 5) (am_is none n kd (rI r s l T (rCodes (nI 20003) k R) I) J P) 0 0 61 [some (.ref r), some (.int (nI w)), some (.int (nI m)), some (.int (nI i))] [] n kd (rI r s l T (R) I) J P := by
  have hB0 := hB
  obtain ⟨⟨k0, k2, k3, k4⟩, ⟨x0, x2, x3, x4, x8, x9⟩, hS, hL, ⟨o1, o2⟩, ⟨kx, ox, xl⟩, ⟨i1, i5⟩, hT, ⟨t1, t2, t3, t4⟩, hBE, hX, hF⟩ := hB
  intro k
  induction k with
  | zero =>
    intro i hi0 R hi
    have hi1 : i = m := by omega
    subst hi1
    refine r_iload_n dX5_readNot_61 rfl ?_
    refine r_iload_n dX5_readNot_62 rfl ?_
    refine r_icmp_ge (tgt := 82) dX5_readNot_63 (by decide) (fun _ => ?_) (fun hz => absurd (show _ from (by rw [nI_leI (by omega) (by omega)]; omega)) hz)
    refine r_vret rfl dX5_readNot_82 ?_
    exact am_is.mk
  | succ k ih =>
    intro i hi0 R hi
    refine r_iload_n dX5_readNot_61 rfl ?_
    refine r_iload_n dX5_readNot_62 rfl ?_
    refine r_icmp_ge (tgt := 82) dX5_readNot_63 (by decide) (fun hz => absurd hz (show ¬ _ from (by rw [nI_leI (by omega) (by omega)]; omega))) (fun _ => ?_)
    refine r_aload_n dX5_readNot_66 rfl ?_
    refine r_getR dX5_readNot_67 fl_X5_38 rfl (k0) (x8) ?_
    refine r_sipush (v := nI 20003) dX5_readNot_70 (by decide) ?_
    refine r_virtV (c_codeR r s l x XL T (R) h (nI 20003) hB0 hi) lk_X5_186 mc_X7_addCode dX5_readNot_73 hS.1 (by omega) rfl rfl (Nat.le_of_ble_eq_true rfl) ?_
    refine r_iinc (v := nI (i + 1)) dX5_readNot_76 rfl (nI_inc i) ?_
    refine r_goto (tgt := 61) dX5_readNot_79 (by decide) ?_
    exact ih (i + 1) (by omega) (rCode (nI 20003) R) (hi.code _)

set_option maxHeartbeats 4000000 in
set_option maxRecDepth 100000 in
theorem wa_X5_readNot (r s l x XL : Nat) (T : RT) (h : Nat) {n : Nat} {kd : mK} {I : mI} {J : mJ} {P : mP} (D w : Nat) (E : RS → RS) (hD : 3 < D) (hw : w < 6) (hE : ∀ R, rInv T h R → rInv T h (E R)) (hEc : ∀ R, rInv T h R → Ct yX5_readExpression cX5_readExpression 3 none D 0 0 [.ref r, .int (nI (w + 1))] n kd (rI r s l T (R) I) J P (am_is none n kd (rI r s l T (E R) I) J P)) (hB : rOK kd P I r s l x XL T) : ∀ (k i m : Nat), i + k = 7 → m ≤ i → ∀ R, rInv T h R → Ru yX5_readNot.cls cX5_readNot 4 none yX5_readNot.name (D + 5) (am_is none n kd (rI r s l T (rCodes (nI 20003) (rNots T k m R).1 (rTest T h E (rNots T k m R).2)) I) J P) 0 0 4 [some (.ref r), some (.int (nI w)), some (.int (nI m)), some (.int (nI i))] [] n kd (rI r s l T (R) I) J P := by
  have hB0 := hB
  obtain ⟨⟨k0, k2, k3, k4⟩, ⟨x0, x2, x3, x4, x8, x9⟩, hS, hL, ⟨o1, o2⟩, ⟨kx, ox, xl⟩, ⟨i1, i5⟩, hT, ⟨t1, t2, t3, t4⟩, hBE, hX, hF⟩ := hB
  intro k
  induction k with
  | zero =>
    intro i m hi0 hm R hi
    refine r_iload_n dX5_readNot_4 rfl ?_
    refine r_bipush (v := nI 6) dX5_readNot_5 (by decide) ?_
    refine r_icmp_gt (tgt := 54) dX5_readNot_7 (by decide) (fun _ => ?_) (fun hz => absurd (show _ from (by rw [nI_ltI (by omega) (by omega)]; omega)) hz)
    refine r_aload_n dX5_readNot_54 rfl ?_
    refine r_iload_n dX5_readNot_55 rfl ?_
    refine r_virtV (c_X5_readTest r s l x XL T h D w E hD hw hE hEc (R) hB0 hi) lk_X5_192 mc_X5_readTest dX5_readNot_56 k0 (by omega) rfl rfl (Nat.le_of_ble_eq_true rfl) ?_
    refine r_iconst (v := nI 0) dX5_readNot_59 (by decide) ?_
    refine r_istore_n dX5_readNot_60 (by decide) ?_
    exact wb_X5_readNot r s l x XL T h (m) D w E hD hw hE hEc (by omega) hB0 (m) 0 (by omega) _ (rTest_inv hE _ hi)
  | succ k ih =>
    intro i m hi0 hm R hi
    unfold rNots
    by_cases c1 : rk T R = nI 135
    · by_cases c0 : rf R = 0
      · rw [if_pos ⟨c1, c0⟩]
        by_cases c6 : m = 6
        · rw [if_pos c6]
          refine r_iload_n dX5_readNot_4 rfl ?_
          refine r_bipush (v := nI 6) dX5_readNot_5 (by decide) ?_
          refine r_icmp_gt (tgt := 54) dX5_readNot_7 (by decide) (fun hz => absurd hz (show ¬ _ from (by rw [nI_ltI (by omega) (by omega)]; omega))) (fun _ => ?_)
          refine r_aload_n dX5_readNot_10 rfl ?_
          refine r_getI dX5_readNot_11 fl_X5_35 rfl (k0) ?_
          rw [rI_rr _ _ _ o1 o2, show hRow (rk T R) R (I r) 7 = rk T R from rfl]
          refine r_sipush (v := nI 135) dX5_readNot_14 (by decide) ?_
          refine r_icmp_ne (tgt := 54) dX5_readNot_17 (by decide) (fun hz => absurd (show _ from c1) hz) (fun _ => ?_)
          refine r_aload_n dX5_readNot_20 rfl ?_
          refine r_getI dX5_readNot_21 fl_X5_50 rfl (k0) ?_
          rw [rI_rr _ _ _ o1 o2, show hRow (rk T R) R (I r) 11 = rf R from rfl]
          refine r_if_ne (tgt := 54) dX5_readNot_24 (by decide) (fun hz => absurd (show _ from c0) hz) (fun _ => ?_)
          refine r_iload_n dX5_readNot_27 rfl ?_
          refine r_bipush (v := nI 6) dX5_readNot_28 (by decide) ?_
          refine r_icmp_ne (tgt := 41) dX5_readNot_30 (by decide) (fun hz => absurd (show _ from by rw [c6]) hz) (fun _ => ?_)
          refine r_aload_n dX5_readNot_33 rfl ?_
          refine r_iconst (v := nI 2) dX5_readNot_34 (by decide) ?_
          refine r_virtV (c_X5_fail r s l x XL T (R) (nI 2) hB0 hi.1) lk_X5_82 mc_X5_fail dX5_readNot_35 k0 (by omega) rfl rfl (Nat.le_of_ble_eq_true rfl) ?_
          refine r_goto (tgt := 48) dX5_readNot_38 (by decide) ?_
          refine r_iinc (v := nI (i + 1)) dX5_readNot_48 rfl (nI_inc i) ?_
          refine r_goto (tgt := 4) dX5_readNot_51 (by decide) ?_
          exact ih (i + 1) m (by omega) (by omega) (rFail T (nI 2) R) (hi.fail _)
        · rw [if_neg c6]
          refine r_iload_n dX5_readNot_4 rfl ?_
          refine r_bipush (v := nI 6) dX5_readNot_5 (by decide) ?_
          refine r_icmp_gt (tgt := 54) dX5_readNot_7 (by decide) (fun hz => absurd hz (show ¬ _ from (by rw [nI_ltI (by omega) (by omega)]; omega))) (fun _ => ?_)
          refine r_aload_n dX5_readNot_10 rfl ?_
          refine r_getI dX5_readNot_11 fl_X5_35 rfl (k0) ?_
          rw [rI_rr _ _ _ o1 o2, show hRow (rk T R) R (I r) 7 = rk T R from rfl]
          refine r_sipush (v := nI 135) dX5_readNot_14 (by decide) ?_
          refine r_icmp_ne (tgt := 54) dX5_readNot_17 (by decide) (fun hz => absurd (show _ from c1) hz) (fun _ => ?_)
          refine r_aload_n dX5_readNot_20 rfl ?_
          refine r_getI dX5_readNot_21 fl_X5_50 rfl (k0) ?_
          rw [rI_rr _ _ _ o1 o2, show hRow (rk T R) R (I r) 11 = rf R from rfl]
          refine r_if_ne (tgt := 54) dX5_readNot_24 (by decide) (fun hz => absurd (show _ from c0) hz) (fun _ => ?_)
          refine r_iload_n dX5_readNot_27 rfl ?_
          refine r_bipush (v := nI 6) dX5_readNot_28 (by decide) ?_
          refine r_icmp_ne (tgt := 41) dX5_readNot_30 (by decide) (fun _ => ?_) (fun hz => absurd hz (show ¬ _ from by rw [nI_eq (by omega) (by omega)]; exact c6))
          refine r_iinc (v := nI (m + 1)) dX5_readNot_41 rfl (nI_inc m) ?_
          refine r_aload_n dX5_readNot_44 rfl ?_
          refine r_virtV (c_X5_take r s l x XL T (R) h hB0 hi) lk_X5_183 mc_X5_take dX5_readNot_45 k0 (by omega) rfl rfl (Nat.le_of_ble_eq_true rfl) ?_
          refine r_iinc (v := nI (i + 1)) dX5_readNot_48 rfl (nI_inc i) ?_
          refine r_goto (tgt := 4) dX5_readNot_51 (by decide) ?_
          exact ih (i + 1) (m + 1) (by omega) (by omega) (rTake T R) hi.take
      · rw [if_neg (fun z => c0 z.2)]
        refine r_iload_n dX5_readNot_4 rfl ?_
        refine r_bipush (v := nI 6) dX5_readNot_5 (by decide) ?_
        refine r_icmp_gt (tgt := 54) dX5_readNot_7 (by decide) (fun hz => absurd hz (show ¬ _ from (by rw [nI_ltI (by omega) (by omega)]; omega))) (fun _ => ?_)
        refine r_aload_n dX5_readNot_10 rfl ?_
        refine r_getI dX5_readNot_11 fl_X5_35 rfl (k0) ?_
        rw [rI_rr _ _ _ o1 o2, show hRow (rk T R) R (I r) 7 = rk T R from rfl]
        refine r_sipush (v := nI 135) dX5_readNot_14 (by decide) ?_
        refine r_icmp_ne (tgt := 54) dX5_readNot_17 (by decide) (fun hz => absurd (show _ from c1) hz) (fun _ => ?_)
        refine r_aload_n dX5_readNot_20 rfl ?_
        refine r_getI dX5_readNot_21 fl_X5_50 rfl (k0) ?_
        rw [rI_rr _ _ _ o1 o2, show hRow (rk T R) R (I r) 11 = rf R from rfl]
        refine r_if_ne (tgt := 54) dX5_readNot_24 (by decide) (fun _ => ?_) (fun hz => absurd hz (show ¬ _ from c0))
        refine r_aload_n dX5_readNot_54 rfl ?_
        refine r_iload_n dX5_readNot_55 rfl ?_
        refine r_virtV (c_X5_readTest r s l x XL T h D w E hD hw hE hEc (R) hB0 hi) lk_X5_192 mc_X5_readTest dX5_readNot_56 k0 (by omega) rfl rfl (Nat.le_of_ble_eq_true rfl) ?_
        refine r_iconst (v := nI 0) dX5_readNot_59 (by decide) ?_
        refine r_istore_n dX5_readNot_60 (by decide) ?_
        exact wb_X5_readNot r s l x XL T h (m) D w E hD hw hE hEc (by omega) hB0 (m) 0 (by omega) _ (rTest_inv hE _ hi)
    · rw [if_neg (fun z => c1 z.1)]
      refine r_iload_n dX5_readNot_4 rfl ?_
      refine r_bipush (v := nI 6) dX5_readNot_5 (by decide) ?_
      refine r_icmp_gt (tgt := 54) dX5_readNot_7 (by decide) (fun hz => absurd hz (show ¬ _ from (by rw [nI_ltI (by omega) (by omega)]; omega))) (fun _ => ?_)
      refine r_aload_n dX5_readNot_10 rfl ?_
      refine r_getI dX5_readNot_11 fl_X5_35 rfl (k0) ?_
      rw [rI_rr _ _ _ o1 o2, show hRow (rk T R) R (I r) 7 = rk T R from rfl]
      refine r_sipush (v := nI 135) dX5_readNot_14 (by decide) ?_
      refine r_icmp_ne (tgt := 54) dX5_readNot_17 (by decide) (fun _ => ?_) (fun hz => absurd hz (show ¬ _ from c1))
      refine r_aload_n dX5_readNot_54 rfl ?_
      refine r_iload_n dX5_readNot_55 rfl ?_
      refine r_virtV (c_X5_readTest r s l x XL T h D w E hD hw hE hEc (R) hB0 hi) lk_X5_192 mc_X5_readTest dX5_readNot_56 k0 (by omega) rfl rfl (Nat.le_of_ble_eq_true rfl) ?_
      refine r_iconst (v := nI 0) dX5_readNot_59 (by decide) ?_
      refine r_istore_n dX5_readNot_60 (by decide) ?_
      exact wb_X5_readNot r s l x XL T h (m) D w E hD hw hE hEc (by omega) hB0 (m) 0 (by omega) _ (rTest_inv hE _ hi)

set_option maxHeartbeats 4000000 in
set_option maxRecDepth 100000 in
theorem c_X5_readNot (r s l x XL : Nat) (T : RT) (h : Nat) {n : Nat} {kd : mK} {I : mI} {J : mJ} {P : mP} (D w : Nat) (E : RS → RS) (hD : 3 < D) (hw : w < 6) (hE : ∀ R, rInv T h R → rInv T h (E R)) (hEc : ∀ R, rInv T h R → Ct yX5_readExpression cX5_readExpression 3 none D 0 0 [.ref r, .int (nI (w + 1))] n kd (rI r s l T (R) I) J P (am_is none n kd (rI r s l T (E R) I) J P)) (R : RS) (hB : rOK kd P I r s l x XL T) (hi : rInv T h R) : Ct yX5_readNot cX5_readNot 4 none (D + 5) 0 0 [.ref r, .int (nI w)] n kd (rI r s l T (R) I) J P (am_is none n kd (rI r s l T (rNot T h E R) I) J P) := by
  have hB0 := hB
  obtain ⟨⟨k0, k2, k3, k4⟩, ⟨x0, x2, x3, x4, x8, x9⟩, hS, hL, ⟨o1, o2⟩, ⟨kx, ox, xl⟩, ⟨i1, i5⟩, hT, ⟨t1, t2, t3, t4⟩, hBE, hX, hF⟩ := hB
  refine ct_of 2 (by decide +kernel) (Nat.le_of_ble_eq_true rfl) rfl ?_
  refine r_iconst (v := nI 0) dX5_readNot_0 (by decide) ?_
  refine r_istore_n dX5_readNot_1 (by decide) ?_
  refine r_iconst (v := nI 0) dX5_readNot_2 (by decide) ?_
  refine r_istore_n dX5_readNot_3 (by decide) ?_
  exact wa_X5_readNot r s l x XL T h D w E hD hw hE hEc hB0 7 0 0 (by omega) (by omega) R hi

theorem dX5_readBoth_0 : decode cX5_readBoth 0 = .ok (.aload_n 0, 1) := by decide +kernel
theorem dX5_readBoth_1 : decode cX5_readBoth 1 = .ok (.iload_n 1, 1) := by decide +kernel
theorem dX5_readBoth_2 : decode cX5_readBoth 2 = .ok (.invokevirtual 189, 3) := by decide +kernel
theorem dX5_readBoth_5 : decode cX5_readBoth 5 = .ok (.iconst 0, 1) := by decide +kernel
theorem dX5_readBoth_6 : decode cX5_readBoth 6 = .ok (.istore_n 2, 1) := by decide +kernel
theorem dX5_readBoth_7 : decode cX5_readBoth 7 = .ok (.iload_n 2, 1) := by decide +kernel
theorem dX5_readBoth_8 : decode cX5_readBoth 8 = .ok (.sipush 500, 3) := by decide +kernel
theorem dX5_readBoth_11 : decode cX5_readBoth 11 = .ok (.if_icmp .ge 45, 3) := by decide +kernel
theorem dX5_readBoth_14 : decode cX5_readBoth 14 = .ok (.aload_n 0, 1) := by decide +kernel
theorem dX5_readBoth_15 : decode cX5_readBoth 15 = .ok (.getfield 35, 3) := by decide +kernel
theorem dX5_readBoth_18 : decode cX5_readBoth 18 = .ok (.sipush 134, 3) := by decide +kernel
theorem dX5_readBoth_21 : decode cX5_readBoth 21 = .ok (.if_icmp .ne 35, 3) := by decide +kernel
theorem dX5_readBoth_24 : decode cX5_readBoth 24 = .ok (.aload_n 0, 1) := by decide +kernel
theorem dX5_readBoth_25 : decode cX5_readBoth 25 = .ok (.getfield 50, 3) := by decide +kernel
theorem dX5_readBoth_28 : decode cX5_readBoth 28 = .ok (.ifCond .ne 28, 3) := by decide +kernel
theorem dX5_readBoth_31 : decode cX5_readBoth 31 = .ok (.aload_n 0, 1) := by decide +kernel
theorem dX5_readBoth_32 : decode cX5_readBoth 32 = .ok (.invokevirtual 183, 3) := by decide +kernel
theorem dX5_readBoth_35 : decode cX5_readBoth 35 = .ok (.aload_n 0, 1) := by decide +kernel
theorem dX5_readBoth_36 : decode cX5_readBoth 36 = .ok (.iload_n 1, 1) := by decide +kernel
theorem dX5_readBoth_37 : decode cX5_readBoth 37 = .ok (.invokevirtual 189, 3) := by decide +kernel
theorem dX5_readBoth_40 : decode cX5_readBoth 40 = .ok (.aload_n 0, 1) := by decide +kernel
theorem dX5_readBoth_41 : decode cX5_readBoth 41 = .ok (.getfield 38, 3) := by decide +kernel
theorem dX5_readBoth_44 : decode cX5_readBoth 44 = .ok (.sipush 20010, 3) := by decide +kernel
theorem dX5_readBoth_47 : decode cX5_readBoth 47 = .ok (.invokevirtual 186, 3) := by decide +kernel
theorem dX5_readBoth_50 : decode cX5_readBoth 50 = .ok (.iinc 2 1, 3) := by decide +kernel
theorem dX5_readBoth_53 : decode cX5_readBoth 53 = .ok (.goto (-46), 3) := by decide +kernel
theorem dX5_readBoth_56 : decode cX5_readBoth 56 = .ok (.return_, 1) := by decide +kernel

set_option maxHeartbeats 4000000 in
set_option maxRecDepth 100000 in
theorem w_X5_readBoth (r s l x XL : Nat) (T : RT) (h : Nat) {n : Nat} {kd : mK} {I : mI} {J : mJ} {P : mP} (D w : Nat) (E : RS → RS) (hD : 3 < D) (hw : w < 6) (hE : ∀ R, rInv T h R → rInv T h (E R)) (hEc : ∀ R, rInv T h R → Ct yX5_readExpression cX5_readExpression 3 none D 0 0 [.ref r, .int (nI (w + 1))] n kd (rI r s l T (R) I) J P (am_is none n kd (rI r s l T (E R) I) J P)) (hB : rOK kd P I r s l x XL T) : ∀ (k i : Nat), i + k = 500 → ∀ R, rInv T h R → Ru yX5_readBoth.cls cX5_readBoth 3 none yX5_readBoth.name (D + 6) (am_is none n kd (rI r s l T (rLoop T (is1 134) (cd1 20010) (rNot T h E) k R) I) J P) 0 0 7 [some (.ref r), some (.int (nI w)), some (.int (nI i))] [] n kd (rI r s l T (R) I) J P := by
  have hB0 := hB
  obtain ⟨⟨k0, k2, k3, k4⟩, ⟨x0, x2, x3, x4, x8, x9⟩, hS, hL, ⟨o1, o2⟩, ⟨kx, ox, xl⟩, ⟨i1, i5⟩, hT, ⟨t1, t2, t3, t4⟩, hBE, hX, hF⟩ := hB
  intro k
  induction k with
  | zero =>
    intro i hi0 R hi
    have hi1 : i = 500 := by omega
    subst hi1
    refine r_iload_n dX5_readBoth_7 rfl ?_
    refine r_sipush (v := nI 500) dX5_readBoth_8 (by decide) ?_
    refine r_icmp_ge (tgt := 56) dX5_readBoth_11 (by decide) (fun _ => ?_) (fun hz => absurd (show _ from (by rw [nI_leI (by omega) (by omega)]; omega)) hz)
    refine r_vret rfl dX5_readBoth_56 ?_
    exact am_is.mk
  | succ k ih =>
    intro i hi0 R hi
    by_cases c2 : rk T R = nI 134
    · by_cases c0 : rf R = 0
      · skip
        refine r_iload_n dX5_readBoth_7 rfl ?_
        refine r_sipush (v := nI 500) dX5_readBoth_8 (by decide) ?_
        refine r_icmp_ge (tgt := 56) dX5_readBoth_11 (by decide) (fun hz => absurd hz (show ¬ _ from (by rw [nI_leI (by omega) (by omega)]; omega))) (fun _ => ?_)
        refine r_aload_n dX5_readBoth_14 rfl ?_
        refine r_getI dX5_readBoth_15 fl_X5_35 rfl (k0) ?_
        rw [rI_rr _ _ _ o1 o2, show hRow (rk T R) R (I r) 7 = rk T R from rfl]
        refine r_sipush (v := nI 134) dX5_readBoth_18 (by decide) ?_
        refine r_icmp_ne (tgt := 56) dX5_readBoth_21 (by decide) (fun hz => absurd (show _ from c2) hz) (fun _ => ?_)
        refine r_aload_n dX5_readBoth_24 rfl ?_
        refine r_getI dX5_readBoth_25 fl_X5_50 rfl (k0) ?_
        rw [rI_rr _ _ _ o1 o2, show hRow (rk T R) R (I r) 11 = rf R from rfl]
        refine r_if_ne (tgt := 56) dX5_readBoth_28 (by decide) (fun hz => absurd (show _ from c0) hz) (fun _ => ?_)
        refine r_aload_n dX5_readBoth_31 rfl ?_
        refine r_virtV (c_X5_take r s l x XL T (R) h hB0 hi) lk_X5_183 mc_X5_take dX5_readBoth_32 k0 (by omega) rfl rfl (Nat.le_of_ble_eq_true rfl) ?_
        refine r_aload_n dX5_readBoth_35 rfl ?_
        refine r_iload_n dX5_readBoth_36 rfl ?_
        refine r_virtV (c_X5_readNot r s l x XL T h D w E hD hw hE hEc (rTake T R) hB0 hi.take) lk_X5_189 mc_X5_readNot dX5_readBoth_37 k0 (by omega) rfl rfl (Nat.le_of_ble_eq_true rfl) ?_
        refine r_aload_n dX5_readBoth_40 rfl ?_
        refine r_getR dX5_readBoth_41 fl_X5_38 rfl (k0) (x8) ?_
        refine r_sipush (v := nI 20010) dX5_readBoth_44 (by decide) ?_
        refine r_virtV (c_codeR r s l x XL T (rNot T h E (rTake T R)) h (nI 20010) hB0 (rNot_inv hE _ hi.take)) lk_X5_186 mc_X7_addCode dX5_readBoth_47 hS.1 (by omega) rfl rfl (Nat.le_of_ble_eq_true rfl) ?_
        refine r_iinc (v := nI (i + 1)) dX5_readBoth_50 rfl (nI_inc i) ?_
        refine r_goto (tgt := 7) dX5_readBoth_53 (by decide) ?_
        have hn := ih (i + 1) (by omega) (rCode (nI 20010) (rNot T h E (rTake T R))) ((rNot_inv hE _ hi.take).code _)
        unfold rLoop
        rw [if_pos ⟨by simp [is1, c2], c0⟩, show cd1 20010 (rk T R) = nI 20010 from rfl]
        exact hn
      · skip
        unfold rLoop
        rw [if_neg (fun z => c0 z.2)]
        refine r_iload_n dX5_readBoth_7 rfl ?_
        refine r_sipush (v := nI 500) dX5_readBoth_8 (by decide) ?_
        refine r_icmp_ge (tgt := 56) dX5_readBoth_11 (by decide) (fun hz => absurd hz (show ¬ _ from (by rw [nI_leI (by omega) (by omega)]; omega))) (fun _ => ?_)
        refine r_aload_n dX5_readBoth_14 rfl ?_
        refine r_getI dX5_readBoth_15 fl_X5_35 rfl (k0) ?_
        rw [rI_rr _ _ _ o1 o2, show hRow (rk T R) R (I r) 7 = rk T R from rfl]
        refine r_sipush (v := nI 134) dX5_readBoth_18 (by decide) ?_
        refine r_icmp_ne (tgt := 56) dX5_readBoth_21 (by decide) (fun hz => absurd (show _ from c2) hz) (fun _ => ?_)
        refine r_aload_n dX5_readBoth_24 rfl ?_
        refine r_getI dX5_readBoth_25 fl_X5_50 rfl (k0) ?_
        rw [rI_rr _ _ _ o1 o2, show hRow (rk T R) R (I r) 11 = rf R from rfl]
        refine r_if_ne (tgt := 56) dX5_readBoth_28 (by decide) (fun _ => ?_) (fun hz => absurd hz (show ¬ _ from c0))
        refine r_vret rfl dX5_readBoth_56 ?_
        exact am_is.mk
    · skip
      unfold rLoop
      rw [if_neg (fun z => by simp [is1, c2] at z)]
      refine r_iload_n dX5_readBoth_7 rfl ?_
      refine r_sipush (v := nI 500) dX5_readBoth_8 (by decide) ?_
      refine r_icmp_ge (tgt := 56) dX5_readBoth_11 (by decide) (fun hz => absurd hz (show ¬ _ from (by rw [nI_leI (by omega) (by omega)]; omega))) (fun _ => ?_)
      refine r_aload_n dX5_readBoth_14 rfl ?_
      refine r_getI dX5_readBoth_15 fl_X5_35 rfl (k0) ?_
      rw [rI_rr _ _ _ o1 o2, show hRow (rk T R) R (I r) 7 = rk T R from rfl]
      refine r_sipush (v := nI 134) dX5_readBoth_18 (by decide) ?_
      refine r_icmp_ne (tgt := 56) dX5_readBoth_21 (by decide) (fun _ => ?_) (fun hz => absurd hz (show ¬ _ from c2))
      refine r_vret rfl dX5_readBoth_56 ?_
      exact am_is.mk

set_option maxHeartbeats 4000000 in
set_option maxRecDepth 100000 in
theorem c_X5_readBoth (r s l x XL : Nat) (T : RT) (h : Nat) {n : Nat} {kd : mK} {I : mI} {J : mJ} {P : mP} (D w : Nat) (E : RS → RS) (hD : 3 < D) (hw : w < 6) (hE : ∀ R, rInv T h R → rInv T h (E R)) (hEc : ∀ R, rInv T h R → Ct yX5_readExpression cX5_readExpression 3 none D 0 0 [.ref r, .int (nI (w + 1))] n kd (rI r s l T (R) I) J P (am_is none n kd (rI r s l T (E R) I) J P)) (R : RS) (hB : rOK kd P I r s l x XL T) (hi : rInv T h R) : Ct yX5_readBoth cX5_readBoth 3 none (D + 6) 0 0 [.ref r, .int (nI w)] n kd (rI r s l T (R) I) J P (am_is none n kd (rI r s l T (rBoth T h E R) I) J P) := by
  have hB0 := hB
  obtain ⟨⟨k0, k2, k3, k4⟩, ⟨x0, x2, x3, x4, x8, x9⟩, hS, hL, ⟨o1, o2⟩, ⟨kx, ox, xl⟩, ⟨i1, i5⟩, hT, ⟨t1, t2, t3, t4⟩, hBE, hX, hF⟩ := hB
  refine ct_of 1 (by decide +kernel) (Nat.le_of_ble_eq_true rfl) rfl ?_
  refine r_aload_n dX5_readBoth_0 rfl ?_
  refine r_iload_n dX5_readBoth_1 rfl ?_
  refine r_virtV (c_X5_readNot r s l x XL T h D w E hD hw hE hEc (R) hB0 hi) lk_X5_189 mc_X5_readNot dX5_readBoth_2 k0 (by omega) rfl rfl (Nat.le_of_ble_eq_true rfl) ?_
  refine r_iconst (v := nI 0) dX5_readBoth_5 (by decide) ?_
  refine r_istore_n dX5_readBoth_6 (by decide) ?_
  exact w_X5_readBoth r s l x XL T h D w E hD hw hE hEc hB0 500 0 (by omega) _ (rNot_inv hE R hi)

theorem dX5_readExpression_0 : decode cX5_readExpression 0 = .ok (.iload_n 1, 1) := by decide +kernel
theorem dX5_readExpression_1 : decode cX5_readExpression 1 = .ok (.bipush 6, 2) := by decide +kernel
theorem dX5_readExpression_3 : decode cX5_readExpression 3 = .ok (.if_icmp .lt 40, 3) := by decide +kernel
theorem dX5_readExpression_6 : decode cX5_readExpression 6 = .ok (.aload_n 0, 1) := by decide +kernel
theorem dX5_readExpression_7 : decode cX5_readExpression 7 = .ok (.aload_n 0, 1) := by decide +kernel
theorem dX5_readExpression_8 : decode cX5_readExpression 8 = .ok (.getfield 35, 3) := by decide +kernel
theorem dX5_readExpression_11 : decode cX5_readExpression 11 = .ok (.iconst 2, 1) := by decide +kernel
theorem dX5_readExpression_12 : decode cX5_readExpression 12 = .ok (.if_icmp .eq 22, 3) := by decide +kernel
theorem dX5_readExpression_15 : decode cX5_readExpression 15 = .ok (.aload_n 0, 1) := by decide +kernel
theorem dX5_readExpression_16 : decode cX5_readExpression 16 = .ok (.getfield 35, 3) := by decide +kernel
theorem dX5_readExpression_19 : decode cX5_readExpression 19 = .ok (.sipush 128, 3) := by decide +kernel
theorem dX5_readExpression_22 : decode cX5_readExpression 22 = .ok (.if_icmp .ge 12, 3) := by decide +kernel
theorem dX5_readExpression_25 : decode cX5_readExpression 25 = .ok (.aload_n 0, 1) := by decide +kernel
theorem dX5_readExpression_26 : decode cX5_readExpression 26 = .ok (.getfield 35, 3) := by decide +kernel
theorem dX5_readExpression_29 : decode cX5_readExpression 29 = .ok (.bipush 40, 2) := by decide +kernel
theorem dX5_readExpression_31 : decode cX5_readExpression 31 = .ok (.if_icmp .ne 7, 3) := by decide +kernel
theorem dX5_readExpression_34 : decode cX5_readExpression 34 = .ok (.iconst 2, 1) := by decide +kernel
theorem dX5_readExpression_35 : decode cX5_readExpression 35 = .ok (.goto 4, 3) := by decide +kernel
theorem dX5_readExpression_38 : decode cX5_readExpression 38 = .ok (.iconst 1, 1) := by decide +kernel
theorem dX5_readExpression_39 : decode cX5_readExpression 39 = .ok (.invokevirtual 82, 3) := by decide +kernel
theorem dX5_readExpression_42 : decode cX5_readExpression 42 = .ok (.return_, 1) := by decide +kernel
theorem dX5_readExpression_43 : decode cX5_readExpression 43 = .ok (.aload_n 0, 1) := by decide +kernel
theorem dX5_readExpression_44 : decode cX5_readExpression 44 = .ok (.iload_n 1, 1) := by decide +kernel
theorem dX5_readExpression_45 : decode cX5_readExpression 45 = .ok (.invokevirtual 180, 3) := by decide +kernel
theorem dX5_readExpression_48 : decode cX5_readExpression 48 = .ok (.iconst 0, 1) := by decide +kernel
theorem dX5_readExpression_49 : decode cX5_readExpression 49 = .ok (.istore_n 2, 1) := by decide +kernel
theorem dX5_readExpression_50 : decode cX5_readExpression 50 = .ok (.iload_n 2, 1) := by decide +kernel
theorem dX5_readExpression_51 : decode cX5_readExpression 51 = .ok (.sipush 500, 3) := by decide +kernel
theorem dX5_readExpression_54 : decode cX5_readExpression 54 = .ok (.if_icmp .ge 45, 3) := by decide +kernel
theorem dX5_readExpression_57 : decode cX5_readExpression 57 = .ok (.aload_n 0, 1) := by decide +kernel
theorem dX5_readExpression_58 : decode cX5_readExpression 58 = .ok (.getfield 35, 3) := by decide +kernel
theorem dX5_readExpression_61 : decode cX5_readExpression 61 = .ok (.sipush 133, 3) := by decide +kernel
theorem dX5_readExpression_64 : decode cX5_readExpression 64 = .ok (.if_icmp .ne 35, 3) := by decide +kernel
theorem dX5_readExpression_67 : decode cX5_readExpression 67 = .ok (.aload_n 0, 1) := by decide +kernel
theorem dX5_readExpression_68 : decode cX5_readExpression 68 = .ok (.getfield 50, 3) := by decide +kernel
theorem dX5_readExpression_71 : decode cX5_readExpression 71 = .ok (.ifCond .ne 28, 3) := by decide +kernel
theorem dX5_readExpression_74 : decode cX5_readExpression 74 = .ok (.aload_n 0, 1) := by decide +kernel
theorem dX5_readExpression_75 : decode cX5_readExpression 75 = .ok (.invokevirtual 183, 3) := by decide +kernel
theorem dX5_readExpression_78 : decode cX5_readExpression 78 = .ok (.aload_n 0, 1) := by decide +kernel
theorem dX5_readExpression_79 : decode cX5_readExpression 79 = .ok (.iload_n 1, 1) := by decide +kernel
theorem dX5_readExpression_80 : decode cX5_readExpression 80 = .ok (.invokevirtual 180, 3) := by decide +kernel
theorem dX5_readExpression_83 : decode cX5_readExpression 83 = .ok (.aload_n 0, 1) := by decide +kernel
theorem dX5_readExpression_84 : decode cX5_readExpression 84 = .ok (.getfield 38, 3) := by decide +kernel
theorem dX5_readExpression_87 : decode cX5_readExpression 87 = .ok (.sipush 20011, 3) := by decide +kernel
theorem dX5_readExpression_90 : decode cX5_readExpression 90 = .ok (.invokevirtual 186, 3) := by decide +kernel
theorem dX5_readExpression_93 : decode cX5_readExpression 93 = .ok (.iinc 2 1, 3) := by decide +kernel
theorem dX5_readExpression_96 : decode cX5_readExpression 96 = .ok (.goto (-46), 3) := by decide +kernel
theorem dX5_readExpression_99 : decode cX5_readExpression 99 = .ok (.return_, 1) := by decide +kernel

set_option maxHeartbeats 4000000 in
set_option maxRecDepth 100000 in
theorem w_X5_readExpression (r s l x XL : Nat) (T : RT) (h : Nat) {n : Nat} {kd : mK} {I : mI} {J : mJ} {P : mP} (D w : Nat) (E : RS → RS) (hD : 3 < D) (hw : w < 6) (hE : ∀ R, rInv T h R → rInv T h (E R)) (hEc : ∀ R, rInv T h R → Ct yX5_readExpression cX5_readExpression 3 none D 0 0 [.ref r, .int (nI (w + 1))] n kd (rI r s l T (R) I) J P (am_is none n kd (rI r s l T (E R) I) J P)) (hB : rOK kd P I r s l x XL T) : ∀ (k i : Nat), i + k = 500 → ∀ R, rInv T h R → Ru yX5_readExpression.cls cX5_readExpression 3 none yX5_readExpression.name (D + 7) (am_is none n kd (rI r s l T (rLoop T (is1 133) (cd1 20011) (rBoth T h E) k R) I) J P) 0 0 50 [some (.ref r), some (.int (nI w)), some (.int (nI i))] [] n kd (rI r s l T (R) I) J P := by
  have hB0 := hB
  obtain ⟨⟨k0, k2, k3, k4⟩, ⟨x0, x2, x3, x4, x8, x9⟩, hS, hL, ⟨o1, o2⟩, ⟨kx, ox, xl⟩, ⟨i1, i5⟩, hT, ⟨t1, t2, t3, t4⟩, hBE, hX, hF⟩ := hB
  intro k
  induction k with
  | zero =>
    intro i hi0 R hi
    have hi1 : i = 500 := by omega
    subst hi1
    refine r_iload_n dX5_readExpression_50 rfl ?_
    refine r_sipush (v := nI 500) dX5_readExpression_51 (by decide) ?_
    refine r_icmp_ge (tgt := 99) dX5_readExpression_54 (by decide) (fun _ => ?_) (fun hz => absurd (show _ from (by rw [nI_leI (by omega) (by omega)]; omega)) hz)
    refine r_vret rfl dX5_readExpression_99 ?_
    exact am_is.mk
  | succ k ih =>
    intro i hi0 R hi
    by_cases c2 : rk T R = nI 133
    · by_cases c0 : rf R = 0
      · skip
        refine r_iload_n dX5_readExpression_50 rfl ?_
        refine r_sipush (v := nI 500) dX5_readExpression_51 (by decide) ?_
        refine r_icmp_ge (tgt := 99) dX5_readExpression_54 (by decide) (fun hz => absurd hz (show ¬ _ from (by rw [nI_leI (by omega) (by omega)]; omega))) (fun _ => ?_)
        refine r_aload_n dX5_readExpression_57 rfl ?_
        refine r_getI dX5_readExpression_58 fl_X5_35 rfl (k0) ?_
        rw [rI_rr _ _ _ o1 o2, show hRow (rk T R) R (I r) 7 = rk T R from rfl]
        refine r_sipush (v := nI 133) dX5_readExpression_61 (by decide) ?_
        refine r_icmp_ne (tgt := 99) dX5_readExpression_64 (by decide) (fun hz => absurd (show _ from c2) hz) (fun _ => ?_)
        refine r_aload_n dX5_readExpression_67 rfl ?_
        refine r_getI dX5_readExpression_68 fl_X5_50 rfl (k0) ?_
        rw [rI_rr _ _ _ o1 o2, show hRow (rk T R) R (I r) 11 = rf R from rfl]
        refine r_if_ne (tgt := 99) dX5_readExpression_71 (by decide) (fun hz => absurd (show _ from c0) hz) (fun _ => ?_)
        refine r_aload_n dX5_readExpression_74 rfl ?_
        refine r_virtV (c_X5_take r s l x XL T (R) h hB0 hi) lk_X5_183 mc_X5_take dX5_readExpression_75 k0 (by omega) rfl rfl (Nat.le_of_ble_eq_true rfl) ?_
        refine r_aload_n dX5_readExpression_78 rfl ?_
        refine r_iload_n dX5_readExpression_79 rfl ?_
        refine r_virtV (c_X5_readBoth r s l x XL T h D w E hD hw hE hEc (rTake T R) hB0 hi.take) lk_X5_180 mc_X5_readBoth dX5_readExpression_80 k0 (by omega) rfl rfl (Nat.le_of_ble_eq_true rfl) ?_
        refine r_aload_n dX5_readExpression_83 rfl ?_
        refine r_getR dX5_readExpression_84 fl_X5_38 rfl (k0) (x8) ?_
        refine r_sipush (v := nI 20011) dX5_readExpression_87 (by decide) ?_
        refine r_virtV (c_codeR r s l x XL T (rBoth T h E (rTake T R)) h (nI 20011) hB0 (rBoth_inv hE _ hi.take)) lk_X5_186 mc_X7_addCode dX5_readExpression_90 hS.1 (by omega) rfl rfl (Nat.le_of_ble_eq_true rfl) ?_
        refine r_iinc (v := nI (i + 1)) dX5_readExpression_93 rfl (nI_inc i) ?_
        refine r_goto (tgt := 50) dX5_readExpression_96 (by decide) ?_
        have hn := ih (i + 1) (by omega) (rCode (nI 20011) (rBoth T h E (rTake T R))) ((rBoth_inv hE _ hi.take).code _)
        unfold rLoop
        rw [if_pos ⟨by simp [is1, c2], c0⟩, show cd1 20011 (rk T R) = nI 20011 from rfl]
        exact hn
      · skip
        unfold rLoop
        rw [if_neg (fun z => c0 z.2)]
        refine r_iload_n dX5_readExpression_50 rfl ?_
        refine r_sipush (v := nI 500) dX5_readExpression_51 (by decide) ?_
        refine r_icmp_ge (tgt := 99) dX5_readExpression_54 (by decide) (fun hz => absurd hz (show ¬ _ from (by rw [nI_leI (by omega) (by omega)]; omega))) (fun _ => ?_)
        refine r_aload_n dX5_readExpression_57 rfl ?_
        refine r_getI dX5_readExpression_58 fl_X5_35 rfl (k0) ?_
        rw [rI_rr _ _ _ o1 o2, show hRow (rk T R) R (I r) 7 = rk T R from rfl]
        refine r_sipush (v := nI 133) dX5_readExpression_61 (by decide) ?_
        refine r_icmp_ne (tgt := 99) dX5_readExpression_64 (by decide) (fun hz => absurd (show _ from c2) hz) (fun _ => ?_)
        refine r_aload_n dX5_readExpression_67 rfl ?_
        refine r_getI dX5_readExpression_68 fl_X5_50 rfl (k0) ?_
        rw [rI_rr _ _ _ o1 o2, show hRow (rk T R) R (I r) 11 = rf R from rfl]
        refine r_if_ne (tgt := 99) dX5_readExpression_71 (by decide) (fun _ => ?_) (fun hz => absurd hz (show ¬ _ from c0))
        refine r_vret rfl dX5_readExpression_99 ?_
        exact am_is.mk
    · skip
      unfold rLoop
      rw [if_neg (fun z => by simp [is1, c2] at z)]
      refine r_iload_n dX5_readExpression_50 rfl ?_
      refine r_sipush (v := nI 500) dX5_readExpression_51 (by decide) ?_
      refine r_icmp_ge (tgt := 99) dX5_readExpression_54 (by decide) (fun hz => absurd hz (show ¬ _ from (by rw [nI_leI (by omega) (by omega)]; omega))) (fun _ => ?_)
      refine r_aload_n dX5_readExpression_57 rfl ?_
      refine r_getI dX5_readExpression_58 fl_X5_35 rfl (k0) ?_
      rw [rI_rr _ _ _ o1 o2, show hRow (rk T R) R (I r) 7 = rk T R from rfl]
      refine r_sipush (v := nI 133) dX5_readExpression_61 (by decide) ?_
      refine r_icmp_ne (tgt := 99) dX5_readExpression_64 (by decide) (fun _ => ?_) (fun hz => absurd hz (show ¬ _ from c2))
      refine r_vret rfl dX5_readExpression_99 ?_
      exact am_is.mk

set_option maxHeartbeats 4000000 in
set_option maxRecDepth 100000 in
theorem cs_X5_readExpression (r s l x XL : Nat) (T : RT) (h : Nat) {n : Nat} {kd : mK} {I : mI} {J : mJ} {P : mP} (D w : Nat) (E : RS → RS) (hD : 3 < D) (hw : w < 6) (hE : ∀ R, rInv T h R → rInv T h (E R)) (hEc : ∀ R, rInv T h R → Ct yX5_readExpression cX5_readExpression 3 none D 0 0 [.ref r, .int (nI (w + 1))] n kd (rI r s l T (R) I) J P (am_is none n kd (rI r s l T (E R) I) J P)) (R : RS) (hB : rOK kd P I r s l x XL T) (hi : rInv T h R) : Ct yX5_readExpression cX5_readExpression 3 none (D + 7) 0 0 [.ref r, .int (nI w)] n kd (rI r s l T (R) I) J P (am_is none n kd (rI r s l T (rLoop T (is1 133) (cd1 20011) (rBoth T h E) 500 (rBoth T h E R)) I) J P) := by
  have hB0 := hB
  obtain ⟨⟨k0, k2, k3, k4⟩, ⟨x0, x2, x3, x4, x8, x9⟩, hS, hL, ⟨o1, o2⟩, ⟨kx, ox, xl⟩, ⟨i1, i5⟩, hT, ⟨t1, t2, t3, t4⟩, hBE, hX, hF⟩ := hB
  refine ct_of 1 (by decide +kernel) (Nat.le_of_ble_eq_true rfl) rfl ?_
  refine r_iload_n dX5_readExpression_0 rfl ?_
  refine r_bipush (v := nI 6) dX5_readExpression_1 (by decide) ?_
  refine r_icmp_lt (tgt := 43) dX5_readExpression_3 (by decide) (fun _ => ?_) (fun hz => absurd (show _ from (by rw [nI_ltI (by omega) (by omega)]; omega)) hz)
  refine r_aload_n dX5_readExpression_43 rfl ?_
  refine r_iload_n dX5_readExpression_44 rfl ?_
  refine r_virtV (c_X5_readBoth r s l x XL T h D w E hD hw hE hEc (R) hB0 hi) lk_X5_180 mc_X5_readBoth dX5_readExpression_45 k0 (by omega) rfl rfl (Nat.le_of_ble_eq_true rfl) ?_
  refine r_iconst (v := nI 0) dX5_readExpression_48 (by decide) ?_
  refine r_istore_n dX5_readExpression_49 (by decide) ?_
  exact w_X5_readExpression r s l x XL T h D w E hD hw hE hEc hB0 500 0 (by omega) _ (rBoth_inv hE R hi)

set_option maxHeartbeats 4000000 in
set_option maxRecDepth 100000 in
theorem c0_X5_readExpression (r s l x XL : Nat) (T : RT) (h : Nat) {n : Nat} {kd : mK} {I : mI} {J : mJ} {P : mP} (R : RS) (hB : rOK kd P I r s l x XL T) (hi : rInv T h R) : Ct yX5_readExpression cX5_readExpression 3 none (4) 0 0 [.ref r, .int (nI 6)] n kd (rI r s l T (R) I) J P (am_is none n kd (rI r s l T (rExpr T h 0 R) I) J P) := by
  have hB0 := hB
  obtain ⟨⟨k0, k2, k3, k4⟩, ⟨x0, x2, x3, x4, x8, x9⟩, hS, hL, ⟨o1, o2⟩, ⟨kx, ox, xl⟩, ⟨i1, i5⟩, hT, ⟨t1, t2, t3, t4⟩, hBE, hX, hF⟩ := hB
  refine ct_of 1 (by decide +kernel) (Nat.le_of_ble_eq_true rfl) rfl ?_
  unfold rExpr
  by_cases c1 : rk T R = nI 2
  · rw [if_pos (Or.inl c1)]
    refine r_iload_n dX5_readExpression_0 rfl ?_
    refine r_bipush (v := nI 6) dX5_readExpression_1 (by decide) ?_
    refine r_icmp_lt (tgt := 43) dX5_readExpression_3 (by decide) (fun hz => absurd hz (show ¬ _ from (by rw [nI_ltI (by omega) (by omega)]; omega))) (fun _ => ?_)
    refine r_aload_n dX5_readExpression_6 rfl ?_
    refine r_aload_n dX5_readExpression_7 rfl ?_
    refine r_getI dX5_readExpression_8 fl_X5_35 rfl (k0) ?_
    rw [rI_rr _ _ _ o1 o2, show hRow (rk T R) R (I r) 7 = rk T R from rfl]
    refine r_iconst (v := nI 2) dX5_readExpression_11 (by decide) ?_
    refine r_icmp_eq (tgt := 34) dX5_readExpression_12 (by decide) (fun _ => ?_) (fun hz => absurd (show _ from c1) hz)
    refine r_iconst (v := nI 2) dX5_readExpression_34 (by decide) ?_
    refine r_goto (tgt := 39) dX5_readExpression_35 (by decide) ?_
    refine r_virtV (c_X5_fail r s l x XL T (R) (nI 2) hB0 hi.1) lk_X5_82 mc_X5_fail dX5_readExpression_39 k0 (by omega) rfl rfl (Nat.le_of_ble_eq_true rfl) ?_
    refine r_vret rfl dX5_readExpression_42 ?_
    exact am_is.mk
  by_cases c2 : rk T R < nI 128
  · by_cases c3 : rk T R = nI 40
    · rw [if_pos (Or.inr (Or.inr c3))]
      refine r_iload_n dX5_readExpression_0 rfl ?_
      refine r_bipush (v := nI 6) dX5_readExpression_1 (by decide) ?_
      refine r_icmp_lt (tgt := 43) dX5_readExpression_3 (by decide) (fun hz => absurd hz (show ¬ _ from (by rw [nI_ltI (by omega) (by omega)]; omega))) (fun _ => ?_)
      refine r_aload_n dX5_readExpression_6 rfl ?_
      refine r_aload_n dX5_readExpression_7 rfl ?_
      refine r_getI dX5_readExpression_8 fl_X5_35 rfl (k0) ?_
      rw [rI_rr _ _ _ o1 o2, show hRow (rk T R) R (I r) 7 = rk T R from rfl]
      refine r_iconst (v := nI 2) dX5_readExpression_11 (by decide) ?_
      refine r_icmp_eq (tgt := 34) dX5_readExpression_12 (by decide) (fun hz => absurd hz (show ¬ _ from c1)) (fun _ => ?_)
      refine r_aload_n dX5_readExpression_15 rfl ?_
      refine r_getI dX5_readExpression_16 fl_X5_35 rfl (k0) ?_
      rw [rI_rr _ _ _ o1 o2, show hRow (rk T R) R (I r) 7 = rk T R from rfl]
      refine r_sipush (v := nI 128) dX5_readExpression_19 (by decide) ?_
      refine r_icmp_ge (tgt := 34) dX5_readExpression_22 (by decide) (fun hz => absurd hz (show ¬ _ from Int32.not_le.mpr c2)) (fun _ => ?_)
      refine r_aload_n dX5_readExpression_25 rfl ?_
      refine r_getI dX5_readExpression_26 fl_X5_35 rfl (k0) ?_
      rw [rI_rr _ _ _ o1 o2, show hRow (rk T R) R (I r) 7 = rk T R from rfl]
      refine r_bipush (v := nI 40) dX5_readExpression_29 (by decide) ?_
      refine r_icmp_ne (tgt := 38) dX5_readExpression_31 (by decide) (fun hz => absurd (show _ from c3) hz) (fun _ => ?_)
      refine r_iconst (v := nI 2) dX5_readExpression_34 (by decide) ?_
      refine r_goto (tgt := 39) dX5_readExpression_35 (by decide) ?_
      refine r_virtV (c_X5_fail r s l x XL T (R) (nI 2) hB0 hi.1) lk_X5_82 mc_X5_fail dX5_readExpression_39 k0 (by omega) rfl rfl (Nat.le_of_ble_eq_true rfl) ?_
      refine r_vret rfl dX5_readExpression_42 ?_
      exact am_is.mk
    · rw [if_neg (fun z => z.elim c1 (fun z => z.elim (fun z => z c2) c3))]
      refine r_iload_n dX5_readExpression_0 rfl ?_
      refine r_bipush (v := nI 6) dX5_readExpression_1 (by decide) ?_
      refine r_icmp_lt (tgt := 43) dX5_readExpression_3 (by decide) (fun hz => absurd hz (show ¬ _ from (by rw [nI_ltI (by omega) (by omega)]; omega))) (fun _ => ?_)
      refine r_aload_n dX5_readExpression_6 rfl ?_
      refine r_aload_n dX5_readExpression_7 rfl ?_
      refine r_getI dX5_readExpression_8 fl_X5_35 rfl (k0) ?_
      rw [rI_rr _ _ _ o1 o2, show hRow (rk T R) R (I r) 7 = rk T R from rfl]
      refine r_iconst (v := nI 2) dX5_readExpression_11 (by decide) ?_
      refine r_icmp_eq (tgt := 34) dX5_readExpression_12 (by decide) (fun hz => absurd hz (show ¬ _ from c1)) (fun _ => ?_)
      refine r_aload_n dX5_readExpression_15 rfl ?_
      refine r_getI dX5_readExpression_16 fl_X5_35 rfl (k0) ?_
      rw [rI_rr _ _ _ o1 o2, show hRow (rk T R) R (I r) 7 = rk T R from rfl]
      refine r_sipush (v := nI 128) dX5_readExpression_19 (by decide) ?_
      refine r_icmp_ge (tgt := 34) dX5_readExpression_22 (by decide) (fun hz => absurd hz (show ¬ _ from Int32.not_le.mpr c2)) (fun _ => ?_)
      refine r_aload_n dX5_readExpression_25 rfl ?_
      refine r_getI dX5_readExpression_26 fl_X5_35 rfl (k0) ?_
      rw [rI_rr _ _ _ o1 o2, show hRow (rk T R) R (I r) 7 = rk T R from rfl]
      refine r_bipush (v := nI 40) dX5_readExpression_29 (by decide) ?_
      refine r_icmp_ne (tgt := 38) dX5_readExpression_31 (by decide) (fun _ => ?_) (fun hz => absurd hz (show ¬ _ from c3))
      refine r_iconst (v := nI 1) dX5_readExpression_38 (by decide) ?_
      refine r_virtV (c_X5_fail r s l x XL T (R) (nI 1) hB0 hi.1) lk_X5_82 mc_X5_fail dX5_readExpression_39 k0 (by omega) rfl rfl (Nat.le_of_ble_eq_true rfl) ?_
      refine r_vret rfl dX5_readExpression_42 ?_
      exact am_is.mk
  · rw [if_pos (Or.inr (Or.inl c2))]
    refine r_iload_n dX5_readExpression_0 rfl ?_
    refine r_bipush (v := nI 6) dX5_readExpression_1 (by decide) ?_
    refine r_icmp_lt (tgt := 43) dX5_readExpression_3 (by decide) (fun hz => absurd hz (show ¬ _ from (by rw [nI_ltI (by omega) (by omega)]; omega))) (fun _ => ?_)
    refine r_aload_n dX5_readExpression_6 rfl ?_
    refine r_aload_n dX5_readExpression_7 rfl ?_
    refine r_getI dX5_readExpression_8 fl_X5_35 rfl (k0) ?_
    rw [rI_rr _ _ _ o1 o2, show hRow (rk T R) R (I r) 7 = rk T R from rfl]
    refine r_iconst (v := nI 2) dX5_readExpression_11 (by decide) ?_
    refine r_icmp_eq (tgt := 34) dX5_readExpression_12 (by decide) (fun hz => absurd hz (show ¬ _ from c1)) (fun _ => ?_)
    refine r_aload_n dX5_readExpression_15 rfl ?_
    refine r_getI dX5_readExpression_16 fl_X5_35 rfl (k0) ?_
    rw [rI_rr _ _ _ o1 o2, show hRow (rk T R) R (I r) 7 = rk T R from rfl]
    refine r_sipush (v := nI 128) dX5_readExpression_19 (by decide) ?_
    refine r_icmp_ge (tgt := 34) dX5_readExpression_22 (by decide) (fun _ => ?_) (fun hz => absurd (show _ from Int32.not_lt.mp c2) hz)
    refine r_iconst (v := nI 2) dX5_readExpression_34 (by decide) ?_
    refine r_goto (tgt := 39) dX5_readExpression_35 (by decide) ?_
    refine r_virtV (c_X5_fail r s l x XL T (R) (nI 2) hB0 hi.1) lk_X5_82 mc_X5_fail dX5_readExpression_39 k0 (by omega) rfl rfl (Nat.le_of_ble_eq_true rfl) ?_
    refine r_vret rfl dX5_readExpression_42 ?_
    exact am_is.mk

set_option maxHeartbeats 4000000 in
set_option maxRecDepth 100000 in
theorem c_X5_readExpression (r s l x XL : Nat) (T : RT) (h : Nat) {n : Nat} {kd : mK} {I : mI} {J : mJ} {P : mP} (hB : rOK kd P I r s l x XL T) : ∀ (k w : Nat), w + k = 6 → ∀ R, rInv T h R → Ct yX5_readExpression cX5_readExpression 3 none (4 + 7 * k) 0 0 [.ref r, .int (nI w)] n kd (rI r s l T (R) I) J P (am_is none n kd (rI r s l T (rExpr T h k R) I) J P)
  | 0, w, hw, R, hi => by
    have hw6 : w = 6 := by omega
    rw [hw6]
    exact c0_X5_readExpression r s l x XL T h R hB hi
  | k + 1, w, hw, R, hi => cs_X5_readExpression r s l x XL T h (4 + 7 * k) w (rExpr T h k) (by omega) (by omega) (rExpr_inv k) (fun R hi => c_X5_readExpression r s l x XL T h hB k (w + 1) (by omega) R hi) R hB hi
