/-! NUMERALS, CODES OF VALUES -/
theorem rI_s0 {r s l : Nat} (T : RT) (R : RS) (I : mI) : rI r s l T R I s 0 = nI R.2.2.2.2.2.2.1 := by
  obtain ⟨a, fk, fp, mt, so, de, ho, mo, un, ri, cd, tl, lo, co, cf, ct, tx, tf, tt⟩ := R
  exact sI_ho s _
theorem dX5_numeral_0 : decode cX5_numeral 0 = .ok (.aload_n 0, 1) := by decide +kernel
theorem dX5_numeral_1 : decode cX5_numeral 1 = .ok (.getfield 50, 3) := by decide +kernel
theorem dX5_numeral_4 : decode cX5_numeral 4 = .ok (.ifCond .eq 5, 3) := by decide +kernel
theorem dX5_numeral_7 : decode cX5_numeral 7 = .ok (.iload_n 1, 1) := by decide +kernel
theorem dX5_numeral_8 : decode cX5_numeral 8 = .ok (.ireturn, 1) := by decide +kernel
theorem dX5_numeral_9 : decode cX5_numeral 9 = .ok (.aload_n 0, 1) := by decide +kernel
theorem dX5_numeral_10 : decode cX5_numeral 10 = .ok (.getfield 35, 3) := by decide +kernel
theorem dX5_numeral_13 : decode cX5_numeral 13 = .ok (.iconst 2, 1) := by decide +kernel
theorem dX5_numeral_14 : decode cX5_numeral 14 = .ok (.if_icmp .eq 10, 3) := by decide +kernel
theorem dX5_numeral_17 : decode cX5_numeral 17 = .ok (.aload_n 0, 1) := by decide +kernel
theorem dX5_numeral_18 : decode cX5_numeral 18 = .ok (.iconst 1, 1) := by decide +kernel
theorem dX5_numeral_19 : decode cX5_numeral 19 = .ok (.invokevirtual 82, 3) := by decide +kernel
theorem dX5_numeral_22 : decode cX5_numeral 22 = .ok (.iload_n 1, 1) := by decide +kernel
theorem dX5_numeral_23 : decode cX5_numeral 23 = .ok (.ireturn, 1) := by decide +kernel
theorem dX5_numeral_24 : decode cX5_numeral 24 = .ok (.aload_n 0, 1) := by decide +kernel
theorem dX5_numeral_25 : decode cX5_numeral 25 = .ok (.getfield 26, 3) := by decide +kernel
theorem dX5_numeral_28 : decode cX5_numeral 28 = .ok (.aload_n 0, 1) := by decide +kernel
theorem dX5_numeral_29 : decode cX5_numeral 29 = .ok (.getfield 32, 3) := by decide +kernel
theorem dX5_numeral_32 : decode cX5_numeral 32 = .ok (.iaload, 1) := by decide +kernel
theorem dX5_numeral_33 : decode cX5_numeral 33 = .ok (.aload_n 0, 1) := by decide +kernel
theorem dX5_numeral_34 : decode cX5_numeral 34 = .ok (.getfield 23, 3) := by decide +kernel
theorem dX5_numeral_37 : decode cX5_numeral 37 = .ok (.aload_n 0, 1) := by decide +kernel
theorem dX5_numeral_38 : decode cX5_numeral 38 = .ok (.getfield 32, 3) := by decide +kernel
theorem dX5_numeral_41 : decode cX5_numeral 41 = .ok (.iaload, 1) := by decide +kernel
theorem dX5_numeral_42 : decode cX5_numeral 42 = .ok (.isub, 1) := by decide +kernel
theorem dX5_numeral_43 : decode cX5_numeral 43 = .ok (.iconst 4, 1) := by decide +kernel
theorem dX5_numeral_44 : decode cX5_numeral 44 = .ok (.if_icmp .le 10, 3) := by decide +kernel
theorem dX5_numeral_47 : decode cX5_numeral 47 = .ok (.aload_n 0, 1) := by decide +kernel
theorem dX5_numeral_48 : decode cX5_numeral 48 = .ok (.iconst 2, 1) := by decide +kernel
theorem dX5_numeral_49 : decode cX5_numeral 49 = .ok (.invokevirtual 82, 3) := by decide +kernel
theorem dX5_numeral_52 : decode cX5_numeral 52 = .ok (.iload_n 1, 1) := by decide +kernel
theorem dX5_numeral_53 : decode cX5_numeral 53 = .ok (.ireturn, 1) := by decide +kernel
theorem dX5_numeral_54 : decode cX5_numeral 54 = .ok (.iconst 0, 1) := by decide +kernel
theorem dX5_numeral_55 : decode cX5_numeral 55 = .ok (.istore_n 3, 1) := by decide +kernel
theorem dX5_numeral_56 : decode cX5_numeral 56 = .ok (.aload_n 0, 1) := by decide +kernel
theorem dX5_numeral_57 : decode cX5_numeral 57 = .ok (.getfield 23, 3) := by decide +kernel
theorem dX5_numeral_60 : decode cX5_numeral 60 = .ok (.aload_n 0, 1) := by decide +kernel
theorem dX5_numeral_61 : decode cX5_numeral 61 = .ok (.getfield 32, 3) := by decide +kernel
theorem dX5_numeral_64 : decode cX5_numeral 64 = .ok (.iaload, 1) := by decide +kernel
theorem dX5_numeral_65 : decode cX5_numeral 65 = .ok (.istore 4, 2) := by decide +kernel
theorem dX5_numeral_67 : decode cX5_numeral 67 = .ok (.iload 4, 2) := by decide +kernel
theorem dX5_numeral_69 : decode cX5_numeral 69 = .ok (.aload_n 0, 1) := by decide +kernel
theorem dX5_numeral_70 : decode cX5_numeral 70 = .ok (.getfield 26, 3) := by decide +kernel
theorem dX5_numeral_73 : decode cX5_numeral 73 = .ok (.aload_n 0, 1) := by decide +kernel
theorem dX5_numeral_74 : decode cX5_numeral 74 = .ok (.getfield 32, 3) := by decide +kernel
theorem dX5_numeral_77 : decode cX5_numeral 77 = .ok (.iaload, 1) := by decide +kernel
theorem dX5_numeral_78 : decode cX5_numeral 78 = .ok (.if_icmp .ge 34, 3) := by decide +kernel
theorem dX5_numeral_81 : decode cX5_numeral 81 = .ok (.iload 4, 2) := by decide +kernel
theorem dX5_numeral_83 : decode cX5_numeral 83 = .ok (.aload_n 0, 1) := by decide +kernel
theorem dX5_numeral_84 : decode cX5_numeral 84 = .ok (.getfield 15, 3) := by decide +kernel
theorem dX5_numeral_87 : decode cX5_numeral 87 = .ok (.if_icmp .ge 25, 3) := by decide +kernel
theorem dX5_numeral_90 : decode cX5_numeral 90 = .ok (.bipush 10, 2) := by decide +kernel
theorem dX5_numeral_92 : decode cX5_numeral 92 = .ok (.iload_n 3, 1) := by decide +kernel
theorem dX5_numeral_93 : decode cX5_numeral 93 = .ok (.imul, 1) := by decide +kernel
theorem dX5_numeral_94 : decode cX5_numeral 94 = .ok (.aload_n 0, 1) := by decide +kernel
theorem dX5_numeral_95 : decode cX5_numeral 95 = .ok (.getfield 9, 3) := by decide +kernel
theorem dX5_numeral_98 : decode cX5_numeral 98 = .ok (.iload 4, 2) := by decide +kernel
theorem dX5_numeral_100 : decode cX5_numeral 100 = .ok (.baload, 1) := by decide +kernel
theorem dX5_numeral_101 : decode cX5_numeral 101 = .ok (.iadd, 1) := by decide +kernel
theorem dX5_numeral_102 : decode cX5_numeral 102 = .ok (.bipush 48, 2) := by decide +kernel
theorem dX5_numeral_104 : decode cX5_numeral 104 = .ok (.isub, 1) := by decide +kernel
theorem dX5_numeral_105 : decode cX5_numeral 105 = .ok (.istore_n 3, 1) := by decide +kernel
theorem dX5_numeral_106 : decode cX5_numeral 106 = .ok (.iinc 4 1, 3) := by decide +kernel
theorem dX5_numeral_109 : decode cX5_numeral 109 = .ok (.goto (-42), 3) := by decide +kernel
theorem dX5_numeral_112 : decode cX5_numeral 112 = .ok (.iload_n 3, 1) := by decide +kernel
theorem dX5_numeral_113 : decode cX5_numeral 113 = .ok (.iload_n 1, 1) := by decide +kernel
theorem dX5_numeral_114 : decode cX5_numeral 114 = .ok (.if_icmp .lt 8, 3) := by decide +kernel
theorem dX5_numeral_117 : decode cX5_numeral 117 = .ok (.iload_n 3, 1) := by decide +kernel
theorem dX5_numeral_118 : decode cX5_numeral 118 = .ok (.iload_n 2, 1) := by decide +kernel
theorem dX5_numeral_119 : decode cX5_numeral 119 = .ok (.if_icmp .le 10, 3) := by decide +kernel
theorem dX5_numeral_122 : decode cX5_numeral 122 = .ok (.aload_n 0, 1) := by decide +kernel
theorem dX5_numeral_123 : decode cX5_numeral 123 = .ok (.iconst 2, 1) := by decide +kernel
theorem dX5_numeral_124 : decode cX5_numeral 124 = .ok (.invokevirtual 82, 3) := by decide +kernel
theorem dX5_numeral_127 : decode cX5_numeral 127 = .ok (.iload_n 1, 1) := by decide +kernel
theorem dX5_numeral_128 : decode cX5_numeral 128 = .ok (.ireturn, 1) := by decide +kernel
theorem dX5_numeral_129 : decode cX5_numeral 129 = .ok (.iload_n 3, 1) := by decide +kernel
theorem dX5_numeral_130 : decode cX5_numeral 130 = .ok (.ireturn, 1) := by decide +kernel

set_option maxHeartbeats 4000000 in
set_option maxRecDepth 100000 in
theorem w_X5_numeral (r s l x XL : Nat) (T : RT) (R : RS) (lo hi : Int32) {n : Nat} {kd : mK} {I : mI} {J : mJ} {P : mP} (hB : rOK kd P I r s l x XL T) (ha : R.1 < T.2.1) (g1 : rf R = 0) (g2 : rk T R = nI 2) (g3 : ¬ 4 < T.2.2.2.2.1 R.1 - T.2.2.2.1 R.1) : ∀ (k i : Nat), i + k = T.2.2.2.2.1 R.1 - T.2.2.2.1 R.1 → Ru yX5_numeral.cls cX5_numeral 5 (some .int) yX5_numeral.name 2 (am_is (some (.int (rNumV T lo hi R))) n kd (rI r s l T (rNumR T lo hi R) I) J P) 0 0 67 [some (.ref r), some (.int lo), some (.int hi), some (.int (nv T.2.2.2.2.2 (T.2.2.2.1 R.1) i)), some (.int (nI (T.2.2.2.1 R.1 + i)))] [] n kd (rI r s l T (R) I) J P := by
  have hB0 := hB
  obtain ⟨⟨k0, k2, k3, k4⟩, ⟨x0, x2, x3, x4, x8, x9⟩, hS, hL, ⟨o1, o2⟩, ⟨kx, ox, xl⟩, ⟨i1, i5⟩, hT, ⟨t1, t2, t3, t4⟩, hBE, hX, hF⟩ := hB
  have hbe := hBE R.1 ha
  intro k
  induction k with
  | zero =>
    intro i hi0
    have hi1 : i = T.2.2.2.2.1 R.1 - T.2.2.2.1 R.1 := by omega
    subst hi1
    by_cases v1 : nv T.2.2.2.2.2 (T.2.2.2.1 R.1) (T.2.2.2.2.1 R.1 - T.2.2.2.1 R.1) < lo
    · skip
      have V0 : rNumV T lo hi R = lo := by
        unfold rNumV; rw [if_neg (fun z => z g1), if_neg (fun z => z g2), if_neg g3, if_pos (Or.inl v1)]
      have W0 : rNumR T lo hi R = rFail T (nI 2) R := by
        unfold rNumR; rw [if_neg (fun z => z g1), if_neg (fun z => z g2), if_neg g3, if_pos (Or.inl v1)]
      refine r_iload dX5_numeral_67 rfl ?_
      refine r_aload_n dX5_numeral_69 rfl ?_
      refine r_getR dX5_numeral_70 fl_X5_26 rfl (k0) (x4) ?_
      refine r_aload_n dX5_numeral_73 rfl ?_
      refine r_getI dX5_numeral_74 fl_X5_32 rfl (k0) ?_
      rw [rI_rr _ _ _ o1 o2, show hRow (rk T R) R (I r) 6 = nI R.1 from rfl]
      refine r_iald dX5_numeral_77 (k4) (nI_in8 501 (by omega) (by decide)) (nI_clamp (by omega)) ?_
      rw [rI_ne _ _ _ (Or.inr (by omega)) o1 o2, (hT _ (by omega)).2.2]
      refine r_icmp_ge (tgt := 112) dX5_numeral_78 (by decide) (fun _ => ?_) (fun hz => absurd (show _ from (by rw [nI_leI (by omega) (by omega)]; omega)) hz)
      refine r_iload_n dX5_numeral_112 rfl ?_
      refine r_iload_n dX5_numeral_113 rfl ?_
      refine r_icmp_lt (tgt := 122) dX5_numeral_114 (by decide) (fun _ => ?_) (fun hz => absurd (show _ from v1) hz)
      refine r_aload_n dX5_numeral_122 rfl ?_
      refine r_iconst (v := nI 2) dX5_numeral_123 (by decide) ?_
      refine r_virtV (c_X5_fail r s l x XL T R (nI 2) hB0 ha) lk_X5_82 mc_X5_fail dX5_numeral_124 k0 (by decide) rfl rfl (Nat.le_of_ble_eq_true rfl) ?_
      refine r_iload_n dX5_numeral_127 rfl ?_
      refine r_iret rfl dX5_numeral_128 ?_
      rw [V0, W0]
      exact am_is.mk
    · by_cases v2 : hi < nv T.2.2.2.2.2 (T.2.2.2.1 R.1) (T.2.2.2.2.1 R.1 - T.2.2.2.1 R.1)
      · skip
        have V0 : rNumV T lo hi R = lo := by
          unfold rNumV; rw [if_neg (fun z => z g1), if_neg (fun z => z g2), if_neg g3, if_pos (Or.inr v2)]
        have W0 : rNumR T lo hi R = rFail T (nI 2) R := by
          unfold rNumR; rw [if_neg (fun z => z g1), if_neg (fun z => z g2), if_neg g3, if_pos (Or.inr v2)]
        refine r_iload dX5_numeral_67 rfl ?_
        refine r_aload_n dX5_numeral_69 rfl ?_
        refine r_getR dX5_numeral_70 fl_X5_26 rfl (k0) (x4) ?_
        refine r_aload_n dX5_numeral_73 rfl ?_
        refine r_getI dX5_numeral_74 fl_X5_32 rfl (k0) ?_
        rw [rI_rr _ _ _ o1 o2, show hRow (rk T R) R (I r) 6 = nI R.1 from rfl]
        refine r_iald dX5_numeral_77 (k4) (nI_in8 501 (by omega) (by decide)) (nI_clamp (by omega)) ?_
        rw [rI_ne _ _ _ (Or.inr (by omega)) o1 o2, (hT _ (by omega)).2.2]
        refine r_icmp_ge (tgt := 112) dX5_numeral_78 (by decide) (fun _ => ?_) (fun hz => absurd (show _ from (by rw [nI_leI (by omega) (by omega)]; omega)) hz)
        refine r_iload_n dX5_numeral_112 rfl ?_
        refine r_iload_n dX5_numeral_113 rfl ?_
        refine r_icmp_lt (tgt := 122) dX5_numeral_114 (by decide) (fun hz => absurd hz (show ¬ _ from v1)) (fun _ => ?_)
        refine r_iload_n dX5_numeral_117 rfl ?_
        refine r_iload_n dX5_numeral_118 rfl ?_
        refine r_icmp_le (tgt := 129) dX5_numeral_119 (by decide) (fun hz => absurd hz (show ¬ _ from Int32.not_le.mpr v2)) (fun _ => ?_)
        refine r_aload_n dX5_numeral_122 rfl ?_
        refine r_iconst (v := nI 2) dX5_numeral_123 (by decide) ?_
        refine r_virtV (c_X5_fail r s l x XL T R (nI 2) hB0 ha) lk_X5_82 mc_X5_fail dX5_numeral_124 k0 (by decide) rfl rfl (Nat.le_of_ble_eq_true rfl) ?_
        refine r_iload_n dX5_numeral_127 rfl ?_
        refine r_iret rfl dX5_numeral_128 ?_
        rw [V0, W0]
        exact am_is.mk
      · skip
        have V0 : rNumV T lo hi R = nv T.2.2.2.2.2 (T.2.2.2.1 R.1) (T.2.2.2.2.1 R.1 - T.2.2.2.1 R.1) := by
          unfold rNumV; rw [if_neg (fun z => z g1), if_neg (fun z => z g2), if_neg g3, if_neg (fun z => z.elim v1 v2)]
        have W0 : rNumR T lo hi R = R := by
          unfold rNumR; rw [if_neg (fun z => z g1), if_neg (fun z => z g2), if_neg g3, if_neg (fun z => z.elim v1 v2)]
        refine r_iload dX5_numeral_67 rfl ?_
        refine r_aload_n dX5_numeral_69 rfl ?_
        refine r_getR dX5_numeral_70 fl_X5_26 rfl (k0) (x4) ?_
        refine r_aload_n dX5_numeral_73 rfl ?_
        refine r_getI dX5_numeral_74 fl_X5_32 rfl (k0) ?_
        rw [rI_rr _ _ _ o1 o2, show hRow (rk T R) R (I r) 6 = nI R.1 from rfl]
        refine r_iald dX5_numeral_77 (k4) (nI_in8 501 (by omega) (by decide)) (nI_clamp (by omega)) ?_
        rw [rI_ne _ _ _ (Or.inr (by omega)) o1 o2, (hT _ (by omega)).2.2]
        refine r_icmp_ge (tgt := 112) dX5_numeral_78 (by decide) (fun _ => ?_) (fun hz => absurd (show _ from (by rw [nI_leI (by omega) (by omega)]; omega)) hz)
        refine r_iload_n dX5_numeral_112 rfl ?_
        refine r_iload_n dX5_numeral_113 rfl ?_
        refine r_icmp_lt (tgt := 122) dX5_numeral_114 (by decide) (fun hz => absurd hz (show ¬ _ from v1)) (fun _ => ?_)
        refine r_iload_n dX5_numeral_117 rfl ?_
        refine r_iload_n dX5_numeral_118 rfl ?_
        refine r_icmp_le (tgt := 129) dX5_numeral_119 (by decide) (fun _ => ?_) (fun hz => absurd (show _ from Int32.not_lt.mp v2) hz)
        refine r_iload_n dX5_numeral_129 rfl ?_
        refine r_iret rfl dX5_numeral_130 ?_
        rw [V0, W0]
        exact am_is.mk
  | succ k ih =>
    intro i hi0
    refine r_iload dX5_numeral_67 rfl ?_
    refine r_aload_n dX5_numeral_69 rfl ?_
    refine r_getR dX5_numeral_70 fl_X5_26 rfl (k0) (x4) ?_
    refine r_aload_n dX5_numeral_73 rfl ?_
    refine r_getI dX5_numeral_74 fl_X5_32 rfl (k0) ?_
    rw [rI_rr _ _ _ o1 o2, show hRow (rk T R) R (I r) 6 = nI R.1 from rfl]
    refine r_iald dX5_numeral_77 (k4) (nI_in8 501 (by omega) (by decide)) (nI_clamp (by omega)) ?_
    rw [rI_ne _ _ _ (Or.inr (by omega)) o1 o2, (hT _ (by omega)).2.2]
    refine r_icmp_ge (tgt := 112) dX5_numeral_78 (by decide) (fun hz => absurd hz (show ¬ _ from (by rw [nI_leI (by omega) (by omega)]; omega))) (fun _ => ?_)
    refine r_iload dX5_numeral_81 rfl ?_
    refine r_aload_n dX5_numeral_83 rfl ?_
    refine r_getI dX5_numeral_84 fl_X5_15 rfl (k0) ?_
    rw [rI_rr _ _ _ o1 o2, show hRow _ _ _ 1 = _ from i1]
    refine r_icmp_ge (tgt := 112) dX5_numeral_87 (by decide) (fun hz => absurd hz (show ¬ _ from (by rw [nI_leI (by omega) (by omega)]; omega))) (fun _ => ?_)
    refine r_bipush (v := nI 10) dX5_numeral_90 (by decide) ?_
    refine r_iload_n dX5_numeral_92 rfl ?_
    refine r_imul dX5_numeral_93 ?_
    refine r_aload_n dX5_numeral_94 rfl ?_
    refine r_getR dX5_numeral_95 fl_X5_9 rfl (k0) (x0) ?_
    refine r_iload dX5_numeral_98 rfl ?_
    refine r_bald dX5_numeral_100 kx (nI_in8 XL (by omega) (by omega)) (nI_clamp (by omega)) ?_
    rw [rI_ne _ _ _ (by omega) o1 o2, hX]
    refine r_iadd dX5_numeral_101 ?_
    refine r_bipush (v := nI 48) dX5_numeral_102 (by decide) ?_
    refine r_isub dX5_numeral_104 ?_
    refine r_istore_n dX5_numeral_105 (by decide) ?_
    refine r_iinc (v := nI (T.2.2.2.1 R.1 + i + 1)) dX5_numeral_106 rfl (nI_inc _) ?_
    refine r_goto (tgt := 67) dX5_numeral_109 (by decide) ?_
    exact ih (i + 1) (by omega)

set_option maxHeartbeats 4000000 in
set_option maxRecDepth 100000 in
theorem c_X5_numeral (r s l x XL : Nat) (T : RT) (R : RS) (lo hi : Int32) {n : Nat} {kd : mK} {I : mI} {J : mJ} {P : mP} (hB : rOK kd P I r s l x XL T) (ha : R.1 < T.2.1) : Ct yX5_numeral cX5_numeral 5 (some .int) 2 0 0 [.ref r, .int lo, .int hi] n kd (rI r s l T (R) I) J P (am_is (some (.int (rNumV T lo hi R))) n kd (rI r s l T (rNumR T lo hi R) I) J P) := by
  have hB0 := hB
  obtain ⟨⟨k0, k2, k3, k4⟩, ⟨x0, x2, x3, x4, x8, x9⟩, hS, hL, ⟨o1, o2⟩, ⟨kx, ox, xl⟩, ⟨i1, i5⟩, hT, ⟨t1, t2, t3, t4⟩, hBE, hX, hF⟩ := hB
  have hbe := hBE R.1 ha
  refine ct_of 2 (by decide +kernel) (Nat.le_of_ble_eq_true rfl) rfl ?_
  by_cases g1 : rf R = 0
  · by_cases g2 : rk T R = nI 2
    · by_cases g3 : 4 < T.2.2.2.2.1 R.1 - T.2.2.2.1 R.1
      · skip
        have V0 : rNumV T lo hi R = lo := by
          unfold rNumV; rw [if_neg (fun z => z g1), if_neg (fun z => z g2), if_pos g3]
        have W0 : rNumR T lo hi R = rFail T (nI 2) R := by
          unfold rNumR; rw [if_neg (fun z => z g1), if_neg (fun z => z g2), if_pos g3]
        refine r_aload_n dX5_numeral_0 rfl ?_
        refine r_getI dX5_numeral_1 fl_X5_50 rfl (k0) ?_
        rw [rI_rr _ _ _ o1 o2, show hRow (rk T R) R (I r) 11 = rf R from rfl]
        refine r_if_eq (tgt := 9) dX5_numeral_4 (by decide) (fun _ => ?_) (fun hz => absurd (show _ from g1) hz)
        refine r_aload_n dX5_numeral_9 rfl ?_
        refine r_getI dX5_numeral_10 fl_X5_35 rfl (k0) ?_
        rw [rI_rr _ _ _ o1 o2, show hRow (rk T R) R (I r) 7 = rk T R from rfl]
        refine r_iconst (v := nI 2) dX5_numeral_13 (by decide) ?_
        refine r_icmp_eq (tgt := 24) dX5_numeral_14 (by decide) (fun _ => ?_) (fun hz => absurd (show _ from g2) hz)
        refine r_aload_n dX5_numeral_24 rfl ?_
        refine r_getR dX5_numeral_25 fl_X5_26 rfl (k0) (x4) ?_
        refine r_aload_n dX5_numeral_28 rfl ?_
        refine r_getI dX5_numeral_29 fl_X5_32 rfl (k0) ?_
        rw [rI_rr _ _ _ o1 o2, show hRow (rk T R) R (I r) 6 = nI R.1 from rfl]
        refine r_iald dX5_numeral_32 (k4) (nI_in8 501 (by omega) (by decide)) (nI_clamp (by omega)) ?_
        rw [rI_ne _ _ _ (Or.inr (by omega)) o1 o2, (hT _ (by omega)).2.2]
        refine r_aload_n dX5_numeral_33 rfl ?_
        refine r_getR dX5_numeral_34 fl_X5_23 rfl (k0) (x3) ?_
        refine r_aload_n dX5_numeral_37 rfl ?_
        refine r_getI dX5_numeral_38 fl_X5_32 rfl (k0) ?_
        rw [rI_rr _ _ _ o1 o2, show hRow (rk T R) R (I r) 6 = nI R.1 from rfl]
        refine r_iald dX5_numeral_41 (k3) (nI_in8 501 (by omega) (by decide)) (nI_clamp (by omega)) ?_
        rw [rI_ne _ _ _ (Or.inr (by omega)) o1 o2, (hT _ (by omega)).2.1]
        refine r_isub dX5_numeral_42 ?_
        rw [pk_sub (by omega)]
        refine r_iconst (v := nI 4) dX5_numeral_43 (by decide) ?_
        refine r_icmp_le (tgt := 54) dX5_numeral_44 (by decide) (fun hz => absurd hz (show ¬ _ from (by rw [nI_leI (by omega) (by omega)]; omega))) (fun _ => ?_)
        refine r_aload_n dX5_numeral_47 rfl ?_
        refine r_iconst (v := nI 2) dX5_numeral_48 (by decide) ?_
        refine r_virtV (c_X5_fail r s l x XL T R (nI 2) hB0 ha) lk_X5_82 mc_X5_fail dX5_numeral_49 k0 (by decide) rfl rfl (Nat.le_of_ble_eq_true rfl) ?_
        refine r_iload_n dX5_numeral_52 rfl ?_
        refine r_iret rfl dX5_numeral_53 ?_
        rw [V0, W0]
        exact am_is.mk
      · skip
        refine r_aload_n dX5_numeral_0 rfl ?_
        refine r_getI dX5_numeral_1 fl_X5_50 rfl (k0) ?_
        rw [rI_rr _ _ _ o1 o2, show hRow (rk T R) R (I r) 11 = rf R from rfl]
        refine r_if_eq (tgt := 9) dX5_numeral_4 (by decide) (fun _ => ?_) (fun hz => absurd (show _ from g1) hz)
        refine r_aload_n dX5_numeral_9 rfl ?_
        refine r_getI dX5_numeral_10 fl_X5_35 rfl (k0) ?_
        rw [rI_rr _ _ _ o1 o2, show hRow (rk T R) R (I r) 7 = rk T R from rfl]
        refine r_iconst (v := nI 2) dX5_numeral_13 (by decide) ?_
        refine r_icmp_eq (tgt := 24) dX5_numeral_14 (by decide) (fun _ => ?_) (fun hz => absurd (show _ from g2) hz)
        refine r_aload_n dX5_numeral_24 rfl ?_
        refine r_getR dX5_numeral_25 fl_X5_26 rfl (k0) (x4) ?_
        refine r_aload_n dX5_numeral_28 rfl ?_
        refine r_getI dX5_numeral_29 fl_X5_32 rfl (k0) ?_
        rw [rI_rr _ _ _ o1 o2, show hRow (rk T R) R (I r) 6 = nI R.1 from rfl]
        refine r_iald dX5_numeral_32 (k4) (nI_in8 501 (by omega) (by decide)) (nI_clamp (by omega)) ?_
        rw [rI_ne _ _ _ (Or.inr (by omega)) o1 o2, (hT _ (by omega)).2.2]
        refine r_aload_n dX5_numeral_33 rfl ?_
        refine r_getR dX5_numeral_34 fl_X5_23 rfl (k0) (x3) ?_
        refine r_aload_n dX5_numeral_37 rfl ?_
        refine r_getI dX5_numeral_38 fl_X5_32 rfl (k0) ?_
        rw [rI_rr _ _ _ o1 o2, show hRow (rk T R) R (I r) 6 = nI R.1 from rfl]
        refine r_iald dX5_numeral_41 (k3) (nI_in8 501 (by omega) (by decide)) (nI_clamp (by omega)) ?_
        rw [rI_ne _ _ _ (Or.inr (by omega)) o1 o2, (hT _ (by omega)).2.1]
        refine r_isub dX5_numeral_42 ?_
        rw [pk_sub (by omega)]
        refine r_iconst (v := nI 4) dX5_numeral_43 (by decide) ?_
        refine r_icmp_le (tgt := 54) dX5_numeral_44 (by decide) (fun _ => ?_) (fun hz => absurd (show _ from (by rw [nI_leI (by omega) (by omega)]; omega)) hz)
        refine r_iconst (v := nI 0) dX5_numeral_54 (by decide) ?_
        refine r_istore_n dX5_numeral_55 (by decide) ?_
        refine r_aload_n dX5_numeral_56 rfl ?_
        refine r_getR dX5_numeral_57 fl_X5_23 rfl (k0) (x3) ?_
        refine r_aload_n dX5_numeral_60 rfl ?_
        refine r_getI dX5_numeral_61 fl_X5_32 rfl (k0) ?_
        rw [rI_rr _ _ _ o1 o2, show hRow (rk T R) R (I r) 6 = nI R.1 from rfl]
        refine r_iald dX5_numeral_64 (k3) (nI_in8 501 (by omega) (by decide)) (nI_clamp (by omega)) ?_
        rw [rI_ne _ _ _ (Or.inr (by omega)) o1 o2, (hT _ (by omega)).2.1]
        refine r_istore dX5_numeral_65 (by decide) ?_
        exact w_X5_numeral r s l x XL T R lo hi hB0 ha g1 g2 g3 (T.2.2.2.2.1 R.1 - T.2.2.2.1 R.1) 0 (by omega)
    · skip
      have V0 : rNumV T lo hi R = lo := by
        unfold rNumV; rw [if_neg (fun z => z g1), if_pos g2]
      have W0 : rNumR T lo hi R = rFail T (nI 1) R := by
        unfold rNumR; rw [if_neg (fun z => z g1), if_pos g2]
      refine r_aload_n dX5_numeral_0 rfl ?_
      refine r_getI dX5_numeral_1 fl_X5_50 rfl (k0) ?_
      rw [rI_rr _ _ _ o1 o2, show hRow (rk T R) R (I r) 11 = rf R from rfl]
      refine r_if_eq (tgt := 9) dX5_numeral_4 (by decide) (fun _ => ?_) (fun hz => absurd (show _ from g1) hz)
      refine r_aload_n dX5_numeral_9 rfl ?_
      refine r_getI dX5_numeral_10 fl_X5_35 rfl (k0) ?_
      rw [rI_rr _ _ _ o1 o2, show hRow (rk T R) R (I r) 7 = rk T R from rfl]
      refine r_iconst (v := nI 2) dX5_numeral_13 (by decide) ?_
      refine r_icmp_eq (tgt := 24) dX5_numeral_14 (by decide) (fun hz => absurd hz (show ¬ _ from g2)) (fun _ => ?_)
      refine r_aload_n dX5_numeral_17 rfl ?_
      refine r_iconst (v := nI 1) dX5_numeral_18 (by decide) ?_
      refine r_virtV (c_X5_fail r s l x XL T R (nI 1) hB0 ha) lk_X5_82 mc_X5_fail dX5_numeral_19 k0 (by decide) rfl rfl (Nat.le_of_ble_eq_true rfl) ?_
      refine r_iload_n dX5_numeral_22 rfl ?_
      refine r_iret rfl dX5_numeral_23 ?_
      rw [V0, W0]
      exact am_is.mk
  · skip
    have V0 : rNumV T lo hi R = lo := by
      unfold rNumV; rw [if_pos g1]
    have W0 : rNumR T lo hi R = R := by
      unfold rNumR; rw [if_pos g1]
    refine r_aload_n dX5_numeral_0 rfl ?_
    refine r_getI dX5_numeral_1 fl_X5_50 rfl (k0) ?_
    rw [rI_rr _ _ _ o1 o2, show hRow (rk T R) R (I r) 11 = rf R from rfl]
    refine r_if_eq (tgt := 9) dX5_numeral_4 (by decide) (fun hz => absurd hz (show ¬ _ from g1)) (fun _ => ?_)
    refine r_iload_n dX5_numeral_7 rfl ?_
    refine r_iret rfl dX5_numeral_8 ?_
    rw [V0, W0]
    exact am_is.mk

theorem dX5_codeOfValue_0 : decode cX5_codeOfValue 0 = .ok (.aload_n 0, 1) := by decide +kernel
theorem dX5_codeOfValue_1 : decode cX5_codeOfValue 1 = .ok (.getfield 38, 3) := by decide +kernel
theorem dX5_codeOfValue_4 : decode cX5_codeOfValue 4 = .ok (.getfield 162, 3) := by decide +kernel
theorem dX5_codeOfValue_7 : decode cX5_codeOfValue 7 = .ok (.iconst 1, 1) := by decide +kernel
theorem dX5_codeOfValue_8 : decode cX5_codeOfValue 8 = .ok (.isub, 1) := by decide +kernel
theorem dX5_codeOfValue_9 : decode cX5_codeOfValue 9 = .ok (.istore_n 1, 1) := by decide +kernel
theorem dX5_codeOfValue_10 : decode cX5_codeOfValue 10 = .ok (.aload_n 0, 1) := by decide +kernel
theorem dX5_codeOfValue_11 : decode cX5_codeOfValue 11 = .ok (.getfield 35, 3) := by decide +kernel
theorem dX5_codeOfValue_14 : decode cX5_codeOfValue 14 = .ok (.tableswitch 104 129 140 #[100, 104, 104, 104, 104, 104, 104, 62, 68, 84, 92, 96], 62) := by decide +kernel
theorem dX5_codeOfValue_76 : decode cX5_codeOfValue 76 = .ok (.sipush 10000, 3) := by decide +kernel
theorem dX5_codeOfValue_79 : decode cX5_codeOfValue 79 = .ok (.iload_n 1, 1) := by decide +kernel
theorem dX5_codeOfValue_80 : decode cX5_codeOfValue 80 = .ok (.iadd, 1) := by decide +kernel
theorem dX5_codeOfValue_81 : decode cX5_codeOfValue 81 = .ok (.ireturn, 1) := by decide +kernel
theorem dX5_codeOfValue_82 : decode cX5_codeOfValue 82 = .ok (.iload_n 1, 1) := by decide +kernel
theorem dX5_codeOfValue_83 : decode cX5_codeOfValue 83 = .ok (.ifCond .ne 7, 3) := by decide +kernel
theorem dX5_codeOfValue_86 : decode cX5_codeOfValue 86 = .ok (.iconst 0, 1) := by decide +kernel
theorem dX5_codeOfValue_87 : decode cX5_codeOfValue 87 = .ok (.goto 10, 3) := by decide +kernel
theorem dX5_codeOfValue_90 : decode cX5_codeOfValue 90 = .ok (.sipush 10000, 3) := by decide +kernel
theorem dX5_codeOfValue_93 : decode cX5_codeOfValue 93 = .ok (.iload_n 1, 1) := by decide +kernel
theorem dX5_codeOfValue_94 : decode cX5_codeOfValue 94 = .ok (.iadd, 1) := by decide +kernel
theorem dX5_codeOfValue_95 : decode cX5_codeOfValue 95 = .ok (.iconst 1, 1) := by decide +kernel
theorem dX5_codeOfValue_96 : decode cX5_codeOfValue 96 = .ok (.isub, 1) := by decide +kernel
theorem dX5_codeOfValue_97 : decode cX5_codeOfValue 97 = .ok (.ireturn, 1) := by decide +kernel
theorem dX5_codeOfValue_98 : decode cX5_codeOfValue 98 = .ok (.sipush 10000, 3) := by decide +kernel
theorem dX5_codeOfValue_101 : decode cX5_codeOfValue 101 = .ok (.iload_n 1, 1) := by decide +kernel
theorem dX5_codeOfValue_102 : decode cX5_codeOfValue 102 = .ok (.iadd, 1) := by decide +kernel
theorem dX5_codeOfValue_103 : decode cX5_codeOfValue 103 = .ok (.iconst 1, 1) := by decide +kernel
theorem dX5_codeOfValue_104 : decode cX5_codeOfValue 104 = .ok (.iadd, 1) := by decide +kernel
theorem dX5_codeOfValue_105 : decode cX5_codeOfValue 105 = .ok (.ireturn, 1) := by decide +kernel
theorem dX5_codeOfValue_106 : decode cX5_codeOfValue 106 = .ok (.sipush 20000, 3) := by decide +kernel
theorem dX5_codeOfValue_109 : decode cX5_codeOfValue 109 = .ok (.ireturn, 1) := by decide +kernel
theorem dX5_codeOfValue_110 : decode cX5_codeOfValue 110 = .ok (.sipush 20001, 3) := by decide +kernel
theorem dX5_codeOfValue_113 : decode cX5_codeOfValue 113 = .ok (.ireturn, 1) := by decide +kernel
theorem dX5_codeOfValue_114 : decode cX5_codeOfValue 114 = .ok (.sipush 20002, 3) := by decide +kernel
theorem dX5_codeOfValue_117 : decode cX5_codeOfValue 117 = .ok (.ireturn, 1) := by decide +kernel
theorem dX5_codeOfValue_118 : decode cX5_codeOfValue 118 = .ok (.iconst (-1), 1) := by decide +kernel
theorem dX5_codeOfValue_119 : decode cX5_codeOfValue 119 = .ok (.ireturn, 1) := by decide +kernel
set_option maxHeartbeats 4000000 in
set_option maxRecDepth 100000 in
theorem c_X5_codeOfValue (r s l x XL : Nat) (T : RT) (R : RS) (h : Nat) {n : Nat} {kd : mK} {I : mI} {J : mJ} {P : mP} (hB : rOK kd P I r s l x XL T) (hi : rInv T h R) : Ct yX5_codeOfValue cX5_codeOfValue 2 (some .int) 1 0 0 [.ref r] n kd (rI r s l T (R) I) J P (am_is (some (.int (cov (rk T R) h))) n kd (rI r s l T R I) J P) := by
  have hB0 := hB
  obtain ⟨⟨k0, k2, k3, k4⟩, ⟨x0, x2, x3, x4, x8, x9⟩, hS, hL, ⟨o1, o2⟩, ⟨kx, ox, xl⟩, ⟨i1, i5⟩, hT, ⟨t1, t2, t3, t4⟩, hBE, hX, hF⟩ := hB
  have h8 := hi.2.2.1
  refine ct_of 1 (by decide +kernel) (Nat.le_of_ble_eq_true rfl) rfl ?_
  by_cases hh0 : h = 0
  · skip
    refine r_aload_n dX5_codeOfValue_0 rfl ?_
    refine r_getR dX5_codeOfValue_1 fl_X5_38 rfl (k0) (x8) ?_
    refine r_getI dX5_codeOfValue_4 fl_X5_162 rfl (hS.1) ?_
    rw [rI_s0, hi.2.1]
    refine r_iconst (v := nI 1) dX5_codeOfValue_7 (by decide) ?_
    refine r_isub dX5_codeOfValue_8 ?_
    rw [nI_s1]
    refine r_istore_n dX5_codeOfValue_9 (by decide) ?_
    refine r_aload_n dX5_codeOfValue_10 rfl ?_
    refine r_getI dX5_codeOfValue_11 fl_X5_35 rfl (k0) ?_
    rw [rI_rr _ _ _ o1 o2, show hRow (rk T R) R (I r) 7 = rk T R from rfl]
    by_cases e14_0 : rk T R = nI 129
    · refine r_tabE (off := 100) (tgt := 114) e14_0 dX5_codeOfValue_14 (by decide) (by decide) (by decide) (by decide) ?_
      refine r_sipush (v := nI 20002) dX5_codeOfValue_114 (by decide) ?_
      refine r_iret rfl dX5_codeOfValue_117 ?_
      rw [show cov (rk T R) h = nI 20002 by rw [e14_0]; rfl]
      exact am_is.mk
    by_cases e14_1 : rk T R = nI 130
    · refine r_tabE (off := 104) (tgt := 118) e14_1 dX5_codeOfValue_14 (by decide) (by decide) (by decide) (by decide) ?_
      refine r_iconst (v := (-1)) dX5_codeOfValue_118 (by decide) ?_
      refine r_iret rfl dX5_codeOfValue_119 ?_
      rw [show cov (rk T R) h = -1 by (first | (rw [e14_1]; rfl) | (rw [e14_2]; rfl) | (rw [e14_3]; rfl) | (rw [e14_4]; rfl) | (rw [e14_5]; rfl) | (rw [e14_6]; rfl) | (unfold cov; rw [if_neg e14_7, if_neg e14_8, if_neg e14_9, if_neg e14_10, if_neg e14_11, if_neg e14_0]))]
      exact am_is.mk
    by_cases e14_2 : rk T R = nI 131
    · refine r_tabE (off := 104) (tgt := 118) e14_2 dX5_codeOfValue_14 (by decide) (by decide) (by decide) (by decide) ?_
      refine r_iconst (v := (-1)) dX5_codeOfValue_118 (by decide) ?_
      refine r_iret rfl dX5_codeOfValue_119 ?_
      rw [show cov (rk T R) h = -1 by (first | (rw [e14_1]; rfl) | (rw [e14_2]; rfl) | (rw [e14_3]; rfl) | (rw [e14_4]; rfl) | (rw [e14_5]; rfl) | (rw [e14_6]; rfl) | (unfold cov; rw [if_neg e14_7, if_neg e14_8, if_neg e14_9, if_neg e14_10, if_neg e14_11, if_neg e14_0]))]
      exact am_is.mk
    by_cases e14_3 : rk T R = nI 132
    · refine r_tabE (off := 104) (tgt := 118) e14_3 dX5_codeOfValue_14 (by decide) (by decide) (by decide) (by decide) ?_
      refine r_iconst (v := (-1)) dX5_codeOfValue_118 (by decide) ?_
      refine r_iret rfl dX5_codeOfValue_119 ?_
      rw [show cov (rk T R) h = -1 by (first | (rw [e14_1]; rfl) | (rw [e14_2]; rfl) | (rw [e14_3]; rfl) | (rw [e14_4]; rfl) | (rw [e14_5]; rfl) | (rw [e14_6]; rfl) | (unfold cov; rw [if_neg e14_7, if_neg e14_8, if_neg e14_9, if_neg e14_10, if_neg e14_11, if_neg e14_0]))]
      exact am_is.mk
    by_cases e14_4 : rk T R = nI 133
    · refine r_tabE (off := 104) (tgt := 118) e14_4 dX5_codeOfValue_14 (by decide) (by decide) (by decide) (by decide) ?_
      refine r_iconst (v := (-1)) dX5_codeOfValue_118 (by decide) ?_
      refine r_iret rfl dX5_codeOfValue_119 ?_
      rw [show cov (rk T R) h = -1 by (first | (rw [e14_1]; rfl) | (rw [e14_2]; rfl) | (rw [e14_3]; rfl) | (rw [e14_4]; rfl) | (rw [e14_5]; rfl) | (rw [e14_6]; rfl) | (unfold cov; rw [if_neg e14_7, if_neg e14_8, if_neg e14_9, if_neg e14_10, if_neg e14_11, if_neg e14_0]))]
      exact am_is.mk
    by_cases e14_5 : rk T R = nI 134
    · refine r_tabE (off := 104) (tgt := 118) e14_5 dX5_codeOfValue_14 (by decide) (by decide) (by decide) (by decide) ?_
      refine r_iconst (v := (-1)) dX5_codeOfValue_118 (by decide) ?_
      refine r_iret rfl dX5_codeOfValue_119 ?_
      rw [show cov (rk T R) h = -1 by (first | (rw [e14_1]; rfl) | (rw [e14_2]; rfl) | (rw [e14_3]; rfl) | (rw [e14_4]; rfl) | (rw [e14_5]; rfl) | (rw [e14_6]; rfl) | (unfold cov; rw [if_neg e14_7, if_neg e14_8, if_neg e14_9, if_neg e14_10, if_neg e14_11, if_neg e14_0]))]
      exact am_is.mk
    by_cases e14_6 : rk T R = nI 135
    · refine r_tabE (off := 104) (tgt := 118) e14_6 dX5_codeOfValue_14 (by decide) (by decide) (by decide) (by decide) ?_
      refine r_iconst (v := (-1)) dX5_codeOfValue_118 (by decide) ?_
      refine r_iret rfl dX5_codeOfValue_119 ?_
      rw [show cov (rk T R) h = -1 by (first | (rw [e14_1]; rfl) | (rw [e14_2]; rfl) | (rw [e14_3]; rfl) | (rw [e14_4]; rfl) | (rw [e14_5]; rfl) | (rw [e14_6]; rfl) | (unfold cov; rw [if_neg e14_7, if_neg e14_8, if_neg e14_9, if_neg e14_10, if_neg e14_11, if_neg e14_0]))]
      exact am_is.mk
    by_cases e14_7 : rk T R = nI 136
    · refine r_tabE (off := 62) (tgt := 76) e14_7 dX5_codeOfValue_14 (by decide) (by decide) (by decide) (by decide) ?_
      refine r_sipush (v := nI 10000) dX5_codeOfValue_76 (by decide) ?_
      refine r_iload_n dX5_codeOfValue_79 rfl ?_
      refine r_iadd dX5_codeOfValue_80 ?_
      rw [nI_add]
      refine r_iret rfl dX5_codeOfValue_81 ?_
      rw [show cov (rk T R) h = nI (10000 + h) by rw [e14_7]; rfl]
      exact am_is.mk
    by_cases e14_8 : rk T R = nI 137
    · refine r_tabE (off := 68) (tgt := 82) e14_8 dX5_codeOfValue_14 (by decide) (by decide) (by decide) (by decide) ?_
      refine r_iload_n dX5_codeOfValue_82 rfl ?_
      refine r_if_ne (tgt := 90) dX5_codeOfValue_83 (by decide) (fun hz => absurd (show _ from by rw [hh0]; rfl) hz) (fun _ => ?_)
      refine r_iconst (v := nI 0) dX5_codeOfValue_86 (by decide) ?_
      refine r_goto (tgt := 97) dX5_codeOfValue_87 (by decide) ?_
      refine r_iret rfl dX5_codeOfValue_97 ?_
      first
        | (rw [show cov (rk T R) h = nI 0 by (rw [e14_8]; unfold cov; rw [if_neg (by decide), if_pos rfl, if_pos hh0])]; exact am_is.mk)
        | (rw [show cov (rk T R) h = nI (10000 + h - 1) by (rw [e14_8]; unfold cov; rw [if_neg (by decide), if_pos rfl, if_neg hh0])]; exact am_is.mk)
    by_cases e14_9 : rk T R = nI 138
    · refine r_tabE (off := 84) (tgt := 98) e14_9 dX5_codeOfValue_14 (by decide) (by decide) (by decide) (by decide) ?_
      refine r_sipush (v := nI 10000) dX5_codeOfValue_98 (by decide) ?_
      refine r_iload_n dX5_codeOfValue_101 rfl ?_
      refine r_iadd dX5_codeOfValue_102 ?_
      rw [nI_add]
      refine r_iconst (v := nI 1) dX5_codeOfValue_103 (by decide) ?_
      refine r_iadd dX5_codeOfValue_104 ?_
      rw [nI_add]
      refine r_iret rfl dX5_codeOfValue_105 ?_
      rw [show cov (rk T R) h = nI (10000 + h + 1) by rw [e14_9]; rfl]
      exact am_is.mk
    by_cases e14_10 : rk T R = nI 139
    · refine r_tabE (off := 92) (tgt := 106) e14_10 dX5_codeOfValue_14 (by decide) (by decide) (by decide) (by decide) ?_
      refine r_sipush (v := nI 20000) dX5_codeOfValue_106 (by decide) ?_
      refine r_iret rfl dX5_codeOfValue_109 ?_
      rw [show cov (rk T R) h = nI 20000 by rw [e14_10]; rfl]
      exact am_is.mk
    by_cases e14_11 : rk T R = nI 140
    · refine r_tabE (off := 96) (tgt := 110) e14_11 dX5_codeOfValue_14 (by decide) (by decide) (by decide) (by decide) ?_
      refine r_sipush (v := nI 20001) dX5_codeOfValue_110 (by decide) ?_
      refine r_iret rfl dX5_codeOfValue_113 ?_
      rw [show cov (rk T R) h = nI 20001 by rw [e14_11]; rfl]
      exact am_is.mk
    refine r_tabOut (tgt := 118) dX5_codeOfValue_14 (by have hT : ∀ v : Int32, ¬ rk T R = v → ¬ (rk T R).toInt = v.toInt := fun v h q => h (Int32.toInt_inj.mp q); have q0 := And.intro trivial trivial; have g0 := hT _ e14_0; have w0 : (nI 129).toInt = 129 := (by decide); rw [w0] at g0; have g1 := hT _ e14_1; have w1 : (nI 130).toInt = 130 := (by decide); rw [w1] at g1; have g2 := hT _ e14_2; have w2 : (nI 131).toInt = 131 := (by decide); rw [w2] at g2; have g3 := hT _ e14_3; have w3 : (nI 132).toInt = 132 := (by decide); rw [w3] at g3; have g4 := hT _ e14_4; have w4 : (nI 133).toInt = 133 := (by decide); rw [w4] at g4; have g5 := hT _ e14_5; have w5 : (nI 134).toInt = 134 := (by decide); rw [w5] at g5; have g6 := hT _ e14_6; have w6 : (nI 135).toInt = 135 := (by decide); rw [w6] at g6; have g7 := hT _ e14_7; have w7 : (nI 136).toInt = 136 := (by decide); rw [w7] at g7; have g8 := hT _ e14_8; have w8 : (nI 137).toInt = 137 := (by decide); rw [w8] at g8; have g9 := hT _ e14_9; have w9 : (nI 138).toInt = 138 := (by decide); rw [w9] at g9; have g10 := hT _ e14_10; have w10 : (nI 139).toInt = 139 := (by decide); rw [w10] at g10; have g11 := hT _ e14_11; have w11 : (nI 140).toInt = 140 := (by decide); rw [w11] at g11; omega) (by decide) ?_
    refine r_iconst (v := (-1)) dX5_codeOfValue_118 (by decide) ?_
    refine r_iret rfl dX5_codeOfValue_119 ?_
    rw [show cov (rk T R) h = -1 by (first | (rw [e14_1]; rfl) | (rw [e14_2]; rfl) | (rw [e14_3]; rfl) | (rw [e14_4]; rfl) | (rw [e14_5]; rfl) | (rw [e14_6]; rfl) | (unfold cov; rw [if_neg e14_7, if_neg e14_8, if_neg e14_9, if_neg e14_10, if_neg e14_11, if_neg e14_0]))]
    exact am_is.mk
  · skip
    refine r_aload_n dX5_codeOfValue_0 rfl ?_
    refine r_getR dX5_codeOfValue_1 fl_X5_38 rfl (k0) (x8) ?_
    refine r_getI dX5_codeOfValue_4 fl_X5_162 rfl (hS.1) ?_
    rw [rI_s0, hi.2.1]
    refine r_iconst (v := nI 1) dX5_codeOfValue_7 (by decide) ?_
    refine r_isub dX5_codeOfValue_8 ?_
    rw [nI_s1]
    refine r_istore_n dX5_codeOfValue_9 (by decide) ?_
    refine r_aload_n dX5_codeOfValue_10 rfl ?_
    refine r_getI dX5_codeOfValue_11 fl_X5_35 rfl (k0) ?_
    rw [rI_rr _ _ _ o1 o2, show hRow (rk T R) R (I r) 7 = rk T R from rfl]
    by_cases e14_0 : rk T R = nI 129
    · refine r_tabE (off := 100) (tgt := 114) e14_0 dX5_codeOfValue_14 (by decide) (by decide) (by decide) (by decide) ?_
      refine r_sipush (v := nI 20002) dX5_codeOfValue_114 (by decide) ?_
      refine r_iret rfl dX5_codeOfValue_117 ?_
      rw [show cov (rk T R) h = nI 20002 by rw [e14_0]; rfl]
      exact am_is.mk
    by_cases e14_1 : rk T R = nI 130
    · refine r_tabE (off := 104) (tgt := 118) e14_1 dX5_codeOfValue_14 (by decide) (by decide) (by decide) (by decide) ?_
      refine r_iconst (v := (-1)) dX5_codeOfValue_118 (by decide) ?_
      refine r_iret rfl dX5_codeOfValue_119 ?_
      rw [show cov (rk T R) h = -1 by (first | (rw [e14_1]; rfl) | (rw [e14_2]; rfl) | (rw [e14_3]; rfl) | (rw [e14_4]; rfl) | (rw [e14_5]; rfl) | (rw [e14_6]; rfl) | (unfold cov; rw [if_neg e14_7, if_neg e14_8, if_neg e14_9, if_neg e14_10, if_neg e14_11, if_neg e14_0]))]
      exact am_is.mk
    by_cases e14_2 : rk T R = nI 131
    · refine r_tabE (off := 104) (tgt := 118) e14_2 dX5_codeOfValue_14 (by decide) (by decide) (by decide) (by decide) ?_
      refine r_iconst (v := (-1)) dX5_codeOfValue_118 (by decide) ?_
      refine r_iret rfl dX5_codeOfValue_119 ?_
      rw [show cov (rk T R) h = -1 by (first | (rw [e14_1]; rfl) | (rw [e14_2]; rfl) | (rw [e14_3]; rfl) | (rw [e14_4]; rfl) | (rw [e14_5]; rfl) | (rw [e14_6]; rfl) | (unfold cov; rw [if_neg e14_7, if_neg e14_8, if_neg e14_9, if_neg e14_10, if_neg e14_11, if_neg e14_0]))]
      exact am_is.mk
    by_cases e14_3 : rk T R = nI 132
    · refine r_tabE (off := 104) (tgt := 118) e14_3 dX5_codeOfValue_14 (by decide) (by decide) (by decide) (by decide) ?_
      refine r_iconst (v := (-1)) dX5_codeOfValue_118 (by decide) ?_
      refine r_iret rfl dX5_codeOfValue_119 ?_
      rw [show cov (rk T R) h = -1 by (first | (rw [e14_1]; rfl) | (rw [e14_2]; rfl) | (rw [e14_3]; rfl) | (rw [e14_4]; rfl) | (rw [e14_5]; rfl) | (rw [e14_6]; rfl) | (unfold cov; rw [if_neg e14_7, if_neg e14_8, if_neg e14_9, if_neg e14_10, if_neg e14_11, if_neg e14_0]))]
      exact am_is.mk
    by_cases e14_4 : rk T R = nI 133
    · refine r_tabE (off := 104) (tgt := 118) e14_4 dX5_codeOfValue_14 (by decide) (by decide) (by decide) (by decide) ?_
      refine r_iconst (v := (-1)) dX5_codeOfValue_118 (by decide) ?_
      refine r_iret rfl dX5_codeOfValue_119 ?_
      rw [show cov (rk T R) h = -1 by (first | (rw [e14_1]; rfl) | (rw [e14_2]; rfl) | (rw [e14_3]; rfl) | (rw [e14_4]; rfl) | (rw [e14_5]; rfl) | (rw [e14_6]; rfl) | (unfold cov; rw [if_neg e14_7, if_neg e14_8, if_neg e14_9, if_neg e14_10, if_neg e14_11, if_neg e14_0]))]
      exact am_is.mk
    by_cases e14_5 : rk T R = nI 134
    · refine r_tabE (off := 104) (tgt := 118) e14_5 dX5_codeOfValue_14 (by decide) (by decide) (by decide) (by decide) ?_
      refine r_iconst (v := (-1)) dX5_codeOfValue_118 (by decide) ?_
      refine r_iret rfl dX5_codeOfValue_119 ?_
      rw [show cov (rk T R) h = -1 by (first | (rw [e14_1]; rfl) | (rw [e14_2]; rfl) | (rw [e14_3]; rfl) | (rw [e14_4]; rfl) | (rw [e14_5]; rfl) | (rw [e14_6]; rfl) | (unfold cov; rw [if_neg e14_7, if_neg e14_8, if_neg e14_9, if_neg e14_10, if_neg e14_11, if_neg e14_0]))]
      exact am_is.mk
    by_cases e14_6 : rk T R = nI 135
    · refine r_tabE (off := 104) (tgt := 118) e14_6 dX5_codeOfValue_14 (by decide) (by decide) (by decide) (by decide) ?_
      refine r_iconst (v := (-1)) dX5_codeOfValue_118 (by decide) ?_
      refine r_iret rfl dX5_codeOfValue_119 ?_
      rw [show cov (rk T R) h = -1 by (first | (rw [e14_1]; rfl) | (rw [e14_2]; rfl) | (rw [e14_3]; rfl) | (rw [e14_4]; rfl) | (rw [e14_5]; rfl) | (rw [e14_6]; rfl) | (unfold cov; rw [if_neg e14_7, if_neg e14_8, if_neg e14_9, if_neg e14_10, if_neg e14_11, if_neg e14_0]))]
      exact am_is.mk
    by_cases e14_7 : rk T R = nI 136
    · refine r_tabE (off := 62) (tgt := 76) e14_7 dX5_codeOfValue_14 (by decide) (by decide) (by decide) (by decide) ?_
      refine r_sipush (v := nI 10000) dX5_codeOfValue_76 (by decide) ?_
      refine r_iload_n dX5_codeOfValue_79 rfl ?_
      refine r_iadd dX5_codeOfValue_80 ?_
      rw [nI_add]
      refine r_iret rfl dX5_codeOfValue_81 ?_
      rw [show cov (rk T R) h = nI (10000 + h) by rw [e14_7]; rfl]
      exact am_is.mk
    by_cases e14_8 : rk T R = nI 137
    · refine r_tabE (off := 68) (tgt := 82) e14_8 dX5_codeOfValue_14 (by decide) (by decide) (by decide) (by decide) ?_
      refine r_iload_n dX5_codeOfValue_82 rfl ?_
      refine r_if_ne (tgt := 90) dX5_codeOfValue_83 (by decide) (fun _ => ?_) (fun hz => absurd hz (show ¬ _ from by rw [z_eq (by omega)]; exact hh0))
      refine r_sipush (v := nI 10000) dX5_codeOfValue_90 (by decide) ?_
      refine r_iload_n dX5_codeOfValue_93 rfl ?_
      refine r_iadd dX5_codeOfValue_94 ?_
      rw [nI_add]
      refine r_iconst (v := nI 1) dX5_codeOfValue_95 (by decide) ?_
      refine r_isub dX5_codeOfValue_96 ?_
      rw [pk_sub (by omega)]
      refine r_iret rfl dX5_codeOfValue_97 ?_
      first
        | (rw [show cov (rk T R) h = nI 0 by (rw [e14_8]; unfold cov; rw [if_neg (by decide), if_pos rfl, if_pos hh0])]; exact am_is.mk)
        | (rw [show cov (rk T R) h = nI (10000 + h - 1) by (rw [e14_8]; unfold cov; rw [if_neg (by decide), if_pos rfl, if_neg hh0])]; exact am_is.mk)
    by_cases e14_9 : rk T R = nI 138
    · refine r_tabE (off := 84) (tgt := 98) e14_9 dX5_codeOfValue_14 (by decide) (by decide) (by decide) (by decide) ?_
      refine r_sipush (v := nI 10000) dX5_codeOfValue_98 (by decide) ?_
      refine r_iload_n dX5_codeOfValue_101 rfl ?_
      refine r_iadd dX5_codeOfValue_102 ?_
      rw [nI_add]
      refine r_iconst (v := nI 1) dX5_codeOfValue_103 (by decide) ?_
      refine r_iadd dX5_codeOfValue_104 ?_
      rw [nI_add]
      refine r_iret rfl dX5_codeOfValue_105 ?_
      rw [show cov (rk T R) h = nI (10000 + h + 1) by rw [e14_9]; rfl]
      exact am_is.mk
    by_cases e14_10 : rk T R = nI 139
    · refine r_tabE (off := 92) (tgt := 106) e14_10 dX5_codeOfValue_14 (by decide) (by decide) (by decide) (by decide) ?_
      refine r_sipush (v := nI 20000) dX5_codeOfValue_106 (by decide) ?_
      refine r_iret rfl dX5_codeOfValue_109 ?_
      rw [show cov (rk T R) h = nI 20000 by rw [e14_10]; rfl]
      exact am_is.mk
    by_cases e14_11 : rk T R = nI 140
    · refine r_tabE (off := 96) (tgt := 110) e14_11 dX5_codeOfValue_14 (by decide) (by decide) (by decide) (by decide) ?_
      refine r_sipush (v := nI 20001) dX5_codeOfValue_110 (by decide) ?_
      refine r_iret rfl dX5_codeOfValue_113 ?_
      rw [show cov (rk T R) h = nI 20001 by rw [e14_11]; rfl]
      exact am_is.mk
    refine r_tabOut (tgt := 118) dX5_codeOfValue_14 (by have hT : ∀ v : Int32, ¬ rk T R = v → ¬ (rk T R).toInt = v.toInt := fun v h q => h (Int32.toInt_inj.mp q); have q0 := And.intro trivial trivial; have g0 := hT _ e14_0; have w0 : (nI 129).toInt = 129 := (by decide); rw [w0] at g0; have g1 := hT _ e14_1; have w1 : (nI 130).toInt = 130 := (by decide); rw [w1] at g1; have g2 := hT _ e14_2; have w2 : (nI 131).toInt = 131 := (by decide); rw [w2] at g2; have g3 := hT _ e14_3; have w3 : (nI 132).toInt = 132 := (by decide); rw [w3] at g3; have g4 := hT _ e14_4; have w4 : (nI 133).toInt = 133 := (by decide); rw [w4] at g4; have g5 := hT _ e14_5; have w5 : (nI 134).toInt = 134 := (by decide); rw [w5] at g5; have g6 := hT _ e14_6; have w6 : (nI 135).toInt = 135 := (by decide); rw [w6] at g6; have g7 := hT _ e14_7; have w7 : (nI 136).toInt = 136 := (by decide); rw [w7] at g7; have g8 := hT _ e14_8; have w8 : (nI 137).toInt = 137 := (by decide); rw [w8] at g8; have g9 := hT _ e14_9; have w9 : (nI 138).toInt = 138 := (by decide); rw [w9] at g9; have g10 := hT _ e14_10; have w10 : (nI 139).toInt = 139 := (by decide); rw [w10] at g10; have g11 := hT _ e14_11; have w11 : (nI 140).toInt = 140 := (by decide); rw [w11] at g11; omega) (by decide) ?_
    refine r_iconst (v := (-1)) dX5_codeOfValue_118 (by decide) ?_
    refine r_iret rfl dX5_codeOfValue_119 ?_
    rw [show cov (rk T R) h = -1 by (first | (rw [e14_1]; rfl) | (rw [e14_2]; rfl) | (rw [e14_3]; rfl) | (rw [e14_4]; rfl) | (rw [e14_5]; rfl) | (rw [e14_6]; rfl) | (unfold cov; rw [if_neg e14_7, if_neg e14_8, if_neg e14_9, if_neg e14_10, if_neg e14_11, if_neg e14_0]))]
    exact am_is.mk

