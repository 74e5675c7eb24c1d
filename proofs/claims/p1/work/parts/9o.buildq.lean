/-! THE NEW OBJECT: riddles for a first house; the reference, all of them -/
def bQ (m : Nat) (I : mI) : Prop := I m 1 = nI 1 ∧ I m 2 = nI 9 ∧ I m 3 = nI 0 ∧ I m 47 = nI 0 ∧ I m 54 = nI 0 ∧ I m 58 = -1 ∧ I (m + 3) 0 = nI 0
def bE (m : Nat) (I I' : mI) : Prop := (∀ a, a ≠ m → a ≠ m + 6 → a ≠ m + 25 → a ≠ m + 27 → I' a = I a) ∧ (∀ j, j ≠ 52 → j ≠ 53 → j ≠ 55 → j ≠ 56 → j ≠ 57 → j ≠ 66 → j ≠ 67 → I' m j = I m j)
theorem bE.rf {m : Nat} {I : mI} : bE m I I := ⟨fun _ _ _ _ _ => rfl, fun _ _ _ _ _ _ _ _ => rfl⟩
theorem bE.tr {m : Nat} {I I1 I2 : mI} (h : bE m I I1) (g : bE m I1 I2) : bE m I I2 := ⟨fun a x y z w => (g.1 a x y z w).trans (h.1 a x y z w), fun j a b c d e f k => (g.2 j a b c d e f k).trans (h.2 j a b c d e f k)⟩
theorem bQ.fr {m : Nat} {I I' : mI} (h : bE m I I') (hb : bQ m I) : bQ m I' := by
  unfold bQ at hb ⊢
  rw [h.2 1 (by decide) (by decide) (by decide) (by decide) (by decide) (by decide) (by decide), h.2 2 (by decide) (by decide) (by decide) (by decide) (by decide) (by decide) (by decide), h.2 3 (by decide) (by decide) (by decide) (by decide) (by decide) (by decide) (by decide), h.2 47 (by decide) (by decide) (by decide) (by decide) (by decide) (by decide) (by decide), h.2 54 (by decide) (by decide) (by decide) (by decide) (by decide) (by decide) (by decide), h.2 58 (by decide) (by decide) (by decide) (by decide) (by decide) (by decide) (by decide), h.1 (m + 3) (by omega) (by omega) (by omega) (by omega)]
  exact hb
def bdG (n : Nat) (kd : mK) (I : mI) (J : mJ) (P : mP) (m g c : Nat) : am_Post := fun z n' kd' I' J' P' => z = .inl (some (.int (nI 1))) ∧ n' = n ∧ kd' = kd ∧ J' = J ∧ P' = P ∧ bE m I I' ∧ I' m 66 = nI (g + 1) ∧ I' m 67 = (if g = 0 then nI c else I m 67)
theorem dX10_builds_0 : decode cX10_builds 0 = .ok (.aload_n 0, 1) := by decide +kernel
theorem dX10_builds_1 : decode cX10_builds 1 = .ok (.iload_n 1, 1) := by decide +kernel
theorem dX10_builds_2 : decode cX10_builds 2 = .ok (.putfield 393, 3) := by decide +kernel
theorem dX10_builds_5 : decode cX10_builds 5 = .ok (.aload_n 0, 1) := by decide +kernel
theorem dX10_builds_6 : decode cX10_builds 6 = .ok (.iload_n 2, 1) := by decide +kernel
theorem dX10_builds_7 : decode cX10_builds 7 = .ok (.putfield 399, 3) := by decide +kernel
theorem dX10_builds_10 : decode cX10_builds 10 = .ok (.aload_n 0, 1) := by decide +kernel
theorem dX10_builds_11 : decode cX10_builds 11 = .ok (.iload_n 3, 1) := by decide +kernel
theorem dX10_builds_12 : decode cX10_builds 12 = .ok (.putfield 396, 3) := by decide +kernel
theorem dX10_builds_15 : decode cX10_builds 15 = .ok (.aload_n 0, 1) := by decide +kernel
theorem dX10_builds_16 : decode cX10_builds 16 = .ok (.getfield 29, 3) := by decide +kernel
theorem dX10_builds_19 : decode cX10_builds 19 = .ok (.aload_n 0, 1) := by decide +kernel
theorem dX10_builds_20 : decode cX10_builds 20 = .ok (.getfield 99, 3) := by decide +kernel
theorem dX10_builds_23 : decode cX10_builds 23 = .ok (.iconst 1, 1) := by decide +kernel
theorem dX10_builds_24 : decode cX10_builds 24 = .ok (.aload_n 0, 1) := by decide +kernel
theorem dX10_builds_25 : decode cX10_builds 25 = .ok (.getfield 99, 3) := by decide +kernel
theorem dX10_builds_28 : decode cX10_builds 28 = .ok (.ishl, 1) := by decide +kernel
theorem dX10_builds_29 : decode cX10_builds 29 = .ok (.iload_n 1, 1) := by decide +kernel
theorem dX10_builds_30 : decode cX10_builds 30 = .ok (.ifCond .ne 7, 3) := by decide +kernel
theorem dX10_builds_33 : decode cX10_builds 33 = .ok (.iconst 0, 1) := by decide +kernel
theorem dX10_builds_34 : decode cX10_builds 34 = .ok (.goto 6, 3) := by decide +kernel
theorem dX10_builds_37 : decode cX10_builds 37 = .ok (.iconst 1, 1) := by decide +kernel
theorem dX10_builds_38 : decode cX10_builds 38 = .ok (.iload_n 2, 1) := by decide +kernel
theorem dX10_builds_39 : decode cX10_builds 39 = .ok (.ishl, 1) := by decide +kernel
theorem dX10_builds_40 : decode cX10_builds 40 = .ok (.ior, 1) := by decide +kernel
theorem dX10_builds_41 : decode cX10_builds 41 = .ok (.iastore, 1) := by decide +kernel
theorem dX10_builds_42 : decode cX10_builds 42 = .ok (.aload_n 0, 1) := by decide +kernel
theorem dX10_builds_43 : decode cX10_builds 43 = .ok (.aload_n 0, 1) := by decide +kernel
theorem dX10_builds_44 : decode cX10_builds 44 = .ok (.invokevirtual 429, 3) := by decide +kernel
theorem dX10_builds_47 : decode cX10_builds 47 = .ok (.iconst 1, 1) := by decide +kernel
theorem dX10_builds_48 : decode cX10_builds 48 = .ok (.aload_n 0, 1) := by decide +kernel
theorem dX10_builds_49 : decode cX10_builds 49 = .ok (.getfield 99, 3) := by decide +kernel
theorem dX10_builds_52 : decode cX10_builds 52 = .ok (.ishl, 1) := by decide +kernel
theorem dX10_builds_53 : decode cX10_builds 53 = .ok (.ior, 1) := by decide +kernel
theorem dX10_builds_54 : decode cX10_builds 54 = .ok (.iconst 1, 1) := by decide +kernel
theorem dX10_builds_55 : decode cX10_builds 55 = .ok (.iconst 2, 1) := by decide +kernel
theorem dX10_builds_56 : decode cX10_builds 56 = .ok (.invokevirtual 432, 3) := by decide +kernel
theorem dX10_builds_59 : decode cX10_builds 59 = .ok (.ifCond .ne 5, 3) := by decide +kernel
theorem dX10_builds_62 : decode cX10_builds 62 = .ok (.iconst 0, 1) := by decide +kernel
theorem dX10_builds_63 : decode cX10_builds 63 = .ok (.ireturn, 1) := by decide +kernel
theorem dX10_builds_64 : decode cX10_builds 64 = .ok (.aload_n 0, 1) := by decide +kernel
theorem dX10_builds_65 : decode cX10_builds 65 = .ok (.getfield 413, 3) := by decide +kernel
theorem dX10_builds_68 : decode cX10_builds 68 = .ok (.iconst 1, 1) := by decide +kernel
theorem dX10_builds_69 : decode cX10_builds 69 = .ok (.if_icmp .eq 5, 3) := by decide +kernel
theorem dX10_builds_72 : decode cX10_builds 72 = .ok (.iconst 1, 1) := by decide +kernel
theorem dX10_builds_73 : decode cX10_builds 73 = .ok (.ireturn, 1) := by decide +kernel
theorem dX10_builds_74 : decode cX10_builds 74 = .ok (.aload_n 0, 1) := by decide +kernel
theorem dX10_builds_75 : decode cX10_builds 75 = .ok (.getfield 475, 3) := by decide +kernel
theorem dX10_builds_78 : decode cX10_builds 78 = .ok (.ifCond .ne 27, 3) := by decide +kernel
theorem dX10_builds_81 : decode cX10_builds 81 = .ok (.aload_n 0, 1) := by decide +kernel
theorem dX10_builds_82 : decode cX10_builds 82 = .ok (.iload_n 1, 1) := by decide +kernel
theorem dX10_builds_83 : decode cX10_builds 83 = .ok (.ifCond .ne 7, 3) := by decide +kernel
theorem dX10_builds_86 : decode cX10_builds 86 = .ok (.iload_n 3, 1) := by decide +kernel
theorem dX10_builds_87 : decode cX10_builds 87 = .ok (.goto 15, 3) := by decide +kernel
theorem dX10_builds_90 : decode cX10_builds 90 = .ok (.sipush 1000, 3) := by decide +kernel
theorem dX10_builds_93 : decode cX10_builds 93 = .ok (.iload_n 1, 1) := by decide +kernel
theorem dX10_builds_94 : decode cX10_builds 94 = .ok (.imul, 1) := by decide +kernel
theorem dX10_builds_95 : decode cX10_builds 95 = .ok (.bipush 100, 2) := by decide +kernel
theorem dX10_builds_97 : decode cX10_builds 97 = .ok (.iload_n 2, 1) := by decide +kernel
theorem dX10_builds_98 : decode cX10_builds 98 = .ok (.imul, 1) := by decide +kernel
theorem dX10_builds_99 : decode cX10_builds 99 = .ok (.iadd, 1) := by decide +kernel
theorem dX10_builds_100 : decode cX10_builds 100 = .ok (.iload_n 3, 1) := by decide +kernel
theorem dX10_builds_101 : decode cX10_builds 101 = .ok (.iadd, 1) := by decide +kernel
theorem dX10_builds_102 : decode cX10_builds 102 = .ok (.putfield 478, 3) := by decide +kernel
theorem dX10_builds_105 : decode cX10_builds 105 = .ok (.aload_n 0, 1) := by decide +kernel
theorem dX10_builds_106 : decode cX10_builds 106 = .ok (.dup, 1) := by decide +kernel
theorem dX10_builds_107 : decode cX10_builds 107 = .ok (.getfield 475, 3) := by decide +kernel
theorem dX10_builds_110 : decode cX10_builds 110 = .ok (.iconst 1, 1) := by decide +kernel
theorem dX10_builds_111 : decode cX10_builds 111 = .ok (.iadd, 1) := by decide +kernel
theorem dX10_builds_112 : decode cX10_builds 112 = .ok (.putfield 475, 3) := by decide +kernel
theorem dX10_builds_115 : decode cX10_builds 115 = .ok (.iconst 1, 1) := by decide +kernel
theorem dX10_builds_116 : decode cX10_builds 116 = .ok (.ireturn, 1) := by decide +kernel
set_option maxHeartbeats 4000000 in
set_option maxRecDepth 100000 in
theorem c_builds1 (m c g : Nat) {n : Nat} {kd : mK} {I : mI} {J : mJ} {P : mP} (hM : kM kd P m) (hq : bQ m I) (hc1 : 1 ≤ c) (hc : c ≤ 9) (hgl : g < 100) (hg : I m 66 = nI g) : Ct yX10_builds cX10_builds 4 (some .boolean) 5 0 0 [.ref m, .int (nI 0), .int (nI 0), .int (nI c)] n kd I J P (bdG n kd I J P m g c) := by
  have hq0 := hq
  obtain ⟨g1, g2, g3, g47, g54, g58, gr⟩ := hq
  refine ct_of 0 (by decide +kernel) (Nat.le_of_ble_eq_true rfl) rfl ?_
  refine r_aload_n dX10_builds_0 rfl ?_
  refine r_iload_n dX10_builds_1 rfl ?_
  refine r_putI dX10_builds_2 fl_X10_393 rfl rfl (kM_0 hM) ?_
  refine r_aload_n dX10_builds_5 rfl ?_
  refine r_iload_n dX10_builds_6 rfl ?_
  refine r_putI dX10_builds_7 fl_X10_399 rfl rfl (kM_0 hM) ?_
  rw [am_up_s, am_up_up]
  refine r_aload_n dX10_builds_10 rfl ?_
  refine r_iload_n dX10_builds_11 rfl ?_
  refine r_putI dX10_builds_12 fl_X10_396 rfl rfl (kM_0 hM) ?_
  rw [am_up_s, am_up_up]
  refine r_aload_n dX10_builds_15 rfl ?_
  refine r_getR dX10_builds_16 fl_X10_29 rfl (kM_0 hM) (pM_9 hM) ?_
  refine r_aload_n dX10_builds_19 rfl ?_
  refine r_getI dX10_builds_20 fl_X10_99 rfl (kM_0 hM) ?_
  rw [show (va_up I m (va_up (va_up (va_up (I m) 55 (nI 0)) 56 (nI 0)) 57 (nI c))) m 54 = nI 0 from by rw [am_up_s, am_up_n _ _ (by decide), am_up_n _ _ (by decide), am_up_n _ _ (by decide)]; exact g54]
  refine r_iconst (v := nI 1) dX10_builds_23 (by decide) ?_
  refine r_aload_n dX10_builds_24 rfl ?_
  refine r_getI dX10_builds_25 fl_X10_99 rfl (kM_0 hM) ?_
  rw [show (va_up I m (va_up (va_up (va_up (I m) 55 (nI 0)) 56 (nI 0)) 57 (nI c))) m 54 = nI 0 from by rw [am_up_s, am_up_n _ _ (by decide), am_up_n _ _ (by decide), am_up_n _ _ (by decide)]; exact g54]
  refine r_ishl dX10_builds_28 ?_
  refine r_iload_n dX10_builds_29 rfl ?_
  refine r_if_ne (tgt := 37) dX10_builds_30 (by decide) (fun hz => absurd (show _ from rfl) hz) (fun _ => ?_)
  refine r_iconst (v := nI 0) dX10_builds_33 (by decide) ?_
  refine r_goto (tgt := 40) dX10_builds_34 (by decide) ?_
  refine r_ior dX10_builds_40 ?_
  rw [show (nI 1 <<< (nI 0 &&& 31)) ||| nI 0 = nI 1 from by decide]
  refine r_iast dX10_builds_41 (aM_9 hM) (nI_in8 8 (j := 0) (by decide) (by decide)) (nI_clamp (n := 0) (by decide)) ?_
  have x1 : ∀ j, j ≠ 55 → j ≠ 56 → j ≠ 57 → (va_up (va_up I m (va_up (va_up (va_up (I m) 55 (nI 0)) 56 (nI 0)) 57 (nI c))) (m + 6) (va_up ((va_up I m (va_up (va_up (va_up (I m) 55 (nI 0)) 56 (nI 0)) 57 (nI c))) (m + 6)) 0 (nI 1))) m j = I m j := fun j j1 j2 j3 => by rw [am_up_n _ _ (by omega), am_up_s, am_up_n _ _ j3, am_up_n _ _ j2, am_up_n _ _ j1]
  have hE2 : bE m I (va_up (va_up I m (va_up (va_up (va_up (I m) 55 (nI 0)) 56 (nI 0)) 57 (nI c))) (m + 6) (va_up ((va_up I m (va_up (va_up (va_up (I m) 55 (nI 0)) 56 (nI 0)) 57 (nI c))) (m + 6)) 0 (nI 1))) := ⟨fun a a1 a2 _ _ => by rw [am_up_n _ _ a2, am_up_n _ _ a1], fun j _ _ j3 j4 j5 _ _ => x1 j j3 j4 j5⟩
  have yk : (va_up (va_up I m (va_up (va_up (va_up (I m) 55 (nI 0)) 56 (nI 0)) 57 (nI c))) (m + 6) (va_up ((va_up I m (va_up (va_up (va_up (I m) 55 (nI 0)) 56 (nI 0)) 57 (nI c))) (m + 6)) 0 (nI 1))) m 55 = nI 0 := by rw [am_up_n _ _ (by omega), am_up_s, am_up_n _ _ (by decide), am_up_n _ _ (by decide), am_up_s]
  have yb : (va_up (va_up I m (va_up (va_up (va_up (I m) 55 (nI 0)) 56 (nI 0)) 57 (nI c))) (m + 6) (va_up ((va_up I m (va_up (va_up (va_up (I m) 55 (nI 0)) 56 (nI 0)) 57 (nI c))) (m + 6)) 0 (nI 1))) m 57 = nI c := by rw [am_up_n _ _ (by omega), am_up_s, am_up_s]
  have y6 : (va_up (va_up I m (va_up (va_up (va_up (I m) 55 (nI 0)) 56 (nI 0)) 57 (nI c))) (m + 6) (va_up ((va_up I m (va_up (va_up (va_up (I m) 55 (nI 0)) 56 (nI 0)) 57 (nI c))) (m + 6)) 0 (nI 1))) (m + 6) 0 = nI 1 := by rw [am_up_s, am_up_s]
  generalize (va_up (va_up I m (va_up (va_up (va_up (I m) 55 (nI 0)) 56 (nI 0)) 57 (nI c))) (m + 6) (va_up ((va_up I m (va_up (va_up (va_up (I m) 55 (nI 0)) 56 (nI 0)) 57 (nI c))) (m + 6)) 0 (nI 1))) = I2 at x1 hE2 yk yb y6 ⊢
  have hq2 := hq0.fr hE2
  obtain ⟨p1, p2, p3, p47, p54, p58, pr⟩ := hq2
  have hR2 : bR m c I2 := ⟨p1, p2, p3, p47, p54, yk, yb, p58, y6⟩
  refine r_aload_n dX10_builds_42 rfl ?_
  refine r_aload_n dX10_builds_43 rfl ?_
  refine r_virtE (c_X10_speaking m 1 hM p1 (by decide)) lk_X10_429 mc_X10_speaking dX10_builds_44 hM.1 (by decide) rfl rfl (Nat.le_of_ble_eq_true rfl) ?_
  rw [show spR (I2 (m + 3)) (I2 (m + 4)) 1 = nI 0 from by show nI 0 ||| _ = nI 0; rw [pr, if_neg (by decide)]; decide]
  refine r_iconst (v := nI 1) dX10_builds_47 (by decide) ?_
  refine r_aload_n dX10_builds_48 rfl ?_
  refine r_getI dX10_builds_49 fl_X10_99 rfl (kM_0 hM) ?_
  rw [p54]
  refine r_ishl dX10_builds_52 ?_
  refine r_ior dX10_builds_53 ?_
  rw [show nI 0 ||| (nI 1 <<< (nI 0 &&& 31)) = nI 1 from by decide]
  refine r_iconst (v := nI 1) dX10_builds_54 (by decide) ?_
  refine r_iconst (v := nI 2) dX10_builds_55 (by decide) ?_
  refine r_virt (c_seeksB m c hM hR2 hc1 hc) lk_X10_432 mc_X10_seeks dX10_builds_56 hM.1 (by decide) rfl rfl (Nat.le_of_ble_eq_true rfl) (Nat.le_of_eq (Nat.zero_add _)) (Nat.le_of_eq (Nat.zero_add _)) (fun _ _ _ _ _ _ h => nomatch h.1) ?_
  rintro v n3 kd3 I3 J3 P3 ⟨q0, rfl, rfl, rfl, rfl, hF3, h52⟩
  cases q0
  simp only [Option.toList, List.cons_append, List.nil_append]
  have z1 : I3 m 66 = nI g := by rw [hF3.2 _ (by decide) (by decide), x1 _ (by decide) (by decide) (by decide)]; exact hg
  have z2 : I3 m 67 = I m 67 := by rw [hF3.2 _ (by decide) (by decide), x1 _ (by decide) (by decide) (by decide)]
  have hE3 : bE m I I3 := hE2.tr ⟨fun a a1 _ a3 a4 => hF3.1 a a1 a3 a4, fun j j1 j2 _ _ _ _ _ => hF3.2 j j1 j2⟩
  have hfin : ∀ F : Nat → Int32, (∀ j, j ≠ 66 → j ≠ 67 → F j = I3 m j) → F 66 = nI (g + 1) → F 67 = (if g = 0 then nI c else I m 67) → bdG n3 kd3 I J3 P3 m g c (.inl (some (.int (nI 1)))) n3 kd3 (va_up I3 m F) J3 P3 := fun F f1 f2 f3 => ⟨rfl, rfl, rfl, rfl, rfl, hE3.tr ⟨fun a a1 _ _ _ => am_up_n _ _ a1, fun j _ _ _ _ _ j6 j7 => by rw [am_up_s]; exact f1 j j6 j7⟩, by rw [am_up_s]; exact f2, by rw [am_up_s]; exact f3⟩
  by_cases hg0 : g = 0
  · subst hg0
    refine r_if_ne (tgt := 64) dX10_builds_59 (by decide) (fun _ => ?_) (fun hz => absurd hz (show ¬ _ from (by decide)))
    refine r_aload_n dX10_builds_64 rfl ?_
    refine r_getI dX10_builds_65 fl_X10_413 rfl (kM_0 hM) ?_
    rw [h52]
    refine r_iconst (v := nI 1) dX10_builds_68 (by decide) ?_
    refine r_icmp_eq (tgt := 74) dX10_builds_69 (by decide) (fun _ => ?_) (fun hz => absurd (show _ from rfl) hz)
    refine r_aload_n dX10_builds_74 rfl ?_
    refine r_getI dX10_builds_75 fl_X10_475 rfl (kM_0 hM) ?_
    rw [z1]
    refine r_if_ne (tgt := 105) dX10_builds_78 (by decide) (fun hz => absurd (show _ from rfl) hz) (fun _ => ?_)
    refine r_aload_n dX10_builds_81 rfl ?_
    refine r_iload_n dX10_builds_82 rfl ?_
    refine r_if_ne (tgt := 90) dX10_builds_83 (by decide) (fun hz => absurd (show _ from rfl) hz) (fun _ => ?_)
    refine r_iload_n dX10_builds_86 rfl ?_
    refine r_goto (tgt := 102) dX10_builds_87 (by decide) ?_
    refine r_putI dX10_builds_102 fl_X10_478 rfl rfl (kM_0 hM) ?_
    refine r_aload_n dX10_builds_105 rfl ?_
    refine r_dup dX10_builds_106 rfl ?_
    refine r_getI dX10_builds_107 fl_X10_475 rfl (kM_0 hM) ?_
    rw [show va_up I3 m (va_up (I3 m) 67 (nI c)) m 66 = nI 0 from by rw [am_up_s, am_up_n _ _ (by decide)]; exact z1]
    refine r_iconst (v := nI 1) dX10_builds_110 (by decide) ?_
    refine r_iadd dX10_builds_111 ?_
    rw [nI_add]
    refine r_putI dX10_builds_112 fl_X10_475 rfl rfl (kM_0 hM) ?_
    rw [am_up_s, am_up_up]
    refine r_iconst (v := nI 1) dX10_builds_115 (by decide) ?_
    refine r_zret rfl dX10_builds_116 (by first | exact Or.inl rfl | exact Or.inr rfl | assumption) ?_
    exact hfin _ (fun j j1 j2 => by rw [am_up_n _ _ j1, am_up_n _ _ j2]) (by rw [am_up_s]) (by rw [am_up_n _ _ (by decide), am_up_s]; rfl)
  · skip
    refine r_if_ne (tgt := 64) dX10_builds_59 (by decide) (fun _ => ?_) (fun hz => absurd hz (show ¬ _ from (by decide)))
    refine r_aload_n dX10_builds_64 rfl ?_
    refine r_getI dX10_builds_65 fl_X10_413 rfl (kM_0 hM) ?_
    rw [h52]
    refine r_iconst (v := nI 1) dX10_builds_68 (by decide) ?_
    refine r_icmp_eq (tgt := 74) dX10_builds_69 (by decide) (fun _ => ?_) (fun hz => absurd (show _ from rfl) hz)
    refine r_aload_n dX10_builds_74 rfl ?_
    refine r_getI dX10_builds_75 fl_X10_475 rfl (kM_0 hM) ?_
    rw [z1]
    refine r_if_ne (tgt := 105) dX10_builds_78 (by decide) (fun _ => ?_) (fun hz => absurd hz (show ¬ _ from (by rw [z_eq (by omega)]; exact hg0)))
    refine r_aload_n dX10_builds_105 rfl ?_
    refine r_dup dX10_builds_106 rfl ?_
    refine r_getI dX10_builds_107 fl_X10_475 rfl (kM_0 hM) ?_
    rw [z1]
    refine r_iconst (v := nI 1) dX10_builds_110 (by decide) ?_
    refine r_iadd dX10_builds_111 ?_
    rw [nI_add]
    refine r_putI dX10_builds_112 fl_X10_475 rfl rfl (kM_0 hM) ?_
    refine r_iconst (v := nI 1) dX10_builds_115 (by decide) ?_
    refine r_zret rfl dX10_builds_116 (by first | exact Or.inl rfl | exact Or.inr rfl | assumption) ?_
    exact hfin _ (fun j j1 _ => by rw [am_up_n _ _ j1]) (by rw [am_up_s]) (by rw [am_up_n _ _ (by decide), if_neg hg0]; exact z2)

theorem dX10_buildsAll_0 : decode cX10_buildsAll 0 = .ok (.iconst 1, 1) := by decide +kernel
theorem dX10_buildsAll_1 : decode cX10_buildsAll 1 = .ok (.istore_n 1, 1) := by decide +kernel
theorem dX10_buildsAll_2 : decode cX10_buildsAll 2 = .ok (.iload_n 1, 1) := by decide +kernel
theorem dX10_buildsAll_3 : decode cX10_buildsAll 3 = .ok (.aload_n 0, 1) := by decide +kernel
theorem dX10_buildsAll_4 : decode cX10_buildsAll 4 = .ok (.getfield 7, 3) := by decide +kernel
theorem dX10_buildsAll_7 : decode cX10_buildsAll 7 = .ok (.if_icmp .gt 21, 3) := by decide +kernel
theorem dX10_buildsAll_10 : decode cX10_buildsAll 10 = .ok (.aload_n 0, 1) := by decide +kernel
theorem dX10_buildsAll_11 : decode cX10_buildsAll 11 = .ok (.iconst 0, 1) := by decide +kernel
theorem dX10_buildsAll_12 : decode cX10_buildsAll 12 = .ok (.iconst 0, 1) := by decide +kernel
theorem dX10_buildsAll_13 : decode cX10_buildsAll 13 = .ok (.iload_n 1, 1) := by decide +kernel
theorem dX10_buildsAll_14 : decode cX10_buildsAll 14 = .ok (.invokevirtual 481, 3) := by decide +kernel
theorem dX10_buildsAll_17 : decode cX10_buildsAll 17 = .ok (.ifCond .ne 5, 3) := by decide +kernel
theorem dX10_buildsAll_20 : decode cX10_buildsAll 20 = .ok (.iconst 0, 1) := by decide +kernel
theorem dX10_buildsAll_21 : decode cX10_buildsAll 21 = .ok (.ireturn, 1) := by decide +kernel
theorem dX10_buildsAll_22 : decode cX10_buildsAll 22 = .ok (.iinc 1 1, 3) := by decide +kernel
theorem dX10_buildsAll_25 : decode cX10_buildsAll 25 = .ok (.goto (-23), 3) := by decide +kernel
theorem dX10_buildsAll_28 : decode cX10_buildsAll 28 = .ok (.iconst 0, 1) := by decide +kernel
theorem dX10_buildsAll_29 : decode cX10_buildsAll 29 = .ok (.istore_n 1, 1) := by decide +kernel
theorem dX10_buildsAll_30 : decode cX10_buildsAll 30 = .ok (.iload_n 1, 1) := by decide +kernel
theorem dX10_buildsAll_31 : decode cX10_buildsAll 31 = .ok (.aload_n 0, 1) := by decide +kernel
theorem dX10_buildsAll_32 : decode cX10_buildsAll 32 = .ok (.getfield 99, 3) := by decide +kernel
theorem dX10_buildsAll_35 : decode cX10_buildsAll 35 = .ok (.if_icmp .ge 35, 3) := by decide +kernel
theorem dX10_buildsAll_38 : decode cX10_buildsAll 38 = .ok (.iconst 0, 1) := by decide +kernel
theorem dX10_buildsAll_39 : decode cX10_buildsAll 39 = .ok (.istore_n 2, 1) := by decide +kernel
theorem dX10_buildsAll_40 : decode cX10_buildsAll 40 = .ok (.iload_n 2, 1) := by decide +kernel
theorem dX10_buildsAll_41 : decode cX10_buildsAll 41 = .ok (.bipush 9, 2) := by decide +kernel
theorem dX10_buildsAll_43 : decode cX10_buildsAll 43 = .ok (.if_icmp .gt 21, 3) := by decide +kernel
theorem dX10_buildsAll_46 : decode cX10_buildsAll 46 = .ok (.aload_n 0, 1) := by decide +kernel
theorem dX10_buildsAll_47 : decode cX10_buildsAll 47 = .ok (.iconst 1, 1) := by decide +kernel
theorem dX10_buildsAll_48 : decode cX10_buildsAll 48 = .ok (.iload_n 1, 1) := by decide +kernel
theorem dX10_buildsAll_49 : decode cX10_buildsAll 49 = .ok (.iload_n 2, 1) := by decide +kernel
theorem dX10_buildsAll_50 : decode cX10_buildsAll 50 = .ok (.invokevirtual 481, 3) := by decide +kernel
theorem dX10_buildsAll_53 : decode cX10_buildsAll 53 = .ok (.ifCond .ne 5, 3) := by decide +kernel
theorem dX10_buildsAll_56 : decode cX10_buildsAll 56 = .ok (.iconst 0, 1) := by decide +kernel
theorem dX10_buildsAll_57 : decode cX10_buildsAll 57 = .ok (.ireturn, 1) := by decide +kernel
theorem dX10_buildsAll_58 : decode cX10_buildsAll 58 = .ok (.iinc 2 1, 3) := by decide +kernel
theorem dX10_buildsAll_61 : decode cX10_buildsAll 61 = .ok (.goto (-21), 3) := by decide +kernel
theorem dX10_buildsAll_64 : decode cX10_buildsAll 64 = .ok (.iinc 1 1, 3) := by decide +kernel
theorem dX10_buildsAll_67 : decode cX10_buildsAll 67 = .ok (.goto (-37), 3) := by decide +kernel
theorem dX10_buildsAll_70 : decode cX10_buildsAll 70 = .ok (.iconst 0, 1) := by decide +kernel
theorem dX10_buildsAll_71 : decode cX10_buildsAll 71 = .ok (.istore_n 1, 1) := by decide +kernel
theorem dX10_buildsAll_72 : decode cX10_buildsAll 72 = .ok (.iload_n 1, 1) := by decide +kernel
theorem dX10_buildsAll_73 : decode cX10_buildsAll 73 = .ok (.aload_n 0, 1) := by decide +kernel
theorem dX10_buildsAll_74 : decode cX10_buildsAll 74 = .ok (.getfield 99, 3) := by decide +kernel
theorem dX10_buildsAll_77 : decode cX10_buildsAll 77 = .ok (.if_icmp .ge 35, 3) := by decide +kernel
theorem dX10_buildsAll_80 : decode cX10_buildsAll 80 = .ok (.iconst 2, 1) := by decide +kernel
theorem dX10_buildsAll_81 : decode cX10_buildsAll 81 = .ok (.istore_n 2, 1) := by decide +kernel
theorem dX10_buildsAll_82 : decode cX10_buildsAll 82 = .ok (.iload_n 2, 1) := by decide +kernel
theorem dX10_buildsAll_83 : decode cX10_buildsAll 83 = .ok (.bipush 9, 2) := by decide +kernel
theorem dX10_buildsAll_85 : decode cX10_buildsAll 85 = .ok (.if_icmp .gt 21, 3) := by decide +kernel
theorem dX10_buildsAll_88 : decode cX10_buildsAll 88 = .ok (.aload_n 0, 1) := by decide +kernel
theorem dX10_buildsAll_89 : decode cX10_buildsAll 89 = .ok (.iconst 2, 1) := by decide +kernel
theorem dX10_buildsAll_90 : decode cX10_buildsAll 90 = .ok (.iload_n 1, 1) := by decide +kernel
theorem dX10_buildsAll_91 : decode cX10_buildsAll 91 = .ok (.iload_n 2, 1) := by decide +kernel
theorem dX10_buildsAll_92 : decode cX10_buildsAll 92 = .ok (.invokevirtual 481, 3) := by decide +kernel
theorem dX10_buildsAll_95 : decode cX10_buildsAll 95 = .ok (.ifCond .ne 5, 3) := by decide +kernel
theorem dX10_buildsAll_98 : decode cX10_buildsAll 98 = .ok (.iconst 0, 1) := by decide +kernel
theorem dX10_buildsAll_99 : decode cX10_buildsAll 99 = .ok (.ireturn, 1) := by decide +kernel
theorem dX10_buildsAll_100 : decode cX10_buildsAll 100 = .ok (.iinc 2 1, 3) := by decide +kernel
theorem dX10_buildsAll_103 : decode cX10_buildsAll 103 = .ok (.goto (-21), 3) := by decide +kernel
theorem dX10_buildsAll_106 : decode cX10_buildsAll 106 = .ok (.iinc 1 1, 3) := by decide +kernel
theorem dX10_buildsAll_109 : decode cX10_buildsAll 109 = .ok (.goto (-37), 3) := by decide +kernel
theorem dX10_buildsAll_112 : decode cX10_buildsAll 112 = .ok (.iconst 1, 1) := by decide +kernel
theorem dX10_buildsAll_113 : decode cX10_buildsAll 113 = .ok (.ireturn, 1) := by decide +kernel

def baG (n : Nat) (kd : mK) (I : mI) (J : mJ) (P : mP) (m : Nat) : am_Post := fun z n' kd' I' J' P' => z = .inl (some (.int (nI 1))) ∧ n' = n ∧ kd' = kd ∧ J' = J ∧ P' = P ∧ bE m I I' ∧ I' m 66 = nI 9 ∧ I' m 67 = nI 1
set_option maxHeartbeats 4000000 in
set_option maxRecDepth 100000 in
theorem ba_loop (m : Nat) {n : Nat} {kd : mK} {I0 : mI} {J : mJ} {P : mP} (hM : kM kd P m) : ∀ (cnt c : Nat) (I : mI), c + cnt = 10 → 1 ≤ c → bQ m I → bE m I0 I → I m 66 = nI (c - 1) → I m 67 = (if c = 1 then -1 else nI 1) → Ru yX10_buildsAll.cls cX10_buildsAll 3 (some .boolean) yX10_buildsAll.name 6 (baG n kd I0 J P m) 0 0 2 [some (.ref m), some (.int (nI c)), none] [] n kd I J P := by
  intro cnt
  induction cnt with
  | zero =>
    intro c I hc hc1 hq hE hg hf
    have ec : c = 10 := by omega
    subst ec
    obtain ⟨g1, g2, g3, g47, g54, g58, gr⟩ := hq
    refine r_iload_n dX10_buildsAll_2 rfl ?_
    refine r_aload_n dX10_buildsAll_3 rfl ?_
    refine r_getI dX10_buildsAll_4 fl_X10_7 rfl (kM_0 hM) ?_
    rw [g2]
    refine r_icmp_gt (tgt := 28) dX10_buildsAll_7 (by decide) (fun _ => ?_) (fun hz => absurd (show _ from (by decide)) hz)
    refine r_iconst (v := nI 0) dX10_buildsAll_28 (by decide) ?_
    refine r_istore_n dX10_buildsAll_29 (by decide) ?_
    refine r_iload_n dX10_buildsAll_30 rfl ?_
    refine r_aload_n dX10_buildsAll_31 rfl ?_
    refine r_getI dX10_buildsAll_32 fl_X10_99 rfl (kM_0 hM) ?_
    rw [g54]
    refine r_icmp_ge (tgt := 70) dX10_buildsAll_35 (by decide) (fun _ => ?_) (fun hz => absurd (show _ from (by decide)) hz)
    refine r_iconst (v := nI 0) dX10_buildsAll_70 (by decide) ?_
    refine r_istore_n dX10_buildsAll_71 (by decide) ?_
    refine r_iload_n dX10_buildsAll_72 rfl ?_
    refine r_aload_n dX10_buildsAll_73 rfl ?_
    refine r_getI dX10_buildsAll_74 fl_X10_99 rfl (kM_0 hM) ?_
    rw [g54]
    refine r_icmp_ge (tgt := 112) dX10_buildsAll_77 (by decide) (fun _ => ?_) (fun hz => absurd (show _ from (by decide)) hz)
    refine r_iconst (v := nI 1) dX10_buildsAll_112 (by decide) ?_
    refine r_zret rfl dX10_buildsAll_113 (by first | exact Or.inl rfl | exact Or.inr rfl | assumption) ?_
    exact ⟨rfl, rfl, rfl, rfl, rfl, hE, hg, hf⟩
  | succ cnt ih =>
    intro c I hc hc1 hq hE hg hf
    have g2 := hq.2.1
    refine r_iload_n dX10_buildsAll_2 rfl ?_
    refine r_aload_n dX10_buildsAll_3 rfl ?_
    refine r_getI dX10_buildsAll_4 fl_X10_7 rfl (kM_0 hM) ?_
    rw [g2]
    refine r_icmp_gt (tgt := 28) dX10_buildsAll_7 (by decide) (fun hz => absurd hz (show ¬ _ from (by rw [nI_ltI (by omega) (by omega)]; omega))) (fun _ => ?_)
    refine r_aload_n dX10_buildsAll_10 rfl ?_
    refine r_iconst (v := nI 0) dX10_buildsAll_11 (by decide) ?_
    refine r_iconst (v := nI 0) dX10_buildsAll_12 (by decide) ?_
    refine r_iload_n dX10_buildsAll_13 rfl ?_
    refine r_virt (c_builds1 m c (c - 1) hM hq hc1 (by omega) (by omega) hg) lk_X10_481 mc_X10_builds dX10_buildsAll_14 hM.1 (by decide) rfl rfl (Nat.le_of_ble_eq_true rfl) (Nat.le_of_eq (Nat.zero_add _)) (Nat.le_of_eq (Nat.zero_add _)) (fun _ _ _ _ _ _ h => nomatch h.1) ?_
    rintro v n1 kd1 I1 J1 P1 ⟨q0, rfl, rfl, rfl, rfl, hE1, hg1, hf1⟩
    cases q0
    simp only [Option.toList, List.cons_append, List.nil_append]
    refine r_if_ne (tgt := 22) dX10_buildsAll_17 (by decide) (fun _ => ?_) (fun hz => absurd hz (show ¬ _ from (by decide)))
    refine r_iinc (v := nI (c + 1)) dX10_buildsAll_22 rfl (nI_inc c) ?_
    refine r_goto (tgt := 2) dX10_buildsAll_25 (by decide) ?_
    exact ih (c + 1) I1 (by omega) (by omega) (hq.fr hE1) (hE.tr hE1) (by rw [hg1, show c - 1 + 1 = c + 1 - 1 by omega]) (by
      rw [hf1, hf, if_neg (show ¬ c + 1 = 1 by omega)]
      by_cases q : c = 1
      · subst q; rfl
      · rw [if_neg (by omega), if_neg q])

set_option maxHeartbeats 4000000 in
set_option maxRecDepth 100000 in
theorem c_buildsAll (m : Nat) {n : Nat} {kd : mK} {I : mI} {J : mJ} {P : mP} (hM : kM kd P m) (hq : bQ m I) (hg : I m 66 = nI 0) (hf : I m 67 = -1) : Ct yX10_buildsAll cX10_buildsAll 3 (some .boolean) 6 0 0 [.ref m] n kd I J P (baG n kd I J P m) := by
  refine ct_of 2 (by decide +kernel) (Nat.le_of_ble_eq_true rfl) rfl ?_
  refine r_iconst (v := nI 1) dX10_buildsAll_0 (by decide) ?_
  refine r_istore_n dX10_buildsAll_1 (by decide) ?_
  exact ba_loop m hM 9 1 I (by omega) (by omega) hq bE.rf hg (by rw [hf]; rfl)

theorem dX10_build_0 : decode cX10_build 0 = .ok (.aload_n 0, 1) := by decide +kernel
theorem dX10_build_1 : decode cX10_build 1 = .ok (.iconst 0, 1) := by decide +kernel
theorem dX10_build_2 : decode cX10_build 2 = .ok (.putfield 193, 3) := by decide +kernel
theorem dX10_build_5 : decode cX10_build 5 = .ok (.aload_n 0, 1) := by decide +kernel
theorem dX10_build_6 : decode cX10_build 6 = .ok (.iload_n 1, 1) := by decide +kernel
theorem dX10_build_7 : decode cX10_build 7 = .ok (.invokevirtual 379, 3) := by decide +kernel
theorem dX10_build_10 : decode cX10_build 10 = .ok (.ifCond .eq 25, 3) := by decide +kernel
theorem dX10_build_13 : decode cX10_build 13 = .ok (.aload_n 0, 1) := by decide +kernel
theorem dX10_build_14 : decode cX10_build 14 = .ok (.aload_n 0, 1) := by decide +kernel
theorem dX10_build_15 : decode cX10_build 15 = .ok (.getfield 350, 3) := by decide +kernel
theorem dX10_build_18 : decode cX10_build 18 = .ok (.bipush 8, 2) := by decide +kernel
theorem dX10_build_20 : decode cX10_build 20 = .ok (.if_icmp .ge 7, 3) := by decide +kernel
theorem dX10_build_23 : decode cX10_build 23 = .ok (.iconst 1, 1) := by decide +kernel
theorem dX10_build_24 : decode cX10_build 24 = .ok (.goto 4, 3) := by decide +kernel
theorem dX10_build_27 : decode cX10_build 27 = .ok (.iconst 0, 1) := by decide +kernel
theorem dX10_build_28 : decode cX10_build 28 = .ok (.iconst 2, 1) := by decide +kernel
theorem dX10_build_29 : decode cX10_build 29 = .ok (.invokevirtual 343, 3) := by decide +kernel
theorem dX10_build_32 : decode cX10_build 32 = .ok (.ifCond .ne 5, 3) := by decide +kernel
theorem dX10_build_35 : decode cX10_build 35 = .ok (.iconst 0, 1) := by decide +kernel
theorem dX10_build_36 : decode cX10_build 36 = .ok (.ireturn, 1) := by decide +kernel
theorem dX10_build_37 : decode cX10_build 37 = .ok (.aload_n 0, 1) := by decide +kernel
theorem dX10_build_38 : decode cX10_build 38 = .ok (.aload_n 0, 1) := by decide +kernel
theorem dX10_build_39 : decode cX10_build 39 = .ok (.getfield 350, 3) := by decide +kernel
theorem dX10_build_42 : decode cX10_build 42 = .ok (.putfield 99, 3) := by decide +kernel
theorem dX10_build_45 : decode cX10_build 45 = .ok (.aload_n 0, 1) := by decide +kernel
theorem dX10_build_46 : decode cX10_build 46 = .ok (.dup, 1) := by decide +kernel
theorem dX10_build_47 : decode cX10_build 47 = .ok (.getfield 350, 3) := by decide +kernel
theorem dX10_build_50 : decode cX10_build 50 = .ok (.iconst 1, 1) := by decide +kernel
theorem dX10_build_51 : decode cX10_build 51 = .ok (.iadd, 1) := by decide +kernel
theorem dX10_build_52 : decode cX10_build 52 = .ok (.putfield 350, 3) := by decide +kernel
theorem dX10_build_55 : decode cX10_build 55 = .ok (.aload_n 0, 1) := by decide +kernel
theorem dX10_build_56 : decode cX10_build 56 = .ok (.getfield 20, 3) := by decide +kernel
theorem dX10_build_59 : decode cX10_build 59 = .ok (.aload_n 0, 1) := by decide +kernel
theorem dX10_build_60 : decode cX10_build 60 = .ok (.getfield 99, 3) := by decide +kernel
theorem dX10_build_63 : decode cX10_build 63 = .ok (.iconst 0, 1) := by decide +kernel
theorem dX10_build_64 : decode cX10_build 64 = .ok (.iastore, 1) := by decide +kernel
theorem dX10_build_65 : decode cX10_build 65 = .ok (.aload_n 0, 1) := by decide +kernel
theorem dX10_build_66 : decode cX10_build 66 = .ok (.getfield 23, 3) := by decide +kernel
theorem dX10_build_69 : decode cX10_build 69 = .ok (.aload_n 0, 1) := by decide +kernel
theorem dX10_build_70 : decode cX10_build 70 = .ok (.getfield 99, 3) := by decide +kernel
theorem dX10_build_73 : decode cX10_build 73 = .ok (.iconst 0, 1) := by decide +kernel
theorem dX10_build_74 : decode cX10_build 74 = .ok (.iastore, 1) := by decide +kernel
theorem dX10_build_75 : decode cX10_build 75 = .ok (.aload_n 0, 1) := by decide +kernel
theorem dX10_build_76 : decode cX10_build 76 = .ok (.iconst 0, 1) := by decide +kernel
theorem dX10_build_77 : decode cX10_build 77 = .ok (.putfield 475, 3) := by decide +kernel
theorem dX10_build_80 : decode cX10_build 80 = .ok (.aload_n 0, 1) := by decide +kernel
theorem dX10_build_81 : decode cX10_build 81 = .ok (.iconst (-1), 1) := by decide +kernel
theorem dX10_build_82 : decode cX10_build 82 = .ok (.putfield 478, 3) := by decide +kernel
theorem dX10_build_85 : decode cX10_build 85 = .ok (.aload_n 0, 1) := by decide +kernel
theorem dX10_build_86 : decode cX10_build 86 = .ok (.invokevirtual 484, 3) := by decide +kernel
theorem dX10_build_89 : decode cX10_build 89 = .ok (.istore_n 2, 1) := by decide +kernel
theorem dX10_build_90 : decode cX10_build 90 = .ok (.aload_n 0, 1) := by decide +kernel
theorem dX10_build_91 : decode cX10_build 91 = .ok (.dup, 1) := by decide +kernel
theorem dX10_build_92 : decode cX10_build 92 = .ok (.getfield 350, 3) := by decide +kernel
theorem dX10_build_95 : decode cX10_build 95 = .ok (.iconst 1, 1) := by decide +kernel
theorem dX10_build_96 : decode cX10_build 96 = .ok (.isub, 1) := by decide +kernel
theorem dX10_build_97 : decode cX10_build 97 = .ok (.putfield 350, 3) := by decide +kernel
theorem dX10_build_100 : decode cX10_build 100 = .ok (.aload_n 0, 1) := by decide +kernel
theorem dX10_build_101 : decode cX10_build 101 = .ok (.iconst (-1), 1) := by decide +kernel
theorem dX10_build_102 : decode cX10_build 102 = .ok (.putfield 99, 3) := by decide +kernel
theorem dX10_build_105 : decode cX10_build 105 = .ok (.iload_n 2, 1) := by decide +kernel
theorem dX10_build_106 : decode cX10_build 106 = .ok (.ifCond .ne 6, 3) := by decide +kernel
theorem dX10_build_109 : decode cX10_build 109 = .ok (.bipush (-2), 2) := by decide +kernel
theorem dX10_build_111 : decode cX10_build 111 = .ok (.ireturn, 1) := by decide +kernel
theorem dX10_build_112 : decode cX10_build 112 = .ok (.iload_n 1, 1) := by decide +kernel
theorem dX10_build_113 : decode cX10_build 113 = .ok (.ifCond .ne 10, 3) := by decide +kernel
theorem dX10_build_116 : decode cX10_build 116 = .ok (.aload_n 0, 1) := by decide +kernel
theorem dX10_build_117 : decode cX10_build 117 = .ok (.getfield 475, 3) := by decide +kernel
theorem dX10_build_120 : decode cX10_build 120 = .ok (.goto 7, 3) := by decide +kernel
theorem dX10_build_123 : decode cX10_build 123 = .ok (.aload_n 0, 1) := by decide +kernel
theorem dX10_build_124 : decode cX10_build 124 = .ok (.getfield 478, 3) := by decide +kernel
theorem dX10_build_127 : decode cX10_build 127 = .ok (.ireturn, 1) := by decide +kernel

set_option maxHeartbeats 4000000 in
set_option maxRecDepth 100000 in
theorem q_build_0 (m : Nat) {n : Nat} {kd : mK} {I : mI} {J : mJ} {P : mP} (hF : fsM m kd I J P) : Ct yX10_build cX10_build 3 (some .int) 7 0 0 [.ref m, .int (nI 0)] n kd I J P (pR m n kd I J P (some (.int (nI 9))) 0) := by
  have hM := hF.1
  have hm := hF.2.1
  have m1 : I m 1 = nI 0 := by rw [hm]; rfl
  refine ct_of 1 (by decide +kernel) (Nat.le_of_ble_eq_true rfl) rfl ?_
  refine r_aload_n dX10_build_0 rfl ?_
  refine r_iconst (v := nI 0) dX10_build_1 (by decide) ?_
  refine r_putI dX10_build_2 fl_X10_193 rfl rfl (kM_0 hM) ?_
  rw [hF.th]
  refine r_aload_n dX10_build_5 rfl ?_
  refine r_iload_n dX10_build_6 rfl ?_
  refine r_virtE (c_X10_isTwo m (nI 0) hM (by rw [hm]; rfl)) lk_X10_379 mc_X10_isTwo dX10_build_7 hM.1 (by decide) rfl rfl (Nat.le_of_ble_eq_true rfl) ?_
  rw [show (decide (nI 0 = 0) || decide (nI 0 = nI 1)) = true from by decide]
  rw [thM_ok]
  refine r_if_eq (tgt := 35) dX10_build_10 (by decide) (fun hz => absurd hz (show ¬ _ from (by decide))) (fun _ => ?_)
  refine r_aload_n dX10_build_13 rfl ?_
  refine r_aload_n dX10_build_14 rfl ?_
  refine r_getI dX10_build_15 fl_X10_350 rfl (kM_0 hM) ?_
  rw [m1]
  refine r_bipush (v := nI 8) dX10_build_18 (by decide) ?_
  refine r_icmp_ge (tgt := 27) dX10_build_20 (by decide) (fun hz => absurd hz (show ¬ _ from (by decide))) (fun _ => ?_)
  refine r_iconst (v := nI 1) dX10_build_23 (by decide) ?_
  refine r_goto (tgt := 28) dX10_build_24 (by decide) ?_
  refine r_iconst (v := nI 2) dX10_build_28 (by decide) ?_
  refine r_virtE (c_X10_right m true (nI 2) hM (by rw [hm]; rfl) (by decide)) lk_X10_343 mc_X10_right dX10_build_29 hM.1 (by decide) rfl rfl (Nat.le_of_ble_eq_true rfl) ?_
  rw [thM_ok]
  refine r_if_ne (tgt := 37) dX10_build_32 (by decide) (fun _ => ?_) (fun hz => absurd hz (show ¬ _ from (by decide)))
  refine r_aload_n dX10_build_37 rfl ?_
  refine r_aload_n dX10_build_38 rfl ?_
  refine r_getI dX10_build_39 fl_X10_350 rfl (kM_0 hM) ?_
  rw [m1]
  refine r_putI dX10_build_42 fl_X10_99 rfl rfl (kM_0 hM) ?_
  refine r_aload_n dX10_build_45 rfl ?_
  refine r_dup dX10_build_46 rfl ?_
  refine r_getI dX10_build_47 fl_X10_350 rfl (kM_0 hM) ?_
  rw [show va_up I m (va_up (I m) 54 (nI 0)) m 1 = nI 0 from by rw [am_up_s, am_up_n _ _ (by decide)]; exact m1]
  refine r_iconst (v := nI 1) dX10_build_50 (by decide) ?_
  refine r_iadd dX10_build_51 ?_
  rw [show nI 0 + nI 1 = nI 1 from by decide]
  refine r_putI dX10_build_52 fl_X10_350 rfl rfl (kM_0 hM) ?_
  rw [am_up_s, am_up_up]
  refine r_aload_n dX10_build_55 rfl ?_
  refine r_getR dX10_build_56 fl_X10_20 rfl (kM_0 hM) (pM_6 hM) ?_
  refine r_aload_n dX10_build_59 rfl ?_
  refine r_getI dX10_build_60 fl_X10_99 rfl (kM_0 hM) ?_
  rw [show (va_up I m (va_up (va_up (I m) 54 (nI 0)) 1 (nI 1))) m 54 = nI 0 from by rw [am_up_s, am_up_n _ _ (by decide), am_up_s]]
  refine r_iconst (v := nI 0) dX10_build_63 (by decide) ?_
  refine r_iast dX10_build_64 (aM_6 hM) (nI_in8 8 (j := 0) (by decide) (by decide)) (nI_clamp (n := 0) (by decide)) ?_
  refine r_aload_n dX10_build_65 rfl ?_
  refine r_getR dX10_build_66 fl_X10_23 rfl (kM_0 hM) (pM_7 hM) ?_
  refine r_aload_n dX10_build_69 rfl ?_
  refine r_getI dX10_build_70 fl_X10_99 rfl (kM_0 hM) ?_
  rw [show (va_up (va_up I m (va_up (va_up (I m) 54 (nI 0)) 1 (nI 1))) (m + 3) (va_up ((va_up I m (va_up (va_up (I m) 54 (nI 0)) 1 (nI 1))) (m + 3)) 0 (nI 0))) m 54 = nI 0 from by rw [am_up_n _ _ (by omega), am_up_s, am_up_n _ _ (by decide), am_up_s]]
  refine r_iconst (v := nI 0) dX10_build_73 (by decide) ?_
  refine r_iast dX10_build_74 (aM_7 hM) (nI_in8 8 (j := 0) (by decide) (by decide)) (nI_clamp (n := 0) (by decide)) ?_
  refine r_aload_n dX10_build_75 rfl ?_
  refine r_iconst (v := nI 0) dX10_build_76 (by decide) ?_
  refine r_putI dX10_build_77 fl_X10_475 rfl rfl (kM_0 hM) ?_
  refine r_aload_n dX10_build_80 rfl ?_
  refine r_iconst (v := (-1)) dX10_build_81 (by decide) ?_
  refine r_putI dX10_build_82 fl_X10_478 rfl rfl (kM_0 hM) ?_
  rw [am_up_s, am_up_up]
  have k0 : ∀ j, j ≠ 54 → j ≠ 1 → j ≠ 66 → j ≠ 67 → va_up (va_up (va_up (va_up I m (va_up (va_up (I m) 54 (nI 0)) 1 (nI 1))) (m + 3) (va_up ((va_up I m (va_up (va_up (I m) 54 (nI 0)) 1 (nI 1))) (m + 3)) 0 (nI 0))) (m + 4) (va_up ((va_up (va_up I m (va_up (va_up (I m) 54 (nI 0)) 1 (nI 1))) (m + 3) (va_up ((va_up I m (va_up (va_up (I m) 54 (nI 0)) 1 (nI 1))) (m + 3)) 0 (nI 0))) (m + 4)) 0 (nI 0))) m (va_up (va_up ((va_up (va_up (va_up I m (va_up (va_up (I m) 54 (nI 0)) 1 (nI 1))) (m + 3) (va_up ((va_up I m (va_up (va_up (I m) 54 (nI 0)) 1 (nI 1))) (m + 3)) 0 (nI 0))) (m + 4) (va_up ((va_up (va_up I m (va_up (va_up (I m) 54 (nI 0)) 1 (nI 1))) (m + 3) (va_up ((va_up I m (va_up (va_up (I m) 54 (nI 0)) 1 (nI 1))) (m + 3)) 0 (nI 0))) (m + 4)) 0 (nI 0))) m) 66 (nI 0)) 67 (-1)) m j = I m j := fun j j1 j2 j3 j4 => by rw [am_up_s, am_up_n _ _ j4, am_up_n _ _ j3, am_up_n _ _ (by omega), am_up_n _ _ (by omega), am_up_s, am_up_n _ _ j2, am_up_n _ _ j1]
  have k54 : va_up (va_up (va_up (va_up I m (va_up (va_up (I m) 54 (nI 0)) 1 (nI 1))) (m + 3) (va_up ((va_up I m (va_up (va_up (I m) 54 (nI 0)) 1 (nI 1))) (m + 3)) 0 (nI 0))) (m + 4) (va_up ((va_up (va_up I m (va_up (va_up (I m) 54 (nI 0)) 1 (nI 1))) (m + 3) (va_up ((va_up I m (va_up (va_up (I m) 54 (nI 0)) 1 (nI 1))) (m + 3)) 0 (nI 0))) (m + 4)) 0 (nI 0))) m (va_up (va_up ((va_up (va_up (va_up I m (va_up (va_up (I m) 54 (nI 0)) 1 (nI 1))) (m + 3) (va_up ((va_up I m (va_up (va_up (I m) 54 (nI 0)) 1 (nI 1))) (m + 3)) 0 (nI 0))) (m + 4) (va_up ((va_up (va_up I m (va_up (va_up (I m) 54 (nI 0)) 1 (nI 1))) (m + 3) (va_up ((va_up I m (va_up (va_up (I m) 54 (nI 0)) 1 (nI 1))) (m + 3)) 0 (nI 0))) (m + 4)) 0 (nI 0))) m) 66 (nI 0)) 67 (-1)) m 54 = nI 0 := by rw [am_up_s, am_up_n _ _ (by decide), am_up_n _ _ (by decide), am_up_n _ _ (by omega), am_up_n _ _ (by omega), am_up_s, am_up_n _ _ (by decide), am_up_s]
  have k1 : va_up (va_up (va_up (va_up I m (va_up (va_up (I m) 54 (nI 0)) 1 (nI 1))) (m + 3) (va_up ((va_up I m (va_up (va_up (I m) 54 (nI 0)) 1 (nI 1))) (m + 3)) 0 (nI 0))) (m + 4) (va_up ((va_up (va_up I m (va_up (va_up (I m) 54 (nI 0)) 1 (nI 1))) (m + 3) (va_up ((va_up I m (va_up (va_up (I m) 54 (nI 0)) 1 (nI 1))) (m + 3)) 0 (nI 0))) (m + 4)) 0 (nI 0))) m (va_up (va_up ((va_up (va_up (va_up I m (va_up (va_up (I m) 54 (nI 0)) 1 (nI 1))) (m + 3) (va_up ((va_up I m (va_up (va_up (I m) 54 (nI 0)) 1 (nI 1))) (m + 3)) 0 (nI 0))) (m + 4) (va_up ((va_up (va_up I m (va_up (va_up (I m) 54 (nI 0)) 1 (nI 1))) (m + 3) (va_up ((va_up I m (va_up (va_up (I m) 54 (nI 0)) 1 (nI 1))) (m + 3)) 0 (nI 0))) (m + 4)) 0 (nI 0))) m) 66 (nI 0)) 67 (-1)) m 1 = nI 1 := by rw [am_up_s, am_up_n _ _ (by decide), am_up_n _ _ (by decide), am_up_n _ _ (by omega), am_up_n _ _ (by omega), am_up_s, am_up_s]
  have kr : va_up (va_up (va_up (va_up I m (va_up (va_up (I m) 54 (nI 0)) 1 (nI 1))) (m + 3) (va_up ((va_up I m (va_up (va_up (I m) 54 (nI 0)) 1 (nI 1))) (m + 3)) 0 (nI 0))) (m + 4) (va_up ((va_up (va_up I m (va_up (va_up (I m) 54 (nI 0)) 1 (nI 1))) (m + 3) (va_up ((va_up I m (va_up (va_up (I m) 54 (nI 0)) 1 (nI 1))) (m + 3)) 0 (nI 0))) (m + 4)) 0 (nI 0))) m (va_up (va_up ((va_up (va_up (va_up I m (va_up (va_up (I m) 54 (nI 0)) 1 (nI 1))) (m + 3) (va_up ((va_up I m (va_up (va_up (I m) 54 (nI 0)) 1 (nI 1))) (m + 3)) 0 (nI 0))) (m + 4) (va_up ((va_up (va_up I m (va_up (va_up (I m) 54 (nI 0)) 1 (nI 1))) (m + 3) (va_up ((va_up I m (va_up (va_up (I m) 54 (nI 0)) 1 (nI 1))) (m + 3)) 0 (nI 0))) (m + 4)) 0 (nI 0))) m) 66 (nI 0)) 67 (-1)) (m + 3) 0 = nI 0 := by rw [am_up_n _ _ (by omega), am_up_n _ _ (by omega), am_up_s, am_up_s]
  have kb : va_up (va_up (va_up (va_up I m (va_up (va_up (I m) 54 (nI 0)) 1 (nI 1))) (m + 3) (va_up ((va_up I m (va_up (va_up (I m) 54 (nI 0)) 1 (nI 1))) (m + 3)) 0 (nI 0))) (m + 4) (va_up ((va_up (va_up I m (va_up (va_up (I m) 54 (nI 0)) 1 (nI 1))) (m + 3) (va_up ((va_up I m (va_up (va_up (I m) 54 (nI 0)) 1 (nI 1))) (m + 3)) 0 (nI 0))) (m + 4)) 0 (nI 0))) m (va_up (va_up ((va_up (va_up (va_up I m (va_up (va_up (I m) 54 (nI 0)) 1 (nI 1))) (m + 3) (va_up ((va_up I m (va_up (va_up (I m) 54 (nI 0)) 1 (nI 1))) (m + 3)) 0 (nI 0))) (m + 4) (va_up ((va_up (va_up I m (va_up (va_up (I m) 54 (nI 0)) 1 (nI 1))) (m + 3) (va_up ((va_up I m (va_up (va_up (I m) 54 (nI 0)) 1 (nI 1))) (m + 3)) 0 (nI 0))) (m + 4)) 0 (nI 0))) m) 66 (nI 0)) 67 (-1)) m 66 = nI 0 := by rw [am_up_s, am_up_n _ _ (by decide), am_up_s]
  have kf : va_up (va_up (va_up (va_up I m (va_up (va_up (I m) 54 (nI 0)) 1 (nI 1))) (m + 3) (va_up ((va_up I m (va_up (va_up (I m) 54 (nI 0)) 1 (nI 1))) (m + 3)) 0 (nI 0))) (m + 4) (va_up ((va_up (va_up I m (va_up (va_up (I m) 54 (nI 0)) 1 (nI 1))) (m + 3) (va_up ((va_up I m (va_up (va_up (I m) 54 (nI 0)) 1 (nI 1))) (m + 3)) 0 (nI 0))) (m + 4)) 0 (nI 0))) m (va_up (va_up ((va_up (va_up (va_up I m (va_up (va_up (I m) 54 (nI 0)) 1 (nI 1))) (m + 3) (va_up ((va_up I m (va_up (va_up (I m) 54 (nI 0)) 1 (nI 1))) (m + 3)) 0 (nI 0))) (m + 4) (va_up ((va_up (va_up I m (va_up (va_up (I m) 54 (nI 0)) 1 (nI 1))) (m + 3) (va_up ((va_up I m (va_up (va_up (I m) 54 (nI 0)) 1 (nI 1))) (m + 3)) 0 (nI 0))) (m + 4)) 0 (nI 0))) m) 66 (nI 0)) 67 (-1)) m 67 = -1 := by rw [am_up_s, am_up_s]
  generalize va_up (va_up (va_up (va_up I m (va_up (va_up (I m) 54 (nI 0)) 1 (nI 1))) (m + 3) (va_up ((va_up I m (va_up (va_up (I m) 54 (nI 0)) 1 (nI 1))) (m + 3)) 0 (nI 0))) (m + 4) (va_up ((va_up (va_up I m (va_up (va_up (I m) 54 (nI 0)) 1 (nI 1))) (m + 3) (va_up ((va_up I m (va_up (va_up (I m) 54 (nI 0)) 1 (nI 1))) (m + 3)) 0 (nI 0))) (m + 4)) 0 (nI 0))) m (va_up (va_up ((va_up (va_up (va_up I m (va_up (va_up (I m) 54 (nI 0)) 1 (nI 1))) (m + 3) (va_up ((va_up I m (va_up (va_up (I m) 54 (nI 0)) 1 (nI 1))) (m + 3)) 0 (nI 0))) (m + 4) (va_up ((va_up (va_up I m (va_up (va_up (I m) 54 (nI 0)) 1 (nI 1))) (m + 3) (va_up ((va_up I m (va_up (va_up (I m) 54 (nI 0)) 1 (nI 1))) (m + 3)) 0 (nI 0))) (m + 4)) 0 (nI 0))) m) 66 (nI 0)) 67 (-1)) = I2 at k0 k54 k1 kr kb kf ⊢
  have hq2 : bQ m I2 := ⟨k1, by rw [k0 2 (by decide) (by decide) (by decide) (by decide), hm]; rfl, by rw [k0 3 (by decide) (by decide) (by decide) (by decide), hm]; rfl, by rw [k0 47 (by decide) (by decide) (by decide) (by decide), hm]; rfl, k54, by rw [k0 58 (by decide) (by decide) (by decide) (by decide), hm]; rfl, kr⟩
  refine r_aload_n dX10_build_85 rfl ?_
  refine r_virt (c_buildsAll m hM hq2 kb kf) lk_X10_484 mc_X10_buildsAll dX10_build_86 hM.1 (by decide) rfl rfl (Nat.le_of_ble_eq_true rfl) (Nat.le_of_eq (Nat.zero_add _)) (Nat.le_of_eq (Nat.zero_add _)) (fun _ _ _ _ _ _ h => nomatch h.1) ?_
  rintro v n3 kd3 I3 J3 P3 ⟨q0, rfl, rfl, rfl, rfl, hE3, hg3, hf3⟩
  cases q0
  simp only [Option.toList, List.cons_append, List.nil_append]
  have j0 : I3 m 0 = nI 0 := by rw [hE3.2 0 (by decide) (by decide) (by decide) (by decide) (by decide) (by decide) (by decide), k0 0 (by decide) (by decide) (by decide) (by decide), hm]; rfl
  refine r_istore_n dX10_build_89 (by decide) ?_
  refine r_aload_n dX10_build_90 rfl ?_
  refine r_dup dX10_build_91 rfl ?_
  refine r_getI dX10_build_92 fl_X10_350 rfl (kM_0 hM) ?_
  refine r_iconst (v := nI 1) dX10_build_95 (by decide) ?_
  refine r_isub dX10_build_96 ?_
  refine r_putI dX10_build_97 fl_X10_350 rfl rfl (kM_0 hM) ?_
  refine r_aload_n dX10_build_100 rfl ?_
  refine r_iconst (v := (-1)) dX10_build_101 (by decide) ?_
  refine r_putI dX10_build_102 fl_X10_99 rfl rfl (kM_0 hM) ?_
  rw [am_up_s, am_up_up]
  refine r_iload_n dX10_build_105 rfl ?_
  refine r_if_ne (tgt := 112) dX10_build_106 (by decide) (fun _ => ?_) (fun hz => absurd hz (show ¬ _ from (by decide)))
  refine r_iload_n dX10_build_112 rfl ?_
  refine r_if_ne (tgt := 123) dX10_build_113 (by decide) (fun hz => absurd (show _ from (by decide)) hz) (fun _ => ?_)
  refine r_aload_n dX10_build_116 rfl ?_
  refine r_getI dX10_build_117 fl_X10_475 rfl (kM_0 hM) ?_
  rw [am_up_s, am_up_n _ _ (by decide), am_up_n _ _ (by decide), hg3]
  refine r_goto (tgt := 127) dX10_build_120 (by decide) ?_
  refine r_iret rfl dX10_build_127 ?_
  refine ⟨rfl, rfl, rfl, rfl, ?_, rfl⟩
  rw [am_up_s, am_up_n _ _ (by decide), am_up_n _ _ (by decide)]
  exact j0

set_option maxHeartbeats 4000000 in
set_option maxRecDepth 100000 in
theorem q_build_1 (m : Nat) {n : Nat} {kd : mK} {I : mI} {J : mJ} {P : mP} (hF : fsM m kd I J P) : Ct yX10_build cX10_build 3 (some .int) 7 0 0 [.ref m, .int (nI 1)] n kd I J P (pR m n kd I J P (some (.int (nI 1))) 0) := by
  have hM := hF.1
  have hm := hF.2.1
  have m1 : I m 1 = nI 0 := by rw [hm]; rfl
  refine ct_of 1 (by decide +kernel) (Nat.le_of_ble_eq_true rfl) rfl ?_
  refine r_aload_n dX10_build_0 rfl ?_
  refine r_iconst (v := nI 0) dX10_build_1 (by decide) ?_
  refine r_putI dX10_build_2 fl_X10_193 rfl rfl (kM_0 hM) ?_
  rw [hF.th]
  refine r_aload_n dX10_build_5 rfl ?_
  refine r_iload_n dX10_build_6 rfl ?_
  refine r_virtE (c_X10_isTwo m (nI 1) hM (by rw [hm]; rfl)) lk_X10_379 mc_X10_isTwo dX10_build_7 hM.1 (by decide) rfl rfl (Nat.le_of_ble_eq_true rfl) ?_
  rw [show (decide (nI 1 = 0) || decide (nI 1 = nI 1)) = true from by decide]
  rw [thM_ok]
  refine r_if_eq (tgt := 35) dX10_build_10 (by decide) (fun hz => absurd hz (show ¬ _ from (by decide))) (fun _ => ?_)
  refine r_aload_n dX10_build_13 rfl ?_
  refine r_aload_n dX10_build_14 rfl ?_
  refine r_getI dX10_build_15 fl_X10_350 rfl (kM_0 hM) ?_
  rw [m1]
  refine r_bipush (v := nI 8) dX10_build_18 (by decide) ?_
  refine r_icmp_ge (tgt := 27) dX10_build_20 (by decide) (fun hz => absurd hz (show ¬ _ from (by decide))) (fun _ => ?_)
  refine r_iconst (v := nI 1) dX10_build_23 (by decide) ?_
  refine r_goto (tgt := 28) dX10_build_24 (by decide) ?_
  refine r_iconst (v := nI 2) dX10_build_28 (by decide) ?_
  refine r_virtE (c_X10_right m true (nI 2) hM (by rw [hm]; rfl) (by decide)) lk_X10_343 mc_X10_right dX10_build_29 hM.1 (by decide) rfl rfl (Nat.le_of_ble_eq_true rfl) ?_
  rw [thM_ok]
  refine r_if_ne (tgt := 37) dX10_build_32 (by decide) (fun _ => ?_) (fun hz => absurd hz (show ¬ _ from (by decide)))
  refine r_aload_n dX10_build_37 rfl ?_
  refine r_aload_n dX10_build_38 rfl ?_
  refine r_getI dX10_build_39 fl_X10_350 rfl (kM_0 hM) ?_
  rw [m1]
  refine r_putI dX10_build_42 fl_X10_99 rfl rfl (kM_0 hM) ?_
  refine r_aload_n dX10_build_45 rfl ?_
  refine r_dup dX10_build_46 rfl ?_
  refine r_getI dX10_build_47 fl_X10_350 rfl (kM_0 hM) ?_
  rw [show va_up I m (va_up (I m) 54 (nI 0)) m 1 = nI 0 from by rw [am_up_s, am_up_n _ _ (by decide)]; exact m1]
  refine r_iconst (v := nI 1) dX10_build_50 (by decide) ?_
  refine r_iadd dX10_build_51 ?_
  rw [show nI 0 + nI 1 = nI 1 from by decide]
  refine r_putI dX10_build_52 fl_X10_350 rfl rfl (kM_0 hM) ?_
  rw [am_up_s, am_up_up]
  refine r_aload_n dX10_build_55 rfl ?_
  refine r_getR dX10_build_56 fl_X10_20 rfl (kM_0 hM) (pM_6 hM) ?_
  refine r_aload_n dX10_build_59 rfl ?_
  refine r_getI dX10_build_60 fl_X10_99 rfl (kM_0 hM) ?_
  rw [show (va_up I m (va_up (va_up (I m) 54 (nI 0)) 1 (nI 1))) m 54 = nI 0 from by rw [am_up_s, am_up_n _ _ (by decide), am_up_s]]
  refine r_iconst (v := nI 0) dX10_build_63 (by decide) ?_
  refine r_iast dX10_build_64 (aM_6 hM) (nI_in8 8 (j := 0) (by decide) (by decide)) (nI_clamp (n := 0) (by decide)) ?_
  refine r_aload_n dX10_build_65 rfl ?_
  refine r_getR dX10_build_66 fl_X10_23 rfl (kM_0 hM) (pM_7 hM) ?_
  refine r_aload_n dX10_build_69 rfl ?_
  refine r_getI dX10_build_70 fl_X10_99 rfl (kM_0 hM) ?_
  rw [show (va_up (va_up I m (va_up (va_up (I m) 54 (nI 0)) 1 (nI 1))) (m + 3) (va_up ((va_up I m (va_up (va_up (I m) 54 (nI 0)) 1 (nI 1))) (m + 3)) 0 (nI 0))) m 54 = nI 0 from by rw [am_up_n _ _ (by omega), am_up_s, am_up_n _ _ (by decide), am_up_s]]
  refine r_iconst (v := nI 0) dX10_build_73 (by decide) ?_
  refine r_iast dX10_build_74 (aM_7 hM) (nI_in8 8 (j := 0) (by decide) (by decide)) (nI_clamp (n := 0) (by decide)) ?_
  refine r_aload_n dX10_build_75 rfl ?_
  refine r_iconst (v := nI 0) dX10_build_76 (by decide) ?_
  refine r_putI dX10_build_77 fl_X10_475 rfl rfl (kM_0 hM) ?_
  refine r_aload_n dX10_build_80 rfl ?_
  refine r_iconst (v := (-1)) dX10_build_81 (by decide) ?_
  refine r_putI dX10_build_82 fl_X10_478 rfl rfl (kM_0 hM) ?_
  rw [am_up_s, am_up_up]
  have k0 : ∀ j, j ≠ 54 → j ≠ 1 → j ≠ 66 → j ≠ 67 → va_up (va_up (va_up (va_up I m (va_up (va_up (I m) 54 (nI 0)) 1 (nI 1))) (m + 3) (va_up ((va_up I m (va_up (va_up (I m) 54 (nI 0)) 1 (nI 1))) (m + 3)) 0 (nI 0))) (m + 4) (va_up ((va_up (va_up I m (va_up (va_up (I m) 54 (nI 0)) 1 (nI 1))) (m + 3) (va_up ((va_up I m (va_up (va_up (I m) 54 (nI 0)) 1 (nI 1))) (m + 3)) 0 (nI 0))) (m + 4)) 0 (nI 0))) m (va_up (va_up ((va_up (va_up (va_up I m (va_up (va_up (I m) 54 (nI 0)) 1 (nI 1))) (m + 3) (va_up ((va_up I m (va_up (va_up (I m) 54 (nI 0)) 1 (nI 1))) (m + 3)) 0 (nI 0))) (m + 4) (va_up ((va_up (va_up I m (va_up (va_up (I m) 54 (nI 0)) 1 (nI 1))) (m + 3) (va_up ((va_up I m (va_up (va_up (I m) 54 (nI 0)) 1 (nI 1))) (m + 3)) 0 (nI 0))) (m + 4)) 0 (nI 0))) m) 66 (nI 0)) 67 (-1)) m j = I m j := fun j j1 j2 j3 j4 => by rw [am_up_s, am_up_n _ _ j4, am_up_n _ _ j3, am_up_n _ _ (by omega), am_up_n _ _ (by omega), am_up_s, am_up_n _ _ j2, am_up_n _ _ j1]
  have k54 : va_up (va_up (va_up (va_up I m (va_up (va_up (I m) 54 (nI 0)) 1 (nI 1))) (m + 3) (va_up ((va_up I m (va_up (va_up (I m) 54 (nI 0)) 1 (nI 1))) (m + 3)) 0 (nI 0))) (m + 4) (va_up ((va_up (va_up I m (va_up (va_up (I m) 54 (nI 0)) 1 (nI 1))) (m + 3) (va_up ((va_up I m (va_up (va_up (I m) 54 (nI 0)) 1 (nI 1))) (m + 3)) 0 (nI 0))) (m + 4)) 0 (nI 0))) m (va_up (va_up ((va_up (va_up (va_up I m (va_up (va_up (I m) 54 (nI 0)) 1 (nI 1))) (m + 3) (va_up ((va_up I m (va_up (va_up (I m) 54 (nI 0)) 1 (nI 1))) (m + 3)) 0 (nI 0))) (m + 4) (va_up ((va_up (va_up I m (va_up (va_up (I m) 54 (nI 0)) 1 (nI 1))) (m + 3) (va_up ((va_up I m (va_up (va_up (I m) 54 (nI 0)) 1 (nI 1))) (m + 3)) 0 (nI 0))) (m + 4)) 0 (nI 0))) m) 66 (nI 0)) 67 (-1)) m 54 = nI 0 := by rw [am_up_s, am_up_n _ _ (by decide), am_up_n _ _ (by decide), am_up_n _ _ (by omega), am_up_n _ _ (by omega), am_up_s, am_up_n _ _ (by decide), am_up_s]
  have k1 : va_up (va_up (va_up (va_up I m (va_up (va_up (I m) 54 (nI 0)) 1 (nI 1))) (m + 3) (va_up ((va_up I m (va_up (va_up (I m) 54 (nI 0)) 1 (nI 1))) (m + 3)) 0 (nI 0))) (m + 4) (va_up ((va_up (va_up I m (va_up (va_up (I m) 54 (nI 0)) 1 (nI 1))) (m + 3) (va_up ((va_up I m (va_up (va_up (I m) 54 (nI 0)) 1 (nI 1))) (m + 3)) 0 (nI 0))) (m + 4)) 0 (nI 0))) m (va_up (va_up ((va_up (va_up (va_up I m (va_up (va_up (I m) 54 (nI 0)) 1 (nI 1))) (m + 3) (va_up ((va_up I m (va_up (va_up (I m) 54 (nI 0)) 1 (nI 1))) (m + 3)) 0 (nI 0))) (m + 4) (va_up ((va_up (va_up I m (va_up (va_up (I m) 54 (nI 0)) 1 (nI 1))) (m + 3) (va_up ((va_up I m (va_up (va_up (I m) 54 (nI 0)) 1 (nI 1))) (m + 3)) 0 (nI 0))) (m + 4)) 0 (nI 0))) m) 66 (nI 0)) 67 (-1)) m 1 = nI 1 := by rw [am_up_s, am_up_n _ _ (by decide), am_up_n _ _ (by decide), am_up_n _ _ (by omega), am_up_n _ _ (by omega), am_up_s, am_up_s]
  have kr : va_up (va_up (va_up (va_up I m (va_up (va_up (I m) 54 (nI 0)) 1 (nI 1))) (m + 3) (va_up ((va_up I m (va_up (va_up (I m) 54 (nI 0)) 1 (nI 1))) (m + 3)) 0 (nI 0))) (m + 4) (va_up ((va_up (va_up I m (va_up (va_up (I m) 54 (nI 0)) 1 (nI 1))) (m + 3) (va_up ((va_up I m (va_up (va_up (I m) 54 (nI 0)) 1 (nI 1))) (m + 3)) 0 (nI 0))) (m + 4)) 0 (nI 0))) m (va_up (va_up ((va_up (va_up (va_up I m (va_up (va_up (I m) 54 (nI 0)) 1 (nI 1))) (m + 3) (va_up ((va_up I m (va_up (va_up (I m) 54 (nI 0)) 1 (nI 1))) (m + 3)) 0 (nI 0))) (m + 4) (va_up ((va_up (va_up I m (va_up (va_up (I m) 54 (nI 0)) 1 (nI 1))) (m + 3) (va_up ((va_up I m (va_up (va_up (I m) 54 (nI 0)) 1 (nI 1))) (m + 3)) 0 (nI 0))) (m + 4)) 0 (nI 0))) m) 66 (nI 0)) 67 (-1)) (m + 3) 0 = nI 0 := by rw [am_up_n _ _ (by omega), am_up_n _ _ (by omega), am_up_s, am_up_s]
  have kb : va_up (va_up (va_up (va_up I m (va_up (va_up (I m) 54 (nI 0)) 1 (nI 1))) (m + 3) (va_up ((va_up I m (va_up (va_up (I m) 54 (nI 0)) 1 (nI 1))) (m + 3)) 0 (nI 0))) (m + 4) (va_up ((va_up (va_up I m (va_up (va_up (I m) 54 (nI 0)) 1 (nI 1))) (m + 3) (va_up ((va_up I m (va_up (va_up (I m) 54 (nI 0)) 1 (nI 1))) (m + 3)) 0 (nI 0))) (m + 4)) 0 (nI 0))) m (va_up (va_up ((va_up (va_up (va_up I m (va_up (va_up (I m) 54 (nI 0)) 1 (nI 1))) (m + 3) (va_up ((va_up I m (va_up (va_up (I m) 54 (nI 0)) 1 (nI 1))) (m + 3)) 0 (nI 0))) (m + 4) (va_up ((va_up (va_up I m (va_up (va_up (I m) 54 (nI 0)) 1 (nI 1))) (m + 3) (va_up ((va_up I m (va_up (va_up (I m) 54 (nI 0)) 1 (nI 1))) (m + 3)) 0 (nI 0))) (m + 4)) 0 (nI 0))) m) 66 (nI 0)) 67 (-1)) m 66 = nI 0 := by rw [am_up_s, am_up_n _ _ (by decide), am_up_s]
  have kf : va_up (va_up (va_up (va_up I m (va_up (va_up (I m) 54 (nI 0)) 1 (nI 1))) (m + 3) (va_up ((va_up I m (va_up (va_up (I m) 54 (nI 0)) 1 (nI 1))) (m + 3)) 0 (nI 0))) (m + 4) (va_up ((va_up (va_up I m (va_up (va_up (I m) 54 (nI 0)) 1 (nI 1))) (m + 3) (va_up ((va_up I m (va_up (va_up (I m) 54 (nI 0)) 1 (nI 1))) (m + 3)) 0 (nI 0))) (m + 4)) 0 (nI 0))) m (va_up (va_up ((va_up (va_up (va_up I m (va_up (va_up (I m) 54 (nI 0)) 1 (nI 1))) (m + 3) (va_up ((va_up I m (va_up (va_up (I m) 54 (nI 0)) 1 (nI 1))) (m + 3)) 0 (nI 0))) (m + 4) (va_up ((va_up (va_up I m (va_up (va_up (I m) 54 (nI 0)) 1 (nI 1))) (m + 3) (va_up ((va_up I m (va_up (va_up (I m) 54 (nI 0)) 1 (nI 1))) (m + 3)) 0 (nI 0))) (m + 4)) 0 (nI 0))) m) 66 (nI 0)) 67 (-1)) m 67 = -1 := by rw [am_up_s, am_up_s]
  generalize va_up (va_up (va_up (va_up I m (va_up (va_up (I m) 54 (nI 0)) 1 (nI 1))) (m + 3) (va_up ((va_up I m (va_up (va_up (I m) 54 (nI 0)) 1 (nI 1))) (m + 3)) 0 (nI 0))) (m + 4) (va_up ((va_up (va_up I m (va_up (va_up (I m) 54 (nI 0)) 1 (nI 1))) (m + 3) (va_up ((va_up I m (va_up (va_up (I m) 54 (nI 0)) 1 (nI 1))) (m + 3)) 0 (nI 0))) (m + 4)) 0 (nI 0))) m (va_up (va_up ((va_up (va_up (va_up I m (va_up (va_up (I m) 54 (nI 0)) 1 (nI 1))) (m + 3) (va_up ((va_up I m (va_up (va_up (I m) 54 (nI 0)) 1 (nI 1))) (m + 3)) 0 (nI 0))) (m + 4) (va_up ((va_up (va_up I m (va_up (va_up (I m) 54 (nI 0)) 1 (nI 1))) (m + 3) (va_up ((va_up I m (va_up (va_up (I m) 54 (nI 0)) 1 (nI 1))) (m + 3)) 0 (nI 0))) (m + 4)) 0 (nI 0))) m) 66 (nI 0)) 67 (-1)) = I2 at k0 k54 k1 kr kb kf ⊢
  have hq2 : bQ m I2 := ⟨k1, by rw [k0 2 (by decide) (by decide) (by decide) (by decide), hm]; rfl, by rw [k0 3 (by decide) (by decide) (by decide) (by decide), hm]; rfl, by rw [k0 47 (by decide) (by decide) (by decide) (by decide), hm]; rfl, k54, by rw [k0 58 (by decide) (by decide) (by decide) (by decide), hm]; rfl, kr⟩
  refine r_aload_n dX10_build_85 rfl ?_
  refine r_virt (c_buildsAll m hM hq2 kb kf) lk_X10_484 mc_X10_buildsAll dX10_build_86 hM.1 (by decide) rfl rfl (Nat.le_of_ble_eq_true rfl) (Nat.le_of_eq (Nat.zero_add _)) (Nat.le_of_eq (Nat.zero_add _)) (fun _ _ _ _ _ _ h => nomatch h.1) ?_
  rintro v n3 kd3 I3 J3 P3 ⟨q0, rfl, rfl, rfl, rfl, hE3, hg3, hf3⟩
  cases q0
  simp only [Option.toList, List.cons_append, List.nil_append]
  have j0 : I3 m 0 = nI 0 := by rw [hE3.2 0 (by decide) (by decide) (by decide) (by decide) (by decide) (by decide) (by decide), k0 0 (by decide) (by decide) (by decide) (by decide), hm]; rfl
  refine r_istore_n dX10_build_89 (by decide) ?_
  refine r_aload_n dX10_build_90 rfl ?_
  refine r_dup dX10_build_91 rfl ?_
  refine r_getI dX10_build_92 fl_X10_350 rfl (kM_0 hM) ?_
  refine r_iconst (v := nI 1) dX10_build_95 (by decide) ?_
  refine r_isub dX10_build_96 ?_
  refine r_putI dX10_build_97 fl_X10_350 rfl rfl (kM_0 hM) ?_
  refine r_aload_n dX10_build_100 rfl ?_
  refine r_iconst (v := (-1)) dX10_build_101 (by decide) ?_
  refine r_putI dX10_build_102 fl_X10_99 rfl rfl (kM_0 hM) ?_
  rw [am_up_s, am_up_up]
  refine r_iload_n dX10_build_105 rfl ?_
  refine r_if_ne (tgt := 112) dX10_build_106 (by decide) (fun _ => ?_) (fun hz => absurd hz (show ¬ _ from (by decide)))
  refine r_iload_n dX10_build_112 rfl ?_
  refine r_if_ne (tgt := 123) dX10_build_113 (by decide) (fun _ => ?_) (fun hz => absurd hz (show ¬ _ from (by decide)))
  refine r_aload_n dX10_build_123 rfl ?_
  refine r_getI dX10_build_124 fl_X10_478 rfl (kM_0 hM) ?_
  rw [am_up_s, am_up_n _ _ (by decide), am_up_n _ _ (by decide), hf3]
  refine r_iret rfl dX10_build_127 ?_
  refine ⟨rfl, rfl, rfl, rfl, ?_, rfl⟩
  rw [am_up_s, am_up_n _ _ (by decide), am_up_n _ _ (by decide)]
  exact j0

set_option maxHeartbeats 4000000 in
set_option maxRecDepth 100000 in
theorem q_build_no (m : Nat) (x : Int32) {n : Nat} {kd : mK} {I : mI} {J : mJ} {P : mP} (hF : fsM m kd I J P) (h0 : ¬ x = 0) (h1 : ¬ x = nI 1) : Ct yX10_build cX10_build 3 (some .int) 7 0 0 [.ref m, .int x] n kd I J P (pR m n kd I J P (some (.int (nI 0))) 1) := by
  have hM := hF.1
  have hm := hF.2.1
  refine ct_of 1 (by decide +kernel) (Nat.le_of_ble_eq_true rfl) rfl ?_
  refine r_aload_n dX10_build_0 rfl ?_
  refine r_iconst (v := nI 0) dX10_build_1 (by decide) ?_
  refine r_putI dX10_build_2 fl_X10_193 rfl rfl (kM_0 hM) ?_
  rw [hF.th]
  refine r_aload_n dX10_build_5 rfl ?_
  refine r_iload_n dX10_build_6 rfl ?_
  refine r_virtE (c_X10_isTwo m (x) hM (by rw [hm]; rfl)) lk_X10_379 mc_X10_isTwo dX10_build_7 hM.1 (by decide) rfl rfl (Nat.le_of_ble_eq_true rfl) ?_
  rw [show (decide (x = 0) || decide (x = nI 1)) = false from by rw [decide_eq_false h0, decide_eq_false h1]; rfl]
  refine r_if_eq (tgt := 35) dX10_build_10 (by decide) (fun _ => ?_) (fun hz => absurd (show _ from rfl) hz)
  refine r_iconst (v := nI 0) dX10_build_35 (by decide) ?_
  refine r_iret rfl dX10_build_36 ?_
  refine ⟨rfl, rfl, rfl, rfl, ?_, rfl⟩
  simp only [thM, am_up_s, Bool.false_eq_true, if_false]

