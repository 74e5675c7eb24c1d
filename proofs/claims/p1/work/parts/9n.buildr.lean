/-! THE NEW OBJECT: riddles for a first house; the reference -/
def bR (m c : Nat) (I : mI) : Prop := I m 1 = nI 1 ∧ I m 2 = nI 9 ∧ I m 3 = nI 0 ∧ I m 47 = nI 0 ∧ I m 54 = nI 0 ∧ I m 55 = nI 0 ∧ I m 57 = nI c ∧ I m 58 = -1 ∧ I (m + 6) 0 = nI 1
set_option maxHeartbeats 4000000 in
set_option maxRecDepth 100000 in
theorem c_trueB (m c v : Nat) {n : Nat} {kd : mK} {I : mI} {J : mJ} {P : mP} (hM : kM kd P m) (hb : bR m c I) (hv : I (m + 25) 0 = nI v) (hc : c < 100) (hv9 : v < 100) : Ct yX10_isTrue cX10_isTrue 5 (some .boolean) 2 0 0 [.ref m, .int (nI 0)] n kd I J P (am_is (some (.int (bz (decide (v = c))))) n kd I J P) := by
  obtain ⟨g1, g2, g3, g47, g54, gk, gb, g58, g6⟩ := hb
  refine ct_of 3 (by decide +kernel) (Nat.le_of_ble_eq_true rfl) rfl ?_
  by_cases e : v = c
  · rw [decide_eq_true e]
    refine r_iload_n dX10_isTrue_0 rfl ?_
    refine r_aload_n dX10_isTrue_1 rfl ?_
    refine r_getI dX10_isTrue_2 fl_X10_99 rfl (kM_0 hM) ?_
    rw [g54]
    refine r_icmp_ne (tgt := 76) dX10_isTrue_5 (by decide) (fun hz => absurd (show _ from rfl) hz) (fun _ => ?_)
    refine r_aload_n dX10_isTrue_8 rfl ?_
    refine r_getR dX10_isTrue_9 fl_X10_90 rfl (kM_0 hM) (pM_49 hM) ?_
    refine r_iload_n dX10_isTrue_12 rfl ?_
    refine r_iald dX10_isTrue_13 (aM_49 hM) (nI_in8 8 (j := 0) (by decide) (by decide)) (nI_clamp (n := 0) (by decide)) ?_
    rw [hv]
    refine r_aload_n dX10_isTrue_14 rfl ?_
    refine r_getI dX10_isTrue_15 fl_X10_393 rfl (kM_0 hM) ?_
    rw [gk]
    refine r_if_ne (tgt := 28) dX10_isTrue_18 (by decide) (fun hz => absurd (show _ from rfl) hz) (fun _ => ?_)
    refine r_aload_n dX10_isTrue_21 rfl ?_
    refine r_getI dX10_isTrue_22 fl_X10_396 rfl (kM_0 hM) ?_
    rw [gb]
    refine r_goto (tgt := 67) dX10_isTrue_25 (by decide) ?_
    refine r_icmp_ne (tgt := 74) dX10_isTrue_67 (by decide) (fun hz => absurd (show _ from (by rw [e])) hz) (fun _ => ?_)
    refine r_iconst (v := nI 1) dX10_isTrue_70 (by decide) ?_
    refine r_goto (tgt := 75) dX10_isTrue_71 (by decide) ?_
    refine r_zret rfl dX10_isTrue_75 (by first | exact Or.inl rfl | exact Or.inr rfl | assumption) ?_
    exact am_is.mk
  · rw [decide_eq_false e]
    refine r_iload_n dX10_isTrue_0 rfl ?_
    refine r_aload_n dX10_isTrue_1 rfl ?_
    refine r_getI dX10_isTrue_2 fl_X10_99 rfl (kM_0 hM) ?_
    rw [g54]
    refine r_icmp_ne (tgt := 76) dX10_isTrue_5 (by decide) (fun hz => absurd (show _ from rfl) hz) (fun _ => ?_)
    refine r_aload_n dX10_isTrue_8 rfl ?_
    refine r_getR dX10_isTrue_9 fl_X10_90 rfl (kM_0 hM) (pM_49 hM) ?_
    refine r_iload_n dX10_isTrue_12 rfl ?_
    refine r_iald dX10_isTrue_13 (aM_49 hM) (nI_in8 8 (j := 0) (by decide) (by decide)) (nI_clamp (n := 0) (by decide)) ?_
    rw [hv]
    refine r_aload_n dX10_isTrue_14 rfl ?_
    refine r_getI dX10_isTrue_15 fl_X10_393 rfl (kM_0 hM) ?_
    rw [gk]
    refine r_if_ne (tgt := 28) dX10_isTrue_18 (by decide) (fun hz => absurd (show _ from rfl) hz) (fun _ => ?_)
    refine r_aload_n dX10_isTrue_21 rfl ?_
    refine r_getI dX10_isTrue_22 fl_X10_396 rfl (kM_0 hM) ?_
    rw [gb]
    refine r_goto (tgt := 67) dX10_isTrue_25 (by decide) ?_
    refine r_icmp_ne (tgt := 74) dX10_isTrue_67 (by decide) (fun _ => ?_) (fun hz => absurd hz (show ¬ _ from (fun q => e ((nI_eq (by omega) (by omega)).mp q))))
    refine r_iconst (v := nI 0) dX10_isTrue_74 (by decide) ?_
    refine r_zret rfl dX10_isTrue_75 (by first | exact Or.inl rfl | exact Or.inr rfl | assumption) ?_
    exact am_is.mk

set_option maxHeartbeats 4000000 in
set_option maxRecDepth 100000 in
theorem c_allowB (m c v : Nat) {n : Nat} {kd : mK} {I : mI} {J : mJ} {P : mP} (hM : kM kd P m) (hb : bR m c I) (hv : I (m + 25) 0 = nI v) (hc : c < 100) (hv9 : v < 100) : Ct yX10_isAllowed cX10_isAllowed 5 (some .boolean) 3 0 0 [.ref m, .int (nI 0), .int (nI 1), .int (nI 1)] n kd I J P (am_is (some (.int (bz (decide (v = c))))) n kd I J P) := by
  have hb0 := hb
  obtain ⟨g1, g2, g3, g47, g54, gk, gb, g58, g6⟩ := hb
  refine ct_of 1 (by decide +kernel) (Nat.le_of_ble_eq_true rfl) rfl ?_
  by_cases e : v = c
  · rw [decide_eq_true e]
    refine r_iconst (v := nI 0) dX10_isAllowed_0 (by decide) ?_
    refine r_istore dX10_isAllowed_1 (by decide) ?_
    refine r_iload dX10_isAllowed_3 rfl ?_
    refine r_aload_n dX10_isAllowed_5 rfl ?_
    refine r_getI dX10_isAllowed_6 fl_X10_363 rfl (kM_0 hM) ?_
    rw [g47]
    refine r_icmp_ge (tgt := 57) dX10_isAllowed_9 (by decide) (fun _ => ?_) (fun hz => absurd (show _ from (by decide)) hz)
    refine r_iconst (v := nI 0) dX10_isAllowed_57 (by decide) ?_
    refine r_istore dX10_isAllowed_58 (by decide) ?_
    refine r_iload dX10_isAllowed_60 rfl ?_
    refine r_iload_n dX10_isAllowed_62 rfl ?_
    refine r_icmp_ge (tgt := 97) dX10_isAllowed_63 (by decide) (fun _ => ?_) (fun hz => absurd (show _ from (by decide)) hz)
    refine r_iconst (v := nI 0) dX10_isAllowed_97 (by decide) ?_
    refine r_istore dX10_isAllowed_98 (by decide) ?_
    refine r_iload dX10_isAllowed_100 rfl ?_
    refine r_aload_n dX10_isAllowed_102 rfl ?_
    refine r_getI dX10_isAllowed_103 fl_X10_350 rfl (kM_0 hM) ?_
    rw [g1]
    refine r_icmp_ge (tgt := 146) dX10_isAllowed_106 (by decide) (fun hz => absurd hz (show ¬ _ from (by decide))) (fun _ => ?_)
    refine r_iload_n dX10_isAllowed_109 rfl ?_
    refine r_iload dX10_isAllowed_110 rfl ?_
    refine r_ishr dX10_isAllowed_112 ?_
    refine r_iconst (v := nI 1) dX10_isAllowed_113 (by decide) ?_
    refine r_iand dX10_isAllowed_114 ?_
    refine r_iconst (v := nI 1) dX10_isAllowed_115 (by decide) ?_
    refine r_icmp_ne (tgt := 140) dX10_isAllowed_116 (by decide) (fun hz => absurd (show _ from (by decide)) hz) (fun _ => ?_)
    refine r_aload_n dX10_isAllowed_119 rfl ?_
    refine r_iload dX10_isAllowed_120 rfl ?_
    refine r_virtE (c_X10_askedAt m 0 1 1 hM (by decide) (by decide) g1 (by rw [g6, g1]; decide) (by decide)) lk_X10_426 mc_X10_askedAt dX10_isAllowed_122 hM.1 (by decide) rfl rfl (Nat.le_of_ble_eq_true rfl) ?_
    rw [show awS 1 0 = 0 from by decide]
    refine r_iload_n dX10_isAllowed_125 rfl ?_
    refine r_icmp_ne (tgt := 140) dX10_isAllowed_126 (by decide) (fun hz => absurd (show _ from rfl) hz) (fun _ => ?_)
    refine r_aload_n dX10_isAllowed_129 rfl ?_
    refine r_iload dX10_isAllowed_130 rfl ?_
    refine r_virtE (c_trueB m c v hM hb0 hv hc hv9) lk_X10_410 mc_X10_isTrue dX10_isAllowed_132 hM.1 (by decide) rfl rfl (Nat.le_of_ble_eq_true rfl) ?_
    rw [decide_eq_true e]
    refine r_if_ne (tgt := 140) dX10_isAllowed_135 (by decide) (fun _ => ?_) (fun hz => absurd hz (show ¬ _ from (by decide)))
    refine r_iinc (v := nI 1) dX10_isAllowed_140 rfl (by decide) ?_
    refine r_goto (tgt := 100) dX10_isAllowed_143 (by decide) ?_
    refine r_iload dX10_isAllowed_100 rfl ?_
    refine r_aload_n dX10_isAllowed_102 rfl ?_
    refine r_getI dX10_isAllowed_103 fl_X10_350 rfl (kM_0 hM) ?_
    rw [g1]
    refine r_icmp_ge (tgt := 146) dX10_isAllowed_106 (by decide) (fun _ => ?_) (fun hz => absurd (show _ from (by decide)) hz)
    refine r_iconst (v := nI 1) dX10_isAllowed_146 (by decide) ?_
    refine r_zret rfl dX10_isAllowed_147 (by first | exact Or.inl rfl | exact Or.inr rfl | assumption) ?_
    exact am_is.mk
  · rw [decide_eq_false e]
    refine r_iconst (v := nI 0) dX10_isAllowed_0 (by decide) ?_
    refine r_istore dX10_isAllowed_1 (by decide) ?_
    refine r_iload dX10_isAllowed_3 rfl ?_
    refine r_aload_n dX10_isAllowed_5 rfl ?_
    refine r_getI dX10_isAllowed_6 fl_X10_363 rfl (kM_0 hM) ?_
    rw [g47]
    refine r_icmp_ge (tgt := 57) dX10_isAllowed_9 (by decide) (fun _ => ?_) (fun hz => absurd (show _ from (by decide)) hz)
    refine r_iconst (v := nI 0) dX10_isAllowed_57 (by decide) ?_
    refine r_istore dX10_isAllowed_58 (by decide) ?_
    refine r_iload dX10_isAllowed_60 rfl ?_
    refine r_iload_n dX10_isAllowed_62 rfl ?_
    refine r_icmp_ge (tgt := 97) dX10_isAllowed_63 (by decide) (fun _ => ?_) (fun hz => absurd (show _ from (by decide)) hz)
    refine r_iconst (v := nI 0) dX10_isAllowed_97 (by decide) ?_
    refine r_istore dX10_isAllowed_98 (by decide) ?_
    refine r_iload dX10_isAllowed_100 rfl ?_
    refine r_aload_n dX10_isAllowed_102 rfl ?_
    refine r_getI dX10_isAllowed_103 fl_X10_350 rfl (kM_0 hM) ?_
    rw [g1]
    refine r_icmp_ge (tgt := 146) dX10_isAllowed_106 (by decide) (fun hz => absurd hz (show ¬ _ from (by decide))) (fun _ => ?_)
    refine r_iload_n dX10_isAllowed_109 rfl ?_
    refine r_iload dX10_isAllowed_110 rfl ?_
    refine r_ishr dX10_isAllowed_112 ?_
    refine r_iconst (v := nI 1) dX10_isAllowed_113 (by decide) ?_
    refine r_iand dX10_isAllowed_114 ?_
    refine r_iconst (v := nI 1) dX10_isAllowed_115 (by decide) ?_
    refine r_icmp_ne (tgt := 140) dX10_isAllowed_116 (by decide) (fun hz => absurd (show _ from (by decide)) hz) (fun _ => ?_)
    refine r_aload_n dX10_isAllowed_119 rfl ?_
    refine r_iload dX10_isAllowed_120 rfl ?_
    refine r_virtE (c_X10_askedAt m 0 1 1 hM (by decide) (by decide) g1 (by rw [g6, g1]; decide) (by decide)) lk_X10_426 mc_X10_askedAt dX10_isAllowed_122 hM.1 (by decide) rfl rfl (Nat.le_of_ble_eq_true rfl) ?_
    rw [show awS 1 0 = 0 from by decide]
    refine r_iload_n dX10_isAllowed_125 rfl ?_
    refine r_icmp_ne (tgt := 140) dX10_isAllowed_126 (by decide) (fun hz => absurd (show _ from rfl) hz) (fun _ => ?_)
    refine r_aload_n dX10_isAllowed_129 rfl ?_
    refine r_iload dX10_isAllowed_130 rfl ?_
    refine r_virtE (c_trueB m c v hM hb0 hv hc hv9) lk_X10_410 mc_X10_isTrue dX10_isAllowed_132 hM.1 (by decide) rfl rfl (Nat.le_of_ble_eq_true rfl) ?_
    rw [decide_eq_false e]
    refine r_if_ne (tgt := 140) dX10_isAllowed_135 (by decide) (fun hz => absurd (show _ from rfl) hz) (fun _ => ?_)
    refine r_iconst (v := nI 0) dX10_isAllowed_138 (by decide) ?_
    refine r_zret rfl dX10_isAllowed_139 (by first | exact Or.inl rfl | exact Or.inr rfl | assumption) ?_
    exact am_is.mk

def bF (m : Nat) (I I' : mI) : Prop := (∀ a, a ≠ m → a ≠ m + 25 → a ≠ m + 27 → I' a = I a) ∧ (∀ j, j ≠ 52 → j ≠ 53 → I' m j = I m j)
theorem bF.rf {m : Nat} {I : mI} : bF m I I := ⟨fun _ _ _ _ => rfl, fun _ _ _ => rfl⟩
theorem bF.tr {m : Nat} {I I1 I2 : mI} (h : bF m I I1) (g : bF m I1 I2) : bF m I I2 := ⟨fun a x y z => (g.1 a x y z).trans (h.1 a x y z), fun j x y => (g.2 j x y).trans (h.2 j x y)⟩
theorem bR.fr {m c : Nat} {I I' : mI} (h : bF m I I') (hb : bR m c I) : bR m c I' := by
  unfold bR at hb ⊢
  rw [h.2 1 (by decide) (by decide), h.2 2 (by decide) (by decide), h.2 3 (by decide) (by decide), h.2 47 (by decide) (by decide), h.2 54 (by decide) (by decide), h.2 55 (by decide) (by decide), h.2 57 (by decide) (by decide), h.2 58 (by decide) (by decide), h.1 (m + 6) (by omega) (by omega) (by omega)]
  exact hb
def bsG (n : Nat) (kd : mK) (I : mI) (J : mJ) (P : mP) (m : Nat) : am_Post := fun z n' kd' I' J' P' => z = .inl (some (.int (nI 1))) ∧ n' = n ∧ kd' = kd ∧ J' = J ∧ P' = P ∧ bF m I I' ∧ I' m 52 = nI 1
set_option maxHeartbeats 4000000 in
set_option maxRecDepth 100000 in
theorem bs_loop (m c : Nat) {n : Nat} {kd : mK} {I0 : mI} {J : mJ} {P : mP} (hM : kM kd P m) (hc1 : 1 ≤ c) (hc : c ≤ 9) : ∀ (cnt v : Nat) (z : Option Value) (I : mI), v + cnt = 9 → bR m c I → I (m + 25) 0 = nI v → I m 53 = nI v → I m 52 = nI (if c ≤ v then 1 else 0) → bF m I0 I → Ru yX10_seeks.cls cX10_seeks 6 (some .boolean) yX10_seeks.name 4 (bsG n kd I0 J P m) 0 0 34 [some (.ref m), some (.int (nI 1)), some (.int (nI 1)), some (.int (nI 2)), some (.int (nI 0)), z] [] n kd I J P := by
  intro cnt
  induction cnt with
  | zero =>
    intro v z I hi hb hv h53 h52 hF
    have ev : v = 9 := by omega
    subst ev
    obtain ⟨g1, g2, g3, g47, g54, gk, gb, g58, g6⟩ := hb
    refine r_iload dX10_seeks_34 rfl ?_
    refine r_if_lt (tgt := 239) dX10_seeks_36 (by decide) (fun hz => absurd hz (show ¬ _ from (by decide))) (fun _ => ?_)
    refine r_iload dX10_seeks_39 rfl ?_
    refine r_aload_n dX10_seeks_41 rfl ?_
    refine r_getI dX10_seeks_42 fl_X10_102 rfl (kM_0 hM) ?_
    rw [g58]
    refine r_icmp_ne (tgt := 75) dX10_seeks_45 (by decide) (fun _ => ?_) (fun hz => absurd hz (show ¬ _ from (by decide)))
    refine r_aload_n dX10_seeks_75 rfl ?_
    refine r_getR dX10_seeks_76 fl_X10_90 rfl (kM_0 hM) (pM_49 hM) ?_
    refine r_iload dX10_seeks_79 rfl ?_
    refine r_iald dX10_seeks_81 (aM_49 hM) (nI_in8 8 (j := 0) (by decide) (by decide)) (nI_clamp (n := 0) (by decide)) ?_
    rw [hv]
    refine r_aload_n dX10_seeks_82 rfl ?_
    refine r_getI dX10_seeks_83 fl_X10_7 rfl (kM_0 hM) ?_
    rw [g2]
    refine r_icmp_ne (tgt := 95) dX10_seeks_86 (by decide) (fun hz => absurd (show _ from rfl) hz) (fun _ => ?_)
    refine r_iinc (v := -1) dX10_seeks_89 rfl (by decide) ?_
    refine r_goto (tgt := 34) dX10_seeks_92 (by decide) ?_
    refine r_iload dX10_seeks_34 rfl ?_
    refine r_if_lt (tgt := 239) dX10_seeks_36 (by decide) (fun _ => ?_) (fun hz => absurd (show _ from (by decide)) hz)
    refine r_iconst (v := nI 1) dX10_seeks_239 (by decide) ?_
    refine r_zret rfl dX10_seeks_240 (by first | exact Or.inl rfl | exact Or.inr rfl | assumption) ?_
    exact ⟨rfl, rfl, rfl, rfl, rfl, hF, by rw [h52, if_pos (by omega)]⟩
  | succ cnt ih =>
    intro v z I hi hb hv h53 h52 hF
    have hb0 := hb
    obtain ⟨g1, g2, g3, g47, g54, gk, gb, g58, g6⟩ := hb
    refine r_iload dX10_seeks_34 rfl ?_
    refine r_if_lt (tgt := 239) dX10_seeks_36 (by decide) (fun hz => absurd hz (show ¬ _ from (by decide))) (fun _ => ?_)
    refine r_iload dX10_seeks_39 rfl ?_
    refine r_aload_n dX10_seeks_41 rfl ?_
    refine r_getI dX10_seeks_42 fl_X10_102 rfl (kM_0 hM) ?_
    rw [g58]
    refine r_icmp_ne (tgt := 75) dX10_seeks_45 (by decide) (fun _ => ?_) (fun hz => absurd hz (show ¬ _ from (by decide)))
    refine r_aload_n dX10_seeks_75 rfl ?_
    refine r_getR dX10_seeks_76 fl_X10_90 rfl (kM_0 hM) (pM_49 hM) ?_
    refine r_iload dX10_seeks_79 rfl ?_
    refine r_iald dX10_seeks_81 (aM_49 hM) (nI_in8 8 (j := 0) (by decide) (by decide)) (nI_clamp (n := 0) (by decide)) ?_
    rw [hv]
    refine r_aload_n dX10_seeks_82 rfl ?_
    refine r_getI dX10_seeks_83 fl_X10_7 rfl (kM_0 hM) ?_
    rw [g2]
    refine r_icmp_ne (tgt := 95) dX10_seeks_86 (by decide) (fun _ => ?_) (fun hz => absurd hz (show ¬ _ from (by rw [nI_eq (by omega) (by omega)]; omega)))
    refine r_aload_n dX10_seeks_95 rfl ?_
    refine r_getI dX10_seeks_96 fl_X10_416 rfl (kM_0 hM) ?_
    rw [h53]
    refine r_sipush (v := nI 20000) dX10_seeks_99 (by decide) ?_
    refine r_icmp_ne (tgt := 107) dX10_seeks_102 (by decide) (fun _ => ?_) (fun hz => absurd hz (show ¬ _ from (by rw [nI_eq (by omega) (by omega)]; omega)))
    refine r_aload_n dX10_seeks_107 rfl ?_
    refine r_getR dX10_seeks_108 fl_X10_90 rfl (kM_0 hM) (pM_49 hM) ?_
    refine r_iload dX10_seeks_111 rfl ?_
    refine r_dup2 dX10_seeks_113 rfl rfl ?_
    refine r_iald dX10_seeks_114 (aM_49 hM) (nI_in8 8 (j := 0) (by decide) (by decide)) (nI_clamp (n := 0) (by decide)) ?_
    rw [hv]
    refine r_iconst (v := nI 1) dX10_seeks_115 (by decide) ?_
    refine r_iadd dX10_seeks_116 ?_
    rw [nI_add]
    refine r_iast dX10_seeks_117 (aM_49 hM) (nI_in8 8 (j := 0) (by decide) (by decide)) (nI_clamp (n := 0) (by decide)) ?_
    refine r_aload_n dX10_seeks_118 rfl ?_
    refine r_dup dX10_seeks_119 rfl ?_
    refine r_getI dX10_seeks_120 fl_X10_416 rfl (kM_0 hM) ?_
    rw [show (va_up I (m + 25) (va_up (I (m + 25)) 0 (nI (v + 1)))) m 53 = nI v from by rw [am_up_n _ _ (by omega)]; exact h53]
    refine r_iconst (v := nI 1) dX10_seeks_123 (by decide) ?_
    refine r_iadd dX10_seeks_124 ?_
    rw [nI_add]
    refine r_putI dX10_seeks_125 fl_X10_416 rfl rfl (kM_0 hM) ?_
    have hF2 : bF m I (va_up (va_up I (m + 25) (va_up (I (m + 25)) 0 (nI (v + 1)))) m (va_up ((va_up I (m + 25) (va_up (I (m + 25)) 0 (nI (v + 1)))) m) 53 (nI (v + 1)))) := ⟨fun a a1 a2 _ => by rw [am_up_n _ _ a1, am_up_n _ _ a2], fun j _ j2 => by rw [am_up_s, am_up_n _ _ j2, am_up_n _ _ (by omega)]⟩
    have hv2 : (va_up (va_up I (m + 25) (va_up (I (m + 25)) 0 (nI (v + 1)))) m (va_up ((va_up I (m + 25) (va_up (I (m + 25)) 0 (nI (v + 1)))) m) 53 (nI (v + 1)))) (m + 25) 0 = nI (v + 1) := by rw [am_up_n _ _ (by omega), am_up_s, am_up_s]
    have h532 : (va_up (va_up I (m + 25) (va_up (I (m + 25)) 0 (nI (v + 1)))) m (va_up ((va_up I (m + 25) (va_up (I (m + 25)) 0 (nI (v + 1)))) m) 53 (nI (v + 1)))) m 53 = nI (v + 1) := by rw [am_up_s, am_up_s]
    have h522 : (va_up (va_up I (m + 25) (va_up (I (m + 25)) 0 (nI (v + 1)))) m (va_up ((va_up I (m + 25) (va_up (I (m + 25)) 0 (nI (v + 1)))) m) 53 (nI (v + 1)))) m 52 = nI (if c ≤ v then 1 else 0) := by rw [am_up_s, am_up_n _ _ (by decide), am_up_n _ _ (by omega)]; exact h52
    generalize (va_up (va_up I (m + 25) (va_up (I (m + 25)) 0 (nI (v + 1)))) m (va_up ((va_up I (m + 25) (va_up (I (m + 25)) 0 (nI (v + 1)))) m) 53 (nI (v + 1)))) = I2 at hF2 hv2 h532 h522 ⊢
    have hb2 := hb0.fr hF2
    have hF3 := hF.tr hF2
    refine r_aload_n dX10_seeks_128 rfl ?_
    refine r_iload dX10_seeks_129 rfl ?_
    refine r_iload_n dX10_seeks_131 rfl ?_
    refine r_iload_n dX10_seeks_132 rfl ?_
    refine r_virtE (c_allowB m c (v + 1) hM hb2 hv2 (by omega) (by omega)) lk_X10_422 mc_X10_isAllowed dX10_seeks_133 hM.1 (by decide) rfl rfl (Nat.le_of_ble_eq_true rfl) ?_
    have hb3 := hb2
    obtain ⟨g1', g2', g3', g47', g54', gk', gb', g58', g6'⟩ := hb2
    by_cases e : v + 1 = c
    · rw [decide_eq_true e]
      refine r_if_ne (tgt := 142) dX10_seeks_136 (by decide) (fun _ => ?_) (fun hz => absurd hz (show ¬ _ from (by decide)))
      refine r_iload dX10_seeks_142 rfl ?_
      refine r_aload_n dX10_seeks_144 rfl ?_
      refine r_getI dX10_seeks_145 fl_X10_350 rfl (kM_0 hM) ?_
      rw [g1']
      refine r_iconst (v := nI 1) dX10_seeks_148 (by decide) ?_
      refine r_isub dX10_seeks_149 ?_
      refine r_icmp_ge (tgt := 167) dX10_seeks_150 (by decide) (fun _ => ?_) (fun hz => absurd (show _ from (by decide)) hz)
      refine r_aload_n dX10_seeks_167 rfl ?_
      refine r_getI dX10_seeks_168 fl_X10_413 rfl (kM_0 hM) ?_
      rw [h522, if_neg (by omega)]
      refine r_sipush (v := nI 1000) dX10_seeks_171 (by decide) ?_
      refine r_icmp_ne (tgt := 179) dX10_seeks_174 (by decide) (fun _ => ?_) (fun hz => absurd hz (show ¬ _ from (by decide)))
      refine r_iconst (v := nI 0) dX10_seeks_179 (by decide) ?_
      refine r_istore dX10_seeks_180 (by decide) ?_
      refine r_iload dX10_seeks_182 rfl ?_
      refine r_aload_n dX10_seeks_184 rfl ?_
      refine r_getI dX10_seeks_185 fl_X10_350 rfl (kM_0 hM) ?_
      rw [g1']
      refine r_icmp_ge (tgt := 219) dX10_seeks_188 (by decide) (fun hz => absurd hz (show ¬ _ from (by decide))) (fun _ => ?_)
      refine r_aload_n dX10_seeks_191 rfl ?_
      refine r_getR dX10_seeks_192 fl_X10_96 rfl (kM_0 hM) (pM_51 hM) ?_
      refine r_bipush (v := nI 8) dX10_seeks_195 (by decide) ?_
      refine r_aload_n dX10_seeks_197 rfl ?_
      refine r_getI dX10_seeks_198 fl_X10_413 rfl (kM_0 hM) ?_
      rw [h522, if_neg (by omega)]
      refine r_imul dX10_seeks_201 ?_
      refine r_iload dX10_seeks_202 rfl ?_
      refine r_iadd dX10_seeks_204 ?_
      rw [show nI 8 * nI 0 + nI 0 = nI 0 from by decide]
      refine r_aload_n dX10_seeks_205 rfl ?_
      refine r_getR dX10_seeks_206 fl_X10_90 rfl (kM_0 hM) (pM_49 hM) ?_
      refine r_iload dX10_seeks_209 rfl ?_
      refine r_iald dX10_seeks_211 (aM_49 hM) (nI_in8 8 (j := 0) (by decide) (by decide)) (nI_clamp (n := 0) (by decide)) ?_
      rw [hv2]
      refine r_iast dX10_seeks_212 (aM_51 hM) (nI_in8 8000 (j := 0) (by decide) (by decide)) (nI_clamp (n := 0) (by decide)) ?_
      refine r_iinc (v := nI 1) dX10_seeks_213 rfl (by decide) ?_
      refine r_goto (tgt := 182) dX10_seeks_216 (by decide) ?_
      refine r_iload dX10_seeks_182 rfl ?_
      refine r_aload_n dX10_seeks_184 rfl ?_
      refine r_getI dX10_seeks_185 fl_X10_350 rfl (kM_0 hM) ?_
      rw [show (va_up I2 (m + 27) (va_up (I2 (m + 27)) 0 (nI (v + 1)))) m 1 = nI 1 from by rw [am_up_n _ _ (by omega)]; exact g1']
      refine r_icmp_ge (tgt := 219) dX10_seeks_188 (by decide) (fun _ => ?_) (fun hz => absurd (show _ from (by decide)) hz)
      refine r_aload_n dX10_seeks_219 rfl ?_
      refine r_dup dX10_seeks_220 rfl ?_
      refine r_getI dX10_seeks_221 fl_X10_413 rfl (kM_0 hM) ?_
      rw [show (va_up I2 (m + 27) (va_up (I2 (m + 27)) 0 (nI (v + 1)))) m 52 = nI 0 from by rw [am_up_n _ _ (by omega), h522, if_neg (by omega)]]
      refine r_iconst (v := nI 1) dX10_seeks_224 (by decide) ?_
      refine r_iadd dX10_seeks_225 ?_
      rw [show nI 0 + nI 1 = nI 1 from by decide]
      refine r_putI dX10_seeks_226 fl_X10_413 rfl rfl (kM_0 hM) ?_
      refine r_aload_n dX10_seeks_229 rfl ?_
      refine r_getI dX10_seeks_230 fl_X10_413 rfl (kM_0 hM) ?_
      rw [show (va_up (va_up I2 (m + 27) (va_up (I2 (m + 27)) 0 (nI (v + 1)))) m (va_up ((va_up I2 (m + 27) (va_up (I2 (m + 27)) 0 (nI (v + 1)))) m) 52 (nI 1))) m 52 = nI 1 from by rw [am_up_s, am_up_s]]
      refine r_iload_n dX10_seeks_233 rfl ?_
      refine r_icmp_ne (tgt := 34) dX10_seeks_234 (by decide) (fun _ => ?_) (fun hz => absurd hz (show ¬ _ from (by decide)))
      have hF4 : bF m I2 (va_up (va_up I2 (m + 27) (va_up (I2 (m + 27)) 0 (nI (v + 1)))) m (va_up ((va_up I2 (m + 27) (va_up (I2 (m + 27)) 0 (nI (v + 1)))) m) 52 (nI 1))) := ⟨fun a a1 _ a3 => by rw [am_up_n _ _ a1, am_up_n _ _ a3], fun j j1 _ => by rw [am_up_s, am_up_n _ _ j1, am_up_n _ _ (by omega)]⟩
      exact ih (v + 1) _ _ (by omega) (hb3.fr hF4) (by rw [am_up_n _ _ (by omega), am_up_n _ _ (by omega)]; exact hv2) (by rw [am_up_s, am_up_n _ _ (by decide), am_up_n _ _ (by omega)]; exact h532) (by rw [am_up_s, am_up_s, if_pos (by omega)]) (hF3.tr hF4)
    · rw [decide_eq_false e]
      refine r_if_ne (tgt := 142) dX10_seeks_136 (by decide) (fun hz => absurd (show _ from rfl) hz) (fun _ => ?_)
      refine r_goto (tgt := 34) dX10_seeks_139 (by decide) ?_
      exact ih (v + 1) _ _ (by omega) hb3 hv2 h532 (by rw [h522]; by_cases q : c ≤ v; rw [if_pos q, if_pos (by omega)]; rw [if_neg q, if_neg (by omega)]) hF3

set_option maxHeartbeats 4000000 in
set_option maxRecDepth 100000 in
theorem c_seeksB (m c : Nat) {n : Nat} {kd : mK} {I : mI} {J : mJ} {P : mP} (hM : kM kd P m) (hb : bR m c I) (hc1 : 1 ≤ c) (hc : c ≤ 9) : Ct yX10_seeks cX10_seeks 6 (some .boolean) 4 0 0 [.ref m, .int (nI 1), .int (nI 1), .int (nI 2)] n kd I J P (bsG n kd I J P m) := by
  have hb0 := hb
  obtain ⟨g1, g2, g3, g47, g54, gk, gb, g58, g6⟩ := hb
  refine ct_of 2 (by decide +kernel) (Nat.le_of_ble_eq_true rfl) rfl ?_
  refine r_aload_n dX10_seeks_0 rfl ?_
  refine r_iconst (v := nI 0) dX10_seeks_1 (by decide) ?_
  refine r_putI dX10_seeks_2 fl_X10_413 rfl rfl (kM_0 hM) ?_
  refine r_aload_n dX10_seeks_5 rfl ?_
  refine r_iconst (v := nI 0) dX10_seeks_6 (by decide) ?_
  refine r_putI dX10_seeks_7 fl_X10_416 rfl rfl (kM_0 hM) ?_
  rw [am_up_s, am_up_up]
  refine r_aload_n dX10_seeks_10 rfl ?_
  refine r_getI dX10_seeks_11 fl_X10_350 rfl (kM_0 hM) ?_
  rw [show va_up I m (va_up (va_up (I m) 52 (nI 0)) 53 (nI 0)) m 1 = nI 1 from by rw [am_up_s, am_up_n _ _ (by decide), am_up_n _ _ (by decide)]; exact g1]
  refine r_if_ne (tgt := 24) dX10_seeks_14 (by decide) (fun _ => ?_) (fun hz => absurd hz (show ¬ _ from (by decide)))
  refine r_iconst (v := nI 0) dX10_seeks_24 (by decide) ?_
  refine r_istore dX10_seeks_25 (by decide) ?_
  refine r_aload_n dX10_seeks_27 rfl ?_
  refine r_getR dX10_seeks_28 fl_X10_90 rfl (kM_0 hM) (pM_49 hM) ?_
  refine r_iconst (v := nI 0) dX10_seeks_31 (by decide) ?_
  refine r_iconst (v := nI 0) dX10_seeks_32 (by decide) ?_
  refine r_iast dX10_seeks_33 (aM_49 hM) (nI_in8 8 (j := 0) (by decide) (by decide)) (nI_clamp (n := 0) (by decide)) ?_
  have hF1 : bF m I (va_up (va_up I m (va_up (va_up (I m) 52 (nI 0)) 53 (nI 0))) (m + 25) (va_up (va_up I m (va_up (va_up (I m) 52 (nI 0)) 53 (nI 0)) (m + 25)) 0 (nI 0))) := ⟨fun a a1 a2 _ => by rw [am_up_n _ _ a2, am_up_n _ _ a1], fun j j1 j2 => by rw [am_up_n _ _ (by omega), am_up_s, am_up_n _ _ j2, am_up_n _ _ j1]⟩
  exact bs_loop m c hM hc1 hc 9 0 none _ (by omega) (hb0.fr hF1) (by rw [am_up_s, am_up_s]) (by rw [am_up_n _ _ (by omega), am_up_s, am_up_s]) (by rw [am_up_n _ _ (by omega), am_up_s, am_up_n _ _ (by decide), am_up_s, if_neg (by omega)]) hF1

