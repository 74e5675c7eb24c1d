/-! BUILD: the reference, all new riddles -/
def rLp (I0 I : mI) (m H : Nat) (i0 : Int32) (acc : Option (Int32 × Int32)) : Prop := rbS I0 I m H ∧ I m 0 = i0 ∧ acR acc (I m 66) (I m 67)
theorem bA3_0 {G : List Nat → Nat × List (Nat → Nat) × Bool} {H a bs lo : Nat} : bA3 G H a bs lo none 0 = none := rfl
theorem bA2_z {G : List Nat → Nat × List (Nat → Nat) × Bool} {H a bs lo k : Nat} : ∀ j, bA2 G H a bs lo k none j = none
  | 0 => rfl
  | j + 1 => by show bSt (bA2 G H a bs lo k none j) _ _ = none; rw [bA2_z j]; rfl
theorem bA3_no {G : List Nat → Nat × List (Nat → Nat) × Bool} {H a bs lo k : Nat} {acc : Option (Int32 × Int32)} (h : bA3 G H a bs lo acc k = none) : ∀ i, bA3 G H a bs lo acc (k + i) = none
  | 0 => h
  | i + 1 => by show bA2 G H a bs lo (k + i) (bA3 G H a bs lo acc (k + i)) (10 - lo) = none; rw [bA3_no h i]; exact bA2_z _
theorem bA3_z {G : List Nat → Nat × List (Nat → Nat) × Bool} {H a bs lo : Nat} (k : Nat) : bA3 G H a bs lo none k = none := by
  have h := bA3_no (G := G) (H := H) (a := a) (bs := bs) (lo := lo) (acc := none) (k := 0) rfl k
  rw [Nat.zero_add] at h
  exact h
theorem dX10_buildsAll_0 : decode cX10_buildsAll 0 = .ok (.iconst 1, 1) := by decide +kernel
theorem dX10_buildsAll_1 : decode cX10_buildsAll 1 = .ok (.istore_n 1, 1) := by decide +kernel
theorem dX10_buildsAll_2 : decode cX10_buildsAll 2 = .ok (.iload_n 1, 1) := by decide +kernel
theorem dX10_buildsAll_3 : decode cX10_buildsAll 3 = .ok (.aload_n 0, 1) := by decide +kernel
theorem dX10_buildsAll_4 : decode cX10_buildsAll 4 = .ok (.getfield 7, 3) := by decide +kernel
theorem dX10_buildsAll_7 : decode cX10_buildsAll 7 = .ok (.if_icmp .gt 21, 3) := by decide +kernel
theorem dX10_buildsAll_10 : decode cX10_buildsAll 10 = .ok (.aload_n 0, 1) := by decide +kernel
theorem dX10_buildsAll_11 : decode cX10_buildsAll 11 = .ok (.iconst 0, 1) := by decide +kernel
theorem dX10_buildsAll_12 : decode cX10_buildsAll 12 = .ok (.iconst 0, 1) := by decide +kernel
theorem dX10_buildsAll_13 : decode cX10_buildsAll 13 = .ok (.iload_n 1, 1) := by decide +kernel
theorem dX10_buildsAll_14 : decode cX10_buildsAll 14 = .ok (.invokevirtual 481, 3) := by decide +kernel
theorem dX10_buildsAll_17 : decode cX10_buildsAll 17 = .ok (.ifCond .ne 5, 3) := by decide +kernel
theorem dX10_buildsAll_20 : decode cX10_buildsAll 20 = .ok (.iconst 0, 1) := by decide +kernel
theorem dX10_buildsAll_21 : decode cX10_buildsAll 21 = .ok (.ireturn, 1) := by decide +kernel
theorem dX10_buildsAll_22 : decode cX10_buildsAll 22 = .ok (.iinc 1 1, 3) := by decide +kernel
theorem dX10_buildsAll_25 : decode cX10_buildsAll 25 = .ok (.goto (-23), 3) := by decide +kernel
theorem dX10_buildsAll_28 : decode cX10_buildsAll 28 = .ok (.iconst 0, 1) := by decide +kernel
theorem dX10_buildsAll_29 : decode cX10_buildsAll 29 = .ok (.istore_n 1, 1) := by decide +kernel
theorem dX10_buildsAll_30 : decode cX10_buildsAll 30 = .ok (.iload_n 1, 1) := by decide +kernel
theorem dX10_buildsAll_31 : decode cX10_buildsAll 31 = .ok (.aload_n 0, 1) := by decide +kernel
theorem dX10_buildsAll_32 : decode cX10_buildsAll 32 = .ok (.getfield 99, 3) := by decide +kernel
theorem dX10_buildsAll_35 : decode cX10_buildsAll 35 = .ok (.if_icmp .ge 35, 3) := by decide +kernel
theorem dX10_buildsAll_38 : decode cX10_buildsAll 38 = .ok (.iconst 0, 1) := by decide +kernel
theorem dX10_buildsAll_39 : decode cX10_buildsAll 39 = .ok (.istore_n 2, 1) := by decide +kernel
theorem dX10_buildsAll_40 : decode cX10_buildsAll 40 = .ok (.iload_n 2, 1) := by decide +kernel
theorem dX10_buildsAll_41 : decode cX10_buildsAll 41 = .ok (.bipush 9, 2) := by decide +kernel
theorem dX10_buildsAll_43 : decode cX10_buildsAll 43 = .ok (.if_icmp .gt 21, 3) := by decide +kernel
theorem dX10_buildsAll_46 : decode cX10_buildsAll 46 = .ok (.aload_n 0, 1) := by decide +kernel
theorem dX10_buildsAll_47 : decode cX10_buildsAll 47 = .ok (.iconst 1, 1) := by decide +kernel
theorem dX10_buildsAll_48 : decode cX10_buildsAll 48 = .ok (.iload_n 1, 1) := by decide +kernel
theorem dX10_buildsAll_49 : decode cX10_buildsAll 49 = .ok (.iload_n 2, 1) := by decide +kernel
theorem dX10_buildsAll_50 : decode cX10_buildsAll 50 = .ok (.invokevirtual 481, 3) := by decide +kernel
theorem dX10_buildsAll_53 : decode cX10_buildsAll 53 = .ok (.ifCond .ne 5, 3) := by decide +kernel
theorem dX10_buildsAll_56 : decode cX10_buildsAll 56 = .ok (.iconst 0, 1) := by decide +kernel
theorem dX10_buildsAll_57 : decode cX10_buildsAll 57 = .ok (.ireturn, 1) := by decide +kernel
theorem dX10_buildsAll_58 : decode cX10_buildsAll 58 = .ok (.iinc 2 1, 3) := by decide +kernel
theorem dX10_buildsAll_61 : decode cX10_buildsAll 61 = .ok (.goto (-21), 3) := by decide +kernel
theorem dX10_buildsAll_64 : decode cX10_buildsAll 64 = .ok (.iinc 1 1, 3) := by decide +kernel
theorem dX10_buildsAll_67 : decode cX10_buildsAll 67 = .ok (.goto (-37), 3) := by decide +kernel
theorem dX10_buildsAll_70 : decode cX10_buildsAll 70 = .ok (.iconst 0, 1) := by decide +kernel
theorem dX10_buildsAll_71 : decode cX10_buildsAll 71 = .ok (.istore_n 1, 1) := by decide +kernel
theorem dX10_buildsAll_72 : decode cX10_buildsAll 72 = .ok (.iload_n 1, 1) := by decide +kernel
theorem dX10_buildsAll_73 : decode cX10_buildsAll 73 = .ok (.aload_n 0, 1) := by decide +kernel
theorem dX10_buildsAll_74 : decode cX10_buildsAll 74 = .ok (.getfield 99, 3) := by decide +kernel
theorem dX10_buildsAll_77 : decode cX10_buildsAll 77 = .ok (.if_icmp .ge 35, 3) := by decide +kernel
theorem dX10_buildsAll_80 : decode cX10_buildsAll 80 = .ok (.iconst 2, 1) := by decide +kernel
theorem dX10_buildsAll_81 : decode cX10_buildsAll 81 = .ok (.istore_n 2, 1) := by decide +kernel
theorem dX10_buildsAll_82 : decode cX10_buildsAll 82 = .ok (.iload_n 2, 1) := by decide +kernel
theorem dX10_buildsAll_83 : decode cX10_buildsAll 83 = .ok (.bipush 9, 2) := by decide +kernel
theorem dX10_buildsAll_85 : decode cX10_buildsAll 85 = .ok (.if_icmp .gt 21, 3) := by decide +kernel
theorem dX10_buildsAll_88 : decode cX10_buildsAll 88 = .ok (.aload_n 0, 1) := by decide +kernel
theorem dX10_buildsAll_89 : decode cX10_buildsAll 89 = .ok (.iconst 2, 1) := by decide +kernel
theorem dX10_buildsAll_90 : decode cX10_buildsAll 90 = .ok (.iload_n 1, 1) := by decide +kernel
theorem dX10_buildsAll_91 : decode cX10_buildsAll 91 = .ok (.iload_n 2, 1) := by decide +kernel
theorem dX10_buildsAll_92 : decode cX10_buildsAll 92 = .ok (.invokevirtual 481, 3) := by decide +kernel
theorem dX10_buildsAll_95 : decode cX10_buildsAll 95 = .ok (.ifCond .ne 5, 3) := by decide +kernel
theorem dX10_buildsAll_98 : decode cX10_buildsAll 98 = .ok (.iconst 0, 1) := by decide +kernel
theorem dX10_buildsAll_99 : decode cX10_buildsAll 99 = .ok (.ireturn, 1) := by decide +kernel
theorem dX10_buildsAll_100 : decode cX10_buildsAll 100 = .ok (.iinc 2 1, 3) := by decide +kernel
theorem dX10_buildsAll_103 : decode cX10_buildsAll 103 = .ok (.goto (-21), 3) := by decide +kernel
theorem dX10_buildsAll_106 : decode cX10_buildsAll 106 = .ok (.iinc 1 1, 3) := by decide +kernel
theorem dX10_buildsAll_109 : decode cX10_buildsAll 109 = .ok (.goto (-37), 3) := by decide +kernel
theorem dX10_buildsAll_112 : decode cX10_buildsAll 112 = .ok (.iconst 1, 1) := by decide +kernel
theorem dX10_buildsAll_113 : decode cX10_buildsAll 113 = .ok (.ireturn, 1) := by decide +kernel

set_option maxHeartbeats 4000000 in
set_option maxRecDepth 100000 in
theorem rb1 {m n : Nat} {kd : mK} {I0 : mI} {J : mJ} {P : mP} {i0 : Int32} {t : Nat} {T : Nat → Nat} {fp : Int32} {rr : Nat → Int32} {H M : Nat} {un : Bool} {cs : Nat → List Nat} {tx : Nat → List Int32} {e : Lf} {im : Option Lf} {wk : Option (List Nat)} {Q : am_Post} (hC : RR m kd I0 P t T fp rr H M un cs tx e im wk) (hz : okZ t T H M cs e) (hH7 : H < 8) (hno : bA1 (bR H M un cs e) H M = none → ∀ I : mI, rbS I0 I m H → I m 0 = i0 → Q (.inl (some (.int (nI 0)))) n kd I J P) (hk : ∀ (z1 : Option Value) (I : mI), rLp I0 I m H i0 (bA1 (bR H M un cs e) H M) → (∃ gv, bA1 (bR H M un cs e) H M = some gv) → Ru yX10_buildsAll.cls cX10_buildsAll 3 (some .boolean) yX10_buildsAll.name 7 (Q) 0 0 28 [some (.ref m), z1, none] [] n kd I J P) : ∀ (cnt c : Nat) (I : mI) (gv : Int32 × Int32), c + cnt = M → bA1 (bR H M un cs e) H c = some gv → rLp I0 I m H i0 (bA1 (bR H M un cs e) H c) → Ru yX10_buildsAll.cls cX10_buildsAll 3 (some .boolean) yX10_buildsAll.name 7 (Q) 0 0 2 [some (.ref m), some (.int (nI (c + 1))), none] [] n kd I J P
  | 0, c, I, gv, hc, hacc, hl => by
    have hM := hC.1
    have hM20 : 2 ≤ M ∧ M ≤ 20 := hz.2.1.1
    obtain ⟨hb, h0, hac⟩ := hl
    have ec : c = M := by omega
    subst ec
    refine r_iload_n dX10_buildsAll_2 rfl ?_
    refine r_aload_n dX10_buildsAll_3 rfl ?_
    refine r_getI dX10_buildsAll_4 fl_X10_7 rfl (kM_0 hM) ?_
    rw [show I m 2 = nI c from (hb.2.2.1 2 (by decide) (by decide) (by decide) (by decide)).trans hC.2.2.1.1.2.1]
    refine r_icmp_gt (tgt := 28) dX10_buildsAll_7 (by decide) (fun _ => ?_) (fun hz => absurd (show _ from (by rw [nI_ltI (by omega) (by omega)]; omega)) hz)
    exact hk _ I ⟨hb, h0, hac⟩ ⟨gv, hacc⟩
  | cnt + 1, c, I, gv, hc, hacc, hl => by
    have hM := hC.1
    have hM20 : 2 ≤ M ∧ M ≤ 20 := hz.2.1.1
    obtain ⟨hb, h0, hac⟩ := hl
    obtain ⟨g, v⟩ := gv
    rw [hacc] at hac
    refine r_iload_n dX10_buildsAll_2 rfl ?_
    refine r_aload_n dX10_buildsAll_3 rfl ?_
    refine r_getI dX10_buildsAll_4 fl_X10_7 rfl (kM_0 hM) ?_
    rw [show I m 2 = nI M from (hb.2.2.1 2 (by decide) (by decide) (by decide) (by decide)).trans hC.2.2.1.1.2.1]
    refine r_icmp_gt (tgt := 28) dX10_buildsAll_7 (by decide) (fun hz => absurd hz (show ¬ _ from (by rw [nI_ltI (by omega) (by omega)]; omega))) (fun _ => ?_)
    refine r_aload_n dX10_buildsAll_10 rfl ?_
    refine r_iconst (v := nI 0) dX10_buildsAll_11 (by decide) ?_
    refine r_iconst (v := nI 0) dX10_buildsAll_12 (by decide) ?_
    refine r_iload_n dX10_buildsAll_13 rfl ?_
    refine r_virt (kc2 := 0) (ks2 := 0) (c_builds0 m 0 (c + 1) g v hC hz hH7 hb (by omega) hac.1 hac.2) lk_X10_481 mc_X10_builds dX10_buildsAll_14 (kM_0 hM) (by decide) rfl rfl (Nat.le_of_ble_eq_true rfl) (by decide) (by decide) (fun _ _ _ _ _ _ h => nomatch h.1) ?_
    rintro v4 n4 kd4 I4 J4 P4 ⟨h00, rfl, rfl, rfl, rfl, hb4, h04, hac4⟩
    cases h00
    simp only [Option.toList, List.nil_append, List.cons_append]
    have h04 := (h04 0 rfl).trans h0
    rw [show bSt (some (g, v)) ((bR H M un cs e) (nr1 H (c + 1))) (nI (c + 1)) = bA1 (bR H M un cs e) H (c + 1) from by show _ = bSt (bA1 (bR H M un cs e) H c) _ _; rw [hacc]] at hac4 ⊢
    cases hq : bA1 (bR H M un cs e) H (c + 1) with
    | none =>
      have hM2 := (by have h := bA1_no hq cnt; rw [show c + 1 + cnt = M by omega] at h; exact h)
      refine r_if_ne (tgt := 22) dX10_buildsAll_17 (by decide) (fun hz => absurd (show _ from rfl) hz) (fun _ => ?_)
      refine r_iconst (v := nI 0) dX10_buildsAll_20 (by decide) ?_
      refine r_zret rfl dX10_buildsAll_21 (by first | exact Or.inl rfl | exact Or.inr rfl | assumption) ?_
      exact hno hM2 I4 hb4 h04
    | some gv2 =>
      rw [hq] at hac4
      refine r_if_ne (tgt := 22) dX10_buildsAll_17 (by decide) (fun _ => ?_) (fun hz => absurd hz (show ¬ _ from (fun q => absurd (show bz true = 0 from q) (by decide))))
      refine r_iinc (v := nI (c + 1 + 1)) dX10_buildsAll_22 rfl (nI_inc (c + 1)) ?_
      refine r_goto (tgt := 2) dX10_buildsAll_25 (by decide) ?_
      exact rb1 hC hz hH7 hno hk cnt (c + 1) I4 gv2 (by omega) hq ⟨hb4, h04, by rw [hq]; exact hac4⟩

set_option maxHeartbeats 4000000 in
set_option maxRecDepth 100000 in
theorem rb2i {m n : Nat} {kd : mK} {I0 : mI} {J : mJ} {P : mP} {i0 : Int32} {t : Nat} {T : Nat → Nat} {fp : Int32} {rr : Nat → Int32} {H M : Nat} {un : Bool} {cs : Nat → List Nat} {tx : Nat → List Int32} {e : Lf} {im : Option Lf} {wk : Option (List Nat)} {Q : am_Post} {acc : Option (Int32 × Int32)} {k : Nat} (hC : RR m kd I0 P t T fp rr H M un cs tx e im wk) (hz : okZ t T H M cs e) (hH7 : H < 8) (hkH : k < H) (hno : bA2 (bR H M un cs e) H 20004 1000 0 k acc 10 = none → ∀ I : mI, rbS I0 I m H → I m 0 = i0 → Q (.inl (some (.int (nI 0)))) n kd I J P) (hk : ∀ (z2 : Option Value) (I : mI), rLp I0 I m H i0 (bA2 (bR H M un cs e) H 20004 1000 0 k acc 10) → (∃ gv, bA2 (bR H M un cs e) H 20004 1000 0 k acc 10 = some gv) → Ru yX10_buildsAll.cls cX10_buildsAll 3 (some .boolean) yX10_buildsAll.name 7 (Q) 0 0 64 [some (.ref m), some (.int (nI k)), z2] [] n kd I J P) : ∀ (cnt j : Nat) (I : mI) (gv : Int32 × Int32), j + cnt = 10 → bA2 (bR H M un cs e) H 20004 1000 0 k acc j = some gv → rLp I0 I m H i0 (bA2 (bR H M un cs e) H 20004 1000 0 k acc j) → Ru yX10_buildsAll.cls cX10_buildsAll 3 (some .boolean) yX10_buildsAll.name 7 (Q) 0 0 40 [some (.ref m), some (.int (nI k)), some (.int (nI (0 + j)))] [] n kd I J P
  | 0, j, I, gv, hc, hacc, hl => by
    have ej : j = 10 := by omega
    subst ej
    refine r_iload_n dX10_buildsAll_40 rfl ?_
    refine r_bipush (v := nI 9) dX10_buildsAll_41 (by decide) ?_
    refine r_icmp_gt (tgt := 64) dX10_buildsAll_43 (by decide) (fun _ => ?_) (fun hz => absurd (show _ from (by decide)) hz)
    exact hk _ I hl ⟨gv, hacc⟩
  | cnt + 1, j, I, gv, hc, hacc, hl => by
    have hM := hC.1
    have hM20 : 2 ≤ M ∧ M ≤ 20 := hz.2.1.1
    obtain ⟨hb, h0, hac⟩ := hl
    obtain ⟨g, v⟩ := gv
    rw [hacc] at hac
    refine r_iload_n dX10_buildsAll_40 rfl ?_
    refine r_bipush (v := nI 9) dX10_buildsAll_41 (by decide) ?_
    refine r_icmp_gt (tgt := 64) dX10_buildsAll_43 (by decide) (fun hz => absurd hz (show ¬ _ from (by rw [nI_ltI (by omega) (by omega)]; omega))) (fun _ => ?_)
    refine r_aload_n dX10_buildsAll_46 rfl ?_
    refine r_iconst (v := nI 1) dX10_buildsAll_47 (by decide) ?_
    refine r_iload_n dX10_buildsAll_48 rfl ?_
    refine r_iload_n dX10_buildsAll_49 rfl ?_
    refine r_virt (kc2 := 0) (ks2 := 0) (c_builds1 m k ((0 + j)) g v hC hz hH7 hb hkH (by omega) hac.1 hac.2) lk_X10_481 mc_X10_builds dX10_buildsAll_50 (kM_0 hM) (by decide) rfl rfl (Nat.le_of_ble_eq_true rfl) (by decide) (by decide) (fun _ _ _ _ _ _ h => nomatch h.1) ?_
    rintro v4 n4 kd4 I4 J4 P4 ⟨h00, rfl, rfl, rfl, rfl, hb4, h04, hac4⟩
    cases h00
    simp only [Option.toList, List.nil_append, List.cons_append]
    have h04 := (h04 0 rfl).trans h0
    rw [show bSt (some (g, v)) ((bR H M un cs e) (nr2 H k (0 + j) 20004)) (nI (1000 * 1 + 100 * k + (0 + j))) = bA2 (bR H M un cs e) H 20004 1000 0 k acc (j + 1) from by show _ = bSt (bA2 (bR H M un cs e) H 20004 1000 0 k acc j) _ _; rw [hacc]] at hac4 ⊢
    cases hq : bA2 (bR H M un cs e) H 20004 1000 0 k acc (j + 1) with
    | none =>
      have hM2 := (by have h := bA2_no hq cnt; rw [show j + 1 + cnt = 10 by omega] at h; exact h)
      refine r_if_ne (tgt := 58) dX10_buildsAll_53 (by decide) (fun hz => absurd (show _ from rfl) hz) (fun _ => ?_)
      refine r_iconst (v := nI 0) dX10_buildsAll_56 (by decide) ?_
      refine r_zret rfl dX10_buildsAll_57 (by first | exact Or.inl rfl | exact Or.inr rfl | assumption) ?_
      exact hno hM2 I4 hb4 h04
    | some gv2 =>
      rw [hq] at hac4
      refine r_if_ne (tgt := 58) dX10_buildsAll_53 (by decide) (fun _ => ?_) (fun hz => absurd hz (show ¬ _ from (fun q => absurd (show bz true = 0 from q) (by decide))))
      refine r_iinc (v := nI ((0 + j) + 1)) dX10_buildsAll_58 rfl (nI_inc (0 + j)) ?_
      refine r_goto (tgt := 40) dX10_buildsAll_61 (by decide) ?_
      exact rb2i hC hz hH7 hkH hno hk cnt (j + 1) I4 gv2 (by omega) hq ⟨hb4, h04, by rw [hq]; exact hac4⟩

set_option maxHeartbeats 4000000 in
set_option maxRecDepth 100000 in
theorem rb2o {m n : Nat} {kd : mK} {I0 : mI} {J : mJ} {P : mP} {i0 : Int32} {t : Nat} {T : Nat → Nat} {fp : Int32} {rr : Nat → Int32} {H M : Nat} {un : Bool} {cs : Nat → List Nat} {tx : Nat → List Int32} {e : Lf} {im : Option Lf} {wk : Option (List Nat)} {Q : am_Post} {acc : Option (Int32 × Int32)} (hC : RR m kd I0 P t T fp rr H M un cs tx e im wk) (hz : okZ t T H M cs e) (hH7 : H < 8) (hno : bA3 (bR H M un cs e) H 20004 1000 0 acc H = none → ∀ I : mI, rbS I0 I m H → I m 0 = i0 → Q (.inl (some (.int (nI 0)))) n kd I J P) (hk : ∀ (z1 z2 : Option Value) (I : mI), rLp I0 I m H i0 (bA3 (bR H M un cs e) H 20004 1000 0 acc H) → (∃ gv, bA3 (bR H M un cs e) H 20004 1000 0 acc H = some gv) → Ru yX10_buildsAll.cls cX10_buildsAll 3 (some .boolean) yX10_buildsAll.name 7 (Q) 0 0 70 [some (.ref m), z1, z2] [] n kd I J P) : ∀ (c k : Nat) (z2 : Option Value) (I : mI) (gv : Int32 × Int32), k + c = H → bA3 (bR H M un cs e) H 20004 1000 0 acc k = some gv → rLp I0 I m H i0 (bA3 (bR H M un cs e) H 20004 1000 0 acc k) → Ru yX10_buildsAll.cls cX10_buildsAll 3 (some .boolean) yX10_buildsAll.name 7 (Q) 0 0 30 [some (.ref m), some (.int (nI k)), z2] [] n kd I J P
  | 0, k, z2, I, gv, hc, hacc, hl => by
    have hM := hC.1
    have hM20 : 2 ≤ M ∧ M ≤ 20 := hz.2.1.1
    obtain ⟨hb, h0, hac⟩ := hl
    have ej : k = H := by omega
    subst ej
    refine r_iload_n dX10_buildsAll_30 rfl ?_
    refine r_aload_n dX10_buildsAll_31 rfl ?_
    refine r_getI dX10_buildsAll_32 fl_X10_99 rfl (kM_0 hM) ?_
    rw [hb.2.2.2.1.2]
    refine r_icmp_ge (tgt := 70) dX10_buildsAll_35 (by decide) (fun _ => ?_) (fun hz => absurd (show _ from (Int32.le_refl _)) hz)
    exact hk _ _ I ⟨hb, h0, hac⟩ ⟨gv, hacc⟩
  | c + 1, k, z2, I, gv, hc, hacc, hl => by
    have hM := hC.1
    have hM20 : 2 ≤ M ∧ M ≤ 20 := hz.2.1.1
    obtain ⟨hb, h0, hac⟩ := hl
    refine r_iload_n dX10_buildsAll_30 rfl ?_
    refine r_aload_n dX10_buildsAll_31 rfl ?_
    refine r_getI dX10_buildsAll_32 fl_X10_99 rfl (kM_0 hM) ?_
    rw [hb.2.2.2.1.2]
    refine r_icmp_ge (tgt := 70) dX10_buildsAll_35 (by decide) (fun hz => absurd hz (show ¬ _ from (by rw [nI_leI (by omega) (by omega)]; omega))) (fun _ => ?_)
    refine r_iconst (v := nI 0) dX10_buildsAll_38 (by decide) ?_
    refine r_istore_n dX10_buildsAll_39 (by decide) ?_
    exact rb2i (acc := bA3 (bR H M un cs e) H 20004 1000 0 acc k) hC hz hH7 (by omega) (fun hn => hno (by have h := bA3_no (k := k + 1) (show bA3 (bR H M un cs e) H 20004 1000 0 acc (k + 1) = none from hn) c; rw [show k + 1 + c = H by omega] at h; exact h)) (fun z2 I hl hgv => by
      obtain ⟨gv2, hgv⟩ := hgv
      refine r_iinc (v := nI (k + 1)) dX10_buildsAll_64 rfl (nI_inc k) ?_
      refine r_goto (tgt := 30) dX10_buildsAll_67 (by decide) ?_
      exact rb2o hC hz hH7 hno hk c (k + 1) z2 I gv2 (by omega) hgv hl) 10 0 I gv (by omega) hacc ⟨hb, h0, hac⟩

set_option maxHeartbeats 4000000 in
set_option maxRecDepth 100000 in
theorem rb3i {m n : Nat} {kd : mK} {I0 : mI} {J : mJ} {P : mP} {i0 : Int32} {t : Nat} {T : Nat → Nat} {fp : Int32} {rr : Nat → Int32} {H M : Nat} {un : Bool} {cs : Nat → List Nat} {tx : Nat → List Int32} {e : Lf} {im : Option Lf} {wk : Option (List Nat)} {Q : am_Post} {acc : Option (Int32 × Int32)} {k : Nat} (hC : RR m kd I0 P t T fp rr H M un cs tx e im wk) (hz : okZ t T H M cs e) (hH7 : H < 8) (hkH : k < H) (hno : bA2 (bR H M un cs e) H 20006 2000 2 k acc 8 = none → ∀ I : mI, rbS I0 I m H → I m 0 = i0 → Q (.inl (some (.int (nI 0)))) n kd I J P) (hk : ∀ (z2 : Option Value) (I : mI), rLp I0 I m H i0 (bA2 (bR H M un cs e) H 20006 2000 2 k acc 8) → (∃ gv, bA2 (bR H M un cs e) H 20006 2000 2 k acc 8 = some gv) → Ru yX10_buildsAll.cls cX10_buildsAll 3 (some .boolean) yX10_buildsAll.name 7 (Q) 0 0 106 [some (.ref m), some (.int (nI k)), z2] [] n kd I J P) : ∀ (cnt j : Nat) (I : mI) (gv : Int32 × Int32), j + cnt = 8 → bA2 (bR H M un cs e) H 20006 2000 2 k acc j = some gv → rLp I0 I m H i0 (bA2 (bR H M un cs e) H 20006 2000 2 k acc j) → Ru yX10_buildsAll.cls cX10_buildsAll 3 (some .boolean) yX10_buildsAll.name 7 (Q) 0 0 82 [some (.ref m), some (.int (nI k)), some (.int (nI (2 + j)))] [] n kd I J P
  | 0, j, I, gv, hc, hacc, hl => by
    have ej : j = 8 := by omega
    subst ej
    refine r_iload_n dX10_buildsAll_82 rfl ?_
    refine r_bipush (v := nI 9) dX10_buildsAll_83 (by decide) ?_
    refine r_icmp_gt (tgt := 106) dX10_buildsAll_85 (by decide) (fun _ => ?_) (fun hz => absurd (show _ from (by decide)) hz)
    exact hk _ I hl ⟨gv, hacc⟩
  | cnt + 1, j, I, gv, hc, hacc, hl => by
    have hM := hC.1
    have hM20 : 2 ≤ M ∧ M ≤ 20 := hz.2.1.1
    obtain ⟨hb, h0, hac⟩ := hl
    obtain ⟨g, v⟩ := gv
    rw [hacc] at hac
    refine r_iload_n dX10_buildsAll_82 rfl ?_
    refine r_bipush (v := nI 9) dX10_buildsAll_83 (by decide) ?_
    refine r_icmp_gt (tgt := 106) dX10_buildsAll_85 (by decide) (fun hz => absurd hz (show ¬ _ from (by rw [nI_ltI (by omega) (by omega)]; omega))) (fun _ => ?_)
    refine r_aload_n dX10_buildsAll_88 rfl ?_
    refine r_iconst (v := nI 2) dX10_buildsAll_89 (by decide) ?_
    refine r_iload_n dX10_buildsAll_90 rfl ?_
    refine r_iload_n dX10_buildsAll_91 rfl ?_
    refine r_virt (kc2 := 0) (ks2 := 0) (c_builds2 m k ((2 + j)) g v hC hz hH7 hb hkH (by omega) hac.1 hac.2) lk_X10_481 mc_X10_builds dX10_buildsAll_92 (kM_0 hM) (by decide) rfl rfl (Nat.le_of_ble_eq_true rfl) (by decide) (by decide) (fun _ _ _ _ _ _ h => nomatch h.1) ?_
    rintro v4 n4 kd4 I4 J4 P4 ⟨h00, rfl, rfl, rfl, rfl, hb4, h04, hac4⟩
    cases h00
    simp only [Option.toList, List.nil_append, List.cons_append]
    have h04 := (h04 0 rfl).trans h0
    rw [show bSt (some (g, v)) ((bR H M un cs e) (nr2 H k (2 + j) 20006)) (nI (1000 * 2 + 100 * k + (2 + j))) = bA2 (bR H M un cs e) H 20006 2000 2 k acc (j + 1) from by show _ = bSt (bA2 (bR H M un cs e) H 20006 2000 2 k acc j) _ _; rw [hacc]] at hac4 ⊢
    cases hq : bA2 (bR H M un cs e) H 20006 2000 2 k acc (j + 1) with
    | none =>
      have hM2 := (by have h := bA2_no hq cnt; rw [show j + 1 + cnt = 8 by omega] at h; exact h)
      refine r_if_ne (tgt := 100) dX10_buildsAll_95 (by decide) (fun hz => absurd (show _ from rfl) hz) (fun _ => ?_)
      refine r_iconst (v := nI 0) dX10_buildsAll_98 (by decide) ?_
      refine r_zret rfl dX10_buildsAll_99 (by first | exact Or.inl rfl | exact Or.inr rfl | assumption) ?_
      exact hno hM2 I4 hb4 h04
    | some gv2 =>
      rw [hq] at hac4
      refine r_if_ne (tgt := 100) dX10_buildsAll_95 (by decide) (fun _ => ?_) (fun hz => absurd hz (show ¬ _ from (fun q => absurd (show bz true = 0 from q) (by decide))))
      refine r_iinc (v := nI ((2 + j) + 1)) dX10_buildsAll_100 rfl (nI_inc (2 + j)) ?_
      refine r_goto (tgt := 82) dX10_buildsAll_103 (by decide) ?_
      exact rb3i hC hz hH7 hkH hno hk cnt (j + 1) I4 gv2 (by omega) hq ⟨hb4, h04, by rw [hq]; exact hac4⟩

set_option maxHeartbeats 4000000 in
set_option maxRecDepth 100000 in
theorem rb3o {m n : Nat} {kd : mK} {I0 : mI} {J : mJ} {P : mP} {i0 : Int32} {t : Nat} {T : Nat → Nat} {fp : Int32} {rr : Nat → Int32} {H M : Nat} {un : Bool} {cs : Nat → List Nat} {tx : Nat → List Int32} {e : Lf} {im : Option Lf} {wk : Option (List Nat)} {Q : am_Post} {acc : Option (Int32 × Int32)} (hC : RR m kd I0 P t T fp rr H M un cs tx e im wk) (hz : okZ t T H M cs e) (hH7 : H < 8) (hno : bA3 (bR H M un cs e) H 20006 2000 2 acc H = none → ∀ I : mI, rbS I0 I m H → I m 0 = i0 → Q (.inl (some (.int (nI 0)))) n kd I J P) (hk : ∀ (z1 z2 : Option Value) (I : mI), rLp I0 I m H i0 (bA3 (bR H M un cs e) H 20006 2000 2 acc H) → (∃ gv, bA3 (bR H M un cs e) H 20006 2000 2 acc H = some gv) → Ru yX10_buildsAll.cls cX10_buildsAll 3 (some .boolean) yX10_buildsAll.name 7 (Q) 0 0 112 [some (.ref m), z1, z2] [] n kd I J P) : ∀ (c k : Nat) (z2 : Option Value) (I : mI) (gv : Int32 × Int32), k + c = H → bA3 (bR H M un cs e) H 20006 2000 2 acc k = some gv → rLp I0 I m H i0 (bA3 (bR H M un cs e) H 20006 2000 2 acc k) → Ru yX10_buildsAll.cls cX10_buildsAll 3 (some .boolean) yX10_buildsAll.name 7 (Q) 0 0 72 [some (.ref m), some (.int (nI k)), z2] [] n kd I J P
  | 0, k, z2, I, gv, hc, hacc, hl => by
    have hM := hC.1
    have hM20 : 2 ≤ M ∧ M ≤ 20 := hz.2.1.1
    obtain ⟨hb, h0, hac⟩ := hl
    have ej : k = H := by omega
    subst ej
    refine r_iload_n dX10_buildsAll_72 rfl ?_
    refine r_aload_n dX10_buildsAll_73 rfl ?_
    refine r_getI dX10_buildsAll_74 fl_X10_99 rfl (kM_0 hM) ?_
    rw [hb.2.2.2.1.2]
    refine r_icmp_ge (tgt := 112) dX10_buildsAll_77 (by decide) (fun _ => ?_) (fun hz => absurd (show _ from (Int32.le_refl _)) hz)
    exact hk _ _ I ⟨hb, h0, hac⟩ ⟨gv, hacc⟩
  | c + 1, k, z2, I, gv, hc, hacc, hl => by
    have hM := hC.1
    have hM20 : 2 ≤ M ∧ M ≤ 20 := hz.2.1.1
    obtain ⟨hb, h0, hac⟩ := hl
    refine r_iload_n dX10_buildsAll_72 rfl ?_
    refine r_aload_n dX10_buildsAll_73 rfl ?_
    refine r_getI dX10_buildsAll_74 fl_X10_99 rfl (kM_0 hM) ?_
    rw [hb.2.2.2.1.2]
    refine r_icmp_ge (tgt := 112) dX10_buildsAll_77 (by decide) (fun hz => absurd hz (show ¬ _ from (by rw [nI_leI (by omega) (by omega)]; omega))) (fun _ => ?_)
    refine r_iconst (v := nI 2) dX10_buildsAll_80 (by decide) ?_
    refine r_istore_n dX10_buildsAll_81 (by decide) ?_
    exact rb3i (acc := bA3 (bR H M un cs e) H 20006 2000 2 acc k) hC hz hH7 (by omega) (fun hn => hno (by have h := bA3_no (k := k + 1) (show bA3 (bR H M un cs e) H 20006 2000 2 acc (k + 1) = none from hn) c; rw [show k + 1 + c = H by omega] at h; exact h)) (fun z2 I hl hgv => by
      obtain ⟨gv2, hgv⟩ := hgv
      refine r_iinc (v := nI (k + 1)) dX10_buildsAll_106 rfl (nI_inc k) ?_
      refine r_goto (tgt := 72) dX10_buildsAll_109 (by decide) ?_
      exact rb3o hC hz hH7 hno hk c (k + 1) z2 I gv2 (by omega) hgv hl) 8 0 I gv (by omega) hacc ⟨hb, h0, hac⟩

set_option maxHeartbeats 4000000 in
set_option maxRecDepth 100000 in
theorem c_buildsAllN (m : Nat) {I0 : mI} {i0 : Int32} {t : Nat} {T : Nat → Nat} {fp : Int32} {rr : Nat → Int32} {H M : Nat} {un : Bool} {cs : Nat → List Nat} {tx : Nat → List Int32} {e : Lf} {im : Option Lf} {wk : Option (List Nat)} {n : Nat} {kd : mK} {I : mI} {J : mJ} {P : mP} (hC : RR m kd I0 P t T fp rr H M un cs tx e im wk) (hz : okZ t T H M cs e) (hH7 : H < 8) (hl : rLp I0 I m H i0 (some (nI 0, -1))) : Ct yX10_buildsAll cX10_buildsAll 3 (some .boolean) 7 0 0 [.ref m] n kd I J P (fun z n' kd' I' J' P' => z = .inl (some (.int (bz (bAll (bR H M un cs e) H M).isSome))) ∧ n' = n ∧ kd' = kd ∧ J' = J ∧ P' = P ∧ rLp I0 I' m H i0 (bAll (bR H M un cs e) H M)) := by
  refine ct_of 2 (by decide +kernel) (Nat.le_of_ble_eq_true rfl) rfl ?_
  refine r_iconst (v := nI 1) dX10_buildsAll_0 (by decide) ?_
  refine r_istore_n dX10_buildsAll_1 (by decide) ?_
  exact rb1 (Q := fun z n' kd' I' J' P' => z = .inl (some (.int (bz (bAll (bR H M un cs e) H M).isSome))) ∧ n' = n ∧ kd' = kd ∧ J' = J ∧ P' = P ∧ rLp I0 I' m H i0 (bAll (bR H M un cs e) H M)) hC hz hH7 (fun hn I hb h0 => ⟨by rw [show bAll (bR H M un cs e) H M = none from (by unfold bAll; rw [hn, bA3_z H]; exact bA3_z H)]; rfl, rfl, rfl, rfl, rfl, hb, h0, by rw [show bAll (bR H M un cs e) H M = none from (by unfold bAll; rw [hn, bA3_z H]; exact bA3_z H)]; trivial⟩) (fun z1 I hl hgv => by
    obtain ⟨gv1, hgv1⟩ := hgv
    refine r_iconst (v := nI 0) dX10_buildsAll_28 (by decide) ?_
    refine r_istore_n dX10_buildsAll_29 (by decide) ?_
    exact rb2o (Q := fun z n' kd' I' J' P' => z = .inl (some (.int (bz (bAll (bR H M un cs e) H M).isSome))) ∧ n' = n ∧ kd' = kd ∧ J' = J ∧ P' = P ∧ rLp I0 I' m H i0 (bAll (bR H M un cs e) H M)) hC hz hH7 (fun hn I hb h0 => ⟨by rw [show bAll (bR H M un cs e) H M = none from (by unfold bAll; rw [hn]; exact bA3_z H)]; rfl, rfl, rfl, rfl, rfl, hb, h0, by rw [show bAll (bR H M un cs e) H M = none from (by unfold bAll; rw [hn]; exact bA3_z H)]; trivial⟩) (fun z1 z2 I hl hgv => by
      obtain ⟨gv2, hgv2⟩ := hgv
      refine r_iconst (v := nI 0) dX10_buildsAll_70 (by decide) ?_
      refine r_istore_n dX10_buildsAll_71 (by decide) ?_
      exact rb3o (Q := fun z n' kd' I' J' P' => z = .inl (some (.int (bz (bAll (bR H M un cs e) H M).isSome))) ∧ n' = n ∧ kd' = kd ∧ J' = J ∧ P' = P ∧ rLp I0 I' m H i0 (bAll (bR H M un cs e) H M)) hC hz hH7 (fun hn I hb h0 => ⟨by rw [show bAll (bR H M un cs e) H M = none from hn]; rfl, rfl, rfl, rfl, rfl, hb, h0, by rw [show bAll (bR H M un cs e) H M = none from hn]; trivial⟩) (fun z1 z2 I hl hgv => by
        obtain ⟨gv3, hgv3⟩ := hgv
        refine r_iconst (v := nI 1) dX10_buildsAll_112 (by decide) ?_
        refine r_zret rfl dX10_buildsAll_113 (by first | exact Or.inl rfl | exact Or.inr rfl | assumption) ?_
        exact ⟨by rw [show bAll (bR H M un cs e) H M = some gv3 from hgv3]; rfl, rfl, rfl, rfl, rfl, hl⟩) H 0 z2 I gv2 (by omega) hgv2 hl) H 0 none I gv1 (by omega) hgv1 hl) M 0 I (nI 0, -1) (by omega) rfl hl

theorem dX10_build_0 : decode cX10_build 0 = .ok (.aload_n 0, 1) := by decide +kernel
theorem dX10_build_1 : decode cX10_build 1 = .ok (.iconst 0, 1) := by decide +kernel
theorem dX10_build_2 : decode cX10_build 2 = .ok (.putfield 193, 3) := by decide +kernel
theorem dX10_build_5 : decode cX10_build 5 = .ok (.aload_n 0, 1) := by decide +kernel
theorem dX10_build_6 : decode cX10_build 6 = .ok (.iload_n 1, 1) := by decide +kernel
theorem dX10_build_7 : decode cX10_build 7 = .ok (.invokevirtual 379, 3) := by decide +kernel
theorem dX10_build_10 : decode cX10_build 10 = .ok (.ifCond .eq 25, 3) := by decide +kernel
theorem dX10_build_13 : decode cX10_build 13 = .ok (.aload_n 0, 1) := by decide +kernel
theorem dX10_build_14 : decode cX10_build 14 = .ok (.aload_n 0, 1) := by decide +kernel
theorem dX10_build_15 : decode cX10_build 15 = .ok (.getfield 350, 3) := by decide +kernel
theorem dX10_build_18 : decode cX10_build 18 = .ok (.bipush 8, 2) := by decide +kernel
theorem dX10_build_20 : decode cX10_build 20 = .ok (.if_icmp .ge 7, 3) := by decide +kernel
theorem dX10_build_23 : decode cX10_build 23 = .ok (.iconst 1, 1) := by decide +kernel
theorem dX10_build_24 : decode cX10_build 24 = .ok (.goto 4, 3) := by decide +kernel
theorem dX10_build_27 : decode cX10_build 27 = .ok (.iconst 0, 1) := by decide +kernel
theorem dX10_build_28 : decode cX10_build 28 = .ok (.iconst 2, 1) := by decide +kernel
theorem dX10_build_29 : decode cX10_build 29 = .ok (.invokevirtual 343, 3) := by decide +kernel
theorem dX10_build_32 : decode cX10_build 32 = .ok (.ifCond .ne 5, 3) := by decide +kernel
theorem dX10_build_35 : decode cX10_build 35 = .ok (.iconst 0, 1) := by decide +kernel
theorem dX10_build_36 : decode cX10_build 36 = .ok (.ireturn, 1) := by decide +kernel
theorem dX10_build_37 : decode cX10_build 37 = .ok (.aload_n 0, 1) := by decide +kernel
theorem dX10_build_38 : decode cX10_build 38 = .ok (.aload_n 0, 1) := by decide +kernel
theorem dX10_build_39 : decode cX10_build 39 = .ok (.getfield 350, 3) := by decide +kernel
theorem dX10_build_42 : decode cX10_build 42 = .ok (.putfield 99, 3) := by decide +kernel
theorem dX10_build_45 : decode cX10_build 45 = .ok (.aload_n 0, 1) := by decide +kernel
theorem dX10_build_46 : decode cX10_build 46 = .ok (.dup, 1) := by decide +kernel
theorem dX10_build_47 : decode cX10_build 47 = .ok (.getfield 350, 3) := by decide +kernel
theorem dX10_build_50 : decode cX10_build 50 = .ok (.iconst 1, 1) := by decide +kernel
theorem dX10_build_51 : decode cX10_build 51 = .ok (.iadd, 1) := by decide +kernel
theorem dX10_build_52 : decode cX10_build 52 = .ok (.putfield 350, 3) := by decide +kernel
theorem dX10_build_55 : decode cX10_build 55 = .ok (.aload_n 0, 1) := by decide +kernel
theorem dX10_build_56 : decode cX10_build 56 = .ok (.getfield 20, 3) := by decide +kernel
theorem dX10_build_59 : decode cX10_build 59 = .ok (.aload_n 0, 1) := by decide +kernel
theorem dX10_build_60 : decode cX10_build 60 = .ok (.getfield 99, 3) := by decide +kernel
theorem dX10_build_63 : decode cX10_build 63 = .ok (.iconst 0, 1) := by decide +kernel
theorem dX10_build_64 : decode cX10_build 64 = .ok (.iastore, 1) := by decide +kernel
theorem dX10_build_65 : decode cX10_build 65 = .ok (.aload_n 0, 1) := by decide +kernel
theorem dX10_build_66 : decode cX10_build 66 = .ok (.getfield 23, 3) := by decide +kernel
theorem dX10_build_69 : decode cX10_build 69 = .ok (.aload_n 0, 1) := by decide +kernel
theorem dX10_build_70 : decode cX10_build 70 = .ok (.getfield 99, 3) := by decide +kernel
theorem dX10_build_73 : decode cX10_build 73 = .ok (.iconst 0, 1) := by decide +kernel
theorem dX10_build_74 : decode cX10_build 74 = .ok (.iastore, 1) := by decide +kernel
theorem dX10_build_75 : decode cX10_build 75 = .ok (.aload_n 0, 1) := by decide +kernel
theorem dX10_build_76 : decode cX10_build 76 = .ok (.iconst 0, 1) := by decide +kernel
theorem dX10_build_77 : decode cX10_build 77 = .ok (.putfield 475, 3) := by decide +kernel
theorem dX10_build_80 : decode cX10_build 80 = .ok (.aload_n 0, 1) := by decide +kernel
theorem dX10_build_81 : decode cX10_build 81 = .ok (.iconst (-1), 1) := by decide +kernel
theorem dX10_build_82 : decode cX10_build 82 = .ok (.putfield 478, 3) := by decide +kernel
theorem dX10_build_85 : decode cX10_build 85 = .ok (.aload_n 0, 1) := by decide +kernel
theorem dX10_build_86 : decode cX10_build 86 = .ok (.invokevirtual 484, 3) := by decide +kernel
theorem dX10_build_89 : decode cX10_build 89 = .ok (.istore_n 2, 1) := by decide +kernel
theorem dX10_build_90 : decode cX10_build 90 = .ok (.aload_n 0, 1) := by decide +kernel
theorem dX10_build_91 : decode cX10_build 91 = .ok (.dup, 1) := by decide +kernel
theorem dX10_build_92 : decode cX10_build 92 = .ok (.getfield 350, 3) := by decide +kernel
theorem dX10_build_95 : decode cX10_build 95 = .ok (.iconst 1, 1) := by decide +kernel
theorem dX10_build_96 : decode cX10_build 96 = .ok (.isub, 1) := by decide +kernel
theorem dX10_build_97 : decode cX10_build 97 = .ok (.putfield 350, 3) := by decide +kernel
theorem dX10_build_100 : decode cX10_build 100 = .ok (.aload_n 0, 1) := by decide +kernel
theorem dX10_build_101 : decode cX10_build 101 = .ok (.iconst (-1), 1) := by decide +kernel
theorem dX10_build_102 : decode cX10_build 102 = .ok (.putfield 99, 3) := by decide +kernel
theorem dX10_build_105 : decode cX10_build 105 = .ok (.iload_n 2, 1) := by decide +kernel
theorem dX10_build_106 : decode cX10_build 106 = .ok (.ifCond .ne 6, 3) := by decide +kernel
theorem dX10_build_109 : decode cX10_build 109 = .ok (.bipush (-2), 2) := by decide +kernel
theorem dX10_build_111 : decode cX10_build 111 = .ok (.ireturn, 1) := by decide +kernel
theorem dX10_build_112 : decode cX10_build 112 = .ok (.iload_n 1, 1) := by decide +kernel
theorem dX10_build_113 : decode cX10_build 113 = .ok (.ifCond .ne 10, 3) := by decide +kernel
theorem dX10_build_116 : decode cX10_build 116 = .ok (.aload_n 0, 1) := by decide +kernel
theorem dX10_build_117 : decode cX10_build 117 = .ok (.getfield 475, 3) := by decide +kernel
theorem dX10_build_120 : decode cX10_build 120 = .ok (.goto 7, 3) := by decide +kernel
theorem dX10_build_123 : decode cX10_build 123 = .ok (.aload_n 0, 1) := by decide +kernel
theorem dX10_build_124 : decode cX10_build 124 = .ok (.getfield 478, 3) := by decide +kernel
theorem dX10_build_127 : decode cX10_build 127 = .ok (.ireturn, 1) := by decide +kernel

theorem RR.nw {m t : Nat} {kd : mK} {I I' : mI} {P : mP} {T : Nat → Nat} {fp : Int32} {rr : Nat → Int32} {H M : Nat} {un : Bool} {cs : Nat → List Nat} {tx : Nat → List Int32} {e : Lf} {im : Option Lf} {wk : Option (List Nat)} (h1 : ∀ a, a ≠ m → a ≠ m + 3 → a ≠ m + 4 → a ≠ m + 6 → a ≠ m + 25 → a ≠ m + 26 → a ≠ m + 27 → I' a = I a) (h2 : ∀ j, j < H → I' (m + 3) j = I (m + 3) j ∧ I' (m + 4) j = I (m + 4) j ∧ I' (m + 6) j = I (m + 6) j) (h3 : ∀ j, j = 1 ∨ j = 2 ∨ j = 3 ∨ j = 15 ∨ j = 17 ∨ j = 45 ∨ j = 47 ∨ j = 54 ∨ j = 58 ∨ j = 74 ∨ j = 90 ∨ j = 91 ∨ j = 92 → I' m j = I m j) (hC : RR m kd I P t T fp rr H M un cs tx e im wk) : RR m kd I' P t T fp rr H M un cs tx e im wk := by
  obtain ⟨hM, g1, g2, g3, g4, g5⟩ := hC
  have hf : ∀ a, a ≠ m → a ≠ m + 3 → a ≠ m + 4 → a ≠ m + 6 → a ≠ m + 25 → a ≠ m + 26 → a ≠ m + 27 → I' a = I a := h1
  refine ⟨hM, g1.cg (h3 _ (by omega)) (h3 _ (by omega)) (hf _ (by omega) (by omega) (by omega) (by omega) (by omega) (by omega) (by omega)) (hf _ (by omega) (by omega) (by omega) (by omega) (by omega) (by omega) (by omega)), ?_, ?_, g4.cg (h3 _ (by omega)) (h3 _ (by omega)) (h3 _ (by omega)) (fun a x y => hf a (by omega) (by omega) (by omega) (by omega) (by omega) (by omega) (by omega)), g5.cg (h3 _ (by omega)) (hf _ (by omega) (by omega) (by omega) (by omega) (by omega) (by omega) (by omega))⟩
  · obtain ⟨⟨a1, a2, a3⟩, ⟨a4, a5⟩, a6⟩ := g2
    refine ⟨⟨(h3 _ (by omega)).trans a1, (h3 _ (by omega)).trans a2, (h3 _ (by omega)).trans a3⟩, ⟨(h3 _ (by omega)).trans a4, (h3 _ (by omega)).trans a5⟩, fun h hh => ?_⟩
    rw [(h2 h hh).1, (h2 h hh).2.2, hf (m + 5) (by omega) (by omega) (by omega) (by omega) (by omega) (by omega) (by omega), hf (m + 7) (by omega) (by omega) (by omega) (by omega) (by omega) (by omega) (by omega), hf (m + 8) (by omega) (by omega) (by omega) (by omega) (by omega) (by omega) (by omega), hf (m + 9) (by omega) (by omega) (by omega) (by omega) (by omega) (by omega) (by omega), hf (m + 10) (by omega) (by omega) (by omega) (by omega) (by omega) (by omega) (by omega)]
    exact a6 h hh
  · refine ⟨fun h hh => ?_, ⟨(h3 45 (by omega)).trans g3.2.1.1, ?_⟩, ⟨(h3 47 (by omega)).trans g3.2.2.1, ?_⟩⟩
    · rw [(h2 h hh).2.1, hf (m + 1) (by omega) (by omega) (by omega) (by omega) (by omega) (by omega) (by omega), hf (m + 2) (by omega) (by omega) (by omega) (by omega) (by omega) (by omega) (by omega)]
      exact g3.1 h hh
    · rw [hf (m + 23) (by omega) (by omega) (by omega) (by omega) (by omega) (by omega) (by omega)]; exact g3.2.1.2
    · rw [hf (m + 24) (by omega) (by omega) (by omega) (by omega) (by omega) (by omega) (by omega)]; exact g3.2.2.2
theorem tw_ok {w : Nat} (h : w < 2) : (decide (nI w = 0) || decide (nI w = nI 1)) = true := by
  rcases (show w = 0 ∨ w = 1 by omega) with q | q <;> subst q <;> decide
set_option maxHeartbeats 4000000 in
set_option maxRecDepth 100000 in
theorem q_build_no1 (m : Nat) (x : Int32) {t : Nat} {T : Nat → Nat} {fp : Int32} {rr : Nat → Int32} {H M : Nat} {un : Bool} {cs : Nat → List Nat} {tx : Nat → List Int32} {e : Lf} {im : Option Lf} {wk : Option (List Nat)} {n : Nat} {kd : mK} {I : mI} {J : mJ} {P : mP} (hC : RR m kd I P t T fp rr H M un cs tx e im wk) (hz : okZ t T H M cs e) (hx : (decide (x = 0) || decide (x = nI 1)) = false) : Ct yX10_build cX10_build 3 (some .int) 10 0 0 [.ref m, .int x] n kd I J P (pQ m n kd I J P (some (.int (nI 0))) 1 (RX m t T fp rr H M un cs tx e im wk)) := by
  refine ct_of 1 (by decide +kernel) (Nat.le_of_ble_eq_true rfl) rfl ?_
  refine r_aload_n dX10_build_0 rfl ?_
  refine r_iconst (v := nI 0) dX10_build_1 (by decide) ?_
  refine r_putI dX10_build_2 fl_X10_193 rfl rfl (kM_0 hC.1) ?_
  refine q_th hC (fun I hC h0 => ?_)
  have hC0 := hC
  have hz0 := hz
  obtain ⟨hM, hT, hSt, hLf, hIm, hWk⟩ := hC
  obtain ⟨okt, oks, okl⟩ := hz
  have hH8 : H ≤ 8 := oks.2.1
  have hM20 : 2 ≤ M ∧ M ≤ 20 := oks.1
  have hH : I m 1 = nI H := hSt.1.1
  have hMo : I m 2 = nI M := hSt.1.2.1
  refine r_aload_n dX10_build_5 rfl ?_
  refine r_iload_n dX10_build_6 rfl ?_
  refine r_virtE (c_X10_isTwo m (x) hM h0) lk_X10_379 mc_X10_isTwo dX10_build_7 (kM_0 hM) (by decide) rfl rfl (Nat.le_of_ble_eq_true rfl) ?_
  rw [show (decide (x = 0) || decide (x = nI 1)) = false from hx]
  refine r_if_eq (tgt := 35) dX10_build_10 (by decide) (fun _ => ?_) (fun hz => absurd (show _ from rfl) hz)
  refine r_iconst (v := nI 0) dX10_build_35 (by decide) ?_
  refine r_iret rfl dX10_build_36 ?_
  exact pQ.th hC0 am_is.mk

set_option maxHeartbeats 4000000 in
set_option maxRecDepth 100000 in
theorem q_build_no2 (m : Nat) (w : Nat) {t : Nat} {T : Nat → Nat} {fp : Int32} {rr : Nat → Int32} {H M : Nat} {un : Bool} {cs : Nat → List Nat} {tx : Nat → List Int32} {e : Lf} {im : Option Lf} {wk : Option (List Nat)} {n : Nat} {kd : mK} {I : mI} {J : mJ} {P : mP} (hC : RR m kd I P t T fp rr H M un cs tx e im wk) (hz : okZ t T H M cs e) (hw2 : w < 2) (hH9 : 8 ≤ H) : Ct yX10_build cX10_build 3 (some .int) 10 0 0 [.ref m, .int (nI w)] n kd I J P (pQ m n kd I J P (some (.int (nI 0))) 2 (RX m t T fp rr H M un cs tx e im wk)) := by
  refine ct_of 1 (by decide +kernel) (Nat.le_of_ble_eq_true rfl) rfl ?_
  refine r_aload_n dX10_build_0 rfl ?_
  refine r_iconst (v := nI 0) dX10_build_1 (by decide) ?_
  refine r_putI dX10_build_2 fl_X10_193 rfl rfl (kM_0 hC.1) ?_
  refine q_th hC (fun I hC h0 => ?_)
  have hC0 := hC
  have hz0 := hz
  obtain ⟨hM, hT, hSt, hLf, hIm, hWk⟩ := hC
  obtain ⟨okt, oks, okl⟩ := hz
  have hH8 : H ≤ 8 := oks.2.1
  have hM20 : 2 ≤ M ∧ M ≤ 20 := oks.1
  have hH : I m 1 = nI H := hSt.1.1
  have hMo : I m 2 = nI M := hSt.1.2.1
  refine r_aload_n dX10_build_5 rfl ?_
  refine r_iload_n dX10_build_6 rfl ?_
  refine r_virtE (c_X10_isTwo m (nI w) hM h0) lk_X10_379 mc_X10_isTwo dX10_build_7 (kM_0 hM) (by decide) rfl rfl (Nat.le_of_ble_eq_true rfl) ?_
  rw [show (decide (nI w = 0) || decide (nI w = nI 1)) = true from (tw_ok hw2), thM_ok]
  refine r_if_eq (tgt := 35) dX10_build_10 (by decide) (fun hz => absurd hz (show ¬ _ from (by decide))) (fun _ => ?_)
  refine r_aload_n dX10_build_13 rfl ?_
  refine r_aload_n dX10_build_14 rfl ?_
  refine r_getI dX10_build_15 fl_X10_350 rfl (kM_0 hM) ?_
  rw [hH]
  refine r_bipush (v := nI 8) dX10_build_18 (by decide) ?_
  refine r_icmp_ge (tgt := 27) dX10_build_20 (by decide) (fun _ => ?_) (fun hz => absurd (show _ from (by rw [nI_leI (by omega) (by omega)]; omega)) hz)
  refine r_iconst (v := nI 0) dX10_build_27 (by decide) ?_
  refine r_iconst (v := nI 2) dX10_build_28 (by decide) ?_
  refine r_virtE (c_X10_right m false (nI 2) hM h0 (by decide)) lk_X10_343 mc_X10_right dX10_build_29 (kM_0 hM) (by decide) rfl rfl (Nat.le_of_ble_eq_true rfl) ?_
  refine r_if_ne (tgt := 37) dX10_build_32 (by decide) (fun hz => absurd (show _ from rfl) hz) (fun _ => ?_)
  refine r_iconst (v := nI 0) dX10_build_35 (by decide) ?_
  refine r_iret rfl dX10_build_36 ?_
  exact pQ.th hC0 am_is.mk

set_option maxHeartbeats 4000000 in
set_option maxRecDepth 100000 in
theorem q_build (m : Nat) (w : Nat) {t : Nat} {T : Nat → Nat} {fp : Int32} {rr : Nat → Int32} {H M : Nat} {un : Bool} {cs : Nat → List Nat} {tx : Nat → List Int32} {e : Lf} {im : Option Lf} {wk : Option (List Nat)} {n : Nat} {kd : mK} {I : mI} {J : mJ} {P : mP} (hC : RR m kd I P t T fp rr H M un cs tx e im wk) (hz : okZ t T H M cs e) (hw2 : w < 2) (hH7 : H < 8) : Ct yX10_build cX10_build 3 (some .int) 10 0 0 [.ref m, .int (nI w)] n kd I J P (pQ m n kd I J P (some (.int (bldV (bAll (bR H M un cs e) H M) w))) 0 (RX m t T fp rr H M un cs tx e im wk)) := by
  refine ct_of 1 (by decide +kernel) (Nat.le_of_ble_eq_true rfl) rfl ?_
  refine r_aload_n dX10_build_0 rfl ?_
  refine r_iconst (v := nI 0) dX10_build_1 (by decide) ?_
  refine r_putI dX10_build_2 fl_X10_193 rfl rfl (kM_0 hC.1) ?_
  refine q_th hC (fun I hC h0 => ?_)
  have hC0 := hC
  have hz0 := hz
  obtain ⟨hM, hT, hSt, hLf, hIm, hWk⟩ := hC
  obtain ⟨okt, oks, okl⟩ := hz
  have hH8 : H ≤ 8 := oks.2.1
  have hM20 : 2 ≤ M ∧ M ≤ 20 := oks.1
  have hH : I m 1 = nI H := hSt.1.1
  have hMo : I m 2 = nI M := hSt.1.2.1
  cases hq : bAll (bR H M un cs e) H M with
  | none =>
    rw [show bldV none w = -2 from rfl]
    refine r_aload_n dX10_build_5 rfl ?_
    refine r_iload_n dX10_build_6 rfl ?_
    refine r_virtE (c_X10_isTwo m (nI w) hM h0) lk_X10_379 mc_X10_isTwo dX10_build_7 (kM_0 hM) (by decide) rfl rfl (Nat.le_of_ble_eq_true rfl) ?_
    rw [show (decide (nI w = 0) || decide (nI w = nI 1)) = true from (tw_ok hw2), thM_ok]
    refine r_if_eq (tgt := 35) dX10_build_10 (by decide) (fun hz => absurd hz (show ¬ _ from (by decide))) (fun _ => ?_)
    refine r_aload_n dX10_build_13 rfl ?_
    refine r_aload_n dX10_build_14 rfl ?_
    refine r_getI dX10_build_15 fl_X10_350 rfl (kM_0 hM) ?_
    rw [hH]
    refine r_bipush (v := nI 8) dX10_build_18 (by decide) ?_
    refine r_icmp_ge (tgt := 27) dX10_build_20 (by decide) (fun hz => absurd hz (show ¬ _ from (by rw [nI_leI (by omega) (by omega)]; omega))) (fun _ => ?_)
    refine r_iconst (v := nI 1) dX10_build_23 (by decide) ?_
    refine r_goto (tgt := 28) dX10_build_24 (by decide) ?_
    refine r_iconst (v := nI 2) dX10_build_28 (by decide) ?_
    refine r_virtE (c_X10_right m true (nI 2) hM h0 (by decide)) lk_X10_343 mc_X10_right dX10_build_29 (kM_0 hM) (by decide) rfl rfl (Nat.le_of_ble_eq_true rfl) ?_
    rw [thM_ok]
    refine r_if_ne (tgt := 37) dX10_build_32 (by decide) (fun _ => ?_) (fun hz => absurd hz (show ¬ _ from (by decide)))
    refine r_aload_n dX10_build_37 rfl ?_
    refine r_aload_n dX10_build_38 rfl ?_
    refine r_getI dX10_build_39 fl_X10_350 rfl (kM_0 hM) ?_
    rw [hH]
    refine r_putI dX10_build_42 fl_X10_99 rfl rfl (kM_0 hM) ?_
    refine r_aload_n dX10_build_45 rfl ?_
    refine r_dup dX10_build_46 rfl ?_
    refine r_getI dX10_build_47 fl_X10_350 rfl (kM_0 hM) ?_
    rw [am_up_s, am_up_n _ _ (by decide), hH]
    refine r_iconst (v := nI 1) dX10_build_50 (by decide) ?_
    refine r_iadd dX10_build_51 ?_
    rw [nI_add]
    refine r_putI dX10_build_52 fl_X10_350 rfl rfl (kM_0 hM) ?_
    rw [am_up_s, am_up_up]
    obtain ⟨I1, hI1⟩ : ∃ X : mI, X = va_up I m (va_up (va_up (I m) 54 (nI H)) 1 (nI (H + 1))) := ⟨_, rfl⟩
    rw [← hI1]
    have e1 : ∀ a, a ≠ m → I1 a = I a := fun a ha => by rw [hI1, am_up_n _ _ ha]
    have e2 : ∀ j, j ≠ 1 → j ≠ 54 → I1 m j = I m j := fun j j1 j2 => by rw [hI1, am_up_s, am_up_n _ _ j1, am_up_n _ _ j2]
    have e3 : I1 m 1 = nI (H + 1) ∧ I1 m 54 = nI H := ⟨by rw [hI1, am_up_s, am_up_s], by rw [hI1, am_up_s, am_up_n _ _ (by decide), am_up_s]⟩
    clear hI1
    refine r_aload_n dX10_build_55 rfl ?_
    refine r_getR dX10_build_56 fl_X10_20 rfl (kM_0 hM) (pM_6 hM) ?_
    refine r_aload_n dX10_build_59 rfl ?_
    refine r_getI dX10_build_60 fl_X10_99 rfl (kM_0 hM) ?_
    rw [e3.2]
    refine r_iconst (v := nI 0) dX10_build_63 (by decide) ?_
    refine r_iast dX10_build_64 (aM_6 hM) (nI_in8 8 (by omega) (by decide)) (nI_clamp (by omega)) ?_
    refine r_aload_n dX10_build_65 rfl ?_
    refine r_getR dX10_build_66 fl_X10_23 rfl (kM_0 hM) (pM_7 hM) ?_
    refine r_aload_n dX10_build_69 rfl ?_
    refine r_getI dX10_build_70 fl_X10_99 rfl (kM_0 hM) ?_
    rw [am_up_n _ _ (by omega), e3.2]
    refine r_iconst (v := nI 0) dX10_build_73 (by decide) ?_
    refine r_iast dX10_build_74 (aM_7 hM) (nI_in8 8 (by omega) (by decide)) (nI_clamp (by omega)) ?_
    obtain ⟨I2, hI2⟩ : ∃ X : mI, X = va_up (va_up I1 (m + 3) (va_up (I1 (m + 3)) H (nI 0))) (m + 4) (va_up (va_up I1 (m + 3) (va_up (I1 (m + 3)) H (nI 0)) (m + 4)) H (nI 0)) := ⟨_, rfl⟩
    rw [← hI2]
    have hb2 : rbS I I2 m H := by
      have em : I2 m = I1 m := by rw [hI2, am_up_n _ _ (by omega), am_up_n _ _ (by omega)]
      have e33 : I2 (m + 3) = va_up (I (m + 3)) H (nI 0) := by rw [hI2, am_up_n _ _ (by omega), am_up_s, e1 _ (by omega)]
      have e44 : I2 (m + 4) = va_up (I (m + 4)) H (nI 0) := by rw [hI2, am_up_s, am_up_n _ _ (by omega), e1 _ (by omega)]
      refine ⟨fun a a1 a2 a3 a4 a5 a6 a7 => by rw [hI2, am_up_n _ _ a3, am_up_n _ _ a2, e1 a a1], fun j hj => ?_, fun j j1 j2 j3 j4 => by rw [em, e2 j j1 (by omega)], by rw [em]; exact e3, by rw [e33, am_up_s], by rw [e44, am_up_s]⟩
      rw [e33, e44, am_up_n _ _ (by omega), am_up_n _ _ (by omega), hI2, am_up_n _ _ (by omega), am_up_n _ _ (by omega), e1 _ (by omega)]
      exact ⟨rfl, rfl, rfl⟩
    have h02 : I2 m 0 = I m 0 := by rw [hI2, am_up_n _ _ (by omega), am_up_n _ _ (by omega), e2 0 (by decide) (by decide)]
    clear hI2
    refine r_aload_n dX10_build_75 rfl ?_
    refine r_iconst (v := nI 0) dX10_build_76 (by decide) ?_
    refine r_putI dX10_build_77 fl_X10_475 rfl rfl (kM_0 hM) ?_
    refine r_aload_n dX10_build_80 rfl ?_
    refine r_iconst (v := (-1)) dX10_build_81 (by decide) ?_
    refine r_putI dX10_build_82 fl_X10_478 rfl rfl (kM_0 hM) ?_
    have hb3 := (hb2.m (j := 66) (x := nI 0) (by decide)).m (j := 67) (x := -1) (by decide)
    have hl3 : rLp I (va_up (va_up I2 m (va_up (I2 m) 66 (nI 0))) m (va_up (va_up I2 m (va_up (I2 m) 66 (nI 0)) m) 67 (-1))) m H (I m 0) (some (nI 0, -1)) := ⟨hb3, by rw [am_up_s, am_up_n _ _ (by decide), am_up_s, am_up_n _ _ (by decide)]; exact h02, by rw [am_up_s, am_up_n _ _ (by decide), am_up_s, am_up_s], by rw [am_up_s, am_up_s]⟩
    generalize va_up (va_up I2 m (va_up (I2 m) 66 (nI 0))) m (va_up (va_up I2 m (va_up (I2 m) 66 (nI 0)) m) 67 (-1)) = I3 at hl3 ⊢
    clear hb3
    refine r_aload_n dX10_build_85 rfl ?_
    refine r_virt (kc2 := 0) (ks2 := 0) (c_buildsAllN m hC0 hz0 hH7 hl3) lk_X10_484 mc_X10_buildsAll dX10_build_86 (kM_0 hM) (by decide) rfl rfl (Nat.le_of_ble_eq_true rfl) (by decide) (by decide) (fun _ _ _ _ _ _ h => nomatch h.1) ?_
    rintro v4 n4 kd4 I4 J4 P4 ⟨h00, rfl, rfl, rfl, rfl, hb4, h04, hac⟩
    cases h00
    simp only [Option.toList, List.nil_append, List.cons_append]
    rw [hq] at hac ⊢
    obtain ⟨g1, g2, g3, ⟨g4, g5⟩, g6, g7⟩ := hb4
    refine r_istore_n dX10_build_89 (by decide) ?_
    refine r_aload_n dX10_build_90 rfl ?_
    refine r_dup dX10_build_91 rfl ?_
    refine r_getI dX10_build_92 fl_X10_350 rfl (kM_0 hM) ?_
    rw [g4]
    refine r_iconst (v := nI 1) dX10_build_95 (by decide) ?_
    refine r_isub dX10_build_96 ?_
    rw [pk_sub (by omega), show H + 1 - 1 = H by omega]
    refine r_putI dX10_build_97 fl_X10_350 rfl rfl (kM_0 hM) ?_
    refine r_aload_n dX10_build_100 rfl ?_
    refine r_iconst (v := (-1)) dX10_build_101 (by decide) ?_
    refine r_putI dX10_build_102 fl_X10_99 rfl rfl (kM_0 hM) ?_
    rw [am_up_s, am_up_up]
    obtain ⟨I5, hI5⟩ : ∃ X : mI, X = va_up I4 m (va_up (va_up (I4 m) 1 (nI H)) 54 (-1)) := ⟨_, rfl⟩
    rw [← hI5]
    have k1 : ∀ a, a ≠ m → I5 a = I4 a := fun a ha => by rw [hI5, am_up_n _ _ ha]
    have k2 : ∀ j, j ≠ 1 → j ≠ 54 → I5 m j = I4 m j := fun j j1 j2 => by rw [hI5, am_up_s, am_up_n _ _ j2, am_up_n _ _ j1]
    have k3 : I5 m 1 = nI H ∧ I5 m 54 = -1 := ⟨by rw [hI5, am_up_s, am_up_n _ _ (by decide), am_up_s], by rw [hI5, am_up_s, am_up_s]⟩
    clear hI5
    have hC5 : RR m kd4 I5 P4 t T fp rr H M un cs tx e im wk := RR.nw (fun a a1 a2 a3 a4 a5 a6 a7 => (k1 a a1).trans (g1 a a1 a2 a3 a4 a5 a6 a7)) (fun j hj => by rw [k1 _ (by omega), k1 _ (by omega), k1 _ (by omega)]; exact g2 j hj) (fun j hj => by
      by_cases q1 : j = 1
      · rw [q1, k3.1, hH]
      · by_cases q2 : j = 54
        · rw [q2, k3.2]; exact hSt.2.1.1.symm
        · rw [k2 j q1 q2]; exact g3 j q1 (by omega) (by omega) (by omega)) hC0
    have h05 : I5 m 0 = 0 := by rw [k2 0 (by decide) (by decide), h04]; exact h0
    have hfr5 : ∀ a, (a < m ∨ m + 55 < a) → I5 a = I a := fun a ha => (k1 a (by omega)).trans (g1 a (by omega) (by omega) (by omega) (by omega) (by omega) (by omega) (by omega))
    refine r_iload_n dX10_build_105 rfl ?_
    refine r_if_ne (tgt := 112) dX10_build_106 (by decide) (fun hz => absurd (show _ from rfl) hz) (fun _ => ?_)
    refine r_bipush (v := (-2)) dX10_build_109 (by decide) ?_
    refine r_iret rfl dX10_build_111 ?_
    exact ⟨rfl, rfl, rfl, rfl, fun a ha => ⟨hfr5 a ha, rfl⟩, h05, hC5⟩
  | some gv =>
    obtain ⟨g, v⟩ := gv
    by_cases c8 : w = 0
    · skip
      refine r_aload_n dX10_build_5 rfl ?_
      refine r_iload_n dX10_build_6 rfl ?_
      refine r_virtE (c_X10_isTwo m (nI w) hM h0) lk_X10_379 mc_X10_isTwo dX10_build_7 (kM_0 hM) (by decide) rfl rfl (Nat.le_of_ble_eq_true rfl) ?_
      rw [show (decide (nI w = 0) || decide (nI w = nI 1)) = true from (tw_ok hw2), thM_ok]
      refine r_if_eq (tgt := 35) dX10_build_10 (by decide) (fun hz => absurd hz (show ¬ _ from (by decide))) (fun _ => ?_)
      refine r_aload_n dX10_build_13 rfl ?_
      refine r_aload_n dX10_build_14 rfl ?_
      refine r_getI dX10_build_15 fl_X10_350 rfl (kM_0 hM) ?_
      rw [hH]
      refine r_bipush (v := nI 8) dX10_build_18 (by decide) ?_
      refine r_icmp_ge (tgt := 27) dX10_build_20 (by decide) (fun hz => absurd hz (show ¬ _ from (by rw [nI_leI (by omega) (by omega)]; omega))) (fun _ => ?_)
      refine r_iconst (v := nI 1) dX10_build_23 (by decide) ?_
      refine r_goto (tgt := 28) dX10_build_24 (by decide) ?_
      refine r_iconst (v := nI 2) dX10_build_28 (by decide) ?_
      refine r_virtE (c_X10_right m true (nI 2) hM h0 (by decide)) lk_X10_343 mc_X10_right dX10_build_29 (kM_0 hM) (by decide) rfl rfl (Nat.le_of_ble_eq_true rfl) ?_
      rw [thM_ok]
      refine r_if_ne (tgt := 37) dX10_build_32 (by decide) (fun _ => ?_) (fun hz => absurd hz (show ¬ _ from (by decide)))
      refine r_aload_n dX10_build_37 rfl ?_
      refine r_aload_n dX10_build_38 rfl ?_
      refine r_getI dX10_build_39 fl_X10_350 rfl (kM_0 hM) ?_
      rw [hH]
      refine r_putI dX10_build_42 fl_X10_99 rfl rfl (kM_0 hM) ?_
      refine r_aload_n dX10_build_45 rfl ?_
      refine r_dup dX10_build_46 rfl ?_
      refine r_getI dX10_build_47 fl_X10_350 rfl (kM_0 hM) ?_
      rw [am_up_s, am_up_n _ _ (by decide), hH]
      refine r_iconst (v := nI 1) dX10_build_50 (by decide) ?_
      refine r_iadd dX10_build_51 ?_
      rw [nI_add]
      refine r_putI dX10_build_52 fl_X10_350 rfl rfl (kM_0 hM) ?_
      rw [am_up_s, am_up_up]
      obtain ⟨I1, hI1⟩ : ∃ X : mI, X = va_up I m (va_up (va_up (I m) 54 (nI H)) 1 (nI (H + 1))) := ⟨_, rfl⟩
      rw [← hI1]
      have e1 : ∀ a, a ≠ m → I1 a = I a := fun a ha => by rw [hI1, am_up_n _ _ ha]
      have e2 : ∀ j, j ≠ 1 → j ≠ 54 → I1 m j = I m j := fun j j1 j2 => by rw [hI1, am_up_s, am_up_n _ _ j1, am_up_n _ _ j2]
      have e3 : I1 m 1 = nI (H + 1) ∧ I1 m 54 = nI H := ⟨by rw [hI1, am_up_s, am_up_s], by rw [hI1, am_up_s, am_up_n _ _ (by decide), am_up_s]⟩
      clear hI1
      refine r_aload_n dX10_build_55 rfl ?_
      refine r_getR dX10_build_56 fl_X10_20 rfl (kM_0 hM) (pM_6 hM) ?_
      refine r_aload_n dX10_build_59 rfl ?_
      refine r_getI dX10_build_60 fl_X10_99 rfl (kM_0 hM) ?_
      rw [e3.2]
      refine r_iconst (v := nI 0) dX10_build_63 (by decide) ?_
      refine r_iast dX10_build_64 (aM_6 hM) (nI_in8 8 (by omega) (by decide)) (nI_clamp (by omega)) ?_
      refine r_aload_n dX10_build_65 rfl ?_
      refine r_getR dX10_build_66 fl_X10_23 rfl (kM_0 hM) (pM_7 hM) ?_
      refine r_aload_n dX10_build_69 rfl ?_
      refine r_getI dX10_build_70 fl_X10_99 rfl (kM_0 hM) ?_
      rw [am_up_n _ _ (by omega), e3.2]
      refine r_iconst (v := nI 0) dX10_build_73 (by decide) ?_
      refine r_iast dX10_build_74 (aM_7 hM) (nI_in8 8 (by omega) (by decide)) (nI_clamp (by omega)) ?_
      obtain ⟨I2, hI2⟩ : ∃ X : mI, X = va_up (va_up I1 (m + 3) (va_up (I1 (m + 3)) H (nI 0))) (m + 4) (va_up (va_up I1 (m + 3) (va_up (I1 (m + 3)) H (nI 0)) (m + 4)) H (nI 0)) := ⟨_, rfl⟩
      rw [← hI2]
      have hb2 : rbS I I2 m H := by
        have em : I2 m = I1 m := by rw [hI2, am_up_n _ _ (by omega), am_up_n _ _ (by omega)]
        have e33 : I2 (m + 3) = va_up (I (m + 3)) H (nI 0) := by rw [hI2, am_up_n _ _ (by omega), am_up_s, e1 _ (by omega)]
        have e44 : I2 (m + 4) = va_up (I (m + 4)) H (nI 0) := by rw [hI2, am_up_s, am_up_n _ _ (by omega), e1 _ (by omega)]
        refine ⟨fun a a1 a2 a3 a4 a5 a6 a7 => by rw [hI2, am_up_n _ _ a3, am_up_n _ _ a2, e1 a a1], fun j hj => ?_, fun j j1 j2 j3 j4 => by rw [em, e2 j j1 (by omega)], by rw [em]; exact e3, by rw [e33, am_up_s], by rw [e44, am_up_s]⟩
        rw [e33, e44, am_up_n _ _ (by omega), am_up_n _ _ (by omega), hI2, am_up_n _ _ (by omega), am_up_n _ _ (by omega), e1 _ (by omega)]
        exact ⟨rfl, rfl, rfl⟩
      have h02 : I2 m 0 = I m 0 := by rw [hI2, am_up_n _ _ (by omega), am_up_n _ _ (by omega), e2 0 (by decide) (by decide)]
      clear hI2
      refine r_aload_n dX10_build_75 rfl ?_
      refine r_iconst (v := nI 0) dX10_build_76 (by decide) ?_
      refine r_putI dX10_build_77 fl_X10_475 rfl rfl (kM_0 hM) ?_
      refine r_aload_n dX10_build_80 rfl ?_
      refine r_iconst (v := (-1)) dX10_build_81 (by decide) ?_
      refine r_putI dX10_build_82 fl_X10_478 rfl rfl (kM_0 hM) ?_
      have hb3 := (hb2.m (j := 66) (x := nI 0) (by decide)).m (j := 67) (x := -1) (by decide)
      have hl3 : rLp I (va_up (va_up I2 m (va_up (I2 m) 66 (nI 0))) m (va_up (va_up I2 m (va_up (I2 m) 66 (nI 0)) m) 67 (-1))) m H (I m 0) (some (nI 0, -1)) := ⟨hb3, by rw [am_up_s, am_up_n _ _ (by decide), am_up_s, am_up_n _ _ (by decide)]; exact h02, by rw [am_up_s, am_up_n _ _ (by decide), am_up_s, am_up_s], by rw [am_up_s, am_up_s]⟩
      generalize va_up (va_up I2 m (va_up (I2 m) 66 (nI 0))) m (va_up (va_up I2 m (va_up (I2 m) 66 (nI 0)) m) 67 (-1)) = I3 at hl3 ⊢
      clear hb3
      refine r_aload_n dX10_build_85 rfl ?_
      refine r_virt (kc2 := 0) (ks2 := 0) (c_buildsAllN m hC0 hz0 hH7 hl3) lk_X10_484 mc_X10_buildsAll dX10_build_86 (kM_0 hM) (by decide) rfl rfl (Nat.le_of_ble_eq_true rfl) (by decide) (by decide) (fun _ _ _ _ _ _ h => nomatch h.1) ?_
      rintro v4 n4 kd4 I4 J4 P4 ⟨h00, rfl, rfl, rfl, rfl, hb4, h04, hac⟩
      cases h00
      simp only [Option.toList, List.nil_append, List.cons_append]
      rw [hq] at hac ⊢
      obtain ⟨g1, g2, g3, ⟨g4, g5⟩, g6, g7⟩ := hb4
      refine r_istore_n dX10_build_89 (by decide) ?_
      refine r_aload_n dX10_build_90 rfl ?_
      refine r_dup dX10_build_91 rfl ?_
      refine r_getI dX10_build_92 fl_X10_350 rfl (kM_0 hM) ?_
      rw [g4]
      refine r_iconst (v := nI 1) dX10_build_95 (by decide) ?_
      refine r_isub dX10_build_96 ?_
      rw [pk_sub (by omega), show H + 1 - 1 = H by omega]
      refine r_putI dX10_build_97 fl_X10_350 rfl rfl (kM_0 hM) ?_
      refine r_aload_n dX10_build_100 rfl ?_
      refine r_iconst (v := (-1)) dX10_build_101 (by decide) ?_
      refine r_putI dX10_build_102 fl_X10_99 rfl rfl (kM_0 hM) ?_
      rw [am_up_s, am_up_up]
      obtain ⟨I5, hI5⟩ : ∃ X : mI, X = va_up I4 m (va_up (va_up (I4 m) 1 (nI H)) 54 (-1)) := ⟨_, rfl⟩
      rw [← hI5]
      have k1 : ∀ a, a ≠ m → I5 a = I4 a := fun a ha => by rw [hI5, am_up_n _ _ ha]
      have k2 : ∀ j, j ≠ 1 → j ≠ 54 → I5 m j = I4 m j := fun j j1 j2 => by rw [hI5, am_up_s, am_up_n _ _ j2, am_up_n _ _ j1]
      have k3 : I5 m 1 = nI H ∧ I5 m 54 = -1 := ⟨by rw [hI5, am_up_s, am_up_n _ _ (by decide), am_up_s], by rw [hI5, am_up_s, am_up_s]⟩
      clear hI5
      have hC5 : RR m kd4 I5 P4 t T fp rr H M un cs tx e im wk := RR.nw (fun a a1 a2 a3 a4 a5 a6 a7 => (k1 a a1).trans (g1 a a1 a2 a3 a4 a5 a6 a7)) (fun j hj => by rw [k1 _ (by omega), k1 _ (by omega), k1 _ (by omega)]; exact g2 j hj) (fun j hj => by
        by_cases q1 : j = 1
        · rw [q1, k3.1, hH]
        · by_cases q2 : j = 54
          · rw [q2, k3.2]; exact hSt.2.1.1.symm
          · rw [k2 j q1 q2]; exact g3 j q1 (by omega) (by omega) (by omega)) hC0
      have h05 : I5 m 0 = 0 := by rw [k2 0 (by decide) (by decide), h04]; exact h0
      have hfr5 : ∀ a, (a < m ∨ m + 55 < a) → I5 a = I a := fun a ha => (k1 a (by omega)).trans (g1 a (by omega) (by omega) (by omega) (by omega) (by omega) (by omega) (by omega))
      refine r_iload_n dX10_build_105 rfl ?_
      refine r_if_ne (tgt := 112) dX10_build_106 (by decide) (fun _ => ?_) (fun hz => absurd hz (show ¬ _ from (fun q => absurd (show bz true = 0 from q) (by decide))))
      refine r_iload_n dX10_build_112 rfl ?_
      refine r_if_ne (tgt := 123) dX10_build_113 (by decide) (fun hz => absurd (show _ from (by rw [c8]; rfl)) hz) (fun _ => ?_)
      refine r_aload_n dX10_build_116 rfl ?_
      refine r_getI dX10_build_117 fl_X10_475 rfl (kM_0 hM) ?_
      rw [k2 66 (by decide) (by decide), hac.1]
      refine r_goto (tgt := 127) dX10_build_120 (by decide) ?_
      refine r_iret rfl dX10_build_127 ?_
      rw [show bldV (some (g, v)) w = g from if_pos c8]
      exact ⟨rfl, rfl, rfl, rfl, fun a ha => ⟨hfr5 a ha, rfl⟩, h05, hC5⟩
    · skip
      refine r_aload_n dX10_build_5 rfl ?_
      refine r_iload_n dX10_build_6 rfl ?_
      refine r_virtE (c_X10_isTwo m (nI w) hM h0) lk_X10_379 mc_X10_isTwo dX10_build_7 (kM_0 hM) (by decide) rfl rfl (Nat.le_of_ble_eq_true rfl) ?_
      rw [show (decide (nI w = 0) || decide (nI w = nI 1)) = true from (tw_ok hw2), thM_ok]
      refine r_if_eq (tgt := 35) dX10_build_10 (by decide) (fun hz => absurd hz (show ¬ _ from (by decide))) (fun _ => ?_)
      refine r_aload_n dX10_build_13 rfl ?_
      refine r_aload_n dX10_build_14 rfl ?_
      refine r_getI dX10_build_15 fl_X10_350 rfl (kM_0 hM) ?_
      rw [hH]
      refine r_bipush (v := nI 8) dX10_build_18 (by decide) ?_
      refine r_icmp_ge (tgt := 27) dX10_build_20 (by decide) (fun hz => absurd hz (show ¬ _ from (by rw [nI_leI (by omega) (by omega)]; omega))) (fun _ => ?_)
      refine r_iconst (v := nI 1) dX10_build_23 (by decide) ?_
      refine r_goto (tgt := 28) dX10_build_24 (by decide) ?_
      refine r_iconst (v := nI 2) dX10_build_28 (by decide) ?_
      refine r_virtE (c_X10_right m true (nI 2) hM h0 (by decide)) lk_X10_343 mc_X10_right dX10_build_29 (kM_0 hM) (by decide) rfl rfl (Nat.le_of_ble_eq_true rfl) ?_
      rw [thM_ok]
      refine r_if_ne (tgt := 37) dX10_build_32 (by decide) (fun _ => ?_) (fun hz => absurd hz (show ¬ _ from (by decide)))
      refine r_aload_n dX10_build_37 rfl ?_
      refine r_aload_n dX10_build_38 rfl ?_
      refine r_getI dX10_build_39 fl_X10_350 rfl (kM_0 hM) ?_
      rw [hH]
      refine r_putI dX10_build_42 fl_X10_99 rfl rfl (kM_0 hM) ?_
      refine r_aload_n dX10_build_45 rfl ?_
      refine r_dup dX10_build_46 rfl ?_
      refine r_getI dX10_build_47 fl_X10_350 rfl (kM_0 hM) ?_
      rw [am_up_s, am_up_n _ _ (by decide), hH]
      refine r_iconst (v := nI 1) dX10_build_50 (by decide) ?_
      refine r_iadd dX10_build_51 ?_
      rw [nI_add]
      refine r_putI dX10_build_52 fl_X10_350 rfl rfl (kM_0 hM) ?_
      rw [am_up_s, am_up_up]
      obtain ⟨I1, hI1⟩ : ∃ X : mI, X = va_up I m (va_up (va_up (I m) 54 (nI H)) 1 (nI (H + 1))) := ⟨_, rfl⟩
      rw [← hI1]
      have e1 : ∀ a, a ≠ m → I1 a = I a := fun a ha => by rw [hI1, am_up_n _ _ ha]
      have e2 : ∀ j, j ≠ 1 → j ≠ 54 → I1 m j = I m j := fun j j1 j2 => by rw [hI1, am_up_s, am_up_n _ _ j1, am_up_n _ _ j2]
      have e3 : I1 m 1 = nI (H + 1) ∧ I1 m 54 = nI H := ⟨by rw [hI1, am_up_s, am_up_s], by rw [hI1, am_up_s, am_up_n _ _ (by decide), am_up_s]⟩
      clear hI1
      refine r_aload_n dX10_build_55 rfl ?_
      refine r_getR dX10_build_56 fl_X10_20 rfl (kM_0 hM) (pM_6 hM) ?_
      refine r_aload_n dX10_build_59 rfl ?_
      refine r_getI dX10_build_60 fl_X10_99 rfl (kM_0 hM) ?_
      rw [e3.2]
      refine r_iconst (v := nI 0) dX10_build_63 (by decide) ?_
      refine r_iast dX10_build_64 (aM_6 hM) (nI_in8 8 (by omega) (by decide)) (nI_clamp (by omega)) ?_
      refine r_aload_n dX10_build_65 rfl ?_
      refine r_getR dX10_build_66 fl_X10_23 rfl (kM_0 hM) (pM_7 hM) ?_
      refine r_aload_n dX10_build_69 rfl ?_
      refine r_getI dX10_build_70 fl_X10_99 rfl (kM_0 hM) ?_
      rw [am_up_n _ _ (by omega), e3.2]
      refine r_iconst (v := nI 0) dX10_build_73 (by decide) ?_
      refine r_iast dX10_build_74 (aM_7 hM) (nI_in8 8 (by omega) (by decide)) (nI_clamp (by omega)) ?_
      obtain ⟨I2, hI2⟩ : ∃ X : mI, X = va_up (va_up I1 (m + 3) (va_up (I1 (m + 3)) H (nI 0))) (m + 4) (va_up (va_up I1 (m + 3) (va_up (I1 (m + 3)) H (nI 0)) (m + 4)) H (nI 0)) := ⟨_, rfl⟩
      rw [← hI2]
      have hb2 : rbS I I2 m H := by
        have em : I2 m = I1 m := by rw [hI2, am_up_n _ _ (by omega), am_up_n _ _ (by omega)]
        have e33 : I2 (m + 3) = va_up (I (m + 3)) H (nI 0) := by rw [hI2, am_up_n _ _ (by omega), am_up_s, e1 _ (by omega)]
        have e44 : I2 (m + 4) = va_up (I (m + 4)) H (nI 0) := by rw [hI2, am_up_s, am_up_n _ _ (by omega), e1 _ (by omega)]
        refine ⟨fun a a1 a2 a3 a4 a5 a6 a7 => by rw [hI2, am_up_n _ _ a3, am_up_n _ _ a2, e1 a a1], fun j hj => ?_, fun j j1 j2 j3 j4 => by rw [em, e2 j j1 (by omega)], by rw [em]; exact e3, by rw [e33, am_up_s], by rw [e44, am_up_s]⟩
        rw [e33, e44, am_up_n _ _ (by omega), am_up_n _ _ (by omega), hI2, am_up_n _ _ (by omega), am_up_n _ _ (by omega), e1 _ (by omega)]
        exact ⟨rfl, rfl, rfl⟩
      have h02 : I2 m 0 = I m 0 := by rw [hI2, am_up_n _ _ (by omega), am_up_n _ _ (by omega), e2 0 (by decide) (by decide)]
      clear hI2
      refine r_aload_n dX10_build_75 rfl ?_
      refine r_iconst (v := nI 0) dX10_build_76 (by decide) ?_
      refine r_putI dX10_build_77 fl_X10_475 rfl rfl (kM_0 hM) ?_
      refine r_aload_n dX10_build_80 rfl ?_
      refine r_iconst (v := (-1)) dX10_build_81 (by decide) ?_
      refine r_putI dX10_build_82 fl_X10_478 rfl rfl (kM_0 hM) ?_
      have hb3 := (hb2.m (j := 66) (x := nI 0) (by decide)).m (j := 67) (x := -1) (by decide)
      have hl3 : rLp I (va_up (va_up I2 m (va_up (I2 m) 66 (nI 0))) m (va_up (va_up I2 m (va_up (I2 m) 66 (nI 0)) m) 67 (-1))) m H (I m 0) (some (nI 0, -1)) := ⟨hb3, by rw [am_up_s, am_up_n _ _ (by decide), am_up_s, am_up_n _ _ (by decide)]; exact h02, by rw [am_up_s, am_up_n _ _ (by decide), am_up_s, am_up_s], by rw [am_up_s, am_up_s]⟩
      generalize va_up (va_up I2 m (va_up (I2 m) 66 (nI 0))) m (va_up (va_up I2 m (va_up (I2 m) 66 (nI 0)) m) 67 (-1)) = I3 at hl3 ⊢
      clear hb3
      refine r_aload_n dX10_build_85 rfl ?_
      refine r_virt (kc2 := 0) (ks2 := 0) (c_buildsAllN m hC0 hz0 hH7 hl3) lk_X10_484 mc_X10_buildsAll dX10_build_86 (kM_0 hM) (by decide) rfl rfl (Nat.le_of_ble_eq_true rfl) (by decide) (by decide) (fun _ _ _ _ _ _ h => nomatch h.1) ?_
      rintro v4 n4 kd4 I4 J4 P4 ⟨h00, rfl, rfl, rfl, rfl, hb4, h04, hac⟩
      cases h00
      simp only [Option.toList, List.nil_append, List.cons_append]
      rw [hq] at hac ⊢
      obtain ⟨g1, g2, g3, ⟨g4, g5⟩, g6, g7⟩ := hb4
      refine r_istore_n dX10_build_89 (by decide) ?_
      refine r_aload_n dX10_build_90 rfl ?_
      refine r_dup dX10_build_91 rfl ?_
      refine r_getI dX10_build_92 fl_X10_350 rfl (kM_0 hM) ?_
      rw [g4]
      refine r_iconst (v := nI 1) dX10_build_95 (by decide) ?_
      refine r_isub dX10_build_96 ?_
      rw [pk_sub (by omega), show H + 1 - 1 = H by omega]
      refine r_putI dX10_build_97 fl_X10_350 rfl rfl (kM_0 hM) ?_
      refine r_aload_n dX10_build_100 rfl ?_
      refine r_iconst (v := (-1)) dX10_build_101 (by decide) ?_
      refine r_putI dX10_build_102 fl_X10_99 rfl rfl (kM_0 hM) ?_
      rw [am_up_s, am_up_up]
      obtain ⟨I5, hI5⟩ : ∃ X : mI, X = va_up I4 m (va_up (va_up (I4 m) 1 (nI H)) 54 (-1)) := ⟨_, rfl⟩
      rw [← hI5]
      have k1 : ∀ a, a ≠ m → I5 a = I4 a := fun a ha => by rw [hI5, am_up_n _ _ ha]
      have k2 : ∀ j, j ≠ 1 → j ≠ 54 → I5 m j = I4 m j := fun j j1 j2 => by rw [hI5, am_up_s, am_up_n _ _ j2, am_up_n _ _ j1]
      have k3 : I5 m 1 = nI H ∧ I5 m 54 = -1 := ⟨by rw [hI5, am_up_s, am_up_n _ _ (by decide), am_up_s], by rw [hI5, am_up_s, am_up_s]⟩
      clear hI5
      have hC5 : RR m kd4 I5 P4 t T fp rr H M un cs tx e im wk := RR.nw (fun a a1 a2 a3 a4 a5 a6 a7 => (k1 a a1).trans (g1 a a1 a2 a3 a4 a5 a6 a7)) (fun j hj => by rw [k1 _ (by omega), k1 _ (by omega), k1 _ (by omega)]; exact g2 j hj) (fun j hj => by
        by_cases q1 : j = 1
        · rw [q1, k3.1, hH]
        · by_cases q2 : j = 54
          · rw [q2, k3.2]; exact hSt.2.1.1.symm
          · rw [k2 j q1 q2]; exact g3 j q1 (by omega) (by omega) (by omega)) hC0
      have h05 : I5 m 0 = 0 := by rw [k2 0 (by decide) (by decide), h04]; exact h0
      have hfr5 : ∀ a, (a < m ∨ m + 55 < a) → I5 a = I a := fun a ha => (k1 a (by omega)).trans (g1 a (by omega) (by omega) (by omega) (by omega) (by omega) (by omega) (by omega))
      refine r_iload_n dX10_build_105 rfl ?_
      refine r_if_ne (tgt := 112) dX10_build_106 (by decide) (fun _ => ?_) (fun hz => absurd hz (show ¬ _ from (fun q => absurd (show bz true = 0 from q) (by decide))))
      refine r_iload_n dX10_build_112 rfl ?_
      refine r_if_ne (tgt := 123) dX10_build_113 (by decide) (fun _ => ?_) (fun hz => absurd hz (show ¬ _ from (nI_ne0 (by omega) (by omega))))
      refine r_aload_n dX10_build_123 rfl ?_
      refine r_getI dX10_build_124 fl_X10_478 rfl (kM_0 hM) ?_
      rw [k2 67 (by decide) (by decide), hac.2]
      refine r_iret rfl dX10_build_127 ?_
      rw [show bldV (some (g, v)) w = v from if_neg c8]
      exact ⟨rfl, rfl, rfl, rfl, fun a ha => ⟨hfr5 a ha, rfl⟩, h05, hC5⟩

