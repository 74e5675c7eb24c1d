/-! STREET: its picture, its small questions -/
def kS (kd : mK) (P : mP) (b : Nat) : Prop := kd b = some (0, 7) ∧ kd (b + 1) = some (1, 8) ∧ kd (b + 2) = some (1, 520) ∧ kd (b + 3) = some (1, 8) ∧ kd (b + 4) = some (1, 8) ∧ kd (b + 5) = some (2, 1000) ∧ kd (b + 6) = some (1, 8) ∧ kd (b + 7) = some (1, 8) ∧ kd (b + 8) = some (1, 40) ∧ kd (b + 9) = some (1, 8) ∧ P b 4 = some (b + 1) ∧ P b 5 = some (b + 2) ∧ P b 7 = some (b + 3) ∧ P b 8 = some (b + 4) ∧ P b 9 = some (b + 5) ∧ P b 11 = some (b + 6) ∧ P b 12 = some (b + 7) ∧ P b 13 = some (b + 8) ∧ P b 14 = some (b + 9)
/-- Life at b: sons, debts, acts, letterHouses, letterNumbers behind it -/
def kL (kd : mK) (P : mP) (b : Nat) : Prop := kd b = some (0, 2) ∧ kd (b + 1) = some (1, 8) ∧ kd (b + 2) = some (1, 8) ∧ kd (b + 3) = some (1, 30) ∧ kd (b + 4) = some (1, 10) ∧ kd (b + 5) = some (1, 10) ∧ P b 0 = some (b + 1) ∧ P b 1 = some (b + 2) ∧ P b 3 = some (b + 3) ∧ P b 5 = some (b + 4) ∧ P b 6 = some (b + 5)
theorem nI_inc (j : Nat) : nI j + Int32.ofInt 1 = nI (j + 1) := nI_1 j
theorem nI_in8 {j : Nat} (N : Nat) (h : j < N) (hN : N < 2 ^ 31) : vp_in (nI j) N := vp_in_nI h hN
/-- what a code of two operands makes of them -/
def jn (c a b : Int32) : Int32 := if c = nI 20004 then a + b else if c = nI 20005 then a - b else if c = nI 20006 then a * b else if c = nI 20007 then (if b = 0 then nI 0 else a / b) else if c = nI 20008 then (if b ≤ a then nI 0 else nI 1) else if c = nI 20009 then (if a = b then nI 1 else nI 0) else if c = nI 20010 then (if a = 0 then nI 0 else if b = 0 then nI 0 else nI 1) else if a = 0 then (if b = 0 then nI 0 else nI 1) else nI 1
theorem dX7_joined_0 : decode cX7_joined 0 = .ok (.iload_n 0, 1) := by decide +kernel
theorem dX7_joined_1 : decode cX7_joined 1 = .ok (.tableswitch 103 20004 20010 #[43, 47, 51, 55, 67, 78, 89], 43) := by decide +kernel
theorem dX7_joined_44 : decode cX7_joined 44 = .ok (.iload_n 1, 1) := by decide +kernel
theorem dX7_joined_45 : decode cX7_joined 45 = .ok (.iload_n 2, 1) := by decide +kernel
theorem dX7_joined_46 : decode cX7_joined 46 = .ok (.iadd, 1) := by decide +kernel
theorem dX7_joined_47 : decode cX7_joined 47 = .ok (.ireturn, 1) := by decide +kernel
theorem dX7_joined_48 : decode cX7_joined 48 = .ok (.iload_n 1, 1) := by decide +kernel
theorem dX7_joined_49 : decode cX7_joined 49 = .ok (.iload_n 2, 1) := by decide +kernel
theorem dX7_joined_50 : decode cX7_joined 50 = .ok (.isub, 1) := by decide +kernel
theorem dX7_joined_51 : decode cX7_joined 51 = .ok (.ireturn, 1) := by decide +kernel
theorem dX7_joined_52 : decode cX7_joined 52 = .ok (.iload_n 1, 1) := by decide +kernel
theorem dX7_joined_53 : decode cX7_joined 53 = .ok (.iload_n 2, 1) := by decide +kernel
theorem dX7_joined_54 : decode cX7_joined 54 = .ok (.imul, 1) := by decide +kernel
theorem dX7_joined_55 : decode cX7_joined 55 = .ok (.ireturn, 1) := by decide +kernel
theorem dX7_joined_56 : decode cX7_joined 56 = .ok (.iload_n 2, 1) := by decide +kernel
theorem dX7_joined_57 : decode cX7_joined 57 = .ok (.ifCond .ne 7, 3) := by decide +kernel
theorem dX7_joined_60 : decode cX7_joined 60 = .ok (.iconst 0, 1) := by decide +kernel
theorem dX7_joined_61 : decode cX7_joined 61 = .ok (.goto 6, 3) := by decide +kernel
theorem dX7_joined_64 : decode cX7_joined 64 = .ok (.iload_n 1, 1) := by decide +kernel
theorem dX7_joined_65 : decode cX7_joined 65 = .ok (.iload_n 2, 1) := by decide +kernel
theorem dX7_joined_66 : decode cX7_joined 66 = .ok (.idiv, 1) := by decide +kernel
theorem dX7_joined_67 : decode cX7_joined 67 = .ok (.ireturn, 1) := by decide +kernel
theorem dX7_joined_68 : decode cX7_joined 68 = .ok (.iload_n 1, 1) := by decide +kernel
theorem dX7_joined_69 : decode cX7_joined 69 = .ok (.iload_n 2, 1) := by decide +kernel
theorem dX7_joined_70 : decode cX7_joined 70 = .ok (.if_icmp .ge 7, 3) := by decide +kernel
theorem dX7_joined_73 : decode cX7_joined 73 = .ok (.iconst 1, 1) := by decide +kernel
theorem dX7_joined_74 : decode cX7_joined 74 = .ok (.goto 4, 3) := by decide +kernel
theorem dX7_joined_77 : decode cX7_joined 77 = .ok (.iconst 0, 1) := by decide +kernel
theorem dX7_joined_78 : decode cX7_joined 78 = .ok (.ireturn, 1) := by decide +kernel
theorem dX7_joined_79 : decode cX7_joined 79 = .ok (.iload_n 1, 1) := by decide +kernel
theorem dX7_joined_80 : decode cX7_joined 80 = .ok (.iload_n 2, 1) := by decide +kernel
theorem dX7_joined_81 : decode cX7_joined 81 = .ok (.if_icmp .ne 7, 3) := by decide +kernel
theorem dX7_joined_84 : decode cX7_joined 84 = .ok (.iconst 1, 1) := by decide +kernel
theorem dX7_joined_85 : decode cX7_joined 85 = .ok (.goto 4, 3) := by decide +kernel
theorem dX7_joined_88 : decode cX7_joined 88 = .ok (.iconst 0, 1) := by decide +kernel
theorem dX7_joined_89 : decode cX7_joined 89 = .ok (.ireturn, 1) := by decide +kernel
theorem dX7_joined_90 : decode cX7_joined 90 = .ok (.iload_n 1, 1) := by decide +kernel
theorem dX7_joined_91 : decode cX7_joined 91 = .ok (.ifCond .eq 11, 3) := by decide +kernel
theorem dX7_joined_94 : decode cX7_joined 94 = .ok (.iload_n 2, 1) := by decide +kernel
theorem dX7_joined_95 : decode cX7_joined 95 = .ok (.ifCond .eq 7, 3) := by decide +kernel
theorem dX7_joined_98 : decode cX7_joined 98 = .ok (.iconst 1, 1) := by decide +kernel
theorem dX7_joined_99 : decode cX7_joined 99 = .ok (.goto 4, 3) := by decide +kernel
theorem dX7_joined_102 : decode cX7_joined 102 = .ok (.iconst 0, 1) := by decide +kernel
theorem dX7_joined_103 : decode cX7_joined 103 = .ok (.ireturn, 1) := by decide +kernel
theorem dX7_joined_104 : decode cX7_joined 104 = .ok (.iload_n 1, 1) := by decide +kernel
theorem dX7_joined_105 : decode cX7_joined 105 = .ok (.ifCond .ne 7, 3) := by decide +kernel
theorem dX7_joined_108 : decode cX7_joined 108 = .ok (.iload_n 2, 1) := by decide +kernel
theorem dX7_joined_109 : decode cX7_joined 109 = .ok (.ifCond .eq 7, 3) := by decide +kernel
theorem dX7_joined_112 : decode cX7_joined 112 = .ok (.iconst 1, 1) := by decide +kernel
theorem dX7_joined_113 : decode cX7_joined 113 = .ok (.goto 4, 3) := by decide +kernel
theorem dX7_joined_116 : decode cX7_joined 116 = .ok (.iconst 0, 1) := by decide +kernel
theorem dX7_joined_117 : decode cX7_joined 117 = .ok (.ireturn, 1) := by decide +kernel
set_option maxHeartbeats 4000000 in
set_option maxRecDepth 100000 in
theorem c_X7_joined (c x y : Int32) {n : Nat} {kd : mK} {I : mI} {J : mJ} {P : mP} : Ct yX7_joined cX7_joined 3 (some .int) 1 0 0 [.int c, .int x, .int y] n kd I J P (am_is (some (.int (jn c x y))) n kd I J P) := by
  refine ct_of 0 (by decide +kernel) (Nat.le_of_ble_eq_true rfl) rfl ?_
  refine r_iload_n dX7_joined_0 rfl ?_
  by_cases e1_0 : c = nI 20004
  · refine r_tabE (off := 43) (tgt := 44) e1_0 dX7_joined_1 (by decide) (by decide) (by decide) (by decide) ?_
    refine r_iload_n dX7_joined_44 rfl ?_
    refine r_iload_n dX7_joined_45 rfl ?_
    refine r_iadd dX7_joined_46 ?_
    refine r_iret rfl dX7_joined_47 ?_
    exact ⟨by unfold jn; repeat (first | rw [if_pos (by assumption)] | rw [if_neg (by assumption)]), rfl, rfl, rfl, rfl, rfl⟩
  by_cases e1_1 : c = nI 20005
  · refine r_tabE (off := 47) (tgt := 48) e1_1 dX7_joined_1 (by decide) (by decide) (by decide) (by decide) ?_
    refine r_iload_n dX7_joined_48 rfl ?_
    refine r_iload_n dX7_joined_49 rfl ?_
    refine r_isub dX7_joined_50 ?_
    refine r_iret rfl dX7_joined_51 ?_
    exact ⟨by unfold jn; repeat (first | rw [if_pos (by assumption)] | rw [if_neg (by assumption)]), rfl, rfl, rfl, rfl, rfl⟩
  by_cases e1_2 : c = nI 20006
  · refine r_tabE (off := 51) (tgt := 52) e1_2 dX7_joined_1 (by decide) (by decide) (by decide) (by decide) ?_
    refine r_iload_n dX7_joined_52 rfl ?_
    refine r_iload_n dX7_joined_53 rfl ?_
    refine r_imul dX7_joined_54 ?_
    refine r_iret rfl dX7_joined_55 ?_
    exact ⟨by unfold jn; repeat (first | rw [if_pos (by assumption)] | rw [if_neg (by assumption)]), rfl, rfl, rfl, rfl, rfl⟩
  by_cases e1_3 : c = nI 20007
  · refine r_tabE (off := 55) (tgt := 56) e1_3 dX7_joined_1 (by decide) (by decide) (by decide) (by decide) ?_
    refine r_iload_n dX7_joined_56 rfl ?_
    refine r_if_ne (tgt := 64) dX7_joined_57 (by decide) (fun h57 => ?_) (fun h57 => ?_)
    · skip
      refine r_iload_n dX7_joined_64 rfl ?_
      refine r_iload_n dX7_joined_65 rfl ?_
      refine r_idiv dX7_joined_66 (by assumption) ?_
      refine r_iret rfl dX7_joined_67 ?_
      exact ⟨by unfold jn; repeat (first | rw [if_pos (by assumption)] | rw [if_neg (by assumption)]), rfl, rfl, rfl, rfl, rfl⟩
    · skip
      refine r_iconst (v := nI 0) dX7_joined_60 (by decide) ?_
      refine r_goto (tgt := 67) dX7_joined_61 (by decide) ?_
      refine r_iret rfl dX7_joined_67 ?_
      exact ⟨by unfold jn; repeat (first | rw [if_pos (by assumption)] | rw [if_neg (by assumption)]), rfl, rfl, rfl, rfl, rfl⟩
  by_cases e1_4 : c = nI 20008
  · refine r_tabE (off := 67) (tgt := 68) e1_4 dX7_joined_1 (by decide) (by decide) (by decide) (by decide) ?_
    refine r_iload_n dX7_joined_68 rfl ?_
    refine r_iload_n dX7_joined_69 rfl ?_
    refine r_icmp_ge (tgt := 77) dX7_joined_70 (by decide) (fun h70 => ?_) (fun h70 => ?_)
    · skip
      refine r_iconst (v := nI 0) dX7_joined_77 (by decide) ?_
      refine r_iret rfl dX7_joined_78 ?_
      exact ⟨by unfold jn; repeat (first | rw [if_pos (by assumption)] | rw [if_neg (by assumption)]), rfl, rfl, rfl, rfl, rfl⟩
    · skip
      refine r_iconst (v := nI 1) dX7_joined_73 (by decide) ?_
      refine r_goto (tgt := 78) dX7_joined_74 (by decide) ?_
      refine r_iret rfl dX7_joined_78 ?_
      exact ⟨by unfold jn; repeat (first | rw [if_pos (by assumption)] | rw [if_neg (by assumption)]), rfl, rfl, rfl, rfl, rfl⟩
  by_cases e1_5 : c = nI 20009
  · refine r_tabE (off := 78) (tgt := 79) e1_5 dX7_joined_1 (by decide) (by decide) (by decide) (by decide) ?_
    refine r_iload_n dX7_joined_79 rfl ?_
    refine r_iload_n dX7_joined_80 rfl ?_
    refine r_icmp_ne (tgt := 88) dX7_joined_81 (by decide) (fun h81 => ?_) (fun h81 => ?_)
    · skip
      refine r_iconst (v := nI 0) dX7_joined_88 (by decide) ?_
      refine r_iret rfl dX7_joined_89 ?_
      exact ⟨by unfold jn; repeat (first | rw [if_pos (by assumption)] | rw [if_neg (by assumption)]), rfl, rfl, rfl, rfl, rfl⟩
    · skip
      refine r_iconst (v := nI 1) dX7_joined_84 (by decide) ?_
      refine r_goto (tgt := 89) dX7_joined_85 (by decide) ?_
      refine r_iret rfl dX7_joined_89 ?_
      exact ⟨by unfold jn; repeat (first | rw [if_pos (by assumption)] | rw [if_neg (by assumption)]), rfl, rfl, rfl, rfl, rfl⟩
  by_cases e1_6 : c = nI 20010
  · refine r_tabE (off := 89) (tgt := 90) e1_6 dX7_joined_1 (by decide) (by decide) (by decide) (by decide) ?_
    refine r_iload_n dX7_joined_90 rfl ?_
    refine r_if_eq (tgt := 102) dX7_joined_91 (by decide) (fun h91 => ?_) (fun h91 => ?_)
    · skip
      refine r_iconst (v := nI 0) dX7_joined_102 (by decide) ?_
      refine r_iret rfl dX7_joined_103 ?_
      exact ⟨by unfold jn; repeat (first | rw [if_pos (by assumption)] | rw [if_neg (by assumption)]), rfl, rfl, rfl, rfl, rfl⟩
    · skip
      refine r_iload_n dX7_joined_94 rfl ?_
      refine r_if_eq (tgt := 102) dX7_joined_95 (by decide) (fun h95 => ?_) (fun h95 => ?_)
      · skip
        refine r_iconst (v := nI 0) dX7_joined_102 (by decide) ?_
        refine r_iret rfl dX7_joined_103 ?_
        exact ⟨by unfold jn; repeat (first | rw [if_pos (by assumption)] | rw [if_neg (by assumption)]), rfl, rfl, rfl, rfl, rfl⟩
      · skip
        refine r_iconst (v := nI 1) dX7_joined_98 (by decide) ?_
        refine r_goto (tgt := 103) dX7_joined_99 (by decide) ?_
        refine r_iret rfl dX7_joined_103 ?_
        exact ⟨by unfold jn; repeat (first | rw [if_pos (by assumption)] | rw [if_neg (by assumption)]), rfl, rfl, rfl, rfl, rfl⟩
  refine r_tabOut (tgt := 104) dX7_joined_1 (by have hT : ∀ v : Int32, ¬ c = v → ¬ (c).toInt = v.toInt := fun v h q => h (Int32.toInt_inj.mp q); have q0 := And.intro trivial trivial; have g0 := hT _ e1_0; have w0 : (nI 20004).toInt = 20004 := (by decide); rw [w0] at g0; have g1 := hT _ e1_1; have w1 : (nI 20005).toInt = 20005 := (by decide); rw [w1] at g1; have g2 := hT _ e1_2; have w2 : (nI 20006).toInt = 20006 := (by decide); rw [w2] at g2; have g3 := hT _ e1_3; have w3 : (nI 20007).toInt = 20007 := (by decide); rw [w3] at g3; have g4 := hT _ e1_4; have w4 : (nI 20008).toInt = 20008 := (by decide); rw [w4] at g4; have g5 := hT _ e1_5; have w5 : (nI 20009).toInt = 20009 := (by decide); rw [w5] at g5; have g6 := hT _ e1_6; have w6 : (nI 20010).toInt = 20010 := (by decide); rw [w6] at g6; omega) (by decide) ?_
  refine r_iload_n dX7_joined_104 rfl ?_
  refine r_if_ne (tgt := 112) dX7_joined_105 (by decide) (fun h105 => ?_) (fun h105 => ?_)
  · skip
    refine r_iconst (v := nI 1) dX7_joined_112 (by decide) ?_
    refine r_goto (tgt := 117) dX7_joined_113 (by decide) ?_
    refine r_iret rfl dX7_joined_117 ?_
    exact ⟨by unfold jn; repeat (first | rw [if_pos (by assumption)] | rw [if_neg (by assumption)]), rfl, rfl, rfl, rfl, rfl⟩
  · skip
    refine r_iload_n dX7_joined_108 rfl ?_
    refine r_if_eq (tgt := 116) dX7_joined_109 (by decide) (fun h109 => ?_) (fun h109 => ?_)
    · skip
      refine r_iconst (v := nI 0) dX7_joined_116 (by decide) ?_
      refine r_iret rfl dX7_joined_117 ?_
      exact ⟨by unfold jn; repeat (first | rw [if_pos (by assumption)] | rw [if_neg (by assumption)]), rfl, rfl, rfl, rfl, rfl⟩
    · skip
      refine r_iconst (v := nI 1) dX7_joined_112 (by decide) ?_
      refine r_goto (tgt := 117) dX7_joined_113 (by decide) ?_
      refine r_iret rfl dX7_joined_117 ?_
      exact ⟨by unfold jn; repeat (first | rw [if_pos (by assumption)] | rw [if_neg (by assumption)]), rfl, rfl, rfl, rfl, rfl⟩

theorem dX7_allHouses_0 : decode cX7_allHouses 0 = .ok (.iconst 1, 1) := by decide +kernel
theorem dX7_allHouses_1 : decode cX7_allHouses 1 = .ok (.aload_n 0, 1) := by decide +kernel
theorem dX7_allHouses_2 : decode cX7_allHouses 2 = .ok (.getfield 9, 3) := by decide +kernel
theorem dX7_allHouses_5 : decode cX7_allHouses 5 = .ok (.ishl, 1) := by decide +kernel
theorem dX7_allHouses_6 : decode cX7_allHouses 6 = .ok (.iconst 1, 1) := by decide +kernel
theorem dX7_allHouses_7 : decode cX7_allHouses 7 = .ok (.isub, 1) := by decide +kernel
theorem dX7_allHouses_8 : decode cX7_allHouses 8 = .ok (.ireturn, 1) := by decide +kernel
set_option maxHeartbeats 4000000 in
set_option maxRecDepth 100000 in
theorem c_X7_allHouses (b : Nat) {n : Nat} {kd : mK} {I : mI} {J : mJ} {P : mP} (hS : kS kd P b) : Ct yX7_allHouses cX7_allHouses 1 (some .int) 1 0 0 [.ref b] n kd I J P (am_is (some (.int ((nI 1 <<< (I b 0 &&& 31)) - nI 1))) n kd I J P) := by
  obtain ⟨s0, s1, s2, s3, s4, s5, s6, s7, s8, s9, p4, p5, p7, p8, p9, p11, p12, p13, p14⟩ := hS
  refine ct_of 0 (by decide +kernel) (Nat.le_of_ble_eq_true rfl) rfl ?_
  refine r_iconst (v := nI 1) dX7_allHouses_0 (by decide) ?_
  refine r_aload_n dX7_allHouses_1 rfl ?_
  refine r_getI dX7_allHouses_2 fl_X7_9 rfl (by assumption) ?_
  refine r_ishl dX7_allHouses_5 ?_
  refine r_iconst (v := nI 1) dX7_allHouses_6 (by decide) ?_
  refine r_isub dX7_allHouses_7 ?_
  refine r_iret rfl dX7_allHouses_8 ?_
  exact am_is.mk

theorem dX7_hasRiddle_0 : decode cX7_hasRiddle 0 = .ok (.aload_n 0, 1) := by decide +kernel
theorem dX7_hasRiddle_1 : decode cX7_hasRiddle 1 = .ok (.getfield 22, 3) := by decide +kernel
theorem dX7_hasRiddle_4 : decode cX7_hasRiddle 4 = .ok (.iload_n 1, 1) := by decide +kernel
theorem dX7_hasRiddle_5 : decode cX7_hasRiddle 5 = .ok (.ishr, 1) := by decide +kernel
theorem dX7_hasRiddle_6 : decode cX7_hasRiddle 6 = .ok (.iconst 1, 1) := by decide +kernel
theorem dX7_hasRiddle_7 : decode cX7_hasRiddle 7 = .ok (.iand, 1) := by decide +kernel
theorem dX7_hasRiddle_8 : decode cX7_hasRiddle 8 = .ok (.ifCond .eq 7, 3) := by decide +kernel
theorem dX7_hasRiddle_11 : decode cX7_hasRiddle 11 = .ok (.iconst 1, 1) := by decide +kernel
theorem dX7_hasRiddle_12 : decode cX7_hasRiddle 12 = .ok (.goto 4, 3) := by decide +kernel
theorem dX7_hasRiddle_15 : decode cX7_hasRiddle 15 = .ok (.iconst 0, 1) := by decide +kernel
theorem dX7_hasRiddle_16 : decode cX7_hasRiddle 16 = .ok (.ireturn, 1) := by decide +kernel
set_option maxHeartbeats 4000000 in
set_option maxRecDepth 100000 in
theorem c_X7_hasRiddle (b : Nat) (h : Int32) {n : Nat} {kd : mK} {I : mI} {J : mJ} {P : mP} (hS : kS kd P b) : Ct yX7_hasRiddle cX7_hasRiddle 2 (some .boolean) 1 0 0 [.ref b, .int h] n kd I J P (am_is (some (.int (if (I b 3 >>> (h &&& 31)) &&& nI 1 = 0 then nI 0 else nI 1))) n kd I J P) := by
  obtain ⟨s0, s1, s2, s3, s4, s5, s6, s7, s8, s9, p4, p5, p7, p8, p9, p11, p12, p13, p14⟩ := hS
  refine ct_of 0 (by decide +kernel) (Nat.le_of_ble_eq_true rfl) rfl ?_
  refine r_aload_n dX7_hasRiddle_0 rfl ?_
  refine r_getI dX7_hasRiddle_1 fl_X7_22 rfl (by assumption) ?_
  refine r_iload_n dX7_hasRiddle_4 rfl ?_
  refine r_ishr dX7_hasRiddle_5 ?_
  refine r_iconst (v := nI 1) dX7_hasRiddle_6 (by decide) ?_
  refine r_iand dX7_hasRiddle_7 ?_
  refine r_if_eq (tgt := 15) dX7_hasRiddle_8 (by decide) (fun h8 => ?_) (fun h8 => ?_)
  · skip
    refine r_iconst (v := nI 0) dX7_hasRiddle_15 (by decide) ?_
    refine r_zret rfl dX7_hasRiddle_16 (by first | exact Or.inl rfl | exact Or.inr rfl | assumption) ?_
    exact ⟨by simp [*], rfl, rfl, rfl, rfl, rfl⟩
  · skip
    refine r_iconst (v := nI 1) dX7_hasRiddle_11 (by decide) ?_
    refine r_goto (tgt := 16) dX7_hasRiddle_12 (by decide) ?_
    refine r_zret rfl dX7_hasRiddle_16 (by first | exact Or.inl rfl | exact Or.inr rfl | assumption) ?_
    exact ⟨by simp [*], rfl, rfl, rfl, rfl, rfl⟩

theorem dX7_speaking_0 : decode cX7_speaking 0 = .ok (.aload_n 0, 1) := by decide +kernel
theorem dX7_speaking_1 : decode cX7_speaking 1 = .ok (.getfield 22, 3) := by decide +kernel
theorem dX7_speaking_4 : decode cX7_speaking 4 = .ok (.aload_n 1, 1) := by decide +kernel
theorem dX7_speaking_5 : decode cX7_speaking 5 = .ok (.getfield 70, 3) := by decide +kernel
theorem dX7_speaking_8 : decode cX7_speaking 8 = .ok (.iconst (-1), 1) := by decide +kernel
theorem dX7_speaking_9 : decode cX7_speaking 9 = .ok (.ixor, 1) := by decide +kernel
theorem dX7_speaking_10 : decode cX7_speaking 10 = .ok (.iand, 1) := by decide +kernel
theorem dX7_speaking_11 : decode cX7_speaking 11 = .ok (.ireturn, 1) := by decide +kernel
set_option maxHeartbeats 4000000 in
set_option maxRecDepth 100000 in
theorem c_X7_speaking (b q : Nat) {n : Nat} {kd : mK} {I : mI} {J : mJ} {P : mP} (hS : kS kd P b) (hL : kL kd P q) : Ct yX7_speaking cX7_speaking 2 (some .int) 1 0 0 [.ref b, .ref q] n kd I J P (am_is (some (.int (I b 3 &&& (I q 2 ^^^ (-1))))) n kd I J P) := by
  obtain ⟨s0, s1, s2, s3, s4, s5, s6, s7, s8, s9, p4, p5, p7, p8, p9, p11, p12, p13, p14⟩ := hS
  obtain ⟨l0, l1, l2, l3, l4, l5, q0, q1, q3, q5, q6⟩ := hL
  refine ct_of 0 (by decide +kernel) (Nat.le_of_ble_eq_true rfl) rfl ?_
  refine r_aload_n dX7_speaking_0 rfl ?_
  refine r_getI dX7_speaking_1 fl_X7_22 rfl (by assumption) ?_
  refine r_aload_n dX7_speaking_4 rfl ?_
  refine r_getI dX7_speaking_5 fl_X7_70 rfl (by assumption) ?_
  refine r_iconst (v := (-1)) dX7_speaking_8 (by decide) ?_
  refine r_ixor dX7_speaking_9 ?_
  refine r_iand dX7_speaking_10 ?_
  refine r_iret rfl dX7_speaking_11 ?_
  exact am_is.mk

theorem dX7_looksAt_0 : decode cX7_looksAt 0 = .ok (.iload_n 1, 1) := by decide +kernel
theorem dX7_looksAt_1 : decode cX7_looksAt 1 = .ok (.ifCond .lt 11, 3) := by decide +kernel
theorem dX7_looksAt_4 : decode cX7_looksAt 4 = .ok (.iload_n 1, 1) := by decide +kernel
theorem dX7_looksAt_5 : decode cX7_looksAt 5 = .ok (.aload_n 0, 1) := by decide +kernel
theorem dX7_looksAt_6 : decode cX7_looksAt 6 = .ok (.getfield 9, 3) := by decide +kernel
theorem dX7_looksAt_9 : decode cX7_looksAt 9 = .ok (.if_icmp .lt 7, 3) := by decide +kernel
theorem dX7_looksAt_12 : decode cX7_looksAt 12 = .ok (.iconst 0, 1) := by decide +kernel
theorem dX7_looksAt_13 : decode cX7_looksAt 13 = .ok (.goto 14, 3) := by decide +kernel
theorem dX7_looksAt_16 : decode cX7_looksAt 16 = .ok (.aload_n 0, 1) := by decide +kernel
theorem dX7_looksAt_17 : decode cX7_looksAt 17 = .ok (.getfield 25, 3) := by decide +kernel
theorem dX7_looksAt_20 : decode cX7_looksAt 20 = .ok (.iload_n 1, 1) := by decide +kernel
theorem dX7_looksAt_21 : decode cX7_looksAt 21 = .ok (.iaload, 1) := by decide +kernel
theorem dX7_looksAt_22 : decode cX7_looksAt 22 = .ok (.aload_n 0, 1) := by decide +kernel
theorem dX7_looksAt_23 : decode cX7_looksAt 23 = .ok (.invokevirtual 75, 3) := by decide +kernel
theorem dX7_looksAt_26 : decode cX7_looksAt 26 = .ok (.iand, 1) := by decide +kernel
theorem dX7_looksAt_27 : decode cX7_looksAt 27 = .ok (.ireturn, 1) := by decide +kernel
set_option maxHeartbeats 4000000 in
set_option maxRecDepth 100000 in
theorem c_X7_looksAt (b : Nat) (h : Nat) {n : Nat} {kd : mK} {I : mI} {J : mJ} {P : mP} (hS : kS kd P b) (hh : h < 8) : Ct yX7_looksAt cX7_looksAt 2 (some .int) 2 0 0 [.ref b, .int (nI h)] n kd I J P (am_is (some (.int (if nI h < I b 0 then I (b + 1) h &&& ((nI 1 <<< (I b 0 &&& 31)) - nI 1) else nI 0))) n kd I J P) := by
  obtain ⟨s0, s1, s2, s3, s4, s5, s6, s7, s8, s9, p4, p5, p7, p8, p9, p11, p12, p13, p14⟩ := hS
  refine ct_of 0 (by decide +kernel) (Nat.le_of_ble_eq_true rfl) rfl ?_
  refine r_iload_n dX7_looksAt_0 rfl ?_
  refine r_if_lt (tgt := 12) dX7_looksAt_1 (by decide) (fun h1 => absurd h1 (nI_pos (by omega))) (fun _ => ?_)
  refine r_iload_n dX7_looksAt_4 rfl ?_
  refine r_aload_n dX7_looksAt_5 rfl ?_
  refine r_getI dX7_looksAt_6 fl_X7_9 rfl (by assumption) ?_
  refine r_icmp_lt (tgt := 16) dX7_looksAt_9 (by decide) (fun h9 => ?_) (fun h9 => ?_)
  · skip
    refine r_aload_n dX7_looksAt_16 rfl ?_
    refine r_getR dX7_looksAt_17 fl_X7_25 rfl (by assumption) (by assumption) ?_
    refine r_iload_n dX7_looksAt_20 rfl ?_
    refine r_iald dX7_looksAt_21 s1 (nI_in8 8 hh (by decide)) (nI_clamp (by omega)) ?_
    refine r_aload_n dX7_looksAt_22 rfl ?_
    refine r_virtE (c_X7_allHouses b ⟨s0, s1, s2, s3, s4, s5, s6, s7, s8, s9, p4, p5, p7, p8, p9, p11, p12, p13, p14⟩) lk_X7_75 mc_X7_allHouses dX7_looksAt_23 s0 (by decide) rfl rfl (Nat.le_of_ble_eq_true rfl) ?_
    refine r_iand dX7_looksAt_26 ?_
    refine r_iret rfl dX7_looksAt_27 ?_
    exact ⟨by simp [*], rfl, rfl, rfl, rfl, rfl⟩
  · skip
    refine r_iconst (v := nI 0) dX7_looksAt_12 (by decide) ?_
    refine r_goto (tgt := 27) dX7_looksAt_13 (by decide) ?_
    refine r_iret rfl dX7_looksAt_27 ?_
    exact ⟨by simp [*], rfl, rfl, rfl, rfl, rfl⟩

theorem dX7_operand_0 : decode cX7_operand 0 = .ok (.iload_n 1, 1) := by decide +kernel
theorem dX7_operand_1 : decode cX7_operand 1 = .ok (.sipush 20000, 3) := by decide +kernel
theorem dX7_operand_4 : decode cX7_operand 4 = .ok (.if_icmp .ge 35, 3) := by decide +kernel
theorem dX7_operand_7 : decode cX7_operand 7 = .ok (.iload_n 1, 1) := by decide +kernel
theorem dX7_operand_8 : decode cX7_operand 8 = .ok (.sipush 10000, 3) := by decide +kernel
theorem dX7_operand_11 : decode cX7_operand 11 = .ok (.isub, 1) := by decide +kernel
theorem dX7_operand_12 : decode cX7_operand 12 = .ok (.istore 5, 2) := by decide +kernel
theorem dX7_operand_14 : decode cX7_operand 14 = .ok (.iload 5, 2) := by decide +kernel
theorem dX7_operand_16 : decode cX7_operand 16 = .ok (.aload_n 0, 1) := by decide +kernel
theorem dX7_operand_17 : decode cX7_operand 17 = .ok (.getfield 9, 3) := by decide +kernel
theorem dX7_operand_20 : decode cX7_operand 20 = .ok (.if_icmp .ge 17, 3) := by decide +kernel
theorem dX7_operand_23 : decode cX7_operand 23 = .ok (.iload 5, 2) := by decide +kernel
theorem dX7_operand_25 : decode cX7_operand 25 = .ok (.aload_n 3, 1) := by decide +kernel
theorem dX7_operand_26 : decode cX7_operand 26 = .ok (.arraylength, 1) := by decide +kernel
theorem dX7_operand_27 : decode cX7_operand 27 = .ok (.if_icmp .ge 10, 3) := by decide +kernel
theorem dX7_operand_30 : decode cX7_operand 30 = .ok (.aload_n 3, 1) := by decide +kernel
theorem dX7_operand_31 : decode cX7_operand 31 = .ok (.iload 5, 2) := by decide +kernel
theorem dX7_operand_33 : decode cX7_operand 33 = .ok (.iaload, 1) := by decide +kernel
theorem dX7_operand_34 : decode cX7_operand 34 = .ok (.goto 4, 3) := by decide +kernel
theorem dX7_operand_37 : decode cX7_operand 37 = .ok (.iconst 0, 1) := by decide +kernel
theorem dX7_operand_38 : decode cX7_operand 38 = .ok (.ireturn, 1) := by decide +kernel
theorem dX7_operand_39 : decode cX7_operand 39 = .ok (.iload_n 1, 1) := by decide +kernel
theorem dX7_operand_40 : decode cX7_operand 40 = .ok (.sipush 20002, 3) := by decide +kernel
theorem dX7_operand_43 : decode cX7_operand 43 = .ok (.if_icmp .ne 10, 3) := by decide +kernel
theorem dX7_operand_46 : decode cX7_operand 46 = .ok (.aload_n 0, 1) := by decide +kernel
theorem dX7_operand_47 : decode cX7_operand 47 = .ok (.getfield 15, 3) := by decide +kernel
theorem dX7_operand_50 : decode cX7_operand 50 = .ok (.goto 27, 3) := by decide +kernel
theorem dX7_operand_53 : decode cX7_operand 53 = .ok (.iload_n 1, 1) := by decide +kernel
theorem dX7_operand_54 : decode cX7_operand 54 = .ok (.sipush 20000, 3) := by decide +kernel
theorem dX7_operand_57 : decode cX7_operand 57 = .ok (.if_icmp .ne 13, 3) := by decide +kernel
theorem dX7_operand_60 : decode cX7_operand 60 = .ok (.aload 4, 2) := by decide +kernel
theorem dX7_operand_62 : decode cX7_operand 62 = .ok (.getfield 96, 3) := by decide +kernel
theorem dX7_operand_65 : decode cX7_operand 65 = .ok (.iload_n 2, 1) := by decide +kernel
theorem dX7_operand_66 : decode cX7_operand 66 = .ok (.iaload, 1) := by decide +kernel
theorem dX7_operand_67 : decode cX7_operand 67 = .ok (.goto 10, 3) := by decide +kernel
theorem dX7_operand_70 : decode cX7_operand 70 = .ok (.aload 4, 2) := by decide +kernel
theorem dX7_operand_72 : decode cX7_operand 72 = .ok (.getfield 99, 3) := by decide +kernel
theorem dX7_operand_75 : decode cX7_operand 75 = .ok (.iload_n 2, 1) := by decide +kernel
theorem dX7_operand_76 : decode cX7_operand 76 = .ok (.iaload, 1) := by decide +kernel
theorem dX7_operand_77 : decode cX7_operand 77 = .ok (.ireturn, 1) := by decide +kernel
set_option maxHeartbeats 4000000 in
set_option maxRecDepth 100000 in
theorem c_X7_operand (b q l : Nat) (c h H : Nat) {n : Nat} {kd : mK} {I : mI} {J : mJ} {P : mP} (hS : kS kd P b) (hL : kL kd P l) (hq : kd q = some (1, 8)) (hh : h < 8) (hc : 10000 ≤ c) (hc2 : c < 20003) (hH : I b 0 = nI H) (hH8 : H ≤ 8) : Ct yX7_operand cX7_operand 6 (some .int) 1 0 0 [.ref b, .int (nI c), .int (nI h), .ref q, .ref l] n kd I J P (am_is (some (.int (if c < 20000 then (if c - 10000 < H then I q (c - 10000) else nI 0) else if c = 20002 then I b 1 else if c = 20000 then I (l + 1) h else I (l + 2) h))) n kd I J P) := by
  obtain ⟨s0, s1, s2, s3, s4, s5, s6, s7, s8, s9, p4, p5, p7, p8, p9, p11, p12, p13, p14⟩ := hS
  obtain ⟨l0, l1, l2, l3, l4, l5, q0, q1, q3, q5, q6⟩ := hL
  refine ct_of 1 (by decide +kernel) (Nat.le_of_ble_eq_true rfl) rfl ?_
  refine r_iload_n dX7_operand_0 rfl ?_
  refine r_sipush (v := nI 20000) dX7_operand_1 (by decide) ?_
  refine r_icmp_ge (tgt := 39) dX7_operand_4 (by decide) (fun h4 => ?_) (fun h4 => ?_)
  · skip
    refine r_iload_n dX7_operand_39 rfl ?_
    refine r_sipush (v := nI 20002) dX7_operand_40 (by decide) ?_
    refine r_icmp_ne (tgt := 53) dX7_operand_43 (by decide) (fun h43 => ?_) (fun h43 => ?_)
    · skip
      refine r_iload_n dX7_operand_53 rfl ?_
      refine r_sipush (v := nI 20000) dX7_operand_54 (by decide) ?_
      refine r_icmp_ne (tgt := 70) dX7_operand_57 (by decide) (fun h57 => ?_) (fun h57 => ?_)
      · skip
        refine r_aload dX7_operand_70 rfl ?_
        refine r_getR dX7_operand_72 fl_X7_99 rfl (by assumption) (by assumption) ?_
        refine r_iload_n dX7_operand_75 rfl ?_
        refine r_iald dX7_operand_76 l2 (nI_in8 8 hh (by decide)) (nI_clamp (by omega)) ?_
        refine r_iret rfl dX7_operand_77 ?_
        refine ⟨?_, rfl, rfl, rfl, rfl, rfl⟩
        try rw [hH] at h20
        try simp (disch := omega) only [nI_leI, nI_eq] at *
        congr 3
        (repeat' split) <;> first | rfl | omega
      · skip
        refine r_aload dX7_operand_60 rfl ?_
        refine r_getR dX7_operand_62 fl_X7_96 rfl (by assumption) (by assumption) ?_
        refine r_iload_n dX7_operand_65 rfl ?_
        refine r_iald dX7_operand_66 l1 (nI_in8 8 hh (by decide)) (nI_clamp (by omega)) ?_
        refine r_goto (tgt := 77) dX7_operand_67 (by decide) ?_
        refine r_iret rfl dX7_operand_77 ?_
        refine ⟨?_, rfl, rfl, rfl, rfl, rfl⟩
        try rw [hH] at h20
        try simp (disch := omega) only [nI_leI, nI_eq] at *
        congr 3
        (repeat' split) <;> first | rfl | omega
    · skip
      refine r_aload_n dX7_operand_46 rfl ?_
      refine r_getI dX7_operand_47 fl_X7_15 rfl (by assumption) ?_
      refine r_goto (tgt := 77) dX7_operand_50 (by decide) ?_
      refine r_iret rfl dX7_operand_77 ?_
      refine ⟨?_, rfl, rfl, rfl, rfl, rfl⟩
      try rw [hH] at h20
      try simp (disch := omega) only [nI_leI, nI_eq] at *
      congr 3
      (repeat' split) <;> first | rfl | omega
  · skip
    refine r_iload_n dX7_operand_7 rfl ?_
    refine r_sipush (v := nI 10000) dX7_operand_8 (by decide) ?_
    refine r_isub dX7_operand_11 ?_
    rw [pk_sub hc]
    refine r_istore dX7_operand_12 (by decide) ?_
    refine r_iload dX7_operand_14 rfl ?_
    refine r_aload_n dX7_operand_16 rfl ?_
    refine r_getI dX7_operand_17 fl_X7_9 rfl (by assumption) ?_
    refine r_icmp_ge (tgt := 37) dX7_operand_20 (by decide) (fun h20 => ?_) (fun h20 => ?_)
    · skip
      refine r_iconst (v := nI 0) dX7_operand_37 (by decide) ?_
      refine r_iret rfl dX7_operand_38 ?_
      refine ⟨?_, rfl, rfl, rfl, rfl, rfl⟩
      try rw [hH] at h20
      try simp (disch := omega) only [nI_leI, nI_eq] at *
      congr 3
      (repeat' split) <;> first | rfl | omega
    · skip
      refine r_iload dX7_operand_23 rfl ?_
      refine r_aload_n dX7_operand_25 rfl ?_
      refine r_alen dX7_operand_26 (by assumption) (by decide) ?_
      refine r_icmp_ge (tgt := 37) dX7_operand_27 (by decide) (fun h27 => ?_) (fun h27 => ?_)
      · skip
        refine r_iconst (v := nI 0) dX7_operand_37 (by decide) ?_
        refine r_iret rfl dX7_operand_38 ?_
        refine ⟨?_, rfl, rfl, rfl, rfl, rfl⟩
        try rw [hH] at h20
        try simp (disch := omega) only [nI_leI, nI_eq] at *
        congr 3
        (repeat' split) <;> first | rfl | omega
      · skip
        refine r_aload_n dX7_operand_30 rfl ?_
        refine r_iload dX7_operand_31 rfl ?_
        rw [hH] at h20; simp (disch := omega) only [nI_leI] at h4 h20 h27
        refine r_iald dX7_operand_33 hq (nI_in8 8 (by omega) (by decide)) (nI_clamp (by omega)) ?_
        refine r_goto (tgt := 38) dX7_operand_34 (by decide) ?_
        refine r_iret rfl dX7_operand_38 ?_
        refine ⟨?_, rfl, rfl, rfl, rfl, rfl⟩
        try rw [hH] at h20
        try simp (disch := omega) only [nI_leI, nI_eq] at *
        congr 3
        (repeat' split) <;> first | rfl | omega

