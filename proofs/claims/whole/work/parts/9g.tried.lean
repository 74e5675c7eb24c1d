/-! LAWS TRIED: the class -/
def lwS (law H M : Nat) (un : Bool) (k : Nat) : Int32 := lawB law H M un (sdCs M (nI k))
def brN (law H M : Nat) (un : Bool) : Nat → Nat
  | 0 => 0
  | k + 1 => if lwS law H M un k = nI 1 then brN law H M un k + 1 else brN law H M un k
def spN (law H M : Nat) (un : Bool) : Nat → Nat
  | 0 => 0
  | k + 1 => if lwS law H M un k = -2 then spN law H M un k + 1 else spN law H M un k
def leN (law H M : Nat) (un : Bool) : Nat → Int32
  | 0 => -1
  | k + 1 => if lwS law H M un k = nI 1 then (if leN law H M un k = -1 then nI k else leN law H M un k) else leN law H M un k
def trV (law H M : Nat) (un : Bool) (S wh : Nat) : Int32 := if wh = 0 then nI (brN law H M un S) else if wh = 1 then leN law H M un S else nI (spN law H M un S)
theorem lawB_rng (law H M : Nat) (un : Bool) (cs : Nat → List Nat) : lawB law H M un cs = -2 ∨ lawB law H M un cs = nI 1 ∨ lawB law H M un cs = nI 0 := by
  unfold lawB
  repeat' split
  all_goals first | exact Or.inl rfl | exact Or.inr (Or.inl rfl) | exact Or.inr (Or.inr rfl)
section Rules
variable {K : (Nat → ClassId) → Prop} {own : String} {cc : ByteArray} {nL : Nat} {ret : Option FieldType} {nm : String} {d kc ks pc : Nat} {post : am_Post} {ls : List (Option Value)} {st : List Value} {n : Nat} {kd : mK} {I : mI} {J : mJ} {P : mP}
theorem r_virtO {y : MethodName} {cc2 : ByteArray} {nL2 : Nat} {ret2 : Option FieldType} {d2 mc ms kc2 ks2 idx ci np b : Nat} {As stk : List Value} {E : String} (hC : Ct y cc2 nL2 ret2 d2 mc ms (.ref b :: As) n kd I J P (am_ot true E none n kd I J P)) (hL : Lv own idx y ci np) (hM : Mc y cc2 nL2 ret2) (hd : decode cc pc = .ok (.invokevirtual idx, 3)) (hk : kd b = some (0, ci)) (hdd : d2 < d) (hAs : As.length = np) (hst : stk = As.reverse ++ .ref b :: st) (hw : (st.map fun v => v.category).sum ≤ 8) (hkc : mc + kc2 ≤ kc) (hks : ms + ks2 ≤ ks) (k : RuZ (K, []) own cc nL ret nm d post kc2 ks2 (pc + 3) ls st n kd I J P) : RuZ (K, []) own cc nL ret nm d post kc ks pc ls stk n kd I J P :=
  r_virt hC hL hM hd hk hdd hAs hst hw hkc hks (fun E' n' kd' I' J' P' h => by cases h.1) (fun w n' kd' I' J' P' h => by obtain ⟨h0, rfl, rfl, rfl, rfl, rfl⟩ := h; cases h0; exact k)
end Rules
/-- what tries of laws leave as it was -/
def trF (n o s l : Nat) (kd kd' : mK) (I I' : mI) (J J' : mJ) (P P' : mP) : Prop := (∀ a, a < n → kd' a = kd a) ∧ (∀ a, a < n → a ≠ o → (a < o + 48 ∨ o + 57 < a) → (a < o + 61 ∨ o + 68 < a) → (a < s ∨ s + 8 < a) → (a < l ∨ l + 2 < a) → P (o + 56) 3 ≠ some a → I' a = I a) ∧ (∀ j, j ≠ 18 → I' o j = I o j) ∧ (∀ a, a < n → (a < o + 48 ∨ o + 57 < a) → J' a = J a) ∧ (∀ a, a < n → a ≠ o + 48 → a ≠ o + 56 → a ≠ o + 61 → P' a = P a) ∧ (P' (o + 56) 3 = P (o + 56) 3 ∨ ∃ z, n ≤ z ∧ P' (o + 56) 3 = some z)
theorem trF.rf {n o s l : Nat} {kd : mK} {I : mI} {J : mJ} {P : mP} : trF n o s l kd kd I I J J P P := ⟨fun _ _ => rfl, fun _ _ _ _ _ _ _ _ => rfl, fun _ _ => rfl, fun _ _ _ => rfl, fun _ _ _ _ _ => rfl, Or.inl rfl⟩
def trI (n1 : Nat) (kd : mK) (I : mI) (J : mJ) (P : mP) (o b s f l M : Nat) (u : Int32) (n0 : Nat) (kd0 : mK) (I0 : mI) (J0 : mJ) (P0 : mP) : Prop := kX kd P o b s f l ∧ I b 1 = nI M ∧ I b 2 = u ∧ scr kd P o n1 ∧ trF n0 o s l kd0 kd I0 I J0 J P0 P
theorem dX9_tried_0 : decode cX9_tried 0 = .ok (.aload_n 0, 1) := by decide +kernel
theorem dX9_tried_1 : decode cX9_tried 1 = .ok (.iload_n 1, 1) := by decide +kernel
theorem dX9_tried_2 : decode cX9_tried 2 = .ok (.iconst 3, 1) := by decide +kernel
theorem dX9_tried_3 : decode cX9_tried 3 = .ok (.invokevirtual 162, 3) := by decide +kernel
theorem dX9_tried_6 : decode cX9_tried 6 = .ok (.aload_n 0, 1) := by decide +kernel
theorem dX9_tried_7 : decode cX9_tried 7 = .ok (.iload 4, 2) := by decide +kernel
theorem dX9_tried_9 : decode cX9_tried 9 = .ok (.iconst 3, 1) := by decide +kernel
theorem dX9_tried_10 : decode cX9_tried 10 = .ok (.invokevirtual 162, 3) := by decide +kernel
theorem dX9_tried_13 : decode cX9_tried 13 = .ok (.iload_n 2, 1) := by decide +kernel
theorem dX9_tried_14 : decode cX9_tried 14 = .ok (.ifCond .lt 20, 3) := by decide +kernel
theorem dX9_tried_17 : decode cX9_tried 17 = .ok (.iload_n 2, 1) := by decide +kernel
theorem dX9_tried_18 : decode cX9_tried 18 = .ok (.bipush 40, 2) := by decide +kernel
theorem dX9_tried_20 : decode cX9_tried 20 = .ok (.if_icmp .gt 14, 3) := by decide +kernel
theorem dX9_tried_23 : decode cX9_tried 23 = .ok (.iload_n 3, 1) := by decide +kernel
theorem dX9_tried_24 : decode cX9_tried 24 = .ok (.iconst 1, 1) := by decide +kernel
theorem dX9_tried_25 : decode cX9_tried 25 = .ok (.if_icmp .lt 9, 3) := by decide +kernel
theorem dX9_tried_28 : decode cX9_tried 28 = .ok (.iload_n 3, 1) := by decide +kernel
theorem dX9_tried_29 : decode cX9_tried 29 = .ok (.bipush 8, 2) := by decide +kernel
theorem dX9_tried_31 : decode cX9_tried 31 = .ok (.if_icmp .le 11, 3) := by decide +kernel
theorem dX9_tried_34 : decode cX9_tried 34 = .ok (.new 110, 3) := by decide +kernel
theorem dX9_tried_37 : decode cX9_tried 37 = .ok (.dup, 1) := by decide +kernel
theorem dX9_tried_38 : decode cX9_tried 38 = .ok (.invokespecial 112, 3) := by decide +kernel
theorem dX9_tried_41 : decode cX9_tried 41 = .ok (.athrow, 1) := by decide +kernel
theorem dX9_tried_42 : decode cX9_tried 42 = .ok (.iconst 0, 1) := by decide +kernel
theorem dX9_tried_43 : decode cX9_tried 43 = .ok (.istore 5, 2) := by decide +kernel
theorem dX9_tried_45 : decode cX9_tried 45 = .ok (.iconst (-1), 1) := by decide +kernel
theorem dX9_tried_46 : decode cX9_tried 46 = .ok (.istore 6, 2) := by decide +kernel
theorem dX9_tried_48 : decode cX9_tried 48 = .ok (.iconst 0, 1) := by decide +kernel
theorem dX9_tried_49 : decode cX9_tried 49 = .ok (.istore 7, 2) := by decide +kernel
theorem dX9_tried_51 : decode cX9_tried 51 = .ok (.iconst 0, 1) := by decide +kernel
theorem dX9_tried_52 : decode cX9_tried 52 = .ok (.istore 8, 2) := by decide +kernel
theorem dX9_tried_54 : decode cX9_tried 54 = .ok (.iload 8, 2) := by decide +kernel
theorem dX9_tried_56 : decode cX9_tried 56 = .ok (.iload_n 2, 1) := by decide +kernel
theorem dX9_tried_57 : decode cX9_tried 57 = .ok (.if_icmp .ge 60, 3) := by decide +kernel
theorem dX9_tried_60 : decode cX9_tried 60 = .ok (.aload_n 0, 1) := by decide +kernel
theorem dX9_tried_61 : decode cX9_tried 61 = .ok (.iload 8, 2) := by decide +kernel
theorem dX9_tried_63 : decode cX9_tried 63 = .ok (.iload_n 3, 1) := by decide +kernel
theorem dX9_tried_64 : decode cX9_tried 64 = .ok (.invokevirtual 360, 3) := by decide +kernel
theorem dX9_tried_67 : decode cX9_tried 67 = .ok (.aload_n 0, 1) := by decide +kernel
theorem dX9_tried_68 : decode cX9_tried 68 = .ok (.iload_n 1, 1) := by decide +kernel
theorem dX9_tried_69 : decode cX9_tried 69 = .ok (.invokevirtual 369, 3) := by decide +kernel
theorem dX9_tried_72 : decode cX9_tried 72 = .ok (.istore 9, 2) := by decide +kernel
theorem dX9_tried_74 : decode cX9_tried 74 = .ok (.iload 9, 2) := by decide +kernel
theorem dX9_tried_76 : decode cX9_tried 76 = .ok (.bipush (-2), 2) := by decide +kernel
theorem dX9_tried_78 : decode cX9_tried 78 = .ok (.if_icmp .ne 9, 3) := by decide +kernel
theorem dX9_tried_81 : decode cX9_tried 81 = .ok (.iinc 7 1, 3) := by decide +kernel
theorem dX9_tried_84 : decode cX9_tried 84 = .ok (.goto 27, 3) := by decide +kernel
theorem dX9_tried_87 : decode cX9_tried 87 = .ok (.iload 9, 2) := by decide +kernel
theorem dX9_tried_89 : decode cX9_tried 89 = .ok (.iconst 1, 1) := by decide +kernel
theorem dX9_tried_90 : decode cX9_tried 90 = .ok (.if_icmp .ne 21, 3) := by decide +kernel
theorem dX9_tried_93 : decode cX9_tried 93 = .ok (.iinc 5 1, 3) := by decide +kernel
theorem dX9_tried_96 : decode cX9_tried 96 = .ok (.iload 6, 2) := by decide +kernel
theorem dX9_tried_98 : decode cX9_tried 98 = .ok (.iconst (-1), 1) := by decide +kernel
theorem dX9_tried_99 : decode cX9_tried 99 = .ok (.if_icmp .ne 8, 3) := by decide +kernel
theorem dX9_tried_102 : decode cX9_tried 102 = .ok (.iload 8, 2) := by decide +kernel
theorem dX9_tried_104 : decode cX9_tried 104 = .ok (.goto 5, 3) := by decide +kernel
theorem dX9_tried_107 : decode cX9_tried 107 = .ok (.iload 6, 2) := by decide +kernel
theorem dX9_tried_109 : decode cX9_tried 109 = .ok (.istore 6, 2) := by decide +kernel
theorem dX9_tried_111 : decode cX9_tried 111 = .ok (.iinc 8 1, 3) := by decide +kernel
theorem dX9_tried_114 : decode cX9_tried 114 = .ok (.goto (-60), 3) := by decide +kernel
theorem dX9_tried_117 : decode cX9_tried 117 = .ok (.iload 4, 2) := by decide +kernel
theorem dX9_tried_119 : decode cX9_tried 119 = .ok (.ifCond .ne 8, 3) := by decide +kernel
theorem dX9_tried_122 : decode cX9_tried 122 = .ok (.iload 5, 2) := by decide +kernel
theorem dX9_tried_124 : decode cX9_tried 124 = .ok (.goto 16, 3) := by decide +kernel
theorem dX9_tried_127 : decode cX9_tried 127 = .ok (.iload 4, 2) := by decide +kernel
theorem dX9_tried_129 : decode cX9_tried 129 = .ok (.iconst 1, 1) := by decide +kernel
theorem dX9_tried_130 : decode cX9_tried 130 = .ok (.if_icmp .ne 8, 3) := by decide +kernel
theorem dX9_tried_133 : decode cX9_tried 133 = .ok (.iload 6, 2) := by decide +kernel
theorem dX9_tried_135 : decode cX9_tried 135 = .ok (.goto 5, 3) := by decide +kernel
theorem dX9_tried_138 : decode cX9_tried 138 = .ok (.iload 7, 2) := by decide +kernel
theorem dX9_tried_140 : decode cX9_tried 140 = .ok (.ireturn, 1) := by decide +kernel

set_option maxHeartbeats 4000000 in
set_option maxRecDepth 100000 in
theorem tr_loop (o b s f l M H law S wh : Nat) (u : Int32) {n0 : Nat} {kd0 : mK} {I0 : mI} {J0 : mJ} {P0 : mP} (hM2 : 2 ≤ M) (hM20 : M ≤ 20) (hH1 : 1 ≤ H) (hH8 : H ≤ 8) (hlaw : law ≤ 2) (hwh : wh ≤ 2) (hS : S ≤ 40) (ho : o + 69 ≤ n0) (hn0 : n0 < 900000) : ∀ (cnt i : Nat) (z9 : Option Value) (kc ks n : Nat) (kd : mK) (I : mI) (J : mJ) (P : mP), i + cnt = S → cnt ≤ kc → 10240 * cnt ≤ ks → n0 ≤ n → n ≤ n0 + i → trI n kd I J P o b s f l M u n0 kd0 I0 J0 P0 → Ru yX9_tried.cls cX9_tried 10 (some .int) yX9_tried.name 63 (fun y n' kd' I' J' P' => y = .inl (some (.int (trV law H M (!decide (u = 0)) S wh))) ∧ (n0 ≤ n' ∧ n' ≤ n0 + 40) ∧ trI n' kd' I' J' P' o b s f l M u n0 kd0 I0 J0 P0) kc ks 54 [some (.ref o), some (.int (nI law)), some (.int (nI S)), some (.int (nI H)), some (.int (nI wh)), some (.int (nI (brN law H M (!decide (u = 0)) i))), some (.int (leN law H M (!decide (u = 0)) i)), some (.int (nI (spN law H M (!decide (u = 0)) i))), some (.int (nI i)), z9] [] n kd I J P := by
  intro cnt
  induction cnt with
  | zero =>
    intro i z9 kc ks n kd I J P hi hkc hks hn1 hn2 hT
    have ei : i = S := by omega
    subst ei
    refine r_iload dX9_tried_54 rfl ?_
    refine r_iload_n dX9_tried_56 rfl ?_
    refine r_icmp_ge (tgt := 117) dX9_tried_57 (by decide) (fun _ => ?_) (fun hz => absurd (show _ from (by rw [nI_leI (by omega) (by omega)]; omega)) hz)
    rcases (by omega : wh = 0 ∨ wh = 1 ∨ wh = 2) with e | e | e
    · rw [e]
      rw [show trV law H M (!decide (u = 0)) i 0 = nI (brN law H M (!decide (u = 0)) i) from rfl]
      refine r_iload dX9_tried_117 rfl ?_
      refine r_if_ne (tgt := 127) dX9_tried_119 (by decide) (fun hz => absurd (show _ from rfl) hz) (fun _ => ?_)
      refine r_iload dX9_tried_122 rfl ?_
      refine r_goto (tgt := 140) dX9_tried_124 (by decide) ?_
      refine r_iret rfl dX9_tried_140 ?_
      exact ⟨rfl, ⟨hn1, by omega⟩, hT⟩
    · rw [e]
      rw [show trV law H M (!decide (u = 0)) i 1 = leN law H M (!decide (u = 0)) i from rfl]
      refine r_iload dX9_tried_117 rfl ?_
      refine r_if_ne (tgt := 127) dX9_tried_119 (by decide) (fun _ => ?_) (fun hz => absurd hz (show ¬ _ from (by decide)))
      refine r_iload dX9_tried_127 rfl ?_
      refine r_iconst (v := nI 1) dX9_tried_129 (by decide) ?_
      refine r_icmp_ne (tgt := 138) dX9_tried_130 (by decide) (fun hz => absurd (show _ from rfl) hz) (fun _ => ?_)
      refine r_iload dX9_tried_133 rfl ?_
      refine r_goto (tgt := 140) dX9_tried_135 (by decide) ?_
      refine r_iret rfl dX9_tried_140 ?_
      exact ⟨rfl, ⟨hn1, by omega⟩, hT⟩
    · rw [e]
      rw [show trV law H M (!decide (u = 0)) i 2 = nI (spN law H M (!decide (u = 0)) i) from rfl]
      refine r_iload dX9_tried_117 rfl ?_
      refine r_if_ne (tgt := 127) dX9_tried_119 (by decide) (fun _ => ?_) (fun hz => absurd hz (show ¬ _ from (by decide)))
      refine r_iload dX9_tried_127 rfl ?_
      refine r_iconst (v := nI 1) dX9_tried_129 (by decide) ?_
      refine r_icmp_ne (tgt := 138) dX9_tried_130 (by decide) (fun _ => ?_) (fun hz => absurd hz (show ¬ _ from (by decide)))
      refine r_iload dX9_tried_138 rfl ?_
      refine r_iret rfl dX9_tried_140 ?_
      exact ⟨rfl, ⟨hn1, by omega⟩, hT⟩
  | succ cnt ih =>
    intro i z9 kc ks n kd I J P hi hkc hks hn1 hn2 hT
    have hX := hT.1
    have hX' := hX
    obtain ⟨⟨c0, -, -⟩, -, -, -, -, -, hbs, hfl, -⟩ := hX'
    refine r_iload dX9_tried_54 rfl ?_
    refine r_iload_n dX9_tried_56 rfl ?_
    refine r_icmp_ge (tgt := 117) dX9_tried_57 (by decide) (fun hz => absurd hz (show ¬ _ from (by rw [nI_leI (by omega) (by omega)]; omega))) (fun _ => ?_)
    refine r_aload_n dX9_tried_60 rfl ?_
    refine r_iload dX9_tried_61 rfl ?_
    refine r_iload_n dX9_tried_63 rfl ?_
    refine r_virt (kc2 := kc) (ks2 := ks) (c_sow o b s f l M H (nI i) u hX hT.2.1 hM2 hM20 hH8 hT.2.2.1) lk_X9_360 mc_X9_sow dX9_tried_64 c0 (by decide) rfl rfl (Nat.le_of_ble_eq_true rfl) (Nat.le_of_eq (Nat.zero_add _)) (Nat.le_of_eq (Nat.zero_add _)) (fun _ _ _ _ _ _ h => nomatch h.1) ?_
    rintro v n1 kd1 I1 J1 P1 ⟨h0, rfl, rfl, rfl, rfl, hst, hmo, hun, ⟨l2, l4, l7, l12⟩, hsf, hso⟩
    cases h0
    simp only [Option.toList, List.nil_append]
    have hP56 : rdQ P (o + 61) (o + 68) s l (o + 56) = P (o + 56) := rdQ_ne (by omega)
    have hsc1 : scr kd1 (rdQ P (o + 61) (o + 68) s l) o n1 := by unfold scr; rw [hP56]; exact hT.2.2.2.1
    have hcb := c_X9_breaksLaw (n := n1) (J := J1) o b s f l M H (!decide (u = 0)) (sdCs M (nI i)) law (kX_rdQ hX) (cs_seed (by omega) hM20 hH8) hH8 hM20 hst hmo (by
      rw [hun]
      by_cases e : u = 0
      · rw [if_pos e, decide_eq_true e]; decide
      · rw [if_neg e, decide_eq_false e]; decide) ⟨l2, l7, l12⟩ (by omega) (by omega) hsc1 hlaw
    rw [show lawB law H M (!decide (u = 0)) (sdCs M (nI i)) = lwS law H M (!decide (u = 0)) i from rfl] at hcb
    refine r_aload_n dX9_tried_67 rfl ?_
    refine r_iload_n dX9_tried_68 rfl ?_
    refine r_virt (kc2 := kc - 1) (ks2 := ks - 10240) hcb lk_X9_369 mc_X9_breaksLaw dX9_tried_69 c0 (by decide) rfl rfl (Nat.le_of_ble_eq_true rfl) (by omega) (by omega) (fun _ _ _ _ _ _ h => nomatch h.1) ?_
    rintro v n2 kd2 I2 J2 P2 ⟨h0, ⟨hg1, hg2⟩, hbk, hsc2, hz2⟩
    cases h0
    simp only [Option.toList, List.cons_append, List.nil_append]
    have hfr : ∀ a, a < n1 → (a < o + 48 ∨ o + 57 < a) → a ≠ s + 8 → P (o + 56) 3 ≠ some a → I2 a = I1 a := fun a a1 a2 a3 a4 => hbk.2.1 a a1 a2 a3 (by rw [hP56]; exact a4)
    have hX2 : kX kd2 P2 o b s f l := kX.bk (by omega) hbk.1 hbk.2.2.2.1 hbk.2.2.2.2.1 hbk.2.2.2.2.2 (kX_rdQ hT.1)
    have hsz : P (o + 56) 3 = none ∨ ∃ z, P (o + 56) 3 = some z ∧ (z < o ∨ o + 68 < z) := by
      rcases hT.2.2.2.1 with h | ⟨z, h1, h2, h3, h4⟩
      · exact Or.inl h
      · exact Or.inr ⟨z, h1, h3⟩
    have hin : ∀ a, o ≤ a → a ≤ o + 68 → P (o + 56) 3 ≠ some a := fun a a1 a2 q => by
      rcases hsz with h | ⟨z, h1, h2⟩
      · rw [h] at q; exact nomatch q
      · rw [h1] at q; have := Option.some.inj q; omega
    have hB1 : I2 b 1 = nI M ∧ I2 b 2 = u := by
      have e : I2 b = I b := by
        rw [hfr b (by omega) (by omega) (by omega) (hin b (by omega) (by omega))]
        exact hsf b (by omega) (by omega) (by omega) (by omega)
      rw [e]
      exact ⟨hT.2.1, hT.2.2.1⟩
    have hT2 : trI n2 kd2 I2 J2 P2 o b s f l M u n0 kd0 I0 J0 P0 := by
      obtain ⟨-, -, -, -, t1, t2, t3, t4, t5, t6⟩ := hT
      refine ⟨hX2, hB1.1, hB1.2, hsc2, fun a a1 => (hbk.1 a (by omega)).trans (t1 a a1), fun a a1 a2 a3 a4 a5 a6 a7 => ?_, fun j hj => ?_, fun a a1 a2 => ?_, fun a a1 a2 a3 a4 => ?_, ?_⟩
      · have hne : P (o + 56) 3 ≠ some a := by
          rcases t6 with q | ⟨z, q1, q2⟩
          · rw [q]; exact a7
          · rw [q2]; intro q; have := Option.some.inj q; omega
        rw [hfr a (by omega) a3 (by omega) hne, hsf a a2 a4 (by omega) a6]
        exact t2 a a1 a2 a3 a4 a5 a6 a7
      · rw [hfr o (by omega) (by omega) (by omega) (hin o (by omega) (by omega)), hso, am_up_n _ _ hj]
        exact t3 j hj
      · rw [hbk.2.2.1 a (by omega) a2]
        exact t4 a a1 a2
      · rw [hbk.2.2.2.1 a (by omega) a2 a3, rdQ_ne a4]
        exact t5 a a1 a2 a3 a4
      · rcases hz2 with q | ⟨z, q1, q2⟩
        · rw [q, hP56]; exact t6
        · exact Or.inr ⟨z, by omega, q2⟩
    have ihn := fun z9 => ih (i + 1) z9 (kc - 1) (ks - 10240) n2 kd2 I2 J2 P2 (by omega) (by omega) (by omega) (by omega) (by omega) hT2
    unfold brN leN spN at ihn
    rcases lawB_rng law H M (!decide (u = 0)) (sdCs M (nI i)) with e | e | e
    · rw [show lwS law H M (!decide (u = 0)) i = -2 from e] at ihn ⊢
      rw [if_neg (by decide), if_neg (by decide), if_pos rfl] at ihn
      refine r_istore dX9_tried_72 (by decide) ?_
      refine r_iload dX9_tried_74 rfl ?_
      refine r_bipush (v := -2) dX9_tried_76 (by decide) ?_
      refine r_icmp_ne (tgt := 87) dX9_tried_78 (by decide) (fun hz => absurd (show _ from rfl) hz) (fun _ => ?_)
      refine r_iinc (v := nI (spN law H M (!decide (u = 0)) i + 1)) dX9_tried_81 rfl (nI_inc _) ?_
      refine r_goto (tgt := 111) dX9_tried_84 (by decide) ?_
      refine r_iinc (v := nI (i + 1)) dX9_tried_111 rfl (nI_inc i) ?_
      refine r_goto (tgt := 54) dX9_tried_114 (by decide) ?_
      exact ihn _
    · rw [show lwS law H M (!decide (u = 0)) i = nI 1 from e] at ihn ⊢
      rw [if_pos rfl, if_pos rfl, if_neg (show ¬ nI 1 = (-2 : Int32) from by decide)] at ihn
      by_cases hle : leN law H M (!decide (u = 0)) i = -1
      · rw [if_pos hle] at ihn
        rw [hle]
        refine r_istore dX9_tried_72 (by decide) ?_
        refine r_iload dX9_tried_74 rfl ?_
        refine r_bipush (v := -2) dX9_tried_76 (by decide) ?_
        refine r_icmp_ne (tgt := 87) dX9_tried_78 (by decide) (fun _ => ?_) (fun hz => absurd hz (show ¬ _ from (by decide)))
        refine r_iload dX9_tried_87 rfl ?_
        refine r_iconst (v := nI 1) dX9_tried_89 (by decide) ?_
        refine r_icmp_ne (tgt := 111) dX9_tried_90 (by decide) (fun hz => absurd (show _ from rfl) hz) (fun _ => ?_)
        refine r_iinc (v := nI (brN law H M (!decide (u = 0)) i + 1)) dX9_tried_93 rfl (nI_inc _) ?_
        refine r_iload dX9_tried_96 rfl ?_
        refine r_iconst (v := (-1)) dX9_tried_98 (by decide) ?_
        refine r_icmp_ne (tgt := 107) dX9_tried_99 (by decide) (fun hz => absurd (show _ from rfl) hz) (fun _ => ?_)
        refine r_iload dX9_tried_102 rfl ?_
        refine r_goto (tgt := 109) dX9_tried_104 (by decide) ?_
        refine r_istore dX9_tried_109 (by decide) ?_
        refine r_iinc (v := nI (i + 1)) dX9_tried_111 rfl (nI_inc i) ?_
        refine r_goto (tgt := 54) dX9_tried_114 (by decide) ?_
        exact ihn _
      · rw [if_neg hle] at ihn
        refine r_istore dX9_tried_72 (by decide) ?_
        refine r_iload dX9_tried_74 rfl ?_
        refine r_bipush (v := -2) dX9_tried_76 (by decide) ?_
        refine r_icmp_ne (tgt := 87) dX9_tried_78 (by decide) (fun _ => ?_) (fun hz => absurd hz (show ¬ _ from (by decide)))
        refine r_iload dX9_tried_87 rfl ?_
        refine r_iconst (v := nI 1) dX9_tried_89 (by decide) ?_
        refine r_icmp_ne (tgt := 111) dX9_tried_90 (by decide) (fun hz => absurd (show _ from rfl) hz) (fun _ => ?_)
        refine r_iinc (v := nI (brN law H M (!decide (u = 0)) i + 1)) dX9_tried_93 rfl (nI_inc _) ?_
        refine r_iload dX9_tried_96 rfl ?_
        refine r_iconst (v := (-1)) dX9_tried_98 (by decide) ?_
        refine r_icmp_ne (tgt := 107) dX9_tried_99 (by decide) (fun _ => ?_) (fun hz => absurd hz (show ¬ _ from hle))
        refine r_iload dX9_tried_107 rfl ?_
        refine r_istore dX9_tried_109 (by decide) ?_
        refine r_iinc (v := nI (i + 1)) dX9_tried_111 rfl (nI_inc i) ?_
        refine r_goto (tgt := 54) dX9_tried_114 (by decide) ?_
        exact ihn _
    · rw [show lwS law H M (!decide (u = 0)) i = nI 0 from e] at ihn ⊢
      rw [if_neg (by decide), if_neg (by decide), if_neg (by decide)] at ihn
      refine r_istore dX9_tried_72 (by decide) ?_
      refine r_iload dX9_tried_74 rfl ?_
      refine r_bipush (v := -2) dX9_tried_76 (by decide) ?_
      refine r_icmp_ne (tgt := 87) dX9_tried_78 (by decide) (fun _ => ?_) (fun hz => absurd hz (show ¬ _ from (by decide)))
      refine r_iload dX9_tried_87 rfl ?_
      refine r_iconst (v := nI 1) dX9_tried_89 (by decide) ?_
      refine r_icmp_ne (tgt := 111) dX9_tried_90 (by decide) (fun _ => ?_) (fun hz => absurd hz (show ¬ _ from (by decide)))
      refine r_iinc (v := nI (i + 1)) dX9_tried_111 rfl (nI_inc i) ?_
      refine r_goto (tgt := 54) dX9_tried_114 (by decide) ?_
      exact ihn _

set_option maxHeartbeats 4000000 in
set_option maxRecDepth 100000 in
theorem c_tried (o b s f l M H law S wh : Nat) (u : Int32) {n0 : Nat} {kd0 : mK} {I0 : mI} {J0 : mJ} {P0 : mP} (hM2 : 2 ≤ M) (hM20 : M ≤ 20) (hH1 : 1 ≤ H) (hH8 : H ≤ 8) (hlaw : law ≤ 2) (hwh : wh ≤ 2) (hS : S ≤ 40) (ho : o + 69 ≤ n0) (hn0 : n0 < 900000) (hX : kX kd0 P0 o b s f l) (hMo : I0 b 1 = nI M) (hu : I0 b 2 = u) (hsc : scr kd0 P0 o n0) : Ct yX9_tried cX9_tried 10 (some .int) 63 42 409612 [.ref o, .int (nI law), .int (nI S), .int (nI H), .int (nI wh)] n0 kd0 I0 J0 P0 (fun y n' kd' I' J' P' => y = .inl (some (.int (trV law H M (!decide (u = 0)) S wh))) ∧ (n0 ≤ n' ∧ n' ≤ n0 + 40) ∧ trI n' kd' I' J' P' o b s f l M u n0 kd0 I0 J0 P0) := by
  have c0 := hX.1.1
  refine ct_of 5 (by decide +kernel) (Nat.le_of_ble_eq_true rfl) rfl ?_
  refine r_aload_n dX9_tried_0 rfl ?_
  refine r_iload_n dX9_tried_1 rfl ?_
  refine r_iconst (v := nI 3) dX9_tried_2 (by decide) ?_
  refine r_virtO (kc2 := 41) (ks2 := 409606) ((by have h := c_X9_mustBeWhat (n := n0) (kd := kd0) (I := I0) (J := J0) (P := P0) o (nI law) (nI 3); rw [show (!decide (nI law < 0) && decide (nI law < nI 3)) = true from by rw [decide_eq_false (z_nlt (by omega)), decide_eq_true ((nI_ltI (by omega) (by omega)).mpr (by omega))]; rfl] at h; exact h)) lk_X9_162 mc_X9_mustBeWhat dX9_tried_3 c0 (by decide) rfl rfl (Nat.le_of_ble_eq_true rfl) (by decide) (by decide) ?_
  refine r_aload_n dX9_tried_6 rfl ?_
  refine r_iload dX9_tried_7 rfl ?_
  refine r_iconst (v := nI 3) dX9_tried_9 (by decide) ?_
  refine r_virtO (kc2 := 40) (ks2 := 409600) ((by have h := c_X9_mustBeWhat (n := n0) (kd := kd0) (I := I0) (J := J0) (P := P0) o (nI wh) (nI 3); rw [show (!decide (nI wh < 0) && decide (nI wh < nI 3)) = true from by rw [decide_eq_false (z_nlt (by omega)), decide_eq_true ((nI_ltI (by omega) (by omega)).mpr (by omega))]; rfl] at h; exact h)) lk_X9_162 mc_X9_mustBeWhat dX9_tried_10 c0 (by decide) rfl rfl (Nat.le_of_ble_eq_true rfl) (by decide) (by decide) ?_
  refine r_iload_n dX9_tried_13 rfl ?_
  refine r_if_lt (tgt := 34) dX9_tried_14 (by decide) (fun hz => absurd hz (show ¬ _ from (z_nlt (by omega)))) (fun _ => ?_)
  refine r_iload_n dX9_tried_17 rfl ?_
  refine r_bipush (v := nI 40) dX9_tried_18 (by decide) ?_
  refine r_icmp_gt (tgt := 34) dX9_tried_20 (by decide) (fun hz => absurd hz (show ¬ _ from (by rw [nI_ltI (by omega) (by omega)]; omega))) (fun _ => ?_)
  refine r_iload_n dX9_tried_23 rfl ?_
  refine r_iconst (v := nI 1) dX9_tried_24 (by decide) ?_
  refine r_icmp_lt (tgt := 34) dX9_tried_25 (by decide) (fun hz => absurd hz (show ¬ _ from (by rw [nI_ltI (by omega) (by omega)]; omega))) (fun _ => ?_)
  refine r_iload_n dX9_tried_28 rfl ?_
  refine r_bipush (v := nI 8) dX9_tried_29 (by decide) ?_
  refine r_icmp_le (tgt := 42) dX9_tried_31 (by decide) (fun _ => ?_) (fun hz => absurd (show _ from (by rw [nI_leI (by omega) (by omega)]; omega)) hz)
  refine r_iconst (v := nI 0) dX9_tried_42 (by decide) ?_
  refine r_istore dX9_tried_43 (by decide) ?_
  refine r_iconst (v := (-1)) dX9_tried_45 (by decide) ?_
  refine r_istore dX9_tried_46 (by decide) ?_
  refine r_iconst (v := nI 0) dX9_tried_48 (by decide) ?_
  refine r_istore dX9_tried_49 (by decide) ?_
  refine r_iconst (v := nI 0) dX9_tried_51 (by decide) ?_
  refine r_istore dX9_tried_52 (by decide) ?_
  exact tr_loop o b s f l M H law S wh u hM2 hM20 hH1 hH8 hlaw hwh hS ho hn0 S 0 none 40 409600 n0 kd0 I0 J0 P0 (by omega) (by omega) (by omega) (by omega) (by omega) ⟨hX, hMo, hu, hsc, trF.rf⟩

set_option maxHeartbeats 4000000 in
set_option maxRecDepth 100000 in
theorem c_tried_nse (o : Nat) (x1 x2 x3 x4 : Int32) {n : Nat} {kd : mK} {I : mI} {J : mJ} {P : mP} (c0 : kd o = some (0, 9)) (hb : ((!decide (x1 < 0) && decide (x1 < nI 3)) && (!decide (x4 < 0) && decide (x4 < nI 3))) = false) : Ct yX9_tried cX9_tried 10 (some .int) 63 42 409612 [.ref o, .int x1, .int x2, .int x3, .int x4] n kd I J P (fun z n' kd' I' J' P' => z = .inr "java/util/NoSuchElementException" ∧ n' = n ∧ kd' = kd ∧ I' = I ∧ J' = J ∧ P' = P) := by
  refine ct_of 5 (by decide +kernel) (Nat.le_of_ble_eq_true rfl) rfl ?_
  by_cases h1 : (!decide (x1 < 0) && decide (x1 < nI 3)) = true
  · rw [h1, Bool.true_and] at hb
    refine r_aload_n dX9_tried_0 rfl ?_
    refine r_iload_n dX9_tried_1 rfl ?_
    refine r_iconst (v := nI 3) dX9_tried_2 (by decide) ?_
    refine r_virtO (kc2 := 41) (ks2 := 409606) (by have h := c_X9_mustBeWhat (n := n) (kd := kd) (I := I) (J := J) (P := P) o x1 (nI 3); rw [h1] at h; exact h) lk_X9_162 mc_X9_mustBeWhat dX9_tried_3 c0 (by decide) rfl rfl (Nat.le_of_ble_eq_true rfl) (by decide) (by decide) ?_
    refine r_aload_n dX9_tried_6 rfl ?_
    refine r_iload dX9_tried_7 rfl ?_
    refine r_iconst (v := nI 3) dX9_tried_9 (by decide) ?_
    refine r_virtX (v := none) (by have h := c_X9_mustBeWhat (n := n) (kd := kd) (I := I) (J := J) (P := P) o x4 (nI 3); rw [hb] at h; exact h) lk_X9_162 mc_X9_mustBeWhat dX9_tried_10 c0 (by decide) rfl rfl (Nat.le_of_ble_eq_true rfl) (by decide) (by decide) ⟨rfl, rfl, rfl, rfl, rfl, rfl⟩
  · simp only [Bool.not_eq_true] at h1
    refine r_aload_n dX9_tried_0 rfl ?_
    refine r_iload_n dX9_tried_1 rfl ?_
    refine r_iconst (v := nI 3) dX9_tried_2 (by decide) ?_
    refine r_virtX (v := none) (by have h := c_X9_mustBeWhat (n := n) (kd := kd) (I := I) (J := J) (P := P) o x1 (nI 3); rw [h1] at h; exact h) lk_X9_162 mc_X9_mustBeWhat dX9_tried_3 c0 (by decide) rfl rfl (Nat.le_of_ble_eq_true rfl) (by decide) (by decide) ⟨rfl, rfl, rfl, rfl, rfl, rfl⟩

set_option maxHeartbeats 4000000 in
set_option maxRecDepth 100000 in
theorem c_tried_iae (o : Nat) (x1 x2 x3 x4 : Int32) {n : Nat} {kd : mK} {I : mI} {J : mJ} {P : mP} (c0 : kd o = some (0, 9)) (h1 : (!decide (x1 < 0) && decide (x1 < nI 3)) = true) (h4 : (!decide (x4 < 0) && decide (x4 < nI 3)) = true) (hb : x2 < 0 ∨ nI 40 < x2 ∨ x3 < nI 1 ∨ nI 8 < x3) : Ct yX9_tried cX9_tried 10 (some .int) 63 42 409612 [.ref o, .int x1, .int x2, .int x3, .int x4] n kd I J P (fun z n' kd' I' J' P' => z = .inr "java/lang/IllegalArgumentException" ∧ n' = n ∧ kd' = kd ∧ I' = I ∧ J' = J ∧ P' = P) := by
  refine ct_of 5 (by decide +kernel) (Nat.le_of_ble_eq_true rfl) rfl ?_
  refine r_aload_n dX9_tried_0 rfl ?_
  refine r_iload_n dX9_tried_1 rfl ?_
  refine r_iconst (v := nI 3) dX9_tried_2 (by decide) ?_
  refine r_virtO (kc2 := 41) (ks2 := 409606) (by have h := c_X9_mustBeWhat (n := n) (kd := kd) (I := I) (J := J) (P := P) o x1 (nI 3); rw [h1] at h; exact h) lk_X9_162 mc_X9_mustBeWhat dX9_tried_3 c0 (by decide) rfl rfl (Nat.le_of_ble_eq_true rfl) (by decide) (by decide) ?_
  refine r_aload_n dX9_tried_6 rfl ?_
  refine r_iload dX9_tried_7 rfl ?_
  refine r_iconst (v := nI 3) dX9_tried_9 (by decide) ?_
  refine r_virtO (kc2 := 40) (ks2 := 409600) (by have h := c_X9_mustBeWhat (n := n) (kd := kd) (I := I) (J := J) (P := P) o x4 (nI 3); rw [h4] at h; exact h) lk_X9_162 mc_X9_mustBeWhat dX9_tried_10 c0 (by decide) rfl rfl (Nat.le_of_ble_eq_true rfl) (by decide) (by decide) ?_
  refine r_iload_n dX9_tried_13 rfl ?_
  refine r_if_lt (tgt := 34) dX9_tried_14 (by decide) (fun h14 => ?_) (fun h14 => ?_)
  · skip
    refine r_throw (cls := "java/lang/IllegalArgumentException") (names := ["java/lang/RuntimeException", "java/lang/Exception"]) dX9_tried_34 dX9_tried_37 dX9_tried_38 dX9_tried_41 (by decide +kernel) (by decide +kernel) cl_X9_110 xi_IllegalArgumentException xa_iae xb_iae (by decide) (Nat.le_of_ble_eq_true rfl) (by omega) (by omega) ?_
    exact ⟨rfl, rfl, rfl, rfl, rfl, rfl⟩
  · skip
    refine r_iload_n dX9_tried_17 rfl ?_
    refine r_bipush (v := nI 40) dX9_tried_18 (by decide) ?_
    refine r_icmp_gt (tgt := 34) dX9_tried_20 (by decide) (fun h20 => ?_) (fun h20 => ?_)
    · skip
      refine r_throw (cls := "java/lang/IllegalArgumentException") (names := ["java/lang/RuntimeException", "java/lang/Exception"]) dX9_tried_34 dX9_tried_37 dX9_tried_38 dX9_tried_41 (by decide +kernel) (by decide +kernel) cl_X9_110 xi_IllegalArgumentException xa_iae xb_iae (by decide) (Nat.le_of_ble_eq_true rfl) (by omega) (by omega) ?_
      exact ⟨rfl, rfl, rfl, rfl, rfl, rfl⟩
    · skip
      refine r_iload_n dX9_tried_23 rfl ?_
      refine r_iconst (v := nI 1) dX9_tried_24 (by decide) ?_
      refine r_icmp_lt (tgt := 34) dX9_tried_25 (by decide) (fun h25 => ?_) (fun h25 => ?_)
      · skip
        refine r_throw (cls := "java/lang/IllegalArgumentException") (names := ["java/lang/RuntimeException", "java/lang/Exception"]) dX9_tried_34 dX9_tried_37 dX9_tried_38 dX9_tried_41 (by decide +kernel) (by decide +kernel) cl_X9_110 xi_IllegalArgumentException xa_iae xb_iae (by decide) (Nat.le_of_ble_eq_true rfl) (by omega) (by omega) ?_
        exact ⟨rfl, rfl, rfl, rfl, rfl, rfl⟩
      · skip
        refine r_iload_n dX9_tried_28 rfl ?_
        refine r_bipush (v := nI 8) dX9_tried_29 (by decide) ?_
        refine r_icmp_le (tgt := 42) dX9_tried_31 (by decide) (fun h31 => ?_) (fun h31 => ?_)
        · skip
          exact absurd hb (by rintro (q | q | q | q); exact h14 q; exact h20 q; exact h25 q; exact Int32.not_lt.mpr h31 q)
        · skip
          refine r_throw (cls := "java/lang/IllegalArgumentException") (names := ["java/lang/RuntimeException", "java/lang/Exception"]) dX9_tried_34 dX9_tried_37 dX9_tried_38 dX9_tried_41 (by decide +kernel) (by decide +kernel) cl_X9_110 xi_IllegalArgumentException xa_iae xb_iae (by decide) (Nat.le_of_ble_eq_true rfl) (by omega) (by omega) ?_
          exact ⟨rfl, rfl, rfl, rfl, rfl, rfl⟩

