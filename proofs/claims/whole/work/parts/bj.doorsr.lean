/-! DOORS AND HINTS: the reference -/
def btr (b : Option Nat) (s : Nat) : Bool := match b with
  | none => true
  | some x => decide (pc8 s < pc8 x)
def smR (Q : Nat → Bool) : Nat → Nat → Option Nat → Option Nat
  | 0, _, b => b
  | k + 1, s, b => smR Q k (s + 1) (if (btr b s && Q s) = true then some s else b)
theorem smR_ls {Q : Nat → Bool} : ∀ (k s : Nat) (b : Option Nat), lsP Q s b → lsP Q (s + k) (smR Q k s b)
  | 0, s, b, h => h
  | k + 1, s, b, h => by
    unfold smR
    rw [show s + (k + 1) = s + 1 + k by omega]
    refine smR_ls k (s + 1) _ ?_
    by_cases q : (btr b s && Q s) = true
    · rw [if_pos q]
      rw [Bool.and_eq_true] at q
      refine ⟨by omega, q.2, fun y hy hq => ?_⟩
      by_cases e : y = s
      · subst e; exact Or.inr ⟨rfl, Nat.le_refl _⟩
      · left
        cases b with
        | none => have := h y (by omega); rw [hq] at this; exact nomatch this
        | some x =>
          have h1 := h.2.2 y (by omega) hq
          have h2 : pc8 s < pc8 x := of_decide_eq_true q.1
          omega
    · rw [if_neg q]
      cases b with
      | none =>
        intro y hy
        by_cases e : y = s
        · subst e
          simpa [btr] using q
        · exact h y (by omega)
      | some x =>
        refine ⟨by have := h.1; omega, h.2.1, fun y hy hq => ?_⟩
        by_cases e : y = s
        · subst e
          have h2 : ¬ pc8 y < pc8 x := fun t => q (by rw [hq, Bool.and_true]; exact decide_eq_true t)
          have := h.1
          omega
        · exact h.2.2 y (by omega) hq
theorem sm_eq {Q : Nat → Bool} {H : Nat} (hH : H ≤ 8) : smR Q (2 ^ H) 0 none = smC Q (2 ^ H) (H + 1) 0 := by
  have p8 := pw8 hH
  have a := smR_ls (Q := Q) (2 ^ H) 0 none (fun y hy => absurd hy (Nat.not_lt_zero _))
  rw [Nat.zero_add] at a
  exact a.un (smC_ls (fun y hy => pc_H H hH y (by omega) hy) (H + 1) 0 (by omega) (fun y _ h => absurd h (Nat.not_lt_zero _)))
theorem p21_8 : ∀ k, k < 256 → pcF (nI k) 21 = pc8 k := by decide +kernel
theorem agB_r {nm : Nat → Nat → Nat} {H D i j : Nat} : agB nm H D i j = (List.range' 0 H).all fun h => !D.testBit h || decide (nm i h = nm j h) := by unfold agB; rw [List.range_eq_range']
def rgS (kd : mK) (I : mI) (P : mP) (m c H : Nat) (nm : Nat → Nat → Nat) : Prop := kM kd P m ∧ I m 1 = nI H ∧ I m 52 = nI c ∧ (∀ i h, i < c → h < H → I (m + 27) (8 * i + h) = nI (nm i h) ∧ nm i h ≤ 20) ∧ c ≤ 40 ∧ H ≤ 8
theorem dX10_isLike_0 : decode cX10_isLike 0 = .ok (.iconst 0, 1) := by decide +kernel
theorem dX10_isLike_1 : decode cX10_isLike 1 = .ok (.istore 4, 2) := by decide +kernel
theorem dX10_isLike_3 : decode cX10_isLike 3 = .ok (.iload 4, 2) := by decide +kernel
theorem dX10_isLike_5 : decode cX10_isLike 5 = .ok (.aload_n 0, 1) := by decide +kernel
theorem dX10_isLike_6 : decode cX10_isLike 6 = .ok (.getfield 350, 3) := by decide +kernel
theorem dX10_isLike_9 : decode cX10_isLike 9 = .ok (.if_icmp .ge 38, 3) := by decide +kernel
theorem dX10_isLike_12 : decode cX10_isLike 12 = .ok (.iload_n 3, 1) := by decide +kernel
theorem dX10_isLike_13 : decode cX10_isLike 13 = .ok (.iload 4, 2) := by decide +kernel
theorem dX10_isLike_15 : decode cX10_isLike 15 = .ok (.ishr, 1) := by decide +kernel
theorem dX10_isLike_16 : decode cX10_isLike 16 = .ok (.iconst 1, 1) := by decide +kernel
theorem dX10_isLike_17 : decode cX10_isLike 17 = .ok (.iand, 1) := by decide +kernel
theorem dX10_isLike_18 : decode cX10_isLike 18 = .ok (.iconst 1, 1) := by decide +kernel
theorem dX10_isLike_19 : decode cX10_isLike 19 = .ok (.if_icmp .ne 22, 3) := by decide +kernel
theorem dX10_isLike_22 : decode cX10_isLike 22 = .ok (.aload_n 0, 1) := by decide +kernel
theorem dX10_isLike_23 : decode cX10_isLike 23 = .ok (.iload_n 1, 1) := by decide +kernel
theorem dX10_isLike_24 : decode cX10_isLike 24 = .ok (.iload 4, 2) := by decide +kernel
theorem dX10_isLike_26 : decode cX10_isLike 26 = .ok (.invokevirtual 439, 3) := by decide +kernel
theorem dX10_isLike_29 : decode cX10_isLike 29 = .ok (.aload_n 0, 1) := by decide +kernel
theorem dX10_isLike_30 : decode cX10_isLike 30 = .ok (.iload_n 2, 1) := by decide +kernel
theorem dX10_isLike_31 : decode cX10_isLike 31 = .ok (.iload 4, 2) := by decide +kernel
theorem dX10_isLike_33 : decode cX10_isLike 33 = .ok (.invokevirtual 439, 3) := by decide +kernel
theorem dX10_isLike_36 : decode cX10_isLike 36 = .ok (.if_icmp .eq 5, 3) := by decide +kernel
theorem dX10_isLike_39 : decode cX10_isLike 39 = .ok (.iconst 0, 1) := by decide +kernel
theorem dX10_isLike_40 : decode cX10_isLike 40 = .ok (.ireturn, 1) := by decide +kernel
theorem dX10_isLike_41 : decode cX10_isLike 41 = .ok (.iinc 4 1, 3) := by decide +kernel
theorem dX10_isLike_44 : decode cX10_isLike 44 = .ok (.goto (-41), 3) := by decide +kernel
theorem dX10_isLike_47 : decode cX10_isLike 47 = .ok (.iconst 1, 1) := by decide +kernel
theorem dX10_isLike_48 : decode cX10_isLike 48 = .ok (.ireturn, 1) := by decide +kernel

set_option maxHeartbeats 4000000 in
set_option maxRecDepth 100000 in
theorem il_loop (m c H : Nat) (nm : Nat → Nat → Nat) (D i j : Nat) {n : Nat} {kd : mK} {I : mI} {J : mJ} {P : mP} (hS : rgS kd I P m c H nm) (hi : i < c) (hj : j < c) : ∀ (cnt h : Nat), h + cnt = H → Ru yX10_isLike.cls cX10_isLike 5 (some .boolean) yX10_isLike.name 2 (am_is (some (.int (bz ((List.range' h cnt).all fun h => !D.testBit h || decide (nm i h = nm j h))))) n kd I J P) 0 0 3 [some (.ref m), some (.int (nI i)), some (.int (nI j)), some (.int (nI D)), some (.int (nI h))] [] n kd I J P
  | 0, h, hh => by
    obtain ⟨hM, hI1, h52, hN, hc, hH⟩ := id hS
    have eh : h = H := by omega
    subst eh
    refine r_iload dX10_isLike_3 rfl ?_
    refine r_aload_n dX10_isLike_5 rfl ?_
    refine r_getI dX10_isLike_6 fl_X10_350 rfl (kM_0 hM) ?_
    rw [hI1]
    refine r_icmp_ge (tgt := 47) dX10_isLike_9 (by decide) (fun _ => ?_) (fun hz => absurd (show _ from (by rw [nI_leI (by omega) (by omega)]; omega)) hz)
    refine r_iconst (v := nI 1) dX10_isLike_47 (by decide) ?_
    refine r_zret rfl dX10_isLike_48 (by first | exact Or.inl rfl | exact Or.inr rfl | assumption) ?_
    exact am_is.mk
  | cnt + 1, h, hh => by
    obtain ⟨hM, hI1, h52, hN, hc, hH⟩ := id hS
    have hn := il_loop (n := n) (J := J) m c H nm D i j hS hi hj cnt (h + 1) (by omega)
    have n1 := (hN i h hi (by omega)).2
    have n2 := (hN j h hj (by omega)).2
    rw [List.range'_succ, List.all_cons]
    by_cases q : D.testBit h = true
    · by_cases q2 : nm i h = nm j h
      · rw [decide_eq_true q2, Bool.or_true, Bool.true_and]
        refine r_iload dX10_isLike_3 rfl ?_
        refine r_aload_n dX10_isLike_5 rfl ?_
        refine r_getI dX10_isLike_6 fl_X10_350 rfl (kM_0 hM) ?_
        rw [hI1]
        refine r_icmp_ge (tgt := 47) dX10_isLike_9 (by decide) (fun hz => absurd hz (show ¬ _ from (by rw [nI_leI (by omega) (by omega)]; omega))) (fun _ => ?_)
        refine r_iload_n dX10_isLike_12 rfl ?_
        refine r_iload dX10_isLike_13 rfl ?_
        refine r_ishr dX10_isLike_15 ?_
        refine r_iconst (v := nI 1) dX10_isLike_16 (by decide) ?_
        refine r_iand dX10_isLike_17 ?_
        rw [b_ask _ (by omega), bt_nI _ (by omega)]
        rw [if_pos q]
        refine r_iconst (v := nI 1) dX10_isLike_18 (by decide) ?_
        refine r_icmp_ne (tgt := 41) dX10_isLike_19 (by decide) (fun hz => absurd (show _ from rfl) hz) (fun _ => ?_)
        refine r_aload_n dX10_isLike_22 rfl ?_
        refine r_iload_n dX10_isLike_23 rfl ?_
        refine r_iload dX10_isLike_24 rfl ?_
        refine r_virtE (c_X10_at m i h hM (by omega) (by omega)) lk_X10_439 mc_X10_at dX10_isLike_26 (kM_0 hM) (by decide) rfl rfl (Nat.le_of_ble_eq_true rfl) ?_
        rw [(hN i h hi (by omega)).1]
        refine r_aload_n dX10_isLike_29 rfl ?_
        refine r_iload_n dX10_isLike_30 rfl ?_
        refine r_iload dX10_isLike_31 rfl ?_
        refine r_virtE (c_X10_at m j h hM (by omega) (by omega)) lk_X10_439 mc_X10_at dX10_isLike_33 (kM_0 hM) (by decide) rfl rfl (Nat.le_of_ble_eq_true rfl) ?_
        rw [(hN j h hj (by omega)).1]
        refine r_icmp_eq (tgt := 41) dX10_isLike_36 (by decide) (fun _ => ?_) (fun hz => absurd (show _ from (by rw [q2])) hz)
        refine r_iinc (v := nI (h + 1)) dX10_isLike_41 rfl (nI_inc h) ?_
        refine r_goto (tgt := 3) dX10_isLike_44 (by decide) ?_
        exact hn
      · rw [decide_eq_false q2, q]
        refine r_iload dX10_isLike_3 rfl ?_
        refine r_aload_n dX10_isLike_5 rfl ?_
        refine r_getI dX10_isLike_6 fl_X10_350 rfl (kM_0 hM) ?_
        rw [hI1]
        refine r_icmp_ge (tgt := 47) dX10_isLike_9 (by decide) (fun hz => absurd hz (show ¬ _ from (by rw [nI_leI (by omega) (by omega)]; omega))) (fun _ => ?_)
        refine r_iload_n dX10_isLike_12 rfl ?_
        refine r_iload dX10_isLike_13 rfl ?_
        refine r_ishr dX10_isLike_15 ?_
        refine r_iconst (v := nI 1) dX10_isLike_16 (by decide) ?_
        refine r_iand dX10_isLike_17 ?_
        rw [b_ask _ (by omega), bt_nI _ (by omega)]
        rw [if_pos q]
        refine r_iconst (v := nI 1) dX10_isLike_18 (by decide) ?_
        refine r_icmp_ne (tgt := 41) dX10_isLike_19 (by decide) (fun hz => absurd (show _ from rfl) hz) (fun _ => ?_)
        refine r_aload_n dX10_isLike_22 rfl ?_
        refine r_iload_n dX10_isLike_23 rfl ?_
        refine r_iload dX10_isLike_24 rfl ?_
        refine r_virtE (c_X10_at m i h hM (by omega) (by omega)) lk_X10_439 mc_X10_at dX10_isLike_26 (kM_0 hM) (by decide) rfl rfl (Nat.le_of_ble_eq_true rfl) ?_
        rw [(hN i h hi (by omega)).1]
        refine r_aload_n dX10_isLike_29 rfl ?_
        refine r_iload_n dX10_isLike_30 rfl ?_
        refine r_iload dX10_isLike_31 rfl ?_
        refine r_virtE (c_X10_at m j h hM (by omega) (by omega)) lk_X10_439 mc_X10_at dX10_isLike_33 (kM_0 hM) (by decide) rfl rfl (Nat.le_of_ble_eq_true rfl) ?_
        rw [(hN j h hj (by omega)).1]
        refine r_icmp_eq (tgt := 41) dX10_isLike_36 (by decide) (fun hz => absurd hz (show ¬ _ from (fun z => q2 ((nI_eq (by omega) (by omega)).mp z)))) (fun _ => ?_)
        refine r_iconst (v := nI 0) dX10_isLike_39 (by decide) ?_
        refine r_zret rfl dX10_isLike_40 (by first | exact Or.inl rfl | exact Or.inr rfl | assumption) ?_
        exact am_is.mk
    · have q3 : D.testBit h = false := by simpa using q
      rw [q3, Bool.not_false, Bool.true_or, Bool.true_and]
      refine r_iload dX10_isLike_3 rfl ?_
      refine r_aload_n dX10_isLike_5 rfl ?_
      refine r_getI dX10_isLike_6 fl_X10_350 rfl (kM_0 hM) ?_
      rw [hI1]
      refine r_icmp_ge (tgt := 47) dX10_isLike_9 (by decide) (fun hz => absurd hz (show ¬ _ from (by rw [nI_leI (by omega) (by omega)]; omega))) (fun _ => ?_)
      refine r_iload_n dX10_isLike_12 rfl ?_
      refine r_iload dX10_isLike_13 rfl ?_
      refine r_ishr dX10_isLike_15 ?_
      refine r_iconst (v := nI 1) dX10_isLike_16 (by decide) ?_
      refine r_iand dX10_isLike_17 ?_
      rw [b_ask _ (by omega), bt_nI _ (by omega)]
      rw [if_neg q]
      refine r_iconst (v := nI 1) dX10_isLike_18 (by decide) ?_
      refine r_icmp_ne (tgt := 41) dX10_isLike_19 (by decide) (fun _ => ?_) (fun hz => absurd hz (show ¬ _ from (by decide)))
      refine r_iinc (v := nI (h + 1)) dX10_isLike_41 rfl (nI_inc h) ?_
      refine r_goto (tgt := 3) dX10_isLike_44 (by decide) ?_
      exact hn

set_option maxHeartbeats 4000000 in
set_option maxRecDepth 100000 in
theorem c_isLike (m c H : Nat) (nm : Nat → Nat → Nat) (D i j : Nat) {n : Nat} {kd : mK} {I : mI} {J : mJ} {P : mP} (hS : rgS kd I P m c H nm) (hi : i < c) (hj : j < c) : Ct yX10_isLike cX10_isLike 5 (some .boolean) 2 0 0 [.ref m, .int (nI i), .int (nI j), .int (nI D)] n kd I J P (am_is (some (.int (bz (agB nm H D i j)))) n kd I J P) := by
  rw [agB_r]
  refine ct_of 1 (by decide +kernel) (Nat.le_of_ble_eq_true rfl) rfl ?_
  refine r_iconst (v := nI 0) dX10_isLike_0 (by decide) ?_
  refine r_istore dX10_isLike_1 (by decide) ?_
  exact il_loop m c H nm D i j hS hi hj H 0 (by omega)

theorem dX10_smallest_0 : decode cX10_smallest 0 = .ok (.iconst (-1), 1) := by decide +kernel
theorem dX10_smallest_1 : decode cX10_smallest 1 = .ok (.istore_n 2, 1) := by decide +kernel
theorem dX10_smallest_2 : decode cX10_smallest 2 = .ok (.iconst 0, 1) := by decide +kernel
theorem dX10_smallest_3 : decode cX10_smallest 3 = .ok (.istore_n 3, 1) := by decide +kernel
theorem dX10_smallest_4 : decode cX10_smallest 4 = .ok (.iload_n 3, 1) := by decide +kernel
theorem dX10_smallest_5 : decode cX10_smallest 5 = .ok (.iconst 1, 1) := by decide +kernel
theorem dX10_smallest_6 : decode cX10_smallest 6 = .ok (.aload_n 0, 1) := by decide +kernel
theorem dX10_smallest_7 : decode cX10_smallest 7 = .ok (.getfield 350, 3) := by decide +kernel
theorem dX10_smallest_10 : decode cX10_smallest 10 = .ok (.ishl, 1) := by decide +kernel
theorem dX10_smallest_11 : decode cX10_smallest 11 = .ok (.if_icmp .ge 121, 3) := by decide +kernel
theorem dX10_smallest_14 : decode cX10_smallest 14 = .ok (.iload_n 2, 1) := by decide +kernel
theorem dX10_smallest_15 : decode cX10_smallest 15 = .ok (.iconst (-1), 1) := by decide +kernel
theorem dX10_smallest_16 : decode cX10_smallest 16 = .ok (.if_icmp .eq 17, 3) := by decide +kernel
theorem dX10_smallest_19 : decode cX10_smallest 19 = .ok (.iload_n 3, 1) := by decide +kernel
theorem dX10_smallest_20 : decode cX10_smallest 20 = .ok (.invokestatic 448, 3) := by decide +kernel
theorem dX10_smallest_23 : decode cX10_smallest 23 = .ok (.iload_n 2, 1) := by decide +kernel
theorem dX10_smallest_24 : decode cX10_smallest 24 = .ok (.invokestatic 448, 3) := by decide +kernel
theorem dX10_smallest_27 : decode cX10_smallest 27 = .ok (.if_icmp .lt 6, 3) := by decide +kernel
theorem dX10_smallest_30 : decode cX10_smallest 30 = .ok (.goto 96, 3) := by decide +kernel
theorem dX10_smallest_33 : decode cX10_smallest 33 = .ok (.iconst 1, 1) := by decide +kernel
theorem dX10_smallest_34 : decode cX10_smallest 34 = .ok (.istore 4, 2) := by decide +kernel
theorem dX10_smallest_36 : decode cX10_smallest 36 = .ok (.iconst 0, 1) := by decide +kernel
theorem dX10_smallest_37 : decode cX10_smallest 37 = .ok (.istore 5, 2) := by decide +kernel
theorem dX10_smallest_39 : decode cX10_smallest 39 = .ok (.iload 5, 2) := by decide +kernel
theorem dX10_smallest_41 : decode cX10_smallest 41 = .ok (.aload_n 0, 1) := by decide +kernel
theorem dX10_smallest_42 : decode cX10_smallest 42 = .ok (.getfield 413, 3) := by decide +kernel
theorem dX10_smallest_45 : decode cX10_smallest 45 = .ok (.if_icmp .ge 74, 3) := by decide +kernel
theorem dX10_smallest_48 : decode cX10_smallest 48 = .ok (.iload 4, 2) := by decide +kernel
theorem dX10_smallest_50 : decode cX10_smallest 50 = .ok (.ifCond .eq 69, 3) := by decide +kernel
theorem dX10_smallest_53 : decode cX10_smallest 53 = .ok (.iconst 0, 1) := by decide +kernel
theorem dX10_smallest_54 : decode cX10_smallest 54 = .ok (.istore 6, 2) := by decide +kernel
theorem dX10_smallest_56 : decode cX10_smallest 56 = .ok (.iload 6, 2) := by decide +kernel
theorem dX10_smallest_58 : decode cX10_smallest 58 = .ok (.aload_n 0, 1) := by decide +kernel
theorem dX10_smallest_59 : decode cX10_smallest 59 = .ok (.getfield 413, 3) := by decide +kernel
theorem dX10_smallest_62 : decode cX10_smallest 62 = .ok (.if_icmp .ge 51, 3) := by decide +kernel
theorem dX10_smallest_65 : decode cX10_smallest 65 = .ok (.iload 4, 2) := by decide +kernel
theorem dX10_smallest_67 : decode cX10_smallest 67 = .ok (.ifCond .eq 46, 3) := by decide +kernel
theorem dX10_smallest_70 : decode cX10_smallest 70 = .ok (.iload_n 1, 1) := by decide +kernel
theorem dX10_smallest_71 : decode cX10_smallest 71 = .ok (.iconst (-1), 1) := by decide +kernel
theorem dX10_smallest_72 : decode cX10_smallest 72 = .ok (.if_icmp .eq 9, 3) := by decide +kernel
theorem dX10_smallest_75 : decode cX10_smallest 75 = .ok (.iload 5, 2) := by decide +kernel
theorem dX10_smallest_77 : decode cX10_smallest 77 = .ok (.iload_n 1, 1) := by decide +kernel
theorem dX10_smallest_78 : decode cX10_smallest 78 = .ok (.if_icmp .ne 35, 3) := by decide +kernel
theorem dX10_smallest_81 : decode cX10_smallest 81 = .ok (.iload 5, 2) := by decide +kernel
theorem dX10_smallest_83 : decode cX10_smallest 83 = .ok (.iload 6, 2) := by decide +kernel
theorem dX10_smallest_85 : decode cX10_smallest 85 = .ok (.if_icmp .eq 15, 3) := by decide +kernel
theorem dX10_smallest_88 : decode cX10_smallest 88 = .ok (.aload_n 0, 1) := by decide +kernel
theorem dX10_smallest_89 : decode cX10_smallest 89 = .ok (.iload 5, 2) := by decide +kernel
theorem dX10_smallest_91 : decode cX10_smallest 91 = .ok (.iload 6, 2) := by decide +kernel
theorem dX10_smallest_93 : decode cX10_smallest 93 = .ok (.iload_n 3, 1) := by decide +kernel
theorem dX10_smallest_94 : decode cX10_smallest 94 = .ok (.invokevirtual 465, 3) := by decide +kernel
theorem dX10_smallest_97 : decode cX10_smallest 97 = .ok (.ifCond .ne 7, 3) := by decide +kernel
theorem dX10_smallest_100 : decode cX10_smallest 100 = .ok (.iconst 1, 1) := by decide +kernel
theorem dX10_smallest_101 : decode cX10_smallest 101 = .ok (.goto 4, 3) := by decide +kernel
theorem dX10_smallest_104 : decode cX10_smallest 104 = .ok (.iconst 0, 1) := by decide +kernel
theorem dX10_smallest_105 : decode cX10_smallest 105 = .ok (.istore 4, 2) := by decide +kernel
theorem dX10_smallest_107 : decode cX10_smallest 107 = .ok (.iinc 6 1, 3) := by decide +kernel
theorem dX10_smallest_110 : decode cX10_smallest 110 = .ok (.goto (-54), 3) := by decide +kernel
theorem dX10_smallest_113 : decode cX10_smallest 113 = .ok (.iinc 5 1, 3) := by decide +kernel
theorem dX10_smallest_116 : decode cX10_smallest 116 = .ok (.goto (-77), 3) := by decide +kernel
theorem dX10_smallest_119 : decode cX10_smallest 119 = .ok (.iload 4, 2) := by decide +kernel
theorem dX10_smallest_121 : decode cX10_smallest 121 = .ok (.ifCond .eq 5, 3) := by decide +kernel
theorem dX10_smallest_124 : decode cX10_smallest 124 = .ok (.iload_n 3, 1) := by decide +kernel
theorem dX10_smallest_125 : decode cX10_smallest 125 = .ok (.istore_n 2, 1) := by decide +kernel
theorem dX10_smallest_126 : decode cX10_smallest 126 = .ok (.iinc 3 1, 3) := by decide +kernel
theorem dX10_smallest_129 : decode cX10_smallest 129 = .ok (.goto (-125), 3) := by decide +kernel
theorem dX10_smallest_132 : decode cX10_smallest 132 = .ok (.iload_n 2, 1) := by decide +kernel
theorem dX10_smallest_133 : decode cX10_smallest 133 = .ok (.ireturn, 1) := by decide +kernel

set_option maxHeartbeats 4000000 in
set_option maxRecDepth 100000 in
theorem sj_act (m c H : Nat) (nm : Nat → Nat → Nat) (one B : Int32) (D : Nat) (i : Nat) {post : am_Post} {n : Nat} {kd : mK} {I : mI} {J : mJ} {P : mP} (hS : rgS kd I P m c H nm) (hi : i < c) (hact : one = -1 ∨ nI i = one) : ∀ (cnt j : Nat), j + cnt = c → (∀ z6, Ru yX10_smallest.cls cX10_smallest 7 (some .int) yX10_smallest.name 3 (post) 0 0 113 [some (.ref m), some (.int one), some (.int B), some (.int (nI D)), some (.int (bz ((List.range' j cnt).all fun j => decide (i = j) || !agB nm H D i j))), some (.int (nI i)), z6] [] n kd I J P) → Ru yX10_smallest.cls cX10_smallest 7 (some .int) yX10_smallest.name 3 (post) 0 0 56 [some (.ref m), some (.int one), some (.int B), some (.int (nI D)), some (.int (nI 1)), some (.int (nI i)), some (.int (nI j))] [] n kd I J P
  | 0, j, hh, hK => by
    obtain ⟨hM, hI1, h52, hN, hc, hH⟩ := id hS
    have eh : j = c := by omega
    subst eh
    refine r_iload dX10_smallest_56 rfl ?_
    refine r_aload_n dX10_smallest_58 rfl ?_
    refine r_getI dX10_smallest_59 fl_X10_413 rfl (kM_0 hM) ?_
    rw [h52]
    refine r_icmp_ge (tgt := 113) dX10_smallest_62 (by decide) (fun _ => ?_) (fun hz => absurd (show _ from (by rw [nI_leI (by omega) (by omega)]; omega)) hz)
    exact hK _
  | cnt + 1, j, hh, hK => by
    obtain ⟨hM, hI1, h52, hN, hc, hH⟩ := id hS
    have h81 : Ru yX10_smallest.cls cX10_smallest 7 (some .int) yX10_smallest.name 3 (post) 0 0 81 [some (.ref m), some (.int one), some (.int B), some (.int (nI D)), some (.int (nI 1)), some (.int (nI i)), some (.int (nI j))] [] n kd I J P := by
      rw [List.range'_succ, List.all_cons] at hK
      by_cases q : i = j
      · rw [decide_eq_true q, Bool.true_or, Bool.true_and] at hK
        refine r_iload dX10_smallest_81 rfl ?_
        refine r_iload dX10_smallest_83 rfl ?_
        refine r_icmp_eq (tgt := 100) dX10_smallest_85 (by decide) (fun _ => ?_) (fun hz => absurd (show _ from (by rw [q])) hz)
        refine r_iconst (v := nI 1) dX10_smallest_100 (by decide) ?_
        refine r_goto (tgt := 105) dX10_smallest_101 (by decide) ?_
        refine r_istore dX10_smallest_105 (by decide) ?_
        refine r_iinc (v := nI (j + 1)) dX10_smallest_107 rfl (nI_inc j) ?_
        refine r_goto (tgt := 56) dX10_smallest_110 (by decide) ?_
        exact sj_act m c H nm one B D i hS hi hact cnt (j + 1) (by omega) hK
      · rw [decide_eq_false q, Bool.false_or] at hK
        by_cases q2 : agB nm H D i j = true
        · rw [q2, Bool.not_true, Bool.false_and] at hK
          refine r_iload dX10_smallest_81 rfl ?_
          refine r_iload dX10_smallest_83 rfl ?_
          refine r_icmp_eq (tgt := 100) dX10_smallest_85 (by decide) (fun hz => absurd hz (show ¬ _ from (fun z => q ((nI_eq (by omega) (by omega)).mp z)))) (fun _ => ?_)
          refine r_aload_n dX10_smallest_88 rfl ?_
          refine r_iload dX10_smallest_89 rfl ?_
          refine r_iload dX10_smallest_91 rfl ?_
          refine r_iload_n dX10_smallest_93 rfl ?_
          refine r_virtE (c_isLike m c H nm D i j hS hi (by omega)) lk_X10_465 mc_X10_isLike dX10_smallest_94 (kM_0 hM) (by decide) rfl rfl (Nat.le_of_ble_eq_true rfl) ?_
          rw [q2]
          refine r_if_ne (tgt := 104) dX10_smallest_97 (by decide) (fun _ => ?_) (fun hz => absurd hz (show ¬ _ from (by decide)))
          refine r_iconst (v := nI 0) dX10_smallest_104 (by decide) ?_
          refine r_istore dX10_smallest_105 (by decide) ?_
          refine r_iinc (v := nI (j + 1)) dX10_smallest_107 rfl (nI_inc j) ?_
          refine r_goto (tgt := 56) dX10_smallest_110 (by decide) ?_
          by_cases hl : j + 1 < c
          · skip
            refine r_iload dX10_smallest_56 rfl ?_
            refine r_aload_n dX10_smallest_58 rfl ?_
            refine r_getI dX10_smallest_59 fl_X10_413 rfl (kM_0 hM) ?_
            rw [h52]
            refine r_icmp_ge (tgt := 113) dX10_smallest_62 (by decide) (fun hz => absurd hz (show ¬ _ from (by rw [nI_leI (by omega) (by omega)]; omega))) (fun _ => ?_)
            refine r_iload dX10_smallest_65 rfl ?_
            refine r_if_eq (tgt := 113) dX10_smallest_67 (by decide) (fun _ => ?_) (fun hz => absurd (show _ from rfl) hz)
            exact hK _
          · skip
            refine r_iload dX10_smallest_56 rfl ?_
            refine r_aload_n dX10_smallest_58 rfl ?_
            refine r_getI dX10_smallest_59 fl_X10_413 rfl (kM_0 hM) ?_
            rw [h52]
            refine r_icmp_ge (tgt := 113) dX10_smallest_62 (by decide) (fun _ => ?_) (fun hz => absurd (show _ from (by rw [nI_leI (by omega) (by omega)]; omega)) hz)
            exact hK _
        · have q2 : agB nm H D i j = false := by cases hx : agB nm H D i j; rfl; exact absurd hx q2
          rw [q2, Bool.not_false, Bool.true_and] at hK
          refine r_iload dX10_smallest_81 rfl ?_
          refine r_iload dX10_smallest_83 rfl ?_
          refine r_icmp_eq (tgt := 100) dX10_smallest_85 (by decide) (fun hz => absurd hz (show ¬ _ from (fun z => q ((nI_eq (by omega) (by omega)).mp z)))) (fun _ => ?_)
          refine r_aload_n dX10_smallest_88 rfl ?_
          refine r_iload dX10_smallest_89 rfl ?_
          refine r_iload dX10_smallest_91 rfl ?_
          refine r_iload_n dX10_smallest_93 rfl ?_
          refine r_virtE (c_isLike m c H nm D i j hS hi (by omega)) lk_X10_465 mc_X10_isLike dX10_smallest_94 (kM_0 hM) (by decide) rfl rfl (Nat.le_of_ble_eq_true rfl) ?_
          rw [q2]
          refine r_if_ne (tgt := 104) dX10_smallest_97 (by decide) (fun hz => absurd (show _ from rfl) hz) (fun _ => ?_)
          refine r_iconst (v := nI 1) dX10_smallest_100 (by decide) ?_
          refine r_goto (tgt := 105) dX10_smallest_101 (by decide) ?_
          refine r_istore dX10_smallest_105 (by decide) ?_
          refine r_iinc (v := nI (j + 1)) dX10_smallest_107 rfl (nI_inc j) ?_
          refine r_goto (tgt := 56) dX10_smallest_110 (by decide) ?_
          exact sj_act m c H nm one B D i hS hi hact cnt (j + 1) (by omega) hK
    by_cases ho : one = -1
    · skip
      refine r_iload dX10_smallest_56 rfl ?_
      refine r_aload_n dX10_smallest_58 rfl ?_
      refine r_getI dX10_smallest_59 fl_X10_413 rfl (kM_0 hM) ?_
      rw [h52]
      refine r_icmp_ge (tgt := 113) dX10_smallest_62 (by decide) (fun hz => absurd hz (show ¬ _ from (by rw [nI_leI (by omega) (by omega)]; omega))) (fun _ => ?_)
      refine r_iload dX10_smallest_65 rfl ?_
      refine r_if_eq (tgt := 113) dX10_smallest_67 (by decide) (fun hz => absurd hz (show ¬ _ from (by decide))) (fun _ => ?_)
      refine r_iload_n dX10_smallest_70 rfl ?_
      refine r_iconst (v := (-1)) dX10_smallest_71 (by decide) ?_
      refine r_icmp_eq (tgt := 81) dX10_smallest_72 (by decide) (fun _ => ?_) (fun hz => absurd (show _ from ho) hz)
      exact h81
    · have hio := hact.resolve_left ho
      refine r_iload dX10_smallest_56 rfl ?_
      refine r_aload_n dX10_smallest_58 rfl ?_
      refine r_getI dX10_smallest_59 fl_X10_413 rfl (kM_0 hM) ?_
      rw [h52]
      refine r_icmp_ge (tgt := 113) dX10_smallest_62 (by decide) (fun hz => absurd hz (show ¬ _ from (by rw [nI_leI (by omega) (by omega)]; omega))) (fun _ => ?_)
      refine r_iload dX10_smallest_65 rfl ?_
      refine r_if_eq (tgt := 113) dX10_smallest_67 (by decide) (fun hz => absurd hz (show ¬ _ from (by decide))) (fun _ => ?_)
      refine r_iload_n dX10_smallest_70 rfl ?_
      refine r_iconst (v := (-1)) dX10_smallest_71 (by decide) ?_
      refine r_icmp_eq (tgt := 81) dX10_smallest_72 (by decide) (fun hz => absurd hz (show ¬ _ from ho)) (fun _ => ?_)
      refine r_iload dX10_smallest_75 rfl ?_
      refine r_iload_n dX10_smallest_77 rfl ?_
      refine r_icmp_ne (tgt := 113) dX10_smallest_78 (by decide) (fun hz => absurd (show _ from hio) hz) (fun _ => ?_)
      exact h81

set_option maxHeartbeats 4000000 in
set_option maxRecDepth 100000 in
theorem si_loop (m c H : Nat) (nm : Nat → Nat → Nat) (one B : Int32) (D : Nat) (act : Nat → Bool) {post : am_Post} {n : Nat} {kd : mK} {I : mI} {J : mJ} {P : mP} (hS : rgS kd I P m c H nm) (hact : ∀ i, i < c → ((one = -1 ∨ nI i = one) ↔ act i = true)) : ∀ (cnt i : Nat) (z6 : Option Value), i + cnt = c → (∀ z5 z6, Ru yX10_smallest.cls cX10_smallest 7 (some .int) yX10_smallest.name 3 (post) 0 0 119 [some (.ref m), some (.int one), some (.int B), some (.int (nI D)), some (.int (bz ((List.range' i cnt).all fun i => !act i || apB nm c H D i))), z5, z6] [] n kd I J P) → Ru yX10_smallest.cls cX10_smallest 7 (some .int) yX10_smallest.name 3 (post) 0 0 39 [some (.ref m), some (.int one), some (.int B), some (.int (nI D)), some (.int (nI 1)), some (.int (nI i)), z6] [] n kd I J P
  | 0, i, z6, hh, hK => by
    obtain ⟨hM, hI1, h52, hN, hc, hH⟩ := id hS
    have eh : i = c := by omega
    subst eh
    refine r_iload dX10_smallest_39 rfl ?_
    refine r_aload_n dX10_smallest_41 rfl ?_
    refine r_getI dX10_smallest_42 fl_X10_413 rfl (kM_0 hM) ?_
    rw [h52]
    refine r_icmp_ge (tgt := 119) dX10_smallest_45 (by decide) (fun _ => ?_) (fun hz => absurd (show _ from (by rw [nI_leI (by omega) (by omega)]; omega)) hz)
    exact hK _ _
  | cnt + 1, i, z6, hh, hK => by
    obtain ⟨hM, hI1, h52, hN, hc, hH⟩ := id hS
    rw [List.range'_succ, List.all_cons] at hK
    have ha := hact i (by omega)
    by_cases q : act i = true
    · rw [q, Bool.not_true, Bool.false_or] at hK
      refine r_iload dX10_smallest_39 rfl ?_
      refine r_aload_n dX10_smallest_41 rfl ?_
      refine r_getI dX10_smallest_42 fl_X10_413 rfl (kM_0 hM) ?_
      rw [h52]
      refine r_icmp_ge (tgt := 119) dX10_smallest_45 (by decide) (fun hz => absurd hz (show ¬ _ from (by rw [nI_leI (by omega) (by omega)]; omega))) (fun _ => ?_)
      refine r_iload dX10_smallest_48 rfl ?_
      refine r_if_eq (tgt := 119) dX10_smallest_50 (by decide) (fun hz => absurd hz (show ¬ _ from (by decide))) (fun _ => ?_)
      refine r_iconst (v := nI 0) dX10_smallest_53 (by decide) ?_
      refine r_istore dX10_smallest_54 (by decide) ?_
      refine sj_act m c H nm one B D i hS (by omega) (ha.mpr q) c 0 (by omega) (fun z6 => ?_)
      rw [show ((List.range' 0 c).all fun j => decide (i = j) || !agB nm H D i j) = apB nm c H D i from rfl]
      by_cases q2 : apB nm c H D i = true
      · rw [q2, Bool.true_and] at hK
        rw [q2]
        refine r_iinc (v := nI (i + 1)) dX10_smallest_113 rfl (nI_inc i) ?_
        refine r_goto (tgt := 39) dX10_smallest_116 (by decide) ?_
        exact si_loop m c H nm one B D act hS hact cnt (i + 1) _ (by omega) hK
      · have q2 : apB nm c H D i = false := by cases hx : apB nm c H D i; rfl; exact absurd hx q2
        rw [q2, Bool.false_and] at hK
        rw [q2]
        refine r_iinc (v := nI (i + 1)) dX10_smallest_113 rfl (nI_inc i) ?_
        refine r_goto (tgt := 39) dX10_smallest_116 (by decide) ?_
        by_cases hl : i + 1 < c
        · skip
          refine r_iload dX10_smallest_39 rfl ?_
          refine r_aload_n dX10_smallest_41 rfl ?_
          refine r_getI dX10_smallest_42 fl_X10_413 rfl (kM_0 hM) ?_
          rw [h52]
          refine r_icmp_ge (tgt := 119) dX10_smallest_45 (by decide) (fun hz => absurd hz (show ¬ _ from (by rw [nI_leI (by omega) (by omega)]; omega))) (fun _ => ?_)
          refine r_iload dX10_smallest_48 rfl ?_
          refine r_if_eq (tgt := 119) dX10_smallest_50 (by decide) (fun _ => ?_) (fun hz => absurd (show _ from rfl) hz)
          exact hK _ _
        · skip
          refine r_iload dX10_smallest_39 rfl ?_
          refine r_aload_n dX10_smallest_41 rfl ?_
          refine r_getI dX10_smallest_42 fl_X10_413 rfl (kM_0 hM) ?_
          rw [h52]
          refine r_icmp_ge (tgt := 119) dX10_smallest_45 (by decide) (fun _ => ?_) (fun hz => absurd (show _ from (by rw [nI_leI (by omega) (by omega)]; omega)) hz)
          exact hK _ _
    · have hno : ¬ (one = -1 ∨ nI i = one) := fun z => q (ha.mp z)
      have q3 : act i = false := by cases hx : act i; rfl; exact absurd hx q
      rw [q3, Bool.not_false, Bool.true_or, Bool.true_and] at hK
      refine r_iload dX10_smallest_39 rfl ?_
      refine r_aload_n dX10_smallest_41 rfl ?_
      refine r_getI dX10_smallest_42 fl_X10_413 rfl (kM_0 hM) ?_
      rw [h52]
      refine r_icmp_ge (tgt := 119) dX10_smallest_45 (by decide) (fun hz => absurd hz (show ¬ _ from (by rw [nI_leI (by omega) (by omega)]; omega))) (fun _ => ?_)
      refine r_iload dX10_smallest_48 rfl ?_
      refine r_if_eq (tgt := 119) dX10_smallest_50 (by decide) (fun hz => absurd hz (show ¬ _ from (by decide))) (fun _ => ?_)
      refine r_iconst (v := nI 0) dX10_smallest_53 (by decide) ?_
      refine r_istore dX10_smallest_54 (by decide) ?_
      refine r_iload dX10_smallest_56 rfl ?_
      refine r_aload_n dX10_smallest_58 rfl ?_
      refine r_getI dX10_smallest_59 fl_X10_413 rfl (kM_0 hM) ?_
      rw [h52]
      refine r_icmp_ge (tgt := 113) dX10_smallest_62 (by decide) (fun hz => absurd hz (show ¬ _ from (by rw [nI_leI (by omega) (by omega)]; omega))) (fun _ => ?_)
      refine r_iload dX10_smallest_65 rfl ?_
      refine r_if_eq (tgt := 113) dX10_smallest_67 (by decide) (fun hz => absurd hz (show ¬ _ from (by decide))) (fun _ => ?_)
      refine r_iload_n dX10_smallest_70 rfl ?_
      refine r_iconst (v := (-1)) dX10_smallest_71 (by decide) ?_
      refine r_icmp_eq (tgt := 81) dX10_smallest_72 (by decide) (fun hz => absurd hz (show ¬ _ from (fun z => hno (Or.inl z)))) (fun _ => ?_)
      refine r_iload dX10_smallest_75 rfl ?_
      refine r_iload_n dX10_smallest_77 rfl ?_
      refine r_icmp_ne (tgt := 113) dX10_smallest_78 (by decide) (fun _ => ?_) (fun hz => absurd hz (show ¬ _ from (fun z => hno (Or.inr z))))
      refine r_iinc (v := nI (i + 1)) dX10_smallest_113 rfl (nI_inc i) ?_
      refine r_goto (tgt := 39) dX10_smallest_116 (by decide) ?_
      exact si_loop m c H nm one B D act hS hact cnt (i + 1) _ (by omega) hK

set_option maxHeartbeats 4000000 in
set_option maxRecDepth 100000 in
theorem ss_loop (m c H : Nat) (nm : Nat → Nat → Nat) (one : Int32) (act : Nat → Bool) {n : Nat} {kd : mK} {I : mI} {J : mJ} {P : mP} (hS : rgS kd I P m c H nm) (hact : ∀ i, i < c → ((one = -1 ∨ nI i = one) ↔ act i = true)) : ∀ (cnt s : Nat) (b : Option Nat) (z4 z5 z6 : Option Value), s + cnt = 2 ^ H → (∀ x, b = some x → x < s) → Ru yX10_smallest.cls cX10_smallest 7 (some .int) yX10_smallest.name 3 (am_is (some (.int (oI (smR (fun D => (List.range' 0 c).all fun i => !act i || apB nm c H D i) cnt s b)))) n kd I J P) 0 0 4 [some (.ref m), some (.int one), some (.int (oI b)), some (.int (nI s)), z4, z5, z6] [] n kd I J P
  | 0, s, b, z4, z5, z6, hh, hb => by
    obtain ⟨hM, hI1, h52, hN, hc, hH⟩ := id hS
    have p8 := pw8 hH
    have eh : s = 2 ^ H := by omega
    subst eh
    refine r_iload_n dX10_smallest_4 rfl ?_
    refine r_iconst (v := nI 1) dX10_smallest_5 (by decide) ?_
    refine r_aload_n dX10_smallest_6 rfl ?_
    refine r_getI dX10_smallest_7 fl_X10_350 rfl (kM_0 hM) ?_
    rw [hI1]
    refine r_ishl dX10_smallest_10 ?_
    rw [sh1_8 H hH]
    refine r_icmp_ge (tgt := 132) dX10_smallest_11 (by decide) (fun _ => ?_) (fun hz => absurd (show _ from (by rw [nI_leI (by omega) (by omega)]; omega)) hz)
    refine r_iload_n dX10_smallest_132 rfl ?_
    refine r_iret rfl dX10_smallest_133 ?_
    exact am_is.mk
  | cnt + 1, s, b, z4, z5, z6, hh, hb => by
    obtain ⟨hM, hI1, h52, hN, hc, hH⟩ := id hS
    have p8 := pw8 hH
    have hs8 := pc8_le s (by omega)
    have ih := fun z4 z5 z6 => ss_loop (n := n) (J := J) m c H nm one act hS hact cnt (s + 1) (if (btr b s && (fun D => (List.range' 0 c).all fun i => !act i || apB nm c H D i) s) = true then some s else b) z4 z5 z6 (by omega) (fun x hx => by
      split at hx
      · cases hx; omega
      · have := hb x hx; omega)
    rw [show smR (fun D => (List.range' 0 c).all fun i => !act i || apB nm c H D i) (cnt + 1) s b = smR (fun D => (List.range' 0 c).all fun i => !act i || apB nm c H D i) cnt (s + 1) (if (btr b s && (fun D => (List.range' 0 c).all fun i => !act i || apB nm c H D i) s) = true then some s else b) from rfl]
    generalize hR : oI (smR (fun D => (List.range' 0 c).all fun i => !act i || apB nm c H D i) cnt (s + 1) (if (btr b s && (fun D => (List.range' 0 c).all fun i => !act i || apB nm c H D i) s) = true then some s else b)) = R at ih ⊢
    cases b with
    | none =>
      have hb : btr none s = true := rfl
      refine r_iload_n dX10_smallest_4 rfl ?_
      refine r_iconst (v := nI 1) dX10_smallest_5 (by decide) ?_
      refine r_aload_n dX10_smallest_6 rfl ?_
      refine r_getI dX10_smallest_7 fl_X10_350 rfl (kM_0 hM) ?_
      rw [hI1]
      refine r_ishl dX10_smallest_10 ?_
      rw [sh1_8 H hH]
      refine r_icmp_ge (tgt := 132) dX10_smallest_11 (by decide) (fun hz => absurd hz (show ¬ _ from (by rw [nI_leI (by omega) (by omega)]; omega))) (fun _ => ?_)
      refine r_iload_n dX10_smallest_14 rfl ?_
      refine r_iconst (v := (-1)) dX10_smallest_15 (by decide) ?_
      refine r_icmp_eq (tgt := 33) dX10_smallest_16 (by decide) (fun _ => ?_) (fun hz => absurd (show _ from rfl) hz)
      refine r_iconst (v := nI 1) dX10_smallest_33 (by decide) ?_
      refine r_istore dX10_smallest_34 (by decide) ?_
      refine r_iconst (v := nI 0) dX10_smallest_36 (by decide) ?_
      refine r_istore dX10_smallest_37 (by decide) ?_
      refine si_loop m c H nm one _ s act hS hact c 0 _ (by omega) (fun z5 z6 => ?_)
      by_cases q : ((List.range' 0 c).all fun i => !act i || apB nm c H s i) = true
      · rw [if_pos (by rw [Bool.and_eq_true]; exact ⟨hb, q⟩)] at ih
        rw [q]
        refine r_iload dX10_smallest_119 rfl ?_
        refine r_if_eq (tgt := 126) dX10_smallest_121 (by decide) (fun hz => absurd hz (show ¬ _ from (by decide))) (fun _ => ?_)
        refine r_iload_n dX10_smallest_124 rfl ?_
        refine r_istore_n dX10_smallest_125 (by decide) ?_
        refine r_iinc (v := nI (s + 1)) dX10_smallest_126 rfl (nI_inc s) ?_
        refine r_goto (tgt := 4) dX10_smallest_129 (by decide) ?_
        exact ih _ _ _
      · rw [if_neg (by rw [Bool.and_eq_true]; exact fun z => q z.2)] at ih
        have q : ((List.range' 0 c).all fun i => !act i || apB nm c H s i) = false := by cases hx : ((List.range' 0 c).all fun i => !act i || apB nm c H s i); rfl; exact absurd hx q
        rw [q]
        refine r_iload dX10_smallest_119 rfl ?_
        refine r_if_eq (tgt := 126) dX10_smallest_121 (by decide) (fun _ => ?_) (fun hz => absurd (show _ from (by decide)) hz)
        refine r_iinc (v := nI (s + 1)) dX10_smallest_126 rfl (nI_inc s) ?_
        refine r_goto (tgt := 4) dX10_smallest_129 (by decide) ?_
        exact ih _ _ _
    | some x =>
      have hx := hb x rfl
      have hx8 := pc8_le x (by omega)
      change ∀ z4 z5 z6, _ at ih
      by_cases hl : pc8 s < pc8 x
      · have hb : btr (some x) s = true := decide_eq_true hl
        refine r_iload_n dX10_smallest_4 rfl ?_
        refine r_iconst (v := nI 1) dX10_smallest_5 (by decide) ?_
        refine r_aload_n dX10_smallest_6 rfl ?_
        refine r_getI dX10_smallest_7 fl_X10_350 rfl (kM_0 hM) ?_
        rw [hI1]
        refine r_ishl dX10_smallest_10 ?_
        rw [sh1_8 H hH]
        refine r_icmp_ge (tgt := 132) dX10_smallest_11 (by decide) (fun hz => absurd hz (show ¬ _ from (by rw [nI_leI (by omega) (by omega)]; omega))) (fun _ => ?_)
        refine r_iload_n dX10_smallest_14 rfl ?_
        refine r_iconst (v := (-1)) dX10_smallest_15 (by decide) ?_
        refine r_icmp_eq (tgt := 33) dX10_smallest_16 (by decide) (fun hz => absurd hz (show ¬ _ from (nI_m1 (by omega)))) (fun _ => ?_)
        refine r_iload_n dX10_smallest_19 rfl ?_
        refine r_statE (c_X10_bits (nI s)) lk_X10_448 mc_X10_bits dX10_smallest_20 (by decide) rfl rfl (Nat.le_of_ble_eq_true rfl) ?_
        rw [p21_8 s (by omega)]
        refine r_iload_n dX10_smallest_23 rfl ?_
        refine r_statE (c_X10_bits (nI x)) lk_X10_448 mc_X10_bits dX10_smallest_24 (by decide) rfl rfl (Nat.le_of_ble_eq_true rfl) ?_
        rw [p21_8 x (by omega)]
        refine r_icmp_lt (tgt := 33) dX10_smallest_27 (by decide) (fun _ => ?_) (fun hz => absurd (show _ from (by rw [nI_ltI (by omega) (by omega)]; omega)) hz)
        refine r_iconst (v := nI 1) dX10_smallest_33 (by decide) ?_
        refine r_istore dX10_smallest_34 (by decide) ?_
        refine r_iconst (v := nI 0) dX10_smallest_36 (by decide) ?_
        refine r_istore dX10_smallest_37 (by decide) ?_
        refine si_loop m c H nm one _ s act hS hact c 0 _ (by omega) (fun z5 z6 => ?_)
        by_cases q : ((List.range' 0 c).all fun i => !act i || apB nm c H s i) = true
        · rw [if_pos (by rw [Bool.and_eq_true]; exact ⟨hb, q⟩)] at ih
          rw [q]
          refine r_iload dX10_smallest_119 rfl ?_
          refine r_if_eq (tgt := 126) dX10_smallest_121 (by decide) (fun hz => absurd hz (show ¬ _ from (by decide))) (fun _ => ?_)
          refine r_iload_n dX10_smallest_124 rfl ?_
          refine r_istore_n dX10_smallest_125 (by decide) ?_
          refine r_iinc (v := nI (s + 1)) dX10_smallest_126 rfl (nI_inc s) ?_
          refine r_goto (tgt := 4) dX10_smallest_129 (by decide) ?_
          exact ih _ _ _
        · rw [if_neg (by rw [Bool.and_eq_true]; exact fun z => q z.2)] at ih
          have q : ((List.range' 0 c).all fun i => !act i || apB nm c H s i) = false := by cases hx : ((List.range' 0 c).all fun i => !act i || apB nm c H s i); rfl; exact absurd hx q
          rw [q]
          refine r_iload dX10_smallest_119 rfl ?_
          refine r_if_eq (tgt := 126) dX10_smallest_121 (by decide) (fun _ => ?_) (fun hz => absurd (show _ from (by decide)) hz)
          refine r_iinc (v := nI (s + 1)) dX10_smallest_126 rfl (nI_inc s) ?_
          refine r_goto (tgt := 4) dX10_smallest_129 (by decide) ?_
          exact ih _ _ _
      · have hb : btr (some x) s = false := decide_eq_false hl
        rw [if_neg (by rw [hb, Bool.false_and]; decide)] at ih
        refine r_iload_n dX10_smallest_4 rfl ?_
        refine r_iconst (v := nI 1) dX10_smallest_5 (by decide) ?_
        refine r_aload_n dX10_smallest_6 rfl ?_
        refine r_getI dX10_smallest_7 fl_X10_350 rfl (kM_0 hM) ?_
        rw [hI1]
        refine r_ishl dX10_smallest_10 ?_
        rw [sh1_8 H hH]
        refine r_icmp_ge (tgt := 132) dX10_smallest_11 (by decide) (fun hz => absurd hz (show ¬ _ from (by rw [nI_leI (by omega) (by omega)]; omega))) (fun _ => ?_)
        refine r_iload_n dX10_smallest_14 rfl ?_
        refine r_iconst (v := (-1)) dX10_smallest_15 (by decide) ?_
        refine r_icmp_eq (tgt := 33) dX10_smallest_16 (by decide) (fun hz => absurd hz (show ¬ _ from (nI_m1 (by omega)))) (fun _ => ?_)
        refine r_iload_n dX10_smallest_19 rfl ?_
        refine r_statE (c_X10_bits (nI s)) lk_X10_448 mc_X10_bits dX10_smallest_20 (by decide) rfl rfl (Nat.le_of_ble_eq_true rfl) ?_
        rw [p21_8 s (by omega)]
        refine r_iload_n dX10_smallest_23 rfl ?_
        refine r_statE (c_X10_bits (nI x)) lk_X10_448 mc_X10_bits dX10_smallest_24 (by decide) rfl rfl (Nat.le_of_ble_eq_true rfl) ?_
        rw [p21_8 x (by omega)]
        refine r_icmp_lt (tgt := 33) dX10_smallest_27 (by decide) (fun hz => absurd hz (show ¬ _ from (by rw [nI_ltI (by omega) (by omega)]; omega))) (fun _ => ?_)
        refine r_goto (tgt := 126) dX10_smallest_30 (by decide) ?_
        refine r_iinc (v := nI (s + 1)) dX10_smallest_126 rfl (nI_inc s) ?_
        refine r_goto (tgt := 4) dX10_smallest_129 (by decide) ?_
        exact ih _ _ _

set_option maxHeartbeats 4000000 in
set_option maxRecDepth 100000 in
theorem c_smallest (m c H : Nat) (nm : Nat → Nat → Nat) (one : Int32) (act : Nat → Bool) {n : Nat} {kd : mK} {I : mI} {J : mJ} {P : mP} (hS : rgS kd I P m c H nm) (hact : ∀ i, i < c → ((one = -1 ∨ nI i = one) ↔ act i = true)) : Ct yX10_smallest cX10_smallest 7 (some .int) 3 0 0 [.ref m, .int one] n kd I J P (am_is (some (.int (oI (smC (fun D => (List.range' 0 c).all fun i => !act i || apB nm c H D i) (2 ^ H) (H + 1) 0)))) n kd I J P) := by
  have hl := ss_loop (n := n) (J := J) m c H nm one act hS hact (2 ^ H) 0 none none none none (by omega) (fun _ h => nomatch h)
  rw [sm_eq hS.2.2.2.2.2] at hl
  refine ct_of 5 (by decide +kernel) (Nat.le_of_ble_eq_true rfl) rfl ?_
  refine r_iconst (v := (-1)) dX10_smallest_0 (by decide) ?_
  refine r_istore_n dX10_smallest_1 (by decide) ?_
  refine r_iconst (v := nI 0) dX10_smallest_2 (by decide) ?_
  refine r_istore_n dX10_smallest_3 (by decide) ?_
  exact hl

theorem all_act {nm : Nat → Nat → Nat} {c H : Nat} : (fun D => (List.range' 0 c).all fun i => !(fun _ => true) i || apB nm c H D i) = fun D => allB nm c H D := by
  funext D
  unfold allB
  simp
theorem one_act {nm : Nat → Nat → Nat} {c H i : Nat} (hi : i < c) : (fun D => (List.range' 0 c).all fun j => !(fun j => decide (j = i)) j || apB nm c H D j) = fun D => apB nm c H D i := by
  funext D
  apply b_iff
  rw [List.all_eq_true]
  constructor
  · intro h
    have := h i (List.mem_range'_1.mpr (by omega))
    simpa using this
  · intro h j _
    by_cases q : j = i
    · rw [q, h]; simp
    · simp [q]
theorem dX10_doors_0 : decode cX10_doors 0 = .ok (.aload_n 0, 1) := by decide +kernel
theorem dX10_doors_1 : decode cX10_doors 1 = .ok (.iconst 0, 1) := by decide +kernel
theorem dX10_doors_2 : decode cX10_doors 2 = .ok (.putfield 193, 3) := by decide +kernel
theorem dX10_doors_5 : decode cX10_doors 5 = .ok (.aload_n 0, 1) := by decide +kernel
theorem dX10_doors_6 : decode cX10_doors 6 = .ok (.invokevirtual 462, 3) := by decide +kernel
theorem dX10_doors_9 : decode cX10_doors 9 = .ok (.ifCond .eq 11, 3) := by decide +kernel
theorem dX10_doors_12 : decode cX10_doors 12 = .ok (.aload_n 0, 1) := by decide +kernel
theorem dX10_doors_13 : decode cX10_doors 13 = .ok (.iconst (-1), 1) := by decide +kernel
theorem dX10_doors_14 : decode cX10_doors 14 = .ok (.invokevirtual 468, 3) := by decide +kernel
theorem dX10_doors_17 : decode cX10_doors 17 = .ok (.goto 5, 3) := by decide +kernel
theorem dX10_doors_20 : decode cX10_doors 20 = .ok (.bipush (-2), 2) := by decide +kernel
theorem dX10_doors_22 : decode cX10_doors 22 = .ok (.ireturn, 1) := by decide +kernel

set_option maxHeartbeats 4000000 in
set_option maxRecDepth 100000 in
theorem q_doors_sp (m : Nat) {t : Nat} {T : Nat → Nat} {fp : Int32} {rr : Nat → Int32} {H M : Nat} {un : Bool} {cs : Nat → List Nat} {tx : Nat → List Int32} {e : Lf} {im : Option Lf} {wk : Option (List Nat)} {n : Nat} {kd : mK} {I : mI} {J : mJ} {P : mP} (hC : RR m kd I P t T fp rr H M un cs tx e im wk) (hz : okZ t T H M cs e) (hw : fwB (zN H M un cs e) = false) : Ct yX10_doors cX10_doors 1 (some .int) 10 0 0 [.ref m] n kd I J P (pQ m n kd I J P (some (.int (-2))) 0 (RX m t T fp rr H M un cs tx e im wk)) := by
  refine ct_of 0 (by decide +kernel) (Nat.le_of_ble_eq_true rfl) rfl ?_
  refine r_aload_n dX10_doors_0 rfl ?_
  refine r_iconst (v := nI 0) dX10_doors_1 (by decide) ?_
  refine r_putI dX10_doors_2 fl_X10_193 rfl rfl (kM_0 hC.1) ?_
  refine q_th hC (fun I hC h0 => ?_)
  have hC0 := hC
  have hz0 := hz
  obtain ⟨hM, hT, hSt, hLf, hIm, hWk⟩ := hC
  obtain ⟨okt, oks, okl⟩ := hz
  have hH8 : H ≤ 8 := oks.2.1
  have hM20 : 2 ≤ M ∧ M ≤ 20 := oks.1
  have hH : I m 1 = nI H := hSt.1.1
  have hMo : I m 2 = nI M := hSt.1.2.1
  refine r_aload_n dX10_doors_5 rfl ?_
  refine r_virt (kc2 := 0) (ks2 := 0) (q_isFew m hC0 hz0) lk_X10_462 mc_X10_isFew dX10_doors_6 (kM_0 hM) (by decide) rfl rfl (Nat.le_of_ble_eq_true rfl) (by decide) (by decide) (fun _ _ _ _ _ _ h => nomatch h.1) ?_
  rintro v1 n1 kd1 I1 J1 P1 ⟨h00, rfl, rfl, rfl, hF, hfd⟩
  cases h00
  simp only [Option.toList, List.nil_append, List.cons_append]
  rw [hw]
  refine r_if_eq (tgt := 20) dX10_doors_9 (by decide) (fun _ => ?_) (fun hz => absurd (show _ from (by decide)) hz)
  refine r_bipush (v := -2) dX10_doors_20 (by decide) ?_
  refine r_iret rfl dX10_doors_22 ?_
  exact pQ.lk rfl h0 hF hC0

set_option maxHeartbeats 4000000 in
set_option maxRecDepth 100000 in
theorem q_doors (m : Nat) {t : Nat} {T : Nat → Nat} {fp : Int32} {rr : Nat → Int32} {H M : Nat} {un : Bool} {cs : Nat → List Nat} {tx : Nat → List Int32} {e : Lf} {im : Option Lf} {wk : Option (List Nat)} {n : Nat} {kd : mK} {I : mI} {J : mJ} {P : mP} (hC : RR m kd I P t T fp rr H M un cs tx e im wk) (hz : okZ t T H M cs e) (hw : fwB (zN H M un cs e) = true) : Ct yX10_doors cX10_doors 1 (some .int) 10 0 0 [.ref m] n kd I J P (pQ m n kd I J P (some (.int (oI (smC (fun D => allB (nmF (fsN H M un cs e)) (fsN H M un cs e).length H D) (2 ^ H) (H + 1) 0)))) 0 (RX m t T fp rr H M un cs tx e im wk)) := by
  refine ct_of 0 (by decide +kernel) (Nat.le_of_ble_eq_true rfl) rfl ?_
  refine r_aload_n dX10_doors_0 rfl ?_
  refine r_iconst (v := nI 0) dX10_doors_1 (by decide) ?_
  refine r_putI dX10_doors_2 fl_X10_193 rfl rfl (kM_0 hC.1) ?_
  refine q_th hC (fun I hC h0 => ?_)
  have hC0 := hC
  have hz0 := hz
  obtain ⟨hM, hT, hSt, hLf, hIm, hWk⟩ := hC
  obtain ⟨okt, oks, okl⟩ := hz
  have hH8 : H ≤ 8 := oks.2.1
  have hM20 : 2 ≤ M ∧ M ≤ 20 := oks.1
  have hH : I m 1 = nI H := hSt.1.1
  have hMo : I m 2 = nI M := hSt.1.2.1
  refine r_aload_n dX10_doors_5 rfl ?_
  refine r_virt (kc2 := 0) (ks2 := 0) (q_isFew m hC0 hz0) lk_X10_462 mc_X10_isFew dX10_doors_6 (kM_0 hM) (by decide) rfl rfl (Nat.le_of_ble_eq_true rfl) (by decide) (by decide) (fun _ _ _ _ _ _ h => nomatch h.1) ?_
  rintro v1 n1 kd1 I1 J1 P1 ⟨h00, rfl, rfl, rfl, hF, hfd⟩
  cases h00
  simp only [Option.toList, List.nil_append, List.cons_append]
  rw [hw]
  obtain ⟨h52, h27, -⟩ := hfd hw
  have hrg : fDif H (fsN H M un cs e) ∧ fRng H M (fsN H M un cs e) := zR_rng hH8 hM20.2
  have hSr : rgS kd1 I1 P1 m (fsN H M un cs e).length H (nmF (fsN H M un cs e)) := ⟨hM, by rw [hF.2.1 1 (by decide) (by decide)]; exact hH, h52, fun i h hi hh => ⟨h27 i h hi hh, by have := (nmF_rng hrg.2 i h hi hh).2; omega⟩, (fw_gd.mp hw).2, hH8⟩
  refine r_if_eq (tgt := 20) dX10_doors_9 (by decide) (fun hz => absurd hz (show ¬ _ from (by decide))) (fun _ => ?_)
  refine r_aload_n dX10_doors_12 rfl ?_
  refine r_iconst (v := (-1)) dX10_doors_13 (by decide) ?_
  have hsm := c_smallest (n := n1) (J := J1) m (fsN H M un cs e).length H (nmF (fsN H M un cs e)) (-1) (fun _ => true) hSr (fun _ _ => ⟨fun _ => rfl, fun _ => Or.inl rfl⟩)
  rw [all_act] at hsm
  refine r_virtE hsm lk_X10_468 mc_X10_smallest dX10_doors_14 (kM_0 hM) (by decide) rfl rfl (Nat.le_of_ble_eq_true rfl) ?_
  refine r_goto (tgt := 22) dX10_doors_17 (by decide) ?_
  refine r_iret rfl dX10_doors_22 ?_
  exact pQ.lk rfl h0 hF hC0

theorem dX10_hints_0 : decode cX10_hints 0 = .ok (.aload_n 0, 1) := by decide +kernel
theorem dX10_hints_1 : decode cX10_hints 1 = .ok (.iconst 0, 1) := by decide +kernel
theorem dX10_hints_2 : decode cX10_hints 2 = .ok (.putfield 193, 3) := by decide +kernel
theorem dX10_hints_5 : decode cX10_hints 5 = .ok (.aload_n 0, 1) := by decide +kernel
theorem dX10_hints_6 : decode cX10_hints 6 = .ok (.invokevirtual 462, 3) := by decide +kernel
theorem dX10_hints_9 : decode cX10_hints 9 = .ok (.ifCond .ne 6, 3) := by decide +kernel
theorem dX10_hints_12 : decode cX10_hints 12 = .ok (.bipush (-2), 2) := by decide +kernel
theorem dX10_hints_14 : decode cX10_hints 14 = .ok (.ireturn, 1) := by decide +kernel
theorem dX10_hints_15 : decode cX10_hints 15 = .ok (.aload_n 0, 1) := by decide +kernel
theorem dX10_hints_16 : decode cX10_hints 16 = .ok (.iload_n 1, 1) := by decide +kernel
theorem dX10_hints_17 : decode cX10_hints 17 = .ok (.ifCond .lt 15, 3) := by decide +kernel
theorem dX10_hints_20 : decode cX10_hints 20 = .ok (.iload_n 1, 1) := by decide +kernel
theorem dX10_hints_21 : decode cX10_hints 21 = .ok (.aload_n 0, 1) := by decide +kernel
theorem dX10_hints_22 : decode cX10_hints 22 = .ok (.getfield 413, 3) := by decide +kernel
theorem dX10_hints_25 : decode cX10_hints 25 = .ok (.if_icmp .ge 7, 3) := by decide +kernel
theorem dX10_hints_28 : decode cX10_hints 28 = .ok (.iconst 1, 1) := by decide +kernel
theorem dX10_hints_29 : decode cX10_hints 29 = .ok (.goto 4, 3) := by decide +kernel
theorem dX10_hints_32 : decode cX10_hints 32 = .ok (.iconst 0, 1) := by decide +kernel
theorem dX10_hints_33 : decode cX10_hints 33 = .ok (.iconst 1, 1) := by decide +kernel
theorem dX10_hints_34 : decode cX10_hints 34 = .ok (.invokevirtual 343, 3) := by decide +kernel
theorem dX10_hints_37 : decode cX10_hints 37 = .ok (.ifCond .eq 11, 3) := by decide +kernel
theorem dX10_hints_40 : decode cX10_hints 40 = .ok (.aload_n 0, 1) := by decide +kernel
theorem dX10_hints_41 : decode cX10_hints 41 = .ok (.iload_n 1, 1) := by decide +kernel
theorem dX10_hints_42 : decode cX10_hints 42 = .ok (.invokevirtual 468, 3) := by decide +kernel
theorem dX10_hints_45 : decode cX10_hints 45 = .ok (.goto 4, 3) := by decide +kernel
theorem dX10_hints_48 : decode cX10_hints 48 = .ok (.iconst 0, 1) := by decide +kernel
theorem dX10_hints_49 : decode cX10_hints 49 = .ok (.ireturn, 1) := by decide +kernel

set_option maxHeartbeats 4000000 in
set_option maxRecDepth 100000 in
theorem q_hints_sp (m : Nat) (y : Int32) {t : Nat} {T : Nat → Nat} {fp : Int32} {rr : Nat → Int32} {H M : Nat} {un : Bool} {cs : Nat → List Nat} {tx : Nat → List Int32} {e : Lf} {im : Option Lf} {wk : Option (List Nat)} {n : Nat} {kd : mK} {I : mI} {J : mJ} {P : mP} (hC : RR m kd I P t T fp rr H M un cs tx e im wk) (hz : okZ t T H M cs e) (hw : fwB (zN H M un cs e) = false) : Ct yX10_hints cX10_hints 2 (some .int) 10 0 0 [.ref m, .int y] n kd I J P (pQ m n kd I J P (some (.int (-2))) 0 (RX m t T fp rr H M un cs tx e im wk)) := by
  refine ct_of 0 (by decide +kernel) (Nat.le_of_ble_eq_true rfl) rfl ?_
  refine r_aload_n dX10_hints_0 rfl ?_
  refine r_iconst (v := nI 0) dX10_hints_1 (by decide) ?_
  refine r_putI dX10_hints_2 fl_X10_193 rfl rfl (kM_0 hC.1) ?_
  refine q_th hC (fun I hC h0 => ?_)
  have hC0 := hC
  have hz0 := hz
  obtain ⟨hM, hT, hSt, hLf, hIm, hWk⟩ := hC
  obtain ⟨okt, oks, okl⟩ := hz
  have hH8 : H ≤ 8 := oks.2.1
  have hM20 : 2 ≤ M ∧ M ≤ 20 := oks.1
  have hH : I m 1 = nI H := hSt.1.1
  have hMo : I m 2 = nI M := hSt.1.2.1
  refine r_aload_n dX10_hints_5 rfl ?_
  refine r_virt (kc2 := 0) (ks2 := 0) (q_isFew m hC0 hz0) lk_X10_462 mc_X10_isFew dX10_hints_6 (kM_0 hM) (by decide) rfl rfl (Nat.le_of_ble_eq_true rfl) (by decide) (by decide) (fun _ _ _ _ _ _ h => nomatch h.1) ?_
  rintro v1 n1 kd1 I1 J1 P1 ⟨h00, rfl, rfl, rfl, hF, hfd⟩
  cases h00
  simp only [Option.toList, List.nil_append, List.cons_append]
  rw [hw]
  refine r_if_ne (tgt := 15) dX10_hints_9 (by decide) (fun hz => absurd (show _ from rfl) hz) (fun _ => ?_)
  refine r_bipush (v := -2) dX10_hints_12 (by decide) ?_
  refine r_iret rfl dX10_hints_14 ?_
  exact pQ.lk rfl h0 hF hC0

set_option maxHeartbeats 4000000 in
set_option maxRecDepth 100000 in
theorem q_hints_no (m : Nat) (y : Int32) {t : Nat} {T : Nat → Nat} {fp : Int32} {rr : Nat → Int32} {H M : Nat} {un : Bool} {cs : Nat → List Nat} {tx : Nat → List Int32} {e : Lf} {im : Option Lf} {wk : Option (List Nat)} {n : Nat} {kd : mK} {I : mI} {J : mJ} {P : mP} (hC : RR m kd I P t T fp rr H M un cs tx e im wk) (hz : okZ t T H M cs e) (hw : fwB (zN H M un cs e) = true) (hy : ¬ (¬ y < 0 ∧ y < nI (fsN H M un cs e).length)) : Ct yX10_hints cX10_hints 2 (some .int) 10 0 0 [.ref m, .int y] n kd I J P (pQ m n kd I J P (some (.int (nI 0))) 1 (RX m t T fp rr H M un cs tx e im wk)) := by
  refine ct_of 0 (by decide +kernel) (Nat.le_of_ble_eq_true rfl) rfl ?_
  refine r_aload_n dX10_hints_0 rfl ?_
  refine r_iconst (v := nI 0) dX10_hints_1 (by decide) ?_
  refine r_putI dX10_hints_2 fl_X10_193 rfl rfl (kM_0 hC.1) ?_
  refine q_th hC (fun I hC h0 => ?_)
  have hC0 := hC
  have hz0 := hz
  obtain ⟨hM, hT, hSt, hLf, hIm, hWk⟩ := hC
  obtain ⟨okt, oks, okl⟩ := hz
  have hH8 : H ≤ 8 := oks.2.1
  have hM20 : 2 ≤ M ∧ M ≤ 20 := oks.1
  have hH : I m 1 = nI H := hSt.1.1
  have hMo : I m 2 = nI M := hSt.1.2.1
  by_cases c : y < 0
  · skip
    refine r_aload_n dX10_hints_5 rfl ?_
    refine r_virt (kc2 := 0) (ks2 := 0) (q_isFew m hC0 hz0) lk_X10_462 mc_X10_isFew dX10_hints_6 (kM_0 hM) (by decide) rfl rfl (Nat.le_of_ble_eq_true rfl) (by decide) (by decide) (fun _ _ _ _ _ _ h => nomatch h.1) ?_
    rintro v1 n1 kd1 I1 J1 P1 ⟨h00, rfl, rfl, rfl, hF, hfd⟩
    cases h00
    simp only [Option.toList, List.nil_append, List.cons_append]
    rw [hw]
    obtain ⟨h52, h27, -⟩ := hfd hw
    have hrg : fDif H (fsN H M un cs e) ∧ fRng H M (fsN H M un cs e) := zR_rng hH8 hM20.2
    have hSr : rgS kd1 I1 P1 m (fsN H M un cs e).length H (nmF (fsN H M un cs e)) := ⟨hM, by rw [hF.2.1 1 (by decide) (by decide)]; exact hH, h52, fun i h hi hh => ⟨h27 i h hi hh, by have := (nmF_rng hrg.2 i h hi hh).2; omega⟩, (fw_gd.mp hw).2, hH8⟩
    have h01 : I1 m 0 = 0 := by rw [hF.2.1 0 (by decide) (by decide)]; exact h0
    refine r_if_ne (tgt := 15) dX10_hints_9 (by decide) (fun _ => ?_) (fun hz => absurd hz (show ¬ _ from (by decide)))
    refine r_aload_n dX10_hints_15 rfl ?_
    refine r_iload_n dX10_hints_16 rfl ?_
    refine r_if_lt (tgt := 32) dX10_hints_17 (by decide) (fun _ => ?_) (fun hz => absurd (show _ from c) hz)
    refine r_iconst (v := nI 0) dX10_hints_32 (by decide) ?_
    refine r_iconst (v := nI 1) dX10_hints_33 (by decide) ?_
    refine r_virtE (c_X10_right m false (nI 1) hM h01 (by decide)) lk_X10_343 mc_X10_right dX10_hints_34 (kM_0 hM) (by decide) rfl rfl (Nat.le_of_ble_eq_true rfl) ?_
    refine r_if_eq (tgt := 48) dX10_hints_37 (by decide) (fun _ => ?_) (fun hz => absurd (show _ from rfl) hz)
    refine r_iconst (v := nI 0) dX10_hints_48 (by decide) ?_
    refine r_iret rfl dX10_hints_49 ?_
    obtain ⟨p1, p2, p3, p4, p5, p6, p7⟩ := pQ.th (n := n1) (J := J1) (v := some (.int (nI 0))) (k := 1) (hC0.lk hF) am_is.mk
    exact ⟨p1, p2, p3, p4, fun a ha => ⟨(p5 a ha).1.trans (hF.1 a (by omega) (by omega) (by omega) (by omega) (by omega) (by omega)), (p5 a ha).2.trans (hF.2.2 a (by omega) (by omega))⟩, p6, p7⟩
  · have h2 : ¬ y < nI (fsN H M un cs e).length := fun q => hy ⟨c, q⟩
    refine r_aload_n dX10_hints_5 rfl ?_
    refine r_virt (kc2 := 0) (ks2 := 0) (q_isFew m hC0 hz0) lk_X10_462 mc_X10_isFew dX10_hints_6 (kM_0 hM) (by decide) rfl rfl (Nat.le_of_ble_eq_true rfl) (by decide) (by decide) (fun _ _ _ _ _ _ h => nomatch h.1) ?_
    rintro v1 n1 kd1 I1 J1 P1 ⟨h00, rfl, rfl, rfl, hF, hfd⟩
    cases h00
    simp only [Option.toList, List.nil_append, List.cons_append]
    rw [hw]
    obtain ⟨h52, h27, -⟩ := hfd hw
    have hrg : fDif H (fsN H M un cs e) ∧ fRng H M (fsN H M un cs e) := zR_rng hH8 hM20.2
    have hSr : rgS kd1 I1 P1 m (fsN H M un cs e).length H (nmF (fsN H M un cs e)) := ⟨hM, by rw [hF.2.1 1 (by decide) (by decide)]; exact hH, h52, fun i h hi hh => ⟨h27 i h hi hh, by have := (nmF_rng hrg.2 i h hi hh).2; omega⟩, (fw_gd.mp hw).2, hH8⟩
    have h01 : I1 m 0 = 0 := by rw [hF.2.1 0 (by decide) (by decide)]; exact h0
    refine r_if_ne (tgt := 15) dX10_hints_9 (by decide) (fun _ => ?_) (fun hz => absurd hz (show ¬ _ from (by decide)))
    refine r_aload_n dX10_hints_15 rfl ?_
    refine r_iload_n dX10_hints_16 rfl ?_
    refine r_if_lt (tgt := 32) dX10_hints_17 (by decide) (fun hz => absurd hz (show ¬ _ from c)) (fun _ => ?_)
    refine r_iload_n dX10_hints_20 rfl ?_
    refine r_aload_n dX10_hints_21 rfl ?_
    refine r_getI dX10_hints_22 fl_X10_413 rfl (kM_0 hM) ?_
    rw [h52]
    refine r_icmp_ge (tgt := 32) dX10_hints_25 (by decide) (fun _ => ?_) (fun hz => absurd (show _ from (Int32.not_lt.mp h2)) hz)
    refine r_iconst (v := nI 0) dX10_hints_32 (by decide) ?_
    refine r_iconst (v := nI 1) dX10_hints_33 (by decide) ?_
    refine r_virtE (c_X10_right m false (nI 1) hM h01 (by decide)) lk_X10_343 mc_X10_right dX10_hints_34 (kM_0 hM) (by decide) rfl rfl (Nat.le_of_ble_eq_true rfl) ?_
    refine r_if_eq (tgt := 48) dX10_hints_37 (by decide) (fun _ => ?_) (fun hz => absurd (show _ from rfl) hz)
    refine r_iconst (v := nI 0) dX10_hints_48 (by decide) ?_
    refine r_iret rfl dX10_hints_49 ?_
    obtain ⟨p1, p2, p3, p4, p5, p6, p7⟩ := pQ.th (n := n1) (J := J1) (v := some (.int (nI 0))) (k := 1) (hC0.lk hF) am_is.mk
    exact ⟨p1, p2, p3, p4, fun a ha => ⟨(p5 a ha).1.trans (hF.1 a (by omega) (by omega) (by omega) (by omega) (by omega) (by omega)), (p5 a ha).2.trans (hF.2.2 a (by omega) (by omega))⟩, p6, p7⟩

set_option maxHeartbeats 4000000 in
set_option maxRecDepth 100000 in
theorem q_hints (m : Nat) (i : Nat) {t : Nat} {T : Nat → Nat} {fp : Int32} {rr : Nat → Int32} {H M : Nat} {un : Bool} {cs : Nat → List Nat} {tx : Nat → List Int32} {e : Lf} {im : Option Lf} {wk : Option (List Nat)} {n : Nat} {kd : mK} {I : mI} {J : mJ} {P : mP} (hC : RR m kd I P t T fp rr H M un cs tx e im wk) (hz : okZ t T H M cs e) (hw : fwB (zN H M un cs e) = true) (hi : i < (fsN H M un cs e).length) : Ct yX10_hints cX10_hints 2 (some .int) 10 0 0 [.ref m, .int (nI i)] n kd I J P (pQ m n kd I J P (some (.int (oI (smC (fun D => apB (nmF (fsN H M un cs e)) (fsN H M un cs e).length H D i) (2 ^ H) (H + 1) 0)))) 0 (RX m t T fp rr H M un cs tx e im wk)) := by
  refine ct_of 0 (by decide +kernel) (Nat.le_of_ble_eq_true rfl) rfl ?_
  refine r_aload_n dX10_hints_0 rfl ?_
  refine r_iconst (v := nI 0) dX10_hints_1 (by decide) ?_
  refine r_putI dX10_hints_2 fl_X10_193 rfl rfl (kM_0 hC.1) ?_
  refine q_th hC (fun I hC h0 => ?_)
  have hC0 := hC
  have hz0 := hz
  obtain ⟨hM, hT, hSt, hLf, hIm, hWk⟩ := hC
  obtain ⟨okt, oks, okl⟩ := hz
  have hH8 : H ≤ 8 := oks.2.1
  have hM20 : 2 ≤ M ∧ M ≤ 20 := oks.1
  have hH : I m 1 = nI H := hSt.1.1
  have hMo : I m 2 = nI M := hSt.1.2.1
  have h40 := (fw_gd.mp hw).2
  refine r_aload_n dX10_hints_5 rfl ?_
  refine r_virt (kc2 := 0) (ks2 := 0) (q_isFew m hC0 hz0) lk_X10_462 mc_X10_isFew dX10_hints_6 (kM_0 hM) (by decide) rfl rfl (Nat.le_of_ble_eq_true rfl) (by decide) (by decide) (fun _ _ _ _ _ _ h => nomatch h.1) ?_
  rintro v1 n1 kd1 I1 J1 P1 ⟨h00, rfl, rfl, rfl, hF, hfd⟩
  cases h00
  simp only [Option.toList, List.nil_append, List.cons_append]
  rw [hw]
  obtain ⟨h52, h27, -⟩ := hfd hw
  have hrg : fDif H (fsN H M un cs e) ∧ fRng H M (fsN H M un cs e) := zR_rng hH8 hM20.2
  have hSr : rgS kd1 I1 P1 m (fsN H M un cs e).length H (nmF (fsN H M un cs e)) := ⟨hM, by rw [hF.2.1 1 (by decide) (by decide)]; exact hH, h52, fun i h hi hh => ⟨h27 i h hi hh, by have := (nmF_rng hrg.2 i h hi hh).2; omega⟩, (fw_gd.mp hw).2, hH8⟩
  have h01 : I1 m 0 = 0 := by rw [hF.2.1 0 (by decide) (by decide)]; exact h0
  refine r_if_ne (tgt := 15) dX10_hints_9 (by decide) (fun _ => ?_) (fun hz => absurd hz (show ¬ _ from (by decide)))
  refine r_aload_n dX10_hints_15 rfl ?_
  refine r_iload_n dX10_hints_16 rfl ?_
  refine r_if_lt (tgt := 32) dX10_hints_17 (by decide) (fun hz => absurd hz (show ¬ _ from (z_nlt (by omega)))) (fun _ => ?_)
  refine r_iload_n dX10_hints_20 rfl ?_
  refine r_aload_n dX10_hints_21 rfl ?_
  refine r_getI dX10_hints_22 fl_X10_413 rfl (kM_0 hM) ?_
  rw [h52]
  refine r_icmp_ge (tgt := 32) dX10_hints_25 (by decide) (fun hz => absurd hz (show ¬ _ from (by rw [nI_leI (by omega) (by omega)]; omega))) (fun _ => ?_)
  refine r_iconst (v := nI 1) dX10_hints_28 (by decide) ?_
  refine r_goto (tgt := 33) dX10_hints_29 (by decide) ?_
  refine r_iconst (v := nI 1) dX10_hints_33 (by decide) ?_
  refine r_virtE (c_X10_right m true (nI 1) hM h01 (by decide)) lk_X10_343 mc_X10_right dX10_hints_34 (kM_0 hM) (by decide) rfl rfl (Nat.le_of_ble_eq_true rfl) ?_
  rw [thM_ok]
  refine r_if_eq (tgt := 48) dX10_hints_37 (by decide) (fun hz => absurd hz (show ¬ _ from (by decide))) (fun _ => ?_)
  refine r_aload_n dX10_hints_40 rfl ?_
  refine r_iload_n dX10_hints_41 rfl ?_
  have hsm := c_smallest (n := n1) (J := J1) m (fsN H M un cs e).length H (nmF (fsN H M un cs e)) (nI i) (fun j => decide (j = i)) hSr (fun j hj => ⟨fun z => decide_eq_true (z.elim (fun q => absurd q (nI_m1 (by omega))) (fun q => (nI_eq (by omega) (by omega)).mp q)), fun z => Or.inr (by rw [of_decide_eq_true z])⟩)
  rw [one_act hi] at hsm
  refine r_virtE hsm lk_X10_468 mc_X10_smallest dX10_hints_42 (kM_0 hM) (by decide) rfl rfl (Nat.le_of_ble_eq_true rfl) ?_
  refine r_goto (tgt := 49) dX10_hints_45 (by decide) ?_
  refine r_iret rfl dX10_hints_49 ?_
  exact pQ.lk rfl h0 hF hC0

