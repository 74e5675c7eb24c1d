/-! WALKS: the class's public method, on any state -/
theorem hs_0 {y : Int32} {H : Nat} (h : y &&& (nI (2 ^ H - 1) ^^^ (-1)) = 0) : ∃ S, S < 2 ^ H ∧ y = nI S := by
  refine ⟨alB (bt y) H, alB_lt _ _, b_ext (fun i hi => ?_)⟩
  rw [bt_nI _ hi, alB_bit]
  have h2 : bt (y &&& (nI (2 ^ H - 1) ^^^ (-1))) i = bt (nI 0) i := by rw [h]; rfl
  rw [b_and, b_xor, b_m1 i hi, bt_nI _ hi, bt_nI _ hi, Nat.testBit_two_pow_sub_one, Nat.zero_testBit] at h2
  by_cases q : i < H
  · simp [q]
  · simp [q] at h2 ⊢
    exact h2
theorem hs_1 {S H : Nat} (hS : S < 2 ^ H) : nI S &&& (nI (2 ^ H - 1) ^^^ (-1)) = 0 := by
  show _ = nI 0
  refine b_ext (fun i hi => ?_)
  rw [b_and, b_xor, b_m1 i hi, bt_nI _ hi, bt_nI _ hi, bt_nI _ hi, Nat.testBit_two_pow_sub_one, Nat.zero_testBit]
  by_cases q : i < H
  · simp [q]
  · rw [Nat.testBit_lt_two_pow (Nat.lt_of_lt_of_le hS (Nat.pow_le_pow_right (by decide) (by omega)))]
    rfl
theorem all_8 : ∀ H, H ≤ 8 → (nI 1 <<< (nI H &&& 31)) - nI 1 = nI (2 ^ H - 1) := by decide +kernel
theorem CR.wk {o b s f l n t : Nat} {kd : mK} {I I1 : mI} {J : mJ} {P : mP} {T : Nat → Nat} {fp : Int32} {rr : Nat → Int32} {H M : Nat} {un : Bool} {cs : Nat → List Nat} {tx : Nat → List Int32} {e : Lf} {im : Option Lf} {wk : Option (List Nat)} {z : Nat} {L : List Nat} (hC : CR o b s f l n kd I J P t T fp rr H M un cs tx e im wk) (hz : o + 125 < z) (hI : ∀ a, a ≠ o + 58 → a ≠ o + 59 → a ≠ o + 60 → a ≠ z → I1 a = I a) (h5 : I1 (o + 58) 5 = nI L.length) (h6 : I1 (o + 58) 6 = nI 1) (hL : L.length ≤ 10) (hr : ∀ j, j < L.length → I1 (o + 60) j = nI (L.getD j 0)) : CR o b s f l n kd I1 J (va_up P (o + 58) (va_up (P (o + 58)) 3 (some z))) t T fp rr H M un cs tx e im (some L) := by
  obtain ⟨hX, hs, h1, h2, h3, h4, h5', h7, h8⟩ := hC
  have hat := hX.at
  have e : ∀ a, a ≤ o + 57 ∨ o + 61 ≤ a → a ≤ o + 68 → I1 a = I a := fun a x y => hI a (by omega) (by omega) (by omega) (by omega)
  refine ⟨kX.wk (fun a ha => am_up_n _ _ ha) (fun k hk => by rw [am_up_s, am_up_n _ _ hk]) hX, ?_, h1.cg (by rw [e o (by omega) (by omega)]) (by rw [e o (by omega) (by omega)]) (e _ (by omega) (by omega)) (e _ (by omega) (by omega)), h2.cg (fun a x y => e a (by omega) (by omega)), h3.cg (fun a x y => e a (by omega) (by omega)), h4.cg (by rw [e o (by omega) (by omega)]) (fun a x y => e a (by omega) (by omega)), ⟨h6, h5, hL, hr⟩, h7.cg (by rw [e o (by omega) (by omega)]) (e _ (by omega) (by omega)) (e _ (by omega) (by omega)) rfl, h8.cg (by rw [e o (by omega) (by omega)]) (e _ (by omega) (by omega)) (e _ (by omega) (by omega))⟩
  unfold scr2
  rw [am_up_n _ _ (by omega)]
  exact hs
set_option maxHeartbeats 4000000 in
set_option maxRecDepth 100000 in
theorem c_scr (k : Nat) {n : Nat} {kd : mK} {I : mI} {J : mJ} {P : mP} (hG : kG kd P k) (hz : P k 3 = none ∨ ∃ z, P k 3 = some z ∧ kd z = some (1, 10240) ∧ k ≠ z) (hn : n < 1000000) (hkn : k + 1 < n) : Ct yX3_scratchRow cX3_scratchRow 1 (some (.array .int)) 1 1 10240 [.ref k] n kd I J P (fun y n' kd' I' J' P' => ∃ z, y = .inl (some (.ref z)) ∧ P' k 3 = some z ∧ kd' z = some (1, 10240) ∧ flP n kd I J P k 0 (.inl (some (.int 0))) n' kd' I' J' P') := by
  refine ct_of 0 (by decide +kernel) (Nat.le_of_ble_eq_true rfl) rfl ?_
  rcases hz with h3 | ⟨z, h3, hz, hne⟩
  · have k0 : va_up kd n (some (1, 10240)) k = some (0, 3) := by rw [am_up_n _ _ (by omega)]; exact hG.1
    refine r_aload_n dX3_scratchRow_0 rfl ?_
    refine r_getN dX3_scratchRow_1 fl_X3_22 rfl hG.1 h3 ?_
    refine r_nonnullN dX3_scratchRow_4 ?_
    refine r_aload_n dX3_scratchRow_7 rfl ?_
    refine r_sipush (v := nI 10240) dX3_scratchRow_8 (by decide) ?_
    refine r_newInt (N := 10240) (kc2 := 0) (ks2 := 0) dX3_scratchRow_11 (by decide) (by decide) (by decide) hn (by decide) (by decide) ?_
    refine r_putR dX3_scratchRow_13 fl_X3_22 (Or.inl rfl) rfl k0 hn ?_
    refine r_aload_n dX3_scratchRow_16 rfl ?_
    refine r_getR (b := n) dX3_scratchRow_17 fl_X3_22 rfl k0 (by rw [am_up_s, am_up_s]) ?_
    refine r_aret rfl dX3_scratchRow_20 ?_
    exact ⟨n, rfl, by rw [am_up_s, am_up_s], by rw [am_up_s], rfl, ⟨by omega, by omega⟩, fun a ha => am_up_n _ _ (by omega), fun a ha _ => am_up_n _ _ (by omega), fun a ha => am_up_n _ _ (by omega), fun a _ hk => am_up_n _ _ hk, fun j hj => by rw [am_up_s, am_up_n _ _ hj], Or.inr ⟨n, by omega, by omega, by rw [am_up_s, am_up_s], by rw [am_up_s]⟩⟩
  · skip
    refine r_aload_n dX3_scratchRow_0 rfl ?_
    refine r_getR dX3_scratchRow_1 fl_X3_22 rfl hG.1 h3 ?_
    refine r_nonnull (tgt := 16) dX3_scratchRow_4 (by decide) ?_
    refine r_aload_n dX3_scratchRow_16 rfl ?_
    refine r_getR dX3_scratchRow_17 fl_X3_22 rfl hG.1 h3 ?_
    refine r_aret rfl dX3_scratchRow_20 ?_
    exact ⟨z, rfl, h3, hz, rfl, ⟨by omega, by omega⟩, fun _ _ => rfl, fun _ _ _ => rfl, fun _ _ => rfl, fun _ _ _ => rfl, fun _ _ => rfl, Or.inl rfl⟩

theorem dX9_walk_0 : decode cX9_walk 0 = .ok (.iload_n 1, 1) := by decide +kernel
theorem dX9_walk_1 : decode cX9_walk 1 = .ok (.aload_n 0, 1) := by decide +kernel
theorem dX9_walk_2 : decode cX9_walk 2 = .ok (.getfield 27, 3) := by decide +kernel
theorem dX9_walk_5 : decode cX9_walk 5 = .ok (.invokevirtual 318, 3) := by decide +kernel
theorem dX9_walk_8 : decode cX9_walk 8 = .ok (.iconst (-1), 1) := by decide +kernel
theorem dX9_walk_9 : decode cX9_walk 9 = .ok (.ixor, 1) := by decide +kernel
theorem dX9_walk_10 : decode cX9_walk 10 = .ok (.iand, 1) := by decide +kernel
theorem dX9_walk_11 : decode cX9_walk 11 = .ok (.ifCond .ne 13, 3) := by decide +kernel
theorem dX9_walk_14 : decode cX9_walk 14 = .ok (.iload_n 3, 1) := by decide +kernel
theorem dX9_walk_15 : decode cX9_walk 15 = .ok (.ifCond .lt 9, 3) := by decide +kernel
theorem dX9_walk_18 : decode cX9_walk 18 = .ok (.iload_n 3, 1) := by decide +kernel
theorem dX9_walk_19 : decode cX9_walk 19 = .ok (.bipush 9, 2) := by decide +kernel
theorem dX9_walk_21 : decode cX9_walk 21 = .ok (.if_icmp .le 11, 3) := by decide +kernel
theorem dX9_walk_24 : decode cX9_walk 24 = .ok (.new 110, 3) := by decide +kernel
theorem dX9_walk_27 : decode cX9_walk 27 = .ok (.dup, 1) := by decide +kernel
theorem dX9_walk_28 : decode cX9_walk 28 = .ok (.invokespecial 112, 3) := by decide +kernel
theorem dX9_walk_31 : decode cX9_walk 31 = .ok (.athrow, 1) := by decide +kernel
theorem dX9_walk_32 : decode cX9_walk 32 = .ok (.aload_n 0, 1) := by decide +kernel
theorem dX9_walk_33 : decode cX9_walk 33 = .ok (.iload_n 2, 1) := by decide +kernel
theorem dX9_walk_34 : decode cX9_walk 34 = .ok (.invokevirtual 235, 3) := by decide +kernel
theorem dX9_walk_37 : decode cX9_walk 37 = .ok (.aload_n 0, 1) := by decide +kernel
theorem dX9_walk_38 : decode cX9_walk 38 = .ok (.invokevirtual 183, 3) := by decide +kernel
theorem dX9_walk_41 : decode cX9_walk 41 = .ok (.aload_n 0, 1) := by decide +kernel
theorem dX9_walk_42 : decode cX9_walk 42 = .ok (.getfield 54, 3) := by decide +kernel
theorem dX9_walk_45 : decode cX9_walk 45 = .ok (.getfield 186, 3) := by decide +kernel
theorem dX9_walk_48 : decode cX9_walk 48 = .ok (.bipush (-2), 2) := by decide +kernel
theorem dX9_walk_50 : decode cX9_walk 50 = .ok (.if_icmp .ne 6, 3) := by decide +kernel
theorem dX9_walk_53 : decode cX9_walk 53 = .ok (.bipush (-2), 2) := by decide +kernel
theorem dX9_walk_55 : decode cX9_walk 55 = .ok (.ireturn, 1) := by decide +kernel
theorem dX9_walk_56 : decode cX9_walk 56 = .ok (.iconst 0, 1) := by decide +kernel
theorem dX9_walk_57 : decode cX9_walk 57 = .ok (.istore 4, 2) := by decide +kernel
theorem dX9_walk_59 : decode cX9_walk 59 = .ok (.iconst 0, 1) := by decide +kernel
theorem dX9_walk_60 : decode cX9_walk 60 = .ok (.istore 5, 2) := by decide +kernel
theorem dX9_walk_62 : decode cX9_walk 62 = .ok (.iload 5, 2) := by decide +kernel
theorem dX9_walk_64 : decode cX9_walk 64 = .ok (.aload_n 0, 1) := by decide +kernel
theorem dX9_walk_65 : decode cX9_walk 65 = .ok (.getfield 27, 3) := by decide +kernel
theorem dX9_walk_68 : decode cX9_walk 68 = .ok (.getfield 124, 3) := by decide +kernel
theorem dX9_walk_71 : decode cX9_walk 71 = .ok (.if_icmp .ge 33, 3) := by decide +kernel
theorem dX9_walk_74 : decode cX9_walk 74 = .ok (.iload_n 1, 1) := by decide +kernel
theorem dX9_walk_75 : decode cX9_walk 75 = .ok (.iload 5, 2) := by decide +kernel
theorem dX9_walk_77 : decode cX9_walk 77 = .ok (.ishr, 1) := by decide +kernel
theorem dX9_walk_78 : decode cX9_walk 78 = .ok (.iconst 1, 1) := by decide +kernel
theorem dX9_walk_79 : decode cX9_walk 79 = .ok (.iand, 1) := by decide +kernel
theorem dX9_walk_80 : decode cX9_walk 80 = .ok (.ifCond .eq 18, 3) := by decide +kernel
theorem dX9_walk_83 : decode cX9_walk 83 = .ok (.iload 4, 2) := by decide +kernel
theorem dX9_walk_85 : decode cX9_walk 85 = .ok (.aload_n 0, 1) := by decide +kernel
theorem dX9_walk_86 : decode cX9_walk 86 = .ok (.getfield 54, 3) := by decide +kernel
theorem dX9_walk_89 : decode cX9_walk 89 = .ok (.getfield 195, 3) := by decide +kernel
theorem dX9_walk_92 : decode cX9_walk 92 = .ok (.iload 5, 2) := by decide +kernel
theorem dX9_walk_94 : decode cX9_walk 94 = .ok (.iaload, 1) := by decide +kernel
theorem dX9_walk_95 : decode cX9_walk 95 = .ok (.ior, 1) := by decide +kernel
theorem dX9_walk_96 : decode cX9_walk 96 = .ok (.istore 4, 2) := by decide +kernel
theorem dX9_walk_98 : decode cX9_walk 98 = .ok (.iinc 5 1, 3) := by decide +kernel
theorem dX9_walk_101 : decode cX9_walk 101 = .ok (.goto (-39), 3) := by decide +kernel
theorem dX9_walk_104 : decode cX9_walk 104 = .ok (.aload_n 0, 1) := by decide +kernel
theorem dX9_walk_105 : decode cX9_walk 105 = .ok (.getfield 78, 3) := by decide +kernel
theorem dX9_walk_108 : decode cX9_walk 108 = .ok (.iload 4, 2) := by decide +kernel
theorem dX9_walk_110 : decode cX9_walk 110 = .ok (.iload_n 2, 1) := by decide +kernel
theorem dX9_walk_111 : decode cX9_walk 111 = .ok (.iload_n 3, 1) := by decide +kernel
theorem dX9_walk_112 : decode cX9_walk 112 = .ok (.aload_n 0, 1) := by decide +kernel
theorem dX9_walk_113 : decode cX9_walk 113 = .ok (.getfield 71, 3) := by decide +kernel
theorem dX9_walk_116 : decode cX9_walk 116 = .ok (.invokevirtual 321, 3) := by decide +kernel
theorem dX9_walk_119 : decode cX9_walk 119 = .ok (.invokevirtual 325, 3) := by decide +kernel
theorem dX9_walk_122 : decode cX9_walk 122 = .ok (.ireturn, 1) := by decide +kernel

set_option maxHeartbeats 4000000 in
set_option maxRecDepth 100000 in
theorem wk_lp (o b s f l S p cr : Nat) {post : am_Post} {t : Nat} {T : Nat → Nat} {fp : Int32} {rr : Nat → Int32} {H M : Nat} {un : Bool} {cs : Nat → List Nat} {tx : Nat → List Int32} {e : Lf} {im : Option Lf} {wk : Option (List Nat)} {n : Nat} {kd : mK} {I : mI} {J : mJ} {P : mP} (hC : CR o b s f l n kd I J P t T fp rr H M un cs tx e im wk) (hz : okZ t T H M cs e) (h11 : I o 11 = nI 1) {kc ks : Nat} (hK : Ru yX9_walk.cls cX9_walk 6 (some .int) yX9_walk.name 10 (post) kc ks 104 [some (.ref o), some (.int (nI S)), some (.int (nI p)), some (.int (nI cr)), some (.int (nI (woN (fsN H M un cs e) S H))), some (.int (nI H))] [] n kd I J P) : ∀ (cnt h : Nat), h + cnt = H → Ru yX9_walk.cls cX9_walk 6 (some .int) yX9_walk.name 10 (post) kc ks 62 [some (.ref o), some (.int (nI S)), some (.int (nI p)), some (.int (nI cr)), some (.int (nI (woN (fsN H M un cs e) S h))), some (.int (nI h))] [] n kd I J P
  | 0, h, hh => by
    have eh : h = H := by omega
    rw [eh]
    obtain ⟨hX, hsc, hT, hSt, hLf, hIm, hWk, hQc, hPc⟩ := id hC
    obtain ⟨okt, oks, okl⟩ := id hz
    have hS := hX.S
    have hL := hX.L
    have hat := hX.at
    have hH8 : H ≤ 8 := oks.2.1
    have hM20 : 2 ≤ M ∧ M ≤ 20 := oks.1
    have hH : I b 0 = nI H := hSt.1.1
    have hMo : I b 1 = nI M := hSt.2.1
    obtain ⟨⟨x0, x1, x2⟩, -, ⟨-, -, hLk⟩, ⟨hQ, hA, hG, hW, hRd, hD, hPg⟩, ⟨p0, p3, p8, p10, p12, p13, p14, p15, p16, p17⟩, ⟨p4, p5, p6, p7⟩, -, -, -⟩ := id hX
    refine r_iload dX9_walk_62 rfl ?_
    refine r_aload_n dX9_walk_64 rfl ?_
    refine r_getR dX9_walk_65 fl_X9_27 rfl (by assumption) (by assumption) ?_
    refine r_getI dX9_walk_68 fl_X9_124 rfl hS.1 ?_
    rw [hH]
    refine r_icmp_ge (tgt := 104) dX9_walk_71 (by decide) (fun _ => ?_) (fun hz => absurd (show _ from (by rw [nI_leI (by omega) (by omega)]; omega)) hz)
    exact hK
  | cnt + 1, h, hh => by
    obtain ⟨f9, f10, fS, fJ⟩ := hC.found h11 hz
    have hn := wk_lp (n := n) o b s f l S p cr hC hz h11 hK cnt (h + 1) (by omega)
    obtain ⟨hX, hsc, hT, hSt, hLf, hIm, hWk, hQc, hPc⟩ := id hC
    obtain ⟨okt, oks, okl⟩ := id hz
    have hS := hX.S
    have hL := hX.L
    have hat := hX.at
    have hH8 : H ≤ 8 := oks.2.1
    have hM20 : 2 ≤ M ∧ M ≤ 20 := oks.1
    have hH : I b 0 = nI H := hSt.1.1
    have hMo : I b 1 = nI M := hSt.2.1
    obtain ⟨⟨x0, x1, x2⟩, -, ⟨-, -, hLk⟩, ⟨hQ, hA, hG, hW, hRd, hD, hPg⟩, ⟨p0, p3, p8, p10, p12, p13, p14, p15, p16, p17⟩, ⟨p4, p5, p6, p7⟩, -, -, -⟩ := id hX
    rw [show woN (fsN H M un cs e) S (h + 1) = if S.testBit h = true then woN (fsN H M un cs e) S h ||| mayN (fsN H M un cs e) h else woN (fsN H M un cs e) S h from rfl] at hn
    by_cases q : S.testBit h = true
    · rw [if_pos q] at hn
      refine r_iload dX9_walk_62 rfl ?_
      refine r_aload_n dX9_walk_64 rfl ?_
      refine r_getR dX9_walk_65 fl_X9_27 rfl (by assumption) (by assumption) ?_
      refine r_getI dX9_walk_68 fl_X9_124 rfl hS.1 ?_
      rw [hH]
      refine r_icmp_ge (tgt := 104) dX9_walk_71 (by decide) (fun hz => absurd hz (show ¬ _ from (by rw [nI_leI (by omega) (by omega)]; omega))) (fun _ => ?_)
      refine r_iload_n dX9_walk_74 rfl ?_
      refine r_iload dX9_walk_75 rfl ?_
      refine r_ishr dX9_walk_77 ?_
      refine r_iconst (v := nI 1) dX9_walk_78 (by decide) ?_
      refine r_iand dX9_walk_79 ?_
      rw [b_ask _ (by omega), bt_nI _ (by omega)]
      rw [if_pos q]
      refine r_if_eq (tgt := 98) dX9_walk_80 (by decide) (fun hz => absurd hz (show ¬ _ from (by decide))) (fun _ => ?_)
      refine r_iload dX9_walk_83 rfl ?_
      refine r_aload_n dX9_walk_85 rfl ?_
      refine r_getR dX9_walk_86 fl_X9_54 rfl (by assumption) (by assumption) ?_
      refine r_getR dX9_walk_89 fl_X9_195 rfl hQ.1 hQ.2.2.2.2.2.2.2.2.2.2 ?_
      refine r_iload dX9_walk_92 rfl ?_
      refine r_iald dX9_walk_94 hQ.2.2.2.2.2.1 (nI_in8 8 (by omega) (by decide)) (nI_clamp (by omega)) ?_
      rw [fS h (by omega)]
      refine r_ior dX9_walk_95 ?_
      rw [or_nI]
      refine r_istore dX9_walk_96 (by decide) ?_
      refine r_iinc (v := nI (h + 1)) dX9_walk_98 rfl (nI_inc h) ?_
      refine r_goto (tgt := 62) dX9_walk_101 (by decide) ?_
      exact hn
    · rw [if_neg q] at hn
      refine r_iload dX9_walk_62 rfl ?_
      refine r_aload_n dX9_walk_64 rfl ?_
      refine r_getR dX9_walk_65 fl_X9_27 rfl (by assumption) (by assumption) ?_
      refine r_getI dX9_walk_68 fl_X9_124 rfl hS.1 ?_
      rw [hH]
      refine r_icmp_ge (tgt := 104) dX9_walk_71 (by decide) (fun hz => absurd hz (show ¬ _ from (by rw [nI_leI (by omega) (by omega)]; omega))) (fun _ => ?_)
      refine r_iload_n dX9_walk_74 rfl ?_
      refine r_iload dX9_walk_75 rfl ?_
      refine r_ishr dX9_walk_77 ?_
      refine r_iconst (v := nI 1) dX9_walk_78 (by decide) ?_
      refine r_iand dX9_walk_79 ?_
      rw [b_ask _ (by omega), bt_nI _ (by omega)]
      rw [if_neg q]
      refine r_if_eq (tgt := 98) dX9_walk_80 (by decide) (fun _ => ?_) (fun hz => absurd (show _ from rfl) hz)
      refine r_iinc (v := nI (h + 1)) dX9_walk_98 rfl (nI_inc h) ?_
      refine r_goto (tgt := 62) dX9_walk_101 (by decide) ?_
      exact hn

set_option maxHeartbeats 4000000 in
set_option maxRecDepth 100000 in
theorem k_walk_sp (o b s f l : Nat) (S p cr : Nat) {t : Nat} {T : Nat → Nat} {fp : Int32} {rr : Nat → Int32} {H M : Nat} {un : Bool} {cs : Nat → List Nat} {tx : Nat → List Int32} {e : Lf} {im : Option Lf} {wk : Option (List Nat)} {n : Nat} {kd : mK} {I : mI} {J : mJ} {P : mP} (hC : CR o b s f l n kd I J P t T fp rr H M un cs tx e im wk) (hz : okZ t T H M cs e) (ho9 : o + 125 < n) (hn9 : n < 1000000) (hS2 : S < 2 ^ H) (hp1 : 1 ≤ p) (hp : p ≤ M) (hcr : cr ≤ 9) (hg : gdN H M un cs e = false) : Ct yX9_walk cX9_walk 6 (some .int) 10 1 10240 [.ref o, .int (nI S), .int (nI p), .int (nI cr)] n kd I J P (pK o n kd I J P (.inl (some (.int (-2)))) (CX o t T fp rr H M un cs tx e im wk)) := by
  have hC0 := hC
  have hz0 := hz
  obtain ⟨hX, hsc, hT, hSt, hLf, hIm, hWk, hQc, hPc⟩ := hC
  obtain ⟨okt, oks, okl⟩ := hz
  have hS := hX.S
  have hL := hX.L
  have hat := hX.at
  have hH8 : H ≤ 8 := oks.2.1
  have hM20 : 2 ≤ M ∧ M ≤ 20 := oks.1
  have hH : I b 0 = nI H := hSt.1.1
  have hMo : I b 1 = nI M := hSt.2.1
  obtain ⟨⟨x0, x1, x2⟩, -, ⟨-, -, hLk⟩, ⟨hQ, hA, hG, hW, hRd, hD, hPg⟩, ⟨p0, p3, p8, p10, p12, p13, p14, p15, p16, p17⟩, ⟨p4, p5, p6, p7⟩, -, -, -⟩ := id hX
  refine ct_of 2 (by decide +kernel) (Nat.le_of_ble_eq_true rfl) rfl ?_
  refine r_iload_n dX9_walk_0 rfl ?_
  refine r_aload_n dX9_walk_1 rfl ?_
  refine r_getR dX9_walk_2 fl_X9_27 rfl (by assumption) (by assumption) ?_
  refine r_virtE (c_X7_allHouses b hS) lk_X9_318 mc_X7_allHouses dX9_walk_5 hS.1 (by decide) rfl rfl (Nat.le_of_ble_eq_true rfl) ?_
  rw [hH, all_8 H hH8]
  refine r_iconst (v := (-1)) dX9_walk_8 (by decide) ?_
  refine r_ixor dX9_walk_9 ?_
  refine r_iand dX9_walk_10 ?_
  rw [hs_1 hS2]
  refine r_if_ne (tgt := 24) dX9_walk_11 (by decide) (fun hz => absurd (show _ from rfl) hz) (fun _ => ?_)
  refine r_iload_n dX9_walk_14 rfl ?_
  refine r_if_lt (tgt := 24) dX9_walk_15 (by decide) (fun hz => absurd hz (show ¬ _ from (z_nlt (by omega)))) (fun _ => ?_)
  refine r_iload_n dX9_walk_18 rfl ?_
  refine r_bipush (v := nI 9) dX9_walk_19 (by decide) ?_
  refine r_icmp_le (tgt := 32) dX9_walk_21 (by decide) (fun _ => ?_) (fun hz => absurd (show _ from (by rw [nI_leI (by omega) (by omega)]; omega)) hz)
  refine r_aload_n dX9_walk_32 rfl ?_
  refine r_iload_n dX9_walk_33 rfl ?_
  refine r_virtV (m0_Number o b (nI p) x0 p4 hS.1 (by rw [hMo]; exact (isN_of hp1 hp (by omega)))) lk_X9_235 mc_X9_mustBeNumber dX9_walk_34 x0 (by decide) rfl rfl (Nat.le_of_ble_eq_true rfl) ?_
  refine r_aload_n dX9_walk_37 rfl ?_
  refine r_virt (kc2 := 1) (ks2 := 10240) (k_search o b s f l hC0 hz0) lk_X9_183 mc_X9_search dX9_walk_38 x0 (by decide) rfl rfl (Nat.le_of_ble_eq_true rfl) (by decide) (by decide) (fun _ _ _ _ _ _ h => nomatch h.1) ?_
  rintro v1 n1 kd1 I1 J1 P1 ⟨h00, rfl, rfl, hfr, h56, hC1, h11⟩
  cases h00
  simp only [Option.toList, List.nil_append]
  obtain ⟨f9, f10, fS, fJ⟩ := hC1.found h11 hz0
  obtain ⟨⟨y0, y1, y2⟩, -, -, ⟨hQ1, hA1, hG1, hW1, -, -, -⟩, ⟨-, -, -, r10, r12, r13, r14, -, -, -⟩, ⟨r4, r5, r6, r7⟩, -, -, -⟩ := id hC1.1
  have hH1 := hC1.H0
  have hMo1 := hC1.M0
  have hS1 := hC1.1.S
  have hL1 := hC1.1.L
  refine r_aload_n dX9_walk_41 rfl ?_
  refine r_getR dX9_walk_42 fl_X9_54 rfl (by assumption) (by assumption) ?_
  refine r_getI dX9_walk_45 fl_X9_186 rfl hQ1.1 ?_
  rw [f10, if_neg (show ¬ _ from by rw [hg]; decide)]
  refine r_bipush (v := -2) dX9_walk_48 (by decide) ?_
  refine r_icmp_ne (tgt := 56) dX9_walk_50 (by decide) (fun hz => absurd (show _ from rfl) hz) (fun _ => ?_)
  refine r_bipush (v := -2) dX9_walk_53 (by decide) ?_
  refine r_iret rfl dX9_walk_55 ?_
  exact ⟨rfl, ⟨Nat.le_refl _, Nat.le_succ _⟩, fun q => by rw [h56]; exact q, fun a a1 a2 => ⟨rfl, (hfr a (by omega)).1, (hfr a (by omega)).2.1, (hfr a (by omega)).2.2⟩, b, s, f, l, hC1⟩

set_option maxHeartbeats 4000000 in
set_option maxRecDepth 100000 in
theorem k_walk_many (o b s f l : Nat) (S p cr : Nat) {t : Nat} {T : Nat → Nat} {fp : Int32} {rr : Nat → Int32} {H M : Nat} {un : Bool} {cs : Nat → List Nat} {tx : Nat → List Int32} {e : Lf} {im : Option Lf} {wk : Option (List Nat)} {n : Nat} {kd : mK} {I : mI} {J : mJ} {P : mP} (hC : CR o b s f l n kd I J P t T fp rr H M un cs tx e im wk) (hz : okZ t T H M cs e) (ho9 : o + 125 < n) (hn9 : n < 1000000) (hS2 : S < 2 ^ H) (hp1 : 1 ≤ p) (hp : p ≤ M) (hcr : cr ≤ 9) (hg : gdN H M un cs e = true) (hl10 : 10 < (wkG (fsN H M un cs e) S H).length) : Ct yX9_walk cX9_walk 6 (some .int) 10 1 10240 [.ref o, .int (nI S), .int (nI p), .int (nI cr)] n kd I J P (pK o n kd I J P (.inl (some (.int (-2)))) (CX o t T fp rr H M un cs tx e im wk)) := by
  have hC0 := hC
  have hz0 := hz
  obtain ⟨hX, hsc, hT, hSt, hLf, hIm, hWk, hQc, hPc⟩ := hC
  obtain ⟨okt, oks, okl⟩ := hz
  have hS := hX.S
  have hL := hX.L
  have hat := hX.at
  have hH8 : H ≤ 8 := oks.2.1
  have hM20 : 2 ≤ M ∧ M ≤ 20 := oks.1
  have hH : I b 0 = nI H := hSt.1.1
  have hMo : I b 1 = nI M := hSt.2.1
  obtain ⟨⟨x0, x1, x2⟩, -, ⟨-, -, hLk⟩, ⟨hQ, hA, hG, hW, hRd, hD, hPg⟩, ⟨p0, p3, p8, p10, p12, p13, p14, p15, p16, p17⟩, ⟨p4, p5, p6, p7⟩, -, -, -⟩ := id hX
  have hrg : fRng H M (fsN H M un cs e) := (zR_rng hH8 hM20.2).2
  have hl : (fsN H M un cs e).length ≤ 1000 := gd_len hg
  have hwl : woN (fsN H M un cs e) S H < 2 ^ 21 := Nat.lt_of_lt_of_le (woN_lt hrg H (Nat.le_refl H)) (Nat.pow_le_pow_right (by decide) (by omega))
  have hw0 : (woN (fsN H M un cs e) S H).testBit 0 = false := by
    cases hx : (woN (fsN H M un cs e) S H).testBit 0
    · rfl
    · have := woN_bit hrg H (Nat.le_refl H) 0 hx
      omega
  refine ct_of 2 (by decide +kernel) (Nat.le_of_ble_eq_true rfl) rfl ?_
  refine r_iload_n dX9_walk_0 rfl ?_
  refine r_aload_n dX9_walk_1 rfl ?_
  refine r_getR dX9_walk_2 fl_X9_27 rfl (by assumption) (by assumption) ?_
  refine r_virtE (c_X7_allHouses b hS) lk_X9_318 mc_X7_allHouses dX9_walk_5 hS.1 (by decide) rfl rfl (Nat.le_of_ble_eq_true rfl) ?_
  rw [hH, all_8 H hH8]
  refine r_iconst (v := (-1)) dX9_walk_8 (by decide) ?_
  refine r_ixor dX9_walk_9 ?_
  refine r_iand dX9_walk_10 ?_
  rw [hs_1 hS2]
  refine r_if_ne (tgt := 24) dX9_walk_11 (by decide) (fun hz => absurd (show _ from rfl) hz) (fun _ => ?_)
  refine r_iload_n dX9_walk_14 rfl ?_
  refine r_if_lt (tgt := 24) dX9_walk_15 (by decide) (fun hz => absurd hz (show ¬ _ from (z_nlt (by omega)))) (fun _ => ?_)
  refine r_iload_n dX9_walk_18 rfl ?_
  refine r_bipush (v := nI 9) dX9_walk_19 (by decide) ?_
  refine r_icmp_le (tgt := 32) dX9_walk_21 (by decide) (fun _ => ?_) (fun hz => absurd (show _ from (by rw [nI_leI (by omega) (by omega)]; omega)) hz)
  refine r_aload_n dX9_walk_32 rfl ?_
  refine r_iload_n dX9_walk_33 rfl ?_
  refine r_virtV (m0_Number o b (nI p) x0 p4 hS.1 (by rw [hMo]; exact (isN_of hp1 hp (by omega)))) lk_X9_235 mc_X9_mustBeNumber dX9_walk_34 x0 (by decide) rfl rfl (Nat.le_of_ble_eq_true rfl) ?_
  refine r_aload_n dX9_walk_37 rfl ?_
  refine r_virt (kc2 := 1) (ks2 := 10240) (k_search o b s f l hC0 hz0) lk_X9_183 mc_X9_search dX9_walk_38 x0 (by decide) rfl rfl (Nat.le_of_ble_eq_true rfl) (by decide) (by decide) (fun _ _ _ _ _ _ h => nomatch h.1) ?_
  rintro v1 n1 kd1 I1 J1 P1 ⟨h00, rfl, rfl, hfr, h56, hC1, h11⟩
  cases h00
  simp only [Option.toList, List.nil_append]
  obtain ⟨f9, f10, fS, fJ⟩ := hC1.found h11 hz0
  obtain ⟨⟨y0, y1, y2⟩, -, -, ⟨hQ1, hA1, hG1, hW1, -, -, -⟩, ⟨-, -, -, r10, r12, r13, r14, -, -, -⟩, ⟨r4, r5, r6, r7⟩, -, -, -⟩ := id hC1.1
  have hH1 := hC1.H0
  have hMo1 := hC1.M0
  have hS1 := hC1.1.S
  have hL1 := hC1.1.L
  refine r_aload_n dX9_walk_41 rfl ?_
  refine r_getR dX9_walk_42 fl_X9_54 rfl (by assumption) (by assumption) ?_
  refine r_getI dX9_walk_45 fl_X9_186 rfl hQ1.1 ?_
  rw [f10, if_pos hg]
  refine r_bipush (v := -2) dX9_walk_48 (by decide) ?_
  refine r_icmp_ne (tgt := 56) dX9_walk_50 (by decide) (fun _ => ?_) (fun hz => absurd hz (show ¬ _ from (nI_m2 (by omega))))
  refine r_iconst (v := nI 0) dX9_walk_56 (by decide) ?_
  refine r_istore dX9_walk_57 (by decide) ?_
  refine r_iconst (v := nI 0) dX9_walk_59 (by decide) ?_
  refine r_istore dX9_walk_60 (by decide) ?_
  refine wk_lp (n := n1) o b s f l S p cr hC1 hz0 h11 ?_ H 0 (by omega)
  refine r_aload_n dX9_walk_104 rfl ?_
  refine r_getR dX9_walk_105 fl_X9_78 rfl y0 r14 ?_
  refine r_iload dX9_walk_108 rfl ?_
  refine r_iload_n dX9_walk_110 rfl ?_
  refine r_iload_n dX9_walk_111 rfl ?_
  refine r_aload_n dX9_walk_112 rfl ?_
  refine r_getR dX9_walk_113 fl_X9_71 rfl (by assumption) (by assumption) ?_
  have hzz : P1 (o + 56) 3 = none ∨ ∃ z, P1 (o + 56) 3 = some z ∧ kd1 z = some (1, 10240) ∧ o + 56 ≠ z := by
    rcases hC1.2.1 with r | ⟨z, z1, z2, z3, z4⟩
    · exact Or.inl r
    · exact Or.inr ⟨z, z1, z2, by omega⟩
  refine r_virt (kc2 := 0) (ks2 := 0) (c_scr (n := n1) (o + 56) hG1 hzz hn9 (by omega)) lk_X9_321 mc_X3_scratchRow dX9_walk_116 hG1.1 (by decide) rfl rfl (Nat.le_of_ble_eq_true rfl) (by decide) (by decide) (fun _ _ _ _ _ _ h => by obtain ⟨_, h, _⟩ := h; exact nomatch h) ?_
  rintro v2 n2 kd2 I2 J2 P2 ⟨z, h02, hP3, hkz, hfl⟩
  cases h02
  simp only [Option.toList, List.nil_append, List.cons_append]
  have hC2 := hC1.lk ho9 hfl
  have hzo : o + 125 < z ∧ z < n2 := by
    rcases hC2.2.1 with r | ⟨z2, z3, z4, z5, z6⟩
    · rw [hP3] at r; exact nomatch r
    · rw [hP3] at z3; cases z3; exact ⟨z5, z6⟩
  have hW2 : kW kd2 P2 (o + 58) := hC2.1.2.2.2.1.2.2.2.1
  have hn2 := hfl.2.1.2
  have hz6 : z < 1000000 := Nat.lt_of_lt_of_le hzo.2 (Nat.le_trans hn2 hn9)
  refine r_virt (kc2 := 0) (ks2 := 0) (c_wt_sp (n := n2) (J := J2) (o + 58) z (woN (fsN H M un cs e) S H) p cr hW2 hkz (by omega) hz6 hwl hw0 (by omega) hcr hl10) lk_X9_325 mc_X8_walkTo dX9_walk_119 hW2.1 (by decide) rfl rfl (Nat.le_of_ble_eq_true rfl) (by decide) (by decide) (fun _ _ _ _ _ _ h => nomatch h.1) ?_
  rintro v3 n3 kd3 I3 J3 P3 ⟨h03, rfl, rfl, rfl, rfl, rfl⟩
  cases h03
  simp only [Option.toList, List.nil_append, List.cons_append]
  refine r_iret rfl dX9_walk_122 ?_
  exact pK.lk (v := -2) rfl rfl hfr h56 hC1 ho9 hfl.val

set_option maxHeartbeats 4000000 in
set_option maxRecDepth 100000 in
theorem k_walk (o b s f l : Nat) (S p cr : Nat) {t : Nat} {T : Nat → Nat} {fp : Int32} {rr : Nat → Int32} {H M : Nat} {un : Bool} {cs : Nat → List Nat} {tx : Nat → List Int32} {e : Lf} {im : Option Lf} {wk : Option (List Nat)} {n : Nat} {kd : mK} {I : mI} {J : mJ} {P : mP} (hC : CR o b s f l n kd I J P t T fp rr H M un cs tx e im wk) (hz : okZ t T H M cs e) (ho9 : o + 125 < n) (hn9 : n < 1000000) (hS2 : S < 2 ^ H) (hp1 : 1 ≤ p) (hp : p ≤ M) (hcr : cr ≤ 9) (hg : gdN H M un cs e = true) (hl10 : (wkG (fsN H M un cs e) S H).length ≤ 10) : Ct yX9_walk cX9_walk 6 (some .int) 10 1 10240 [.ref o, .int (nI S), .int (nI p), .int (nI cr)] n kd I J P (pK o n kd I J P (.inl (some (.int (nI (wkV (fsN H M un cs e) S H p cr))))) (CX o t T fp rr H M un cs tx e im (some (wkR (fsN H M un cs e) S H p cr)))) := by
  have hC0 := hC
  have hz0 := hz
  obtain ⟨hX, hsc, hT, hSt, hLf, hIm, hWk, hQc, hPc⟩ := hC
  obtain ⟨okt, oks, okl⟩ := hz
  have hS := hX.S
  have hL := hX.L
  have hat := hX.at
  have hH8 : H ≤ 8 := oks.2.1
  have hM20 : 2 ≤ M ∧ M ≤ 20 := oks.1
  have hH : I b 0 = nI H := hSt.1.1
  have hMo : I b 1 = nI M := hSt.2.1
  obtain ⟨⟨x0, x1, x2⟩, -, ⟨-, -, hLk⟩, ⟨hQ, hA, hG, hW, hRd, hD, hPg⟩, ⟨p0, p3, p8, p10, p12, p13, p14, p15, p16, p17⟩, ⟨p4, p5, p6, p7⟩, -, -, -⟩ := id hX
  have hrg : fRng H M (fsN H M un cs e) := (zR_rng hH8 hM20.2).2
  have hl : (fsN H M un cs e).length ≤ 1000 := gd_len hg
  have hwl : woN (fsN H M un cs e) S H < 2 ^ 21 := Nat.lt_of_lt_of_le (woN_lt hrg H (Nat.le_refl H)) (Nat.pow_le_pow_right (by decide) (by omega))
  have hw0 : (woN (fsN H M un cs e) S H).testBit 0 = false := by
    cases hx : (woN (fsN H M un cs e) S H).testBit 0
    · rfl
    · have := woN_bit hrg H (Nat.le_refl H) 0 hx
      omega
  refine ct_of 2 (by decide +kernel) (Nat.le_of_ble_eq_true rfl) rfl ?_
  refine r_iload_n dX9_walk_0 rfl ?_
  refine r_aload_n dX9_walk_1 rfl ?_
  refine r_getR dX9_walk_2 fl_X9_27 rfl (by assumption) (by assumption) ?_
  refine r_virtE (c_X7_allHouses b hS) lk_X9_318 mc_X7_allHouses dX9_walk_5 hS.1 (by decide) rfl rfl (Nat.le_of_ble_eq_true rfl) ?_
  rw [hH, all_8 H hH8]
  refine r_iconst (v := (-1)) dX9_walk_8 (by decide) ?_
  refine r_ixor dX9_walk_9 ?_
  refine r_iand dX9_walk_10 ?_
  rw [hs_1 hS2]
  refine r_if_ne (tgt := 24) dX9_walk_11 (by decide) (fun hz => absurd (show _ from rfl) hz) (fun _ => ?_)
  refine r_iload_n dX9_walk_14 rfl ?_
  refine r_if_lt (tgt := 24) dX9_walk_15 (by decide) (fun hz => absurd hz (show ¬ _ from (z_nlt (by omega)))) (fun _ => ?_)
  refine r_iload_n dX9_walk_18 rfl ?_
  refine r_bipush (v := nI 9) dX9_walk_19 (by decide) ?_
  refine r_icmp_le (tgt := 32) dX9_walk_21 (by decide) (fun _ => ?_) (fun hz => absurd (show _ from (by rw [nI_leI (by omega) (by omega)]; omega)) hz)
  refine r_aload_n dX9_walk_32 rfl ?_
  refine r_iload_n dX9_walk_33 rfl ?_
  refine r_virtV (m0_Number o b (nI p) x0 p4 hS.1 (by rw [hMo]; exact (isN_of hp1 hp (by omega)))) lk_X9_235 mc_X9_mustBeNumber dX9_walk_34 x0 (by decide) rfl rfl (Nat.le_of_ble_eq_true rfl) ?_
  refine r_aload_n dX9_walk_37 rfl ?_
  refine r_virt (kc2 := 1) (ks2 := 10240) (k_search o b s f l hC0 hz0) lk_X9_183 mc_X9_search dX9_walk_38 x0 (by decide) rfl rfl (Nat.le_of_ble_eq_true rfl) (by decide) (by decide) (fun _ _ _ _ _ _ h => nomatch h.1) ?_
  rintro v1 n1 kd1 I1 J1 P1 ⟨h00, rfl, rfl, hfr, h56, hC1, h11⟩
  cases h00
  simp only [Option.toList, List.nil_append]
  obtain ⟨f9, f10, fS, fJ⟩ := hC1.found h11 hz0
  obtain ⟨⟨y0, y1, y2⟩, -, -, ⟨hQ1, hA1, hG1, hW1, -, -, -⟩, ⟨-, -, -, r10, r12, r13, r14, -, -, -⟩, ⟨r4, r5, r6, r7⟩, -, -, -⟩ := id hC1.1
  have hH1 := hC1.H0
  have hMo1 := hC1.M0
  have hS1 := hC1.1.S
  have hL1 := hC1.1.L
  refine r_aload_n dX9_walk_41 rfl ?_
  refine r_getR dX9_walk_42 fl_X9_54 rfl (by assumption) (by assumption) ?_
  refine r_getI dX9_walk_45 fl_X9_186 rfl hQ1.1 ?_
  rw [f10, if_pos hg]
  refine r_bipush (v := -2) dX9_walk_48 (by decide) ?_
  refine r_icmp_ne (tgt := 56) dX9_walk_50 (by decide) (fun _ => ?_) (fun hz => absurd hz (show ¬ _ from (nI_m2 (by omega))))
  refine r_iconst (v := nI 0) dX9_walk_56 (by decide) ?_
  refine r_istore dX9_walk_57 (by decide) ?_
  refine r_iconst (v := nI 0) dX9_walk_59 (by decide) ?_
  refine r_istore dX9_walk_60 (by decide) ?_
  refine wk_lp (n := n1) o b s f l S p cr hC1 hz0 h11 ?_ H 0 (by omega)
  refine r_aload_n dX9_walk_104 rfl ?_
  refine r_getR dX9_walk_105 fl_X9_78 rfl y0 r14 ?_
  refine r_iload dX9_walk_108 rfl ?_
  refine r_iload_n dX9_walk_110 rfl ?_
  refine r_iload_n dX9_walk_111 rfl ?_
  refine r_aload_n dX9_walk_112 rfl ?_
  refine r_getR dX9_walk_113 fl_X9_71 rfl (by assumption) (by assumption) ?_
  have hzz : P1 (o + 56) 3 = none ∨ ∃ z, P1 (o + 56) 3 = some z ∧ kd1 z = some (1, 10240) ∧ o + 56 ≠ z := by
    rcases hC1.2.1 with r | ⟨z, z1, z2, z3, z4⟩
    · exact Or.inl r
    · exact Or.inr ⟨z, z1, z2, by omega⟩
  refine r_virt (kc2 := 0) (ks2 := 0) (c_scr (n := n1) (o + 56) hG1 hzz hn9 (by omega)) lk_X9_321 mc_X3_scratchRow dX9_walk_116 hG1.1 (by decide) rfl rfl (Nat.le_of_ble_eq_true rfl) (by decide) (by decide) (fun _ _ _ _ _ _ h => by obtain ⟨_, h, _⟩ := h; exact nomatch h) ?_
  rintro v2 n2 kd2 I2 J2 P2 ⟨z, h02, hP3, hkz, hfl⟩
  cases h02
  simp only [Option.toList, List.nil_append, List.cons_append]
  have hC2 := hC1.lk ho9 hfl
  have hzo : o + 125 < z ∧ z < n2 := by
    rcases hC2.2.1 with r | ⟨z2, z3, z4, z5, z6⟩
    · rw [hP3] at r; exact nomatch r
    · rw [hP3] at z3; cases z3; exact ⟨z5, z6⟩
  have hW2 : kW kd2 P2 (o + 58) := hC2.1.2.2.2.1.2.2.2.1
  have hn2 := hfl.2.1.2
  have hz6 : z < 1000000 := Nat.lt_of_lt_of_le hzo.2 (Nat.le_trans hn2 hn9)
  refine r_virt (kc2 := 0) (ks2 := 0) (c_wt (n := n2) (J := J2) (o + 58) z (woN (fsN H M un cs e) S H) p cr hW2 hkz (by omega) hz6 hwl hw0 (by omega) hcr hl10) lk_X9_325 mc_X8_walkTo dX9_walk_119 hW2.1 (by decide) rfl rfl (Nat.le_of_ble_eq_true rfl) (by decide) (by decide) (fun _ _ _ _ _ _ h => nomatch h.1) ?_
  rintro v3 n3 kd3 I3 J3 P3 ⟨h03, rfl, rfl, rfl, rfl, g6, g7, g8, g9⟩
  cases h03
  simp only [Option.toList, List.nil_append, List.cons_append]
  refine r_iret rfl dX9_walk_122 ?_
  have hLl : (wkR (fsN H M un cs e) S H p cr).length = (wkG (fsN H M un cs e) S H).length := wkL_len _ p 0 (Nat.two_pow_pos _) (by rw [cnB_0]; omega)
  have hne : ∀ a, a ≤ o + 125 → P1 (o + 56) 3 ≠ some a := fun a ha q => by
    rcases hC1.2.1 with r | ⟨z, z1, z2, z3, z4⟩
    · rw [r] at q; exact nomatch q
    · rw [z1] at q
      have := Option.some.inj q
      omega
  obtain ⟨-, q1, u2, u3, u4, u5, u6, u7⟩ := hfl
  refine ⟨rfl, q1, fun q => ?_, fun a a1 a2 => ⟨u2 a (by omega), ?_, (u4 a (by omega)).trans (hfr a (by omega)).2.1, ?_⟩, b, s, f, l, CR.wk hC2 hzo.1 g6 (by rw [hLl]; exact g7) g8 (by rw [hLl]; exact hl10) (fun j hj => g9 j (by rw [hLl] at hj; exact hj))⟩
  · rw [am_up_n _ _ (by omega), hP3]; exact fun x => nomatch x
  · exact (g6 a (by omega) (by omega) (by omega) (by omega)).trans ((u3 a (by omega) (hne a (by omega))).trans (hfr a (by omega)).1)
  · rw [am_up_n _ _ (by omega)]; exact (u5 a (by omega) (by omega)).trans (hfr a (by omega)).2.2

set_option maxHeartbeats 4000000 in
set_option maxRecDepth 100000 in
theorem k_walk_no (o b s f l : Nat) (y pp x : Int32) {t : Nat} {T : Nat → Nat} {fp : Int32} {rr : Nat → Int32} {H M : Nat} {un : Bool} {cs : Nat → List Nat} {tx : Nat → List Int32} {e : Lf} {im : Option Lf} {wk : Option (List Nat)} {n : Nat} {kd : mK} {I : mI} {J : mJ} {P : mP} (hC : CR o b s f l n kd I J P t T fp rr H M un cs tx e im wk) (hz : okZ t T H M cs e) (hb : wkO H M y pp x = false) : Ct yX9_walk cX9_walk 6 (some .int) 10 1 10240 [.ref o, .int y, .int pp, .int x] n kd I J P (fun z n' kd' I' J' P' => z = .inr "java/lang/IllegalArgumentException" ∧ n' = n ∧ kd' = kd ∧ I' = I ∧ J' = J ∧ P' = P) := by
  obtain ⟨hX, hsc, hT, hSt, hLf, hIm, hWk, hQc, hPc⟩ := hC
  obtain ⟨okt, oks, okl⟩ := hz
  have hS := hX.S
  have hL := hX.L
  have hat := hX.at
  have hH8 : H ≤ 8 := oks.2.1
  have hM20 : 2 ≤ M ∧ M ≤ 20 := oks.1
  have hH : I b 0 = nI H := hSt.1.1
  have hMo : I b 1 = nI M := hSt.2.1
  obtain ⟨⟨x0, x1, x2⟩, -, ⟨-, -, hLk⟩, ⟨hQ, hA, hG, hW, hRd, hD, hPg⟩, ⟨p0, p3, p8, p10, p12, p13, p14, p15, p16, p17⟩, ⟨p4, p5, p6, p7⟩, -, -, -⟩ := id hX
  refine ct_of 2 (by decide +kernel) (Nat.le_of_ble_eq_true rfl) rfl ?_
  by_cases c1 : y &&& (nI (2 ^ H - 1) ^^^ (-1)) = 0
  · obtain ⟨S, hS2, rfl⟩ := hs_0 c1
    have hy1 : (!decide (nI S < 0) && decide (nI S < nI (2 ^ H))) = true := by
      have := pw8 hH8
      rw [decide_eq_false (z_nlt (by omega)), decide_eq_true ((nI_ltI (by omega) (by omega)).mpr hS2)]; rfl
    by_cases c2 : x < 0
    · skip
      refine r_iload_n dX9_walk_0 rfl ?_
      refine r_aload_n dX9_walk_1 rfl ?_
      refine r_getR dX9_walk_2 fl_X9_27 rfl (by assumption) (by assumption) ?_
      refine r_virtE (c_X7_allHouses b hS) lk_X9_318 mc_X7_allHouses dX9_walk_5 hS.1 (by decide) rfl rfl (Nat.le_of_ble_eq_true rfl) ?_
      rw [hH, all_8 H hH8]
      refine r_iconst (v := (-1)) dX9_walk_8 (by decide) ?_
      refine r_ixor dX9_walk_9 ?_
      refine r_iand dX9_walk_10 ?_
      refine r_if_ne (tgt := 24) dX9_walk_11 (by decide) (fun hz => absurd (show _ from c1) hz) (fun _ => ?_)
      refine r_iload_n dX9_walk_14 rfl ?_
      refine r_if_lt (tgt := 24) dX9_walk_15 (by decide) (fun _ => ?_) (fun hz => absurd (show _ from c2) hz)
      refine r_throw (cls := "java/lang/IllegalArgumentException") (names := ["java/lang/RuntimeException", "java/lang/Exception"]) dX9_walk_24 dX9_walk_27 dX9_walk_28 dX9_walk_31 (by decide +kernel) (by decide +kernel) cl_X9_110 xi_IllegalArgumentException xa_iae xb_iae (by decide) (Nat.le_of_ble_eq_true rfl) (by omega) (by omega) ?_
      exact ⟨rfl, rfl, rfl, rfl, rfl, rfl⟩
    · by_cases c3 : x ≤ nI 9
      · have hx9 : (!decide (x < 0) && !decide (nI 9 < x)) = true := by rw [decide_eq_false c2, decide_eq_false (Int32.not_lt.mpr c3)]; rfl
        have hpp : (!decide (pp < nI 1) && decide (pp ≤ nI M)) = false := by
          unfold wkO at hb
          rw [hy1, hx9, Bool.true_and, Bool.and_true] at hb
          exact hb
        refine r_iload_n dX9_walk_0 rfl ?_
        refine r_aload_n dX9_walk_1 rfl ?_
        refine r_getR dX9_walk_2 fl_X9_27 rfl (by assumption) (by assumption) ?_
        refine r_virtE (c_X7_allHouses b hS) lk_X9_318 mc_X7_allHouses dX9_walk_5 hS.1 (by decide) rfl rfl (Nat.le_of_ble_eq_true rfl) ?_
        rw [hH, all_8 H hH8]
        refine r_iconst (v := (-1)) dX9_walk_8 (by decide) ?_
        refine r_ixor dX9_walk_9 ?_
        refine r_iand dX9_walk_10 ?_
        refine r_if_ne (tgt := 24) dX9_walk_11 (by decide) (fun hz => absurd (show _ from c1) hz) (fun _ => ?_)
        refine r_iload_n dX9_walk_14 rfl ?_
        refine r_if_lt (tgt := 24) dX9_walk_15 (by decide) (fun hz => absurd hz (show ¬ _ from c2)) (fun _ => ?_)
        refine r_iload_n dX9_walk_18 rfl ?_
        refine r_bipush (v := nI 9) dX9_walk_19 (by decide) ?_
        refine r_icmp_le (tgt := 32) dX9_walk_21 (by decide) (fun _ => ?_) (fun hz => absurd (show _ from c3) hz)
        refine r_aload_n dX9_walk_32 rfl ?_
        refine r_iload_n dX9_walk_33 rfl ?_
        have hc34 := c_X9_mustBeNumber (n := n) (kd := kd) (I := I) (J := J) (P := P) o b (pp) x0 p4 hS.1
        rw [hMo, hpp] at hc34
        exact r_virtX hc34 lk_X9_235 mc_X9_mustBeNumber dX9_walk_34 x0 (by decide) rfl rfl (Nat.le_of_ble_eq_true rfl) (by decide) (by decide) ⟨rfl, rfl, rfl, rfl, rfl, rfl⟩
      · skip
        refine r_iload_n dX9_walk_0 rfl ?_
        refine r_aload_n dX9_walk_1 rfl ?_
        refine r_getR dX9_walk_2 fl_X9_27 rfl (by assumption) (by assumption) ?_
        refine r_virtE (c_X7_allHouses b hS) lk_X9_318 mc_X7_allHouses dX9_walk_5 hS.1 (by decide) rfl rfl (Nat.le_of_ble_eq_true rfl) ?_
        rw [hH, all_8 H hH8]
        refine r_iconst (v := (-1)) dX9_walk_8 (by decide) ?_
        refine r_ixor dX9_walk_9 ?_
        refine r_iand dX9_walk_10 ?_
        refine r_if_ne (tgt := 24) dX9_walk_11 (by decide) (fun hz => absurd (show _ from c1) hz) (fun _ => ?_)
        refine r_iload_n dX9_walk_14 rfl ?_
        refine r_if_lt (tgt := 24) dX9_walk_15 (by decide) (fun hz => absurd hz (show ¬ _ from c2)) (fun _ => ?_)
        refine r_iload_n dX9_walk_18 rfl ?_
        refine r_bipush (v := nI 9) dX9_walk_19 (by decide) ?_
        refine r_icmp_le (tgt := 32) dX9_walk_21 (by decide) (fun hz => absurd hz (show ¬ _ from c3)) (fun _ => ?_)
        refine r_throw (cls := "java/lang/IllegalArgumentException") (names := ["java/lang/RuntimeException", "java/lang/Exception"]) dX9_walk_24 dX9_walk_27 dX9_walk_28 dX9_walk_31 (by decide +kernel) (by decide +kernel) cl_X9_110 xi_IllegalArgumentException xa_iae xb_iae (by decide) (Nat.le_of_ble_eq_true rfl) (by omega) (by omega) ?_
        exact ⟨rfl, rfl, rfl, rfl, rfl, rfl⟩
  · skip
    refine r_iload_n dX9_walk_0 rfl ?_
    refine r_aload_n dX9_walk_1 rfl ?_
    refine r_getR dX9_walk_2 fl_X9_27 rfl (by assumption) (by assumption) ?_
    refine r_virtE (c_X7_allHouses b hS) lk_X9_318 mc_X7_allHouses dX9_walk_5 hS.1 (by decide) rfl rfl (Nat.le_of_ble_eq_true rfl) ?_
    rw [hH, all_8 H hH8]
    refine r_iconst (v := (-1)) dX9_walk_8 (by decide) ?_
    refine r_ixor dX9_walk_9 ?_
    refine r_iand dX9_walk_10 ?_
    refine r_if_ne (tgt := 24) dX9_walk_11 (by decide) (fun _ => ?_) (fun hz => absurd hz (show ¬ _ from c1))
    refine r_throw (cls := "java/lang/IllegalArgumentException") (names := ["java/lang/RuntimeException", "java/lang/Exception"]) dX9_walk_24 dX9_walk_27 dX9_walk_28 dX9_walk_31 (by decide +kernel) (by decide +kernel) cl_X9_110 xi_IllegalArgumentException xa_iae xb_iae (by decide) (Nat.le_of_ble_eq_true rfl) (by omega) (by omega) ?_
    exact ⟨rfl, rfl, rfl, rfl, rfl, rfl⟩

