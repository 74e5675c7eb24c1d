/-! LAWS TRIED on any state: the class -/
theorem CR.tr {o b s f l n n1 t : Nat} {kd kd1 : mK} {I I1 : mI} {J J1 : mJ} {P P1 : mP} {T : Nat → Nat} {fp : Int32} {rr : Nat → Int32} {H M : Nat} {un : Bool} {cs : Nat → List Nat} {tx : Nat → List Int32} {e : Lf} {im : Option Lf} {wk : Option (List Nat)} {u : Int32} (hC : CR o b s f l n kd I J P t T fp rr H M un cs tx e im wk) (ho : o + 125 < n) (hn : n ≤ n1) (h : trI n1 kd1 I1 J1 P1 o b s f l M u n kd I J P) (h18 : I1 o 18 = nI 0) : CR o b s f l n1 kd1 I1 J1 P1 t T fp rr H M un cs tx e im wk := by
  obtain ⟨hX, hs, h1, h2, h3, h4, h5, h6, h7⟩ := hC
  obtain ⟨kX1, -, -, hsc, t1, t2, t3, t4, t5, t6⟩ := h
  have hat := hX.at
  have hne : ∀ a, a ≤ o + 125 → P (o + 56) 3 ≠ some a := fun a ha q => by
    rcases hs with r | ⟨z, z1, z2, z3, z4⟩
    · rw [r] at q; exact nomatch q
    · rw [z1] at q
      have := Option.some.inj q
      omega
  have g : ∀ a, a ≠ o → a ≤ o + 125 → (a < o + 48 ∨ o + 57 < a) → (a < o + 61 ∨ o + 68 < a) → (a < s ∨ s + 8 < a) → (a < l ∨ l + 2 < a) → I1 a = I a := fun a a0 a1 a2 a3 a4 a5 => t2 a (by omega) a0 a2 a3 a4 a5 (hne a a1)
  refine ⟨kX1, ?_, h1.cg (t3 1 (by decide)) (t3 2 (by decide)) (g _ (by omega) (by omega) (by omega) (by omega) (by omega) (by omega)) (g _ (by omega) (by omega) (by omega) (by omega) (by omega) (by omega)), h2.cg (fun a x y => g a (by omega) (by omega) (by omega) (by omega) (by omega) (by omega)), h3.cg (fun a x y => g a (by omega) (by omega) (by omega) (by omega) (by omega) (by omega)), h4.cg (t3 9 (by decide)) (fun a x y => g a (by omega) (by omega) (by omega) (by omega) (by omega) (by omega)), h5.cg (g _ (by omega) (by omega) (by omega) (by omega) (by omega) (by omega)) (g _ (by omega) (by omega) (by omega) (by omega) (by omega) (by omega)), h6.cg (t3 11 (by decide)) (g _ (by omega) (by omega) (by omega) (by omega) (by omega) (by omega)) (g _ (by omega) (by omega) (by omega) (by omega) (by omega) (by omega)) (t4 _ (by omega) (by omega)), Or.inl h18⟩
  rcases t6 with q | ⟨z, q1, q2⟩
  · rcases hs with r | ⟨z, z1, z2, z3, z4⟩
    · exact Or.inl (q.trans r)
    · exact Or.inr ⟨z, q.trans z1, (t1 z z4).trans z2, z3, by omega⟩
  · rcases hsc with r | ⟨z2, r1, r2, r3, r4⟩
    · rw [q2] at r; exact nomatch r
    · rw [q2] at r1
      cases r1
      exact Or.inr ⟨z, q2, r2, by omega, r4⟩
set_option maxHeartbeats 4000000 in
set_option maxRecDepth 100000 in
theorem k_tried (o b s f l : Nat) (law S Hs wh : Nat) {t : Nat} {T : Nat → Nat} {fp : Int32} {rr : Nat → Int32} {H M : Nat} {un : Bool} {cs : Nat → List Nat} {tx : Nat → List Int32} {e : Lf} {im : Option Lf} {wk : Option (List Nat)} {n : Nat} {kd : mK} {I : mI} {J : mJ} {P : mP} (hC : CR o b s f l n kd I J P t T fp rr H M un cs tx e im wk) (hz : okZ t T H M cs e) (ho9 : o + 125 < n) (hn9 : n < 900000) (hH1 : 1 ≤ Hs) (hHs8 : Hs ≤ 8) (hlaw : law ≤ 2) (hwh : wh ≤ 2) (hS40 : S ≤ 40) : Ct yX9_tried cX9_tried 10 (some .int) 63 1 10240 [.ref o, .int (nI law), .int (nI S), .int (nI Hs), .int (nI wh)] n kd I J P (pK o n kd I J P (.inl (some (.int (trV law Hs M un S wh)))) (CX o t T fp rr H M un cs tx e im wk)) := by
  have hC0 := hC
  have hz0 := hz
  obtain ⟨hX, hsc, hT, hSt, hLf, hIm, hWk, hQc, hPc⟩ := hC
  obtain ⟨okt, oks, okl⟩ := hz
  have hS := hX.S
  have hL := hX.L
  have hat := hX.at
  have hH8 : H ≤ 8 := oks.2.1
  have hM20 : 2 ≤ M ∧ M ≤ 20 := oks.1
  have hH : I b 0 = nI H := hSt.1.1
  have hMo : I b 1 = nI M := hSt.2.1
  obtain ⟨⟨x0, x1, x2⟩, -, ⟨-, -, hLk⟩, ⟨hQ, hA, hG, hW, hRd, hD, hPg⟩, ⟨p0, p3, p8, p10, p12, p13, p14, p15, p16, p17⟩, ⟨p4, p5, p6, p7⟩, -, -, -⟩ := id hX
  have hu : I b 2 = bz un := hSt.2.2.1
  have hun : (!decide (bz un = 0)) = un := by cases un <;> decide
  have hne : ∀ a, a ≤ o + 125 → P (o + 56) 3 ≠ some a := fun a ha q => by
    rcases hsc with r | ⟨z, z1, z2, z3, z4⟩
    · rw [r] at q; exact nomatch q
    · rw [z1] at q
      have := Option.some.inj q
      omega
  refine ct_of 5 (by decide +kernel) (Nat.le_of_ble_eq_true rfl) rfl ?_
  by_cases hS0 : S = 0
  · subst hS0
    rcases (by omega : wh = 0 ∨ wh = 1 ∨ wh = 2) with e9 | e9 | e9
    · subst e9
      rw [show trV law Hs M un 0 0 = nI 0 from rfl]
      refine r_aload_n dX9_tried_0 rfl ?_
      refine r_iload_n dX9_tried_1 rfl ?_
      refine r_iconst (v := nI 3) dX9_tried_2 (by decide) ?_
      refine r_virtV (m0_What o (nI law) (nI 3) ((by rw [decide_eq_false (z_nlt (by omega)), decide_eq_true ((nI_ltI (by omega) (by omega)).mpr (by omega))]; rfl))) lk_X9_162 mc_X9_mustBeWhat dX9_tried_3 x0 (by decide) rfl rfl (Nat.le_of_ble_eq_true rfl) ?_
      refine r_aload_n dX9_tried_6 rfl ?_
      refine r_iload dX9_tried_7 rfl ?_
      refine r_iconst (v := nI 3) dX9_tried_9 (by decide) ?_
      refine r_virtV (m0_What o (nI 0) (nI 3) ((by decide))) lk_X9_162 mc_X9_mustBeWhat dX9_tried_10 x0 (by decide) rfl rfl (Nat.le_of_ble_eq_true rfl) ?_
      refine r_iload_n dX9_tried_13 rfl ?_
      refine r_if_lt (tgt := 34) dX9_tried_14 (by decide) (fun hz => absurd hz (show ¬ _ from (z_nlt (by omega)))) (fun _ => ?_)
      refine r_iload_n dX9_tried_17 rfl ?_
      refine r_bipush (v := nI 40) dX9_tried_18 (by decide) ?_
      refine r_icmp_gt (tgt := 34) dX9_tried_20 (by decide) (fun hz => absurd hz (show ¬ _ from (by rw [nI_ltI (by omega) (by omega)]; omega))) (fun _ => ?_)
      refine r_iload_n dX9_tried_23 rfl ?_
      refine r_iconst (v := nI 1) dX9_tried_24 (by decide) ?_
      refine r_icmp_lt (tgt := 34) dX9_tried_25 (by decide) (fun hz => absurd hz (show ¬ _ from (by rw [nI_ltI (by omega) (by omega)]; omega))) (fun _ => ?_)
      refine r_iload_n dX9_tried_28 rfl ?_
      refine r_bipush (v := nI 8) dX9_tried_29 (by decide) ?_
      refine r_icmp_le (tgt := 42) dX9_tried_31 (by decide) (fun _ => ?_) (fun hz => absurd (show _ from (by rw [nI_leI (by omega) (by omega)]; omega)) hz)
      refine r_iconst (v := nI 0) dX9_tried_42 (by decide) ?_
      refine r_istore dX9_tried_43 (by decide) ?_
      refine r_iconst (v := (-1)) dX9_tried_45 (by decide) ?_
      refine r_istore dX9_tried_46 (by decide) ?_
      refine r_iconst (v := nI 0) dX9_tried_48 (by decide) ?_
      refine r_istore dX9_tried_49 (by decide) ?_
      refine r_iconst (v := nI 0) dX9_tried_51 (by decide) ?_
      refine r_istore dX9_tried_52 (by decide) ?_
      refine r_iload dX9_tried_54 rfl ?_
      refine r_iload_n dX9_tried_56 rfl ?_
      refine r_icmp_ge (tgt := 117) dX9_tried_57 (by decide) (fun _ => ?_) (fun hz => absurd (show _ from (by rw [nI_leI (by omega) (by omega)]; omega)) hz)
      refine r_iload dX9_tried_117 rfl ?_
      refine r_if_ne (tgt := 127) dX9_tried_119 (by decide) (fun hz => absurd (show _ from rfl) hz) (fun _ => ?_)
      refine r_iload dX9_tried_122 rfl ?_
      refine r_goto (tgt := 140) dX9_tried_124 (by decide) ?_
      refine r_iret rfl dX9_tried_140 ?_
      exact pK.is hC0 am_is.mk
    · subst e9
      rw [show trV law Hs M un 0 1 = -1 from rfl]
      refine r_aload_n dX9_tried_0 rfl ?_
      refine r_iload_n dX9_tried_1 rfl ?_
      refine r_iconst (v := nI 3) dX9_tried_2 (by decide) ?_
      refine r_virtV (m0_What o (nI law) (nI 3) ((by rw [decide_eq_false (z_nlt (by omega)), decide_eq_true ((nI_ltI (by omega) (by omega)).mpr (by omega))]; rfl))) lk_X9_162 mc_X9_mustBeWhat dX9_tried_3 x0 (by decide) rfl rfl (Nat.le_of_ble_eq_true rfl) ?_
      refine r_aload_n dX9_tried_6 rfl ?_
      refine r_iload dX9_tried_7 rfl ?_
      refine r_iconst (v := nI 3) dX9_tried_9 (by decide) ?_
      refine r_virtV (m0_What o (nI 1) (nI 3) ((by decide))) lk_X9_162 mc_X9_mustBeWhat dX9_tried_10 x0 (by decide) rfl rfl (Nat.le_of_ble_eq_true rfl) ?_
      refine r_iload_n dX9_tried_13 rfl ?_
      refine r_if_lt (tgt := 34) dX9_tried_14 (by decide) (fun hz => absurd hz (show ¬ _ from (z_nlt (by omega)))) (fun _ => ?_)
      refine r_iload_n dX9_tried_17 rfl ?_
      refine r_bipush (v := nI 40) dX9_tried_18 (by decide) ?_
      refine r_icmp_gt (tgt := 34) dX9_tried_20 (by decide) (fun hz => absurd hz (show ¬ _ from (by rw [nI_ltI (by omega) (by omega)]; omega))) (fun _ => ?_)
      refine r_iload_n dX9_tried_23 rfl ?_
      refine r_iconst (v := nI 1) dX9_tried_24 (by decide) ?_
      refine r_icmp_lt (tgt := 34) dX9_tried_25 (by decide) (fun hz => absurd hz (show ¬ _ from (by rw [nI_ltI (by omega) (by omega)]; omega))) (fun _ => ?_)
      refine r_iload_n dX9_tried_28 rfl ?_
      refine r_bipush (v := nI 8) dX9_tried_29 (by decide) ?_
      refine r_icmp_le (tgt := 42) dX9_tried_31 (by decide) (fun _ => ?_) (fun hz => absurd (show _ from (by rw [nI_leI (by omega) (by omega)]; omega)) hz)
      refine r_iconst (v := nI 0) dX9_tried_42 (by decide) ?_
      refine r_istore dX9_tried_43 (by decide) ?_
      refine r_iconst (v := (-1)) dX9_tried_45 (by decide) ?_
      refine r_istore dX9_tried_46 (by decide) ?_
      refine r_iconst (v := nI 0) dX9_tried_48 (by decide) ?_
      refine r_istore dX9_tried_49 (by decide) ?_
      refine r_iconst (v := nI 0) dX9_tried_51 (by decide) ?_
      refine r_istore dX9_tried_52 (by decide) ?_
      refine r_iload dX9_tried_54 rfl ?_
      refine r_iload_n dX9_tried_56 rfl ?_
      refine r_icmp_ge (tgt := 117) dX9_tried_57 (by decide) (fun _ => ?_) (fun hz => absurd (show _ from (by rw [nI_leI (by omega) (by omega)]; omega)) hz)
      refine r_iload dX9_tried_117 rfl ?_
      refine r_if_ne (tgt := 127) dX9_tried_119 (by decide) (fun _ => ?_) (fun hz => absurd hz (show ¬ _ from (by decide)))
      refine r_iload dX9_tried_127 rfl ?_
      refine r_iconst (v := nI 1) dX9_tried_129 (by decide) ?_
      refine r_icmp_ne (tgt := 138) dX9_tried_130 (by decide) (fun hz => absurd (show _ from rfl) hz) (fun _ => ?_)
      refine r_iload dX9_tried_133 rfl ?_
      refine r_goto (tgt := 140) dX9_tried_135 (by decide) ?_
      refine r_iret rfl dX9_tried_140 ?_
      exact pK.is hC0 am_is.mk
    · subst e9
      rw [show trV law Hs M un 0 2 = nI 0 from rfl]
      refine r_aload_n dX9_tried_0 rfl ?_
      refine r_iload_n dX9_tried_1 rfl ?_
      refine r_iconst (v := nI 3) dX9_tried_2 (by decide) ?_
      refine r_virtV (m0_What o (nI law) (nI 3) ((by rw [decide_eq_false (z_nlt (by omega)), decide_eq_true ((nI_ltI (by omega) (by omega)).mpr (by omega))]; rfl))) lk_X9_162 mc_X9_mustBeWhat dX9_tried_3 x0 (by decide) rfl rfl (Nat.le_of_ble_eq_true rfl) ?_
      refine r_aload_n dX9_tried_6 rfl ?_
      refine r_iload dX9_tried_7 rfl ?_
      refine r_iconst (v := nI 3) dX9_tried_9 (by decide) ?_
      refine r_virtV (m0_What o (nI 2) (nI 3) ((by decide))) lk_X9_162 mc_X9_mustBeWhat dX9_tried_10 x0 (by decide) rfl rfl (Nat.le_of_ble_eq_true rfl) ?_
      refine r_iload_n dX9_tried_13 rfl ?_
      refine r_if_lt (tgt := 34) dX9_tried_14 (by decide) (fun hz => absurd hz (show ¬ _ from (z_nlt (by omega)))) (fun _ => ?_)
      refine r_iload_n dX9_tried_17 rfl ?_
      refine r_bipush (v := nI 40) dX9_tried_18 (by decide) ?_
      refine r_icmp_gt (tgt := 34) dX9_tried_20 (by decide) (fun hz => absurd hz (show ¬ _ from (by rw [nI_ltI (by omega) (by omega)]; omega))) (fun _ => ?_)
      refine r_iload_n dX9_tried_23 rfl ?_
      refine r_iconst (v := nI 1) dX9_tried_24 (by decide) ?_
      refine r_icmp_lt (tgt := 34) dX9_tried_25 (by decide) (fun hz => absurd hz (show ¬ _ from (by rw [nI_ltI (by omega) (by omega)]; omega))) (fun _ => ?_)
      refine r_iload_n dX9_tried_28 rfl ?_
      refine r_bipush (v := nI 8) dX9_tried_29 (by decide) ?_
      refine r_icmp_le (tgt := 42) dX9_tried_31 (by decide) (fun _ => ?_) (fun hz => absurd (show _ from (by rw [nI_leI (by omega) (by omega)]; omega)) hz)
      refine r_iconst (v := nI 0) dX9_tried_42 (by decide) ?_
      refine r_istore dX9_tried_43 (by decide) ?_
      refine r_iconst (v := (-1)) dX9_tried_45 (by decide) ?_
      refine r_istore dX9_tried_46 (by decide) ?_
      refine r_iconst (v := nI 0) dX9_tried_48 (by decide) ?_
      refine r_istore dX9_tried_49 (by decide) ?_
      refine r_iconst (v := nI 0) dX9_tried_51 (by decide) ?_
      refine r_istore dX9_tried_52 (by decide) ?_
      refine r_iload dX9_tried_54 rfl ?_
      refine r_iload_n dX9_tried_56 rfl ?_
      refine r_icmp_ge (tgt := 117) dX9_tried_57 (by decide) (fun _ => ?_) (fun hz => absurd (show _ from (by rw [nI_leI (by omega) (by omega)]; omega)) hz)
      refine r_iload dX9_tried_117 rfl ?_
      refine r_if_ne (tgt := 127) dX9_tried_119 (by decide) (fun _ => ?_) (fun hz => absurd hz (show ¬ _ from (by decide)))
      refine r_iload dX9_tried_127 rfl ?_
      refine r_iconst (v := nI 1) dX9_tried_129 (by decide) ?_
      refine r_icmp_ne (tgt := 138) dX9_tried_130 (by decide) (fun _ => ?_) (fun hz => absurd hz (show ¬ _ from (by decide)))
      refine r_iload dX9_tried_138 rfl ?_
      refine r_iret rfl dX9_tried_140 ?_
      exact pK.is hC0 am_is.mk
  · skip
    refine r_aload_n dX9_tried_0 rfl ?_
    refine r_iload_n dX9_tried_1 rfl ?_
    refine r_iconst (v := nI 3) dX9_tried_2 (by decide) ?_
    refine r_virtV (m0_What o (nI law) (nI 3) ((by rw [decide_eq_false (z_nlt (by omega)), decide_eq_true ((nI_ltI (by omega) (by omega)).mpr (by omega))]; rfl))) lk_X9_162 mc_X9_mustBeWhat dX9_tried_3 x0 (by decide) rfl rfl (Nat.le_of_ble_eq_true rfl) ?_
    refine r_aload_n dX9_tried_6 rfl ?_
    refine r_iload dX9_tried_7 rfl ?_
    refine r_iconst (v := nI 3) dX9_tried_9 (by decide) ?_
    refine r_virtV (m0_What o (nI wh) (nI 3) ((by rw [decide_eq_false (z_nlt (by omega)), decide_eq_true ((nI_ltI (by omega) (by omega)).mpr (by omega))]; rfl))) lk_X9_162 mc_X9_mustBeWhat dX9_tried_10 x0 (by decide) rfl rfl (Nat.le_of_ble_eq_true rfl) ?_
    refine r_iload_n dX9_tried_13 rfl ?_
    refine r_if_lt (tgt := 34) dX9_tried_14 (by decide) (fun hz => absurd hz (show ¬ _ from (z_nlt (by omega)))) (fun _ => ?_)
    refine r_iload_n dX9_tried_17 rfl ?_
    refine r_bipush (v := nI 40) dX9_tried_18 (by decide) ?_
    refine r_icmp_gt (tgt := 34) dX9_tried_20 (by decide) (fun hz => absurd hz (show ¬ _ from (by rw [nI_ltI (by omega) (by omega)]; omega))) (fun _ => ?_)
    refine r_iload_n dX9_tried_23 rfl ?_
    refine r_iconst (v := nI 1) dX9_tried_24 (by decide) ?_
    refine r_icmp_lt (tgt := 34) dX9_tried_25 (by decide) (fun hz => absurd hz (show ¬ _ from (by rw [nI_ltI (by omega) (by omega)]; omega))) (fun _ => ?_)
    refine r_iload_n dX9_tried_28 rfl ?_
    refine r_bipush (v := nI 8) dX9_tried_29 (by decide) ?_
    refine r_icmp_le (tgt := 42) dX9_tried_31 (by decide) (fun _ => ?_) (fun hz => absurd (show _ from (by rw [nI_leI (by omega) (by omega)]; omega)) hz)
    refine r_iconst (v := nI 0) dX9_tried_42 (by decide) ?_
    refine r_istore dX9_tried_43 (by decide) ?_
    refine r_iconst (v := (-1)) dX9_tried_45 (by decide) ?_
    refine r_istore dX9_tried_46 (by decide) ?_
    refine r_iconst (v := nI 0) dX9_tried_48 (by decide) ?_
    refine r_istore dX9_tried_49 (by decide) ?_
    refine r_iconst (v := nI 0) dX9_tried_51 (by decide) ?_
    refine r_istore dX9_tried_52 (by decide) ?_
    have hT0 : trI n kd I J P o b s f l M (bz un) n kd I J P := ⟨hX, hMo, hu, hsc.w, trF.rf⟩
    have hinv : (P (o + 56) 3 ≠ none ∧ n ≤ n + 1) ∨ (n = n ∧ 1 ≤ 1 ∧ 10240 ≤ 10240) := Or.inr ⟨rfl, Nat.le_refl _, Nat.le_refl _⟩
    refine RuZ.mono (tq_loop o b s f l M Hs law S wh (bz un) hM20.1 hM20.2 hH1 hHs8 hlaw hwh hS40 (by omega) hn9 S 0 none 1 10240 n kd I J P (by omega) (Nat.le_refl _) hinv hT0 (Or.inl rfl)) (fun y n1 kd1 I1 J1 P1 hx => ?_)
    obtain ⟨hv, ⟨hn1, hn2⟩, hT1, h18⟩ := hx
    rw [hun] at hv
    obtain ⟨t1, t2, t3, t4, t5, t6⟩ := hT1.2.2.2.2
    refine ⟨hv, ⟨hn1, hn2⟩, fun q => ?_, fun a a1 a2 => ⟨t1 a (by omega), t2 a (by omega) (by omega) (by omega) (by omega) (by omega) (by omega) (hne a (by omega)), t4 a (by omega) (by omega), t5 a (by omega) (by omega) (by omega) (by omega)⟩, b, s, f, l, ?_⟩
    · rcases t6 with r | ⟨z, _, r⟩
      · rw [r]; exact q
      · rw [r]; exact fun x => nomatch x
    · exact hC0.tr ho9 hn1 hT1 (h18.resolve_left hS0)

set_option maxHeartbeats 4000000 in
set_option maxRecDepth 100000 in
theorem k_tried_nse (o b s f l : Nat) (y1 y2 y3 y4 : Int32) {t : Nat} {T : Nat → Nat} {fp : Int32} {rr : Nat → Int32} {H M : Nat} {un : Bool} {cs : Nat → List Nat} {tx : Nat → List Int32} {e : Lf} {im : Option Lf} {wk : Option (List Nat)} {n : Nat} {kd : mK} {I : mI} {J : mJ} {P : mP} (hC : CR o b s f l n kd I J P t T fp rr H M un cs tx e im wk) (hz : okZ t T H M cs e) (hb : ((!decide (y1 < 0) && decide (y1 < nI 3)) && (!decide (y4 < 0) && decide (y4 < nI 3))) = false) : Ct yX9_tried cX9_tried 10 (some .int) 63 1 10240 [.ref o, .int y1, .int y2, .int y3, .int y4] n kd I J P (fun z n' kd' I' J' P' => z = .inr "java/util/NoSuchElementException" ∧ n' = n ∧ kd' = kd ∧ I' = I ∧ J' = J ∧ P' = P) := by
  obtain ⟨hX, hsc, hT, hSt, hLf, hIm, hWk, hQc, hPc⟩ := hC
  obtain ⟨okt, oks, okl⟩ := hz
  have hS := hX.S
  have hL := hX.L
  have hat := hX.at
  have hH8 : H ≤ 8 := oks.2.1
  have hM20 : 2 ≤ M ∧ M ≤ 20 := oks.1
  have hH : I b 0 = nI H := hSt.1.1
  have hMo : I b 1 = nI M := hSt.2.1
  obtain ⟨⟨x0, x1, x2⟩, -, ⟨-, -, hLk⟩, ⟨hQ, hA, hG, hW, hRd, hD, hPg⟩, ⟨p0, p3, p8, p10, p12, p13, p14, p15, p16, p17⟩, ⟨p4, p5, p6, p7⟩, -, -, -⟩ := id hX
  refine ct_of 5 (by decide +kernel) (Nat.le_of_ble_eq_true rfl) rfl ?_
  by_cases h1 : (!decide (y1 < 0) && decide (y1 < nI 3)) = true
  · rw [h1, Bool.true_and] at hb
    refine r_aload_n dX9_tried_0 rfl ?_
    refine r_iload_n dX9_tried_1 rfl ?_
    refine r_iconst (v := nI 3) dX9_tried_2 (by decide) ?_
    refine r_virtV (m0_What o (y1) (nI 3) (h1)) lk_X9_162 mc_X9_mustBeWhat dX9_tried_3 x0 (by decide) rfl rfl (Nat.le_of_ble_eq_true rfl) ?_
    refine r_aload_n dX9_tried_6 rfl ?_
    refine r_iload dX9_tried_7 rfl ?_
    refine r_iconst (v := nI 3) dX9_tried_9 (by decide) ?_
    have hc10 := c_X9_mustBeWhat (n := n) (kd := kd) (I := I) (J := J) (P := P) o (y4) (nI 3)
    rw [hb] at hc10
    exact r_virtX hc10 lk_X9_162 mc_X9_mustBeWhat dX9_tried_10 x0 (by decide) rfl rfl (Nat.le_of_ble_eq_true rfl) (by decide) (by decide) ⟨rfl, rfl, rfl, rfl, rfl, rfl⟩
  · simp only [Bool.not_eq_true] at h1
    refine r_aload_n dX9_tried_0 rfl ?_
    refine r_iload_n dX9_tried_1 rfl ?_
    refine r_iconst (v := nI 3) dX9_tried_2 (by decide) ?_
    have hc3 := c_X9_mustBeWhat (n := n) (kd := kd) (I := I) (J := J) (P := P) o (y1) (nI 3)
    rw [h1] at hc3
    exact r_virtX hc3 lk_X9_162 mc_X9_mustBeWhat dX9_tried_3 x0 (by decide) rfl rfl (Nat.le_of_ble_eq_true rfl) (by decide) (by decide) ⟨rfl, rfl, rfl, rfl, rfl, rfl⟩

set_option maxHeartbeats 4000000 in
set_option maxRecDepth 100000 in
theorem k_tried_iae (o b s f l : Nat) (y1 y2 y3 y4 : Int32) {t : Nat} {T : Nat → Nat} {fp : Int32} {rr : Nat → Int32} {H M : Nat} {un : Bool} {cs : Nat → List Nat} {tx : Nat → List Int32} {e : Lf} {im : Option Lf} {wk : Option (List Nat)} {n : Nat} {kd : mK} {I : mI} {J : mJ} {P : mP} (hC : CR o b s f l n kd I J P t T fp rr H M un cs tx e im wk) (hz : okZ t T H M cs e) (h1 : (!decide (y1 < 0) && decide (y1 < nI 3)) = true) (h4 : (!decide (y4 < 0) && decide (y4 < nI 3)) = true) (hb : y2 < 0 ∨ nI 40 < y2 ∨ y3 < nI 1 ∨ nI 8 < y3) : Ct yX9_tried cX9_tried 10 (some .int) 63 1 10240 [.ref o, .int y1, .int y2, .int y3, .int y4] n kd I J P (fun z n' kd' I' J' P' => z = .inr "java/lang/IllegalArgumentException" ∧ n' = n ∧ kd' = kd ∧ I' = I ∧ J' = J ∧ P' = P) := by
  obtain ⟨hX, hsc, hT, hSt, hLf, hIm, hWk, hQc, hPc⟩ := hC
  obtain ⟨okt, oks, okl⟩ := hz
  have hS := hX.S
  have hL := hX.L
  have hat := hX.at
  have hH8 : H ≤ 8 := oks.2.1
  have hM20 : 2 ≤ M ∧ M ≤ 20 := oks.1
  have hH : I b 0 = nI H := hSt.1.1
  have hMo : I b 1 = nI M := hSt.2.1
  obtain ⟨⟨x0, x1, x2⟩, -, ⟨-, -, hLk⟩, ⟨hQ, hA, hG, hW, hRd, hD, hPg⟩, ⟨p0, p3, p8, p10, p12, p13, p14, p15, p16, p17⟩, ⟨p4, p5, p6, p7⟩, -, -, -⟩ := id hX
  refine ct_of 5 (by decide +kernel) (Nat.le_of_ble_eq_true rfl) rfl ?_
  by_cases c1 : y2 < 0
  · skip
    refine r_aload_n dX9_tried_0 rfl ?_
    refine r_iload_n dX9_tried_1 rfl ?_
    refine r_iconst (v := nI 3) dX9_tried_2 (by decide) ?_
    refine r_virtV (m0_What o (y1) (nI 3) (h1)) lk_X9_162 mc_X9_mustBeWhat dX9_tried_3 x0 (by decide) rfl rfl (Nat.le_of_ble_eq_true rfl) ?_
    refine r_aload_n dX9_tried_6 rfl ?_
    refine r_iload dX9_tried_7 rfl ?_
    refine r_iconst (v := nI 3) dX9_tried_9 (by decide) ?_
    refine r_virtV (m0_What o (y4) (nI 3) (h4)) lk_X9_162 mc_X9_mustBeWhat dX9_tried_10 x0 (by decide) rfl rfl (Nat.le_of_ble_eq_true rfl) ?_
    refine r_iload_n dX9_tried_13 rfl ?_
    refine r_if_lt (tgt := 34) dX9_tried_14 (by decide) (fun _ => ?_) (fun hz => absurd (show _ from c1) hz)
    refine r_throw (cls := "java/lang/IllegalArgumentException") (names := ["java/lang/RuntimeException", "java/lang/Exception"]) dX9_tried_34 dX9_tried_37 dX9_tried_38 dX9_tried_41 (by decide +kernel) (by decide +kernel) cl_X9_110 xi_IllegalArgumentException xa_iae xb_iae (by decide) (Nat.le_of_ble_eq_true rfl) (by omega) (by omega) ?_
    exact ⟨rfl, rfl, rfl, rfl, rfl, rfl⟩
  · by_cases c2 : nI 40 < y2
    · skip
      refine r_aload_n dX9_tried_0 rfl ?_
      refine r_iload_n dX9_tried_1 rfl ?_
      refine r_iconst (v := nI 3) dX9_tried_2 (by decide) ?_
      refine r_virtV (m0_What o (y1) (nI 3) (h1)) lk_X9_162 mc_X9_mustBeWhat dX9_tried_3 x0 (by decide) rfl rfl (Nat.le_of_ble_eq_true rfl) ?_
      refine r_aload_n dX9_tried_6 rfl ?_
      refine r_iload dX9_tried_7 rfl ?_
      refine r_iconst (v := nI 3) dX9_tried_9 (by decide) ?_
      refine r_virtV (m0_What o (y4) (nI 3) (h4)) lk_X9_162 mc_X9_mustBeWhat dX9_tried_10 x0 (by decide) rfl rfl (Nat.le_of_ble_eq_true rfl) ?_
      refine r_iload_n dX9_tried_13 rfl ?_
      refine r_if_lt (tgt := 34) dX9_tried_14 (by decide) (fun hz => absurd hz (show ¬ _ from c1)) (fun _ => ?_)
      refine r_iload_n dX9_tried_17 rfl ?_
      refine r_bipush (v := nI 40) dX9_tried_18 (by decide) ?_
      refine r_icmp_gt (tgt := 34) dX9_tried_20 (by decide) (fun _ => ?_) (fun hz => absurd (show _ from c2) hz)
      refine r_throw (cls := "java/lang/IllegalArgumentException") (names := ["java/lang/RuntimeException", "java/lang/Exception"]) dX9_tried_34 dX9_tried_37 dX9_tried_38 dX9_tried_41 (by decide +kernel) (by decide +kernel) cl_X9_110 xi_IllegalArgumentException xa_iae xb_iae (by decide) (Nat.le_of_ble_eq_true rfl) (by omega) (by omega) ?_
      exact ⟨rfl, rfl, rfl, rfl, rfl, rfl⟩
    · by_cases c3 : y3 < nI 1
      · skip
        refine r_aload_n dX9_tried_0 rfl ?_
        refine r_iload_n dX9_tried_1 rfl ?_
        refine r_iconst (v := nI 3) dX9_tried_2 (by decide) ?_
        refine r_virtV (m0_What o (y1) (nI 3) (h1)) lk_X9_162 mc_X9_mustBeWhat dX9_tried_3 x0 (by decide) rfl rfl (Nat.le_of_ble_eq_true rfl) ?_
        refine r_aload_n dX9_tried_6 rfl ?_
        refine r_iload dX9_tried_7 rfl ?_
        refine r_iconst (v := nI 3) dX9_tried_9 (by decide) ?_
        refine r_virtV (m0_What o (y4) (nI 3) (h4)) lk_X9_162 mc_X9_mustBeWhat dX9_tried_10 x0 (by decide) rfl rfl (Nat.le_of_ble_eq_true rfl) ?_
        refine r_iload_n dX9_tried_13 rfl ?_
        refine r_if_lt (tgt := 34) dX9_tried_14 (by decide) (fun hz => absurd hz (show ¬ _ from c1)) (fun _ => ?_)
        refine r_iload_n dX9_tried_17 rfl ?_
        refine r_bipush (v := nI 40) dX9_tried_18 (by decide) ?_
        refine r_icmp_gt (tgt := 34) dX9_tried_20 (by decide) (fun hz => absurd hz (show ¬ _ from c2)) (fun _ => ?_)
        refine r_iload_n dX9_tried_23 rfl ?_
        refine r_iconst (v := nI 1) dX9_tried_24 (by decide) ?_
        refine r_icmp_lt (tgt := 34) dX9_tried_25 (by decide) (fun _ => ?_) (fun hz => absurd (show _ from c3) hz)
        refine r_throw (cls := "java/lang/IllegalArgumentException") (names := ["java/lang/RuntimeException", "java/lang/Exception"]) dX9_tried_34 dX9_tried_37 dX9_tried_38 dX9_tried_41 (by decide +kernel) (by decide +kernel) cl_X9_110 xi_IllegalArgumentException xa_iae xb_iae (by decide) (Nat.le_of_ble_eq_true rfl) (by omega) (by omega) ?_
        exact ⟨rfl, rfl, rfl, rfl, rfl, rfl⟩
      · have c4 : nI 8 < y3 := ((hb.resolve_left c1).resolve_left c2).resolve_left c3
        refine r_aload_n dX9_tried_0 rfl ?_
        refine r_iload_n dX9_tried_1 rfl ?_
        refine r_iconst (v := nI 3) dX9_tried_2 (by decide) ?_
        refine r_virtV (m0_What o (y1) (nI 3) (h1)) lk_X9_162 mc_X9_mustBeWhat dX9_tried_3 x0 (by decide) rfl rfl (Nat.le_of_ble_eq_true rfl) ?_
        refine r_aload_n dX9_tried_6 rfl ?_
        refine r_iload dX9_tried_7 rfl ?_
        refine r_iconst (v := nI 3) dX9_tried_9 (by decide) ?_
        refine r_virtV (m0_What o (y4) (nI 3) (h4)) lk_X9_162 mc_X9_mustBeWhat dX9_tried_10 x0 (by decide) rfl rfl (Nat.le_of_ble_eq_true rfl) ?_
        refine r_iload_n dX9_tried_13 rfl ?_
        refine r_if_lt (tgt := 34) dX9_tried_14 (by decide) (fun hz => absurd hz (show ¬ _ from c1)) (fun _ => ?_)
        refine r_iload_n dX9_tried_17 rfl ?_
        refine r_bipush (v := nI 40) dX9_tried_18 (by decide) ?_
        refine r_icmp_gt (tgt := 34) dX9_tried_20 (by decide) (fun hz => absurd hz (show ¬ _ from c2)) (fun _ => ?_)
        refine r_iload_n dX9_tried_23 rfl ?_
        refine r_iconst (v := nI 1) dX9_tried_24 (by decide) ?_
        refine r_icmp_lt (tgt := 34) dX9_tried_25 (by decide) (fun hz => absurd hz (show ¬ _ from c3)) (fun _ => ?_)
        refine r_iload_n dX9_tried_28 rfl ?_
        refine r_bipush (v := nI 8) dX9_tried_29 (by decide) ?_
        refine r_icmp_le (tgt := 42) dX9_tried_31 (by decide) (fun hz => absurd hz (show ¬ _ from (Int32.not_le.mpr c4))) (fun _ => ?_)
        refine r_throw (cls := "java/lang/IllegalArgumentException") (names := ["java/lang/RuntimeException", "java/lang/Exception"]) dX9_tried_34 dX9_tried_37 dX9_tried_38 dX9_tried_41 (by decide +kernel) (by decide +kernel) cl_X9_110 xi_IllegalArgumentException xa_iae xb_iae (by decide) (Nat.le_of_ble_eq_true rfl) (by omega) (by omega) ?_
        exact ⟨rfl, rfl, rfl, rfl, rfl, rfl⟩

