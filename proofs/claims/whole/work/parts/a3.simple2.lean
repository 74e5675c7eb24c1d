/-! MORE SMALL PUBLIC METHODS OF THE CLASS -/
theorem m1_lt {k : Nat} (h : k < 2 ^ 31) : (-1 : Int32) < nI k := by
  rw [Int32.lt_iff_toInt_lt, nI_toInt h, show (-1 : Int32).toInt = -1 by decide]
  omega
theorem had_2 {e : Lf} {h : Nat} : hadE e 2 h = if e.2.2.1 h then 1 else 0 := by unfold hadE; rw [if_neg (by decide), if_neg (by decide)]
set_option maxHeartbeats 4000000 in
set_option maxRecDepth 100000 in
theorem k_mute_ref (o b s f l : Nat) (h : Nat) (z : Bool) {t : Nat} {T : Nat → Nat} {fp : Int32} {rr : Nat → Int32} {H M : Nat} {un : Bool} {cs : Nat → List Nat} {tx : Nat → List Int32} {e : Lf} {im : Option Lf} {wk : Option (List Nat)} {n : Nat} {kd : mK} {I : mI} {J : mJ} {P : mP} (hC : CR o b s f l n kd I J P t T fp rr H M un cs tx e im wk) (hz : okZ t T H M cs e) (hh : h < H) (hm : (cs h).isEmpty = true ∨ e.2.2.1 h = z) : Ct yX9_mute cX9_mute 4 (some .boolean) 9 1 6 [.ref o, .int (nI h), .int (bz z)] n kd I J P (pK o n kd I J P (.inl (some (.int (nI 0)))) (CX o t T fp (va_up rr 1 (rr 1 + nI 1)) H M un cs tx e im wk)) := by
  have hC0 := hC
  obtain ⟨hX, hsc, hT, hSt, hLf, hIm, hWk, hQc, hPc⟩ := hC
  obtain ⟨okt, oks, okl⟩ := hz
  have hS := hX.S
  have hL := hX.L
  have hat := hX.at
  have hH8 : H ≤ 8 := oks.2.1
  have hM20 : 2 ≤ M ∧ M ≤ 20 := oks.1
  have hH : I b 0 = nI H := hSt.1.1
  have hMo : I b 1 = nI M := hSt.2.1
  obtain ⟨⟨x0, x1, x2⟩, -, ⟨-, -, hLk⟩, ⟨hQ, hA, hG, hW, hRd, hD, hPg⟩, ⟨p0, p3, p8, p10, p12, p13, p14, p15, p16, p17⟩, ⟨p4, p5, p6, p7⟩, -, -, -⟩ := id hX
  refine ct_of 1 (by decide +kernel) (Nat.le_of_ble_eq_true rfl) rfl ?_
  cases z with
  | false =>
    by_cases c : (cs h).isEmpty = true
    · have cw : bz (!(cs h).isEmpty) = nI 0 := by rw [c]; rfl
      refine r_aload_n dX9_mute_0 rfl ?_
      refine r_iload_n dX9_mute_1 rfl ?_
      refine r_virtV (m0_House o b (nI h) x0 p4 hS.1 (by rw [hH]; exact (isH_of hh (by omega)))) lk_X9_142 mc_X9_mustBeHouse dX9_mute_2 x0 (by decide) rfl rfl (Nat.le_of_ble_eq_true rfl) ?_
      refine r_iload_n dX9_mute_5 rfl ?_
      refine r_if_eq (tgt := 13) dX9_mute_6 (by decide) (fun _ => ?_) (fun hz => absurd (show _ from rfl) hz)
      refine r_iconst (v := nI 0) dX9_mute_13 (by decide) ?_
      refine r_istore_n dX9_mute_14 (by decide) ?_
      refine r_aload_n dX9_mute_15 rfl ?_
      refine r_getR dX9_mute_16 fl_X9_27 rfl (by assumption) (by assumption) ?_
      refine r_iload_n dX9_mute_19 rfl ?_
      refine r_virtE (c_X7_hasRiddle b (nI h) hS) lk_X9_151 mc_X7_hasRiddle dX9_mute_20 hS.1 (by decide) rfl rfl (Nat.le_of_ble_eq_true rfl) ?_
      rw [hasR_c hH8 hh hSt]
      rw [cw]
      refine r_if_eq (tgt := 39) dX9_mute_23 (by decide) (fun _ => ?_) (fun hz => absurd (show _ from rfl) hz)
      refine r_aload_n dX9_mute_39 rfl ?_
      refine r_getR dX9_mute_40 fl_X9_20 rfl (by assumption) (by assumption) ?_
      refine r_iconst (v := nI 1) dX9_mute_43 (by decide) ?_
      refine r_dup2 dX9_mute_44 rfl rfl ?_
      refine r_iald dX9_mute_45 x2 (nI_in8 3 (by decide) (by decide)) (show _ = 1 from nI_clamp (by decide)) ?_
      refine r_iconst (v := nI 1) dX9_mute_46 (by decide) ?_
      refine r_iadd dX9_mute_47 ?_
      refine r_iast dX9_mute_48 x2 (nI_in8 3 (by decide) (by decide)) (show _ = 1 from nI_clamp (by decide)) ?_
      refine r_iconst (v := nI 0) dX9_mute_49 (by decide) ?_
      refine r_zret rfl dX9_mute_50 (by first | exact Or.inl rfl | exact Or.inr rfl | assumption) ?_
      exact ⟨rfl, ⟨Nat.le_refl _, Nat.le_succ _⟩, fun q => q, fun a a1 a2 => ⟨rfl, am_up_n _ _ (by omega), rfl, rfl⟩, b, s, f, l, CR.ref (k := 1) (by decide) hC0⟩
    · have cf : (cs h).isEmpty = false := by cases hx : (cs h).isEmpty; rfl; exact absurd hx c
      have cw : bz (!(cs h).isEmpty) = nI 1 := by rw [cf]; rfl
      have cm : e.2.2.1 h = false := hm.resolve_left c
      have ch : hadE e 2 h = 0 := by rw [had_2, cm]; rfl
      refine r_aload_n dX9_mute_0 rfl ?_
      refine r_iload_n dX9_mute_1 rfl ?_
      refine r_virtV (m0_House o b (nI h) x0 p4 hS.1 (by rw [hH]; exact (isH_of hh (by omega)))) lk_X9_142 mc_X9_mustBeHouse dX9_mute_2 x0 (by decide) rfl rfl (Nat.le_of_ble_eq_true rfl) ?_
      refine r_iload_n dX9_mute_5 rfl ?_
      refine r_if_eq (tgt := 13) dX9_mute_6 (by decide) (fun _ => ?_) (fun hz => absurd (show _ from rfl) hz)
      refine r_iconst (v := nI 0) dX9_mute_13 (by decide) ?_
      refine r_istore_n dX9_mute_14 (by decide) ?_
      refine r_aload_n dX9_mute_15 rfl ?_
      refine r_getR dX9_mute_16 fl_X9_27 rfl (by assumption) (by assumption) ?_
      refine r_iload_n dX9_mute_19 rfl ?_
      refine r_virtE (c_X7_hasRiddle b (nI h) hS) lk_X9_151 mc_X7_hasRiddle dX9_mute_20 hS.1 (by decide) rfl rfl (Nat.le_of_ble_eq_true rfl) ?_
      rw [hasR_c hH8 hh hSt]
      rw [cw]
      refine r_if_eq (tgt := 39) dX9_mute_23 (by decide) (fun hz => absurd hz (show ¬ _ from (by decide))) (fun _ => ?_)
      refine r_aload_n dX9_mute_26 rfl ?_
      refine r_getR dX9_mute_27 fl_X9_37 rfl (by assumption) (by assumption) ?_
      refine r_iconst (v := nI 2) dX9_mute_30 (by decide) ?_
      refine r_iload_n dX9_mute_31 rfl ?_
      refine r_virtE (c_X2_had f h (nI 2) hL (by omega)) lk_X9_166 mc_X2_had dX9_mute_32 hL.1 (by decide) rfl rfl (Nat.le_of_ble_eq_true rfl) ?_
      rw [had_c (show 2 < 3 by omega) hh hH8 hLf]
      rw [ch]
      refine r_iload_n dX9_mute_35 rfl ?_
      refine r_icmp_ne (tgt := 51) dX9_mute_36 (by decide) (fun hz => absurd (show _ from rfl) hz) (fun _ => ?_)
      refine r_aload_n dX9_mute_39 rfl ?_
      refine r_getR dX9_mute_40 fl_X9_20 rfl (by assumption) (by assumption) ?_
      refine r_iconst (v := nI 1) dX9_mute_43 (by decide) ?_
      refine r_dup2 dX9_mute_44 rfl rfl ?_
      refine r_iald dX9_mute_45 x2 (nI_in8 3 (by decide) (by decide)) (show _ = 1 from nI_clamp (by decide)) ?_
      refine r_iconst (v := nI 1) dX9_mute_46 (by decide) ?_
      refine r_iadd dX9_mute_47 ?_
      refine r_iast dX9_mute_48 x2 (nI_in8 3 (by decide) (by decide)) (show _ = 1 from nI_clamp (by decide)) ?_
      refine r_iconst (v := nI 0) dX9_mute_49 (by decide) ?_
      refine r_zret rfl dX9_mute_50 (by first | exact Or.inl rfl | exact Or.inr rfl | assumption) ?_
      exact ⟨rfl, ⟨Nat.le_refl _, Nat.le_succ _⟩, fun q => q, fun a a1 a2 => ⟨rfl, am_up_n _ _ (by omega), rfl, rfl⟩, b, s, f, l, CR.ref (k := 1) (by decide) hC0⟩
  | true =>
    by_cases c : (cs h).isEmpty = true
    · have cw : bz (!(cs h).isEmpty) = nI 0 := by rw [c]; rfl
      refine r_aload_n dX9_mute_0 rfl ?_
      refine r_iload_n dX9_mute_1 rfl ?_
      refine r_virtV (m0_House o b (nI h) x0 p4 hS.1 (by rw [hH]; exact (isH_of hh (by omega)))) lk_X9_142 mc_X9_mustBeHouse dX9_mute_2 x0 (by decide) rfl rfl (Nat.le_of_ble_eq_true rfl) ?_
      refine r_iload_n dX9_mute_5 rfl ?_
      refine r_if_eq (tgt := 13) dX9_mute_6 (by decide) (fun hz => absurd hz (show ¬ _ from (by decide))) (fun _ => ?_)
      refine r_iconst (v := nI 1) dX9_mute_9 (by decide) ?_
      refine r_goto (tgt := 14) dX9_mute_10 (by decide) ?_
      refine r_istore_n dX9_mute_14 (by decide) ?_
      refine r_aload_n dX9_mute_15 rfl ?_
      refine r_getR dX9_mute_16 fl_X9_27 rfl (by assumption) (by assumption) ?_
      refine r_iload_n dX9_mute_19 rfl ?_
      refine r_virtE (c_X7_hasRiddle b (nI h) hS) lk_X9_151 mc_X7_hasRiddle dX9_mute_20 hS.1 (by decide) rfl rfl (Nat.le_of_ble_eq_true rfl) ?_
      rw [hasR_c hH8 hh hSt]
      rw [cw]
      refine r_if_eq (tgt := 39) dX9_mute_23 (by decide) (fun _ => ?_) (fun hz => absurd (show _ from rfl) hz)
      refine r_aload_n dX9_mute_39 rfl ?_
      refine r_getR dX9_mute_40 fl_X9_20 rfl (by assumption) (by assumption) ?_
      refine r_iconst (v := nI 1) dX9_mute_43 (by decide) ?_
      refine r_dup2 dX9_mute_44 rfl rfl ?_
      refine r_iald dX9_mute_45 x2 (nI_in8 3 (by decide) (by decide)) (show _ = 1 from nI_clamp (by decide)) ?_
      refine r_iconst (v := nI 1) dX9_mute_46 (by decide) ?_
      refine r_iadd dX9_mute_47 ?_
      refine r_iast dX9_mute_48 x2 (nI_in8 3 (by decide) (by decide)) (show _ = 1 from nI_clamp (by decide)) ?_
      refine r_iconst (v := nI 0) dX9_mute_49 (by decide) ?_
      refine r_zret rfl dX9_mute_50 (by first | exact Or.inl rfl | exact Or.inr rfl | assumption) ?_
      exact ⟨rfl, ⟨Nat.le_refl _, Nat.le_succ _⟩, fun q => q, fun a a1 a2 => ⟨rfl, am_up_n _ _ (by omega), rfl, rfl⟩, b, s, f, l, CR.ref (k := 1) (by decide) hC0⟩
    · have cf : (cs h).isEmpty = false := by cases hx : (cs h).isEmpty; rfl; exact absurd hx c
      have cw : bz (!(cs h).isEmpty) = nI 1 := by rw [cf]; rfl
      have cm : e.2.2.1 h = true := hm.resolve_left c
      have ch : hadE e 2 h = 1 := by rw [had_2, cm]; rfl
      refine r_aload_n dX9_mute_0 rfl ?_
      refine r_iload_n dX9_mute_1 rfl ?_
      refine r_virtV (m0_House o b (nI h) x0 p4 hS.1 (by rw [hH]; exact (isH_of hh (by omega)))) lk_X9_142 mc_X9_mustBeHouse dX9_mute_2 x0 (by decide) rfl rfl (Nat.le_of_ble_eq_true rfl) ?_
      refine r_iload_n dX9_mute_5 rfl ?_
      refine r_if_eq (tgt := 13) dX9_mute_6 (by decide) (fun hz => absurd hz (show ¬ _ from (by decide))) (fun _ => ?_)
      refine r_iconst (v := nI 1) dX9_mute_9 (by decide) ?_
      refine r_goto (tgt := 14) dX9_mute_10 (by decide) ?_
      refine r_istore_n dX9_mute_14 (by decide) ?_
      refine r_aload_n dX9_mute_15 rfl ?_
      refine r_getR dX9_mute_16 fl_X9_27 rfl (by assumption) (by assumption) ?_
      refine r_iload_n dX9_mute_19 rfl ?_
      refine r_virtE (c_X7_hasRiddle b (nI h) hS) lk_X9_151 mc_X7_hasRiddle dX9_mute_20 hS.1 (by decide) rfl rfl (Nat.le_of_ble_eq_true rfl) ?_
      rw [hasR_c hH8 hh hSt]
      rw [cw]
      refine r_if_eq (tgt := 39) dX9_mute_23 (by decide) (fun hz => absurd hz (show ¬ _ from (by decide))) (fun _ => ?_)
      refine r_aload_n dX9_mute_26 rfl ?_
      refine r_getR dX9_mute_27 fl_X9_37 rfl (by assumption) (by assumption) ?_
      refine r_iconst (v := nI 2) dX9_mute_30 (by decide) ?_
      refine r_iload_n dX9_mute_31 rfl ?_
      refine r_virtE (c_X2_had f h (nI 2) hL (by omega)) lk_X9_166 mc_X2_had dX9_mute_32 hL.1 (by decide) rfl rfl (Nat.le_of_ble_eq_true rfl) ?_
      rw [had_c (show 2 < 3 by omega) hh hH8 hLf]
      rw [ch]
      refine r_iload_n dX9_mute_35 rfl ?_
      refine r_icmp_ne (tgt := 51) dX9_mute_36 (by decide) (fun hz => absurd (show _ from rfl) hz) (fun _ => ?_)
      refine r_aload_n dX9_mute_39 rfl ?_
      refine r_getR dX9_mute_40 fl_X9_20 rfl (by assumption) (by assumption) ?_
      refine r_iconst (v := nI 1) dX9_mute_43 (by decide) ?_
      refine r_dup2 dX9_mute_44 rfl rfl ?_
      refine r_iald dX9_mute_45 x2 (nI_in8 3 (by decide) (by decide)) (show _ = 1 from nI_clamp (by decide)) ?_
      refine r_iconst (v := nI 1) dX9_mute_46 (by decide) ?_
      refine r_iadd dX9_mute_47 ?_
      refine r_iast dX9_mute_48 x2 (nI_in8 3 (by decide) (by decide)) (show _ = 1 from nI_clamp (by decide)) ?_
      refine r_iconst (v := nI 0) dX9_mute_49 (by decide) ?_
      refine r_zret rfl dX9_mute_50 (by first | exact Or.inl rfl | exact Or.inr rfl | assumption) ?_
      exact ⟨rfl, ⟨Nat.le_refl _, Nat.le_succ _⟩, fun q => q, fun a a1 a2 => ⟨rfl, am_up_n _ _ (by omega), rfl, rfl⟩, b, s, f, l, CR.ref (k := 1) (by decide) hC0⟩

set_option maxHeartbeats 4000000 in
set_option maxRecDepth 100000 in
theorem k_mute (o b s f l : Nat) (h : Nat) (z : Bool) {t : Nat} {T : Nat → Nat} {fp : Int32} {rr : Nat → Int32} {H M : Nat} {un : Bool} {cs : Nat → List Nat} {tx : Nat → List Int32} {e : Lf} {im : Option Lf} {wk : Option (List Nat)} {n : Nat} {kd : mK} {I : mI} {J : mJ} {P : mP} (hC : CR o b s f l n kd I J P t T fp rr H M un cs tx e im wk) (hz : okZ t T H M cs e) (hh : h < H) (cf : (cs h).isEmpty = false) (hm : ¬ e.2.2.1 h = z) : Ct yX9_mute cX9_mute 4 (some .boolean) 9 1 6 [.ref o, .int (nI h), .int (bz z)] n kd I J P (pK o n kd I J P (.inl (some (.int (nI 1)))) (CX o t T fp rr H M un cs tx (actE e 2 h (if z then 1 else 0)) im wk)) := by
  have hC0 := hC
  obtain ⟨hX, hsc, hT, hSt, hLf, hIm, hWk, hQc, hPc⟩ := hC
  obtain ⟨okt, oks, okl⟩ := hz
  have hS := hX.S
  have hL := hX.L
  have hat := hX.at
  have hH8 : H ≤ 8 := oks.2.1
  have hM20 : 2 ≤ M ∧ M ≤ 20 := oks.1
  have hH : I b 0 = nI H := hSt.1.1
  have hMo : I b 1 = nI M := hSt.2.1
  obtain ⟨⟨x0, x1, x2⟩, -, ⟨-, -, hLk⟩, ⟨hQ, hA, hG, hW, hRd, hD, hPg⟩, ⟨p0, p3, p8, p10, p12, p13, p14, p15, p16, p17⟩, ⟨p4, p5, p6, p7⟩, -, -, -⟩ := id hX
  refine ct_of 1 (by decide +kernel) (Nat.le_of_ble_eq_true rfl) rfl ?_
  cases z with
  | false =>
    have cw : bz (!(cs h).isEmpty) = nI 1 := by rw [cf]; rfl
    have ch : hadE e 2 h = 1 := by rw [had_2]; cases hx : e.2.2.1 h <;> simp_all
    refine r_aload_n dX9_mute_0 rfl ?_
    refine r_iload_n dX9_mute_1 rfl ?_
    refine r_virtV (m0_House o b (nI h) x0 p4 hS.1 (by rw [hH]; exact (isH_of hh (by omega)))) lk_X9_142 mc_X9_mustBeHouse dX9_mute_2 x0 (by decide) rfl rfl (Nat.le_of_ble_eq_true rfl) ?_
    refine r_iload_n dX9_mute_5 rfl ?_
    refine r_if_eq (tgt := 13) dX9_mute_6 (by decide) (fun _ => ?_) (fun hz => absurd (show _ from rfl) hz)
    refine r_iconst (v := nI 0) dX9_mute_13 (by decide) ?_
    refine r_istore_n dX9_mute_14 (by decide) ?_
    refine r_aload_n dX9_mute_15 rfl ?_
    refine r_getR dX9_mute_16 fl_X9_27 rfl (by assumption) (by assumption) ?_
    refine r_iload_n dX9_mute_19 rfl ?_
    refine r_virtE (c_X7_hasRiddle b (nI h) hS) lk_X9_151 mc_X7_hasRiddle dX9_mute_20 hS.1 (by decide) rfl rfl (Nat.le_of_ble_eq_true rfl) ?_
    rw [hasR_c hH8 hh hSt]
    rw [cw]
    refine r_if_eq (tgt := 39) dX9_mute_23 (by decide) (fun hz => absurd hz (show ¬ _ from (by decide))) (fun _ => ?_)
    refine r_aload_n dX9_mute_26 rfl ?_
    refine r_getR dX9_mute_27 fl_X9_37 rfl (by assumption) (by assumption) ?_
    refine r_iconst (v := nI 2) dX9_mute_30 (by decide) ?_
    refine r_iload_n dX9_mute_31 rfl ?_
    refine r_virtE (c_X2_had f h (nI 2) hL (by omega)) lk_X9_166 mc_X2_had dX9_mute_32 hL.1 (by decide) rfl rfl (Nat.le_of_ble_eq_true rfl) ?_
    rw [had_c (show 2 < 3 by omega) hh hH8 hLf]
    rw [ch]
    refine r_iload_n dX9_mute_35 rfl ?_
    refine r_icmp_ne (tgt := 51) dX9_mute_36 (by decide) (fun _ => ?_) (fun hz => absurd hz (show ¬ _ from (by decide)))
    refine r_aload_n dX9_mute_51 rfl ?_
    refine r_getR dX9_mute_52 fl_X9_37 rfl (by assumption) (by assumption) ?_
    refine r_iconst (v := nI 2) dX9_mute_55 (by decide) ?_
    refine r_iload_n dX9_mute_56 rfl ?_
    refine r_iload_n dX9_mute_57 rfl ?_
    refine r_virt (kc2 := 0) (ks2 := 0) (c_X2_act f H M 2 h 0 e hL (by omega) hh hH8 (fun q => by omega) hLf okl) lk_X9_170 mc_X2_act dX9_mute_58 hL.1 (by decide) rfl rfl (Nat.le_of_ble_eq_true rfl) (by omega) (by omega) (fun _ _ _ _ _ _ h => nomatch h.1) (fun v1 n1 kd1 I1 J1 P1 h1 => ?_)
    obtain ⟨h0, rfl, rfl, rfl, rfl, hfr, hcl⟩ := h1
    cases h0
    simp only [Option.toList, List.nil_append]
    refine r_aload_n dX9_mute_61 rfl ?_
    refine r_virtV (c_X9_forget o x0) lk_X9_174 mc_X9_forget dX9_mute_62 x0 (by decide) rfl rfl (Nat.le_of_ble_eq_true rfl) ?_
    refine r_iconst (v := nI 1) dX9_mute_65 (by decide) ?_
    refine r_zret rfl dX9_mute_66 (by first | exact Or.inl rfl | exact Or.inr rfl | assumption) ?_
    exact ⟨rfl, ⟨Nat.le_refl _, Nat.le_succ _⟩, fun q => q, fun a a1 a2 => ⟨rfl, by rw [am_up_n _ _ (by omega)]; exact hfr a (by omega), rfl, rfl⟩, b, s, f, l, CR.life (fun a a1 a2 => by rw [am_up_n _ _ a1]; exact hfr a a2) (fun j j1 j2 => by rw [am_up_s, am_up_n _ _ j2, am_up_n _ _ j1, hfr o (by omega)]) (by rw [am_up_s, am_up_n _ _ (by decide), am_up_s]) (by rw [am_up_s, am_up_s]) (hcl.cg (fun a a1 a2 => am_up_n _ _ (by omega))) hC0⟩
  | true =>
    have cw : bz (!(cs h).isEmpty) = nI 1 := by rw [cf]; rfl
    have ch : hadE e 2 h = 0 := by rw [had_2]; cases hx : e.2.2.1 h <;> simp_all
    refine r_aload_n dX9_mute_0 rfl ?_
    refine r_iload_n dX9_mute_1 rfl ?_
    refine r_virtV (m0_House o b (nI h) x0 p4 hS.1 (by rw [hH]; exact (isH_of hh (by omega)))) lk_X9_142 mc_X9_mustBeHouse dX9_mute_2 x0 (by decide) rfl rfl (Nat.le_of_ble_eq_true rfl) ?_
    refine r_iload_n dX9_mute_5 rfl ?_
    refine r_if_eq (tgt := 13) dX9_mute_6 (by decide) (fun hz => absurd hz (show ¬ _ from (by decide))) (fun _ => ?_)
    refine r_iconst (v := nI 1) dX9_mute_9 (by decide) ?_
    refine r_goto (tgt := 14) dX9_mute_10 (by decide) ?_
    refine r_istore_n dX9_mute_14 (by decide) ?_
    refine r_aload_n dX9_mute_15 rfl ?_
    refine r_getR dX9_mute_16 fl_X9_27 rfl (by assumption) (by assumption) ?_
    refine r_iload_n dX9_mute_19 rfl ?_
    refine r_virtE (c_X7_hasRiddle b (nI h) hS) lk_X9_151 mc_X7_hasRiddle dX9_mute_20 hS.1 (by decide) rfl rfl (Nat.le_of_ble_eq_true rfl) ?_
    rw [hasR_c hH8 hh hSt]
    rw [cw]
    refine r_if_eq (tgt := 39) dX9_mute_23 (by decide) (fun hz => absurd hz (show ¬ _ from (by decide))) (fun _ => ?_)
    refine r_aload_n dX9_mute_26 rfl ?_
    refine r_getR dX9_mute_27 fl_X9_37 rfl (by assumption) (by assumption) ?_
    refine r_iconst (v := nI 2) dX9_mute_30 (by decide) ?_
    refine r_iload_n dX9_mute_31 rfl ?_
    refine r_virtE (c_X2_had f h (nI 2) hL (by omega)) lk_X9_166 mc_X2_had dX9_mute_32 hL.1 (by decide) rfl rfl (Nat.le_of_ble_eq_true rfl) ?_
    rw [had_c (show 2 < 3 by omega) hh hH8 hLf]
    rw [ch]
    refine r_iload_n dX9_mute_35 rfl ?_
    refine r_icmp_ne (tgt := 51) dX9_mute_36 (by decide) (fun _ => ?_) (fun hz => absurd hz (show ¬ _ from (by decide)))
    refine r_aload_n dX9_mute_51 rfl ?_
    refine r_getR dX9_mute_52 fl_X9_37 rfl (by assumption) (by assumption) ?_
    refine r_iconst (v := nI 2) dX9_mute_55 (by decide) ?_
    refine r_iload_n dX9_mute_56 rfl ?_
    refine r_iload_n dX9_mute_57 rfl ?_
    refine r_virt (kc2 := 0) (ks2 := 0) (c_X2_act f H M 2 h 1 e hL (by omega) hh hH8 (fun q => by omega) hLf okl) lk_X9_170 mc_X2_act dX9_mute_58 hL.1 (by decide) rfl rfl (Nat.le_of_ble_eq_true rfl) (by omega) (by omega) (fun _ _ _ _ _ _ h => nomatch h.1) (fun v1 n1 kd1 I1 J1 P1 h1 => ?_)
    obtain ⟨h0, rfl, rfl, rfl, rfl, hfr, hcl⟩ := h1
    cases h0
    simp only [Option.toList, List.nil_append]
    refine r_aload_n dX9_mute_61 rfl ?_
    refine r_virtV (c_X9_forget o x0) lk_X9_174 mc_X9_forget dX9_mute_62 x0 (by decide) rfl rfl (Nat.le_of_ble_eq_true rfl) ?_
    refine r_iconst (v := nI 1) dX9_mute_65 (by decide) ?_
    refine r_zret rfl dX9_mute_66 (by first | exact Or.inl rfl | exact Or.inr rfl | assumption) ?_
    exact ⟨rfl, ⟨Nat.le_refl _, Nat.le_succ _⟩, fun q => q, fun a a1 a2 => ⟨rfl, by rw [am_up_n _ _ (by omega)]; exact hfr a (by omega), rfl, rfl⟩, b, s, f, l, CR.life (fun a a1 a2 => by rw [am_up_n _ _ a1]; exact hfr a a2) (fun j j1 j2 => by rw [am_up_s, am_up_n _ _ j2, am_up_n _ _ j1, hfr o (by omega)]) (by rw [am_up_s, am_up_n _ _ (by decide), am_up_s]) (by rw [am_up_s, am_up_s]) (hcl.cg (fun a a1 a2 => am_up_n _ _ (by omega))) hC0⟩

theorem putE_A {e : Lf} {k h v : Nat} : (putE e k h v).2.2.2 = e.2.2.2 := by
  unfold putE
  split
  · rfl
  split <;> rfl
theorem bkE_len {e : Lf} : (bkE e).2.2.2.1.length = e.2.2.2.1.length - 1 := by
  unfold bkE
  rw [putE_A]
  show e.2.2.2.1.dropLast.length = _
  rw [List.length_dropLast]
set_option maxHeartbeats 4000000 in
set_option maxRecDepth 100000 in
theorem k_undo (o b s f l : Nat) {t : Nat} {T : Nat → Nat} {fp : Int32} {rr : Nat → Int32} {H M : Nat} {un : Bool} {cs : Nat → List Nat} {tx : Nat → List Int32} {e : Lf} {im : Option Lf} {wk : Option (List Nat)} {n : Nat} {kd : mK} {I : mI} {J : mJ} {P : mP} (hC : CR o b s f l n kd I J P t T fp rr H M un cs tx e im wk) (hz : okZ t T H M cs e) (hne : e.2.2.2.1 ≠ []) : Ct yX9_undo cX9_undo 1 (some .int) 9 1 6 [.ref o] n kd I J P (pK o n kd I J P (.inl (some (.int (nI (e.2.2.2.1.length - 1))))) (CX o t T fp rr H M un cs tx (bkE e) im wk)) := by
  have hC0 := hC
  obtain ⟨hX, hsc, hT, hSt, hLf, hIm, hWk, hQc, hPc⟩ := hC
  obtain ⟨okt, oks, okl⟩ := hz
  have hS := hX.S
  have hL := hX.L
  have hat := hX.at
  have hH8 : H ≤ 8 := oks.2.1
  have hM20 : 2 ≤ M ∧ M ≤ 20 := oks.1
  have hH : I b 0 = nI H := hSt.1.1
  have hMo : I b 1 = nI M := hSt.2.1
  obtain ⟨⟨x0, x1, x2⟩, -, ⟨-, -, hLk⟩, ⟨hQ, hA, hG, hW, hRd, hD, hPg⟩, ⟨p0, p3, p8, p10, p12, p13, p14, p15, p16, p17⟩, ⟨p4, p5, p6, p7⟩, -, -, -⟩ := id hX
  have hpos := List.length_pos_iff.mpr hne
  have ha30 := okl.2.1.1
  refine ct_of 0 (by decide +kernel) (Nat.le_of_ble_eq_true rfl) rfl ?_
  refine r_aload_n dX9_undo_0 rfl ?_
  refine r_getR dX9_undo_1 fl_X9_37 rfl (by assumption) (by assumption) ?_
  refine r_getI dX9_undo_4 fl_X9_133 rfl hL.1 ?_
  rw [hLf.2.2.1.1]
  refine r_if_ne (tgt := 12) dX9_undo_7 (by decide) (fun _ => ?_) (fun hz => absurd hz (show ¬ _ from (by rw [z_eq (by omega)]; omega)))
  refine r_aload_n dX9_undo_12 rfl ?_
  refine r_getR dX9_undo_13 fl_X9_37 rfl (by assumption) (by assumption) ?_
  refine r_virt (kc2 := 0) (ks2 := 0) (c_X2_takeBackAct f H M e hL hH8 hLf okl hne) lk_X9_177 mc_X2_takeBackAct dX9_undo_16 hL.1 (by decide) rfl rfl (Nat.le_of_ble_eq_true rfl) (by omega) (by omega) (fun _ _ _ _ _ _ h => nomatch h.1) (fun v1 n1 kd1 I1 J1 P1 h1 => ?_)
  obtain ⟨h0, rfl, rfl, rfl, rfl, hfr, hcl⟩ := h1
  cases h0
  simp only [Option.toList, List.nil_append]
  refine r_aload_n dX9_undo_19 rfl ?_
  refine r_virtV (c_X9_forget o x0) lk_X9_174 mc_X9_forget dX9_undo_20 x0 (by decide) rfl rfl (Nat.le_of_ble_eq_true rfl) ?_
  refine r_aload_n dX9_undo_23 rfl ?_
  refine r_getR dX9_undo_24 fl_X9_37 rfl (by assumption) (by assumption) ?_
  refine r_getI dX9_undo_27 fl_X9_133 rfl hL.1 ?_
  rw [am_up_n _ _ (by omega), hcl.2.2.1.1, bkE_len]
  refine r_iret rfl dX9_undo_30 ?_
  exact ⟨rfl, ⟨Nat.le_refl _, Nat.le_succ _⟩, fun q => q, fun a a1 a2 => ⟨rfl, by rw [am_up_n _ _ (by omega)]; exact hfr a (by omega), rfl, rfl⟩, b, s, f, l, CR.life (fun a a1 a2 => by rw [am_up_n _ _ a1]; exact hfr a a2) (fun j j1 j2 => by rw [am_up_s, am_up_n _ _ j2, am_up_n _ _ j1, hfr o (by omega)]) (by rw [am_up_s, am_up_n _ _ (by decide), am_up_s]) (by rw [am_up_s, am_up_s]) (hcl.cg (fun a a1 a2 => am_up_n _ _ (by omega))) hC0⟩

set_option maxHeartbeats 4000000 in
set_option maxRecDepth 100000 in
theorem k_letter_ref (o b s f l : Nat) (h : Nat) (y : Int32) {t : Nat} {T : Nat → Nat} {fp : Int32} {rr : Nat → Int32} {H M : Nat} {un : Bool} {cs : Nat → List Nat} {tx : Nat → List Int32} {e : Lf} {im : Option Lf} {wk : Option (List Nat)} {n : Nat} {kd : mK} {I : mI} {J : mJ} {P : mP} (hC : CR o b s f l n kd I J P t T fp rr H M un cs tx e im wk) (hz : okZ t T H M cs e) (hh : h < H) (hy : (y < nI 1 ∨ nI M < y) ∨ e.2.2.2.2.length = 10) : Ct yX9_letter cX9_letter 3 (some .int) 9 1 6 [.ref o, .int (nI h), .int y] n kd I J P (pK o n kd I J P (.inl (some (.int (-1)))) (CX o t T fp (va_up rr 2 (rr 2 + nI 1)) H M un cs tx e im wk)) := by
  have hC0 := hC
  obtain ⟨hX, hsc, hT, hSt, hLf, hIm, hWk, hQc, hPc⟩ := hC
  obtain ⟨okt, oks, okl⟩ := hz
  have hS := hX.S
  have hL := hX.L
  have hat := hX.at
  have hH8 : H ≤ 8 := oks.2.1
  have hM20 : 2 ≤ M ∧ M ≤ 20 := oks.1
  have hH : I b 0 = nI H := hSt.1.1
  have hMo : I b 1 = nI M := hSt.2.1
  obtain ⟨⟨x0, x1, x2⟩, -, ⟨-, -, hLk⟩, ⟨hQ, hA, hG, hW, hRd, hD, hPg⟩, ⟨p0, p3, p8, p10, p12, p13, p14, p15, p16, p17⟩, ⟨p4, p5, p6, p7⟩, -, -, -⟩ := id hX
  refine ct_of 0 (by decide +kernel) (Nat.le_of_ble_eq_true rfl) rfl ?_
  by_cases c1 : y < nI 1
  · skip
    refine r_aload_n dX9_letter_0 rfl ?_
    refine r_iload_n dX9_letter_1 rfl ?_
    refine r_virtV (m0_House o b (nI h) x0 p4 hS.1 (by rw [hH]; exact (isH_of hh (by omega)))) lk_X9_142 mc_X9_mustBeHouse dX9_letter_2 x0 (by decide) rfl rfl (Nat.le_of_ble_eq_true rfl) ?_
    refine r_iload_n dX9_letter_5 rfl ?_
    refine r_iconst (v := nI 1) dX9_letter_6 (by decide) ?_
    refine r_icmp_lt (tgt := 33) dX9_letter_7 (by decide) (fun _ => ?_) (fun hz => absurd (show _ from c1) hz)
    refine r_aload_n dX9_letter_33 rfl ?_
    refine r_getR dX9_letter_34 fl_X9_20 rfl (by assumption) (by assumption) ?_
    refine r_iconst (v := nI 2) dX9_letter_37 (by decide) ?_
    refine r_dup2 dX9_letter_38 rfl rfl ?_
    refine r_iald dX9_letter_39 x2 (nI_in8 3 (by decide) (by decide)) (show _ = 2 from nI_clamp (by decide)) ?_
    refine r_iconst (v := nI 1) dX9_letter_40 (by decide) ?_
    refine r_iadd dX9_letter_41 ?_
    refine r_iast dX9_letter_42 x2 (nI_in8 3 (by decide) (by decide)) (show _ = 2 from nI_clamp (by decide)) ?_
    refine r_iconst (v := (-1)) dX9_letter_43 (by decide) ?_
    refine r_iret rfl dX9_letter_44 ?_
    exact ⟨rfl, ⟨Nat.le_refl _, Nat.le_succ _⟩, fun q => q, fun a a1 a2 => ⟨rfl, am_up_n _ _ (by omega), rfl, rfl⟩, b, s, f, l, CR.ref (k := 2) (by decide) hC0⟩
  by_cases c2 : nI M < y
  · skip
    refine r_aload_n dX9_letter_0 rfl ?_
    refine r_iload_n dX9_letter_1 rfl ?_
    refine r_virtV (m0_House o b (nI h) x0 p4 hS.1 (by rw [hH]; exact (isH_of hh (by omega)))) lk_X9_142 mc_X9_mustBeHouse dX9_letter_2 x0 (by decide) rfl rfl (Nat.le_of_ble_eq_true rfl) ?_
    refine r_iload_n dX9_letter_5 rfl ?_
    refine r_iconst (v := nI 1) dX9_letter_6 (by decide) ?_
    refine r_icmp_lt (tgt := 33) dX9_letter_7 (by decide) (fun hz => absurd hz (show ¬ _ from c1)) (fun _ => ?_)
    refine r_iload_n dX9_letter_10 rfl ?_
    refine r_aload_n dX9_letter_11 rfl ?_
    refine r_getR dX9_letter_12 fl_X9_27 rfl (by assumption) (by assumption) ?_
    refine r_getI dX9_letter_15 fl_X9_127 rfl hS.1 ?_
    rw [hMo]
    refine r_icmp_gt (tgt := 33) dX9_letter_18 (by decide) (fun _ => ?_) (fun hz => absurd (show _ from c2) hz)
    refine r_aload_n dX9_letter_33 rfl ?_
    refine r_getR dX9_letter_34 fl_X9_20 rfl (by assumption) (by assumption) ?_
    refine r_iconst (v := nI 2) dX9_letter_37 (by decide) ?_
    refine r_dup2 dX9_letter_38 rfl rfl ?_
    refine r_iald dX9_letter_39 x2 (nI_in8 3 (by decide) (by decide)) (show _ = 2 from nI_clamp (by decide)) ?_
    refine r_iconst (v := nI 1) dX9_letter_40 (by decide) ?_
    refine r_iadd dX9_letter_41 ?_
    refine r_iast dX9_letter_42 x2 (nI_in8 3 (by decide) (by decide)) (show _ = 2 from nI_clamp (by decide)) ?_
    refine r_iconst (v := (-1)) dX9_letter_43 (by decide) ?_
    refine r_iret rfl dX9_letter_44 ?_
    exact ⟨rfl, ⟨Nat.le_refl _, Nat.le_succ _⟩, fun q => q, fun a a1 a2 => ⟨rfl, am_up_n _ _ (by omega), rfl, rfl⟩, b, s, f, l, CR.ref (k := 2) (by decide) hC0⟩
  have c3 : e.2.2.2.2.length = 10 := hy.resolve_left (fun q => q.elim c1 c2)
  refine r_aload_n dX9_letter_0 rfl ?_
  refine r_iload_n dX9_letter_1 rfl ?_
  refine r_virtV (m0_House o b (nI h) x0 p4 hS.1 (by rw [hH]; exact (isH_of hh (by omega)))) lk_X9_142 mc_X9_mustBeHouse dX9_letter_2 x0 (by decide) rfl rfl (Nat.le_of_ble_eq_true rfl) ?_
  refine r_iload_n dX9_letter_5 rfl ?_
  refine r_iconst (v := nI 1) dX9_letter_6 (by decide) ?_
  refine r_icmp_lt (tgt := 33) dX9_letter_7 (by decide) (fun hz => absurd hz (show ¬ _ from c1)) (fun _ => ?_)
  refine r_iload_n dX9_letter_10 rfl ?_
  refine r_aload_n dX9_letter_11 rfl ?_
  refine r_getR dX9_letter_12 fl_X9_27 rfl (by assumption) (by assumption) ?_
  refine r_getI dX9_letter_15 fl_X9_127 rfl hS.1 ?_
  rw [hMo]
  refine r_icmp_gt (tgt := 33) dX9_letter_18 (by decide) (fun hz => absurd hz (show ¬ _ from c2)) (fun _ => ?_)
  refine r_aload_n dX9_letter_21 rfl ?_
  refine r_getR dX9_letter_22 fl_X9_37 rfl (by assumption) (by assumption) ?_
  refine r_getI dX9_letter_25 fl_X9_136 rfl hL.1 ?_
  rw [hLf.2.2.2.1]
  refine r_bipush (v := nI 10) dX9_letter_28 (by decide) ?_
  refine r_icmp_lt (tgt := 45) dX9_letter_30 (by decide) (fun hz => absurd hz (show ¬ _ from (by rw [c3]; decide))) (fun _ => ?_)
  refine r_aload_n dX9_letter_33 rfl ?_
  refine r_getR dX9_letter_34 fl_X9_20 rfl (by assumption) (by assumption) ?_
  refine r_iconst (v := nI 2) dX9_letter_37 (by decide) ?_
  refine r_dup2 dX9_letter_38 rfl rfl ?_
  refine r_iald dX9_letter_39 x2 (nI_in8 3 (by decide) (by decide)) (show _ = 2 from nI_clamp (by decide)) ?_
  refine r_iconst (v := nI 1) dX9_letter_40 (by decide) ?_
  refine r_iadd dX9_letter_41 ?_
  refine r_iast dX9_letter_42 x2 (nI_in8 3 (by decide) (by decide)) (show _ = 2 from nI_clamp (by decide)) ?_
  refine r_iconst (v := (-1)) dX9_letter_43 (by decide) ?_
  refine r_iret rfl dX9_letter_44 ?_
  exact ⟨rfl, ⟨Nat.le_refl _, Nat.le_succ _⟩, fun q => q, fun a a1 a2 => ⟨rfl, am_up_n _ _ (by omega), rfl, rfl⟩, b, s, f, l, CR.ref (k := 2) (by decide) hC0⟩

theorem cL_setL {I I' : mI} {f H : Nat} {e : Lf} {L : List (Nat × Nat)} (h0 : ∀ a, f < a → a ≤ f + 5 → a ≠ f + 4 → a ≠ f + 5 → I' a = I a) (h2 : I' f 2 = I f 2) (h4 : I' f 4 = I f 4) (h7 : I' f 7 = nI L.length) (h3 : ∀ j, j < L.length → I' (f + 4) j = nI (L.getD j (0, 0)).1 ∧ I' (f + 5) j = nI (L.getD j (0, 0)).2) (hL : cL I f H e) : cL I' f H (setL e L) := by
  obtain ⟨h1, hm, ha, hl⟩ := hL
  unfold cL setL
  rw [h0 (f + 1) (by omega) (by omega) (by omega) (by omega), h0 (f + 2) (by omega) (by omega) (by omega) (by omega), h0 (f + 3) (by omega) (by omega) (by omega) (by omega), h2, h4]
  exact ⟨h1, hm, ha, h7, h3⟩
set_option maxHeartbeats 4000000 in
set_option maxRecDepth 100000 in
theorem k_letter (o b s f l : Nat) (h v : Nat) {t : Nat} {T : Nat → Nat} {fp : Int32} {rr : Nat → Int32} {H M : Nat} {un : Bool} {cs : Nat → List Nat} {tx : Nat → List Int32} {e : Lf} {im : Option Lf} {wk : Option (List Nat)} {n : Nat} {kd : mK} {I : mI} {J : mJ} {P : mP} (hC : CR o b s f l n kd I J P t T fp rr H M un cs tx e im wk) (hz : okZ t T H M cs e) (hh : h < H) (hv1 : 1 ≤ v) (hv : v ≤ M) (hlt : e.2.2.2.2.length < 10) : Ct yX9_letter cX9_letter 3 (some .int) 9 1 6 [.ref o, .int (nI h), .int (nI v)] n kd I J P (pK o n kd I J P (.inl (some (.int (nI (e.2.2.2.2.length + 1))))) (CX o t T fp rr H M un cs tx (setL e (e.2.2.2.2 ++ [(h, v)])) im wk)) := by
  have hC0 := hC
  obtain ⟨hX, hsc, hT, hSt, hLf, hIm, hWk, hQc, hPc⟩ := hC
  obtain ⟨okt, oks, okl⟩ := hz
  have hS := hX.S
  have hL := hX.L
  have hat := hX.at
  have hH8 : H ≤ 8 := oks.2.1
  have hM20 : 2 ≤ M ∧ M ≤ 20 := oks.1
  have hH : I b 0 = nI H := hSt.1.1
  have hMo : I b 1 = nI M := hSt.2.1
  obtain ⟨⟨x0, x1, x2⟩, -, ⟨-, -, hLk⟩, ⟨hQ, hA, hG, hW, hRd, hD, hPg⟩, ⟨p0, p3, p8, p10, p12, p13, p14, p15, p16, p17⟩, ⟨p4, p5, p6, p7⟩, -, -, -⟩ := id hX
  refine ct_of 0 (by decide +kernel) (Nat.le_of_ble_eq_true rfl) rfl ?_
  refine r_aload_n dX9_letter_0 rfl ?_
  refine r_iload_n dX9_letter_1 rfl ?_
  refine r_virtV (m0_House o b (nI h) x0 p4 hS.1 (by rw [hH]; exact (isH_of hh (by omega)))) lk_X9_142 mc_X9_mustBeHouse dX9_letter_2 x0 (by decide) rfl rfl (Nat.le_of_ble_eq_true rfl) ?_
  refine r_iload_n dX9_letter_5 rfl ?_
  refine r_iconst (v := nI 1) dX9_letter_6 (by decide) ?_
  refine r_icmp_lt (tgt := 33) dX9_letter_7 (by decide) (fun hz => absurd hz (show ¬ _ from (by rw [nI_ltI (by omega) (by omega)]; omega))) (fun _ => ?_)
  refine r_iload_n dX9_letter_10 rfl ?_
  refine r_aload_n dX9_letter_11 rfl ?_
  refine r_getR dX9_letter_12 fl_X9_27 rfl (by assumption) (by assumption) ?_
  refine r_getI dX9_letter_15 fl_X9_127 rfl hS.1 ?_
  rw [hMo]
  refine r_icmp_gt (tgt := 33) dX9_letter_18 (by decide) (fun hz => absurd hz (show ¬ _ from (by rw [nI_ltI (by omega) (by omega)]; omega))) (fun _ => ?_)
  refine r_aload_n dX9_letter_21 rfl ?_
  refine r_getR dX9_letter_22 fl_X9_37 rfl (by assumption) (by assumption) ?_
  refine r_getI dX9_letter_25 fl_X9_136 rfl hL.1 ?_
  rw [hLf.2.2.2.1]
  refine r_bipush (v := nI 10) dX9_letter_28 (by decide) ?_
  refine r_icmp_lt (tgt := 45) dX9_letter_30 (by decide) (fun _ => ?_) (fun hz => absurd (show _ from (by rw [nI_ltI (by omega) (by omega)]; omega)) hz)
  refine r_aload_n dX9_letter_45 rfl ?_
  refine r_getR dX9_letter_46 fl_X9_37 rfl (by assumption) (by assumption) ?_
  refine r_iload_n dX9_letter_49 rfl ?_
  refine r_iload_n dX9_letter_50 rfl ?_
  refine r_virtV (c_X2_addLetter f e.2.2.2.2.length (nI h) (nI v) hL hLf.2.2.2.1 hlt) lk_X9_180 mc_X2_addLetter dX9_letter_51 hL.1 (by decide) rfl rfl (Nat.le_of_ble_eq_true rfl) ?_
  refine r_aload_n dX9_letter_54 rfl ?_
  refine r_virtV (c_X9_forget o x0) lk_X9_174 mc_X9_forget dX9_letter_55 x0 (by decide) rfl rfl (Nat.le_of_ble_eq_true rfl) ?_
  refine r_aload_n dX9_letter_58 rfl ?_
  refine r_getR dX9_letter_59 fl_X9_37 rfl (by assumption) (by assumption) ?_
  refine r_getI dX9_letter_62 fl_X9_136 rfl hL.1 ?_
  simp (disch := omega) only [am_up_s, am_up_n]
  refine r_iret rfl dX9_letter_65 ?_
  refine ⟨rfl, ⟨Nat.le_refl _, Nat.le_succ _⟩, fun q => q, fun a a1 a2 => ⟨rfl, by simp (disch := omega) only [am_up_s, am_up_n], rfl, rfl⟩, b, s, f, l, CR.life (I := I) (fun a a1 a2 => by simp (disch := omega) only [am_up_s, am_up_n]) (fun j j1 j2 => by simp (disch := omega) only [am_up_s, am_up_n]) (by simp (disch := omega) only [am_up_s, am_up_n]) (by simp (disch := omega) only [am_up_s, am_up_n]) ?_ hC0⟩
  refine (cL_setL (I := I) (L := e.2.2.2.2 ++ [(h, v)]) (fun a a1 a2 a3 a4 => ?_) ?_ ?_ ?_ (fun j hj => ?_) hLf)
  · simp (disch := omega) only [am_up_s, am_up_n]
  · simp (disch := omega) only [am_up_s, am_up_n]
  · simp (disch := omega) only [am_up_s, am_up_n]
  · simp (disch := omega) only [am_up_s, am_up_n]
    rw [List.length_append]
    rfl
  · rw [List.length_append] at hj
    simp only [List.length_singleton] at hj
    simp (disch := omega) only [am_up_s, am_up_n]
    rw [List.getD_eq_getElem?_getD]
    by_cases q : j = e.2.2.2.2.length
    · rw [q, List.getElem?_append_right (Nat.le_refl _), am_up_s, am_up_s]
      simp
    · rw [List.getElem?_append_left (by omega), am_up_n _ _ q, am_up_n _ _ q, ← List.getD_eq_getElem?_getD]
      exact hLf.2.2.2.2 j (by omega)

set_option maxHeartbeats 4000000 in
set_option maxRecDepth 100000 in
theorem k_unletter (o b s f l : Nat) {t : Nat} {T : Nat → Nat} {fp : Int32} {rr : Nat → Int32} {H M : Nat} {un : Bool} {cs : Nat → List Nat} {tx : Nat → List Int32} {e : Lf} {im : Option Lf} {wk : Option (List Nat)} {n : Nat} {kd : mK} {I : mI} {J : mJ} {P : mP} (hC : CR o b s f l n kd I J P t T fp rr H M un cs tx e im wk) (hz : okZ t T H M cs e) (hne : e.2.2.2.2 ≠ []) : Ct yX9_unletter cX9_unletter 1 (some .int) 9 1 6 [.ref o] n kd I J P (pK o n kd I J P (.inl (some (.int (nI (e.2.2.2.2.length - 1))))) (CX o t T fp rr H M un cs tx (setL e e.2.2.2.2.dropLast) im wk)) := by
  have hC0 := hC
  obtain ⟨hX, hsc, hT, hSt, hLf, hIm, hWk, hQc, hPc⟩ := hC
  obtain ⟨okt, oks, okl⟩ := hz
  have hS := hX.S
  have hL := hX.L
  have hat := hX.at
  have hH8 : H ≤ 8 := oks.2.1
  have hM20 : 2 ≤ M ∧ M ≤ 20 := oks.1
  have hH : I b 0 = nI H := hSt.1.1
  have hMo : I b 1 = nI M := hSt.2.1
  obtain ⟨⟨x0, x1, x2⟩, -, ⟨-, -, hLk⟩, ⟨hQ, hA, hG, hW, hRd, hD, hPg⟩, ⟨p0, p3, p8, p10, p12, p13, p14, p15, p16, p17⟩, ⟨p4, p5, p6, p7⟩, -, -, -⟩ := id hX
  have hpos := List.length_pos_iff.mpr hne
  have ha10 := okl.2.2.1
  refine ct_of 0 (by decide +kernel) (Nat.le_of_ble_eq_true rfl) rfl ?_
  refine r_aload_n dX9_unletter_0 rfl ?_
  refine r_getR dX9_unletter_1 fl_X9_37 rfl (by assumption) (by assumption) ?_
  refine r_getI dX9_unletter_4 fl_X9_136 rfl hL.1 ?_
  rw [hLf.2.2.2.1]
  refine r_if_ne (tgt := 12) dX9_unletter_7 (by decide) (fun _ => ?_) (fun hz => absurd hz (show ¬ _ from (by rw [z_eq (by omega)]; omega)))
  refine r_aload_n dX9_unletter_12 rfl ?_
  refine r_getR dX9_unletter_13 fl_X9_37 rfl (by assumption) (by assumption) ?_
  refine r_dup dX9_unletter_16 rfl ?_
  refine r_getI dX9_unletter_17 fl_X9_136 rfl hL.1 ?_
  rw [hLf.2.2.2.1]
  refine r_iconst (v := nI 1) dX9_unletter_20 (by decide) ?_
  refine r_isub dX9_unletter_21 ?_
  rw [pk_sub (by omega)]
  refine r_putI dX9_unletter_22 fl_X9_136 rfl rfl hL.1 ?_
  refine r_aload_n dX9_unletter_25 rfl ?_
  refine r_virtV (c_X9_forget o x0) lk_X9_174 mc_X9_forget dX9_unletter_26 x0 (by decide) rfl rfl (Nat.le_of_ble_eq_true rfl) ?_
  refine r_aload_n dX9_unletter_29 rfl ?_
  refine r_getR dX9_unletter_30 fl_X9_37 rfl (by assumption) (by assumption) ?_
  refine r_getI dX9_unletter_33 fl_X9_136 rfl hL.1 ?_
  simp (disch := omega) only [am_up_s, am_up_n]
  refine r_iret rfl dX9_unletter_36 ?_
  refine ⟨rfl, ⟨Nat.le_refl _, Nat.le_succ _⟩, fun q => q, fun a a1 a2 => ⟨rfl, by simp (disch := omega) only [am_up_s, am_up_n], rfl, rfl⟩, b, s, f, l, CR.life (I := I) (fun a a1 a2 => by simp (disch := omega) only [am_up_s, am_up_n]) (fun j j1 j2 => by simp (disch := omega) only [am_up_s, am_up_n]) (by simp (disch := omega) only [am_up_s, am_up_n]) (by simp (disch := omega) only [am_up_s, am_up_n]) ?_ hC0⟩
  refine (cL_setL (I := I) (L := e.2.2.2.2.dropLast) (fun a a1 a2 a3 a4 => ?_) ?_ ?_ ?_ (fun j hj => ?_) hLf)
  · simp (disch := omega) only [am_up_s, am_up_n]
  · simp (disch := omega) only [am_up_s, am_up_n]
  · simp (disch := omega) only [am_up_s, am_up_n]
  · simp (disch := omega) only [am_up_s, am_up_n]
    rw [List.length_dropLast]
  · rw [List.length_dropLast] at hj
    simp (disch := omega) only [am_up_s, am_up_n]
    rw [List.getD_eq_getElem?_getD, List.getElem?_dropLast, if_pos (by omega), ← List.getD_eq_getElem?_getD]
    exact hLf.2.2.2.2 j (by omega)

theorem dX2_copy_0 : decode cX2_copy 0 = .ok (.aload_n 1, 1) := by decide +kernel
theorem dX2_copy_1 : decode cX2_copy 1 = .ok (.getfield 9, 3) := by decide +kernel
theorem dX2_copy_4 : decode cX2_copy 4 = .ok (.iconst 0, 1) := by decide +kernel
theorem dX2_copy_5 : decode cX2_copy 5 = .ok (.aload_n 0, 1) := by decide +kernel
theorem dX2_copy_6 : decode cX2_copy 6 = .ok (.getfield 9, 3) := by decide +kernel
theorem dX2_copy_9 : decode cX2_copy 9 = .ok (.iconst 0, 1) := by decide +kernel
theorem dX2_copy_10 : decode cX2_copy 10 = .ok (.bipush 8, 2) := by decide +kernel
theorem dX2_copy_12 : decode cX2_copy 12 = .ok (.invokestatic 43, 3) := by decide +kernel
theorem dX2_copy_15 : decode cX2_copy 15 = .ok (.aload_n 1, 1) := by decide +kernel
theorem dX2_copy_16 : decode cX2_copy 16 = .ok (.getfield 15, 3) := by decide +kernel
theorem dX2_copy_19 : decode cX2_copy 19 = .ok (.iconst 0, 1) := by decide +kernel
theorem dX2_copy_20 : decode cX2_copy 20 = .ok (.aload_n 0, 1) := by decide +kernel
theorem dX2_copy_21 : decode cX2_copy 21 = .ok (.getfield 15, 3) := by decide +kernel
theorem dX2_copy_24 : decode cX2_copy 24 = .ok (.iconst 0, 1) := by decide +kernel
theorem dX2_copy_25 : decode cX2_copy 25 = .ok (.bipush 8, 2) := by decide +kernel
theorem dX2_copy_27 : decode cX2_copy 27 = .ok (.invokestatic 43, 3) := by decide +kernel
theorem dX2_copy_30 : decode cX2_copy 30 = .ok (.aload_n 0, 1) := by decide +kernel
theorem dX2_copy_31 : decode cX2_copy 31 = .ok (.aload_n 1, 1) := by decide +kernel
theorem dX2_copy_32 : decode cX2_copy 32 = .ok (.getfield 18, 3) := by decide +kernel
theorem dX2_copy_35 : decode cX2_copy 35 = .ok (.putfield 18, 3) := by decide +kernel
theorem dX2_copy_38 : decode cX2_copy 38 = .ok (.aload_n 1, 1) := by decide +kernel
theorem dX2_copy_39 : decode cX2_copy 39 = .ok (.getfield 22, 3) := by decide +kernel
theorem dX2_copy_42 : decode cX2_copy 42 = .ok (.iconst 0, 1) := by decide +kernel
theorem dX2_copy_43 : decode cX2_copy 43 = .ok (.aload_n 0, 1) := by decide +kernel
theorem dX2_copy_44 : decode cX2_copy 44 = .ok (.getfield 22, 3) := by decide +kernel
theorem dX2_copy_47 : decode cX2_copy 47 = .ok (.iconst 0, 1) := by decide +kernel
theorem dX2_copy_48 : decode cX2_copy 48 = .ok (.bipush 30, 2) := by decide +kernel
theorem dX2_copy_50 : decode cX2_copy 50 = .ok (.invokestatic 43, 3) := by decide +kernel
theorem dX2_copy_53 : decode cX2_copy 53 = .ok (.aload_n 0, 1) := by decide +kernel
theorem dX2_copy_54 : decode cX2_copy 54 = .ok (.aload_n 1, 1) := by decide +kernel
theorem dX2_copy_55 : decode cX2_copy 55 = .ok (.getfield 25, 3) := by decide +kernel
theorem dX2_copy_58 : decode cX2_copy 58 = .ok (.putfield 25, 3) := by decide +kernel
theorem dX2_copy_61 : decode cX2_copy 61 = .ok (.aload_n 1, 1) := by decide +kernel
theorem dX2_copy_62 : decode cX2_copy 62 = .ok (.getfield 28, 3) := by decide +kernel
theorem dX2_copy_65 : decode cX2_copy 65 = .ok (.iconst 0, 1) := by decide +kernel
theorem dX2_copy_66 : decode cX2_copy 66 = .ok (.aload_n 0, 1) := by decide +kernel
theorem dX2_copy_67 : decode cX2_copy 67 = .ok (.getfield 28, 3) := by decide +kernel
theorem dX2_copy_70 : decode cX2_copy 70 = .ok (.iconst 0, 1) := by decide +kernel
theorem dX2_copy_71 : decode cX2_copy 71 = .ok (.bipush 10, 2) := by decide +kernel
theorem dX2_copy_73 : decode cX2_copy 73 = .ok (.invokestatic 43, 3) := by decide +kernel
theorem dX2_copy_76 : decode cX2_copy 76 = .ok (.aload_n 1, 1) := by decide +kernel
theorem dX2_copy_77 : decode cX2_copy 77 = .ok (.getfield 31, 3) := by decide +kernel
theorem dX2_copy_80 : decode cX2_copy 80 = .ok (.iconst 0, 1) := by decide +kernel
theorem dX2_copy_81 : decode cX2_copy 81 = .ok (.aload_n 0, 1) := by decide +kernel
theorem dX2_copy_82 : decode cX2_copy 82 = .ok (.getfield 31, 3) := by decide +kernel
theorem dX2_copy_85 : decode cX2_copy 85 = .ok (.iconst 0, 1) := by decide +kernel
theorem dX2_copy_86 : decode cX2_copy 86 = .ok (.bipush 10, 2) := by decide +kernel
theorem dX2_copy_88 : decode cX2_copy 88 = .ok (.invokestatic 43, 3) := by decide +kernel
theorem dX2_copy_91 : decode cX2_copy 91 = .ok (.aload_n 0, 1) := by decide +kernel
theorem dX2_copy_92 : decode cX2_copy 92 = .ok (.aload_n 1, 1) := by decide +kernel
theorem dX2_copy_93 : decode cX2_copy 93 = .ok (.getfield 34, 3) := by decide +kernel
theorem dX2_copy_96 : decode cX2_copy 96 = .ok (.putfield 34, 3) := by decide +kernel
theorem dX2_copy_99 : decode cX2_copy 99 = .ok (.return_, 1) := by decide +kernel

set_option maxHeartbeats 4000000 in
set_option maxRecDepth 100000 in
theorem c_X2_copy (a c : Nat) {n : Nat} {kd : mK} {I : mI} {J : mJ} {P : mP} (hA : kL kd P a) (hC : kL kd P c) (hac : a + 5 < c ∨ c + 5 < a) : Ct yX2_copy cX2_copy 2 none 2 0 0 [.ref a, .ref c] n kd I J P (fun z n' kd' I' J' P' => z = .inl none ∧ n' = n ∧ kd' = kd ∧ J' = J ∧ P' = P ∧ (∀ x, (x < a ∨ a + 5 < x) → I' x = I x) ∧ (I' a 2 = I c 2 ∧ I' a 4 = I c 4 ∧ I' a 7 = I c 7) ∧ (∀ j, j < 8 → I' (a + 1) j = I (c + 1) j ∧ I' (a + 2) j = I (c + 2) j) ∧ (∀ j, j < 30 → I' (a + 3) j = I (c + 3) j) ∧ (∀ j, j < 10 → I' (a + 4) j = I (c + 4) j ∧ I' (a + 5) j = I (c + 5) j)) := by
  obtain ⟨l0, l1, l2, l3, l4, l5, q0, q1, q3, q5, q6⟩ := hA
  obtain ⟨m0, m1, m2, m3, m4, m5, r0, r1, r3, r5, r6⟩ := hC
  refine ct_of 0 (by decide +kernel) (Nat.le_of_ble_eq_true rfl) rfl ?_
  refine r_aload_n dX2_copy_0 rfl ?_
  refine r_getR dX2_copy_1 fl_X2_9 rfl m0 r0 ?_
  refine r_iconst (v := nI 0) dX2_copy_4 (by decide) ?_
  refine r_aload_n dX2_copy_5 rfl ?_
  refine r_getR dX2_copy_6 fl_X2_9 rfl l0 q0 ?_
  refine r_iconst (v := nI 0) dX2_copy_9 (by decide) ?_
  refine r_bipush (v := nI 8) dX2_copy_10 (by decide) ?_
  refine r_copy (Or.inl rfl) dX2_copy_12 ac_X2 m1 l1 (by decide) (by decide) (by decide) (by decide) (by decide) (fun q => nomatch q) (by decide) (Nat.le_of_ble_eq_true rfl) ?_
  refine r_aload_n dX2_copy_15 rfl ?_
  refine r_getR dX2_copy_16 fl_X2_15 rfl m0 r1 ?_
  refine r_iconst (v := nI 0) dX2_copy_19 (by decide) ?_
  refine r_aload_n dX2_copy_20 rfl ?_
  refine r_getR dX2_copy_21 fl_X2_15 rfl l0 q1 ?_
  refine r_iconst (v := nI 0) dX2_copy_24 (by decide) ?_
  refine r_bipush (v := nI 8) dX2_copy_25 (by decide) ?_
  refine r_copy (Or.inl rfl) dX2_copy_27 ac_X2 m2 l2 (by decide) (by decide) (by decide) (by decide) (by decide) (fun q => nomatch q) (by decide) (Nat.le_of_ble_eq_true rfl) ?_
  refine r_aload_n dX2_copy_30 rfl ?_
  refine r_aload_n dX2_copy_31 rfl ?_
  refine r_getI dX2_copy_32 fl_X2_18 rfl m0 ?_
  refine r_putI dX2_copy_35 fl_X2_18 rfl rfl l0 ?_
  refine r_aload_n dX2_copy_38 rfl ?_
  refine r_getR dX2_copy_39 fl_X2_22 rfl m0 r3 ?_
  refine r_iconst (v := nI 0) dX2_copy_42 (by decide) ?_
  refine r_aload_n dX2_copy_43 rfl ?_
  refine r_getR dX2_copy_44 fl_X2_22 rfl l0 q3 ?_
  refine r_iconst (v := nI 0) dX2_copy_47 (by decide) ?_
  refine r_bipush (v := nI 30) dX2_copy_48 (by decide) ?_
  refine r_copy (Or.inl rfl) dX2_copy_50 ac_X2 m3 l3 (by decide) (by decide) (by decide) (by decide) (by decide) (fun q => nomatch q) (by decide) (Nat.le_of_ble_eq_true rfl) ?_
  refine r_aload_n dX2_copy_53 rfl ?_
  refine r_aload_n dX2_copy_54 rfl ?_
  refine r_getI dX2_copy_55 fl_X2_25 rfl m0 ?_
  refine r_putI dX2_copy_58 fl_X2_25 rfl rfl l0 ?_
  refine r_aload_n dX2_copy_61 rfl ?_
  refine r_getR dX2_copy_62 fl_X2_28 rfl m0 r5 ?_
  refine r_iconst (v := nI 0) dX2_copy_65 (by decide) ?_
  refine r_aload_n dX2_copy_66 rfl ?_
  refine r_getR dX2_copy_67 fl_X2_28 rfl l0 q5 ?_
  refine r_iconst (v := nI 0) dX2_copy_70 (by decide) ?_
  refine r_bipush (v := nI 10) dX2_copy_71 (by decide) ?_
  refine r_copy (Or.inl rfl) dX2_copy_73 ac_X2 m4 l4 (by decide) (by decide) (by decide) (by decide) (by decide) (fun q => nomatch q) (by decide) (Nat.le_of_ble_eq_true rfl) ?_
  refine r_aload_n dX2_copy_76 rfl ?_
  refine r_getR dX2_copy_77 fl_X2_31 rfl m0 r6 ?_
  refine r_iconst (v := nI 0) dX2_copy_80 (by decide) ?_
  refine r_aload_n dX2_copy_81 rfl ?_
  refine r_getR dX2_copy_82 fl_X2_31 rfl l0 q6 ?_
  refine r_iconst (v := nI 0) dX2_copy_85 (by decide) ?_
  refine r_bipush (v := nI 10) dX2_copy_86 (by decide) ?_
  refine r_copy (Or.inl rfl) dX2_copy_88 ac_X2 m5 l5 (by decide) (by decide) (by decide) (by decide) (by decide) (fun q => nomatch q) (by decide) (Nat.le_of_ble_eq_true rfl) ?_
  refine r_aload_n dX2_copy_91 rfl ?_
  refine r_aload_n dX2_copy_92 rfl ?_
  refine r_getI dX2_copy_93 fl_X2_34 rfl m0 ?_
  refine r_putI dX2_copy_96 fl_X2_34 rfl rfl l0 ?_
  refine r_vret rfl dX2_copy_99 ?_
  refine ⟨rfl, rfl, rfl, rfl, rfl, fun x hx => ?_, ⟨?_, ?_, ?_⟩, fun j hj => ⟨?_, ?_⟩, fun j hj => ?_, fun j hj => ⟨?_, ?_⟩⟩
  all_goals try simp (disch := omega) only [am_up_s, am_up_n, va_cpy]
  all_goals try (rw [show (nI 0).toNatClampNeg = 0 from by decide])
  all_goals try (rw [show (nI 8).toNatClampNeg = 8 from by decide])
  all_goals try (rw [show (nI 30).toNatClampNeg = 30 from by decide])
  all_goals try (rw [show (nI 10).toNatClampNeg = 10 from by decide])
  all_goals try (rw [if_pos (by omega), Nat.zero_add, Nat.sub_zero])
theorem cL_copy {I I' : mI} {a c H M : Nat} {e : Lf} (hH8 : H ≤ 8) (ho : okL H M e) (h0 : I' a 2 = I c 2 ∧ I' a 4 = I c 4 ∧ I' a 7 = I c 7) (h1 : ∀ j, j < 8 → I' (a + 1) j = I (c + 1) j ∧ I' (a + 2) j = I (c + 2) j) (h3 : ∀ j, j < 30 → I' (a + 3) j = I (c + 3) j) (h4 : ∀ j, j < 10 → I' (a + 4) j = I (c + 4) j ∧ I' (a + 5) j = I (c + 5) j) (hc : cL I c H e) : cL I' a H e := by
  obtain ⟨c1, c2, c3, c4⟩ := hc
  have g3 := ho.2.1.1
  have g4 := ho.2.2.1
  refine ⟨fun h hh => ?_, ?_, ⟨h0.2.1.trans c3.1, fun j hj => (h3 j (by omega)).trans (c3.2 j hj)⟩, h0.2.2.trans c4.1, fun j hj => ?_⟩
  · rw [(h1 h (by omega)).1, (h1 h (by omega)).2]; exact c1 h hh
  · rw [h0.1]; exact c2
  · rw [(h4 j (by omega)).1, (h4 j (by omega)).2]; exact c4.2 j hj
theorem dX9_image_0 : decode cX9_image 0 = .ok (.aload_n 0, 1) := by decide +kernel
theorem dX9_image_1 : decode cX9_image 1 = .ok (.getfield 44, 3) := by decide +kernel
theorem dX9_image_4 : decode cX9_image 4 = .ok (.aload_n 0, 1) := by decide +kernel
theorem dX9_image_5 : decode cX9_image 5 = .ok (.getfield 37, 3) := by decide +kernel
theorem dX9_image_8 : decode cX9_image 8 = .ok (.invokevirtual 264, 3) := by decide +kernel
theorem dX9_image_11 : decode cX9_image 11 = .ok (.aload_n 0, 1) := by decide +kernel
theorem dX9_image_12 : decode cX9_image 12 = .ok (.iconst 1, 1) := by decide +kernel
theorem dX9_image_13 : decode cX9_image 13 = .ok (.putfield 47, 3) := by decide +kernel
theorem dX9_image_16 : decode cX9_image 16 = .ok (.return_, 1) := by decide +kernel

set_option maxHeartbeats 4000000 in
set_option maxRecDepth 100000 in
theorem k_image (o b s f l : Nat) {t : Nat} {T : Nat → Nat} {fp : Int32} {rr : Nat → Int32} {H M : Nat} {un : Bool} {cs : Nat → List Nat} {tx : Nat → List Int32} {e : Lf} {im : Option Lf} {wk : Option (List Nat)} {n : Nat} {kd : mK} {I : mI} {J : mJ} {P : mP} (hC : CR o b s f l n kd I J P t T fp rr H M un cs tx e im wk) (hz : okZ t T H M cs e) : Ct yX9_image cX9_image 1 none 9 1 6 [.ref o] n kd I J P (pK o n kd I J P (.inl none) (CX o t T fp rr H M un cs tx e (some e) wk)) := by
  obtain ⟨hX, hsc, hT, hSt, hLf, hIm, hWk, hQc, hPc⟩ := hC
  obtain ⟨okt, oks, okl⟩ := hz
  have hS := hX.S
  have hL := hX.L
  have hat := hX.at
  have hH8 : H ≤ 8 := oks.2.1
  have hM20 : 2 ≤ M ∧ M ≤ 20 := oks.1
  have hH : I b 0 = nI H := hSt.1.1
  have hMo : I b 1 = nI M := hSt.2.1
  obtain ⟨⟨x0, x1, x2⟩, -, ⟨-, -, hLk⟩, ⟨hQ, hA, hG, hW, hRd, hD, hPg⟩, ⟨p0, p3, p8, p10, p12, p13, p14, p15, p16, p17⟩, ⟨p4, p5, p6, p7⟩, -, -, -⟩ := id hX
  refine ct_of 0 (by decide +kernel) (Nat.le_of_ble_eq_true rfl) rfl ?_
  refine r_aload_n dX9_image_0 rfl ?_
  refine r_getR dX9_image_1 fl_X9_44 rfl (by assumption) (by assumption) ?_
  refine r_aload_n dX9_image_4 rfl ?_
  refine r_getR dX9_image_5 fl_X9_37 rfl (by assumption) (by assumption) ?_
  refine r_virt (kc2 := 0) (ks2 := 0) (c_X2_copy (o + 35) (f) hLk hL (by omega)) lk_X9_264 mc_X2_copy dX9_image_8 (hLk).1 (by decide) rfl rfl (Nat.le_of_ble_eq_true rfl) (by omega) (by omega) (fun _ _ _ _ _ _ h => nomatch h.1) (fun v1 n1 kd1 I1 J1 P1 h1 => ?_)
  obtain ⟨h0, rfl, rfl, rfl, rfl, hfr, g0, g1, g3, g4⟩ := h1
  cases h0
  simp only [Option.toList, List.nil_append]
  refine r_aload_n dX9_image_11 rfl ?_
  refine r_iconst (v := nI 1) dX9_image_12 (by decide) ?_
  refine r_putZ dX9_image_13 fl_X9_47 rfl rfl (by first | exact Or.inl rfl | exact Or.inr rfl | assumption) (by assumption) ?_
  try simp (disch := omega) only [am_up_s, am_up_n]
  refine r_vret rfl dX9_image_16 ?_
  have hcl := cL_copy hH8 okl g0 g1 g3 g4 hLf
  refine ⟨rfl, ⟨Nat.le_refl _, Nat.le_succ _⟩, fun q => q, fun a a1 a2 => ⟨rfl, by rw [am_up_n _ _ (by omega)]; exact hfr a (by omega), rfl, rfl⟩, b, s, f, l, hX, hsc, hT.cg (by rw [am_up_s, am_up_n _ _ (by decide), hfr o (by omega)]) (by rw [am_up_s, am_up_n _ _ (by decide), hfr o (by omega)]) (by rw [am_up_n _ _ (by omega)]; exact hfr _ (by omega)) (by rw [am_up_n _ _ (by omega)]; exact hfr _ (by omega)), hSt.cg (fun a x y => by rw [am_up_n _ _ (by omega)]; exact hfr a (by omega)), hLf.cg (fun a x y => by rw [am_up_n _ _ (by omega)]; exact hfr a (by omega)), ⟨by rw [am_up_s, am_up_s], hcl.cg (fun a x y => am_up_n _ _ (by omega)), okl⟩, hWk.cg (by rw [am_up_n _ _ (by omega)]; exact hfr _ (by omega)) (by rw [am_up_n _ _ (by omega)]; exact hfr _ (by omega)), hQc.cg (by rw [am_up_s, am_up_n _ _ (by decide), hfr o (by omega)]) (by rw [am_up_n _ _ (by omega)]; exact hfr _ (by omega)) (by rw [am_up_n _ _ (by omega)]; exact hfr _ (by omega)) rfl, hPc.cg (by rw [am_up_s, am_up_n _ _ (by decide), hfr o (by omega)]) (by rw [am_up_n _ _ (by omega)]; exact hfr _ (by omega)) (by rw [am_up_n _ _ (by omega)]; exact hfr _ (by omega))⟩

set_option maxHeartbeats 4000000 in
set_option maxRecDepth 100000 in
theorem k_restore (o b s f l : Nat) {t : Nat} {T : Nat → Nat} {fp : Int32} {rr : Nat → Int32} {H M : Nat} {un : Bool} {cs : Nat → List Nat} {tx : Nat → List Int32} {e : Lf} {e9 : Lf} {wk : Option (List Nat)} {n : Nat} {kd : mK} {I : mI} {J : mJ} {P : mP} (hC : CR o b s f l n kd I J P t T fp rr H M un cs tx e (some e9) wk) (hz : okZ t T H M cs e) : Ct yX9_restore cX9_restore 1 (some .boolean) 9 1 6 [.ref o] n kd I J P (pK o n kd I J P (.inl (some (.int (nI 1)))) (CX o t T fp rr H M un cs tx e9 (some e9) wk)) := by
  have hC0 := hC
  obtain ⟨hX, hsc, hT, hSt, hLf, hIm, hWk, hQc, hPc⟩ := hC
  obtain ⟨okt, oks, okl⟩ := hz
  have hS := hX.S
  have hL := hX.L
  have hat := hX.at
  have hH8 : H ≤ 8 := oks.2.1
  have hM20 : 2 ≤ M ∧ M ≤ 20 := oks.1
  have hH : I b 0 = nI H := hSt.1.1
  have hMo : I b 1 = nI M := hSt.2.1
  obtain ⟨⟨x0, x1, x2⟩, -, ⟨-, -, hLk⟩, ⟨hQ, hA, hG, hW, hRd, hD, hPg⟩, ⟨p0, p3, p8, p10, p12, p13, p14, p15, p16, p17⟩, ⟨p4, p5, p6, p7⟩, -, -, -⟩ := id hX
  refine ct_of 0 (by decide +kernel) (Nat.le_of_ble_eq_true rfl) rfl ?_
  refine r_aload_n dX9_restore_0 rfl ?_
  refine r_getI dX9_restore_1 fl_X9_47 rfl x0 ?_
  rw [hIm.1]
  refine r_if_ne (tgt := 9) dX9_restore_4 (by decide) (fun _ => ?_) (fun hz => absurd hz (show ¬ _ from (by decide)))
  refine r_aload_n dX9_restore_9 rfl ?_
  refine r_getR dX9_restore_10 fl_X9_37 rfl (by assumption) (by assumption) ?_
  refine r_aload_n dX9_restore_13 rfl ?_
  refine r_getR dX9_restore_14 fl_X9_44 rfl (by assumption) (by assumption) ?_
  refine r_virt (kc2 := 0) (ks2 := 0) (c_X2_copy (f) (o + 35) hL hLk (by omega)) lk_X9_264 mc_X2_copy dX9_restore_17 (hL).1 (by decide) rfl rfl (Nat.le_of_ble_eq_true rfl) (by omega) (by omega) (fun _ _ _ _ _ _ h => nomatch h.1) (fun v1 n1 kd1 I1 J1 P1 h1 => ?_)
  obtain ⟨h0, rfl, rfl, rfl, rfl, hfr, g0, g1, g3, g4⟩ := h1
  cases h0
  simp only [Option.toList, List.nil_append]
  refine r_aload_n dX9_restore_20 rfl ?_
  refine r_virtV (c_X9_forget o x0) lk_X9_174 mc_X9_forget dX9_restore_21 x0 (by decide) rfl rfl (Nat.le_of_ble_eq_true rfl) ?_
  refine r_iconst (v := nI 1) dX9_restore_24 (by decide) ?_
  refine r_zret rfl dX9_restore_25 (by first | exact Or.inl rfl | exact Or.inr rfl | assumption) ?_
  have hcl := cL_copy hH8 hIm.2.2 g0 g1 g3 g4 hIm.2.1
  exact ⟨rfl, ⟨Nat.le_refl _, Nat.le_succ _⟩, fun q => q, fun a a1 a2 => ⟨rfl, by rw [am_up_n _ _ (by omega)]; exact hfr a (by omega), rfl, rfl⟩, b, s, f, l, CR.life (fun a a1 a2 => by rw [am_up_n _ _ a1]; exact hfr a a2) (fun j j1 j2 => by rw [am_up_s, am_up_n _ _ j2, am_up_n _ _ j1, hfr o (by omega)]) (by rw [am_up_s, am_up_n _ _ (by decide), am_up_s]) (by rw [am_up_s, am_up_s]) (hcl.cg (fun a a1 a2 => am_up_n _ _ (by omega))) hC0⟩

set_option maxHeartbeats 4000000 in
set_option maxRecDepth 100000 in
theorem k_door_no (o b s f l : Nat) (x : Int32) {t : Nat} {T : Nat → Nat} {fp : Int32} {rr : Nat → Int32} {H M : Nat} {un : Bool} {cs : Nat → List Nat} {tx : Nat → List Int32} {e : Lf} {im : Option Lf} {w : List Nat} {n : Nat} {kd : mK} {I : mI} {J : mJ} {P : mP} (hC : CR o b s f l n kd I J P t T fp rr H M un cs tx e im (some w)) (hz : okZ t T H M cs e) (hx : x < -1 ∨ ¬ x < nI w.length) : Ct yX9_door cX9_door 2 (some .int) 9 1 6 [.ref o, .int x] n kd I J P (fun z n' kd' I' J' P' => z = .inr "java/util/NoSuchElementException" ∧ n' = n ∧ kd' = kd ∧ I' = I ∧ J' = J ∧ P' = P) := by
  obtain ⟨hX, hsc, hT, hSt, hLf, hIm, hWk, hQc, hPc⟩ := hC
  obtain ⟨okt, oks, okl⟩ := hz
  have hS := hX.S
  have hL := hX.L
  have hat := hX.at
  have hH8 : H ≤ 8 := oks.2.1
  have hM20 : 2 ≤ M ∧ M ≤ 20 := oks.1
  have hH : I b 0 = nI H := hSt.1.1
  have hMo : I b 1 = nI M := hSt.2.1
  obtain ⟨⟨x0, x1, x2⟩, -, ⟨-, -, hLk⟩, ⟨hQ, hA, hG, hW, hRd, hD, hPg⟩, ⟨p0, p3, p8, p10, p12, p13, p14, p15, p16, p17⟩, ⟨p4, p5, p6, p7⟩, -, -, -⟩ := id hX
  obtain ⟨w0, w1, w2, v0, v4⟩ := id hW
  refine ct_of 0 (by decide +kernel) (Nat.le_of_ble_eq_true rfl) rfl ?_
  by_cases c : x < -1
  · skip
    refine r_aload_n dX9_door_0 rfl ?_
    refine r_getR dX9_door_1 fl_X9_78 rfl (by assumption) (by assumption) ?_
    refine r_getI dX9_door_4 fl_X9_329 rfl w0 ?_
    rw [hWk.1]
    refine r_if_eq (tgt := 26) dX9_door_7 (by decide) (fun hz => absurd hz (show ¬ _ from (by decide))) (fun _ => ?_)
    refine r_iload_n dX9_door_10 rfl ?_
    refine r_iconst (v := (-1)) dX9_door_11 (by decide) ?_
    refine r_icmp_lt (tgt := 26) dX9_door_12 (by decide) (fun _ => ?_) (fun hz => absurd (show _ from c) hz)
    refine r_throw (cls := "java/util/NoSuchElementException") (names := ["java/lang/RuntimeException", "java/lang/Exception"]) dX9_door_26 dX9_door_29 dX9_door_30 dX9_door_33 (by decide +kernel) (by decide +kernel) cl_X9_139 xi_NoSuchElementException xa_nse xb_nse (by decide) (Nat.le_of_ble_eq_true rfl) (by omega) (by omega) ?_
    exact ⟨rfl, rfl, rfl, rfl, rfl, rfl⟩
  · skip
    refine r_aload_n dX9_door_0 rfl ?_
    refine r_getR dX9_door_1 fl_X9_78 rfl (by assumption) (by assumption) ?_
    refine r_getI dX9_door_4 fl_X9_329 rfl w0 ?_
    rw [hWk.1]
    refine r_if_eq (tgt := 26) dX9_door_7 (by decide) (fun hz => absurd hz (show ¬ _ from (by decide))) (fun _ => ?_)
    refine r_iload_n dX9_door_10 rfl ?_
    refine r_iconst (v := (-1)) dX9_door_11 (by decide) ?_
    refine r_icmp_lt (tgt := 26) dX9_door_12 (by decide) (fun hz => absurd hz (show ¬ _ from c)) (fun _ => ?_)
    refine r_iload_n dX9_door_15 rfl ?_
    refine r_aload_n dX9_door_16 rfl ?_
    refine r_getR dX9_door_17 fl_X9_78 rfl (by assumption) (by assumption) ?_
    refine r_getI dX9_door_20 fl_X9_331 rfl w0 ?_
    rw [hWk.2.1]
    refine r_icmp_lt (tgt := 34) dX9_door_23 (by decide) (fun hz => absurd hz (show ¬ _ from (hx.resolve_left c))) (fun _ => ?_)
    refine r_throw (cls := "java/util/NoSuchElementException") (names := ["java/lang/RuntimeException", "java/lang/Exception"]) dX9_door_26 dX9_door_29 dX9_door_30 dX9_door_33 (by decide +kernel) (by decide +kernel) cl_X9_139 xi_NoSuchElementException xa_nse xb_nse (by decide) (Nat.le_of_ble_eq_true rfl) (by omega) (by omega) ?_
    exact ⟨rfl, rfl, rfl, rfl, rfl, rfl⟩

set_option maxHeartbeats 4000000 in
set_option maxRecDepth 100000 in
theorem k_door_len (o b s f l : Nat) {t : Nat} {T : Nat → Nat} {fp : Int32} {rr : Nat → Int32} {H M : Nat} {un : Bool} {cs : Nat → List Nat} {tx : Nat → List Int32} {e : Lf} {im : Option Lf} {w : List Nat} {n : Nat} {kd : mK} {I : mI} {J : mJ} {P : mP} (hC : CR o b s f l n kd I J P t T fp rr H M un cs tx e im (some w)) (hz : okZ t T H M cs e) : Ct yX9_door cX9_door 2 (some .int) 9 1 6 [.ref o, .int (-1)] n kd I J P (am_is (some (.int (nI w.length))) n kd I J P) := by
  obtain ⟨hX, hsc, hT, hSt, hLf, hIm, hWk, hQc, hPc⟩ := hC
  obtain ⟨okt, oks, okl⟩ := hz
  have hS := hX.S
  have hL := hX.L
  have hat := hX.at
  have hH8 : H ≤ 8 := oks.2.1
  have hM20 : 2 ≤ M ∧ M ≤ 20 := oks.1
  have hH : I b 0 = nI H := hSt.1.1
  have hMo : I b 1 = nI M := hSt.2.1
  obtain ⟨⟨x0, x1, x2⟩, -, ⟨-, -, hLk⟩, ⟨hQ, hA, hG, hW, hRd, hD, hPg⟩, ⟨p0, p3, p8, p10, p12, p13, p14, p15, p16, p17⟩, ⟨p4, p5, p6, p7⟩, -, -, -⟩ := id hX
  obtain ⟨w0, w1, w2, v0, v4⟩ := id hW
  have hw10 := hWk.2.2.1
  refine ct_of 0 (by decide +kernel) (Nat.le_of_ble_eq_true rfl) rfl ?_
  refine r_aload_n dX9_door_0 rfl ?_
  refine r_getR dX9_door_1 fl_X9_78 rfl (by assumption) (by assumption) ?_
  refine r_getI dX9_door_4 fl_X9_329 rfl w0 ?_
  rw [hWk.1]
  refine r_if_eq (tgt := 26) dX9_door_7 (by decide) (fun hz => absurd hz (show ¬ _ from (by decide))) (fun _ => ?_)
  refine r_iload_n dX9_door_10 rfl ?_
  refine r_iconst (v := (-1)) dX9_door_11 (by decide) ?_
  refine r_icmp_lt (tgt := 26) dX9_door_12 (by decide) (fun hz => absurd hz (show ¬ _ from (by decide))) (fun _ => ?_)
  refine r_iload_n dX9_door_15 rfl ?_
  refine r_aload_n dX9_door_16 rfl ?_
  refine r_getR dX9_door_17 fl_X9_78 rfl (by assumption) (by assumption) ?_
  refine r_getI dX9_door_20 fl_X9_331 rfl w0 ?_
  rw [hWk.2.1]
  refine r_icmp_lt (tgt := 34) dX9_door_23 (by decide) (fun _ => ?_) (fun hz => absurd (show _ from (m1_lt (by omega))) hz)
  refine r_iload_n dX9_door_34 rfl ?_
  refine r_iconst (v := (-1)) dX9_door_35 (by decide) ?_
  refine r_icmp_ne (tgt := 49) dX9_door_36 (by decide) (fun hz => absurd (show _ from rfl) hz) (fun _ => ?_)
  refine r_aload_n dX9_door_39 rfl ?_
  refine r_getR dX9_door_40 fl_X9_78 rfl (by assumption) (by assumption) ?_
  refine r_getI dX9_door_43 fl_X9_331 rfl w0 ?_
  rw [hWk.2.1]
  refine r_goto (tgt := 58) dX9_door_46 (by decide) ?_
  refine r_iret rfl dX9_door_58 ?_
  exact am_is.mk

set_option maxHeartbeats 4000000 in
set_option maxRecDepth 100000 in
theorem k_door (o b s f l : Nat) (i : Nat) {t : Nat} {T : Nat → Nat} {fp : Int32} {rr : Nat → Int32} {H M : Nat} {un : Bool} {cs : Nat → List Nat} {tx : Nat → List Int32} {e : Lf} {im : Option Lf} {w : List Nat} {n : Nat} {kd : mK} {I : mI} {J : mJ} {P : mP} (hC : CR o b s f l n kd I J P t T fp rr H M un cs tx e im (some w)) (hz : okZ t T H M cs e) (hi : i < w.length) : Ct yX9_door cX9_door 2 (some .int) 9 1 6 [.ref o, .int (nI i)] n kd I J P (am_is (some (.int (nI (w.getD i 0)))) n kd I J P) := by
  obtain ⟨hX, hsc, hT, hSt, hLf, hIm, hWk, hQc, hPc⟩ := hC
  obtain ⟨okt, oks, okl⟩ := hz
  have hS := hX.S
  have hL := hX.L
  have hat := hX.at
  have hH8 : H ≤ 8 := oks.2.1
  have hM20 : 2 ≤ M ∧ M ≤ 20 := oks.1
  have hH : I b 0 = nI H := hSt.1.1
  have hMo : I b 1 = nI M := hSt.2.1
  obtain ⟨⟨x0, x1, x2⟩, -, ⟨-, -, hLk⟩, ⟨hQ, hA, hG, hW, hRd, hD, hPg⟩, ⟨p0, p3, p8, p10, p12, p13, p14, p15, p16, p17⟩, ⟨p4, p5, p6, p7⟩, -, -, -⟩ := id hX
  obtain ⟨w0, w1, w2, v0, v4⟩ := id hW
  have hw10 := hWk.2.2.1
  refine ct_of 0 (by decide +kernel) (Nat.le_of_ble_eq_true rfl) rfl ?_
  refine r_aload_n dX9_door_0 rfl ?_
  refine r_getR dX9_door_1 fl_X9_78 rfl (by assumption) (by assumption) ?_
  refine r_getI dX9_door_4 fl_X9_329 rfl w0 ?_
  rw [hWk.1]
  refine r_if_eq (tgt := 26) dX9_door_7 (by decide) (fun hz => absurd hz (show ¬ _ from (by decide))) (fun _ => ?_)
  refine r_iload_n dX9_door_10 rfl ?_
  refine r_iconst (v := (-1)) dX9_door_11 (by decide) ?_
  refine r_icmp_lt (tgt := 26) dX9_door_12 (by decide) (fun hz => absurd hz (show ¬ _ from (fun q => absurd (Int32.lt_trans q (m1_lt (k := 0) (by decide))) (z_nlt (by omega))))) (fun _ => ?_)
  refine r_iload_n dX9_door_15 rfl ?_
  refine r_aload_n dX9_door_16 rfl ?_
  refine r_getR dX9_door_17 fl_X9_78 rfl (by assumption) (by assumption) ?_
  refine r_getI dX9_door_20 fl_X9_331 rfl w0 ?_
  rw [hWk.2.1]
  refine r_icmp_lt (tgt := 34) dX9_door_23 (by decide) (fun _ => ?_) (fun hz => absurd (show _ from ((nI_ltI (by omega) (by omega)).mpr hi)) hz)
  refine r_iload_n dX9_door_34 rfl ?_
  refine r_iconst (v := (-1)) dX9_door_35 (by decide) ?_
  refine r_icmp_ne (tgt := 49) dX9_door_36 (by decide) (fun _ => ?_) (fun hz => absurd hz (show ¬ _ from (nI_m1 (by omega))))
  refine r_aload_n dX9_door_49 rfl ?_
  refine r_getR dX9_door_50 fl_X9_78 rfl (by assumption) (by assumption) ?_
  refine r_getR dX9_door_53 fl_X9_334 rfl (by assumption) (by assumption) ?_
  refine r_iload_n dX9_door_56 rfl ?_
  refine r_iald dX9_door_57 w2 (nI_in8 10 (by omega) (by decide)) (nI_clamp (by omega)) ?_
  rw [hWk.2.2.2 i hi]
  refine r_iret rfl dX9_door_58 ?_
  exact am_is.mk

