/-! HOLDS, on any state, both sides -/
theorem ho_c {I : mI} {b f q h H M : Nat} {un : Bool} {cs : Nat → List Nat} {tx : Nat → List Int32} {e : Lf} {y : Int64} (hh : h < H) (hS : cS I b H M un cs tx) (hL : cL I f H e) (hq : ∀ j, j < H → I q j = nI (rwN y j)) : bz (tvO H M cs e (rwN y) h) = bz (!decide (lastI (evs (opdS I b q f h H) (cs h) []) = 0)) := by
  unfold tvO tvN
  rw [evs_congr (o1 := opdS I b q f h H) (o2 := opN (fun h => nI (e.1 h)) (fun h => nI (e.2.1 h)) (nI M) h H (rwN y)) (cs h) [] (fun c _ h1 h2 => ?_)]
  unfold opdS opN
  by_cases c1 : c < 20000
  · rw [if_pos c1, if_pos c1]
    by_cases c2 : c - 10000 < H
    · rw [if_pos c2, if_pos c2, hq _ c2]
    · rw [if_neg c2, if_neg c2]
  · rw [if_neg c1, if_neg c1]
    by_cases c3 : c = 20002
    · rw [if_pos c3, if_pos c3]; exact hS.2.1
    · rw [if_neg c3, if_neg c3]
      by_cases c4 : c = 20000
      · rw [if_pos c4, if_pos c4]; exact (hL.1 h hh).1
      · rw [if_neg c4, if_neg c4]; exact (hL.1 h hh).2
theorem ho_r {I : mI} {m h H M : Nat} {un : Bool} {cs : Nat → List Nat} {tx : Nat → List Int32} {e : Lf} {y : Int64} (hh : h < H) (hS : rS I m H M un cs tx) (hL : rL I m H e) (hq : ∀ j, j < H → I (m + 25) j = nI (rwN y j)) : bz (!decide (lastI (evs (opdR I m h H) (cs h) []) = 0)) = bz (tvO H M cs e (rwN y) h) := by
  unfold tvO tvN
  rw [evs_congr (o1 := opdR I m h H) (o2 := opN (fun h => nI (e.1 h)) (fun h => nI (e.2.1 h)) (nI M) h H (rwN y)) (cs h) [] (fun c _ h1 h2 => ?_)]
  unfold opdR opN
  by_cases c1 : c < 20000
  · rw [if_pos c1, if_pos c1]
    by_cases c2 : c - 10000 < H
    · rw [if_pos c2, if_pos c2, hq _ c2]
    · rw [if_neg c2, if_neg c2]
  · rw [if_neg c1, if_neg c1]
    by_cases c3 : c = 20002
    · rw [if_pos c3, if_pos c3]; exact hS.1.2.1
    · rw [if_neg c3, if_neg c3]
      by_cases c4 : c = 20000
      · rw [if_pos c4, if_pos c4]; exact (hL.1 h hh).1
      · rw [if_neg c4, if_neg c4]; exact (hL.1 h hh).2.1
theorem gvR_lt {y : Int64} {R : Nat → Int32} {k j : Nat} (h : j < k) : gvR y R k j = nI (rwN y j) := if_pos h

set_option maxHeartbeats 4000000 in
set_option maxRecDepth 100000 in
theorem k_holds_neg (o b s f l : Nat) (h : Nat) (y : Int64) {t : Nat} {T : Nat → Nat} {fp : Int32} {rr : Nat → Int32} {H M : Nat} {un : Bool} {cs : Nat → List Nat} {tx : Nat → List Int32} {e : Lf} {im : Option Lf} {wk : Option (List Nat)} {n : Nat} {kd : mK} {I : mI} {J : mJ} {P : mP} (hC : CR o b s f l n kd I J P t T fp rr H M un cs tx e im wk) (hz : okZ t T H M cs e) (hh : h < H) (hy : y < 0) : Ct yX9_holds cX9_holds 4 (some .int) 9 1 6 [.ref o, .int (nI h), .long y] n kd I J P (pK o n kd I J P (.inr "java/lang/IllegalArgumentException") (CX o t T fp rr H M un cs tx e im wk)) := by
  have hC0 := hC
  have hz0 := hz
  obtain ⟨hX, hsc, hT, hSt, hLf, hIm, hWk, hQc, hPc⟩ := hC
  obtain ⟨okt, oks, okl⟩ := hz
  have hS := hX.S
  have hL := hX.L
  have hat := hX.at
  have hH8 : H ≤ 8 := oks.2.1
  have hM20 : 2 ≤ M ∧ M ≤ 20 := oks.1
  have hH : I b 0 = nI H := hSt.1.1
  have hMo : I b 1 = nI M := hSt.2.1
  obtain ⟨⟨x0, x1, x2⟩, -, ⟨-, -, hLk⟩, ⟨hQ, hA, hG, hW, hRd, hD, hPg⟩, ⟨p0, p3, p8, p10, p12, p13, p14, p15, p16, p17⟩, ⟨p4, p5, p6, p7⟩, -, -, -⟩ := id hX
  refine ct_of 0 (by decide +kernel) (Nat.le_of_ble_eq_true rfl) rfl ?_
  refine r_aload_n dX9_holds_0 rfl ?_
  refine r_iload_n dX9_holds_1 rfl ?_
  refine r_virtV (m0_House o b (nI h) x0 p4 hS.1 (by rw [hH]; exact (isH_of hh (by omega)))) lk_X9_142 mc_X9_mustBeHouse dX9_holds_2 x0 (by decide) rfl rfl (Nat.le_of_ble_eq_true rfl) ?_
  refine r_lload_n dX9_holds_5 rfl ?_
  refine r_lconst (v := 0) dX9_holds_6 (by decide) ?_
  refine r_lcmp dX9_holds_7 ?_
  refine r_if_lt (tgt := 29) dX9_holds_8 (by decide) (fun _ => ?_) (fun hz => absurd (show _ from ((lg_cmp_lt _ _).mpr hy)) hz)
  refine r_throw (cls := "java/lang/IllegalArgumentException") (names := ["java/lang/RuntimeException", "java/lang/Exception"]) dX9_holds_29 dX9_holds_32 dX9_holds_33 dX9_holds_36 (by decide +kernel) (by decide +kernel) cl_X9_110 xi_IllegalArgumentException xa_iae xb_iae (by decide) (Nat.le_of_ble_eq_true rfl) (by omega) (by omega) ?_
  exact pK.sm hC0 ⟨rfl, rfl, rfl, rfl, rfl, rfl⟩

set_option maxHeartbeats 4000000 in
set_option maxRecDepth 100000 in
theorem k_holds_bad (o b s f l : Nat) (h : Nat) (y : Int64) {t : Nat} {T : Nat → Nat} {fp : Int32} {rr : Nat → Int32} {H M : Nat} {un : Bool} {cs : Nat → List Nat} {tx : Nat → List Int32} {e : Lf} {im : Option Lf} {wk : Option (List Nat)} {n : Nat} {kd : mK} {I : mI} {J : mJ} {P : mP} (hC : CR o b s f l n kd I J P t T fp rr H M un cs tx e im wk) (hz : okZ t T H M cs e) (hh : h < H) (hy : ¬ y < 0) (hr0 : rwOk y M H = false) : Ct yX9_holds cX9_holds 4 (some .int) 9 1 6 [.ref o, .int (nI h), .long y] n kd I J P (pK o n kd I J P (.inr "java/lang/IllegalArgumentException") (CX o t T fp rr H M un cs tx e im wk)) := by
  have hC0 := hC
  have hz0 := hz
  obtain ⟨hX, hsc, hT, hSt, hLf, hIm, hWk, hQc, hPc⟩ := hC
  obtain ⟨okt, oks, okl⟩ := hz
  have hS := hX.S
  have hL := hX.L
  have hat := hX.at
  have hH8 : H ≤ 8 := oks.2.1
  have hM20 : 2 ≤ M ∧ M ≤ 20 := oks.1
  have hH : I b 0 = nI H := hSt.1.1
  have hMo : I b 1 = nI M := hSt.2.1
  obtain ⟨⟨x0, x1, x2⟩, -, ⟨-, -, hLk⟩, ⟨hQ, hA, hG, hW, hRd, hD, hPg⟩, ⟨p0, p3, p8, p10, p12, p13, p14, p15, p16, p17⟩, ⟨p4, p5, p6, p7⟩, -, -, -⟩ := id hX
  obtain ⟨k0, hk0, hr, hn⟩ := rwOk_no hr0
  refine ct_of 0 (by decide +kernel) (Nat.le_of_ble_eq_true rfl) rfl ?_
  refine r_aload_n dX9_holds_0 rfl ?_
  refine r_iload_n dX9_holds_1 rfl ?_
  refine r_virtV (m0_House o b (nI h) x0 p4 hS.1 (by rw [hH]; exact (isH_of hh (by omega)))) lk_X9_142 mc_X9_mustBeHouse dX9_holds_2 x0 (by decide) rfl rfl (Nat.le_of_ble_eq_true rfl) ?_
  refine r_lload_n dX9_holds_5 rfl ?_
  refine r_lconst (v := 0) dX9_holds_6 (by decide) ?_
  refine r_lcmp dX9_holds_7 ?_
  refine r_if_lt (tgt := 29) dX9_holds_8 (by decide) (fun hz => absurd hz (show ¬ _ from (fun q => hy ((lg_cmp_lt _ _).mp q)))) (fun _ => ?_)
  refine r_aload_n dX9_holds_11 rfl ?_
  refine r_getR dX9_holds_12 fl_X9_64 rfl x0 p12 ?_
  refine r_getR dX9_holds_15 fl_X9_198 rfl hA.1 hA.2.2.2.2.1 ?_
  refine r_aload_n dX9_holds_18 rfl ?_
  refine r_getR dX9_holds_19 fl_X9_27 rfl (by assumption) (by assumption) ?_
  refine r_lload_n dX9_holds_22 rfl ?_
  refine r_virtE (c_giveRow_no (o + 48) b H M k0 y hA.2.1 hS.1 (by omega) hH hMo hH8 hM20.2 hk0 hr hn) lk_X9_200 mc_X6_giveRow dX9_holds_23 hA.2.1.1 (by decide) rfl rfl (Nat.le_of_ble_eq_true rfl) ?_
  refine r_if_ne (tgt := 37) dX9_holds_26 (by decide) (fun hz => absurd (show _ from rfl) hz) (fun _ => ?_)
  refine r_throw (cls := "java/lang/IllegalArgumentException") (names := ["java/lang/RuntimeException", "java/lang/Exception"]) dX9_holds_29 dX9_holds_32 dX9_holds_33 dX9_holds_36 (by decide +kernel) (by decide +kernel) cl_X9_110 xi_IllegalArgumentException xa_iae xb_iae (by decide) (Nat.le_of_ble_eq_true rfl) (by omega) (by omega) ?_
  refine pK.qf (x := b) (Or.inl rfl) ⟨fun a a1 a2 => ?_, fun _ _ => rfl, fun _ _ => rfl, fun _ _ _ => rfl⟩ hC0
  simp (disch := omega) only [am_up_s, am_up_n]

set_option maxHeartbeats 4000000 in
set_option maxRecDepth 100000 in
theorem k_holds_none (o b s f l : Nat) (h : Nat) (y : Int64) {t : Nat} {T : Nat → Nat} {fp : Int32} {rr : Nat → Int32} {H M : Nat} {un : Bool} {cs : Nat → List Nat} {tx : Nat → List Int32} {e : Lf} {im : Option Lf} {wk : Option (List Nat)} {n : Nat} {kd : mK} {I : mI} {J : mJ} {P : mP} (hC : CR o b s f l n kd I J P t T fp rr H M un cs tx e im wk) (hz : okZ t T H M cs e) (hh : h < H) (hy : ¬ y < 0) (hr : rwOk y M H = true) (hcs : cs h = []) : Ct yX9_holds cX9_holds 4 (some .int) 9 1 6 [.ref o, .int (nI h), .long y] n kd I J P (pK o n kd I J P (.inl (some (.int (-1)))) (CX o t T fp rr H M un cs tx e im wk)) := by
  have hC0 := hC
  have hz0 := hz
  obtain ⟨hX, hsc, hT, hSt, hLf, hIm, hWk, hQc, hPc⟩ := hC
  obtain ⟨okt, oks, okl⟩ := hz
  have hS := hX.S
  have hL := hX.L
  have hat := hX.at
  have hH8 : H ≤ 8 := oks.2.1
  have hM20 : 2 ≤ M ∧ M ≤ 20 := oks.1
  have hH : I b 0 = nI H := hSt.1.1
  have hMo : I b 1 = nI M := hSt.2.1
  obtain ⟨⟨x0, x1, x2⟩, -, ⟨-, -, hLk⟩, ⟨hQ, hA, hG, hW, hRd, hD, hPg⟩, ⟨p0, p3, p8, p10, p12, p13, p14, p15, p16, p17⟩, ⟨p4, p5, p6, p7⟩, -, -, -⟩ := id hX
  have hcw : bz (!(cs h).isEmpty) = nI 0 := by rw [hcs]; rfl
  refine ct_of 0 (by decide +kernel) (Nat.le_of_ble_eq_true rfl) rfl ?_
  refine r_aload_n dX9_holds_0 rfl ?_
  refine r_iload_n dX9_holds_1 rfl ?_
  refine r_virtV (m0_House o b (nI h) x0 p4 hS.1 (by rw [hH]; exact (isH_of hh (by omega)))) lk_X9_142 mc_X9_mustBeHouse dX9_holds_2 x0 (by decide) rfl rfl (Nat.le_of_ble_eq_true rfl) ?_
  refine r_lload_n dX9_holds_5 rfl ?_
  refine r_lconst (v := 0) dX9_holds_6 (by decide) ?_
  refine r_lcmp dX9_holds_7 ?_
  refine r_if_lt (tgt := 29) dX9_holds_8 (by decide) (fun hz => absurd hz (show ¬ _ from (fun q => hy ((lg_cmp_lt _ _).mp q)))) (fun _ => ?_)
  refine r_aload_n dX9_holds_11 rfl ?_
  refine r_getR dX9_holds_12 fl_X9_64 rfl x0 p12 ?_
  refine r_getR dX9_holds_15 fl_X9_198 rfl hA.1 hA.2.2.2.2.1 ?_
  refine r_aload_n dX9_holds_18 rfl ?_
  refine r_getR dX9_holds_19 fl_X9_27 rfl (by assumption) (by assumption) ?_
  refine r_lload_n dX9_holds_22 rfl ?_
  refine r_virtE (c_giveRow (o + 48) b H M y hA.2.1 hS.1 (by omega) hH hMo hH8 hM20.2 hr) lk_X9_200 mc_X6_giveRow dX9_holds_23 hA.2.1.1 (by decide) rfl rfl (Nat.le_of_ble_eq_true rfl) ?_
  refine r_if_ne (tgt := 37) dX9_holds_26 (by decide) (fun _ => ?_) (fun hz => absurd hz (show ¬ _ from (by decide)))
  refine r_aload_n dX9_holds_37 rfl ?_
  refine r_getR dX9_holds_38 fl_X9_27 rfl (by assumption) (by assumption) ?_
  refine r_iload_n dX9_holds_41 rfl ?_
  refine r_virtE (c_X7_hasRiddle b (nI h) hS) lk_X9_151 mc_X7_hasRiddle dX9_holds_42 hS.1 (by decide) rfl rfl (Nat.le_of_ble_eq_true rfl) ?_
  rw [am_up_n _ _ (show b ≠ o + 48 + 3 by omega), hasR_c hH8 hh hSt, hcw]
  refine r_if_ne (tgt := 50) dX9_holds_45 (by decide) (fun hz => absurd (show _ from rfl) hz) (fun _ => ?_)
  refine r_iconst (v := (-1)) dX9_holds_48 (by decide) ?_
  refine r_iret rfl dX9_holds_49 ?_
  refine pK.qf (x := b) (Or.inl rfl) ⟨fun a a1 a2 => ?_, fun _ _ => rfl, fun _ _ => rfl, fun _ _ _ => rfl⟩ hC0
  simp (disch := omega) only [am_up_s, am_up_n]

set_option maxHeartbeats 4000000 in
set_option maxRecDepth 100000 in
theorem k_holds (o b s f l : Nat) (h : Nat) (y : Int64) {t : Nat} {T : Nat → Nat} {fp : Int32} {rr : Nat → Int32} {H M : Nat} {un : Bool} {cs : Nat → List Nat} {tx : Nat → List Int32} {e : Lf} {im : Option Lf} {wk : Option (List Nat)} {n : Nat} {kd : mK} {I : mI} {J : mJ} {P : mP} (hC : CR o b s f l n kd I J P t T fp rr H M un cs tx e im wk) (hz : okZ t T H M cs e) (hh : h < H) (hy : ¬ y < 0) (hr : rwOk y M H = true) (hcs : cs h ≠ []) : Ct yX9_holds cX9_holds 4 (some .int) 9 1 6 [.ref o, .int (nI h), .long y] n kd I J P (pK o n kd I J P (.inl (some (.int (bz (tvO H M cs e (rwN y) h))))) (CX o t T fp rr H M un cs tx e im wk)) := by
  have hC0 := hC
  have hz0 := hz
  obtain ⟨hX, hsc, hT, hSt, hLf, hIm, hWk, hQc, hPc⟩ := hC
  obtain ⟨okt, oks, okl⟩ := hz
  have hS := hX.S
  have hL := hX.L
  have hat := hX.at
  have hH8 : H ≤ 8 := oks.2.1
  have hM20 : 2 ≤ M ∧ M ≤ 20 := oks.1
  have hH : I b 0 = nI H := hSt.1.1
  have hMo : I b 1 = nI M := hSt.2.1
  obtain ⟨⟨x0, x1, x2⟩, -, ⟨-, -, hLk⟩, ⟨hQ, hA, hG, hW, hRd, hD, hPg⟩, ⟨p0, p3, p8, p10, p12, p13, p14, p15, p16, p17⟩, ⟨p4, p5, p6, p7⟩, -, -, -⟩ := id hX
  have hcw : bz (!(cs h).isEmpty) = nI 1 := by cases hx : cs h; exact absurd hx hcs; rfl
  refine ct_of 0 (by decide +kernel) (Nat.le_of_ble_eq_true rfl) rfl ?_
  refine r_aload_n dX9_holds_0 rfl ?_
  refine r_iload_n dX9_holds_1 rfl ?_
  refine r_virtV (m0_House o b (nI h) x0 p4 hS.1 (by rw [hH]; exact (isH_of hh (by omega)))) lk_X9_142 mc_X9_mustBeHouse dX9_holds_2 x0 (by decide) rfl rfl (Nat.le_of_ble_eq_true rfl) ?_
  refine r_lload_n dX9_holds_5 rfl ?_
  refine r_lconst (v := 0) dX9_holds_6 (by decide) ?_
  refine r_lcmp dX9_holds_7 ?_
  refine r_if_lt (tgt := 29) dX9_holds_8 (by decide) (fun hz => absurd hz (show ¬ _ from (fun q => hy ((lg_cmp_lt _ _).mp q)))) (fun _ => ?_)
  refine r_aload_n dX9_holds_11 rfl ?_
  refine r_getR dX9_holds_12 fl_X9_64 rfl x0 p12 ?_
  refine r_getR dX9_holds_15 fl_X9_198 rfl hA.1 hA.2.2.2.2.1 ?_
  refine r_aload_n dX9_holds_18 rfl ?_
  refine r_getR dX9_holds_19 fl_X9_27 rfl (by assumption) (by assumption) ?_
  refine r_lload_n dX9_holds_22 rfl ?_
  refine r_virtE (c_giveRow (o + 48) b H M y hA.2.1 hS.1 (by omega) hH hMo hH8 hM20.2 hr) lk_X9_200 mc_X6_giveRow dX9_holds_23 hA.2.1.1 (by decide) rfl rfl (Nat.le_of_ble_eq_true rfl) ?_
  refine r_if_ne (tgt := 37) dX9_holds_26 (by decide) (fun _ => ?_) (fun hz => absurd hz (show ¬ _ from (by decide)))
  refine r_aload_n dX9_holds_37 rfl ?_
  refine r_getR dX9_holds_38 fl_X9_27 rfl (by assumption) (by assumption) ?_
  refine r_iload_n dX9_holds_41 rfl ?_
  refine r_virtE (c_X7_hasRiddle b (nI h) hS) lk_X9_151 mc_X7_hasRiddle dX9_holds_42 hS.1 (by decide) rfl rfl (Nat.le_of_ble_eq_true rfl) ?_
  rw [am_up_n _ _ (show b ≠ o + 48 + 3 by omega), hasR_c hH8 hh hSt, hcw]
  refine r_if_ne (tgt := 50) dX9_holds_45 (by decide) (fun _ => ?_) (fun hz => absurd hz (show ¬ _ from (by decide)))
  refine r_aload_n dX9_holds_50 rfl ?_
  refine r_getR dX9_holds_51 fl_X9_27 rfl (by assumption) (by assumption) ?_
  refine r_iload_n dX9_holds_54 rfl ?_
  refine r_aload_n dX9_holds_55 rfl ?_
  refine r_getR dX9_holds_56 fl_X9_64 rfl x0 p12 ?_
  refine r_getR dX9_holds_59 fl_X9_198 rfl hA.1 hA.2.2.2.2.1 ?_
  refine r_getR dX9_holds_62 fl_X9_204 rfl hA.2.1.1 hA.2.1.2.2.2.2.2.2.2.2.1 ?_
  refine r_aload_n dX9_holds_65 rfl ?_
  refine r_getR dX9_holds_66 fl_X9_37 rfl (by assumption) (by assumption) ?_
  have hS1 : cS (va_up I (o + 48 + 3) (gvR y (I (o + 48 + 3)) H)) b H M un cs tx := hSt.cg (fun a a1 a2 => am_up_n _ _ (by omega))
  have hL1 : cL (va_up I (o + 48 + 3) (gvR y (I (o + 48 + 3)) H)) f H e := hLf.cg (fun a a1 a2 => am_up_n _ _ (by omega))
  have hof := ofs_inn cs hh
  have ho5 := oks.2.2.1
  have hkc := hS1.1.2.2 h hh
  have hne : cs h ≠ [] := hcs
  have hva := c_X7_valueOf (n := n) (kd := kd) (I := (va_up I (o + 48 + 3) (gvR y (I (o + 48 + 3)) H))) (J := J) (P := P) b (o + 48 + 3) f h H (ofs cs h) (ofs cs h + (cs h).length) (cs h) hS hL hA.2.1.2.2.2.1 (by omega) (by omega) (by omega) hh hH8 hS1.1.1 hkc.2.2.1 (by omega) hkc.2.1 rfl (fun j hj => by rw [hkc.2.2.2 j hj]; simp [List.getD, List.getElem?_eq_getElem hj]) ((oks.2.2.2 h hh).1 hne) (fun c hc => ((oks.2.2.2 h hh).2 c hc).1)
  have hvv := ho_c (y := y) (q := o + 48 + 3) hh hS1 hL1 (fun j hj => by rw [am_up_s]; exact gvR_lt hj)
  refine r_virtS hva lk_X9_207 mc_X7_valueOf dX9_holds_69 hS.1 (by decide) rfl rfl (Nat.le_of_ble_eq_true rfl) (fun R9 => ?_)
  generalize lastI (evs (opdS (va_up I (o + 48 + 3) (gvR y (I (o + 48 + 3)) H)) b (o + 48 + 3) f h H) (cs h) []) = vv at hvv ⊢
  by_cases c : vv = 0
  · skip
    refine r_if_eq (tgt := 79) dX9_holds_72 (by decide) (fun _ => ?_) (fun hz => absurd (show _ from c) hz)
    refine r_iconst (v := nI 0) dX9_holds_79 (by decide) ?_
    refine r_iret rfl dX9_holds_80 ?_
    rw [hvv, show bz (!decide (vv = 0)) = nI 0 from by rw [decide_eq_true c]; rfl]
    refine pK.qf (x := b) (Or.inl rfl) ⟨fun a a1 a2 => ?_, fun _ _ => rfl, fun _ _ => rfl, fun _ _ _ => rfl⟩ hC0
    simp (disch := omega) only [am_up_s, am_up_n]
  · skip
    refine r_if_eq (tgt := 79) dX9_holds_72 (by decide) (fun hz => absurd hz (show ¬ _ from c)) (fun _ => ?_)
    refine r_iconst (v := nI 1) dX9_holds_75 (by decide) ?_
    refine r_goto (tgt := 80) dX9_holds_76 (by decide) ?_
    refine r_iret rfl dX9_holds_80 ?_
    rw [hvv, show bz (!decide (vv = 0)) = nI 1 from by rw [decide_eq_false c]; rfl]
    refine pK.qf (x := b) (Or.inl rfl) ⟨fun a a1 a2 => ?_, fun _ _ => rfl, fun _ _ => rfl, fun _ _ _ => rfl⟩ hC0
    simp (disch := omega) only [am_up_s, am_up_n]


set_option maxHeartbeats 4000000 in
set_option maxRecDepth 100000 in
theorem q_holds_neg (m : Nat) (h : Nat) (y : Int64) {t : Nat} {T : Nat → Nat} {fp : Int32} {rr : Nat → Int32} {H M : Nat} {un : Bool} {cs : Nat → List Nat} {tx : Nat → List Int32} {e : Lf} {im : Option Lf} {wk : Option (List Nat)} {n : Nat} {kd : mK} {I : mI} {J : mJ} {P : mP} (hC : RR m kd I P t T fp rr H M un cs tx e im wk) (hz : okZ t T H M cs e) (hh : h < H) (hy : y < 0) : Ct yX10_holds cX10_holds 5 (some .int) 10 0 0 [.ref m, .int (nI h), .long y] n kd I J P (pQ m n kd I J P (some (.int (nI 0))) 2 (RX m t T fp rr H M un cs tx e im wk)) := by
  refine ct_of 1 (by decide +kernel) (Nat.le_of_ble_eq_true rfl) rfl ?_
  refine r_aload_n dX10_holds_0 rfl ?_
  refine r_iconst (v := nI 0) dX10_holds_1 (by decide) ?_
  refine r_putI dX10_holds_2 fl_X10_193 rfl rfl (kM_0 hC.1) ?_
  refine q_th hC (fun I hC h0 => ?_)
  have hC0 := hC
  have hz0 := hz
  obtain ⟨hM, hT, hSt, hLf, hIm, hWk⟩ := hC
  obtain ⟨okt, oks, okl⟩ := hz
  have hH8 : H ≤ 8 := oks.2.1
  have hM20 : 2 ≤ M ∧ M ≤ 20 := oks.1
  have hH : I m 1 = nI H := hSt.1.1
  have hMo : I m 2 = nI M := hSt.1.2.1
  refine r_aload_n dX10_holds_5 rfl ?_
  refine r_iload_n dX10_holds_6 rfl ?_
  refine r_virtE (c_X10_isHouse m (nI h) hM h0) lk_X10_373 mc_X10_isHouse dX10_holds_7 (kM_0 hM) (by decide) rfl rfl (Nat.le_of_ble_eq_true rfl) ?_
  rw [show (!decide (nI h < 0) && decide (nI h < I m 1)) = true from by rw [hH]; exact (isH_of hh (by omega)), thM_ok]
  refine r_if_eq (tgt := 32) dX10_holds_10 (by decide) (fun hz => absurd hz (show ¬ _ from (by decide))) (fun _ => ?_)
  refine r_aload_n dX10_holds_13 rfl ?_
  refine r_lload_n dX10_holds_14 rfl ?_
  refine r_lconst (v := 0) dX10_holds_15 (by decide) ?_
  refine r_lcmp dX10_holds_16 ?_
  refine r_if_lt (tgt := 24) dX10_holds_17 (by decide) (fun _ => ?_) (fun hz => absurd (show _ from ((lg_cmp_lt _ _).mpr hy)) hz)
  refine r_iconst (v := nI 0) dX10_holds_24 (by decide) ?_
  refine r_iconst (v := nI 2) dX10_holds_25 (by decide) ?_
  refine r_virtE (c_X10_right m false (nI 2) hM h0 (by decide)) lk_X10_343 mc_X10_right dX10_holds_26 (kM_0 hM) (by decide) rfl rfl (Nat.le_of_ble_eq_true rfl) ?_
  refine r_if_ne (tgt := 34) dX10_holds_29 (by decide) (fun hz => absurd (show _ from rfl) hz) (fun _ => ?_)
  refine r_iconst (v := nI 0) dX10_holds_32 (by decide) ?_
  refine r_iret rfl dX10_holds_33 ?_
  exact pQ.th hC0 am_is.mk

set_option maxHeartbeats 4000000 in
set_option maxRecDepth 100000 in
theorem w_holdsR (m h k0 H M : Nat) (y : Int64) {post : am_Post} {n : Nat} {kd : mK} {I : mI} {J : mJ} {P : mP} (hM : kM kd P m) (h0 : I m 0 = 0) (hH : I m 1 = nI H) (hMo : I m 2 = nI M) (hH8 : H ≤ 8) (hM20 : M ≤ 20) (hk0 : k0 ≤ H) (hr : rwOk y M k0 = true) (hE : Ru yX10_holds.cls cX10_holds 5 (some .int) yX10_holds.name 10 (post) 0 0 37 [some (.ref m), some (.int (nI h)), some (.long y), none, some (.int (nI k0))] [] n kd (va_up I (m + 25) (gvR y (I (m + 25)) k0)) J P) : ∀ (c k : Nat), k + c = k0 → Ru yX10_holds.cls cX10_holds 5 (some .int) yX10_holds.name 10 (post) 0 0 37 [some (.ref m), some (.int (nI h)), some (.long y), none, some (.int (nI k))] [] n kd (va_up I (m + 25) (gvR y (I (m + 25)) k)) J P
  | 0, k, hc => by
    rw [show k = k0 by omega]
    exact hE
  | c + 1, k, hc => by
    have g := rwOk_lt hr (show k < k0 by omega)
    refine r_iload dX10_holds_37 rfl ?_
    refine r_aload_n dX10_holds_39 rfl ?_
    refine r_getI dX10_holds_40 fl_X10_350 rfl hM.1 ?_
    rw [am_up_n _ _ (show m ≠ m + 25 by omega), hH]
    refine r_icmp_ge (tgt := 95) dX10_holds_43 (by decide) (fun hz => absurd hz (show ¬ _ from (by rw [nI_leI (by omega) (by omega)]; omega))) (fun _ => ?_)
    refine r_aload_n dX10_holds_46 rfl ?_
    refine r_getR dX10_holds_47 fl_X10_90 rfl (kM_0 hM) (pM_49 hM) ?_
    refine r_iload dX10_holds_50 rfl ?_
    refine r_lload_n dX10_holds_52 rfl ?_
    refine r_iconst (v := nI 5) dX10_holds_53 (by decide) ?_
    refine r_iload dX10_holds_54 rfl ?_
    refine r_imul dX10_holds_56 ?_
    refine r_lshr dX10_holds_57 ?_
    refine r_ldc2 dX10_holds_58 lc_X10_408 ?_
    refine r_land dX10_holds_61 ?_
    refine r_l2i dX10_holds_62 ?_
    rw [rw_r]
    refine r_iast dX10_holds_63 (aM_49 hM) (nI_in8 8 (by omega) (by decide)) (nI_clamp (by omega)) ?_
    rw [am_up_s, am_up_up, gvR_s]
    refine r_aload_n dX10_holds_64 rfl ?_
    refine r_aload_n dX10_holds_65 rfl ?_
    refine r_getR dX10_holds_66 fl_X10_90 rfl (kM_0 hM) (pM_49 hM) ?_
    refine r_iload dX10_holds_69 rfl ?_
    refine r_iald dX10_holds_71 (aM_49 hM) (nI_in8 8 (by omega) (by decide)) (nI_clamp (by omega)) ?_
    rw [am_up_s, gvR_lt (Nat.lt_succ_self k)]
    refine r_iconst (v := nI 1) dX10_holds_72 (by decide) ?_
    refine r_aload_n dX10_holds_73 rfl ?_
    refine r_getI dX10_holds_74 fl_X10_7 rfl hM.1 ?_
    rw [am_up_n _ _ (show m ≠ m + 25 by omega), hMo]
    refine r_statE (c_X10_within (nI (rwN y k)) (nI 1) (nI M)) lk_X10_369 mc_X10_within dX10_holds_77 (by decide) rfl rfl (Nat.le_of_ble_eq_true rfl) ?_
    rw [show (!decide (nI (rwN y k) < nI 1) && !decide (nI M < nI (rwN y k))) = true from wi_of g.1 g.2 (by omega)]
    refine r_iconst (v := nI 2) dX10_holds_80 (by decide) ?_
    refine r_virtE (c_X10_right m true (nI 2) hM (by rw [am_up_n _ _ (show m ≠ m + 25 by omega)]; exact h0) (by decide)) lk_X10_343 mc_X10_right dX10_holds_81 hM.1 (by decide) rfl rfl (Nat.le_of_ble_eq_true rfl) ?_
    rw [thM_ok]
    refine r_if_ne (tgt := 89) dX10_holds_84 (by decide) (fun _ => ?_) (fun hz => absurd hz (show ¬ _ from (by decide)))
    refine r_iinc (v := nI (k + 1)) dX10_holds_89 rfl (nI_inc k) ?_
    refine r_goto (tgt := 37) dX10_holds_92 (by decide) ?_
    exact w_holdsR m h k0 H M y hM h0 hH hMo hH8 hM20 hk0 hr hE c (k + 1) (by omega)

set_option maxHeartbeats 4000000 in
set_option maxRecDepth 100000 in
theorem q_holds_bad (m : Nat) (h : Nat) (y : Int64) {t : Nat} {T : Nat → Nat} {fp : Int32} {rr : Nat → Int32} {H M : Nat} {un : Bool} {cs : Nat → List Nat} {tx : Nat → List Int32} {e : Lf} {im : Option Lf} {wk : Option (List Nat)} {n : Nat} {kd : mK} {I : mI} {J : mJ} {P : mP} (hC : RR m kd I P t T fp rr H M un cs tx e im wk) (hz : okZ t T H M cs e) (hh : h < H) (hy : ¬ y < 0) (hr0 : rwOk y M H = false) : Ct yX10_holds cX10_holds 5 (some .int) 10 0 0 [.ref m, .int (nI h), .long y] n kd I J P (pQ m n kd I J P (some (.int (nI 0))) 2 (RX m t T fp rr H M un cs tx e im wk)) := by
  refine ct_of 1 (by decide +kernel) (Nat.le_of_ble_eq_true rfl) rfl ?_
  refine r_aload_n dX10_holds_0 rfl ?_
  refine r_iconst (v := nI 0) dX10_holds_1 (by decide) ?_
  refine r_putI dX10_holds_2 fl_X10_193 rfl rfl (kM_0 hC.1) ?_
  refine q_th hC (fun I hC h0 => ?_)
  have hC0 := hC
  have hz0 := hz
  obtain ⟨hM, hT, hSt, hLf, hIm, hWk⟩ := hC
  obtain ⟨okt, oks, okl⟩ := hz
  have hH8 : H ≤ 8 := oks.2.1
  have hM20 : 2 ≤ M ∧ M ≤ 20 := oks.1
  have hH : I m 1 = nI H := hSt.1.1
  have hMo : I m 2 = nI M := hSt.1.2.1
  obtain ⟨k0, hk0, hr, hn⟩ := rwOk_no hr0
  have hn9 : nI (rwN y k0) < nI 1 ∨ nI M < nI (rwN y k0) := by
    have g2 := (rw_lt (y := y) (k := k0)).1
    by_cases c1 : rwN y k0 < 1
    · exact Or.inl ((nI_ltI (by omega) (by omega)).mpr c1)
    · exact Or.inr ((nI_ltI (by omega) (by omega)).mpr (by omega))
  have hE : Ru yX10_holds.cls cX10_holds 5 (some .int) yX10_holds.name 10 (pQ m n kd I J P (some (.int (nI 0))) 2 (RX m t T fp rr H M un cs tx e im wk)) 0 0 37 [some (.ref m), some (.int (nI h)), some (.long y), none, some (.int (nI k0))] [] n kd (va_up I (m + 25) (gvR y (I (m + 25)) k0)) J P := by
    refine r_iload dX10_holds_37 rfl ?_
    refine r_aload_n dX10_holds_39 rfl ?_
    refine r_getI dX10_holds_40 fl_X10_350 rfl hM.1 ?_
    rw [am_up_n _ _ (show m ≠ m + 25 by omega), hH]
    refine r_icmp_ge (tgt := 95) dX10_holds_43 (by decide) (fun hz => absurd hz (show ¬ _ from (by rw [nI_leI (by omega) (by omega)]; omega))) (fun _ => ?_)
    refine r_aload_n dX10_holds_46 rfl ?_
    refine r_getR dX10_holds_47 fl_X10_90 rfl (kM_0 hM) (pM_49 hM) ?_
    refine r_iload dX10_holds_50 rfl ?_
    refine r_lload_n dX10_holds_52 rfl ?_
    refine r_iconst (v := nI 5) dX10_holds_53 (by decide) ?_
    refine r_iload dX10_holds_54 rfl ?_
    refine r_imul dX10_holds_56 ?_
    refine r_lshr dX10_holds_57 ?_
    refine r_ldc2 dX10_holds_58 lc_X10_408 ?_
    refine r_land dX10_holds_61 ?_
    refine r_l2i dX10_holds_62 ?_
    rw [rw_r]
    refine r_iast dX10_holds_63 (aM_49 hM) (nI_in8 8 (by omega) (by decide)) (nI_clamp (by omega)) ?_
    rw [am_up_s, am_up_up, gvR_s]
    refine r_aload_n dX10_holds_64 rfl ?_
    refine r_aload_n dX10_holds_65 rfl ?_
    refine r_getR dX10_holds_66 fl_X10_90 rfl (kM_0 hM) (pM_49 hM) ?_
    refine r_iload dX10_holds_69 rfl ?_
    refine r_iald dX10_holds_71 (aM_49 hM) (nI_in8 8 (by omega) (by decide)) (nI_clamp (by omega)) ?_
    rw [am_up_s, gvR_lt (Nat.lt_succ_self k0)]
    refine r_iconst (v := nI 1) dX10_holds_72 (by decide) ?_
    refine r_aload_n dX10_holds_73 rfl ?_
    refine r_getI dX10_holds_74 fl_X10_7 rfl hM.1 ?_
    rw [am_up_n _ _ (show m ≠ m + 25 by omega), hMo]
    refine r_statE (c_X10_within (nI (rwN y k0)) (nI 1) (nI M)) lk_X10_369 mc_X10_within dX10_holds_77 (by decide) rfl rfl (Nat.le_of_ble_eq_true rfl) ?_
    rw [show (!decide (nI (rwN y k0) < nI 1) && !decide (nI M < nI (rwN y k0))) = false from wi_no hn9]
    refine r_iconst (v := nI 2) dX10_holds_80 (by decide) ?_
    refine r_virtE (c_X10_right m false (nI 2) hM (by rw [am_up_n _ _ (show m ≠ m + 25 by omega)]; exact h0) (by decide)) lk_X10_343 mc_X10_right dX10_holds_81 hM.1 (by decide) rfl rfl (Nat.le_of_ble_eq_true rfl) ?_
    refine r_if_ne (tgt := 89) dX10_holds_84 (by decide) (fun hz => absurd (show _ from rfl) hz) (fun _ => ?_)
    refine r_iconst (v := nI 0) dX10_holds_87 (by decide) ?_
    refine r_iret rfl dX10_holds_88 ?_
    have hR9 : RR m kd (va_up I (m + 25) (gvR y (I (m + 25)) (k0 + 1))) P t T fp rr H M un cs tx e im wk := (RR.rf (I := I) ⟨fun a x y z u => am_up_n _ _ y, fun j _ _ => by rw [am_up_n _ _ (show m ≠ m + 25 by omega)]⟩ hC0)
    exact ⟨rfl, rfl, rfl, rfl, fun a ha => ⟨by rw [show thM false (va_up I (m + 25) (gvR y (I (m + 25)) (k0 + 1))) m (nI 2) = va_up (va_up I (m + 25) (gvR y (I (m + 25)) (k0 + 1))) m (va_up (va_up I (m + 25) (gvR y (I (m + 25)) (k0 + 1)) m) 0 (nI 2)) from rfl, am_up_n _ _ (by omega), am_up_n _ _ (by omega)], rfl⟩, by rw [show thM false (va_up I (m + 25) (gvR y (I (m + 25)) (k0 + 1))) m (nI 2) = va_up (va_up I (m + 25) (gvR y (I (m + 25)) (k0 + 1))) m (va_up (va_up I (m + 25) (gvR y (I (m + 25)) (k0 + 1)) m) 0 (nI 2)) from rfl, am_up_s, am_up_s], RR.th hR9⟩
  refine r_aload_n dX10_holds_5 rfl ?_
  refine r_iload_n dX10_holds_6 rfl ?_
  refine r_virtE (c_X10_isHouse m (nI h) hM h0) lk_X10_373 mc_X10_isHouse dX10_holds_7 (kM_0 hM) (by decide) rfl rfl (Nat.le_of_ble_eq_true rfl) ?_
  rw [show (!decide (nI h < 0) && decide (nI h < I m 1)) = true from by rw [hH]; exact (isH_of hh (by omega)), thM_ok]
  refine r_if_eq (tgt := 32) dX10_holds_10 (by decide) (fun hz => absurd hz (show ¬ _ from (by decide))) (fun _ => ?_)
  refine r_aload_n dX10_holds_13 rfl ?_
  refine r_lload_n dX10_holds_14 rfl ?_
  refine r_lconst (v := 0) dX10_holds_15 (by decide) ?_
  refine r_lcmp dX10_holds_16 ?_
  refine r_if_lt (tgt := 24) dX10_holds_17 (by decide) (fun hz => absurd hz (show ¬ _ from (fun q => hy ((lg_cmp_lt _ _).mp q)))) (fun _ => ?_)
  refine r_iconst (v := nI 1) dX10_holds_20 (by decide) ?_
  refine r_goto (tgt := 25) dX10_holds_21 (by decide) ?_
  refine r_iconst (v := nI 2) dX10_holds_25 (by decide) ?_
  refine r_virtE (c_X10_right m true (nI 2) hM h0 (by decide)) lk_X10_343 mc_X10_right dX10_holds_26 (kM_0 hM) (by decide) rfl rfl (Nat.le_of_ble_eq_true rfl) ?_
  rw [thM_ok]
  refine r_if_ne (tgt := 34) dX10_holds_29 (by decide) (fun _ => ?_) (fun hz => absurd hz (show ¬ _ from (by decide)))
  refine r_iconst (v := nI 0) dX10_holds_34 (by decide) ?_
  refine r_istore dX10_holds_35 (by decide) ?_
  have hx := w_holdsR (n := n) (J := J) m h k0 H M y hM h0 hH hMo hH8 hM20.2 (Nat.le_of_lt hk0) hr hE k0 0 (by omega)
  rw [gvR_0, am_up_id] at hx
  exact hx

set_option maxHeartbeats 4000000 in
set_option maxRecDepth 100000 in
theorem q_holds_none (m : Nat) (h : Nat) (y : Int64) {t : Nat} {T : Nat → Nat} {fp : Int32} {rr : Nat → Int32} {H M : Nat} {un : Bool} {cs : Nat → List Nat} {tx : Nat → List Int32} {e : Lf} {im : Option Lf} {wk : Option (List Nat)} {n : Nat} {kd : mK} {I : mI} {J : mJ} {P : mP} (hC : RR m kd I P t T fp rr H M un cs tx e im wk) (hz : okZ t T H M cs e) (hh : h < H) (hy : ¬ y < 0) (hr : rwOk y M H = true) (hcs : cs h = []) : Ct yX10_holds cX10_holds 5 (some .int) 10 0 0 [.ref m, .int (nI h), .long y] n kd I J P (pQ m n kd I J P (some (.int (-1))) 0 (RX m t T fp rr H M un cs tx e im wk)) := by
  refine ct_of 1 (by decide +kernel) (Nat.le_of_ble_eq_true rfl) rfl ?_
  refine r_aload_n dX10_holds_0 rfl ?_
  refine r_iconst (v := nI 0) dX10_holds_1 (by decide) ?_
  refine r_putI dX10_holds_2 fl_X10_193 rfl rfl (kM_0 hC.1) ?_
  refine q_th hC (fun I hC h0 => ?_)
  have hC0 := hC
  have hz0 := hz
  obtain ⟨hM, hT, hSt, hLf, hIm, hWk⟩ := hC
  obtain ⟨okt, oks, okl⟩ := hz
  have hH8 : H ≤ 8 := oks.2.1
  have hM20 : 2 ≤ M ∧ M ≤ 20 := oks.1
  have hH : I m 1 = nI H := hSt.1.1
  have hMo : I m 2 = nI M := hSt.1.2.1
  have hE : Ru yX10_holds.cls cX10_holds 5 (some .int) yX10_holds.name 10 (pQ m n kd I J P (some (.int (-1))) 0 (RX m t T fp rr H M un cs tx e im wk)) 0 0 37 [some (.ref m), some (.int (nI h)), some (.long y), none, some (.int (nI H))] [] n kd (va_up I (m + 25) (gvR y (I (m + 25)) H)) J P := by
    refine r_iload dX10_holds_37 rfl ?_
    refine r_aload_n dX10_holds_39 rfl ?_
    refine r_getI dX10_holds_40 fl_X10_350 rfl hM.1 ?_
    rw [am_up_n _ _ (show m ≠ m + 25 by omega), hH]
    refine r_icmp_ge (tgt := 95) dX10_holds_43 (by decide) (fun _ => ?_) (fun hz => absurd (show _ from (by rw [nI_leI (by omega) (by omega)]; omega)) hz)
    refine r_aload_n dX10_holds_95 rfl ?_
    refine r_getR dX10_holds_96 fl_X10_20 rfl (kM_0 hM) (pM_6 hM) ?_
    refine r_iload_n dX10_holds_99 rfl ?_
    refine r_iald dX10_holds_100 (aM_6 hM) (nI_in8 8 (by omega) (by decide)) (nI_clamp (by omega)) ?_
    rw [am_up_n _ _ (show m + 3 ≠ m + 25 by omega), (hSt.2.2 h hh).1, if_pos hcs]
    refine r_if_ne (tgt := 108) dX10_holds_101 (by decide) (fun hz => absurd (show _ from rfl) hz) (fun _ => ?_)
    refine r_iconst (v := (-1)) dX10_holds_104 (by decide) ?_
    refine r_goto (tgt := 121) dX10_holds_105 (by decide) ?_
    refine r_iret rfl dX10_holds_121 ?_
    exact ⟨rfl, rfl, rfl, rfl, fun a ha => ⟨am_up_n _ _ (by omega), rfl⟩, by rw [am_up_n _ _ (show m ≠ m + 25 by omega)]; exact h0, (RR.rf (I := I) ⟨fun a x y z u => am_up_n _ _ y, fun j _ _ => by rw [am_up_n _ _ (show m ≠ m + 25 by omega)]⟩ hC0)⟩
  refine r_aload_n dX10_holds_5 rfl ?_
  refine r_iload_n dX10_holds_6 rfl ?_
  refine r_virtE (c_X10_isHouse m (nI h) hM h0) lk_X10_373 mc_X10_isHouse dX10_holds_7 (kM_0 hM) (by decide) rfl rfl (Nat.le_of_ble_eq_true rfl) ?_
  rw [show (!decide (nI h < 0) && decide (nI h < I m 1)) = true from by rw [hH]; exact (isH_of hh (by omega)), thM_ok]
  refine r_if_eq (tgt := 32) dX10_holds_10 (by decide) (fun hz => absurd hz (show ¬ _ from (by decide))) (fun _ => ?_)
  refine r_aload_n dX10_holds_13 rfl ?_
  refine r_lload_n dX10_holds_14 rfl ?_
  refine r_lconst (v := 0) dX10_holds_15 (by decide) ?_
  refine r_lcmp dX10_holds_16 ?_
  refine r_if_lt (tgt := 24) dX10_holds_17 (by decide) (fun hz => absurd hz (show ¬ _ from (fun q => hy ((lg_cmp_lt _ _).mp q)))) (fun _ => ?_)
  refine r_iconst (v := nI 1) dX10_holds_20 (by decide) ?_
  refine r_goto (tgt := 25) dX10_holds_21 (by decide) ?_
  refine r_iconst (v := nI 2) dX10_holds_25 (by decide) ?_
  refine r_virtE (c_X10_right m true (nI 2) hM h0 (by decide)) lk_X10_343 mc_X10_right dX10_holds_26 (kM_0 hM) (by decide) rfl rfl (Nat.le_of_ble_eq_true rfl) ?_
  rw [thM_ok]
  refine r_if_ne (tgt := 34) dX10_holds_29 (by decide) (fun _ => ?_) (fun hz => absurd hz (show ¬ _ from (by decide)))
  refine r_iconst (v := nI 0) dX10_holds_34 (by decide) ?_
  refine r_istore dX10_holds_35 (by decide) ?_
  have hx := w_holdsR (n := n) (J := J) m h H H M y hM h0 hH hMo hH8 hM20.2 (Nat.le_refl _) hr hE H 0 (by omega)
  rw [gvR_0, am_up_id] at hx
  exact hx

set_option maxHeartbeats 4000000 in
set_option maxRecDepth 100000 in
theorem q_holds (m : Nat) (h : Nat) (y : Int64) {t : Nat} {T : Nat → Nat} {fp : Int32} {rr : Nat → Int32} {H M : Nat} {un : Bool} {cs : Nat → List Nat} {tx : Nat → List Int32} {e : Lf} {im : Option Lf} {wk : Option (List Nat)} {n : Nat} {kd : mK} {I : mI} {J : mJ} {P : mP} (hC : RR m kd I P t T fp rr H M un cs tx e im wk) (hz : okZ t T H M cs e) (hh : h < H) (hy : ¬ y < 0) (hr : rwOk y M H = true) (hcs : cs h ≠ []) : Ct yX10_holds cX10_holds 5 (some .int) 10 0 0 [.ref m, .int (nI h), .long y] n kd I J P (pQ m n kd I J P (some (.int (bz (tvO H M cs e (rwN y) h)))) 0 (RX m t T fp rr H M un cs tx e im wk)) := by
  refine ct_of 1 (by decide +kernel) (Nat.le_of_ble_eq_true rfl) rfl ?_
  refine r_aload_n dX10_holds_0 rfl ?_
  refine r_iconst (v := nI 0) dX10_holds_1 (by decide) ?_
  refine r_putI dX10_holds_2 fl_X10_193 rfl rfl (kM_0 hC.1) ?_
  refine q_th hC (fun I hC h0 => ?_)
  have hC0 := hC
  have hz0 := hz
  obtain ⟨hM, hT, hSt, hLf, hIm, hWk⟩ := hC
  obtain ⟨okt, oks, okl⟩ := hz
  have hH8 : H ≤ 8 := oks.2.1
  have hM20 : 2 ≤ M ∧ M ≤ 20 := oks.1
  have hH : I m 1 = nI H := hSt.1.1
  have hMo : I m 2 = nI M := hSt.1.2.1
  have hE : Ru yX10_holds.cls cX10_holds 5 (some .int) yX10_holds.name 10 (pQ m n kd I J P (some (.int (bz (tvO H M cs e (rwN y) h)))) 0 (RX m t T fp rr H M un cs tx e im wk)) 0 0 37 [some (.ref m), some (.int (nI h)), some (.long y), none, some (.int (nI H))] [] n kd (va_up I (m + 25) (gvR y (I (m + 25)) H)) J P := by
    refine r_iload dX10_holds_37 rfl ?_
    refine r_aload_n dX10_holds_39 rfl ?_
    refine r_getI dX10_holds_40 fl_X10_350 rfl hM.1 ?_
    rw [am_up_n _ _ (show m ≠ m + 25 by omega), hH]
    refine r_icmp_ge (tgt := 95) dX10_holds_43 (by decide) (fun _ => ?_) (fun hz => absurd (show _ from (by rw [nI_leI (by omega) (by omega)]; omega)) hz)
    refine r_aload_n dX10_holds_95 rfl ?_
    refine r_getR dX10_holds_96 fl_X10_20 rfl (kM_0 hM) (pM_6 hM) ?_
    refine r_iload_n dX10_holds_99 rfl ?_
    refine r_iald dX10_holds_100 (aM_6 hM) (nI_in8 8 (by omega) (by decide)) (nI_clamp (by omega)) ?_
    rw [am_up_n _ _ (show m + 3 ≠ m + 25 by omega), (hSt.2.2 h hh).1, if_neg hcs]
    refine r_if_ne (tgt := 108) dX10_holds_101 (by decide) (fun _ => ?_) (fun hz => absurd hz (show ¬ _ from (by decide)))
    refine r_aload_n dX10_holds_108 rfl ?_
    refine r_iload_n dX10_holds_109 rfl ?_
    have hS1 : rS (va_up I (m + 25) (gvR y (I (m + 25)) H)) m H M un cs tx := hSt.cg (fun j _ => by rw [am_up_n _ _ (show m ≠ m + 25 by omega)]) (fun a a1 => am_up_n _ _ (by omega))
    have hL1 : rL (va_up I (m + 25) (gvR y (I (m + 25)) H)) m H e := rLx.cg (am_up_n _ _ (by omega)) (am_up_n _ _ (by omega)) (am_up_n _ _ (by omega)) (am_up_n _ _ (by omega)) (am_up_n _ _ (by omega)) (by rw [am_up_n _ _ (show m ≠ m + 25 by omega)]) (by rw [am_up_n _ _ (show m ≠ m + 25 by omega)]) hLf
    obtain ⟨ka, hka, hrcs⟩ := ((hS1.2.2 h hh).2.2 hcs).1
    have hva := c_X10_isTrue (n := n) (kd := kd) (I := (va_up I (m + 25) (gvR y (I (m + 25)) H))) (J := J) (P := P) m h H ka (cs h) hM hh hH8 hS1.1.1 (by rw [hS1.2.1.1]; exact nI_m1 (by omega)) hka hrcs ((oks.2.2.2 h hh).1 hcs)
    rw [ho_r (y := y) hh hS1 hL1 (fun j hj => by rw [am_up_s]; exact gvR_lt hj)] at hva
    refine r_virtS hva lk_X10_410 mc_X10_isTrue dX10_holds_110 hM.1 (by decide) rfl rfl (Nat.le_of_ble_eq_true rfl) (fun R9 => ?_)
    cases (tvO H M cs e (rwN y) h)
    · skip
      refine r_if_eq (tgt := 120) dX10_holds_113 (by decide) (fun _ => ?_) (fun hz => absurd (show _ from rfl) hz)
      refine r_iconst (v := nI 0) dX10_holds_120 (by decide) ?_
      refine r_iret rfl dX10_holds_121 ?_
      exact ⟨rfl, rfl, rfl, rfl, fun a ha => ⟨by rw [am_up_n _ _ (by omega), am_up_n _ _ (by omega)], rfl⟩, by rw [am_up_n _ _ (show m ≠ m + 26 by omega), am_up_n _ _ (show m ≠ m + 25 by omega)]; exact h0, (RR.rf (I := I) ⟨fun a x y z u => by rw [am_up_n _ _ z, am_up_n _ _ y], fun j _ _ => by rw [am_up_n _ _ (show m ≠ m + 26 by omega), am_up_n _ _ (show m ≠ m + 25 by omega)]⟩ hC0)⟩
    · skip
      refine r_if_eq (tgt := 120) dX10_holds_113 (by decide) (fun hz => absurd hz (show ¬ _ from (by decide))) (fun _ => ?_)
      refine r_iconst (v := nI 1) dX10_holds_116 (by decide) ?_
      refine r_goto (tgt := 121) dX10_holds_117 (by decide) ?_
      refine r_iret rfl dX10_holds_121 ?_
      exact ⟨rfl, rfl, rfl, rfl, fun a ha => ⟨by rw [am_up_n _ _ (by omega), am_up_n _ _ (by omega)], rfl⟩, by rw [am_up_n _ _ (show m ≠ m + 26 by omega), am_up_n _ _ (show m ≠ m + 25 by omega)]; exact h0, (RR.rf (I := I) ⟨fun a x y z u => by rw [am_up_n _ _ z, am_up_n _ _ y], fun j _ _ => by rw [am_up_n _ _ (show m ≠ m + 26 by omega), am_up_n _ _ (show m ≠ m + 25 by omega)]⟩ hC0)⟩
  refine r_aload_n dX10_holds_5 rfl ?_
  refine r_iload_n dX10_holds_6 rfl ?_
  refine r_virtE (c_X10_isHouse m (nI h) hM h0) lk_X10_373 mc_X10_isHouse dX10_holds_7 (kM_0 hM) (by decide) rfl rfl (Nat.le_of_ble_eq_true rfl) ?_
  rw [show (!decide (nI h < 0) && decide (nI h < I m 1)) = true from by rw [hH]; exact (isH_of hh (by omega)), thM_ok]
  refine r_if_eq (tgt := 32) dX10_holds_10 (by decide) (fun hz => absurd hz (show ¬ _ from (by decide))) (fun _ => ?_)
  refine r_aload_n dX10_holds_13 rfl ?_
  refine r_lload_n dX10_holds_14 rfl ?_
  refine r_lconst (v := 0) dX10_holds_15 (by decide) ?_
  refine r_lcmp dX10_holds_16 ?_
  refine r_if_lt (tgt := 24) dX10_holds_17 (by decide) (fun hz => absurd hz (show ¬ _ from (fun q => hy ((lg_cmp_lt _ _).mp q)))) (fun _ => ?_)
  refine r_iconst (v := nI 1) dX10_holds_20 (by decide) ?_
  refine r_goto (tgt := 25) dX10_holds_21 (by decide) ?_
  refine r_iconst (v := nI 2) dX10_holds_25 (by decide) ?_
  refine r_virtE (c_X10_right m true (nI 2) hM h0 (by decide)) lk_X10_343 mc_X10_right dX10_holds_26 (kM_0 hM) (by decide) rfl rfl (Nat.le_of_ble_eq_true rfl) ?_
  rw [thM_ok]
  refine r_if_ne (tgt := 34) dX10_holds_29 (by decide) (fun _ => ?_) (fun hz => absurd hz (show ¬ _ from (by decide)))
  refine r_iconst (v := nI 0) dX10_holds_34 (by decide) ?_
  refine r_istore dX10_holds_35 (by decide) ?_
  have hx := w_holdsR (n := n) (J := J) m h H H M y hM h0 hH hMo hH8 hM20.2 (Nat.le_refl _) hr hE H 0 (by omega)
  rw [gvR_0, am_up_id] at hx
  exact hx

