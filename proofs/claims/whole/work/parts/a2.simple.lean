/-! SMALL PUBLIC METHODS OF THE CLASS, on any state -/
theorem isH {x : Int32} {H : Nat} (hH : H < 2 ^ 31) (h : (!decide (x < 0) && decide (x < nI H)) = true) : ∃ k, k < H ∧ x = nI k := by
  rw [Bool.and_eq_true, Bool.not_eq_true', decide_eq_false_iff_not, decide_eq_true_eq] at h
  have h3 : x.toInt < (nI H).toInt := Int32.lt_iff_toInt_lt.mp h.2
  rw [nI_toInt hH] at h3
  have h4 : ¬ x.toInt < 0 := fun q => h.1 (Int32.lt_iff_toInt_lt.mpr q)
  refine ⟨x.toInt.toNat, by omega, Int32.toInt_inj.mp ?_⟩
  rw [nI_toInt (by omega)]
  omega
theorem isN {x : Int32} {M : Nat} (hM : M < 2 ^ 31) (h : (!decide (x < nI 1) && decide (x ≤ nI M)) = true) : ∃ k, 1 ≤ k ∧ k ≤ M ∧ x = nI k := by
  rw [Bool.and_eq_true, Bool.not_eq_true', decide_eq_false_iff_not, decide_eq_true_eq] at h
  have h3 : x.toInt ≤ (nI M).toInt := Int32.le_iff_toInt_le.mp h.2
  rw [nI_toInt hM] at h3
  have h4 : ¬ x.toInt < (nI 1).toInt := fun q => h.1 (Int32.lt_iff_toInt_lt.mpr q)
  rw [show (nI 1).toInt = 1 by decide] at h4
  refine ⟨x.toInt.toNat, by omega, by omega, Int32.toInt_inj.mp ?_⟩
  rw [nI_toInt (by omega)]
  omega
theorem isH_of {k H : Nat} (h : k < H) (hH : H < 2 ^ 31) : (!decide (nI k < 0) && decide (nI k < nI H)) = true := by
  rw [decide_eq_false (z_nlt (by omega)), decide_eq_true ((nI_ltI (by omega) hH).mpr h)]; rfl
theorem isN_of {k M : Nat} (h1 : 1 ≤ k) (h : k ≤ M) (hM : M < 2 ^ 31) : (!decide (nI k < nI 1) && decide (nI k ≤ nI M)) = true := by
  rw [decide_eq_false (by rw [nI_ltI (by omega) (by omega)]; omega), decide_eq_true ((nI_leI (by omega) hM).mpr h)]; rfl

set_option maxHeartbeats 4000000 in
set_option maxRecDepth 100000 in
theorem m0_House (o b : Nat) (x : Int32) {n : Nat} {kd : mK} {I : mI} {J : mJ} {P : mP} (ho : kd o = some (0, 9)) (hp : P o 4 = some b) (hb : kd b = some (0, 7)) (hx : (!decide (x < 0) && decide (x < I b 0)) = true) : Ct yX9_mustBeHouse cX9_mustBeHouse 2 none 1 0 0 [.ref o, .int x] n kd I J P (am_is none n kd I J P) := by
  rw [Bool.and_eq_true, Bool.not_eq_true', decide_eq_false_iff_not, decide_eq_true_eq] at hx
  refine ct_of 0 (by decide +kernel) (Nat.le_of_ble_eq_true rfl) rfl ?_
  refine r_iload_n dX9_mustBeHouse_0 rfl ?_
  refine r_if_lt (tgt := 15) dX9_mustBeHouse_1 (by decide) (fun hz => absurd hz (show ¬ _ from hx.1)) (fun _ => ?_)
  refine r_iload_n dX9_mustBeHouse_4 rfl ?_
  refine r_aload_n dX9_mustBeHouse_5 rfl ?_
  refine r_getR dX9_mustBeHouse_6 fl_X9_27 rfl (by assumption) (by assumption) ?_
  refine r_getI dX9_mustBeHouse_9 fl_X9_124 rfl (by assumption) ?_
  refine r_icmp_lt (tgt := 23) dX9_mustBeHouse_12 (by decide) (fun _ => ?_) (fun hz => absurd (show _ from hx.2) hz)
  refine r_vret rfl dX9_mustBeHouse_23 ?_
  exact am_is.mk

set_option maxHeartbeats 4000000 in
set_option maxRecDepth 100000 in
theorem m0_What (o : Nat) (x y : Int32) {n : Nat} {kd : mK} {I : mI} {J : mJ} {P : mP} (hx : (!decide (x < 0) && decide (x < y)) = true) : Ct yX9_mustBeWhat cX9_mustBeWhat 3 none 1 0 0 [.ref o, .int x, .int y] n kd I J P (am_is none n kd I J P) := by
  rw [Bool.and_eq_true, Bool.not_eq_true', decide_eq_false_iff_not, decide_eq_true_eq] at hx
  refine ct_of 0 (by decide +kernel) (Nat.le_of_ble_eq_true rfl) rfl ?_
  refine r_iload_n dX9_mustBeWhat_0 rfl ?_
  refine r_if_lt (tgt := 9) dX9_mustBeWhat_1 (by decide) (fun hz => absurd hz (show ¬ _ from hx.1)) (fun _ => ?_)
  refine r_iload_n dX9_mustBeWhat_4 rfl ?_
  refine r_iload_n dX9_mustBeWhat_5 rfl ?_
  refine r_icmp_lt (tgt := 17) dX9_mustBeWhat_6 (by decide) (fun _ => ?_) (fun hz => absurd (show _ from hx.2) hz)
  refine r_vret rfl dX9_mustBeWhat_17 ?_
  exact am_is.mk

set_option maxHeartbeats 4000000 in
set_option maxRecDepth 100000 in
theorem m0_Number (o b : Nat) (x : Int32) {n : Nat} {kd : mK} {I : mI} {J : mJ} {P : mP} (ho : kd o = some (0, 9)) (hp : P o 4 = some b) (hb : kd b = some (0, 7)) (hx : (!decide (x < nI 1) && decide (x ≤ I b 1)) = true) : Ct yX9_mustBeNumber cX9_mustBeNumber 2 none 1 0 0 [.ref o, .int x] n kd I J P (am_is none n kd I J P) := by
  rw [Bool.and_eq_true, Bool.not_eq_true', decide_eq_false_iff_not, decide_eq_true_eq] at hx
  refine ct_of 0 (by decide +kernel) (Nat.le_of_ble_eq_true rfl) rfl ?_
  refine r_iload_n dX9_mustBeNumber_0 rfl ?_
  refine r_iconst (v := nI 1) dX9_mustBeNumber_1 (by decide) ?_
  refine r_icmp_lt (tgt := 16) dX9_mustBeNumber_2 (by decide) (fun hz => absurd hz (show ¬ _ from hx.1)) (fun _ => ?_)
  refine r_iload_n dX9_mustBeNumber_5 rfl ?_
  refine r_aload_n dX9_mustBeNumber_6 rfl ?_
  refine r_getR dX9_mustBeNumber_7 fl_X9_27 rfl (by assumption) (by assumption) ?_
  refine r_getI dX9_mustBeNumber_10 fl_X9_127 rfl (by assumption) ?_
  refine r_icmp_le (tgt := 24) dX9_mustBeNumber_13 (by decide) (fun _ => ?_) (fun hz => absurd (show _ from hx.2) hz)
  refine r_vret rfl dX9_mustBeNumber_24 ?_
  exact am_is.mk

/-- the class's answer and what it leaves -/
def pK (o n : Nat) (kd : mK) (I : mI) (J : mJ) (P : mP) (r : Option Value ⊕ String) (C : Nat → mK → mI → mJ → mP → Prop) : am_Post := fun y n' kd' I' J' P' => y = r ∧ (n ≤ n' ∧ n' ≤ n + 1) ∧ (P (o + 56) 3 ≠ none → P' (o + 56) 3 ≠ none) ∧ (∀ a, o + 69 ≤ a → a ≤ o + 125 → kd' a = kd a ∧ I' a = I a ∧ J' a = J a ∧ P' a = P a) ∧ C n' kd' I' J' P'
def CX (o t : Nat) (T : Nat → Nat) (fp : Int32) (rr : Nat → Int32) (H M : Nat) (un : Bool) (cs : Nat → List Nat) (tx : Nat → List Int32) (e : Lf) (im : Option Lf) (wk : Option (List Nat)) : Nat → mK → mI → mJ → mP → Prop := fun n kd I J P => ∃ b s f l, CR o b s f l n kd I J P t T fp rr H M un cs tx e im wk
theorem pK.sm {o b s f l n n' t : Nat} {kd kd' : mK} {I I' : mI} {J J' : mJ} {P P' : mP} {T : Nat → Nat} {fp : Int32} {rr : Nat → Int32} {H M : Nat} {un : Bool} {cs : Nat → List Nat} {tx : Nat → List Int32} {e : Lf} {im : Option Lf} {wk : Option (List Nat)} {r y : Option Value ⊕ String} (hC : CR o b s f l n kd I J P t T fp rr H M un cs tx e im wk) (h : y = r ∧ n' = n ∧ kd' = kd ∧ I' = I ∧ J' = J ∧ P' = P) : pK o n kd I J P r (CX o t T fp rr H M un cs tx e im wk) y n' kd' I' J' P' := by
  obtain ⟨rfl, rfl, rfl, rfl, rfl, rfl⟩ := h
  exact ⟨rfl, ⟨Nat.le_refl _, Nat.le_succ _⟩, fun q => q, fun _ _ _ => ⟨rfl, rfl, rfl, rfl⟩, b, s, f, l, hC⟩
theorem pK.is {o b s f l n n' t : Nat} {kd kd' : mK} {I I' : mI} {J J' : mJ} {P P' : mP} {T : Nat → Nat} {fp : Int32} {rr : Nat → Int32} {H M : Nat} {un : Bool} {cs : Nat → List Nat} {tx : Nat → List Int32} {e : Lf} {im : Option Lf} {wk : Option (List Nat)} {v : Option Value} {y : Option Value ⊕ String} (hC : CR o b s f l n kd I J P t T fp rr H M un cs tx e im wk) (h : am_is v n kd I J P y n' kd' I' J' P') : pK o n kd I J P (.inl v) (CX o t T fp rr H M un cs tx e im wk) y n' kd' I' J' P' := by
  obtain ⟨rfl, rfl, rfl, rfl, rfl, rfl⟩ := h
  exact ⟨rfl, ⟨Nat.le_refl _, Nat.le_succ _⟩, fun q => q, fun _ _ _ => ⟨rfl, rfl, rfl, rfl⟩, b, s, f, l, hC⟩
/-- another life, all forgotten -/
theorem CR.life {o b s f l n t : Nat} {kd : mK} {I I' : mI} {J : mJ} {P : mP} {T : Nat → Nat} {fp : Int32} {rr : Nat → Int32} {H M : Nat} {un : Bool} {cs : Nat → List Nat} {tx : Nat → List Int32} {e e' : Lf} {im : Option Lf} {wk : Option (List Nat)} (hf : ∀ a, a ≠ o → (a < f ∨ f + 5 < a) → I' a = I a) (h0 : ∀ j, j ≠ 11 → j ≠ 18 → I' o j = I o j) (h11 : I' o 11 = nI 0) (h18 : I' o 18 = nI 0) (hL : cL I' f H e') (hC : CR o b s f l n kd I J P t T fp rr H M un cs tx e im wk) : CR o b s f l n kd I' J P t T fp rr H M un cs tx e' im wk := by
  obtain ⟨hX, hs, h1, h2, h3, h4, h5, h6, h7⟩ := hC
  have hat := hX.at
  exact ⟨hX, hs, h1.cg (h0 _ (by decide) (by decide)) (h0 _ (by decide) (by decide)) (hf _ (by omega) (by omega)) (hf _ (by omega) (by omega)), h2.cg (fun a x y => hf a (by omega) (by omega)), hL, h4.cg (h0 _ (by decide) (by decide)) (fun a x y => hf a (by omega) (by omega)), h5.cg (hf _ (by omega) (by omega)) (hf _ (by omega) (by omega)), Or.inl h11, Or.inl h18⟩
/-- a refusal counted -/
theorem CR.ref {o b s f l n t : Nat} {kd : mK} {I : mI} {J : mJ} {P : mP} {T : Nat → Nat} {fp : Int32} {rr : Nat → Int32} {H M : Nat} {un : Bool} {cs : Nat → List Nat} {tx : Nat → List Int32} {e : Lf} {im : Option Lf} {wk : Option (List Nat)} {k : Nat} (hk : k < 3) (hC : CR o b s f l n kd I J P t T fp rr H M un cs tx e im wk) : CR o b s f l n kd (va_up I (o + 2) (va_up (I (o + 2)) k (I (o + 2) k + nI 1))) J P t T fp (va_up rr k (rr k + nI 1)) H M un cs tx e im wk := by
  obtain ⟨hX, hs, h1, h2, h3, h4, h5, h6, h7⟩ := hC
  have hat := hX.at
  obtain ⟨t1, t2, t3, t4⟩ := h1
  refine ⟨hX, hs, ⟨by rw [am_up_n _ _ (by omega)]; exact t1, by rw [am_up_n _ _ (by omega)]; exact t2, by rw [am_up_n _ _ (by omega)]; exact t3, fun j hj => ?_⟩, h2.cg (fun a x y => am_up_n _ _ (by omega)), h3.cg (fun a x y => am_up_n _ _ (by omega)), h4.cg (by rw [am_up_n _ _ (by omega)]) (fun a x y => am_up_n _ _ (by omega)), h5.cg (am_up_n _ _ (by omega)) (am_up_n _ _ (by omega)), h6.cg (by rw [am_up_n _ _ (by omega)]) (am_up_n _ _ (by omega)) (am_up_n _ _ (by omega)) rfl, h7.cg (by rw [am_up_n _ _ (by omega)]) (am_up_n _ _ (by omega)) (am_up_n _ _ (by omega))⟩
  rw [am_up_s]
  by_cases q : j = k
  · rw [q, am_up_s, am_up_s, t4 k hk]
  · rw [am_up_n _ _ q, am_up_n _ _ q]; exact t4 j hj
def hsV (H : Nat) (cs : Nat → List Nat) (e : Lf) (h : Nat) : Nat → Int32
  | 0 => nI (e.1 h)
  | 1 => nI (e.2.1 h)
  | 2 => bz (!(cs h).isEmpty)
  | 3 => bz (e.2.2.1 h)
  | _ => nI (lkO cs H h)
theorem hasR_c {I : mI} {b H M : Nat} {un : Bool} {cs : Nat → List Nat} {tx : Nat → List Int32} {h : Nat} (hH8 : H ≤ 8) (hh : h < H) (hS : cS I b H M un cs tx) : (if (I b 3 >>> (nI h &&& 31)) &&& nI 1 = 0 then nI 0 else nI 1) = bz (!(cs h).isEmpty) := by
  rw [b_ask _ (by omega), hS.1.2.1 h (by omega)]
  simp only [hh, decide_true, Bool.true_and]
  cases (cs h).isEmpty <;> rfl
theorem lks_c {I : mI} {b H M : Nat} {un : Bool} {cs : Nat → List Nat} {tx : Nat → List Int32} {h : Nat} (hh : h < H) (hS : cS I b H M un cs tx) (oS : okS H M cs) : (if nI h < I b 0 then I (b + 1) h &&& ((nI 1 <<< (I b 0 &&& 31)) - nI 1) else nI 0) = nI (lkO cs H h) := by
  rw [hS.1.1, if_pos ((nI_ltI (by have := oS.2.1; omega) (by have := oS.2.1; omega)).mpr hh), (hS.1.2.2 h hh).1, look_maskM oS.2.1 (Nat.lt_trans (lkm_lt _ _ (by decide) (fun c hc => ((oS.2.2.2 h hh).2 c hc).2)) (by decide))]
  rfl
set_option maxHeartbeats 4000000 in
set_option maxRecDepth 100000 in
theorem k_house_0 (o b s f l : Nat) (h : Nat) {t : Nat} {T : Nat → Nat} {fp : Int32} {rr : Nat → Int32} {H M : Nat} {un : Bool} {cs : Nat → List Nat} {tx : Nat → List Int32} {e : Lf} {im : Option Lf} {wk : Option (List Nat)} {n : Nat} {kd : mK} {I : mI} {J : mJ} {P : mP} (hC : CR o b s f l n kd I J P t T fp rr H M un cs tx e im wk) (hz : okZ t T H M cs e) (hh : h < H) : Ct yX9_house cX9_house 3 (some .int) 9 1 6 [.ref o, .int (nI h), .int (nI 0)] n kd I J P (am_is (some (.int (hsV H cs e h 0))) n kd I J P) := by
  obtain ⟨hX, hsc, hT, hSt, hLf, hIm, hWk, hQc, hPc⟩ := hC
  obtain ⟨okt, oks, okl⟩ := hz
  have hS := hX.S
  have hL := hX.L
  have hat := hX.at
  have hH8 : H ≤ 8 := oks.2.1
  have hM20 : 2 ≤ M ∧ M ≤ 20 := oks.1
  have hH : I b 0 = nI H := hSt.1.1
  have hMo : I b 1 = nI M := hSt.2.1
  obtain ⟨⟨x0, x1, x2⟩, -, ⟨-, -, hLk⟩, ⟨hQ, hA, hG, hW, hRd, hD, hPg⟩, ⟨p0, p3, p8, p10, p12, p13, p14, p15, p16, p17⟩, ⟨p4, p5, p6, p7⟩, -, -, -⟩ := id hX
  obtain ⟨s0, s1, s2, s3, s4, s5, s6, s7, s8, s9, u4, u5, u7, u8, u9, u11, u12, u13, u14⟩ := id hS
  obtain ⟨l0, l1, l2, l3, l4, l5, q0, q1, q3, q5, q6⟩ := id hL
  refine ct_of 0 (by decide +kernel) (Nat.le_of_ble_eq_true rfl) rfl ?_
  refine r_aload_n dX9_house_0 rfl ?_
  refine r_iload_n dX9_house_1 rfl ?_
  refine r_virtV (m0_House o b (nI h) x0 p4 hS.1 (by rw [hH]; exact (isH_of hh (by omega)))) lk_X9_142 mc_X9_mustBeHouse dX9_house_2 x0 (by decide) rfl rfl (Nat.le_of_ble_eq_true rfl) ?_
  refine r_iload_n dX9_house_5 rfl ?_
  refine r_tabE (off := 34) (tgt := 40) rfl dX9_house_6 (by decide) (by decide) (by decide) (by decide) ?_
  refine r_aload_n dX9_house_40 rfl ?_
  refine r_getR dX9_house_41 fl_X9_37 rfl (by assumption) (by assumption) ?_
  refine r_getR dX9_house_44 fl_X9_145 rfl (by assumption) (by assumption) ?_
  refine r_iload_n dX9_house_47 rfl ?_
  refine r_iald dX9_house_48 l1 (nI_in8 8 (by omega) (by decide)) (nI_clamp (by omega)) ?_
  rw [(hLf.1 h hh).1]
  refine r_iret rfl dX9_house_49 ?_
  exact am_is.mk

set_option maxHeartbeats 4000000 in
set_option maxRecDepth 100000 in
theorem k_house_1 (o b s f l : Nat) (h : Nat) {t : Nat} {T : Nat → Nat} {fp : Int32} {rr : Nat → Int32} {H M : Nat} {un : Bool} {cs : Nat → List Nat} {tx : Nat → List Int32} {e : Lf} {im : Option Lf} {wk : Option (List Nat)} {n : Nat} {kd : mK} {I : mI} {J : mJ} {P : mP} (hC : CR o b s f l n kd I J P t T fp rr H M un cs tx e im wk) (hz : okZ t T H M cs e) (hh : h < H) : Ct yX9_house cX9_house 3 (some .int) 9 1 6 [.ref o, .int (nI h), .int (nI 1)] n kd I J P (am_is (some (.int (hsV H cs e h 1))) n kd I J P) := by
  obtain ⟨hX, hsc, hT, hSt, hLf, hIm, hWk, hQc, hPc⟩ := hC
  obtain ⟨okt, oks, okl⟩ := hz
  have hS := hX.S
  have hL := hX.L
  have hat := hX.at
  have hH8 : H ≤ 8 := oks.2.1
  have hM20 : 2 ≤ M ∧ M ≤ 20 := oks.1
  have hH : I b 0 = nI H := hSt.1.1
  have hMo : I b 1 = nI M := hSt.2.1
  obtain ⟨⟨x0, x1, x2⟩, -, ⟨-, -, hLk⟩, ⟨hQ, hA, hG, hW, hRd, hD, hPg⟩, ⟨p0, p3, p8, p10, p12, p13, p14, p15, p16, p17⟩, ⟨p4, p5, p6, p7⟩, -, -, -⟩ := id hX
  obtain ⟨s0, s1, s2, s3, s4, s5, s6, s7, s8, s9, u4, u5, u7, u8, u9, u11, u12, u13, u14⟩ := id hS
  obtain ⟨l0, l1, l2, l3, l4, l5, q0, q1, q3, q5, q6⟩ := id hL
  refine ct_of 0 (by decide +kernel) (Nat.le_of_ble_eq_true rfl) rfl ?_
  refine r_aload_n dX9_house_0 rfl ?_
  refine r_iload_n dX9_house_1 rfl ?_
  refine r_virtV (m0_House o b (nI h) x0 p4 hS.1 (by rw [hH]; exact (isH_of hh (by omega)))) lk_X9_142 mc_X9_mustBeHouse dX9_house_2 x0 (by decide) rfl rfl (Nat.le_of_ble_eq_true rfl) ?_
  refine r_iload_n dX9_house_5 rfl ?_
  refine r_tabE (off := 44) (tgt := 50) rfl dX9_house_6 (by decide) (by decide) (by decide) (by decide) ?_
  refine r_aload_n dX9_house_50 rfl ?_
  refine r_getR dX9_house_51 fl_X9_37 rfl (by assumption) (by assumption) ?_
  refine r_getR dX9_house_54 fl_X9_148 rfl (by assumption) (by assumption) ?_
  refine r_iload_n dX9_house_57 rfl ?_
  refine r_iald dX9_house_58 l2 (nI_in8 8 (by omega) (by decide)) (nI_clamp (by omega)) ?_
  rw [(hLf.1 h hh).2]
  refine r_iret rfl dX9_house_59 ?_
  exact am_is.mk

set_option maxHeartbeats 4000000 in
set_option maxRecDepth 100000 in
theorem k_house_2 (o b s f l : Nat) (h : Nat) {t : Nat} {T : Nat → Nat} {fp : Int32} {rr : Nat → Int32} {H M : Nat} {un : Bool} {cs : Nat → List Nat} {tx : Nat → List Int32} {e : Lf} {im : Option Lf} {wk : Option (List Nat)} {n : Nat} {kd : mK} {I : mI} {J : mJ} {P : mP} (hC : CR o b s f l n kd I J P t T fp rr H M un cs tx e im wk) (hz : okZ t T H M cs e) (hh : h < H) : Ct yX9_house cX9_house 3 (some .int) 9 1 6 [.ref o, .int (nI h), .int (nI 2)] n kd I J P (am_is (some (.int (hsV H cs e h 2))) n kd I J P) := by
  obtain ⟨hX, hsc, hT, hSt, hLf, hIm, hWk, hQc, hPc⟩ := hC
  obtain ⟨okt, oks, okl⟩ := hz
  have hS := hX.S
  have hL := hX.L
  have hat := hX.at
  have hH8 : H ≤ 8 := oks.2.1
  have hM20 : 2 ≤ M ∧ M ≤ 20 := oks.1
  have hH : I b 0 = nI H := hSt.1.1
  have hMo : I b 1 = nI M := hSt.2.1
  obtain ⟨⟨x0, x1, x2⟩, -, ⟨-, -, hLk⟩, ⟨hQ, hA, hG, hW, hRd, hD, hPg⟩, ⟨p0, p3, p8, p10, p12, p13, p14, p15, p16, p17⟩, ⟨p4, p5, p6, p7⟩, -, -, -⟩ := id hX
  obtain ⟨s0, s1, s2, s3, s4, s5, s6, s7, s8, s9, u4, u5, u7, u8, u9, u11, u12, u13, u14⟩ := id hS
  obtain ⟨l0, l1, l2, l3, l4, l5, q0, q1, q3, q5, q6⟩ := id hL
  refine ct_of 0 (by decide +kernel) (Nat.le_of_ble_eq_true rfl) rfl ?_
  by_cases c : (cs h).isEmpty = true
  · have cv : hsV H cs e h 2 = nI 0 := by show bz (!(cs h).isEmpty) = _; rw [c]; rfl
    have cw : bz (!(cs h).isEmpty) = nI 0 := cv
    rw [cv]
    refine r_aload_n dX9_house_0 rfl ?_
    refine r_iload_n dX9_house_1 rfl ?_
    refine r_virtV (m0_House o b (nI h) x0 p4 hS.1 (by rw [hH]; exact (isH_of hh (by omega)))) lk_X9_142 mc_X9_mustBeHouse dX9_house_2 x0 (by decide) rfl rfl (Nat.le_of_ble_eq_true rfl) ?_
    refine r_iload_n dX9_house_5 rfl ?_
    refine r_tabE (off := 54) (tgt := 60) rfl dX9_house_6 (by decide) (by decide) (by decide) (by decide) ?_
    refine r_aload_n dX9_house_60 rfl ?_
    refine r_getR dX9_house_61 fl_X9_27 rfl (by assumption) (by assumption) ?_
    refine r_iload_n dX9_house_64 rfl ?_
    refine r_virtE (c_X7_hasRiddle b (nI h) hS) lk_X9_151 mc_X7_hasRiddle dX9_house_65 s0 (by decide) rfl rfl (Nat.le_of_ble_eq_true rfl) ?_
    rw [hasR_c hH8 hh hSt]
    rw [cw]
    refine r_if_eq (tgt := 75) dX9_house_68 (by decide) (fun _ => ?_) (fun hz => absurd (show _ from rfl) hz)
    refine r_iconst (v := nI 0) dX9_house_75 (by decide) ?_
    refine r_iret rfl dX9_house_76 ?_
    exact am_is.mk
  · have cf : (cs h).isEmpty = false := by cases hx : (cs h).isEmpty; rfl; exact absurd hx c
    have cv : hsV H cs e h 2 = nI 1 := by show bz (!(cs h).isEmpty) = _; rw [cf]; rfl
    have cw : bz (!(cs h).isEmpty) = nI 1 := cv
    rw [cv]
    refine r_aload_n dX9_house_0 rfl ?_
    refine r_iload_n dX9_house_1 rfl ?_
    refine r_virtV (m0_House o b (nI h) x0 p4 hS.1 (by rw [hH]; exact (isH_of hh (by omega)))) lk_X9_142 mc_X9_mustBeHouse dX9_house_2 x0 (by decide) rfl rfl (Nat.le_of_ble_eq_true rfl) ?_
    refine r_iload_n dX9_house_5 rfl ?_
    refine r_tabE (off := 54) (tgt := 60) rfl dX9_house_6 (by decide) (by decide) (by decide) (by decide) ?_
    refine r_aload_n dX9_house_60 rfl ?_
    refine r_getR dX9_house_61 fl_X9_27 rfl (by assumption) (by assumption) ?_
    refine r_iload_n dX9_house_64 rfl ?_
    refine r_virtE (c_X7_hasRiddle b (nI h) hS) lk_X9_151 mc_X7_hasRiddle dX9_house_65 s0 (by decide) rfl rfl (Nat.le_of_ble_eq_true rfl) ?_
    rw [hasR_c hH8 hh hSt]
    rw [cw]
    refine r_if_eq (tgt := 75) dX9_house_68 (by decide) (fun hz => absurd hz (show ¬ _ from (by decide))) (fun _ => ?_)
    refine r_iconst (v := nI 1) dX9_house_71 (by decide) ?_
    refine r_goto (tgt := 76) dX9_house_72 (by decide) ?_
    refine r_iret rfl dX9_house_76 ?_
    exact am_is.mk

set_option maxHeartbeats 4000000 in
set_option maxRecDepth 100000 in
theorem k_house_3 (o b s f l : Nat) (h : Nat) {t : Nat} {T : Nat → Nat} {fp : Int32} {rr : Nat → Int32} {H M : Nat} {un : Bool} {cs : Nat → List Nat} {tx : Nat → List Int32} {e : Lf} {im : Option Lf} {wk : Option (List Nat)} {n : Nat} {kd : mK} {I : mI} {J : mJ} {P : mP} (hC : CR o b s f l n kd I J P t T fp rr H M un cs tx e im wk) (hz : okZ t T H M cs e) (hh : h < H) : Ct yX9_house cX9_house 3 (some .int) 9 1 6 [.ref o, .int (nI h), .int (nI 3)] n kd I J P (am_is (some (.int (hsV H cs e h 3))) n kd I J P) := by
  obtain ⟨hX, hsc, hT, hSt, hLf, hIm, hWk, hQc, hPc⟩ := hC
  obtain ⟨okt, oks, okl⟩ := hz
  have hS := hX.S
  have hL := hX.L
  have hat := hX.at
  have hH8 : H ≤ 8 := oks.2.1
  have hM20 : 2 ≤ M ∧ M ≤ 20 := oks.1
  have hH : I b 0 = nI H := hSt.1.1
  have hMo : I b 1 = nI M := hSt.2.1
  obtain ⟨⟨x0, x1, x2⟩, -, ⟨-, -, hLk⟩, ⟨hQ, hA, hG, hW, hRd, hD, hPg⟩, ⟨p0, p3, p8, p10, p12, p13, p14, p15, p16, p17⟩, ⟨p4, p5, p6, p7⟩, -, -, -⟩ := id hX
  obtain ⟨s0, s1, s2, s3, s4, s5, s6, s7, s8, s9, u4, u5, u7, u8, u9, u11, u12, u13, u14⟩ := id hS
  obtain ⟨l0, l1, l2, l3, l4, l5, q0, q1, q3, q5, q6⟩ := id hL
  refine ct_of 0 (by decide +kernel) (Nat.le_of_ble_eq_true rfl) rfl ?_
  refine r_aload_n dX9_house_0 rfl ?_
  refine r_iload_n dX9_house_1 rfl ?_
  refine r_virtV (m0_House o b (nI h) x0 p4 hS.1 (by rw [hH]; exact (isH_of hh (by omega)))) lk_X9_142 mc_X9_mustBeHouse dX9_house_2 x0 (by decide) rfl rfl (Nat.le_of_ble_eq_true rfl) ?_
  refine r_iload_n dX9_house_5 rfl ?_
  refine r_tabE (off := 71) (tgt := 77) rfl dX9_house_6 (by decide) (by decide) (by decide) (by decide) ?_
  refine r_aload_n dX9_house_77 rfl ?_
  refine r_getR dX9_house_78 fl_X9_37 rfl (by assumption) (by assumption) ?_
  refine r_getI dX9_house_81 fl_X9_155 rfl (by assumption) ?_
  try simp (disch := omega) only [am_up_s, am_up_n]
  refine r_iload_n dX9_house_84 rfl ?_
  refine r_ishr dX9_house_85 ?_
  refine r_iconst (v := nI 1) dX9_house_86 (by decide) ?_
  refine r_iand dX9_house_87 ?_
  rw [b_ask _ (by omega), hLf.2.1 h (by omega)]
  simp only [hh, decide_true, Bool.true_and]
  refine r_iret rfl dX9_house_88 ?_
  have : (if e.2.2.1 h = true then nI 1 else nI 0) = bz (e.2.2.1 h) := rfl
  rw [this]
  exact am_is.mk

set_option maxHeartbeats 4000000 in
set_option maxRecDepth 100000 in
theorem k_house_4 (o b s f l : Nat) (h : Nat) {t : Nat} {T : Nat → Nat} {fp : Int32} {rr : Nat → Int32} {H M : Nat} {un : Bool} {cs : Nat → List Nat} {tx : Nat → List Int32} {e : Lf} {im : Option Lf} {wk : Option (List Nat)} {n : Nat} {kd : mK} {I : mI} {J : mJ} {P : mP} (hC : CR o b s f l n kd I J P t T fp rr H M un cs tx e im wk) (hz : okZ t T H M cs e) (hh : h < H) : Ct yX9_house cX9_house 3 (some .int) 9 1 6 [.ref o, .int (nI h), .int (nI 4)] n kd I J P (am_is (some (.int (hsV H cs e h 4))) n kd I J P) := by
  obtain ⟨hX, hsc, hT, hSt, hLf, hIm, hWk, hQc, hPc⟩ := hC
  obtain ⟨okt, oks, okl⟩ := hz
  have hS := hX.S
  have hL := hX.L
  have hat := hX.at
  have hH8 : H ≤ 8 := oks.2.1
  have hM20 : 2 ≤ M ∧ M ≤ 20 := oks.1
  have hH : I b 0 = nI H := hSt.1.1
  have hMo : I b 1 = nI M := hSt.2.1
  obtain ⟨⟨x0, x1, x2⟩, -, ⟨-, -, hLk⟩, ⟨hQ, hA, hG, hW, hRd, hD, hPg⟩, ⟨p0, p3, p8, p10, p12, p13, p14, p15, p16, p17⟩, ⟨p4, p5, p6, p7⟩, -, -, -⟩ := id hX
  obtain ⟨s0, s1, s2, s3, s4, s5, s6, s7, s8, s9, u4, u5, u7, u8, u9, u11, u12, u13, u14⟩ := id hS
  obtain ⟨l0, l1, l2, l3, l4, l5, q0, q1, q3, q5, q6⟩ := id hL
  refine ct_of 0 (by decide +kernel) (Nat.le_of_ble_eq_true rfl) rfl ?_
  refine r_aload_n dX9_house_0 rfl ?_
  refine r_iload_n dX9_house_1 rfl ?_
  refine r_virtV (m0_House o b (nI h) x0 p4 hS.1 (by rw [hH]; exact (isH_of hh (by omega)))) lk_X9_142 mc_X9_mustBeHouse dX9_house_2 x0 (by decide) rfl rfl (Nat.le_of_ble_eq_true rfl) ?_
  refine r_iload_n dX9_house_5 rfl ?_
  refine r_tabE (off := 83) (tgt := 89) rfl dX9_house_6 (by decide) (by decide) (by decide) (by decide) ?_
  refine r_aload_n dX9_house_89 rfl ?_
  refine r_getR dX9_house_90 fl_X9_27 rfl (by assumption) (by assumption) ?_
  refine r_iload_n dX9_house_93 rfl ?_
  refine r_virtE (c_X7_looksAt b h hS (by omega)) lk_X9_158 mc_X7_looksAt dX9_house_94 s0 (by decide) rfl rfl (Nat.le_of_ble_eq_true rfl) ?_
  rw [lks_c hh hSt oks]
  refine r_iret rfl dX9_house_97 ?_
  exact am_is.mk

set_option maxHeartbeats 4000000 in
set_option maxRecDepth 100000 in
theorem k_house_no (o b s f l : Nat) (h : Nat) (y : Int32) {t : Nat} {T : Nat → Nat} {fp : Int32} {rr : Nat → Int32} {H M : Nat} {un : Bool} {cs : Nat → List Nat} {tx : Nat → List Int32} {e : Lf} {im : Option Lf} {wk : Option (List Nat)} {n : Nat} {kd : mK} {I : mI} {J : mJ} {P : mP} (hC : CR o b s f l n kd I J P t T fp rr H M un cs tx e im wk) (hz : okZ t T H M cs e) (hh : h < H) (hy : ¬ (0 ≤ y.toInt ∧ y.toInt ≤ 4)) : Ct yX9_house cX9_house 3 (some .int) 9 1 6 [.ref o, .int (nI h), .int y] n kd I J P (fun z n' kd' I' J' P' => z = .inr "java/util/NoSuchElementException" ∧ n' = n ∧ kd' = kd ∧ I' = I ∧ J' = J ∧ P' = P) := by
  obtain ⟨hX, hsc, hT, hSt, hLf, hIm, hWk, hQc, hPc⟩ := hC
  obtain ⟨okt, oks, okl⟩ := hz
  have hS := hX.S
  have hL := hX.L
  have hat := hX.at
  have hH8 : H ≤ 8 := oks.2.1
  have hM20 : 2 ≤ M ∧ M ≤ 20 := oks.1
  have hH : I b 0 = nI H := hSt.1.1
  have hMo : I b 1 = nI M := hSt.2.1
  obtain ⟨⟨x0, x1, x2⟩, -, ⟨-, -, hLk⟩, ⟨hQ, hA, hG, hW, hRd, hD, hPg⟩, ⟨p0, p3, p8, p10, p12, p13, p14, p15, p16, p17⟩, ⟨p4, p5, p6, p7⟩, -, -, -⟩ := id hX
  refine ct_of 0 (by decide +kernel) (Nat.le_of_ble_eq_true rfl) rfl ?_
  refine r_aload_n dX9_house_0 rfl ?_
  refine r_iload_n dX9_house_1 rfl ?_
  refine r_virtV (m0_House o b (nI h) x0 p4 hS.1 (by rw [hH]; exact (isH_of hh (by omega)))) lk_X9_142 mc_X9_mustBeHouse dX9_house_2 x0 (by decide) rfl rfl (Nat.le_of_ble_eq_true rfl) ?_
  refine r_iload_n dX9_house_5 rfl ?_
  refine r_tabOut (tgt := 98) dX9_house_6 (by omega) (by decide) ?_
  refine r_throw (cls := "java/util/NoSuchElementException") (names := ["java/lang/RuntimeException", "java/lang/Exception"]) dX9_house_98 dX9_house_101 dX9_house_102 dX9_house_105 (by decide +kernel) (by decide +kernel) cl_X9_139 xi_NoSuchElementException xa_nse xb_nse (by decide) (Nat.le_of_ble_eq_true rfl) (by omega) (by omega) ?_
  exact ⟨rfl, rfl, rfl, rfl, rfl, rfl⟩

set_option maxHeartbeats 4000000 in
set_option maxRecDepth 100000 in
theorem n9_house (o b s f l : Nat) (y1 y2 : Int32) {t : Nat} {T : Nat → Nat} {fp : Int32} {rr : Nat → Int32} {H M : Nat} {un : Bool} {cs : Nat → List Nat} {tx : Nat → List Int32} {e : Lf} {im : Option Lf} {wk : Option (List Nat)} {n : Nat} {kd : mK} {I : mI} {J : mJ} {P : mP} (hC : CR o b s f l n kd I J P t T fp rr H M un cs tx e im wk) (hz : okZ t T H M cs e) (hx : (!decide (y1 < 0) && decide (y1 < nI H)) = false) : Ct yX9_house cX9_house 3 (some .int) 9 1 6 [.ref o, .int y1, .int y2] n kd I J P (fun z n' kd' I' J' P' => z = .inr "java/util/NoSuchElementException" ∧ n' = n ∧ kd' = kd ∧ I' = I ∧ J' = J ∧ P' = P) := by
  obtain ⟨hX, hsc, hT, hSt, hLf, hIm, hWk, hQc, hPc⟩ := hC
  obtain ⟨okt, oks, okl⟩ := hz
  have hS := hX.S
  have hL := hX.L
  have hat := hX.at
  have hH8 : H ≤ 8 := oks.2.1
  have hM20 : 2 ≤ M ∧ M ≤ 20 := oks.1
  have hH : I b 0 = nI H := hSt.1.1
  have hMo : I b 1 = nI M := hSt.2.1
  obtain ⟨⟨x0, x1, x2⟩, -, ⟨-, -, hLk⟩, ⟨hQ, hA, hG, hW, hRd, hD, hPg⟩, ⟨p0, p3, p8, p10, p12, p13, p14, p15, p16, p17⟩, ⟨p4, p5, p6, p7⟩, -, -, -⟩ := id hX
  refine ct_of 0 (by decide +kernel) (Nat.le_of_ble_eq_true rfl) rfl ?_
  refine r_aload_n dX9_house_0 rfl ?_
  refine r_iload_n dX9_house_1 rfl ?_
  have hc2 := c_X9_mustBeHouse (n := n) (kd := kd) (I := I) (J := J) (P := P) o b (y1) x0 p4 hS.1
  rw [hH, hx] at hc2
  exact r_virtX hc2 lk_X9_142 mc_X9_mustBeHouse dX9_house_2 x0 (by decide) rfl rfl (Nat.le_of_ble_eq_true rfl) (by decide) (by decide) ⟨rfl, rfl, rfl, rfl, rfl, rfl⟩

set_option maxHeartbeats 4000000 in
set_option maxRecDepth 100000 in
theorem n9_become (o b s f l : Nat) (y1 y2 y3 : Int32) {t : Nat} {T : Nat → Nat} {fp : Int32} {rr : Nat → Int32} {H M : Nat} {un : Bool} {cs : Nat → List Nat} {tx : Nat → List Int32} {e : Lf} {im : Option Lf} {wk : Option (List Nat)} {n : Nat} {kd : mK} {I : mI} {J : mJ} {P : mP} (hC : CR o b s f l n kd I J P t T fp rr H M un cs tx e im wk) (hz : okZ t T H M cs e) (hx : (!decide (y1 < 0) && decide (y1 < nI H)) = false) : Ct yX9_become cX9_become 5 (some .int) 9 1 6 [.ref o, .int y1, .int y2, .int y3] n kd I J P (fun z n' kd' I' J' P' => z = .inr "java/util/NoSuchElementException" ∧ n' = n ∧ kd' = kd ∧ I' = I ∧ J' = J ∧ P' = P) := by
  obtain ⟨hX, hsc, hT, hSt, hLf, hIm, hWk, hQc, hPc⟩ := hC
  obtain ⟨okt, oks, okl⟩ := hz
  have hS := hX.S
  have hL := hX.L
  have hat := hX.at
  have hH8 : H ≤ 8 := oks.2.1
  have hM20 : 2 ≤ M ∧ M ≤ 20 := oks.1
  have hH : I b 0 = nI H := hSt.1.1
  have hMo : I b 1 = nI M := hSt.2.1
  obtain ⟨⟨x0, x1, x2⟩, -, ⟨-, -, hLk⟩, ⟨hQ, hA, hG, hW, hRd, hD, hPg⟩, ⟨p0, p3, p8, p10, p12, p13, p14, p15, p16, p17⟩, ⟨p4, p5, p6, p7⟩, -, -, -⟩ := id hX
  refine ct_of 1 (by decide +kernel) (Nat.le_of_ble_eq_true rfl) rfl ?_
  refine r_aload_n dX9_become_0 rfl ?_
  refine r_iload_n dX9_become_1 rfl ?_
  have hc2 := c_X9_mustBeHouse (n := n) (kd := kd) (I := I) (J := J) (P := P) o b (y1) x0 p4 hS.1
  rw [hH, hx] at hc2
  exact r_virtX hc2 lk_X9_142 mc_X9_mustBeHouse dX9_become_2 x0 (by decide) rfl rfl (Nat.le_of_ble_eq_true rfl) (by decide) (by decide) ⟨rfl, rfl, rfl, rfl, rfl, rfl⟩

set_option maxHeartbeats 4000000 in
set_option maxRecDepth 100000 in
theorem n9_mute (o b s f l : Nat) (y1 y2 : Int32) {t : Nat} {T : Nat → Nat} {fp : Int32} {rr : Nat → Int32} {H M : Nat} {un : Bool} {cs : Nat → List Nat} {tx : Nat → List Int32} {e : Lf} {im : Option Lf} {wk : Option (List Nat)} {n : Nat} {kd : mK} {I : mI} {J : mJ} {P : mP} (hC : CR o b s f l n kd I J P t T fp rr H M un cs tx e im wk) (hz : okZ t T H M cs e) (hx : (!decide (y1 < 0) && decide (y1 < nI H)) = false) : Ct yX9_mute cX9_mute 4 (some .boolean) 9 1 6 [.ref o, .int y1, .int y2] n kd I J P (fun z n' kd' I' J' P' => z = .inr "java/util/NoSuchElementException" ∧ n' = n ∧ kd' = kd ∧ I' = I ∧ J' = J ∧ P' = P) := by
  obtain ⟨hX, hsc, hT, hSt, hLf, hIm, hWk, hQc, hPc⟩ := hC
  obtain ⟨okt, oks, okl⟩ := hz
  have hS := hX.S
  have hL := hX.L
  have hat := hX.at
  have hH8 : H ≤ 8 := oks.2.1
  have hM20 : 2 ≤ M ∧ M ≤ 20 := oks.1
  have hH : I b 0 = nI H := hSt.1.1
  have hMo : I b 1 = nI M := hSt.2.1
  obtain ⟨⟨x0, x1, x2⟩, -, ⟨-, -, hLk⟩, ⟨hQ, hA, hG, hW, hRd, hD, hPg⟩, ⟨p0, p3, p8, p10, p12, p13, p14, p15, p16, p17⟩, ⟨p4, p5, p6, p7⟩, -, -, -⟩ := id hX
  refine ct_of 1 (by decide +kernel) (Nat.le_of_ble_eq_true rfl) rfl ?_
  refine r_aload_n dX9_mute_0 rfl ?_
  refine r_iload_n dX9_mute_1 rfl ?_
  have hc2 := c_X9_mustBeHouse (n := n) (kd := kd) (I := I) (J := J) (P := P) o b (y1) x0 p4 hS.1
  rw [hH, hx] at hc2
  exact r_virtX hc2 lk_X9_142 mc_X9_mustBeHouse dX9_mute_2 x0 (by decide) rfl rfl (Nat.le_of_ble_eq_true rfl) (by decide) (by decide) ⟨rfl, rfl, rfl, rfl, rfl, rfl⟩

set_option maxHeartbeats 4000000 in
set_option maxRecDepth 100000 in
theorem n9_letter (o b s f l : Nat) (y1 y2 : Int32) {t : Nat} {T : Nat → Nat} {fp : Int32} {rr : Nat → Int32} {H M : Nat} {un : Bool} {cs : Nat → List Nat} {tx : Nat → List Int32} {e : Lf} {im : Option Lf} {wk : Option (List Nat)} {n : Nat} {kd : mK} {I : mI} {J : mJ} {P : mP} (hC : CR o b s f l n kd I J P t T fp rr H M un cs tx e im wk) (hz : okZ t T H M cs e) (hx : (!decide (y1 < 0) && decide (y1 < nI H)) = false) : Ct yX9_letter cX9_letter 3 (some .int) 9 1 6 [.ref o, .int y1, .int y2] n kd I J P (fun z n' kd' I' J' P' => z = .inr "java/util/NoSuchElementException" ∧ n' = n ∧ kd' = kd ∧ I' = I ∧ J' = J ∧ P' = P) := by
  obtain ⟨hX, hsc, hT, hSt, hLf, hIm, hWk, hQc, hPc⟩ := hC
  obtain ⟨okt, oks, okl⟩ := hz
  have hS := hX.S
  have hL := hX.L
  have hat := hX.at
  have hH8 : H ≤ 8 := oks.2.1
  have hM20 : 2 ≤ M ∧ M ≤ 20 := oks.1
  have hH : I b 0 = nI H := hSt.1.1
  have hMo : I b 1 = nI M := hSt.2.1
  obtain ⟨⟨x0, x1, x2⟩, -, ⟨-, -, hLk⟩, ⟨hQ, hA, hG, hW, hRd, hD, hPg⟩, ⟨p0, p3, p8, p10, p12, p13, p14, p15, p16, p17⟩, ⟨p4, p5, p6, p7⟩, -, -, -⟩ := id hX
  refine ct_of 0 (by decide +kernel) (Nat.le_of_ble_eq_true rfl) rfl ?_
  refine r_aload_n dX9_letter_0 rfl ?_
  refine r_iload_n dX9_letter_1 rfl ?_
  have hc2 := c_X9_mustBeHouse (n := n) (kd := kd) (I := I) (J := J) (P := P) o b (y1) x0 p4 hS.1
  rw [hH, hx] at hc2
  exact r_virtX hc2 lk_X9_142 mc_X9_mustBeHouse dX9_letter_2 x0 (by decide) rfl rfl (Nat.le_of_ble_eq_true rfl) (by decide) (by decide) ⟨rfl, rfl, rfl, rfl, rfl, rfl⟩

set_option maxHeartbeats 4000000 in
set_option maxRecDepth 100000 in
theorem n9_number (o b s f l : Nat) (y1 y2 : Int32) {t : Nat} {T : Nat → Nat} {fp : Int32} {rr : Nat → Int32} {H M : Nat} {un : Bool} {cs : Nat → List Nat} {tx : Nat → List Int32} {e : Lf} {im : Option Lf} {wk : Option (List Nat)} {n : Nat} {kd : mK} {I : mI} {J : mJ} {P : mP} (hC : CR o b s f l n kd I J P t T fp rr H M un cs tx e im wk) (hz : okZ t T H M cs e) (hx : (!decide (y2 < 0) && decide (y2 < nI H)) = false) : Ct yX9_number cX9_number 3 (some .int) 9 1 6 [.ref o, .int y1, .int y2] n kd I J P (fun z n' kd' I' J' P' => z = .inr "java/util/NoSuchElementException" ∧ n' = n ∧ kd' = kd ∧ I' = I ∧ J' = J ∧ P' = P) := by
  obtain ⟨hX, hsc, hT, hSt, hLf, hIm, hWk, hQc, hPc⟩ := hC
  obtain ⟨okt, oks, okl⟩ := hz
  have hS := hX.S
  have hL := hX.L
  have hat := hX.at
  have hH8 : H ≤ 8 := oks.2.1
  have hM20 : 2 ≤ M ∧ M ≤ 20 := oks.1
  have hH : I b 0 = nI H := hSt.1.1
  have hMo : I b 1 = nI M := hSt.2.1
  obtain ⟨⟨x0, x1, x2⟩, -, ⟨-, -, hLk⟩, ⟨hQ, hA, hG, hW, hRd, hD, hPg⟩, ⟨p0, p3, p8, p10, p12, p13, p14, p15, p16, p17⟩, ⟨p4, p5, p6, p7⟩, -, -, -⟩ := id hX
  refine ct_of 0 (by decide +kernel) (Nat.le_of_ble_eq_true rfl) rfl ?_
  refine r_aload_n dX9_number_0 rfl ?_
  refine r_iload_n dX9_number_1 rfl ?_
  have hc2 := c_X9_mustBeHouse (n := n) (kd := kd) (I := I) (J := J) (P := P) o b (y2) x0 p4 hS.1
  rw [hH, hx] at hc2
  exact r_virtX hc2 lk_X9_142 mc_X9_mustBeHouse dX9_number_2 x0 (by decide) rfl rfl (Nat.le_of_ble_eq_true rfl) (by decide) (by decide) ⟨rfl, rfl, rfl, rfl, rfl, rfl⟩

set_option maxHeartbeats 4000000 in
set_option maxRecDepth 100000 in
theorem n9_may (o b s f l : Nat) (y1 : Int32) {t : Nat} {T : Nat → Nat} {fp : Int32} {rr : Nat → Int32} {H M : Nat} {un : Bool} {cs : Nat → List Nat} {tx : Nat → List Int32} {e : Lf} {im : Option Lf} {wk : Option (List Nat)} {n : Nat} {kd : mK} {I : mI} {J : mJ} {P : mP} (hC : CR o b s f l n kd I J P t T fp rr H M un cs tx e im wk) (hz : okZ t T H M cs e) (hx : (!decide (y1 < 0) && decide (y1 < nI H)) = false) : Ct yX9_may cX9_may 2 (some .int) 9 1 6 [.ref o, .int y1] n kd I J P (fun z n' kd' I' J' P' => z = .inr "java/util/NoSuchElementException" ∧ n' = n ∧ kd' = kd ∧ I' = I ∧ J' = J ∧ P' = P) := by
  obtain ⟨hX, hsc, hT, hSt, hLf, hIm, hWk, hQc, hPc⟩ := hC
  obtain ⟨okt, oks, okl⟩ := hz
  have hS := hX.S
  have hL := hX.L
  have hat := hX.at
  have hH8 : H ≤ 8 := oks.2.1
  have hM20 : 2 ≤ M ∧ M ≤ 20 := oks.1
  have hH : I b 0 = nI H := hSt.1.1
  have hMo : I b 1 = nI M := hSt.2.1
  obtain ⟨⟨x0, x1, x2⟩, -, ⟨-, -, hLk⟩, ⟨hQ, hA, hG, hW, hRd, hD, hPg⟩, ⟨p0, p3, p8, p10, p12, p13, p14, p15, p16, p17⟩, ⟨p4, p5, p6, p7⟩, -, -, -⟩ := id hX
  refine ct_of 0 (by decide +kernel) (Nat.le_of_ble_eq_true rfl) rfl ?_
  refine r_aload_n dX9_may_0 rfl ?_
  refine r_iload_n dX9_may_1 rfl ?_
  have hc2 := c_X9_mustBeHouse (n := n) (kd := kd) (I := I) (J := J) (P := P) o b (y1) x0 p4 hS.1
  rw [hH, hx] at hc2
  exact r_virtX hc2 lk_X9_142 mc_X9_mustBeHouse dX9_may_2 x0 (by decide) rfl rfl (Nat.le_of_ble_eq_true rfl) (by decide) (by decide) ⟨rfl, rfl, rfl, rfl, rfl, rfl⟩

set_option maxHeartbeats 4000000 in
set_option maxRecDepth 100000 in
theorem n9_holds (o b s f l : Nat) (y1 : Int32) (y2 : Int64) {t : Nat} {T : Nat → Nat} {fp : Int32} {rr : Nat → Int32} {H M : Nat} {un : Bool} {cs : Nat → List Nat} {tx : Nat → List Int32} {e : Lf} {im : Option Lf} {wk : Option (List Nat)} {n : Nat} {kd : mK} {I : mI} {J : mJ} {P : mP} (hC : CR o b s f l n kd I J P t T fp rr H M un cs tx e im wk) (hz : okZ t T H M cs e) (hx : (!decide (y1 < 0) && decide (y1 < nI H)) = false) : Ct yX9_holds cX9_holds 4 (some .int) 9 1 6 [.ref o, .int y1, .long y2] n kd I J P (fun z n' kd' I' J' P' => z = .inr "java/util/NoSuchElementException" ∧ n' = n ∧ kd' = kd ∧ I' = I ∧ J' = J ∧ P' = P) := by
  obtain ⟨hX, hsc, hT, hSt, hLf, hIm, hWk, hQc, hPc⟩ := hC
  obtain ⟨okt, oks, okl⟩ := hz
  have hS := hX.S
  have hL := hX.L
  have hat := hX.at
  have hH8 : H ≤ 8 := oks.2.1
  have hM20 : 2 ≤ M ∧ M ≤ 20 := oks.1
  have hH : I b 0 = nI H := hSt.1.1
  have hMo : I b 1 = nI M := hSt.2.1
  obtain ⟨⟨x0, x1, x2⟩, -, ⟨-, -, hLk⟩, ⟨hQ, hA, hG, hW, hRd, hD, hPg⟩, ⟨p0, p3, p8, p10, p12, p13, p14, p15, p16, p17⟩, ⟨p4, p5, p6, p7⟩, -, -, -⟩ := id hX
  refine ct_of 0 (by decide +kernel) (Nat.le_of_ble_eq_true rfl) rfl ?_
  refine r_aload_n dX9_holds_0 rfl ?_
  refine r_iload_n dX9_holds_1 rfl ?_
  have hc2 := c_X9_mustBeHouse (n := n) (kd := kd) (I := I) (J := J) (P := P) o b (y1) x0 p4 hS.1
  rw [hH, hx] at hc2
  exact r_virtX hc2 lk_X9_142 mc_X9_mustBeHouse dX9_holds_2 x0 (by decide) rfl rfl (Nat.le_of_ble_eq_true rfl) (by decide) (by decide) ⟨rfl, rfl, rfl, rfl, rfl, rfl⟩

set_option maxHeartbeats 4000000 in
set_option maxRecDepth 100000 in
theorem n9_post (o b s f l : Nat) (y1 y2 : Int32) {t : Nat} {T : Nat → Nat} {fp : Int32} {rr : Nat → Int32} {H M : Nat} {un : Bool} {cs : Nat → List Nat} {tx : Nat → List Int32} {e : Lf} {im : Option Lf} {wk : Option (List Nat)} {n : Nat} {kd : mK} {I : mI} {J : mJ} {P : mP} (hC : CR o b s f l n kd I J P t T fp rr H M un cs tx e im wk) (hz : okZ t T H M cs e) (hx : (!decide (y1 < 0) && decide (y1 < nI H)) = false) : Ct yX9_post cX9_post 6 (some .int) 9 1 6 [.ref o, .int y1, .int y2] n kd I J P (fun z n' kd' I' J' P' => z = .inr "java/util/NoSuchElementException" ∧ n' = n ∧ kd' = kd ∧ I' = I ∧ J' = J ∧ P' = P) := by
  obtain ⟨hX, hsc, hT, hSt, hLf, hIm, hWk, hQc, hPc⟩ := hC
  obtain ⟨okt, oks, okl⟩ := hz
  have hS := hX.S
  have hL := hX.L
  have hat := hX.at
  have hH8 : H ≤ 8 := oks.2.1
  have hM20 : 2 ≤ M ∧ M ≤ 20 := oks.1
  have hH : I b 0 = nI H := hSt.1.1
  have hMo : I b 1 = nI M := hSt.2.1
  obtain ⟨⟨x0, x1, x2⟩, -, ⟨-, -, hLk⟩, ⟨hQ, hA, hG, hW, hRd, hD, hPg⟩, ⟨p0, p3, p8, p10, p12, p13, p14, p15, p16, p17⟩, ⟨p4, p5, p6, p7⟩, -, -, -⟩ := id hX
  refine ct_of 3 (by decide +kernel) (Nat.le_of_ble_eq_true rfl) rfl ?_
  refine r_aload_n dX9_post_0 rfl ?_
  refine r_iload_n dX9_post_1 rfl ?_
  have hc2 := c_X9_mustBeHouse (n := n) (kd := kd) (I := I) (J := J) (P := P) o b (y1) x0 p4 hS.1
  rw [hH, hx] at hc2
  exact r_virtX hc2 lk_X9_142 mc_X9_mustBeHouse dX9_post_2 x0 (by decide) rfl rfl (Nat.le_of_ble_eq_true rfl) (by decide) (by decide) ⟨rfl, rfl, rfl, rfl, rfl, rfl⟩

set_option maxHeartbeats 4000000 in
set_option maxRecDepth 100000 in
theorem n9_feud (o b s f l : Nat) (y1 y2 y3 : Int32) {t : Nat} {T : Nat → Nat} {fp : Int32} {rr : Nat → Int32} {H M : Nat} {un : Bool} {cs : Nat → List Nat} {tx : Nat → List Int32} {e : Lf} {im : Option Lf} {wk : Option (List Nat)} {n : Nat} {kd : mK} {I : mI} {J : mJ} {P : mP} (hC : CR o b s f l n kd I J P t T fp rr H M un cs tx e im wk) (hz : okZ t T H M cs e) (hx : (!decide (y1 < 0) && decide (y1 < nI H)) = false) : Ct yX9_feud cX9_feud 4 (some .int) 9 1 6 [.ref o, .int y1, .int y2, .int y3] n kd I J P (fun z n' kd' I' J' P' => z = .inr "java/util/NoSuchElementException" ∧ n' = n ∧ kd' = kd ∧ I' = I ∧ J' = J ∧ P' = P) := by
  obtain ⟨hX, hsc, hT, hSt, hLf, hIm, hWk, hQc, hPc⟩ := hC
  obtain ⟨okt, oks, okl⟩ := hz
  have hS := hX.S
  have hL := hX.L
  have hat := hX.at
  have hH8 : H ≤ 8 := oks.2.1
  have hM20 : 2 ≤ M ∧ M ≤ 20 := oks.1
  have hH : I b 0 = nI H := hSt.1.1
  have hMo : I b 1 = nI M := hSt.2.1
  obtain ⟨⟨x0, x1, x2⟩, -, ⟨-, -, hLk⟩, ⟨hQ, hA, hG, hW, hRd, hD, hPg⟩, ⟨p0, p3, p8, p10, p12, p13, p14, p15, p16, p17⟩, ⟨p4, p5, p6, p7⟩, -, -, -⟩ := id hX
  refine ct_of 0 (by decide +kernel) (Nat.le_of_ble_eq_true rfl) rfl ?_
  refine r_aload_n dX9_feud_0 rfl ?_
  refine r_iload_n dX9_feud_1 rfl ?_
  have hc2 := c_X9_mustBeHouse (n := n) (kd := kd) (I := I) (J := J) (P := P) o b (y1) x0 p4 hS.1
  rw [hH, hx] at hc2
  exact r_virtX hc2 lk_X9_142 mc_X9_mustBeHouse dX9_feud_2 x0 (by decide) rfl rfl (Nat.le_of_ble_eq_true rfl) (by decide) (by decide) ⟨rfl, rfl, rfl, rfl, rfl, rfl⟩

set_option maxHeartbeats 4000000 in
set_option maxRecDepth 100000 in
theorem n9_proof (o b s f l : Nat) (y1 : Int32) {t : Nat} {T : Nat → Nat} {fp : Int32} {rr : Nat → Int32} {H M : Nat} {un : Bool} {cs : Nat → List Nat} {tx : Nat → List Int32} {e : Lf} {im : Option Lf} {wk : Option (List Nat)} {n : Nat} {kd : mK} {I : mI} {J : mJ} {P : mP} (hC : CR o b s f l n kd I J P t T fp rr H M un cs tx e im wk) (hz : okZ t T H M cs e) (hx : (!decide (y1 < 0) && decide (y1 < nI H)) = false) : Ct yX9_proof cX9_proof 2 (some .int) 9 1 6 [.ref o, .int y1] n kd I J P (fun z n' kd' I' J' P' => z = .inr "java/util/NoSuchElementException" ∧ n' = n ∧ kd' = kd ∧ I' = I ∧ J' = J ∧ P' = P) := by
  obtain ⟨hX, hsc, hT, hSt, hLf, hIm, hWk, hQc, hPc⟩ := hC
  obtain ⟨okt, oks, okl⟩ := hz
  have hS := hX.S
  have hL := hX.L
  have hat := hX.at
  have hH8 : H ≤ 8 := oks.2.1
  have hM20 : 2 ≤ M ∧ M ≤ 20 := oks.1
  have hH : I b 0 = nI H := hSt.1.1
  have hMo : I b 1 = nI M := hSt.2.1
  obtain ⟨⟨x0, x1, x2⟩, -, ⟨-, -, hLk⟩, ⟨hQ, hA, hG, hW, hRd, hD, hPg⟩, ⟨p0, p3, p8, p10, p12, p13, p14, p15, p16, p17⟩, ⟨p4, p5, p6, p7⟩, -, -, -⟩ := id hX
  refine ct_of 0 (by decide +kernel) (Nat.le_of_ble_eq_true rfl) rfl ?_
  refine r_aload_n dX9_proof_0 rfl ?_
  refine r_iload_n dX9_proof_1 rfl ?_
  have hc2 := c_X9_mustBeHouse (n := n) (kd := kd) (I := I) (J := J) (P := P) o b (y1) x0 p4 hS.1
  rw [hH, hx] at hc2
  exact r_virtX hc2 lk_X9_142 mc_X9_mustBeHouse dX9_proof_2 x0 (by decide) rfl rfl (Nat.le_of_ble_eq_true rfl) (by decide) (by decide) ⟨rfl, rfl, rfl, rfl, rfl, rfl⟩

set_option maxHeartbeats 4000000 in
set_option maxRecDepth 100000 in
theorem n9_changed (o b s f l : Nat) (y1 y2 y3 y4 : Int32) {t : Nat} {T : Nat → Nat} {fp : Int32} {rr : Nat → Int32} {H M : Nat} {un : Bool} {cs : Nat → List Nat} {tx : Nat → List Int32} {e : Lf} {im : Option Lf} {wk : Option (List Nat)} {n : Nat} {kd : mK} {I : mI} {J : mJ} {P : mP} (hC : CR o b s f l n kd I J P t T fp rr H M un cs tx e im wk) (hz : okZ t T H M cs e) (hx : (!decide (y1 < 0) && decide (y1 < nI H)) = false) : Ct yX9_changed cX9_changed 6 (some .int) 9 1 6 [.ref o, .int y1, .int y2, .int y3, .int y4] n kd I J P (fun z n' kd' I' J' P' => z = .inr "java/util/NoSuchElementException" ∧ n' = n ∧ kd' = kd ∧ I' = I ∧ J' = J ∧ P' = P) := by
  obtain ⟨hX, hsc, hT, hSt, hLf, hIm, hWk, hQc, hPc⟩ := hC
  obtain ⟨okt, oks, okl⟩ := hz
  have hS := hX.S
  have hL := hX.L
  have hat := hX.at
  have hH8 : H ≤ 8 := oks.2.1
  have hM20 : 2 ≤ M ∧ M ≤ 20 := oks.1
  have hH : I b 0 = nI H := hSt.1.1
  have hMo : I b 1 = nI M := hSt.2.1
  obtain ⟨⟨x0, x1, x2⟩, -, ⟨-, -, hLk⟩, ⟨hQ, hA, hG, hW, hRd, hD, hPg⟩, ⟨p0, p3, p8, p10, p12, p13, p14, p15, p16, p17⟩, ⟨p4, p5, p6, p7⟩, -, -, -⟩ := id hX
  refine ct_of 1 (by decide +kernel) (Nat.le_of_ble_eq_true rfl) rfl ?_
  refine r_aload_n dX9_changed_0 rfl ?_
  refine r_iload_n dX9_changed_1 rfl ?_
  have hc2 := c_X9_mustBeHouse (n := n) (kd := kd) (I := I) (J := J) (P := P) o b (y1) x0 p4 hS.1
  rw [hH, hx] at hc2
  exact r_virtX hc2 lk_X9_142 mc_X9_mustBeHouse dX9_changed_2 x0 (by decide) rfl rfl (Nat.le_of_ble_eq_true rfl) (by decide) (by decide) ⟨rfl, rfl, rfl, rfl, rfl, rfl⟩

set_option maxHeartbeats 4000000 in
set_option maxRecDepth 100000 in
theorem n9_ring (o b s f l : Nat) (y1 y2 : Int32) {t : Nat} {T : Nat → Nat} {fp : Int32} {rr : Nat → Int32} {H M : Nat} {un : Bool} {cs : Nat → List Nat} {tx : Nat → List Int32} {e : Lf} {im : Option Lf} {wk : Option (List Nat)} {n : Nat} {kd : mK} {I : mI} {J : mJ} {P : mP} (hC : CR o b s f l n kd I J P t T fp rr H M un cs tx e im wk) (hz : okZ t T H M cs e) (hx : (!decide (y1 < 0) && decide (y1 < nI H)) = false) : Ct yX9_ring cX9_ring 4 (some .int) 9 1 6 [.ref o, .int y1, .int y2] n kd I J P (fun z n' kd' I' J' P' => z = .inr "java/util/NoSuchElementException" ∧ n' = n ∧ kd' = kd ∧ I' = I ∧ J' = J ∧ P' = P) := by
  obtain ⟨hX, hsc, hT, hSt, hLf, hIm, hWk, hQc, hPc⟩ := hC
  obtain ⟨okt, oks, okl⟩ := hz
  have hS := hX.S
  have hL := hX.L
  have hat := hX.at
  have hH8 : H ≤ 8 := oks.2.1
  have hM20 : 2 ≤ M ∧ M ≤ 20 := oks.1
  have hH : I b 0 = nI H := hSt.1.1
  have hMo : I b 1 = nI M := hSt.2.1
  obtain ⟨⟨x0, x1, x2⟩, -, ⟨-, -, hLk⟩, ⟨hQ, hA, hG, hW, hRd, hD, hPg⟩, ⟨p0, p3, p8, p10, p12, p13, p14, p15, p16, p17⟩, ⟨p4, p5, p6, p7⟩, -, -, -⟩ := id hX
  refine ct_of 1 (by decide +kernel) (Nat.le_of_ble_eq_true rfl) rfl ?_
  refine r_aload_n dX9_ring_0 rfl ?_
  refine r_iload_n dX9_ring_1 rfl ?_
  have hc2 := c_X9_mustBeHouse (n := n) (kd := kd) (I := I) (J := J) (P := P) o b (y1) x0 p4 hS.1
  rw [hH, hx] at hc2
  exact r_virtX hc2 lk_X9_142 mc_X9_mustBeHouse dX9_ring_2 x0 (by decide) rfl rfl (Nat.le_of_ble_eq_true rfl) (by decide) (by decide) ⟨rfl, rfl, rfl, rfl, rfl, rfl⟩

set_option maxHeartbeats 4000000 in
set_option maxRecDepth 100000 in
theorem n9_left (o b s f l : Nat) (y1 y2 : Int32) {t : Nat} {T : Nat → Nat} {fp : Int32} {rr : Nat → Int32} {H M : Nat} {un : Bool} {cs : Nat → List Nat} {tx : Nat → List Int32} {e : Lf} {im : Option Lf} {wk : Option (List Nat)} {n : Nat} {kd : mK} {I : mI} {J : mJ} {P : mP} (hC : CR o b s f l n kd I J P t T fp rr H M un cs tx e im wk) (hz : okZ t T H M cs e) (hx : (!decide (y1 < 0) && decide (y1 < nI H)) = false) : Ct yX9_left cX9_left 3 (some .int) 9 1 6 [.ref o, .int y1, .int y2] n kd I J P (fun z n' kd' I' J' P' => z = .inr "java/util/NoSuchElementException" ∧ n' = n ∧ kd' = kd ∧ I' = I ∧ J' = J ∧ P' = P) := by
  obtain ⟨hX, hsc, hT, hSt, hLf, hIm, hWk, hQc, hPc⟩ := hC
  obtain ⟨okt, oks, okl⟩ := hz
  have hS := hX.S
  have hL := hX.L
  have hat := hX.at
  have hH8 : H ≤ 8 := oks.2.1
  have hM20 : 2 ≤ M ∧ M ≤ 20 := oks.1
  have hH : I b 0 = nI H := hSt.1.1
  have hMo : I b 1 = nI M := hSt.2.1
  obtain ⟨⟨x0, x1, x2⟩, -, ⟨-, -, hLk⟩, ⟨hQ, hA, hG, hW, hRd, hD, hPg⟩, ⟨p0, p3, p8, p10, p12, p13, p14, p15, p16, p17⟩, ⟨p4, p5, p6, p7⟩, -, -, -⟩ := id hX
  refine ct_of 0 (by decide +kernel) (Nat.le_of_ble_eq_true rfl) rfl ?_
  refine r_aload_n dX9_left_0 rfl ?_
  refine r_iload_n dX9_left_1 rfl ?_
  have hc2 := c_X9_mustBeHouse (n := n) (kd := kd) (I := I) (J := J) (P := P) o b (y1) x0 p4 hS.1
  rw [hH, hx] at hc2
  exact r_virtX hc2 lk_X9_142 mc_X9_mustBeHouse dX9_left_2 x0 (by decide) rfl rfl (Nat.le_of_ble_eq_true rfl) (by decide) (by decide) ⟨rfl, rfl, rfl, rfl, rfl, rfl⟩

set_option maxHeartbeats 4000000 in
set_option maxRecDepth 100000 in
theorem n9_look (o b s f l : Nat) (y1 y2 : Int32) {t : Nat} {T : Nat → Nat} {fp : Int32} {rr : Nat → Int32} {H M : Nat} {un : Bool} {cs : Nat → List Nat} {tx : Nat → List Int32} {e : Lf} {im : Option Lf} {wk : Option (List Nat)} {n : Nat} {kd : mK} {I : mI} {J : mJ} {P : mP} (hC : CR o b s f l n kd I J P t T fp rr H M un cs tx e im wk) (hz : okZ t T H M cs e) (hx : (!decide (y1 < 0) && decide (y1 < nI H)) = false) : Ct yX9_look cX9_look 7 (some .int) 9 1 6 [.ref o, .int y1, .int y2] n kd I J P (fun z n' kd' I' J' P' => z = .inr "java/util/NoSuchElementException" ∧ n' = n ∧ kd' = kd ∧ I' = I ∧ J' = J ∧ P' = P) := by
  obtain ⟨hX, hsc, hT, hSt, hLf, hIm, hWk, hQc, hPc⟩ := hC
  obtain ⟨okt, oks, okl⟩ := hz
  have hS := hX.S
  have hL := hX.L
  have hat := hX.at
  have hH8 : H ≤ 8 := oks.2.1
  have hM20 : 2 ≤ M ∧ M ≤ 20 := oks.1
  have hH : I b 0 = nI H := hSt.1.1
  have hMo : I b 1 = nI M := hSt.2.1
  obtain ⟨⟨x0, x1, x2⟩, -, ⟨-, -, hLk⟩, ⟨hQ, hA, hG, hW, hRd, hD, hPg⟩, ⟨p0, p3, p8, p10, p12, p13, p14, p15, p16, p17⟩, ⟨p4, p5, p6, p7⟩, -, -, -⟩ := id hX
  refine ct_of 4 (by decide +kernel) (Nat.le_of_ble_eq_true rfl) rfl ?_
  refine r_aload_n dX9_look_0 rfl ?_
  refine r_iload_n dX9_look_1 rfl ?_
  have hc2 := c_X9_mustBeHouse (n := n) (kd := kd) (I := I) (J := J) (P := P) o b (y1) x0 p4 hS.1
  rw [hH, hx] at hc2
  exact r_virtX hc2 lk_X9_142 mc_X9_mustBeHouse dX9_look_2 x0 (by decide) rfl rfl (Nat.le_of_ble_eq_true rfl) (by decide) (by decide) ⟨rfl, rfl, rfl, rfl, rfl, rfl⟩

set_option maxHeartbeats 4000000 in
set_option maxRecDepth 100000 in
theorem k_become_no (o b s f l : Nat) (h : Nat) (y z : Int32) {t : Nat} {T : Nat → Nat} {fp : Int32} {rr : Nat → Int32} {H M : Nat} {un : Bool} {cs : Nat → List Nat} {tx : Nat → List Int32} {e : Lf} {im : Option Lf} {wk : Option (List Nat)} {n : Nat} {kd : mK} {I : mI} {J : mJ} {P : mP} (hC : CR o b s f l n kd I J P t T fp rr H M un cs tx e im wk) (hz : okZ t T H M cs e) (hh : h < H) (hy : (!decide (y < 0) && decide (y < nI 2)) = false) : Ct yX9_become cX9_become 5 (some .int) 9 1 6 [.ref o, .int (nI h), .int y, .int z] n kd I J P (fun z n' kd' I' J' P' => z = .inr "java/util/NoSuchElementException" ∧ n' = n ∧ kd' = kd ∧ I' = I ∧ J' = J ∧ P' = P) := by
  obtain ⟨hX, hsc, hT, hSt, hLf, hIm, hWk, hQc, hPc⟩ := hC
  obtain ⟨okt, oks, okl⟩ := hz
  have hS := hX.S
  have hL := hX.L
  have hat := hX.at
  have hH8 : H ≤ 8 := oks.2.1
  have hM20 : 2 ≤ M ∧ M ≤ 20 := oks.1
  have hH : I b 0 = nI H := hSt.1.1
  have hMo : I b 1 = nI M := hSt.2.1
  obtain ⟨⟨x0, x1, x2⟩, -, ⟨-, -, hLk⟩, ⟨hQ, hA, hG, hW, hRd, hD, hPg⟩, ⟨p0, p3, p8, p10, p12, p13, p14, p15, p16, p17⟩, ⟨p4, p5, p6, p7⟩, -, -, -⟩ := id hX
  refine ct_of 1 (by decide +kernel) (Nat.le_of_ble_eq_true rfl) rfl ?_
  refine r_aload_n dX9_become_0 rfl ?_
  refine r_iload_n dX9_become_1 rfl ?_
  refine r_virtV (m0_House o b (nI h) x0 p4 hS.1 (by rw [hH]; exact (isH_of hh (by omega)))) lk_X9_142 mc_X9_mustBeHouse dX9_become_2 x0 (by decide) rfl rfl (Nat.le_of_ble_eq_true rfl) ?_
  refine r_aload_n dX9_become_5 rfl ?_
  refine r_iload_n dX9_become_6 rfl ?_
  refine r_iconst (v := nI 2) dX9_become_7 (by decide) ?_
  have hc8 := c_X9_mustBeWhat (n := n) (kd := kd) (I := I) (J := J) (P := P) o (y) (nI 2)
  rw [hy] at hc8
  exact r_virtX hc8 lk_X9_162 mc_X9_mustBeWhat dX9_become_8 x0 (by decide) rfl rfl (Nat.le_of_ble_eq_true rfl) (by decide) (by decide) ⟨rfl, rfl, rfl, rfl, rfl, rfl⟩

set_option maxHeartbeats 4000000 in
set_option maxRecDepth 100000 in
theorem k_become_ref (o b s f l : Nat) (h k : Nat) (y : Int32) {t : Nat} {T : Nat → Nat} {fp : Int32} {rr : Nat → Int32} {H M : Nat} {un : Bool} {cs : Nat → List Nat} {tx : Nat → List Int32} {e : Lf} {im : Option Lf} {wk : Option (List Nat)} {n : Nat} {kd : mK} {I : mI} {J : mJ} {P : mP} (hC : CR o b s f l n kd I J P t T fp rr H M un cs tx e im wk) (hz : okZ t T H M cs e) (hh : h < H) (hk2 : k < 2) (hy : y < 0 ∨ nI 99 < y) : Ct yX9_become cX9_become 5 (some .int) 9 1 6 [.ref o, .int (nI h), .int (nI k), .int y] n kd I J P (pK o n kd I J P (.inl (some (.int (-1)))) (CX o t T fp (va_up rr 1 (rr 1 + nI 1)) H M un cs tx e im wk)) := by
  have hC0 := hC
  obtain ⟨hX, hsc, hT, hSt, hLf, hIm, hWk, hQc, hPc⟩ := hC
  obtain ⟨okt, oks, okl⟩ := hz
  have hS := hX.S
  have hL := hX.L
  have hat := hX.at
  have hH8 : H ≤ 8 := oks.2.1
  have hM20 : 2 ≤ M ∧ M ≤ 20 := oks.1
  have hH : I b 0 = nI H := hSt.1.1
  have hMo : I b 1 = nI M := hSt.2.1
  obtain ⟨⟨x0, x1, x2⟩, -, ⟨-, -, hLk⟩, ⟨hQ, hA, hG, hW, hRd, hD, hPg⟩, ⟨p0, p3, p8, p10, p12, p13, p14, p15, p16, p17⟩, ⟨p4, p5, p6, p7⟩, -, -, -⟩ := id hX
  refine ct_of 1 (by decide +kernel) (Nat.le_of_ble_eq_true rfl) rfl ?_
  by_cases c : y < 0
  · skip
    refine r_aload_n dX9_become_0 rfl ?_
    refine r_iload_n dX9_become_1 rfl ?_
    refine r_virtV (m0_House o b (nI h) x0 p4 hS.1 (by rw [hH]; exact (isH_of hh (by omega)))) lk_X9_142 mc_X9_mustBeHouse dX9_become_2 x0 (by decide) rfl rfl (Nat.le_of_ble_eq_true rfl) ?_
    refine r_aload_n dX9_become_5 rfl ?_
    refine r_iload_n dX9_become_6 rfl ?_
    refine r_iconst (v := nI 2) dX9_become_7 (by decide) ?_
    refine r_virtV (m0_What o (nI k) (nI 2) (isH_of hk2 (by omega))) lk_X9_162 mc_X9_mustBeWhat dX9_become_8 x0 (by decide) rfl rfl (Nat.le_of_ble_eq_true rfl) ?_
    refine r_iload_n dX9_become_11 rfl ?_
    refine r_if_lt (tgt := 21) dX9_become_12 (by decide) (fun _ => ?_) (fun hz => absurd (show _ from c) hz)
    refine r_aload_n dX9_become_21 rfl ?_
    refine r_getR dX9_become_22 fl_X9_20 rfl (by assumption) (by assumption) ?_
    refine r_iconst (v := nI 1) dX9_become_25 (by decide) ?_
    refine r_dup2 dX9_become_26 rfl rfl ?_
    refine r_iald dX9_become_27 x2 (nI_in8 3 (by decide) (by decide)) (show _ = 1 from nI_clamp (by decide)) ?_
    refine r_iconst (v := nI 1) dX9_become_28 (by decide) ?_
    refine r_iadd dX9_become_29 ?_
    refine r_iast dX9_become_30 x2 (nI_in8 3 (by decide) (by decide)) (show _ = 1 from nI_clamp (by decide)) ?_
    refine r_iconst (v := (-1)) dX9_become_31 (by decide) ?_
    refine r_iret rfl dX9_become_32 ?_
    exact ⟨rfl, ⟨Nat.le_refl _, Nat.le_succ _⟩, fun q => q, fun a a1 a2 => ⟨rfl, am_up_n _ _ (by omega), rfl, rfl⟩, b, s, f, l, CR.ref (k := 1) (by decide) hC0⟩
  · skip
    refine r_aload_n dX9_become_0 rfl ?_
    refine r_iload_n dX9_become_1 rfl ?_
    refine r_virtV (m0_House o b (nI h) x0 p4 hS.1 (by rw [hH]; exact (isH_of hh (by omega)))) lk_X9_142 mc_X9_mustBeHouse dX9_become_2 x0 (by decide) rfl rfl (Nat.le_of_ble_eq_true rfl) ?_
    refine r_aload_n dX9_become_5 rfl ?_
    refine r_iload_n dX9_become_6 rfl ?_
    refine r_iconst (v := nI 2) dX9_become_7 (by decide) ?_
    refine r_virtV (m0_What o (nI k) (nI 2) (isH_of hk2 (by omega))) lk_X9_162 mc_X9_mustBeWhat dX9_become_8 x0 (by decide) rfl rfl (Nat.le_of_ble_eq_true rfl) ?_
    refine r_iload_n dX9_become_11 rfl ?_
    refine r_if_lt (tgt := 21) dX9_become_12 (by decide) (fun hz => absurd hz (show ¬ _ from c)) (fun _ => ?_)
    refine r_iload_n dX9_become_15 rfl ?_
    refine r_bipush (v := nI 99) dX9_become_16 (by decide) ?_
    refine r_icmp_le (tgt := 33) dX9_become_18 (by decide) (fun hz => absurd hz (show ¬ _ from Int32.not_le.mpr (hy.resolve_left c))) (fun _ => ?_)
    refine r_aload_n dX9_become_21 rfl ?_
    refine r_getR dX9_become_22 fl_X9_20 rfl (by assumption) (by assumption) ?_
    refine r_iconst (v := nI 1) dX9_become_25 (by decide) ?_
    refine r_dup2 dX9_become_26 rfl rfl ?_
    refine r_iald dX9_become_27 x2 (nI_in8 3 (by decide) (by decide)) (show _ = 1 from nI_clamp (by decide)) ?_
    refine r_iconst (v := nI 1) dX9_become_28 (by decide) ?_
    refine r_iadd dX9_become_29 ?_
    refine r_iast dX9_become_30 x2 (nI_in8 3 (by decide) (by decide)) (show _ = 1 from nI_clamp (by decide)) ?_
    refine r_iconst (v := (-1)) dX9_become_31 (by decide) ?_
    refine r_iret rfl dX9_become_32 ?_
    exact ⟨rfl, ⟨Nat.le_refl _, Nat.le_succ _⟩, fun q => q, fun a a1 a2 => ⟨rfl, am_up_n _ _ (by omega), rfl, rfl⟩, b, s, f, l, CR.ref (k := 1) (by decide) hC0⟩

set_option maxHeartbeats 4000000 in
set_option maxRecDepth 100000 in
theorem k_become (o b s f l : Nat) (h k v : Nat) {t : Nat} {T : Nat → Nat} {fp : Int32} {rr : Nat → Int32} {H M : Nat} {un : Bool} {cs : Nat → List Nat} {tx : Nat → List Int32} {e : Lf} {im : Option Lf} {wk : Option (List Nat)} {n : Nat} {kd : mK} {I : mI} {J : mJ} {P : mP} (hC : CR o b s f l n kd I J P t T fp rr H M un cs tx e im wk) (hz : okZ t T H M cs e) (hh : h < H) (hk2 : k < 2) (hv : v ≤ 99) : Ct yX9_become cX9_become 5 (some .int) 9 1 6 [.ref o, .int (nI h), .int (nI k), .int (nI v)] n kd I J P (pK o n kd I J P (.inl (some (.int (nI (hadE e k h))))) (CX o t T fp rr H M un cs tx (actE e k h v) im wk)) := by
  have hC0 := hC
  obtain ⟨hX, hsc, hT, hSt, hLf, hIm, hWk, hQc, hPc⟩ := hC
  obtain ⟨okt, oks, okl⟩ := hz
  have hS := hX.S
  have hL := hX.L
  have hat := hX.at
  have hH8 : H ≤ 8 := oks.2.1
  have hM20 : 2 ≤ M ∧ M ≤ 20 := oks.1
  have hH : I b 0 = nI H := hSt.1.1
  have hMo : I b 1 = nI M := hSt.2.1
  obtain ⟨⟨x0, x1, x2⟩, -, ⟨-, -, hLk⟩, ⟨hQ, hA, hG, hW, hRd, hD, hPg⟩, ⟨p0, p3, p8, p10, p12, p13, p14, p15, p16, p17⟩, ⟨p4, p5, p6, p7⟩, -, -, -⟩ := id hX
  refine ct_of 1 (by decide +kernel) (Nat.le_of_ble_eq_true rfl) rfl ?_
  refine r_aload_n dX9_become_0 rfl ?_
  refine r_iload_n dX9_become_1 rfl ?_
  refine r_virtV (m0_House o b (nI h) x0 p4 hS.1 (by rw [hH]; exact (isH_of hh (by omega)))) lk_X9_142 mc_X9_mustBeHouse dX9_become_2 x0 (by decide) rfl rfl (Nat.le_of_ble_eq_true rfl) ?_
  refine r_aload_n dX9_become_5 rfl ?_
  refine r_iload_n dX9_become_6 rfl ?_
  refine r_iconst (v := nI 2) dX9_become_7 (by decide) ?_
  refine r_virtV (m0_What o (nI k) (nI 2) (isH_of hk2 (by omega))) lk_X9_162 mc_X9_mustBeWhat dX9_become_8 x0 (by decide) rfl rfl (Nat.le_of_ble_eq_true rfl) ?_
  refine r_iload_n dX9_become_11 rfl ?_
  refine r_if_lt (tgt := 21) dX9_become_12 (by decide) (fun hz => absurd hz (show ¬ _ from (z_nlt (by omega)))) (fun _ => ?_)
  refine r_iload_n dX9_become_15 rfl ?_
  refine r_bipush (v := nI 99) dX9_become_16 (by decide) ?_
  refine r_icmp_le (tgt := 33) dX9_become_18 (by decide) (fun _ => ?_) (fun hz => absurd (show _ from ((nI_leI (by omega) (by decide)).mpr hv)) hz)
  refine r_aload_n dX9_become_33 rfl ?_
  refine r_getR dX9_become_34 fl_X9_37 rfl (by assumption) (by assumption) ?_
  refine r_iload_n dX9_become_37 rfl ?_
  refine r_iload_n dX9_become_38 rfl ?_
  refine r_virtE (c_X2_had f h (nI k) hL (by omega)) lk_X9_166 mc_X2_had dX9_become_39 hL.1 (by decide) rfl rfl (Nat.le_of_ble_eq_true rfl) ?_
  rw [had_c (show k < 3 by omega) hh hH8 hLf]
  refine r_istore dX9_become_42 (by decide) ?_
  refine r_aload_n dX9_become_44 rfl ?_
  refine r_getR dX9_become_45 fl_X9_37 rfl (by assumption) (by assumption) ?_
  refine r_iload_n dX9_become_48 rfl ?_
  refine r_iload_n dX9_become_49 rfl ?_
  refine r_iload_n dX9_become_50 rfl ?_
  refine r_virt (kc2 := 0) (ks2 := 0) (c_X2_act f H M k h v e hL (by omega) hh hH8 (fun q => absurd q (by omega)) hLf okl) lk_X9_170 mc_X2_act dX9_become_51 hL.1 (by decide) rfl rfl (Nat.le_of_ble_eq_true rfl) (by omega) (by omega) (fun _ _ _ _ _ _ h => nomatch h.1) (fun v1 n1 kd1 I1 J1 P1 h1 => ?_)
  obtain ⟨h0, rfl, rfl, rfl, rfl, hfr, hcl⟩ := h1
  cases h0
  simp only [Option.toList, List.nil_append]
  refine r_aload_n dX9_become_54 rfl ?_
  refine r_virtV (c_X9_forget o x0) lk_X9_174 mc_X9_forget dX9_become_55 x0 (by decide) rfl rfl (Nat.le_of_ble_eq_true rfl) ?_
  refine r_iload dX9_become_58 rfl ?_
  refine r_iret rfl dX9_become_60 ?_
  exact ⟨rfl, ⟨Nat.le_refl _, Nat.le_succ _⟩, fun q => q, fun a a1 a2 => ⟨rfl, by rw [am_up_n _ _ (by omega)]; exact hfr a (by omega), rfl, rfl⟩, b, s, f, l, CR.life (fun a a1 a2 => by rw [am_up_n _ _ a1]; exact hfr a a2) (fun j j1 j2 => by rw [am_up_s, am_up_n _ _ j2, am_up_n _ _ j1, hfr o (by omega)]) (by rw [am_up_s, am_up_n _ _ (by decide), am_up_s]) (by rw [am_up_s, am_up_s]) (hcl.cg (fun a a1 a2 => am_up_n _ _ (by omega))) hC0⟩

