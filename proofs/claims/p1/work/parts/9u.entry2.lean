/-! THE LAW FROM ITS ENTRY TO ITS LOOP -/
theorem fr.eq {b cnt : Nat} {row : Nat → Int32} {I I' : mI} {J J' : mJ} (h : fr b cnt row I J) (hf : ∀ a, b ≤ a → a ≤ b + cnt → I' a = I a ∧ J' a = J a) : fr b cnt row I' J' := ⟨by rw [(hf b (by omega) (by omega)).1]; exact h.1, fun i a c => by rw [(hf (b + i) (by omega) (by omega)).1, (hf (b + i) (by omega) (by omega)).2]; exact h.2 i a c⟩
theorem fsC_fr {o n : Nat} {kd kd' : mK} {I I' : mI} {J J' : mJ} {P P' : mP} (h : fsC o n kd I J P) (hf : ∀ a, a < o + 69 → kd' a = kd a ∧ I' a = I a ∧ J' a = J a ∧ P' a = P a) : fsC o n kd' I' J' P' := by
  obtain ⟨hX, hO, h12, hz, hn, f3, f13, f23, f29, f35, f41, f47, f56, f58, f61, f66, f67, f48⟩ := h
  have g : ∀ a, a < o + 69 → I' a = I a ∧ J' a = J a := fun a ha => ⟨(hf a ha).2.1, (hf a ha).2.2.1⟩
  refine ⟨kX.bk (n := o + 69) (Nat.le_refl _) (fun a ha => (hf a ha).1) (fun a ha _ _ => (hf a ha).2.2.2) (fun k _ _ => by rw [(hf (o + 48) (by omega)).2.2.2]) (fun k _ => by rw [(hf (o + 56) (by omega)).2.2.2]) hX, by rw [(g o (by omega)).1]; exact hO, ⟨by rw [(g (o + 1) (by omega)).1]; exact h12.1, by rw [(g (o + 2) (by omega)).1]; exact h12.2⟩, by rw [(hf (o + 56) (by omega)).2.2.2]; exact hz, hn, f3.eq (fun a _ h2 => g a (by omega)), f13.eq (fun a _ h2 => g a (by omega)), f23.eq (fun a _ h2 => g a (by omega)), f29.eq (fun a _ h2 => g a (by omega)), f35.eq (fun a _ h2 => g a (by omega)), f41.eq (fun a _ h2 => g a (by omega)), f47.eq (fun a _ h2 => g a (by omega)), f56.eq (fun a _ h2 => g a (by omega)), f58.eq (fun a _ h2 => g a (by omega)), f61.eq (fun a _ h2 => g a (by omega)), f66.eq (fun a _ h2 => g a (by omega)), f67.eq (fun a _ h2 => g a (by omega)), f48.eq (fun a _ h2 => g a (by omega))⟩
theorem fsC_new {o : Nat} {kd : mK} {I : mI} {J : mJ} {P : mP} (ho : o < 99000) (hC : kC kd P o) (h4 : P o 4 = some (o + 3) ∧ P o 5 = some (o + 13) ∧ P o 6 = some (o + 23) ∧ P o 7 = some (o + 29)) (hO : I o = (fun j : Nat => (if j = 2 then (-1) else 0 : Int32))) (h12 : I (o + 1) = (fun _ => 0) ∧ I (o + 2) = (fun _ => 0)) (hz : P (o + 56) 3 = none) (f3 : fr (o + 3) 9 (fun j : Nat => (if j = 1 then nI 9 else 0 : Int32)) I J) (f13 : fr (o + 13) 9 (fun j : Nat => (if j = 1 then nI 9 else 0 : Int32)) I J) (f23 : fr (o + 23) 5 (fun _ : Nat => (0 : Int32)) I J) (f29 : fr (o + 29) 5 (fun _ : Nat => (0 : Int32)) I J) (f35 : fr (o + 35) 5 (fun _ : Nat => (0 : Int32)) I J) (f41 : fr (o + 41) 5 (fun j : Nat => (if j = 4 then (-1) else 0 : Int32)) I J) (f47 : fr (o + 47) 0 (fun j : Nat => (if j = 4 then (-1) else 0 : Int32)) I J) (f56 : fr (o + 56) 1 (fun _ : Nat => (0 : Int32)) I J) (f58 : fr (o + 58) 2 (fun _ : Nat => (0 : Int32)) I J) (f61 : fr (o + 61) 4 (fun j : Nat => (if j = 12 then (-1) else 0 : Int32)) I J) (f66 : fr (o + 66) 0 (fun _ : Nat => (0 : Int32)) I J) (f67 : fr (o + 67) 1 (fun _ : Nat => (0 : Int32)) I J) (f48 : fr (o + 48) 7 (fun j : Nat => (if j = 4 then (-1) else 0 : Int32)) I J) : fsC o (o + 126) kd I J P := by
  obtain ⟨k0, k1, k2, s3, s13, l23, l29, l35, q41, a47, g56, w58, r61, d66, p67, e0, e3, e8, e10, e12, e13, e14, e15, e16, e17⟩ := hC
  exact ⟨⟨⟨k0, k1, k2⟩, ⟨s3, s13⟩, ⟨l23, l29, l35⟩, ⟨q41, a47, g56, w58, ⟨r61.1, r61.2.2.1, r61.2.2.2.1, r61.2.2.2.2.1, r61.2.2.2.2.2.2.1, r61.2.2.2.2.2.2.2.1, r61.2.2.2.2.2.2.2.2⟩, d66, p67⟩, ⟨e0, e3, e8, e10, e12, e13, e14, e15, e16, e17⟩, h4, Or.inl ⟨rfl, rfl⟩, Or.inl ⟨rfl, rfl⟩, by omega⟩, hO, h12, hz, rfl, f3, f13, f23, f29, f35, f41, f47, f56, f58, f61, f66, f67, f48⟩
theorem lt6 : ∀ L, L < 6 → nI L - nI 6 < nI 0 := by decide +kernel
set_option maxHeartbeats 4000000 in
set_option maxRecDepth 100000 in
theorem law_all (L : Nat) (hL : L ≤ 6) {K : (Nat → ClassId) → Prop} {xs : Nat → Int32} (hZ : ∀ cA : Nat → ClassId, K cA → cA 301 = L ∧ ∀ j, nI (cA (310 + j)) = xs j) (kd : mK) (I : mI) (J : mJ) (P : mP) : RuL K 226 536001 0 [some (.ref 1000200), none, none, none, none, none, none] [] 0 kd I J P := by
  refine r_new (ci := 9) (kc2 := 225) (ks2 := 535982) dL_law_0 (by decide) cl_L_8 in_X9 (by decide) (by decide) (by show 535982 + 19 ≤ 536001; decide) ?_
  refine r_dup dL_law_3 rfl ?_
  refine r_init (kc2 := 157) (ks2 := 526842) (c_X9_init 0 ⟨rfl, by rw [am_up_s], by rw [am_up_s], by rw [am_up_s], by rw [am_up_s]⟩ (by decide)) li_L_94 mc_X9_init dL_law_4 (by decide) rfl rfl (Nat.le_of_ble_eq_true rfl) (by decide) (by decide) (fun _ _ _ _ _ _ q => nomatch q.1) ?_
  rintro v n1 kd1 I1 J1 P1 ⟨q0, hn1, hC, h4, hlow, hO, h12, hz, f3, f13, f23, f29, f35, f41, f47, f56, f58, f61, f66, f67, f48⟩
  cases q0
  simp only [Option.toList, List.nil_append]
  subst hn1
  refine r_astore_n dL_law_7 (by decide) ?_
  refine r_new (ci := 10) (kc2 := 156) (ks2 := 526744) dL_law_8 (by decide) cl_L_95 in_X10 (by decide) (by decide) (by show 526744 + 98 ≤ 526842; decide) ?_
  refine r_dup dL_law_11 rfl ?_
  refine r_init (kc2 := 101) (ks2 := 500001) (c_X10_init 69 ⟨rfl, by rw [am_up_s], by rw [am_up_s], by rw [am_up_s], by rw [am_up_s]⟩ (by decide)) li_L_97 mc_X10_init dL_law_12 (by decide) rfl rfl (Nat.le_of_ble_eq_true rfl) (by decide) (by decide) (fun _ _ _ _ _ _ q => nomatch q.1) ?_
  rintro v n3 kd3 I3 J3 P3 ⟨q0, hn3, hM3, hlow2, hI3, hA3⟩
  cases q0
  simp only [Option.toList, List.nil_append]
  subst hn3
  refine r_astore_n dL_law_15 (by decide) ?_
  refine r_iconst (v := nI 1) dL_law_16 (by decide) ?_
  refine r_newLong (N := 1) (kc2 := 100) (ks2 := 500000) dL_law_17 (by decide) (nI_clamp (by decide)) (by decide) (by decide) (by decide) (by decide) ?_
  refine r_astore_n dL_law_19 (by decide) ?_
  refine r_iconst (v := nI 0) dL_law_20 (by decide) ?_
  refine r_istore dL_law_21 (by decide) ?_
  have hS : st0 0 126 (va_up kd3 125 (some (4, 1))) (va_up I3 125 (fun _ => 0)) (va_up J3 125 (fun _ => 0)) P3 := by
    have hF1 : fsC 0 (0 + 126) kd1 I1 J1 P1 := fsC_new (by decide) hC h4 hO h12 hz.2.2.2.2.1 f3 f13 f23 f29 f35 f41 f47 f56 f58 f61 f66 f67 f48
    refine ⟨fsC_fr hF1 (fun a ha => ?_), ?_, by rw [am_up_s], by decide⟩
    · have hl := hlow2 a (by omega)
      rw [am_up_n _ _ (by omega), am_up_n _ _ (by omega), am_up_n _ _ (by omega)] at hl
      rw [am_up_n _ _ (by omega), am_up_n _ _ (by omega), am_up_n _ _ (by omega)]
      rw [am_up_n P1 _ (by omega)] at hl
      exact hl
    · have hM : fsM 69 kd3 I3 J3 P3 := ⟨hM3, hI3, hA3⟩
      exact hM.fr (fun a a1 a2 => ⟨am_up_n _ _ (by omega), am_up_n _ _ (by omega), am_up_n _ _ (by omega), rfl⟩)
  by_cases hq : L = 6
  · subst hq
    exact law_one 0 hZ hS
  · have hL6 : L < 6 := by omega
    refine r_iload dL_law_23 rfl ?_
    refine r_aload_n dL_law_25 rfl ?_
    refine r_slen hZ dL_law_26 ?_
    refine r_bipush (v := nI 6) dL_law_27 (by decide) ?_
    refine r_isub dL_law_29 ?_
    refine r_icmp_gt (tgt := 2138) dL_law_30 (by decide) (fun _ => ?_) (fun hz => absurd (show _ from (lt6 L hL6)) hz)
    refine r_iconst (v := nI 1) dL_law_2138 (by decide) ?_
    refine r_zret rfl dL_law_2139 (by first | exact Or.inl rfl | exact Or.inr rfl | assumption) ?_
    exact rfl

