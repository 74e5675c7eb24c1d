/-! THE LAW FROM ITS ENTRY TO ITS LOOP -/
theorem CR_new {o n : Nat} {kd : mK} {I : mI} {J : mJ} {P : mP} (ho : o < 99000) (hC : kC kd P o) (h4 : P o 4 = some (o + 3) ∧ P o 5 = some (o + 13) ∧ P o 6 = some (o + 23) ∧ P o 7 = some (o + 29)) (hO : I o = (fun j : Nat => (if j = 2 then (-1) else 0 : Int32))) (h12 : I (o + 1) = (fun _ => 0) ∧ I (o + 2) = (fun _ => 0)) (hz : P (o + 56) 3 = none) (f3 : fr (o + 3) 9 (fun j : Nat => (if j = 1 then nI 9 else 0 : Int32)) I J) (f23 : fr (o + 23) 5 (fun _ : Nat => (0 : Int32)) I J) (f58 : fr (o + 58) 2 (fun _ : Nat => (0 : Int32)) I J) : CR o (o + 3) (o + 13) (o + 23) (o + 29) n kd I J P 0 (fun _ => 0) (-1) (fun _ => 0) 0 9 false (fun _ => []) (fun _ => []) eZ none none := by
  obtain ⟨k0, k1, k2, s3, s13, l23, l29, l35, q41, a47, g56, w58, r61, d66, p67, e0, e3, e8, e10, e12, e13, e14, e15, e16, e17⟩ := hC
  refine ⟨⟨⟨k0, k1, k2⟩, ⟨s3, s13⟩, ⟨l23, l29, l35⟩, ⟨q41, a47, g56, w58, ⟨r61.1, r61.2.2.1, r61.2.2.2.1, r61.2.2.2.2.1, r61.2.2.2.2.2.2.1, r61.2.2.2.2.2.2.2.1, r61.2.2.2.2.2.2.2.2⟩, d66, p67⟩, ⟨e0, e3, e8, e10, e12, e13, e14, e15, e16, e17⟩, h4, Or.inl ⟨rfl, rfl⟩, Or.inl ⟨rfl, rfl⟩, by omega⟩, Or.inl hz, ⟨by rw [hO]; rfl, fun j hj => absurd hj (Nat.not_lt_zero j), by rw [hO]; rfl, fun j _ => by rw [h12.2]⟩, ⟨⟨by rw [f3.1]; rfl, fun i hi => ?_, fun h hh => absurd hh (Nat.not_lt_zero h)⟩, by rw [f3.1]; rfl, by rw [f3.1]; rfl, by rw [f3.1]; rfl, fun h hh => absurd hh (Nat.not_lt_zero h)⟩, ⟨fun h hh => absurd hh (Nat.not_lt_zero h), fun i hi => ?_, ⟨by rw [f23.1]; rfl, fun j hj => absurd hj (Nat.not_lt_zero j)⟩, by rw [f23.1]; rfl, fun j hj => absurd hj (Nat.not_lt_zero j)⟩, ?_, ?_, Or.inl (by rw [hO]; rfl), Or.inl (by rw [hO]; rfl)⟩
  · rw [show I (o + 3) 3 = nI 0 from by rw [f3.1]; rfl]
    simp [show bt (nI 0) i = false from b_0 i]
  · rw [show I (o + 23) 2 = nI 0 from by rw [f23.1]; rfl]
    simp [show bt (nI 0) i = false from b_0 i]
  · show I o 9 = nI 0
    rw [hO]; rfl
  · show I (o + 58) 6 = nI 0
    rw [f58.1]; rfl
theorem RR_new {m : Nat} {kd : mK} {I : mI} {J : mJ} {P : mP} (hM : kM kd P m) (hI : I m = (fun j : Nat => (if j = 74 then (-1) else if j = 58 then (-1) else if j = 54 then (-1) else if j = 17 then (-1) else if j = 2 then nI 9 else 0 : Int32))) (hA : ∀ i, 1 ≤ i → i ≤ 55 → I (m + i) = (fun _ => 0) ∧ J (m + i) = (fun _ => 0)) : RR m kd I P 0 (fun _ => 0) (-1) (fun _ => 0) 0 9 false (fun _ => []) (fun _ => []) eZ none none := by
  refine ⟨hM, ⟨by rw [hI]; rfl, fun j hj => absurd hj (Nat.not_lt_zero j), by rw [hI]; rfl, fun j _ => by rw [(hA 12 (by decide) (by decide)).1]⟩, ⟨⟨by rw [hI]; rfl, by rw [hI]; rfl, by rw [hI]; rfl⟩, ⟨by rw [hI]; rfl, by rw [hI]; rfl⟩, fun h hh => absurd hh (Nat.not_lt_zero h)⟩, ⟨fun h hh => absurd hh (Nat.not_lt_zero h), ⟨by rw [hI]; rfl, fun j hj => absurd hj (Nat.not_lt_zero j)⟩, by rw [hI]; rfl, fun j hj => absurd hj (Nat.not_lt_zero j)⟩, ?_, ?_⟩
  · show I m 90 = nI 0
    rw [hI]; rfl
  · show I m 74 = -1
    rw [hI]; rfl
set_option maxHeartbeats 4000000 in
set_option maxRecDepth 100000 in
theorem law_all (L : Nat) (hL : L ≤ 3072) {K : (Nat → ClassId) → Prop} {xs : Nat → Int32} (hZ : ∀ cA : Nat → ClassId, K cA → cA 301 = L ∧ ∀ j, nI (cA (310 + j)) = xs j) (kd : mK) (I : mI) (J : mJ) (P : mP) : RuL K 638 5278881 0 [some (.ref 1000200), none, none, none, none, none, none] [] 0 kd I J P := by
  refine r_new (ci := 9) (kc2 := 637) (ks2 := 5278862) dL_law_0 (by decide) cl_L_8 in_X9 (by decide) (by decide) (by show 5278862 + 19 ≤ 5278881; decide) ?_
  refine r_dup dL_law_3 rfl ?_
  refine r_init (kc2 := 569) (ks2 := 5269722) (c_X9_init 0 ⟨rfl, by rw [am_up_s], by rw [am_up_s], by rw [am_up_s], by rw [am_up_s]⟩ (by decide)) li_L_94 mc_X9_init dL_law_4 (by decide) rfl rfl (Nat.le_of_ble_eq_true rfl) (by decide) (by decide) (fun _ _ _ _ _ _ q => nomatch q.1) ?_
  rintro v n1 kd1 I1 J1 P1 ⟨q0, hn1, hC, h4, hlow, hO, h12, hz, f3, f13, f23, f29, f35, f41, f47, f56, f58, f61, f66, f67, f48⟩
  cases q0
  simp only [Option.toList, List.nil_append]
  subst hn1
  refine r_astore_n dL_law_7 (by decide) ?_
  refine r_new (ci := 10) (kc2 := 568) (ks2 := 5269624) dL_law_8 (by decide) cl_L_95 in_X10 (by decide) (by decide) (by show 5269624 + 98 ≤ 5269722; decide) ?_
  refine r_dup dL_law_11 rfl ?_
  refine r_init (kc2 := 513) (ks2 := 5242881) (c_X10_init 69 ⟨rfl, by rw [am_up_s], by rw [am_up_s], by rw [am_up_s], by rw [am_up_s]⟩ (by decide)) li_L_97 mc_X10_init dL_law_12 (by decide) rfl rfl (Nat.le_of_ble_eq_true rfl) (by decide) (by decide) (fun _ _ _ _ _ _ q => nomatch q.1) ?_
  rintro v n3 kd3 I3 J3 P3 ⟨q0, hn3, hM3, hlow2, hI3, hA3⟩
  cases q0
  simp only [Option.toList, List.nil_append]
  subst hn3
  refine r_astore_n dL_law_15 (by decide) ?_
  refine r_iconst (v := nI 1) dL_law_16 (by decide) ?_
  refine r_newLong (N := 1) (kc2 := 512) (ks2 := 5242880) dL_law_17 (by decide) (nI_clamp (by decide)) (by decide) (by decide) (by decide) (by decide) ?_
  refine r_astore_n dL_law_19 (by decide) ?_
  refine r_iconst (v := nI 0) dL_law_20 (by decide) ?_
  refine r_istore dL_law_21 (by decide) ?_
  have hS : stW 0 126 (va_up kd3 125 (some (4, 1))) (va_up I3 125 (fun _ => 0)) (va_up J3 125 (fun _ => 0)) P3 := by
    have hC1 := CR_new (n := 69) (by decide) hC h4 hO h12 hz.2.2.2.2.1 f3 f23 f58
    have hR3 := RR_new (J := J3) hM3 hI3 hA3
    refine ⟨⟨_, _, _, _, _, _, _, _, _, _, _, _, ⟨⟨⟨Nat.zero_le _, fun j hj => absurd hj (Nat.not_lt_zero j)⟩, ⟨⟨by decide, by decide⟩, by decide, by decide, fun h hh => absurd hh (Nat.not_lt_zero h)⟩, okL_Z _ _⟩, ⟨by decide, fun h hh => absurd hh (Nat.not_lt_zero h)⟩⟩, ⟨_, _, _, _, hC1.fr (by decide) (fun a a1 a2 => by omega) (fun a a1 a2 => ?_)⟩, hR3.fr (fun a a1 a2 => ⟨am_up_n _ _ (by omega), am_up_n _ _ (by omega), rfl⟩)⟩, by rw [am_up_s], by decide⟩
    have hl := hlow2 a (by omega)
    rw [am_up_n _ _ (by omega), am_up_n _ _ (by omega), am_up_n _ _ (by omega)] at hl
    rw [am_up_n _ _ (by omega), am_up_n _ _ (by omega), am_up_n _ _ (by omega)]
    rw [am_up_n P1 _ (by omega)] at hl
    exact hl
  exact law_loop 0 L hZ hL 512 0 _ _ (by omega) (by omega) hS (by decide)
