/-! QUESTIONS OF ONE SEARCH, on any state -/
def ansI (g : Bool) (x : Int32) : Int32 := if g = true then x else -2
theorem gd2 (g : Bool) : g = false ∨ g = true := by cases g; exact Or.inl rfl; exact Or.inr rfl
theorem ans_t {g : Bool} {x : Int32} (h : g = true) : ansI g x = x := if_pos h
theorem ans_f {g : Bool} {x : Int32} (h : g = false) : ansI g x = -2 := if_neg (by rw [h]; decide)
theorem CR.H0 {o b s f l n t : Nat} {kd : mK} {I : mI} {J : mJ} {P : mP} {T : Nat → Nat} {fp : Int32} {rr : Nat → Int32} {H M : Nat} {un : Bool} {cs : Nat → List Nat} {tx : Nat → List Int32} {e : Lf} {im : Option Lf} {wk : Option (List Nat)} (h : CR o b s f l n kd I J P t T fp rr H M un cs tx e im wk) : I b 0 = nI H := h.2.2.2.1.1.1
theorem CR.M0 {o b s f l n t : Nat} {kd : mK} {I : mI} {J : mJ} {P : mP} {T : Nat → Nat} {fp : Int32} {rr : Nat → Int32} {H M : Nat} {un : Bool} {cs : Nat → List Nat} {tx : Nat → List Int32} {e : Lf} {im : Option Lf} {wk : Option (List Nat)} (h : CR o b s f l n kd I J P t T fp rr H M un cs tx e im wk) : I b 1 = nI M := h.2.2.2.1.2.1
theorem CR.found {o b s f l n t : Nat} {kd : mK} {I : mI} {J : mJ} {P : mP} {T : Nat → Nat} {fp : Int32} {rr : Nat → Int32} {H M : Nat} {un : Bool} {cs : Nat → List Nat} {tx : Nat → List Int32} {e : Lf} {im : Option Lf} {wk : Option (List Nat)} (h : CR o b s f l n kd I J P t T fp rr H M un cs tx e im wk) (h11 : I o 11 = nI 1) (hz : okZ t T H M cs e) : I (o + 41) 9 = nI (zN H M un cs e).1 ∧ I (o + 41) 10 = (if gdN H M un cs e = true then nI (fsN H M un cs e).length else -2) ∧ (∀ h, h < H → I (o + 46) h = nI (mayN (fsN H M un cs e) h)) ∧ (gdN H M un cs e = true → (fsN H M un cs e).length ≤ 1000 ∧ ∀ i h, i < (fsN H M un cs e).length → h < H → (J (o + 45) i >>> ((nI 5 * nI h).toInt64 &&& 63)).toInt32 &&& nI 31 = nI (nmF (fsN H M un cs e) i h)) := by
  obtain ⟨-, -, -, -, -, -, -, hq, -⟩ := h
  have hH8 : H ≤ 8 := hz.2.1.2.1
  have hM20 : M ≤ 20 := hz.2.1.1.2
  have hr : fRng H M (fsN H M un cs e) := (zR_rng hH8 hM20).2
  rcases hq with q | ⟨-, q1, q2, ⟨S0, q3⟩, J0, q4⟩
  · rw [h11] at q; exact absurd q (by decide)
  · refine ⟨q1, by rw [q2, skA_eq]; rfl, fun h hh => ?_, fun hg => ?_⟩
    · rw [q3]
      exact SR_may hM20 hh (by rw [if_pos (by omega)]) _ hr
    · have hl : (fsN H M un cs e).length ≤ 1000 := by
        unfold gdN at hg
        rw [Bool.and_eq_true, decide_eq_true_eq] at hg
        exact hg.2
      refine ⟨hl, fun i h hi hh => ?_⟩
      rw [q4]
      exact pk_num hr hM20 hH8 hl hi hh
theorem RR.rf {m t : Nat} {kd : mK} {I I' : mI} {P : mP} {T : Nat → Nat} {fp : Int32} {rr : Nat → Int32} {H M : Nat} {un : Bool} {cs : Nat → List Nat} {tx : Nat → List Int32} {e : Lf} {im : Option Lf} {wk : Option (List Nat)} (hf : rFr m I I') (h : RR m kd I P t T fp rr H M un cs tx e im wk) : RR m kd I' P t T fp rr H M un cs tx e im wk := RR.qu (fun a a1 a2 a3 a4 => hf.1 a (by omega) (by omega) (by omega) (by omega)) (fun j hj => hf.2 j (by omega) (by omega)) h
theorem sp_bit {H : Nat} {cs : Nat → List Nat} {e : Lf} {k : Nat} (hk : k < 32) (h : bt (nI (spB H cs e)) k = true) : k < H ∧ (!(cs k).isEmpty) = true := by
  rw [bt_nI _ hk] at h
  unfold spB at h
  rw [alB_bit, Bool.and_eq_true, decide_eq_true_eq, Bool.and_eq_true] at h
  exact ⟨h.1, h.2.1⟩
set_option maxHeartbeats 4000000 in
set_option maxRecDepth 100000 in
theorem k_search (o b s f l : Nat) {t : Nat} {T : Nat → Nat} {fp : Int32} {rr : Nat → Int32} {H M : Nat} {un : Bool} {cs : Nat → List Nat} {tx : Nat → List Int32} {e : Lf} {im : Option Lf} {wk : Option (List Nat)} {n : Nat} {kd : mK} {I : mI} {J : mJ} {P : mP} (hC : CR o b s f l n kd I J P t T fp rr H M un cs tx e im wk) (hz : okZ t T H M cs e) : Ct yX9_search cX9_search 1 none 8 0 0 [.ref o] n kd I J P (fun z n' kd' I' J' P' => z = .inl none ∧ n' = n ∧ kd' = kd ∧ (∀ a, (a < o ∨ o + 68 < a) → I' a = I a ∧ J' a = J a ∧ P' a = P a) ∧ P' (o + 56) = P (o + 56) ∧ CR o b s f l n kd I' J' P' t T fp rr H M un cs tx e im wk ∧ I' o 11 = nI 1) := by
  have hC0 := hC
  obtain ⟨hX, hsc, hT, hSt, hLf, hIm, hWk, hQc, hPc⟩ := hC
  obtain ⟨okt, oks, okl⟩ := hz
  have hS := hX.S
  have hL := hX.L
  have hat := hX.at
  have hH8 : H ≤ 8 := oks.2.1
  have hM20 : 2 ≤ M ∧ M ≤ 20 := oks.1
  have hH : I b 0 = nI H := hSt.1.1
  have hMo : I b 1 = nI M := hSt.2.1
  obtain ⟨⟨x0, x1, x2⟩, -, ⟨-, -, hLk⟩, ⟨hQ, hA, hG, hW, hRd, hD, hPg⟩, ⟨p0, p3, p8, p10, p12, p13, p14, p15, p16, p17⟩, ⟨p4, p5, p6, p7⟩, -, -, -⟩ := id hX
  by_cases c : I o 11 = nI 1
  · skip
    refine ct_of 0 (by decide +kernel) (Nat.le_of_ble_eq_true rfl) rfl ?_
    refine r_aload_n dX9_search_0 rfl ?_
    refine r_getI dX9_search_1 fl_X9_58 rfl (by assumption) ?_
    try simp (disch := omega) only [am_up_s, am_up_n]
    refine r_if_ne (tgt := 47) dX9_search_4 (by decide) (fun _ => ?_) (fun hz => absurd hz (show ¬ _ from (by rw [c]; decide)))
    refine r_vret rfl dX9_search_47 ?_
    exact ⟨rfl, rfl, rfl, fun _ _ => ⟨rfl, rfl, rfl⟩, rfl, hC0, c⟩
  · have c0 : I o 11 = nI 0 := hQc.resolve_right (fun q => c q.1)
    have hcl := z_cl hSt hLf oks okl
    refine (c_X9_search o b f H M e.2.2.2.2.length (lkO cs H) cs un (LtO e.2.2.2.2) (I (f + 1)) (I (f + 2)) (zN H M un cs e) x0 p10 p4 p6 hS hL hQ (by omega) (by omega) (by omega) (by omega) hH8 hM20.2 hcl (by rw [sp_c hSt hLf, zT_c hLf]; exact zR_eq hH8 hM20.2) c0).mono ?_
    rintro z n' kd' I' J' P' ⟨h0, rfl, rfl, g1, g2, g3, g4, g5, g6, g7, g8, g9⟩
    have hX1 : kX kd' P' o b s f l := hX.gen (fun _ _ _ => rfl) (fun a _ _ a1 _ _ _ _ => g4 a a1) g5 (fun k _ _ => by rw [g4 _ (by omega)]) (fun k _ => by rw [g4 _ (by omega)]) (fun k _ => by rw [g4 _ (by omega)]) (fun k _ => by rw [g4 _ (by omega)])
    have hI : ∀ a, o < a → (a < o + 41 ∨ o + 46 < a) → a ≠ b + 8 → I' a = I a := fun a a1 a2 a3 => g1 a a2 a3 (by omega)
    refine ⟨h0, rfl, rfl, fun a ha => ⟨g1 a (by omega) (by omega) (by omega), g3 a (by omega), g4 a (by omega)⟩, g4 _ (by omega), ⟨hX1, ?_, hT.cg (by rw [g2]; exact am_up_n _ _ (by decide)) (by rw [g2]; exact am_up_n _ _ (by decide)) (hI _ (by omega) (by omega) (by omega)) (hI _ (by omega) (by omega) (by omega)), hSt.cg (fun a x y => hI _ (by omega) (by omega) (by omega)), hLf.cg (fun a x y => hI _ (by omega) (by omega) (by omega)), hIm.cg (by rw [g2]; exact am_up_n _ _ (by decide)) (fun a x y => hI _ (by omega) (by omega) (by omega)), hWk.cg (hI _ (by omega) (by omega) (by omega)) (hI _ (by omega) (by omega) (by omega)), Or.inr ⟨by rw [g2]; exact am_up_s _ _ _, g6, g7, ⟨I (o + 46), g8⟩, ⟨J (o + 45), g9⟩⟩, hPc.cg (by rw [g2]; exact am_up_n _ _ (by decide)) (hI _ (by omega) (by omega) (by omega)) (hI _ (by omega) (by omega) (by omega))⟩, by rw [g2]; exact am_up_s _ _ _⟩
    unfold scr2 at hsc ⊢
    rw [g4 (o + 56) (by omega)]
    exact hsc

theorem fs_rng {H M : Nat} {un : Bool} {cs : Nat → List Nat} {e : Lf} (hH : H ≤ 8) (hM : M ≤ 20) : fRng H M (fsN H M un cs e) := (zR_rng hH hM).2
theorem fs_dif {H M : Nat} {un : Bool} {cs : Nat → List Nat} {e : Lf} (hH : H ≤ 8) (hM : M ≤ 20) : fDif H (fsN H M un cs e) := (zR_rng hH hM).1
theorem gd_len {H M : Nat} {un : Bool} {cs : Nat → List Nat} {e : Lf} (hg : gdN H M un cs e = true) : (fsN H M un cs e).length ≤ 1000 := by
  unfold gdN at hg
  rw [Bool.and_eq_true, decide_eq_true_eq] at hg
  exact hg.2
set_option maxHeartbeats 4000000 in
set_option maxRecDepth 100000 in
theorem k_numberings (o b s f l : Nat) {t : Nat} {T : Nat → Nat} {fp : Int32} {rr : Nat → Int32} {H M : Nat} {un : Bool} {cs : Nat → List Nat} {tx : Nat → List Int32} {e : Lf} {im : Option Lf} {wk : Option (List Nat)} {n : Nat} {kd : mK} {I : mI} {J : mJ} {P : mP} (hC : CR o b s f l n kd I J P t T fp rr H M un cs tx e im wk) (hz : okZ t T H M cs e) : Ct yX9_numberings cX9_numberings 1 (some .int) 9 1 6 [.ref o] n kd I J P (pK o n kd I J P (.inl (some (.int (ansI (gdN H M un cs e) (nI (fsN H M un cs e).length))))) (CX o t T fp rr H M un cs tx e im wk)) := by
  have hC0 := hC
  have hz0 := hz
  obtain ⟨hX, hsc, hT, hSt, hLf, hIm, hWk, hQc, hPc⟩ := hC
  obtain ⟨okt, oks, okl⟩ := hz
  have hS := hX.S
  have hL := hX.L
  have hat := hX.at
  have hH8 : H ≤ 8 := oks.2.1
  have hM20 : 2 ≤ M ∧ M ≤ 20 := oks.1
  have hH : I b 0 = nI H := hSt.1.1
  have hMo : I b 1 = nI M := hSt.2.1
  obtain ⟨⟨x0, x1, x2⟩, -, ⟨-, -, hLk⟩, ⟨hQ, hA, hG, hW, hRd, hD, hPg⟩, ⟨p0, p3, p8, p10, p12, p13, p14, p15, p16, p17⟩, ⟨p4, p5, p6, p7⟩, -, -, -⟩ := id hX
  refine ct_of 0 (by decide +kernel) (Nat.le_of_ble_eq_true rfl) rfl ?_
  rcases gd2 (gdN H M un cs e) with hg | hg
  · rw [ans_f hg]
    refine r_aload_n dX9_numberings_0 rfl ?_
    refine r_virt (kc2 := 1) (ks2 := 6) (k_search o b s f l hC0 hz0) lk_X9_183 mc_X9_search dX9_numberings_1 x0 (by decide) rfl rfl (Nat.le_of_ble_eq_true rfl) (by decide) (by decide) (fun _ _ _ _ _ _ h => nomatch h.1) ?_
    rintro v1 n1 kd1 I1 J1 P1 ⟨h00, rfl, rfl, hfr, h56, hC1, h11⟩
    cases h00
    simp only [Option.toList, List.nil_append]
    obtain ⟨f9, f10, fS, fJ⟩ := hC1.found h11 hz0
    obtain ⟨⟨y0, y1, y2⟩, -, -, ⟨hQ1, hA1, hG1, hW1, -, -, -⟩, ⟨-, -, -, r10, r12, r13, r14, -, -, -⟩, ⟨r4, r5, r6, r7⟩, -, -, -⟩ := id hC1.1
    have hH1 := hC1.H0
    have hMo1 := hC1.M0
    have hS1 := hC1.1.S
    have hL1 := hC1.1.L
    refine r_aload_n dX9_numberings_4 rfl ?_
    refine r_getR dX9_numberings_5 fl_X9_54 rfl (by assumption) (by assumption) ?_
    refine r_getI dX9_numberings_8 fl_X9_186 rfl hQ1.1 ?_
    rw [f10, if_neg (show ¬ _ from by rw [hg]; decide)]
    refine r_iret rfl dX9_numberings_11 ?_
    exact ⟨rfl, ⟨Nat.le_refl _, Nat.le_succ _⟩, fun q => by rw [h56]; exact q, fun a a1 a2 => ⟨rfl, (hfr a (by omega)).1, (hfr a (by omega)).2.1, (hfr a (by omega)).2.2⟩, b, s, f, l, hC1⟩
  · rw [ans_t hg]
    have hl : (fsN H M un cs e).length ≤ 1000 := gd_len hg
    refine r_aload_n dX9_numberings_0 rfl ?_
    refine r_virt (kc2 := 1) (ks2 := 6) (k_search o b s f l hC0 hz0) lk_X9_183 mc_X9_search dX9_numberings_1 x0 (by decide) rfl rfl (Nat.le_of_ble_eq_true rfl) (by decide) (by decide) (fun _ _ _ _ _ _ h => nomatch h.1) ?_
    rintro v1 n1 kd1 I1 J1 P1 ⟨h00, rfl, rfl, hfr, h56, hC1, h11⟩
    cases h00
    simp only [Option.toList, List.nil_append]
    obtain ⟨f9, f10, fS, fJ⟩ := hC1.found h11 hz0
    obtain ⟨⟨y0, y1, y2⟩, -, -, ⟨hQ1, hA1, hG1, hW1, -, -, -⟩, ⟨-, -, -, r10, r12, r13, r14, -, -, -⟩, ⟨r4, r5, r6, r7⟩, -, -, -⟩ := id hC1.1
    have hH1 := hC1.H0
    have hMo1 := hC1.M0
    have hS1 := hC1.1.S
    have hL1 := hC1.1.L
    refine r_aload_n dX9_numberings_4 rfl ?_
    refine r_getR dX9_numberings_5 fl_X9_54 rfl (by assumption) (by assumption) ?_
    refine r_getI dX9_numberings_8 fl_X9_186 rfl hQ1.1 ?_
    rw [f10, if_pos hg]
    refine r_iret rfl dX9_numberings_11 ?_
    exact ⟨rfl, ⟨Nat.le_refl _, Nat.le_succ _⟩, fun q => by rw [h56]; exact q, fun a a1 a2 => ⟨rfl, (hfr a (by omega)).1, (hfr a (by omega)).2.1, (hfr a (by omega)).2.2⟩, b, s, f, l, hC1⟩

set_option maxHeartbeats 4000000 in
set_option maxRecDepth 100000 in
theorem k_tries (o b s f l : Nat) {t : Nat} {T : Nat → Nat} {fp : Int32} {rr : Nat → Int32} {H M : Nat} {un : Bool} {cs : Nat → List Nat} {tx : Nat → List Int32} {e : Lf} {im : Option Lf} {wk : Option (List Nat)} {n : Nat} {kd : mK} {I : mI} {J : mJ} {P : mP} (hC : CR o b s f l n kd I J P t T fp rr H M un cs tx e im wk) (hz : okZ t T H M cs e) : Ct yX9_tries cX9_tries 1 (some .int) 9 1 6 [.ref o] n kd I J P (pK o n kd I J P (.inl (some (.int (ansI (gdN H M un cs e) (nI (zN H M un cs e).1))))) (CX o t T fp rr H M un cs tx e im wk)) := by
  have hC0 := hC
  have hz0 := hz
  obtain ⟨hX, hsc, hT, hSt, hLf, hIm, hWk, hQc, hPc⟩ := hC
  obtain ⟨okt, oks, okl⟩ := hz
  have hS := hX.S
  have hL := hX.L
  have hat := hX.at
  have hH8 : H ≤ 8 := oks.2.1
  have hM20 : 2 ≤ M ∧ M ≤ 20 := oks.1
  have hH : I b 0 = nI H := hSt.1.1
  have hMo : I b 1 = nI M := hSt.2.1
  obtain ⟨⟨x0, x1, x2⟩, -, ⟨-, -, hLk⟩, ⟨hQ, hA, hG, hW, hRd, hD, hPg⟩, ⟨p0, p3, p8, p10, p12, p13, p14, p15, p16, p17⟩, ⟨p4, p5, p6, p7⟩, -, -, -⟩ := id hX
  refine ct_of 0 (by decide +kernel) (Nat.le_of_ble_eq_true rfl) rfl ?_
  rcases gd2 (gdN H M un cs e) with hg | hg
  · rw [ans_f hg]
    refine r_aload_n dX9_tries_0 rfl ?_
    refine r_virt (kc2 := 1) (ks2 := 6) (k_search o b s f l hC0 hz0) lk_X9_183 mc_X9_search dX9_tries_1 x0 (by decide) rfl rfl (Nat.le_of_ble_eq_true rfl) (by decide) (by decide) (fun _ _ _ _ _ _ h => nomatch h.1) ?_
    rintro v1 n1 kd1 I1 J1 P1 ⟨h00, rfl, rfl, hfr, h56, hC1, h11⟩
    cases h00
    simp only [Option.toList, List.nil_append]
    obtain ⟨f9, f10, fS, fJ⟩ := hC1.found h11 hz0
    obtain ⟨⟨y0, y1, y2⟩, -, -, ⟨hQ1, hA1, hG1, hW1, -, -, -⟩, ⟨-, -, -, r10, r12, r13, r14, -, -, -⟩, ⟨r4, r5, r6, r7⟩, -, -, -⟩ := id hC1.1
    have hH1 := hC1.H0
    have hMo1 := hC1.M0
    have hS1 := hC1.1.S
    have hL1 := hC1.1.L
    refine r_aload_n dX9_tries_4 rfl ?_
    refine r_getR dX9_tries_5 fl_X9_54 rfl (by assumption) (by assumption) ?_
    refine r_getI dX9_tries_8 fl_X9_186 rfl hQ1.1 ?_
    rw [f10, if_neg (show ¬ _ from by rw [hg]; decide)]
    refine r_bipush (v := (-2)) dX9_tries_11 (by decide) ?_
    refine r_icmp_ne (tgt := 21) dX9_tries_13 (by decide) (fun hz => absurd (show _ from rfl) hz) (fun _ => ?_)
    refine r_bipush (v := (-2)) dX9_tries_16 (by decide) ?_
    refine r_goto (tgt := 28) dX9_tries_18 (by decide) ?_
    refine r_iret rfl dX9_tries_28 ?_
    exact ⟨rfl, ⟨Nat.le_refl _, Nat.le_succ _⟩, fun q => by rw [h56]; exact q, fun a a1 a2 => ⟨rfl, (hfr a (by omega)).1, (hfr a (by omega)).2.1, (hfr a (by omega)).2.2⟩, b, s, f, l, hC1⟩
  · rw [ans_t hg]
    have hl : (fsN H M un cs e).length ≤ 1000 := gd_len hg
    refine r_aload_n dX9_tries_0 rfl ?_
    refine r_virt (kc2 := 1) (ks2 := 6) (k_search o b s f l hC0 hz0) lk_X9_183 mc_X9_search dX9_tries_1 x0 (by decide) rfl rfl (Nat.le_of_ble_eq_true rfl) (by decide) (by decide) (fun _ _ _ _ _ _ h => nomatch h.1) ?_
    rintro v1 n1 kd1 I1 J1 P1 ⟨h00, rfl, rfl, hfr, h56, hC1, h11⟩
    cases h00
    simp only [Option.toList, List.nil_append]
    obtain ⟨f9, f10, fS, fJ⟩ := hC1.found h11 hz0
    obtain ⟨⟨y0, y1, y2⟩, -, -, ⟨hQ1, hA1, hG1, hW1, -, -, -⟩, ⟨-, -, -, r10, r12, r13, r14, -, -, -⟩, ⟨r4, r5, r6, r7⟩, -, -, -⟩ := id hC1.1
    have hH1 := hC1.H0
    have hMo1 := hC1.M0
    have hS1 := hC1.1.S
    have hL1 := hC1.1.L
    refine r_aload_n dX9_tries_4 rfl ?_
    refine r_getR dX9_tries_5 fl_X9_54 rfl (by assumption) (by assumption) ?_
    refine r_getI dX9_tries_8 fl_X9_186 rfl hQ1.1 ?_
    rw [f10, if_pos hg]
    refine r_bipush (v := (-2)) dX9_tries_11 (by decide) ?_
    refine r_icmp_ne (tgt := 21) dX9_tries_13 (by decide) (fun _ => ?_) (fun hz => absurd hz (show ¬ _ from (nI_m2 (by omega))))
    refine r_aload_n dX9_tries_21 rfl ?_
    refine r_getR dX9_tries_22 fl_X9_54 rfl (by assumption) (by assumption) ?_
    refine r_getI dX9_tries_25 fl_X9_189 rfl hQ1.1 ?_
    rw [f9]
    refine r_iret rfl dX9_tries_28 ?_
    exact ⟨rfl, ⟨Nat.le_refl _, Nat.le_succ _⟩, fun q => by rw [h56]; exact q, fun a a1 a2 => ⟨rfl, (hfr a (by omega)).1, (hfr a (by omega)).2.1, (hfr a (by omega)).2.2⟩, b, s, f, l, hC1⟩

set_option maxHeartbeats 4000000 in
set_option maxRecDepth 100000 in
theorem k_may (o b s f l : Nat) (h : Nat) {t : Nat} {T : Nat → Nat} {fp : Int32} {rr : Nat → Int32} {H M : Nat} {un : Bool} {cs : Nat → List Nat} {tx : Nat → List Int32} {e : Lf} {im : Option Lf} {wk : Option (List Nat)} {n : Nat} {kd : mK} {I : mI} {J : mJ} {P : mP} (hC : CR o b s f l n kd I J P t T fp rr H M un cs tx e im wk) (hz : okZ t T H M cs e) (hh : h < H) : Ct yX9_may cX9_may 2 (some .int) 9 1 6 [.ref o, .int (nI h)] n kd I J P (pK o n kd I J P (.inl (some (.int (ansI (gdN H M un cs e) (nI (mayN (fsN H M un cs e) h)))))) (CX o t T fp rr H M un cs tx e im wk)) := by
  have hC0 := hC
  have hz0 := hz
  obtain ⟨hX, hsc, hT, hSt, hLf, hIm, hWk, hQc, hPc⟩ := hC
  obtain ⟨okt, oks, okl⟩ := hz
  have hS := hX.S
  have hL := hX.L
  have hat := hX.at
  have hH8 : H ≤ 8 := oks.2.1
  have hM20 : 2 ≤ M ∧ M ≤ 20 := oks.1
  have hH : I b 0 = nI H := hSt.1.1
  have hMo : I b 1 = nI M := hSt.2.1
  obtain ⟨⟨x0, x1, x2⟩, -, ⟨-, -, hLk⟩, ⟨hQ, hA, hG, hW, hRd, hD, hPg⟩, ⟨p0, p3, p8, p10, p12, p13, p14, p15, p16, p17⟩, ⟨p4, p5, p6, p7⟩, -, -, -⟩ := id hX
  refine ct_of 0 (by decide +kernel) (Nat.le_of_ble_eq_true rfl) rfl ?_
  rcases gd2 (gdN H M un cs e) with hg | hg
  · rw [ans_f hg]
    refine r_aload_n dX9_may_0 rfl ?_
    refine r_iload_n dX9_may_1 rfl ?_
    refine r_virtV (m0_House o b (nI h) x0 p4 hS.1 (by rw [hH]; exact (isH_of hh (by omega)))) lk_X9_142 mc_X9_mustBeHouse dX9_may_2 x0 (by decide) rfl rfl (Nat.le_of_ble_eq_true rfl) ?_
    refine r_aload_n dX9_may_5 rfl ?_
    refine r_virt (kc2 := 1) (ks2 := 6) (k_search o b s f l hC0 hz0) lk_X9_183 mc_X9_search dX9_may_6 x0 (by decide) rfl rfl (Nat.le_of_ble_eq_true rfl) (by decide) (by decide) (fun _ _ _ _ _ _ h => nomatch h.1) ?_
    rintro v1 n1 kd1 I1 J1 P1 ⟨h00, rfl, rfl, hfr, h56, hC1, h11⟩
    cases h00
    simp only [Option.toList, List.nil_append]
    obtain ⟨f9, f10, fS, fJ⟩ := hC1.found h11 hz0
    obtain ⟨⟨y0, y1, y2⟩, -, -, ⟨hQ1, hA1, hG1, hW1, -, -, -⟩, ⟨-, -, -, r10, r12, r13, r14, -, -, -⟩, ⟨r4, r5, r6, r7⟩, -, -, -⟩ := id hC1.1
    have hH1 := hC1.H0
    have hMo1 := hC1.M0
    have hS1 := hC1.1.S
    have hL1 := hC1.1.L
    refine r_aload_n dX9_may_9 rfl ?_
    refine r_getR dX9_may_10 fl_X9_54 rfl (by assumption) (by assumption) ?_
    refine r_getI dX9_may_13 fl_X9_186 rfl hQ1.1 ?_
    rw [f10, if_neg (show ¬ _ from by rw [hg]; decide)]
    refine r_bipush (v := (-2)) dX9_may_16 (by decide) ?_
    refine r_icmp_ne (tgt := 26) dX9_may_18 (by decide) (fun hz => absurd (show _ from rfl) hz) (fun _ => ?_)
    refine r_bipush (v := (-2)) dX9_may_21 (by decide) ?_
    refine r_goto (tgt := 35) dX9_may_23 (by decide) ?_
    refine r_iret rfl dX9_may_35 ?_
    exact ⟨rfl, ⟨Nat.le_refl _, Nat.le_succ _⟩, fun q => by rw [h56]; exact q, fun a a1 a2 => ⟨rfl, (hfr a (by omega)).1, (hfr a (by omega)).2.1, (hfr a (by omega)).2.2⟩, b, s, f, l, hC1⟩
  · rw [ans_t hg]
    have hl : (fsN H M un cs e).length ≤ 1000 := gd_len hg
    refine r_aload_n dX9_may_0 rfl ?_
    refine r_iload_n dX9_may_1 rfl ?_
    refine r_virtV (m0_House o b (nI h) x0 p4 hS.1 (by rw [hH]; exact (isH_of hh (by omega)))) lk_X9_142 mc_X9_mustBeHouse dX9_may_2 x0 (by decide) rfl rfl (Nat.le_of_ble_eq_true rfl) ?_
    refine r_aload_n dX9_may_5 rfl ?_
    refine r_virt (kc2 := 1) (ks2 := 6) (k_search o b s f l hC0 hz0) lk_X9_183 mc_X9_search dX9_may_6 x0 (by decide) rfl rfl (Nat.le_of_ble_eq_true rfl) (by decide) (by decide) (fun _ _ _ _ _ _ h => nomatch h.1) ?_
    rintro v1 n1 kd1 I1 J1 P1 ⟨h00, rfl, rfl, hfr, h56, hC1, h11⟩
    cases h00
    simp only [Option.toList, List.nil_append]
    obtain ⟨f9, f10, fS, fJ⟩ := hC1.found h11 hz0
    obtain ⟨⟨y0, y1, y2⟩, -, -, ⟨hQ1, hA1, hG1, hW1, -, -, -⟩, ⟨-, -, -, r10, r12, r13, r14, -, -, -⟩, ⟨r4, r5, r6, r7⟩, -, -, -⟩ := id hC1.1
    have hH1 := hC1.H0
    have hMo1 := hC1.M0
    have hS1 := hC1.1.S
    have hL1 := hC1.1.L
    refine r_aload_n dX9_may_9 rfl ?_
    refine r_getR dX9_may_10 fl_X9_54 rfl (by assumption) (by assumption) ?_
    refine r_getI dX9_may_13 fl_X9_186 rfl hQ1.1 ?_
    rw [f10, if_pos hg]
    refine r_bipush (v := (-2)) dX9_may_16 (by decide) ?_
    refine r_icmp_ne (tgt := 26) dX9_may_18 (by decide) (fun _ => ?_) (fun hz => absurd hz (show ¬ _ from (nI_m2 (by omega))))
    refine r_aload_n dX9_may_26 rfl ?_
    refine r_getR dX9_may_27 fl_X9_54 rfl (by assumption) (by assumption) ?_
    refine r_getR dX9_may_30 fl_X9_195 rfl hQ1.1 hQ1.2.2.2.2.2.2.2.2.2.2 ?_
    refine r_iload_n dX9_may_33 rfl ?_
    refine r_iald dX9_may_34 hQ1.2.2.2.2.2.1 (nI_in8 8 (by omega) (by decide)) (nI_clamp (by omega)) ?_
    rw [fS h hh]
    refine r_iret rfl dX9_may_35 ?_
    exact ⟨rfl, ⟨Nat.le_refl _, Nat.le_succ _⟩, fun q => by rw [h56]; exact q, fun a a1 a2 => ⟨rfl, (hfr a (by omega)).1, (hfr a (by omega)).2.1, (hfr a (by omega)).2.2⟩, b, s, f, l, hC1⟩

set_option maxHeartbeats 4000000 in
set_option maxRecDepth 100000 in
theorem k_left (o b s f l : Nat) (h v : Nat) {t : Nat} {T : Nat → Nat} {fp : Int32} {rr : Nat → Int32} {H M : Nat} {un : Bool} {cs : Nat → List Nat} {tx : Nat → List Int32} {e : Lf} {im : Option Lf} {wk : Option (List Nat)} {n : Nat} {kd : mK} {I : mI} {J : mJ} {P : mP} (hC : CR o b s f l n kd I J P t T fp rr H M un cs tx e im wk) (hz : okZ t T H M cs e) (hh : h < H) (hv1 : 1 ≤ v) (hv : v ≤ M) : Ct yX9_left cX9_left 3 (some .int) 9 1 6 [.ref o, .int (nI h), .int (nI v)] n kd I J P (pK o n kd I J P (.inl (some (.int (ansI (gdN H M un cs e) (nI (cntN (fsN H M un cs e) h v)))))) (CX o t T fp rr H M un cs tx e im wk)) := by
  have hC0 := hC
  have hz0 := hz
  obtain ⟨hX, hsc, hT, hSt, hLf, hIm, hWk, hQc, hPc⟩ := hC
  obtain ⟨okt, oks, okl⟩ := hz
  have hS := hX.S
  have hL := hX.L
  have hat := hX.at
  have hH8 : H ≤ 8 := oks.2.1
  have hM20 : 2 ≤ M ∧ M ≤ 20 := oks.1
  have hH : I b 0 = nI H := hSt.1.1
  have hMo : I b 1 = nI M := hSt.2.1
  obtain ⟨⟨x0, x1, x2⟩, -, ⟨-, -, hLk⟩, ⟨hQ, hA, hG, hW, hRd, hD, hPg⟩, ⟨p0, p3, p8, p10, p12, p13, p14, p15, p16, p17⟩, ⟨p4, p5, p6, p7⟩, -, -, -⟩ := id hX
  refine ct_of 0 (by decide +kernel) (Nat.le_of_ble_eq_true rfl) rfl ?_
  rcases gd2 (gdN H M un cs e) with hg | hg
  · rw [ans_f hg]
    refine r_aload_n dX9_left_0 rfl ?_
    refine r_iload_n dX9_left_1 rfl ?_
    refine r_virtV (m0_House o b (nI h) x0 p4 hS.1 (by rw [hH]; exact (isH_of hh (by omega)))) lk_X9_142 mc_X9_mustBeHouse dX9_left_2 x0 (by decide) rfl rfl (Nat.le_of_ble_eq_true rfl) ?_
    refine r_aload_n dX9_left_5 rfl ?_
    refine r_iload_n dX9_left_6 rfl ?_
    refine r_virtV (m0_Number o b (nI v) x0 p4 hS.1 (by rw [hMo]; exact (isN_of hv1 hv (by omega)))) lk_X9_235 mc_X9_mustBeNumber dX9_left_7 x0 (by decide) rfl rfl (Nat.le_of_ble_eq_true rfl) ?_
    refine r_aload_n dX9_left_10 rfl ?_
    refine r_virt (kc2 := 1) (ks2 := 6) (k_search o b s f l hC0 hz0) lk_X9_183 mc_X9_search dX9_left_11 x0 (by decide) rfl rfl (Nat.le_of_ble_eq_true rfl) (by decide) (by decide) (fun _ _ _ _ _ _ h => nomatch h.1) ?_
    rintro v1 n1 kd1 I1 J1 P1 ⟨h00, rfl, rfl, hfr, h56, hC1, h11⟩
    cases h00
    simp only [Option.toList, List.nil_append]
    obtain ⟨f9, f10, fS, fJ⟩ := hC1.found h11 hz0
    obtain ⟨⟨y0, y1, y2⟩, -, -, ⟨hQ1, hA1, hG1, hW1, -, -, -⟩, ⟨-, -, -, r10, r12, r13, r14, -, -, -⟩, ⟨r4, r5, r6, r7⟩, -, -, -⟩ := id hC1.1
    have hH1 := hC1.H0
    have hMo1 := hC1.M0
    have hS1 := hC1.1.S
    have hL1 := hC1.1.L
    refine r_aload_n dX9_left_14 rfl ?_
    refine r_getR dX9_left_15 fl_X9_54 rfl (by assumption) (by assumption) ?_
    refine r_getI dX9_left_18 fl_X9_186 rfl hQ1.1 ?_
    rw [f10, if_neg (show ¬ _ from by rw [hg]; decide)]
    refine r_bipush (v := (-2)) dX9_left_21 (by decide) ?_
    refine r_icmp_ne (tgt := 31) dX9_left_23 (by decide) (fun hz => absurd (show _ from rfl) hz) (fun _ => ?_)
    refine r_bipush (v := (-2)) dX9_left_26 (by decide) ?_
    refine r_goto (tgt := 40) dX9_left_28 (by decide) ?_
    refine r_iret rfl dX9_left_40 ?_
    exact ⟨rfl, ⟨Nat.le_refl _, Nat.le_succ _⟩, fun q => by rw [h56]; exact q, fun a a1 a2 => ⟨rfl, (hfr a (by omega)).1, (hfr a (by omega)).2.1, (hfr a (by omega)).2.2⟩, b, s, f, l, hC1⟩
  · rw [ans_t hg]
    have hl : (fsN H M un cs e).length ≤ 1000 := gd_len hg
    refine r_aload_n dX9_left_0 rfl ?_
    refine r_iload_n dX9_left_1 rfl ?_
    refine r_virtV (m0_House o b (nI h) x0 p4 hS.1 (by rw [hH]; exact (isH_of hh (by omega)))) lk_X9_142 mc_X9_mustBeHouse dX9_left_2 x0 (by decide) rfl rfl (Nat.le_of_ble_eq_true rfl) ?_
    refine r_aload_n dX9_left_5 rfl ?_
    refine r_iload_n dX9_left_6 rfl ?_
    refine r_virtV (m0_Number o b (nI v) x0 p4 hS.1 (by rw [hMo]; exact (isN_of hv1 hv (by omega)))) lk_X9_235 mc_X9_mustBeNumber dX9_left_7 x0 (by decide) rfl rfl (Nat.le_of_ble_eq_true rfl) ?_
    refine r_aload_n dX9_left_10 rfl ?_
    refine r_virt (kc2 := 1) (ks2 := 6) (k_search o b s f l hC0 hz0) lk_X9_183 mc_X9_search dX9_left_11 x0 (by decide) rfl rfl (Nat.le_of_ble_eq_true rfl) (by decide) (by decide) (fun _ _ _ _ _ _ h => nomatch h.1) ?_
    rintro v1 n1 kd1 I1 J1 P1 ⟨h00, rfl, rfl, hfr, h56, hC1, h11⟩
    cases h00
    simp only [Option.toList, List.nil_append]
    obtain ⟨f9, f10, fS, fJ⟩ := hC1.found h11 hz0
    obtain ⟨⟨y0, y1, y2⟩, -, -, ⟨hQ1, hA1, hG1, hW1, -, -, -⟩, ⟨-, -, -, r10, r12, r13, r14, -, -, -⟩, ⟨r4, r5, r6, r7⟩, -, -, -⟩ := id hC1.1
    have hH1 := hC1.H0
    have hMo1 := hC1.M0
    have hS1 := hC1.1.S
    have hL1 := hC1.1.L
    refine r_aload_n dX9_left_14 rfl ?_
    refine r_getR dX9_left_15 fl_X9_54 rfl (by assumption) (by assumption) ?_
    refine r_getI dX9_left_18 fl_X9_186 rfl hQ1.1 ?_
    rw [f10, if_pos hg]
    refine r_bipush (v := (-2)) dX9_left_21 (by decide) ?_
    refine r_icmp_ne (tgt := 31) dX9_left_23 (by decide) (fun _ => ?_) (fun hz => absurd hz (show ¬ _ from (nI_m2 (by omega))))
    refine r_aload_n dX9_left_31 rfl ?_
    refine r_getR dX9_left_32 fl_X9_54 rfl (by assumption) (by assumption) ?_
    refine r_iload_n dX9_left_35 rfl ?_
    refine r_iload_n dX9_left_36 rfl ?_
    refine r_virtE (c_X6_foundWith (o + 41) (fsN H M un cs e).length (nI h) (nI v) hQ1 (by rw [f10, if_pos hg]) hl) lk_X9_351 mc_X6_foundWith dX9_left_37 hQ1.1 (by decide) rfl rfl (Nat.le_of_ble_eq_true rfl) ?_
    rw [cw_of hM20.2 hh hH8 (by omega) (fsN H M un cs e) _ (zR_rng hH8 hM20.2).2 (fun i hi => (fJ hg).2 i h hi hh)]
    refine r_iret rfl dX9_left_40 ?_
    exact ⟨rfl, ⟨Nat.le_refl _, Nat.le_succ _⟩, fun q => by rw [h56]; exact q, fun a a1 a2 => ⟨rfl, (hfr a (by omega)).1, (hfr a (by omega)).2.1, (hfr a (by omega)).2.2⟩, b, s, f, l, hC1⟩

set_option maxHeartbeats 4000000 in
set_option maxRecDepth 100000 in
theorem k_left_no (o b s f l : Nat) (h : Nat) (y : Int32) {t : Nat} {T : Nat → Nat} {fp : Int32} {rr : Nat → Int32} {H M : Nat} {un : Bool} {cs : Nat → List Nat} {tx : Nat → List Int32} {e : Lf} {im : Option Lf} {wk : Option (List Nat)} {n : Nat} {kd : mK} {I : mI} {J : mJ} {P : mP} (hC : CR o b s f l n kd I J P t T fp rr H M un cs tx e im wk) (hz : okZ t T H M cs e) (hh : h < H) (hy : (!decide (y < nI 1) && decide (y ≤ nI M)) = false) : Ct yX9_left cX9_left 3 (some .int) 9 1 6 [.ref o, .int (nI h), .int y] n kd I J P (fun z n' kd' I' J' P' => z = .inr "java/lang/IllegalArgumentException" ∧ n' = n ∧ kd' = kd ∧ I' = I ∧ J' = J ∧ P' = P) := by
  obtain ⟨hX, hsc, hT, hSt, hLf, hIm, hWk, hQc, hPc⟩ := hC
  obtain ⟨okt, oks, okl⟩ := hz
  have hS := hX.S
  have hL := hX.L
  have hat := hX.at
  have hH8 : H ≤ 8 := oks.2.1
  have hM20 : 2 ≤ M ∧ M ≤ 20 := oks.1
  have hH : I b 0 = nI H := hSt.1.1
  have hMo : I b 1 = nI M := hSt.2.1
  obtain ⟨⟨x0, x1, x2⟩, -, ⟨-, -, hLk⟩, ⟨hQ, hA, hG, hW, hRd, hD, hPg⟩, ⟨p0, p3, p8, p10, p12, p13, p14, p15, p16, p17⟩, ⟨p4, p5, p6, p7⟩, -, -, -⟩ := id hX
  refine ct_of 0 (by decide +kernel) (Nat.le_of_ble_eq_true rfl) rfl ?_
  refine r_aload_n dX9_left_0 rfl ?_
  refine r_iload_n dX9_left_1 rfl ?_
  refine r_virtV (m0_House o b (nI h) x0 p4 hS.1 (by rw [hH]; exact (isH_of hh (by omega)))) lk_X9_142 mc_X9_mustBeHouse dX9_left_2 x0 (by decide) rfl rfl (Nat.le_of_ble_eq_true rfl) ?_
  refine r_aload_n dX9_left_5 rfl ?_
  refine r_iload_n dX9_left_6 rfl ?_
  have hc7 := c_X9_mustBeNumber (n := n) (kd := kd) (I := I) (J := J) (P := P) o b (y) x0 p4 hS.1
  rw [hMo, hy] at hc7
  exact r_virtX hc7 lk_X9_235 mc_X9_mustBeNumber dX9_left_7 x0 (by decide) rfl rfl (Nat.le_of_ble_eq_true rfl) (by decide) (by decide) ⟨rfl, rfl, rfl, rfl, rfl, rfl⟩

set_option maxHeartbeats 4000000 in
set_option maxRecDepth 100000 in
theorem k_number (o b s f l : Nat) (i h : Nat) {t : Nat} {T : Nat → Nat} {fp : Int32} {rr : Nat → Int32} {H M : Nat} {un : Bool} {cs : Nat → List Nat} {tx : Nat → List Int32} {e : Lf} {im : Option Lf} {wk : Option (List Nat)} {n : Nat} {kd : mK} {I : mI} {J : mJ} {P : mP} (hC : CR o b s f l n kd I J P t T fp rr H M un cs tx e im wk) (hz : okZ t T H M cs e) (hh : h < H) (hg : gdN H M un cs e = true) (hi : i < (fsN H M un cs e).length) : Ct yX9_number cX9_number 3 (some .int) 9 1 6 [.ref o, .int (nI i), .int (nI h)] n kd I J P (pK o n kd I J P (.inl (some (.int (nI (nmF (fsN H M un cs e) i h))))) (CX o t T fp rr H M un cs tx e im wk)) := by
  have hC0 := hC
  have hz0 := hz
  obtain ⟨hX, hsc, hT, hSt, hLf, hIm, hWk, hQc, hPc⟩ := hC
  obtain ⟨okt, oks, okl⟩ := hz
  have hS := hX.S
  have hL := hX.L
  have hat := hX.at
  have hH8 : H ≤ 8 := oks.2.1
  have hM20 : 2 ≤ M ∧ M ≤ 20 := oks.1
  have hH : I b 0 = nI H := hSt.1.1
  have hMo : I b 1 = nI M := hSt.2.1
  obtain ⟨⟨x0, x1, x2⟩, -, ⟨-, -, hLk⟩, ⟨hQ, hA, hG, hW, hRd, hD, hPg⟩, ⟨p0, p3, p8, p10, p12, p13, p14, p15, p16, p17⟩, ⟨p4, p5, p6, p7⟩, -, -, -⟩ := id hX
  have hl : (fsN H M un cs e).length ≤ 1000 := gd_len hg
  refine ct_of 0 (by decide +kernel) (Nat.le_of_ble_eq_true rfl) rfl ?_
  refine r_aload_n dX9_number_0 rfl ?_
  refine r_iload_n dX9_number_1 rfl ?_
  refine r_virtV (m0_House o b (nI h) x0 p4 hS.1 (by rw [hH]; exact (isH_of hh (by omega)))) lk_X9_142 mc_X9_mustBeHouse dX9_number_2 x0 (by decide) rfl rfl (Nat.le_of_ble_eq_true rfl) ?_
  refine r_aload_n dX9_number_5 rfl ?_
  refine r_virt (kc2 := 1) (ks2 := 6) (k_search o b s f l hC0 hz0) lk_X9_183 mc_X9_search dX9_number_6 x0 (by decide) rfl rfl (Nat.le_of_ble_eq_true rfl) (by decide) (by decide) (fun _ _ _ _ _ _ h => nomatch h.1) ?_
  rintro v1 n1 kd1 I1 J1 P1 ⟨h00, rfl, rfl, hfr, h56, hC1, h11⟩
  cases h00
  simp only [Option.toList, List.nil_append]
  obtain ⟨f9, f10, fS, fJ⟩ := hC1.found h11 hz0
  obtain ⟨⟨y0, y1, y2⟩, -, -, ⟨hQ1, hA1, hG1, hW1, -, -, -⟩, ⟨-, -, -, r10, r12, r13, r14, -, -, -⟩, ⟨r4, r5, r6, r7⟩, -, -, -⟩ := id hC1.1
  have hH1 := hC1.H0
  have hMo1 := hC1.M0
  have hS1 := hC1.1.S
  have hL1 := hC1.1.L
  refine r_iload_n dX9_number_9 rfl ?_
  refine r_if_lt (tgt := 24) dX9_number_10 (by decide) (fun hz => absurd hz (show ¬ _ from (z_nlt (by omega)))) (fun _ => ?_)
  refine r_iload_n dX9_number_13 rfl ?_
  refine r_aload_n dX9_number_14 rfl ?_
  refine r_getR dX9_number_15 fl_X9_54 rfl (by assumption) (by assumption) ?_
  refine r_getI dX9_number_18 fl_X9_186 rfl hQ1.1 ?_
  rw [f10, if_pos hg]
  refine r_icmp_lt (tgt := 32) dX9_number_21 (by decide) (fun _ => ?_) (fun hz => absurd (show _ from ((nI_ltI (by omega) (by omega)).mpr hi)) hz)
  refine r_aload_n dX9_number_32 rfl ?_
  refine r_getR dX9_number_33 fl_X9_54 rfl (by assumption) (by assumption) ?_
  refine r_iload_n dX9_number_36 rfl ?_
  refine r_iload_n dX9_number_37 rfl ?_
  refine r_virtE (c_numN (o + 41) i h (nmF (fsN H M un cs e) i h) hQ1.1 hQ1.2.2.2.2.2.2.2.2.2.1 hQ1.2.2.2.2.1 (by omega) ((fJ hg).2 i h hi hh)) lk_X9_192 mc_X6_numberIn dX9_number_38 hQ1.1 (by decide) rfl rfl (Nat.le_of_ble_eq_true rfl) ?_
  refine r_iret rfl dX9_number_41 ?_
  exact ⟨rfl, ⟨Nat.le_refl _, Nat.le_succ _⟩, fun q => by rw [h56]; exact q, fun a a1 a2 => ⟨rfl, (hfr a (by omega)).1, (hfr a (by omega)).2.1, (hfr a (by omega)).2.2⟩, b, s, f, l, hC1⟩

set_option maxHeartbeats 4000000 in
set_option maxRecDepth 100000 in
theorem k_number_no (o b s f l : Nat) (x : Int32) (h : Nat) {t : Nat} {T : Nat → Nat} {fp : Int32} {rr : Nat → Int32} {H M : Nat} {un : Bool} {cs : Nat → List Nat} {tx : Nat → List Int32} {e : Lf} {im : Option Lf} {wk : Option (List Nat)} {n : Nat} {kd : mK} {I : mI} {J : mJ} {P : mP} (hC : CR o b s f l n kd I J P t T fp rr H M un cs tx e im wk) (hz : okZ t T H M cs e) (hh : h < H) (hx : gdN H M un cs e = false ∨ (!decide (x < 0) && decide (x < nI (fsN H M un cs e).length)) = false) : Ct yX9_number cX9_number 3 (some .int) 9 1 6 [.ref o, .int x, .int (nI h)] n kd I J P (pK o n kd I J P (.inr "java/util/NoSuchElementException") (CX o t T fp rr H M un cs tx e im wk)) := by
  have hC0 := hC
  have hz0 := hz
  obtain ⟨hX, hsc, hT, hSt, hLf, hIm, hWk, hQc, hPc⟩ := hC
  obtain ⟨okt, oks, okl⟩ := hz
  have hS := hX.S
  have hL := hX.L
  have hat := hX.at
  have hH8 : H ≤ 8 := oks.2.1
  have hM20 : 2 ≤ M ∧ M ≤ 20 := oks.1
  have hH : I b 0 = nI H := hSt.1.1
  have hMo : I b 1 = nI M := hSt.2.1
  obtain ⟨⟨x0, x1, x2⟩, -, ⟨-, -, hLk⟩, ⟨hQ, hA, hG, hW, hRd, hD, hPg⟩, ⟨p0, p3, p8, p10, p12, p13, p14, p15, p16, p17⟩, ⟨p4, p5, p6, p7⟩, -, -, -⟩ := id hX
  refine ct_of 0 (by decide +kernel) (Nat.le_of_ble_eq_true rfl) rfl ?_
  by_cases c : x < 0
  · skip
    refine r_aload_n dX9_number_0 rfl ?_
    refine r_iload_n dX9_number_1 rfl ?_
    refine r_virtV (m0_House o b (nI h) x0 p4 hS.1 (by rw [hH]; exact (isH_of hh (by omega)))) lk_X9_142 mc_X9_mustBeHouse dX9_number_2 x0 (by decide) rfl rfl (Nat.le_of_ble_eq_true rfl) ?_
    refine r_aload_n dX9_number_5 rfl ?_
    refine r_virt (kc2 := 1) (ks2 := 6) (k_search o b s f l hC0 hz0) lk_X9_183 mc_X9_search dX9_number_6 x0 (by decide) rfl rfl (Nat.le_of_ble_eq_true rfl) (by decide) (by decide) (fun _ _ _ _ _ _ h => nomatch h.1) ?_
    rintro v1 n1 kd1 I1 J1 P1 ⟨h00, rfl, rfl, hfr, h56, hC1, h11⟩
    cases h00
    simp only [Option.toList, List.nil_append]
    obtain ⟨f9, f10, fS, fJ⟩ := hC1.found h11 hz0
    obtain ⟨⟨y0, y1, y2⟩, -, -, ⟨hQ1, hA1, hG1, hW1, -, -, -⟩, ⟨-, -, -, r10, r12, r13, r14, -, -, -⟩, ⟨r4, r5, r6, r7⟩, -, -, -⟩ := id hC1.1
    have hH1 := hC1.H0
    have hMo1 := hC1.M0
    have hS1 := hC1.1.S
    have hL1 := hC1.1.L
    refine r_iload_n dX9_number_9 rfl ?_
    refine r_if_lt (tgt := 24) dX9_number_10 (by decide) (fun _ => ?_) (fun hz => absurd (show _ from c) hz)
    refine r_throw (cls := "java/util/NoSuchElementException") (names := ["java/lang/RuntimeException", "java/lang/Exception"]) dX9_number_24 dX9_number_27 dX9_number_28 dX9_number_31 (by decide +kernel) (by decide +kernel) cl_X9_139 xi_NoSuchElementException xa_nse xb_nse (by decide) (Nat.le_of_ble_eq_true rfl) (by omega) (by omega) ?_
    exact ⟨rfl, ⟨Nat.le_refl _, Nat.le_succ _⟩, fun q => by rw [h56]; exact q, fun a a1 a2 => ⟨rfl, (hfr a (by omega)).1, (hfr a (by omega)).2.1, (hfr a (by omega)).2.2⟩, b, s, f, l, hC1⟩
  · rcases gd2 (gdN H M un cs e) with hg | hg
    · skip
      refine r_aload_n dX9_number_0 rfl ?_
      refine r_iload_n dX9_number_1 rfl ?_
      refine r_virtV (m0_House o b (nI h) x0 p4 hS.1 (by rw [hH]; exact (isH_of hh (by omega)))) lk_X9_142 mc_X9_mustBeHouse dX9_number_2 x0 (by decide) rfl rfl (Nat.le_of_ble_eq_true rfl) ?_
      refine r_aload_n dX9_number_5 rfl ?_
      refine r_virt (kc2 := 1) (ks2 := 6) (k_search o b s f l hC0 hz0) lk_X9_183 mc_X9_search dX9_number_6 x0 (by decide) rfl rfl (Nat.le_of_ble_eq_true rfl) (by decide) (by decide) (fun _ _ _ _ _ _ h => nomatch h.1) ?_
      rintro v1 n1 kd1 I1 J1 P1 ⟨h00, rfl, rfl, hfr, h56, hC1, h11⟩
      cases h00
      simp only [Option.toList, List.nil_append]
      obtain ⟨f9, f10, fS, fJ⟩ := hC1.found h11 hz0
      obtain ⟨⟨y0, y1, y2⟩, -, -, ⟨hQ1, hA1, hG1, hW1, -, -, -⟩, ⟨-, -, -, r10, r12, r13, r14, -, -, -⟩, ⟨r4, r5, r6, r7⟩, -, -, -⟩ := id hC1.1
      have hH1 := hC1.H0
      have hMo1 := hC1.M0
      have hS1 := hC1.1.S
      have hL1 := hC1.1.L
      refine r_iload_n dX9_number_9 rfl ?_
      refine r_if_lt (tgt := 24) dX9_number_10 (by decide) (fun hz => absurd hz (show ¬ _ from c)) (fun _ => ?_)
      refine r_iload_n dX9_number_13 rfl ?_
      refine r_aload_n dX9_number_14 rfl ?_
      refine r_getR dX9_number_15 fl_X9_54 rfl (by assumption) (by assumption) ?_
      refine r_getI dX9_number_18 fl_X9_186 rfl hQ1.1 ?_
      rw [f10, if_neg (show ¬ _ from by rw [hg]; decide)]
      refine r_icmp_lt (tgt := 32) dX9_number_21 (by decide) (fun hz => absurd hz (show ¬ _ from (fun q => c (Int32.lt_trans q (by decide))))) (fun _ => ?_)
      refine r_throw (cls := "java/util/NoSuchElementException") (names := ["java/lang/RuntimeException", "java/lang/Exception"]) dX9_number_24 dX9_number_27 dX9_number_28 dX9_number_31 (by decide +kernel) (by decide +kernel) cl_X9_139 xi_NoSuchElementException xa_nse xb_nse (by decide) (Nat.le_of_ble_eq_true rfl) (by omega) (by omega) ?_
      exact ⟨rfl, ⟨Nat.le_refl _, Nat.le_succ _⟩, fun q => by rw [h56]; exact q, fun a a1 a2 => ⟨rfl, (hfr a (by omega)).1, (hfr a (by omega)).2.1, (hfr a (by omega)).2.2⟩, b, s, f, l, hC1⟩
    · have hx2 : ¬ x < nI (fsN H M un cs e).length := fun q => by
        rcases hx with r | r
        · rw [hg] at r; exact absurd r (by decide)
        · rw [decide_eq_false c, decide_eq_true q] at r; exact absurd r (by decide)
      refine r_aload_n dX9_number_0 rfl ?_
      refine r_iload_n dX9_number_1 rfl ?_
      refine r_virtV (m0_House o b (nI h) x0 p4 hS.1 (by rw [hH]; exact (isH_of hh (by omega)))) lk_X9_142 mc_X9_mustBeHouse dX9_number_2 x0 (by decide) rfl rfl (Nat.le_of_ble_eq_true rfl) ?_
      refine r_aload_n dX9_number_5 rfl ?_
      refine r_virt (kc2 := 1) (ks2 := 6) (k_search o b s f l hC0 hz0) lk_X9_183 mc_X9_search dX9_number_6 x0 (by decide) rfl rfl (Nat.le_of_ble_eq_true rfl) (by decide) (by decide) (fun _ _ _ _ _ _ h => nomatch h.1) ?_
      rintro v1 n1 kd1 I1 J1 P1 ⟨h00, rfl, rfl, hfr, h56, hC1, h11⟩
      cases h00
      simp only [Option.toList, List.nil_append]
      obtain ⟨f9, f10, fS, fJ⟩ := hC1.found h11 hz0
      obtain ⟨⟨y0, y1, y2⟩, -, -, ⟨hQ1, hA1, hG1, hW1, -, -, -⟩, ⟨-, -, -, r10, r12, r13, r14, -, -, -⟩, ⟨r4, r5, r6, r7⟩, -, -, -⟩ := id hC1.1
      have hH1 := hC1.H0
      have hMo1 := hC1.M0
      have hS1 := hC1.1.S
      have hL1 := hC1.1.L
      refine r_iload_n dX9_number_9 rfl ?_
      refine r_if_lt (tgt := 24) dX9_number_10 (by decide) (fun hz => absurd hz (show ¬ _ from c)) (fun _ => ?_)
      refine r_iload_n dX9_number_13 rfl ?_
      refine r_aload_n dX9_number_14 rfl ?_
      refine r_getR dX9_number_15 fl_X9_54 rfl (by assumption) (by assumption) ?_
      refine r_getI dX9_number_18 fl_X9_186 rfl hQ1.1 ?_
      rw [f10, if_pos hg]
      refine r_icmp_lt (tgt := 32) dX9_number_21 (by decide) (fun hz => absurd hz (show ¬ _ from (fun q => hx2 q))) (fun _ => ?_)
      refine r_throw (cls := "java/util/NoSuchElementException") (names := ["java/lang/RuntimeException", "java/lang/Exception"]) dX9_number_24 dX9_number_27 dX9_number_28 dX9_number_31 (by decide +kernel) (by decide +kernel) cl_X9_139 xi_NoSuchElementException xa_nse xb_nse (by decide) (Nat.le_of_ble_eq_true rfl) (by omega) (by omega) ?_
      exact ⟨rfl, ⟨Nat.le_refl _, Nat.le_succ _⟩, fun q => by rw [h56]; exact q, fun a a1 a2 => ⟨rfl, (hfr a (by omega)).1, (hfr a (by omega)).2.1, (hfr a (by omega)).2.2⟩, b, s, f, l, hC1⟩

set_option maxHeartbeats 4000000 in
set_option maxRecDepth 100000 in
theorem q_seeksAll (m : Nat) {t : Nat} {T : Nat → Nat} {fp : Int32} {rr : Nat → Int32} {H M : Nat} {un : Bool} {cs : Nat → List Nat} {tx : Nat → List Int32} {e : Lf} {im : Option Lf} {wk : Option (List Nat)} {n : Nat} {kd : mK} {I : mI} {J : mJ} {P : mP} (hC : RR m kd I P t T fp rr H M un cs tx e im wk) (hz : okZ t T H M cs e) : Ct yX10_seeksAll cX10_seeksAll 1 (some .boolean) 6 0 0 [.ref m] n kd I J P (fun z n' kd' I' J' P' => z = .inl (some (.int (bz (gdN H M un cs e)))) ∧ n' = n ∧ kd' = kd ∧ J' = J ∧ P' = P ∧ rFr m I I' ∧ (gdN H M un cs e = true → I' m 52 = nI (fsN H M un cs e).length ∧ I' m 53 = nI (zN H M un cs e).1 ∧ ∀ i h, i < (fsN H M un cs e).length → h < H → I' (m + 27) (8 * i + h) = nI (nmF (fsN H M un cs e) i h))) := by
  obtain ⟨hM, hT, hSt, hLf, hIm, hWk⟩ := hC
  obtain ⟨okt, oks, okl⟩ := hz
  have hH8 : H ≤ 8 := oks.2.1
  have hM20 : 2 ≤ M ∧ M ≤ 20 := oks.1
  have hH : I m 1 = nI H := hSt.1.1
  have hMo : I m 2 = nI M := hSt.1.2.1
  refine (c_X10_seeksAll m H M e.2.2.2.2.length (lkO cs H) cs un (I (m + 24)) (I (m + 1)) (I (m + 2)) (fun k => !(cs k).isEmpty) (zN H M un cs e) (z_rf hM hSt hLf oks okl) hH8 hM20.2 (fun k hk hb => by rw [sp_r hH8 hSt hLf] at hb; exact (sp_bit (by omega) hb).2) (by rw [sp_r hH8 hSt hLf, zT_r hLf]; exact zR_eq hH8 hM20.2)).mono ?_
  rintro z n' kd' I' J' P' ⟨h0, g1, g2, g3, g4, hfr, g5, g6, g7⟩
  refine ⟨h0, g1, g2, g3, g4, hfr, fun hg => ?_⟩
  have hl := gd_len hg
  have hc : cutF (zN H M un cs e).2.1 = fsN H M un cs e := by unfold cutF; rw [if_pos (show (zN H M un cs e).2.1.length ≤ 1000 from hl)]; rfl
  rw [hc] at g5 g7
  exact ⟨g5, g6, fun i h hi hh => by rw [g7]; exact NR_at hH8 _ i h hi hh⟩

set_option maxHeartbeats 4000000 in
set_option maxRecDepth 100000 in
theorem q_numberings (m : Nat) {t : Nat} {T : Nat → Nat} {fp : Int32} {rr : Nat → Int32} {H M : Nat} {un : Bool} {cs : Nat → List Nat} {tx : Nat → List Int32} {e : Lf} {im : Option Lf} {wk : Option (List Nat)} {n : Nat} {kd : mK} {I : mI} {J : mJ} {P : mP} (hC : RR m kd I P t T fp rr H M un cs tx e im wk) (hz : okZ t T H M cs e) : Ct yX10_numberings cX10_numberings 1 (some .int) 10 0 0 [.ref m] n kd I J P (pQ m n kd I J P (some (.int (ansI (gdN H M un cs e) (nI (fsN H M un cs e).length)))) 0 (RX m t T fp rr H M un cs tx e im wk)) := by
  refine ct_of 0 (by decide +kernel) (Nat.le_of_ble_eq_true rfl) rfl ?_
  refine r_aload_n dX10_numberings_0 rfl ?_
  refine r_iconst (v := nI 0) dX10_numberings_1 (by decide) ?_
  refine r_putI dX10_numberings_2 fl_X10_193 rfl rfl (kM_0 hC.1) ?_
  refine q_th hC (fun I hC h0 => ?_)
  have hC0 := hC
  have hz0 := hz
  obtain ⟨hM, hT, hSt, hLf, hIm, hWk⟩ := hC
  obtain ⟨okt, oks, okl⟩ := hz
  have hH8 : H ≤ 8 := oks.2.1
  have hM20 : 2 ≤ M ∧ M ≤ 20 := oks.1
  have hH : I m 1 = nI H := hSt.1.1
  have hMo : I m 2 = nI M := hSt.1.2.1
  rcases gd2 (gdN H M un cs e) with hg | hg
  · rw [ans_f hg]
    refine r_aload_n dX10_numberings_5 rfl ?_
    refine r_virt (kc2 := 0) (ks2 := 0) (q_seeksAll m hC0 hz0) lk_X10_436 mc_X10_seeksAll dX10_numberings_6 (kM_0 hM) (by decide) rfl rfl (Nat.le_of_ble_eq_true rfl) (by decide) (by decide) (fun _ _ _ _ _ _ h => nomatch h.1) ?_
    rintro v1 n1 kd1 I1 J1 P1 ⟨h00, rfl, rfl, rfl, rfl, hfr, hfd⟩
    cases h00
    simp only [Option.toList, List.nil_append, List.cons_append]
    have hC1 := RR.rf hfr hC0
    have h01 : I1 m 0 = 0 := by rw [hfr.2 0 (by decide) (by decide)]; exact h0
    have hH1 := hC1.2.2.1.1.1
    have hMo1 := hC1.2.2.1.1.2.1
    rw [hg]
    refine r_if_eq (tgt := 19) dX10_numberings_9 (by decide) (fun _ => ?_) (fun hz => absurd (show _ from rfl) hz)
    refine r_bipush (v := (-2)) dX10_numberings_19 (by decide) ?_
    refine r_iret rfl dX10_numberings_21 ?_
    exact ⟨rfl, rfl, rfl, rfl, fun a ha => ⟨hfr.1 a (by omega) (by omega) (by omega) (by omega), rfl⟩, h01, hC1⟩
  · rw [ans_t hg]
    have hl : (fsN H M un cs e).length ≤ 1000 := gd_len hg
    refine r_aload_n dX10_numberings_5 rfl ?_
    refine r_virt (kc2 := 0) (ks2 := 0) (q_seeksAll m hC0 hz0) lk_X10_436 mc_X10_seeksAll dX10_numberings_6 (kM_0 hM) (by decide) rfl rfl (Nat.le_of_ble_eq_true rfl) (by decide) (by decide) (fun _ _ _ _ _ _ h => nomatch h.1) ?_
    rintro v1 n1 kd1 I1 J1 P1 ⟨h00, rfl, rfl, rfl, rfl, hfr, hfd⟩
    cases h00
    simp only [Option.toList, List.nil_append, List.cons_append]
    have hC1 := RR.rf hfr hC0
    have h01 : I1 m 0 = 0 := by rw [hfr.2 0 (by decide) (by decide)]; exact h0
    have hH1 := hC1.2.2.1.1.1
    have hMo1 := hC1.2.2.1.1.2.1
    rw [hg]
    refine r_if_eq (tgt := 19) dX10_numberings_9 (by decide) (fun hz => absurd hz (show ¬ _ from (by decide))) (fun _ => ?_)
    refine r_aload_n dX10_numberings_12 rfl ?_
    refine r_getI dX10_numberings_13 fl_X10_413 rfl (kM_0 hM) ?_
    rw [(hfd hg).1]
    refine r_goto (tgt := 21) dX10_numberings_16 (by decide) ?_
    refine r_iret rfl dX10_numberings_21 ?_
    exact ⟨rfl, rfl, rfl, rfl, fun a ha => ⟨hfr.1 a (by omega) (by omega) (by omega) (by omega), rfl⟩, h01, hC1⟩

set_option maxHeartbeats 4000000 in
set_option maxRecDepth 100000 in
theorem q_tries (m : Nat) {t : Nat} {T : Nat → Nat} {fp : Int32} {rr : Nat → Int32} {H M : Nat} {un : Bool} {cs : Nat → List Nat} {tx : Nat → List Int32} {e : Lf} {im : Option Lf} {wk : Option (List Nat)} {n : Nat} {kd : mK} {I : mI} {J : mJ} {P : mP} (hC : RR m kd I P t T fp rr H M un cs tx e im wk) (hz : okZ t T H M cs e) : Ct yX10_tries cX10_tries 1 (some .int) 10 0 0 [.ref m] n kd I J P (pQ m n kd I J P (some (.int (ansI (gdN H M un cs e) (nI (zN H M un cs e).1)))) 0 (RX m t T fp rr H M un cs tx e im wk)) := by
  refine ct_of 0 (by decide +kernel) (Nat.le_of_ble_eq_true rfl) rfl ?_
  refine r_aload_n dX10_tries_0 rfl ?_
  refine r_iconst (v := nI 0) dX10_tries_1 (by decide) ?_
  refine r_putI dX10_tries_2 fl_X10_193 rfl rfl (kM_0 hC.1) ?_
  refine q_th hC (fun I hC h0 => ?_)
  have hC0 := hC
  have hz0 := hz
  obtain ⟨hM, hT, hSt, hLf, hIm, hWk⟩ := hC
  obtain ⟨okt, oks, okl⟩ := hz
  have hH8 : H ≤ 8 := oks.2.1
  have hM20 : 2 ≤ M ∧ M ≤ 20 := oks.1
  have hH : I m 1 = nI H := hSt.1.1
  have hMo : I m 2 = nI M := hSt.1.2.1
  rcases gd2 (gdN H M un cs e) with hg | hg
  · rw [ans_f hg]
    refine r_aload_n dX10_tries_5 rfl ?_
    refine r_virt (kc2 := 0) (ks2 := 0) (q_seeksAll m hC0 hz0) lk_X10_436 mc_X10_seeksAll dX10_tries_6 (kM_0 hM) (by decide) rfl rfl (Nat.le_of_ble_eq_true rfl) (by decide) (by decide) (fun _ _ _ _ _ _ h => nomatch h.1) ?_
    rintro v1 n1 kd1 I1 J1 P1 ⟨h00, rfl, rfl, rfl, rfl, hfr, hfd⟩
    cases h00
    simp only [Option.toList, List.nil_append, List.cons_append]
    have hC1 := RR.rf hfr hC0
    have h01 : I1 m 0 = 0 := by rw [hfr.2 0 (by decide) (by decide)]; exact h0
    have hH1 := hC1.2.2.1.1.1
    have hMo1 := hC1.2.2.1.1.2.1
    rw [hg]
    refine r_if_eq (tgt := 19) dX10_tries_9 (by decide) (fun _ => ?_) (fun hz => absurd (show _ from rfl) hz)
    refine r_bipush (v := (-2)) dX10_tries_19 (by decide) ?_
    refine r_iret rfl dX10_tries_21 ?_
    exact ⟨rfl, rfl, rfl, rfl, fun a ha => ⟨hfr.1 a (by omega) (by omega) (by omega) (by omega), rfl⟩, h01, hC1⟩
  · rw [ans_t hg]
    have hl : (fsN H M un cs e).length ≤ 1000 := gd_len hg
    refine r_aload_n dX10_tries_5 rfl ?_
    refine r_virt (kc2 := 0) (ks2 := 0) (q_seeksAll m hC0 hz0) lk_X10_436 mc_X10_seeksAll dX10_tries_6 (kM_0 hM) (by decide) rfl rfl (Nat.le_of_ble_eq_true rfl) (by decide) (by decide) (fun _ _ _ _ _ _ h => nomatch h.1) ?_
    rintro v1 n1 kd1 I1 J1 P1 ⟨h00, rfl, rfl, rfl, rfl, hfr, hfd⟩
    cases h00
    simp only [Option.toList, List.nil_append, List.cons_append]
    have hC1 := RR.rf hfr hC0
    have h01 : I1 m 0 = 0 := by rw [hfr.2 0 (by decide) (by decide)]; exact h0
    have hH1 := hC1.2.2.1.1.1
    have hMo1 := hC1.2.2.1.1.2.1
    rw [hg]
    refine r_if_eq (tgt := 19) dX10_tries_9 (by decide) (fun hz => absurd hz (show ¬ _ from (by decide))) (fun _ => ?_)
    refine r_aload_n dX10_tries_12 rfl ?_
    refine r_getI dX10_tries_13 fl_X10_416 rfl (kM_0 hM) ?_
    rw [(hfd hg).2.1]
    refine r_goto (tgt := 21) dX10_tries_16 (by decide) ?_
    refine r_iret rfl dX10_tries_21 ?_
    exact ⟨rfl, rfl, rfl, rfl, fun a ha => ⟨hfr.1 a (by omega) (by omega) (by omega) (by omega), rfl⟩, h01, hC1⟩

set_option maxHeartbeats 4000000 in
set_option maxRecDepth 100000 in
theorem q_may (m : Nat) (h : Nat) {t : Nat} {T : Nat → Nat} {fp : Int32} {rr : Nat → Int32} {H M : Nat} {un : Bool} {cs : Nat → List Nat} {tx : Nat → List Int32} {e : Lf} {im : Option Lf} {wk : Option (List Nat)} {n : Nat} {kd : mK} {I : mI} {J : mJ} {P : mP} (hC : RR m kd I P t T fp rr H M un cs tx e im wk) (hz : okZ t T H M cs e) (hh : h < H) : Ct yX10_may cX10_may 2 (some .int) 10 0 0 [.ref m, .int (nI h)] n kd I J P (pQ m n kd I J P (some (.int (ansI (gdN H M un cs e) (nI (mayN (fsN H M un cs e) h))))) 0 (RX m t T fp rr H M un cs tx e im wk)) := by
  refine ct_of 0 (by decide +kernel) (Nat.le_of_ble_eq_true rfl) rfl ?_
  refine r_aload_n dX10_may_0 rfl ?_
  refine r_iconst (v := nI 0) dX10_may_1 (by decide) ?_
  refine r_putI dX10_may_2 fl_X10_193 rfl rfl (kM_0 hC.1) ?_
  refine q_th hC (fun I hC h0 => ?_)
  have hC0 := hC
  have hz0 := hz
  obtain ⟨hM, hT, hSt, hLf, hIm, hWk⟩ := hC
  obtain ⟨okt, oks, okl⟩ := hz
  have hH8 : H ≤ 8 := oks.2.1
  have hM20 : 2 ≤ M ∧ M ≤ 20 := oks.1
  have hH : I m 1 = nI H := hSt.1.1
  have hMo : I m 2 = nI M := hSt.1.2.1
  rcases gd2 (gdN H M un cs e) with hg | hg
  · rw [ans_f hg]
    refine r_aload_n dX10_may_5 rfl ?_
    refine r_iload_n dX10_may_6 rfl ?_
    refine r_virtE (c_X10_isHouse m (nI h) hM h0) lk_X10_373 mc_X10_isHouse dX10_may_7 (kM_0 hM) (by decide) rfl rfl (Nat.le_of_ble_eq_true rfl) ?_
    rw [show (!decide (nI h < 0) && decide (nI h < I m 1)) = true from by rw [hH]; exact (isH_of hh (by omega)), thM_ok]
    refine r_if_ne (tgt := 15) dX10_may_10 (by decide) (fun _ => ?_) (fun hz => absurd hz (show ¬ _ from (by decide)))
    refine r_aload_n dX10_may_15 rfl ?_
    refine r_virt (kc2 := 0) (ks2 := 0) (q_seeksAll m hC0 hz0) lk_X10_436 mc_X10_seeksAll dX10_may_16 (kM_0 hM) (by decide) rfl rfl (Nat.le_of_ble_eq_true rfl) (by decide) (by decide) (fun _ _ _ _ _ _ h => nomatch h.1) ?_
    rintro v1 n1 kd1 I1 J1 P1 ⟨h00, rfl, rfl, rfl, rfl, hfr, hfd⟩
    cases h00
    simp only [Option.toList, List.nil_append, List.cons_append]
    have hC1 := RR.rf hfr hC0
    have h01 : I1 m 0 = 0 := by rw [hfr.2 0 (by decide) (by decide)]; exact h0
    have hH1 := hC1.2.2.1.1.1
    have hMo1 := hC1.2.2.1.1.2.1
    rw [hg]
    refine r_if_eq (tgt := 30) dX10_may_19 (by decide) (fun _ => ?_) (fun hz => absurd (show _ from rfl) hz)
    refine r_bipush (v := (-2)) dX10_may_30 (by decide) ?_
    refine r_iret rfl dX10_may_32 ?_
    exact ⟨rfl, rfl, rfl, rfl, fun a ha => ⟨hfr.1 a (by omega) (by omega) (by omega) (by omega), rfl⟩, h01, hC1⟩
  · rw [ans_t hg]
    have hl : (fsN H M un cs e).length ≤ 1000 := gd_len hg
    refine r_aload_n dX10_may_5 rfl ?_
    refine r_iload_n dX10_may_6 rfl ?_
    refine r_virtE (c_X10_isHouse m (nI h) hM h0) lk_X10_373 mc_X10_isHouse dX10_may_7 (kM_0 hM) (by decide) rfl rfl (Nat.le_of_ble_eq_true rfl) ?_
    rw [show (!decide (nI h < 0) && decide (nI h < I m 1)) = true from by rw [hH]; exact (isH_of hh (by omega)), thM_ok]
    refine r_if_ne (tgt := 15) dX10_may_10 (by decide) (fun _ => ?_) (fun hz => absurd hz (show ¬ _ from (by decide)))
    refine r_aload_n dX10_may_15 rfl ?_
    refine r_virt (kc2 := 0) (ks2 := 0) (q_seeksAll m hC0 hz0) lk_X10_436 mc_X10_seeksAll dX10_may_16 (kM_0 hM) (by decide) rfl rfl (Nat.le_of_ble_eq_true rfl) (by decide) (by decide) (fun _ _ _ _ _ _ h => nomatch h.1) ?_
    rintro v1 n1 kd1 I1 J1 P1 ⟨h00, rfl, rfl, rfl, rfl, hfr, hfd⟩
    cases h00
    simp only [Option.toList, List.nil_append, List.cons_append]
    have hC1 := RR.rf hfr hC0
    have h01 : I1 m 0 = 0 := by rw [hfr.2 0 (by decide) (by decide)]; exact h0
    have hH1 := hC1.2.2.1.1.1
    have hMo1 := hC1.2.2.1.1.2.1
    rw [hg]
    refine r_if_eq (tgt := 30) dX10_may_19 (by decide) (fun hz => absurd hz (show ¬ _ from (by decide))) (fun _ => ?_)
    refine r_aload_n dX10_may_22 rfl ?_
    refine r_iload_n dX10_may_23 rfl ?_
    refine r_virtE (c_X10_mayOf m (h) (fsN H M un cs e).length hM (by omega) (hfd hg).1 hl) lk_X10_442 mc_X10_mayOf dX10_may_24 (kM_0 hM) (by decide) rfl rfl (Nat.le_of_ble_eq_true rfl) ?_
    rw [my_of hM20.2 hh (fsN H M un cs e) _ (zR_rng hH8 hM20.2).2 (fun i hi => (hfd hg).2.2 i _ hi hh)]
    refine r_goto (tgt := 32) dX10_may_27 (by decide) ?_
    refine r_iret rfl dX10_may_32 ?_
    exact ⟨rfl, rfl, rfl, rfl, fun a ha => ⟨hfr.1 a (by omega) (by omega) (by omega) (by omega), rfl⟩, h01, hC1⟩

theorem dX10_leftBy_0 : decode cX10_leftBy 0 = .ok (.iconst 0, 1) := by decide +kernel
theorem dX10_leftBy_1 : decode cX10_leftBy 1 = .ok (.istore_n 3, 1) := by decide +kernel
theorem dX10_leftBy_2 : decode cX10_leftBy 2 = .ok (.iconst 0, 1) := by decide +kernel
theorem dX10_leftBy_3 : decode cX10_leftBy 3 = .ok (.istore 4, 2) := by decide +kernel
theorem dX10_leftBy_5 : decode cX10_leftBy 5 = .ok (.iload 4, 2) := by decide +kernel
theorem dX10_leftBy_7 : decode cX10_leftBy 7 = .ok (.aload_n 0, 1) := by decide +kernel
theorem dX10_leftBy_8 : decode cX10_leftBy 8 = .ok (.getfield 413, 3) := by decide +kernel
theorem dX10_leftBy_11 : decode cX10_leftBy 11 = .ok (.if_icmp .ge 28, 3) := by decide +kernel
theorem dX10_leftBy_14 : decode cX10_leftBy 14 = .ok (.iload_n 3, 1) := by decide +kernel
theorem dX10_leftBy_15 : decode cX10_leftBy 15 = .ok (.aload_n 0, 1) := by decide +kernel
theorem dX10_leftBy_16 : decode cX10_leftBy 16 = .ok (.iload 4, 2) := by decide +kernel
theorem dX10_leftBy_18 : decode cX10_leftBy 18 = .ok (.iload_n 1, 1) := by decide +kernel
theorem dX10_leftBy_19 : decode cX10_leftBy 19 = .ok (.invokevirtual 439, 3) := by decide +kernel
theorem dX10_leftBy_22 : decode cX10_leftBy 22 = .ok (.iload_n 2, 1) := by decide +kernel
theorem dX10_leftBy_23 : decode cX10_leftBy 23 = .ok (.if_icmp .ne 7, 3) := by decide +kernel
theorem dX10_leftBy_26 : decode cX10_leftBy 26 = .ok (.iconst 1, 1) := by decide +kernel
theorem dX10_leftBy_27 : decode cX10_leftBy 27 = .ok (.goto 4, 3) := by decide +kernel
theorem dX10_leftBy_30 : decode cX10_leftBy 30 = .ok (.iconst 0, 1) := by decide +kernel
theorem dX10_leftBy_31 : decode cX10_leftBy 31 = .ok (.iadd, 1) := by decide +kernel
theorem dX10_leftBy_32 : decode cX10_leftBy 32 = .ok (.istore_n 3, 1) := by decide +kernel
theorem dX10_leftBy_33 : decode cX10_leftBy 33 = .ok (.iinc 4 1, 3) := by decide +kernel
theorem dX10_leftBy_36 : decode cX10_leftBy 36 = .ok (.goto (-31), 3) := by decide +kernel
theorem dX10_leftBy_39 : decode cX10_leftBy 39 = .ok (.iload_n 3, 1) := by decide +kernel
theorem dX10_leftBy_40 : decode cX10_leftBy 40 = .ok (.ireturn, 1) := by decide +kernel

def cnI (q : Nat → Nat) (v : Nat) : Nat → Nat
  | 0 => 0
  | i + 1 => cnI q v i + if q i = v then 1 else 0
theorem cnI_le (q : Nat → Nat) (v : Nat) : ∀ i, cnI q v i ≤ i
  | 0 => Nat.le_refl _
  | i + 1 => by
    show cnI q v i + _ ≤ i + 1
    have := cnI_le q v i
    split <;> omega
theorem cn_of {h v : Nat} : ∀ (fs : List (Nat → Nat)) (q : Nat → Nat), (∀ i, i < fs.length → q i = nmF fs i h) → cnI q v fs.length = cntN fs h v
  | [], _, _ => rfl
  | N :: fs, q, hq => by
    show cnI q v fs.length + (if q fs.length = v then 1 else 0) = cntN fs h v + if N h = v then 1 else 0
    rw [cn_of fs q (fun i hi => by rw [hq i (Nat.lt_succ_of_lt hi), nmF_lt hi]), hq fs.length (Nat.lt_succ_self _), nmF_eq]
set_option maxHeartbeats 4000000 in
set_option maxRecDepth 100000 in
theorem w_X10_leftBy (m h v F : Nat) (q : Nat → Nat) {n : Nat} {kd : mK} {I : mI} {J : mJ} {P : mP} (hM : kM kd P m) (hh : h < 8) (hv : v < 2 ^ 31) (hF : I m 52 = nI F) (hF1 : F ≤ 1000) (hq : ∀ i, i < F → I (m + 27) (8 * i + h) = nI (q i) ∧ q i < 2 ^ 31) : ∀ (k i : Nat), i + k = F → Ru yX10_leftBy.cls cX10_leftBy 5 (some .int) yX10_leftBy.name 2 (am_is (some (.int (nI (cnI q v F)))) n kd I J P) 0 0 5 [some (.ref m), some (.int (nI h)), some (.int (nI v)), some (.int (nI (cnI q v i))), some (.int (nI i))] [] n kd I J P := by
  intro k
  induction k with
  | zero =>
    intro i hi
    have hi : i = F := by omega
    rw [hi]
    refine r_iload dX10_leftBy_5 rfl ?_
    refine r_aload_n dX10_leftBy_7 rfl ?_
    refine r_getI dX10_leftBy_8 fl_X10_413 rfl (kM_0 hM) ?_
    rw [hF]
    refine r_icmp_ge (tgt := 39) dX10_leftBy_11 (by decide) (fun _ => ?_) (fun hz => absurd (show _ from (by rw [nI_leI (by omega) (by omega)]; omega)) hz)
    refine r_iload_n dX10_leftBy_39 rfl ?_
    refine r_iret rfl dX10_leftBy_40 ?_
    exact am_is.mk
  | succ k ih =>
    intro i hi
    have hcl := cnI_le q v i
    by_cases c : q i = v
    · skip
      refine r_iload dX10_leftBy_5 rfl ?_
      refine r_aload_n dX10_leftBy_7 rfl ?_
      refine r_getI dX10_leftBy_8 fl_X10_413 rfl (kM_0 hM) ?_
      rw [hF]
      refine r_icmp_ge (tgt := 39) dX10_leftBy_11 (by decide) (fun hz => absurd hz (show ¬ _ from (by rw [nI_leI (by omega) (by omega)]; omega))) (fun _ => ?_)
      refine r_iload_n dX10_leftBy_14 rfl ?_
      refine r_aload_n dX10_leftBy_15 rfl ?_
      refine r_iload dX10_leftBy_16 rfl ?_
      refine r_iload_n dX10_leftBy_18 rfl ?_
      refine r_virtE (c_X10_at m i h hM (by omega) hh) lk_X10_439 mc_X10_at dX10_leftBy_19 (kM_0 hM) (by decide) rfl rfl (Nat.le_of_ble_eq_true rfl) ?_
      rw [(hq i (by omega)).1]
      refine r_iload_n dX10_leftBy_22 rfl ?_
      refine r_icmp_ne (tgt := 30) dX10_leftBy_23 (by decide) (fun hz => absurd (show _ from (by rw [c])) hz) (fun _ => ?_)
      refine r_iconst (v := nI 1) dX10_leftBy_26 (by decide) ?_
      refine r_goto (tgt := 31) dX10_leftBy_27 (by decide) ?_
      refine r_iadd dX10_leftBy_31 ?_
      rw [nI_add]
      refine r_istore_n dX10_leftBy_32 (by decide) ?_
      refine r_iinc (v := nI (i + 1)) dX10_leftBy_33 rfl (nI_inc i) ?_
      refine r_goto (tgt := 5) dX10_leftBy_36 (by decide) ?_
      have hi2 := ih (i + 1) (by omega)
      rw [show cnI q v (i + 1) = cnI q v i + 1 from by show cnI q v i + (if q i = v then 1 else 0) = _; rw [if_pos c]] at hi2
      exact hi2
    · skip
      refine r_iload dX10_leftBy_5 rfl ?_
      refine r_aload_n dX10_leftBy_7 rfl ?_
      refine r_getI dX10_leftBy_8 fl_X10_413 rfl (kM_0 hM) ?_
      rw [hF]
      refine r_icmp_ge (tgt := 39) dX10_leftBy_11 (by decide) (fun hz => absurd hz (show ¬ _ from (by rw [nI_leI (by omega) (by omega)]; omega))) (fun _ => ?_)
      refine r_iload_n dX10_leftBy_14 rfl ?_
      refine r_aload_n dX10_leftBy_15 rfl ?_
      refine r_iload dX10_leftBy_16 rfl ?_
      refine r_iload_n dX10_leftBy_18 rfl ?_
      refine r_virtE (c_X10_at m i h hM (by omega) hh) lk_X10_439 mc_X10_at dX10_leftBy_19 (kM_0 hM) (by decide) rfl rfl (Nat.le_of_ble_eq_true rfl) ?_
      rw [(hq i (by omega)).1]
      refine r_iload_n dX10_leftBy_22 rfl ?_
      refine r_icmp_ne (tgt := 30) dX10_leftBy_23 (by decide) (fun _ => ?_) (fun hz => absurd hz (show ¬ _ from (by rw [nI_eq (hq i (by omega)).2 hv]; exact c)))
      refine r_iconst (v := nI 0) dX10_leftBy_30 (by decide) ?_
      refine r_iadd dX10_leftBy_31 ?_
      rw [nI_add]
      refine r_istore_n dX10_leftBy_32 (by decide) ?_
      refine r_iinc (v := nI (i + 1)) dX10_leftBy_33 rfl (nI_inc i) ?_
      refine r_goto (tgt := 5) dX10_leftBy_36 (by decide) ?_
      have hi2 := ih (i + 1) (by omega)
      rw [show cnI q v (i + 1) = cnI q v i + 0 from by show cnI q v i + (if q i = v then 1 else 0) = _; rw [if_neg c]] at hi2
      exact hi2

set_option maxHeartbeats 4000000 in
set_option maxRecDepth 100000 in
theorem c_X10_leftBy (m h v F : Nat) (q : Nat → Nat) {n : Nat} {kd : mK} {I : mI} {J : mJ} {P : mP} (hM : kM kd P m) (hh : h < 8) (hv : v < 2 ^ 31) (hF : I m 52 = nI F) (hF1 : F ≤ 1000) (hq : ∀ i, i < F → I (m + 27) (8 * i + h) = nI (q i) ∧ q i < 2 ^ 31) : Ct yX10_leftBy cX10_leftBy 5 (some .int) 2 0 0 [.ref m, .int (nI h), .int (nI v)] n kd I J P (am_is (some (.int (nI (cnI q v F)))) n kd I J P) := by
  refine ct_of 2 (by decide +kernel) (Nat.le_of_ble_eq_true rfl) rfl ?_
  refine r_iconst (v := nI 0) dX10_leftBy_0 (by decide) ?_
  refine r_istore_n dX10_leftBy_1 (by decide) ?_
  refine r_iconst (v := nI 0) dX10_leftBy_2 (by decide) ?_
  refine r_istore dX10_leftBy_3 (by decide) ?_
  exact w_X10_leftBy m h v F q hM hh hv hF hF1 hq F 0 (by omega)

set_option maxHeartbeats 4000000 in
set_option maxRecDepth 100000 in
theorem q_left (m : Nat) (h v : Nat) {t : Nat} {T : Nat → Nat} {fp : Int32} {rr : Nat → Int32} {H M : Nat} {un : Bool} {cs : Nat → List Nat} {tx : Nat → List Int32} {e : Lf} {im : Option Lf} {wk : Option (List Nat)} {n : Nat} {kd : mK} {I : mI} {J : mJ} {P : mP} (hC : RR m kd I P t T fp rr H M un cs tx e im wk) (hz : okZ t T H M cs e) (hh : h < H) (hv1 : 1 ≤ v) (hv : v ≤ M) : Ct yX10_left cX10_left 3 (some .int) 10 0 0 [.ref m, .int (nI h), .int (nI v)] n kd I J P (pQ m n kd I J P (some (.int (ansI (gdN H M un cs e) (nI (cntN (fsN H M un cs e) h v))))) 0 (RX m t T fp rr H M un cs tx e im wk)) := by
  refine ct_of 0 (by decide +kernel) (Nat.le_of_ble_eq_true rfl) rfl ?_
  refine r_aload_n dX10_left_0 rfl ?_
  refine r_iconst (v := nI 0) dX10_left_1 (by decide) ?_
  refine r_putI dX10_left_2 fl_X10_193 rfl rfl (kM_0 hC.1) ?_
  refine q_th hC (fun I hC h0 => ?_)
  have hC0 := hC
  have hz0 := hz
  obtain ⟨hM, hT, hSt, hLf, hIm, hWk⟩ := hC
  obtain ⟨okt, oks, okl⟩ := hz
  have hH8 : H ≤ 8 := oks.2.1
  have hM20 : 2 ≤ M ∧ M ≤ 20 := oks.1
  have hH : I m 1 = nI H := hSt.1.1
  have hMo : I m 2 = nI M := hSt.1.2.1
  rcases gd2 (gdN H M un cs e) with hg | hg
  · rw [ans_f hg]
    refine r_aload_n dX10_left_5 rfl ?_
    refine r_iload_n dX10_left_6 rfl ?_
    refine r_virtE (c_X10_isHouse m (nI h) hM h0) lk_X10_373 mc_X10_isHouse dX10_left_7 (kM_0 hM) (by decide) rfl rfl (Nat.le_of_ble_eq_true rfl) ?_
    rw [show (!decide (nI h < 0) && decide (nI h < I m 1)) = true from by rw [hH]; exact (isH_of hh (by omega)), thM_ok]
    refine r_if_eq (tgt := 30) dX10_left_10 (by decide) (fun hz => absurd hz (show ¬ _ from (by decide))) (fun _ => ?_)
    refine r_aload_n dX10_left_13 rfl ?_
    refine r_iload_n dX10_left_14 rfl ?_
    refine r_iconst (v := nI 1) dX10_left_15 (by decide) ?_
    refine r_aload_n dX10_left_16 rfl ?_
    refine r_getI dX10_left_17 fl_X10_7 rfl (kM_0 hM) ?_
    rw [hMo]
    refine r_statE (c_X10_within (nI v) (nI 1) (nI M)) lk_X10_369 mc_X10_within dX10_left_20 (by decide) rfl rfl (Nat.le_of_ble_eq_true rfl) ?_
    rw [show (!decide (nI v < nI 1) && !decide (nI M < nI v)) = true from wi_of hv1 hv (by omega)]
    refine r_iconst (v := nI 2) dX10_left_23 (by decide) ?_
    refine r_virtE (c_X10_right m true (nI 2) hM h0 (by decide)) lk_X10_343 mc_X10_right dX10_left_24 (kM_0 hM) (by decide) rfl rfl (Nat.le_of_ble_eq_true rfl) ?_
    rw [thM_ok]
    refine r_if_ne (tgt := 32) dX10_left_27 (by decide) (fun _ => ?_) (fun hz => absurd hz (show ¬ _ from (by decide)))
    refine r_aload_n dX10_left_32 rfl ?_
    refine r_virt (kc2 := 0) (ks2 := 0) (q_seeksAll m hC0 hz0) lk_X10_436 mc_X10_seeksAll dX10_left_33 (kM_0 hM) (by decide) rfl rfl (Nat.le_of_ble_eq_true rfl) (by decide) (by decide) (fun _ _ _ _ _ _ h => nomatch h.1) ?_
    rintro v1 n1 kd1 I1 J1 P1 ⟨h00, rfl, rfl, rfl, rfl, hfr, hfd⟩
    cases h00
    simp only [Option.toList, List.nil_append, List.cons_append]
    have hC1 := RR.rf hfr hC0
    have h01 : I1 m 0 = 0 := by rw [hfr.2 0 (by decide) (by decide)]; exact h0
    have hH1 := hC1.2.2.1.1.1
    have hMo1 := hC1.2.2.1.1.2.1
    rw [hg]
    refine r_if_eq (tgt := 48) dX10_left_36 (by decide) (fun _ => ?_) (fun hz => absurd (show _ from rfl) hz)
    refine r_bipush (v := (-2)) dX10_left_48 (by decide) ?_
    refine r_iret rfl dX10_left_50 ?_
    exact ⟨rfl, rfl, rfl, rfl, fun a ha => ⟨hfr.1 a (by omega) (by omega) (by omega) (by omega), rfl⟩, h01, hC1⟩
  · rw [ans_t hg]
    have hl : (fsN H M un cs e).length ≤ 1000 := gd_len hg
    refine r_aload_n dX10_left_5 rfl ?_
    refine r_iload_n dX10_left_6 rfl ?_
    refine r_virtE (c_X10_isHouse m (nI h) hM h0) lk_X10_373 mc_X10_isHouse dX10_left_7 (kM_0 hM) (by decide) rfl rfl (Nat.le_of_ble_eq_true rfl) ?_
    rw [show (!decide (nI h < 0) && decide (nI h < I m 1)) = true from by rw [hH]; exact (isH_of hh (by omega)), thM_ok]
    refine r_if_eq (tgt := 30) dX10_left_10 (by decide) (fun hz => absurd hz (show ¬ _ from (by decide))) (fun _ => ?_)
    refine r_aload_n dX10_left_13 rfl ?_
    refine r_iload_n dX10_left_14 rfl ?_
    refine r_iconst (v := nI 1) dX10_left_15 (by decide) ?_
    refine r_aload_n dX10_left_16 rfl ?_
    refine r_getI dX10_left_17 fl_X10_7 rfl (kM_0 hM) ?_
    rw [hMo]
    refine r_statE (c_X10_within (nI v) (nI 1) (nI M)) lk_X10_369 mc_X10_within dX10_left_20 (by decide) rfl rfl (Nat.le_of_ble_eq_true rfl) ?_
    rw [show (!decide (nI v < nI 1) && !decide (nI M < nI v)) = true from wi_of hv1 hv (by omega)]
    refine r_iconst (v := nI 2) dX10_left_23 (by decide) ?_
    refine r_virtE (c_X10_right m true (nI 2) hM h0 (by decide)) lk_X10_343 mc_X10_right dX10_left_24 (kM_0 hM) (by decide) rfl rfl (Nat.le_of_ble_eq_true rfl) ?_
    rw [thM_ok]
    refine r_if_ne (tgt := 32) dX10_left_27 (by decide) (fun _ => ?_) (fun hz => absurd hz (show ¬ _ from (by decide)))
    refine r_aload_n dX10_left_32 rfl ?_
    refine r_virt (kc2 := 0) (ks2 := 0) (q_seeksAll m hC0 hz0) lk_X10_436 mc_X10_seeksAll dX10_left_33 (kM_0 hM) (by decide) rfl rfl (Nat.le_of_ble_eq_true rfl) (by decide) (by decide) (fun _ _ _ _ _ _ h => nomatch h.1) ?_
    rintro v1 n1 kd1 I1 J1 P1 ⟨h00, rfl, rfl, rfl, rfl, hfr, hfd⟩
    cases h00
    simp only [Option.toList, List.nil_append, List.cons_append]
    have hC1 := RR.rf hfr hC0
    have h01 : I1 m 0 = 0 := by rw [hfr.2 0 (by decide) (by decide)]; exact h0
    have hH1 := hC1.2.2.1.1.1
    have hMo1 := hC1.2.2.1.1.2.1
    rw [hg]
    refine r_if_eq (tgt := 48) dX10_left_36 (by decide) (fun hz => absurd hz (show ¬ _ from (by decide))) (fun _ => ?_)
    refine r_aload_n dX10_left_39 rfl ?_
    refine r_iload_n dX10_left_40 rfl ?_
    refine r_iload_n dX10_left_41 rfl ?_
    refine r_virtE (c_X10_leftBy m h (v) (fsN H M un cs e).length (fun i => nmF (fsN H M un cs e) i h) hM (by omega) (by omega) (hfd hg).1 hl (fun i hi => ⟨(hfd hg).2.2 i _ hi hh, by have := (nmF_rng (fs_rng hH8 hM20.2) i h hi hh).2; omega⟩)) lk_X10_526 mc_X10_leftBy dX10_left_42 (kM_0 hM) (by decide) rfl rfl (Nat.le_of_ble_eq_true rfl) ?_
    rw [cn_of (h := h) (fsN H M un cs e) _ (fun i _ => rfl)]
    refine r_goto (tgt := 50) dX10_left_45 (by decide) ?_
    refine r_iret rfl dX10_left_50 ?_
    exact ⟨rfl, rfl, rfl, rfl, fun a ha => ⟨hfr.1 a (by omega) (by omega) (by omega) (by omega), rfl⟩, h01, hC1⟩

theorem wiN_no {y : Int32} {M : Nat} (h : (!decide (y < nI 1) && decide (y ≤ nI M)) = false) : (!decide (y < nI 1) && !decide (nI M < y)) = false := by
  rw [← h]
  congr 1
  rw [← decide_not]
  exact decide_eq_decide.mpr Int32.not_lt
set_option maxHeartbeats 4000000 in
set_option maxRecDepth 100000 in
theorem q_left_no (m : Nat) (h : Nat) (y : Int32) {t : Nat} {T : Nat → Nat} {fp : Int32} {rr : Nat → Int32} {H M : Nat} {un : Bool} {cs : Nat → List Nat} {tx : Nat → List Int32} {e : Lf} {im : Option Lf} {wk : Option (List Nat)} {n : Nat} {kd : mK} {I : mI} {J : mJ} {P : mP} (hC : RR m kd I P t T fp rr H M un cs tx e im wk) (hz : okZ t T H M cs e) (hh : h < H) (hy : (!decide (y < nI 1) && decide (y ≤ nI M)) = false) : Ct yX10_left cX10_left 3 (some .int) 10 0 0 [.ref m, .int (nI h), .int y] n kd I J P (pQ m n kd I J P (some (.int (nI 0))) 2 (RX m t T fp rr H M un cs tx e im wk)) := by
  refine ct_of 0 (by decide +kernel) (Nat.le_of_ble_eq_true rfl) rfl ?_
  refine r_aload_n dX10_left_0 rfl ?_
  refine r_iconst (v := nI 0) dX10_left_1 (by decide) ?_
  refine r_putI dX10_left_2 fl_X10_193 rfl rfl (kM_0 hC.1) ?_
  refine q_th hC (fun I hC h0 => ?_)
  have hC0 := hC
  have hz0 := hz
  obtain ⟨hM, hT, hSt, hLf, hIm, hWk⟩ := hC
  obtain ⟨okt, oks, okl⟩ := hz
  have hH8 : H ≤ 8 := oks.2.1
  have hM20 : 2 ≤ M ∧ M ≤ 20 := oks.1
  have hH : I m 1 = nI H := hSt.1.1
  have hMo : I m 2 = nI M := hSt.1.2.1
  refine r_aload_n dX10_left_5 rfl ?_
  refine r_iload_n dX10_left_6 rfl ?_
  refine r_virtE (c_X10_isHouse m (nI h) hM h0) lk_X10_373 mc_X10_isHouse dX10_left_7 (kM_0 hM) (by decide) rfl rfl (Nat.le_of_ble_eq_true rfl) ?_
  rw [show (!decide (nI h < 0) && decide (nI h < I m 1)) = true from by rw [hH]; exact (isH_of hh (by omega)), thM_ok]
  refine r_if_eq (tgt := 30) dX10_left_10 (by decide) (fun hz => absurd hz (show ¬ _ from (by decide))) (fun _ => ?_)
  refine r_aload_n dX10_left_13 rfl ?_
  refine r_iload_n dX10_left_14 rfl ?_
  refine r_iconst (v := nI 1) dX10_left_15 (by decide) ?_
  refine r_aload_n dX10_left_16 rfl ?_
  refine r_getI dX10_left_17 fl_X10_7 rfl (kM_0 hM) ?_
  rw [hMo]
  refine r_statE (c_X10_within (y) (nI 1) (nI M)) lk_X10_369 mc_X10_within dX10_left_20 (by decide) rfl rfl (Nat.le_of_ble_eq_true rfl) ?_
  rw [show (!decide (y < nI 1) && !decide (nI M < y)) = false from wiN_no hy]
  refine r_iconst (v := nI 2) dX10_left_23 (by decide) ?_
  refine r_virtE (c_X10_right m false (nI 2) hM h0 (by decide)) lk_X10_343 mc_X10_right dX10_left_24 (kM_0 hM) (by decide) rfl rfl (Nat.le_of_ble_eq_true rfl) ?_
  refine r_if_ne (tgt := 32) dX10_left_27 (by decide) (fun hz => absurd (show _ from rfl) hz) (fun _ => ?_)
  refine r_iconst (v := nI 0) dX10_left_30 (by decide) ?_
  refine r_iret rfl dX10_left_31 ?_
  exact pQ.th hC0 am_is.mk

set_option maxHeartbeats 4000000 in
set_option maxRecDepth 100000 in
theorem q_number (m : Nat) (i h : Nat) {t : Nat} {T : Nat → Nat} {fp : Int32} {rr : Nat → Int32} {H M : Nat} {un : Bool} {cs : Nat → List Nat} {tx : Nat → List Int32} {e : Lf} {im : Option Lf} {wk : Option (List Nat)} {n : Nat} {kd : mK} {I : mI} {J : mJ} {P : mP} (hC : RR m kd I P t T fp rr H M un cs tx e im wk) (hz : okZ t T H M cs e) (hh : h < H) (hg : gdN H M un cs e = true) (hi : i < (fsN H M un cs e).length) : Ct yX10_number cX10_number 4 (some .int) 10 0 0 [.ref m, .int (nI i), .int (nI h)] n kd I J P (pQ m n kd I J P (some (.int (nI (nmF (fsN H M un cs e) i h)))) 0 (RX m t T fp rr H M un cs tx e im wk)) := by
  refine ct_of 1 (by decide +kernel) (Nat.le_of_ble_eq_true rfl) rfl ?_
  refine r_aload_n dX10_number_0 rfl ?_
  refine r_iconst (v := nI 0) dX10_number_1 (by decide) ?_
  refine r_putI dX10_number_2 fl_X10_193 rfl rfl (kM_0 hC.1) ?_
  refine q_th hC (fun I hC h0 => ?_)
  have hC0 := hC
  have hz0 := hz
  obtain ⟨hM, hT, hSt, hLf, hIm, hWk⟩ := hC
  obtain ⟨okt, oks, okl⟩ := hz
  have hH8 : H ≤ 8 := oks.2.1
  have hM20 : 2 ≤ M ∧ M ≤ 20 := oks.1
  have hH : I m 1 = nI H := hSt.1.1
  have hMo : I m 2 = nI M := hSt.1.2.1
  have hl := gd_len hg
  refine r_aload_n dX10_number_5 rfl ?_
  refine r_iload_n dX10_number_6 rfl ?_
  refine r_virtE (c_X10_isHouse m (nI h) hM h0) lk_X10_373 mc_X10_isHouse dX10_number_7 (kM_0 hM) (by decide) rfl rfl (Nat.le_of_ble_eq_true rfl) ?_
  rw [show (!decide (nI h < 0) && decide (nI h < I m 1)) = true from by rw [hH]; exact (isH_of hh (by omega)), thM_ok]
  refine r_if_ne (tgt := 15) dX10_number_10 (by decide) (fun _ => ?_) (fun hz => absurd hz (show ¬ _ from (by decide)))
  refine r_aload_n dX10_number_15 rfl ?_
  refine r_virt (kc2 := 0) (ks2 := 0) (q_seeksAll m hC0 hz0) lk_X10_436 mc_X10_seeksAll dX10_number_16 (kM_0 hM) (by decide) rfl rfl (Nat.le_of_ble_eq_true rfl) (by decide) (by decide) (fun _ _ _ _ _ _ h => nomatch h.1) ?_
  rintro v1 n1 kd1 I1 J1 P1 ⟨h00, rfl, rfl, rfl, rfl, hfr, hfd⟩
  cases h00
  simp only [Option.toList, List.nil_append, List.cons_append]
  have hC1 := RR.rf hfr hC0
  have h01 : I1 m 0 = 0 := by rw [hfr.2 0 (by decide) (by decide)]; exact h0
  have hH1 := hC1.2.2.1.1.1
  have hMo1 := hC1.2.2.1.1.2.1
  rw [hg]
  refine r_istore_n dX10_number_19 (by decide) ?_
  refine r_aload_n dX10_number_20 rfl ?_
  refine r_iload_n dX10_number_21 rfl ?_
  refine r_if_eq (tgt := 41) dX10_number_22 (by decide) (fun hz => absurd hz (show ¬ _ from (by decide))) (fun _ => ?_)
  refine r_iload_n dX10_number_25 rfl ?_
  refine r_if_lt (tgt := 41) dX10_number_26 (by decide) (fun hz => absurd hz (show ¬ _ from (z_nlt (by omega)))) (fun _ => ?_)
  refine r_iload_n dX10_number_29 rfl ?_
  refine r_aload_n dX10_number_30 rfl ?_
  refine r_getI dX10_number_31 fl_X10_413 rfl (kM_0 hM) ?_
  rw [(hfd hg).1]
  refine r_icmp_ge (tgt := 41) dX10_number_34 (by decide) (fun hz => absurd hz (show ¬ _ from (by rw [nI_leI (by omega) (by omega)]; omega))) (fun _ => ?_)
  refine r_iconst (v := nI 1) dX10_number_37 (by decide) ?_
  refine r_goto (tgt := 42) dX10_number_38 (by decide) ?_
  refine r_iconst (v := nI 1) dX10_number_42 (by decide) ?_
  refine r_virtE (c_X10_right m true (nI 1) hM h01 (by decide)) lk_X10_343 mc_X10_right dX10_number_43 (kM_0 hM) (by decide) rfl rfl (Nat.le_of_ble_eq_true rfl) ?_
  rw [thM_ok]
  refine r_if_eq (tgt := 58) dX10_number_46 (by decide) (fun hz => absurd hz (show ¬ _ from (by decide))) (fun _ => ?_)
  refine r_aload_n dX10_number_49 rfl ?_
  refine r_iload_n dX10_number_50 rfl ?_
  refine r_iload_n dX10_number_51 rfl ?_
  refine r_virtE (c_X10_at m i h hM (by omega) (by omega)) lk_X10_439 mc_X10_at dX10_number_52 (kM_0 hM) (by decide) rfl rfl (Nat.le_of_ble_eq_true rfl) ?_
  rw [(hfd hg).2.2 i h hi hh]
  refine r_goto (tgt := 59) dX10_number_55 (by decide) ?_
  refine r_iret rfl dX10_number_59 ?_
  exact ⟨rfl, rfl, rfl, rfl, fun a ha => ⟨hfr.1 a (by omega) (by omega) (by omega) (by omega), rfl⟩, h01, hC1⟩

set_option maxHeartbeats 4000000 in
set_option maxRecDepth 100000 in
theorem q_number_no (m : Nat) (x : Int32) (h : Nat) {t : Nat} {T : Nat → Nat} {fp : Int32} {rr : Nat → Int32} {H M : Nat} {un : Bool} {cs : Nat → List Nat} {tx : Nat → List Int32} {e : Lf} {im : Option Lf} {wk : Option (List Nat)} {n : Nat} {kd : mK} {I : mI} {J : mJ} {P : mP} (hC : RR m kd I P t T fp rr H M un cs tx e im wk) (hz : okZ t T H M cs e) (hh : h < H) (hx : gdN H M un cs e = false ∨ (!decide (x < 0) && decide (x < nI (fsN H M un cs e).length)) = false) : Ct yX10_number cX10_number 4 (some .int) 10 0 0 [.ref m, .int x, .int (nI h)] n kd I J P (pQ m n kd I J P (some (.int (nI 0))) 1 (RX m t T fp rr H M un cs tx e im wk)) := by
  refine ct_of 1 (by decide +kernel) (Nat.le_of_ble_eq_true rfl) rfl ?_
  refine r_aload_n dX10_number_0 rfl ?_
  refine r_iconst (v := nI 0) dX10_number_1 (by decide) ?_
  refine r_putI dX10_number_2 fl_X10_193 rfl rfl (kM_0 hC.1) ?_
  refine q_th hC (fun I hC h0 => ?_)
  have hC0 := hC
  have hz0 := hz
  obtain ⟨hM, hT, hSt, hLf, hIm, hWk⟩ := hC
  obtain ⟨okt, oks, okl⟩ := hz
  have hH8 : H ≤ 8 := oks.2.1
  have hM20 : 2 ≤ M ∧ M ≤ 20 := oks.1
  have hH : I m 1 = nI H := hSt.1.1
  have hMo : I m 2 = nI M := hSt.1.2.1
  rcases gd2 (gdN H M un cs e) with hg | hg
  · skip
    refine r_aload_n dX10_number_5 rfl ?_
    refine r_iload_n dX10_number_6 rfl ?_
    refine r_virtE (c_X10_isHouse m (nI h) hM h0) lk_X10_373 mc_X10_isHouse dX10_number_7 (kM_0 hM) (by decide) rfl rfl (Nat.le_of_ble_eq_true rfl) ?_
    rw [show (!decide (nI h < 0) && decide (nI h < I m 1)) = true from by rw [hH]; exact (isH_of hh (by omega)), thM_ok]
    refine r_if_ne (tgt := 15) dX10_number_10 (by decide) (fun _ => ?_) (fun hz => absurd hz (show ¬ _ from (by decide)))
    refine r_aload_n dX10_number_15 rfl ?_
    refine r_virt (kc2 := 0) (ks2 := 0) (q_seeksAll m hC0 hz0) lk_X10_436 mc_X10_seeksAll dX10_number_16 (kM_0 hM) (by decide) rfl rfl (Nat.le_of_ble_eq_true rfl) (by decide) (by decide) (fun _ _ _ _ _ _ h => nomatch h.1) ?_
    rintro v1 n1 kd1 I1 J1 P1 ⟨h00, rfl, rfl, rfl, rfl, hfr, hfd⟩
    cases h00
    simp only [Option.toList, List.nil_append, List.cons_append]
    have hC1 := RR.rf hfr hC0
    have h01 : I1 m 0 = 0 := by rw [hfr.2 0 (by decide) (by decide)]; exact h0
    have hH1 := hC1.2.2.1.1.1
    have hMo1 := hC1.2.2.1.1.2.1
    rw [hg]
    refine r_istore_n dX10_number_19 (by decide) ?_
    refine r_aload_n dX10_number_20 rfl ?_
    refine r_iload_n dX10_number_21 rfl ?_
    refine r_if_eq (tgt := 41) dX10_number_22 (by decide) (fun _ => ?_) (fun hz => absurd (show _ from rfl) hz)
    refine r_iconst (v := nI 0) dX10_number_41 (by decide) ?_
    refine r_iconst (v := nI 1) dX10_number_42 (by decide) ?_
    refine r_virtE (c_X10_right m false (nI 1) hM h01 (by decide)) lk_X10_343 mc_X10_right dX10_number_43 (kM_0 hM) (by decide) rfl rfl (Nat.le_of_ble_eq_true rfl) ?_
    refine r_if_eq (tgt := 58) dX10_number_46 (by decide) (fun _ => ?_) (fun hz => absurd (show _ from rfl) hz)
    refine r_iconst (v := nI 0) dX10_number_58 (by decide) ?_
    refine r_iret rfl dX10_number_59 ?_
    have hq := RR.th (x := nI 1) hC1
    exact ⟨rfl, rfl, rfl, rfl, fun a ha => ⟨by show va_up I1 m _ a = _; rw [am_up_n _ _ (by omega)]; exact hfr.1 a (by omega) (by omega) (by omega) (by omega), rfl⟩, by show va_up I1 m _ m 0 = _; rw [am_up_s, am_up_s], hq⟩
  · have hl := gd_len hg
    by_cases c : x < 0
    · skip
      refine r_aload_n dX10_number_5 rfl ?_
      refine r_iload_n dX10_number_6 rfl ?_
      refine r_virtE (c_X10_isHouse m (nI h) hM h0) lk_X10_373 mc_X10_isHouse dX10_number_7 (kM_0 hM) (by decide) rfl rfl (Nat.le_of_ble_eq_true rfl) ?_
      rw [show (!decide (nI h < 0) && decide (nI h < I m 1)) = true from by rw [hH]; exact (isH_of hh (by omega)), thM_ok]
      refine r_if_ne (tgt := 15) dX10_number_10 (by decide) (fun _ => ?_) (fun hz => absurd hz (show ¬ _ from (by decide)))
      refine r_aload_n dX10_number_15 rfl ?_
      refine r_virt (kc2 := 0) (ks2 := 0) (q_seeksAll m hC0 hz0) lk_X10_436 mc_X10_seeksAll dX10_number_16 (kM_0 hM) (by decide) rfl rfl (Nat.le_of_ble_eq_true rfl) (by decide) (by decide) (fun _ _ _ _ _ _ h => nomatch h.1) ?_
      rintro v1 n1 kd1 I1 J1 P1 ⟨h00, rfl, rfl, rfl, rfl, hfr, hfd⟩
      cases h00
      simp only [Option.toList, List.nil_append, List.cons_append]
      have hC1 := RR.rf hfr hC0
      have h01 : I1 m 0 = 0 := by rw [hfr.2 0 (by decide) (by decide)]; exact h0
      have hH1 := hC1.2.2.1.1.1
      have hMo1 := hC1.2.2.1.1.2.1
      rw [hg]
      refine r_istore_n dX10_number_19 (by decide) ?_
      refine r_aload_n dX10_number_20 rfl ?_
      refine r_iload_n dX10_number_21 rfl ?_
      refine r_if_eq (tgt := 41) dX10_number_22 (by decide) (fun hz => absurd hz (show ¬ _ from (by decide))) (fun _ => ?_)
      refine r_iload_n dX10_number_25 rfl ?_
      refine r_if_lt (tgt := 41) dX10_number_26 (by decide) (fun _ => ?_) (fun hz => absurd (show _ from c) hz)
      refine r_iconst (v := nI 0) dX10_number_41 (by decide) ?_
      refine r_iconst (v := nI 1) dX10_number_42 (by decide) ?_
      refine r_virtE (c_X10_right m false (nI 1) hM h01 (by decide)) lk_X10_343 mc_X10_right dX10_number_43 (kM_0 hM) (by decide) rfl rfl (Nat.le_of_ble_eq_true rfl) ?_
      refine r_if_eq (tgt := 58) dX10_number_46 (by decide) (fun _ => ?_) (fun hz => absurd (show _ from rfl) hz)
      refine r_iconst (v := nI 0) dX10_number_58 (by decide) ?_
      refine r_iret rfl dX10_number_59 ?_
      have hq := RR.th (x := nI 1) hC1
      exact ⟨rfl, rfl, rfl, rfl, fun a ha => ⟨by show va_up I1 m _ a = _; rw [am_up_n _ _ (by omega)]; exact hfr.1 a (by omega) (by omega) (by omega) (by omega), rfl⟩, by show va_up I1 m _ m 0 = _; rw [am_up_s, am_up_s], hq⟩
    · have hx2 : ¬ x < nI (fsN H M un cs e).length := fun q => by
        rcases hx with r | r
        · rw [hg] at r; exact absurd r (by decide)
        · rw [decide_eq_false c, decide_eq_true q] at r; exact absurd r (by decide)
      refine r_aload_n dX10_number_5 rfl ?_
      refine r_iload_n dX10_number_6 rfl ?_
      refine r_virtE (c_X10_isHouse m (nI h) hM h0) lk_X10_373 mc_X10_isHouse dX10_number_7 (kM_0 hM) (by decide) rfl rfl (Nat.le_of_ble_eq_true rfl) ?_
      rw [show (!decide (nI h < 0) && decide (nI h < I m 1)) = true from by rw [hH]; exact (isH_of hh (by omega)), thM_ok]
      refine r_if_ne (tgt := 15) dX10_number_10 (by decide) (fun _ => ?_) (fun hz => absurd hz (show ¬ _ from (by decide)))
      refine r_aload_n dX10_number_15 rfl ?_
      refine r_virt (kc2 := 0) (ks2 := 0) (q_seeksAll m hC0 hz0) lk_X10_436 mc_X10_seeksAll dX10_number_16 (kM_0 hM) (by decide) rfl rfl (Nat.le_of_ble_eq_true rfl) (by decide) (by decide) (fun _ _ _ _ _ _ h => nomatch h.1) ?_
      rintro v1 n1 kd1 I1 J1 P1 ⟨h00, rfl, rfl, rfl, rfl, hfr, hfd⟩
      cases h00
      simp only [Option.toList, List.nil_append, List.cons_append]
      have hC1 := RR.rf hfr hC0
      have h01 : I1 m 0 = 0 := by rw [hfr.2 0 (by decide) (by decide)]; exact h0
      have hH1 := hC1.2.2.1.1.1
      have hMo1 := hC1.2.2.1.1.2.1
      rw [hg]
      refine r_istore_n dX10_number_19 (by decide) ?_
      refine r_aload_n dX10_number_20 rfl ?_
      refine r_iload_n dX10_number_21 rfl ?_
      refine r_if_eq (tgt := 41) dX10_number_22 (by decide) (fun hz => absurd hz (show ¬ _ from (by decide))) (fun _ => ?_)
      refine r_iload_n dX10_number_25 rfl ?_
      refine r_if_lt (tgt := 41) dX10_number_26 (by decide) (fun hz => absurd hz (show ¬ _ from c)) (fun _ => ?_)
      refine r_iload_n dX10_number_29 rfl ?_
      refine r_aload_n dX10_number_30 rfl ?_
      refine r_getI dX10_number_31 fl_X10_413 rfl (kM_0 hM) ?_
      rw [(hfd hg).1]
      refine r_icmp_ge (tgt := 41) dX10_number_34 (by decide) (fun _ => ?_) (fun hz => absurd (show _ from (Int32.not_lt.mp hx2)) hz)
      refine r_iconst (v := nI 0) dX10_number_41 (by decide) ?_
      refine r_iconst (v := nI 1) dX10_number_42 (by decide) ?_
      refine r_virtE (c_X10_right m false (nI 1) hM h01 (by decide)) lk_X10_343 mc_X10_right dX10_number_43 (kM_0 hM) (by decide) rfl rfl (Nat.le_of_ble_eq_true rfl) ?_
      refine r_if_eq (tgt := 58) dX10_number_46 (by decide) (fun _ => ?_) (fun hz => absurd (show _ from rfl) hz)
      refine r_iconst (v := nI 0) dX10_number_58 (by decide) ?_
      refine r_iret rfl dX10_number_59 ?_
      have hq := RR.th (x := nI 1) hC1
      exact ⟨rfl, rfl, rfl, rfl, fun a ha => ⟨by show va_up I1 m _ a = _; rw [am_up_n _ _ (by omega)]; exact hfr.1 a (by omega) (by omega) (by omega) (by omega), rfl⟩, by show va_up I1 m _ m 0 = _; rw [am_up_s, am_up_s], hq⟩

