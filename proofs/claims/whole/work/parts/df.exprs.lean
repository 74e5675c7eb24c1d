/-! STREET: the reference's whole expression, numbers, needs -/
set_option maxHeartbeats 4000000 in
set_option maxRecDepth 100000 in
theorem c_exprR {m h : Nat} {T : RT} {a0 i : Nat} {n : Nat} {kd : mK} {I : mI} {J : mJ} {P : mP} (hM : kM kd P m) (hT : tkA T) (hh : h < 8) (h16 : I m 16 = nI 0) (h27 : I m 27 = nI h) (hgi : gIn m T.1 T.2.2.2.2.2 I) (hk : gTk m T.2.2.2.2.2 I J (tkAt T i)) (hi : i < T.2.1) (h30 : I m 30 = nI a0) (hb : a0 + 4 ≤ 2 * i) (h29 : I m 29 = nI 0) : Ct yX10_expression cX10_expression 3 none 11 0 0 [.ref m] n kd I J P (fun z n' kd' I' J' P' => z = .inl none ∧ n' = n ∧ kd' = kd ∧ P' = P ∧ eFr m I I' J J' ∧ (¬ (pExpr T h 6 i).1 = 0 → eX m T I' (pExpr T h 6 i).1 (pExpr T h 6 i).2.1) ∧ ((pExpr T h 6 i).1 = 0 → eF m h T a0 (I (m + 20)) I' J' (pExpr T h 6 i).2.1 (pExpr T h 6 i).2.2)) := by
  refine ct_of 2 (by decide +kernel) (Nat.le_of_ble_eq_true rfl) rfl ?_
  refine r_aload_n dX10_expression_0 rfl ?_
  refine r_virtE (c_good m hM) lk_X10_252 mc_X10_isGood dX10_expression_1 (kM_0 hM) (by decide) rfl rfl (Nat.le_of_ble_eq_true rfl) ?_
  rw [h16, show decide (nI 0 = 0) = true from rfl]
  refine r_if_ne (tgt := 8) dX10_expression_4 (by decide) (fun _ => ?_) (fun hz => absurd hz (show ¬ _ from (by decide)))
  refine r_aload_n dX10_expression_8 rfl ?_
  refine r_iconst (v := nI 0) dX10_expression_9 (by decide) ?_
  refine r_putI dX10_expression_10 fl_X10_278 rfl rfl (kM_0 hM) ?_
  refine r_aload_n dX10_expression_13 rfl ?_
  refine r_iconst (v := nI 0) dX10_expression_14 (by decide) ?_
  refine r_putI dX10_expression_15 fl_X10_290 rfl rfl (kM_0 hM) ?_
  rw [am_up_s, am_up_up]
  obtain ⟨I1, hI1⟩ : ∃ X : mI, X = va_up I m (va_up (va_up (I m) 31 (nI 0)) 32 (nI 0)) := ⟨_, rfl⟩
  rw [← hI1]
  have e1 : ∀ j, j ≠ 31 → j ≠ 32 → I1 m j = I m j := fun j h1 h2 => by rw [hI1, am_up_s, am_up_n _ _ h2, am_up_n _ _ h1]
  have ea1 : ∀ a, a ≠ m → I1 a = I a := fun a h1 => by rw [hI1, am_up_n _ _ h1]
  have e31 : I1 m 31 = nI 0 := by rw [hI1, am_up_s, am_up_n _ _ (by decide), am_up_s]
  have e32 : I1 m 32 = nI 0 := by rw [hI1, am_up_s, am_up_s]
  have hf1 : eFr m I I1 J J := ⟨fun a h1 _ _ _ => ea1 a h1, fun j _ _ _ h4 => e1 j (by omega) (by omega), fun _ _ => rfl, fun _ _ => rfl, kP.same (e1 _ (by decide) (by decide)) (e1 _ (by decide) (by decide))⟩
  clear hI1
  refine r_aload_n dX10_expression_18 rfl ?_
  refine r_virtV (c_deepD m 0 hM e32 (by decide)) lk_X10_299 mc_X10_deeper dX10_expression_19 (kM_0 hM) (by decide) rfl rfl (Nat.le_of_ble_eq_true rfl) ?_
  have hg2 : eG m h T a0 (I (m + 20)) 0 (dpI m 0 I1) J i [] [] (fun _ => false) := ⟨⟨(dpI_o (by decide)).trans ((e1 _ (by decide) (by decide)).trans h16), (dpI_o (by decide)).trans ((e1 _ (by decide) (by decide)).trans h27), hgi.cg ((dpI_o (by decide)).trans (e1 _ (by decide) (by decide))) ((dpI_a (by omega) (by omega)).trans (ea1 _ (by omega)))⟩, ⟨hk.cg (fun j h1 h2 => (dpI_o (by omega)).trans (e1 j (by omega) (by omega))) rfl, hi⟩, ⟨a0, ⟨(dpI_o (by decide)).trans ((e1 _ (by decide) (by decide)).trans h30), rfl, fun k hk => by rw [dpI_a (by omega) (by omega), ea1 _ (by omega)], Nat.le_refl _⟩, hb⟩, (dpI_o (by decide)).trans ((e1 _ (by decide) (by decide)).trans h29), ⟨(dpI_o (by decide)).trans e31, trivial, fun x hx => absurd hx List.not_mem_nil⟩, Nat.zero_le _, ⟨by unfold dpI; rw [am_up_n _ _ (by omega), am_up_s, am_up_s]; rfl, by decide, fun d d1 d2 => by
    have d3 : d = 1 := by have e9 : opens [] = 0 := rfl; omega
    unfold dpI
    rw [d3, am_up_s, am_up_s]
    rfl⟩⟩
  have hgr := gram_run (h := h) (i := i) (out := []) (te := fun _ => false) hT.1.1 rfl
  obtain ⟨C9, nn, hit, h34, hres⟩ : ∃ (C9 : Cf) (nn : Nat), itr (stp T h) nn (1, 0, i, [], [], fun _ => false) = C9 ∧ (C9.1 = 3 ∨ C9.1 = 4) ∧ ((¬ (pExpr T h 6 i).1 = 0 → C9.1 = 3 ∧ C9.2.1 = (pExpr T h 6 i).1 ∧ C9.2.2.1 = (pExpr T h 6 i).2.1) ∧ ((pExpr T h 6 i).1 = 0 → C9.1 = 4 ∧ C9.2.2.1 = (pExpr T h 6 i).2.1 ∧ C9.2.2.2.1 = (pExpr T h 6 i).2.2)) := by
    by_cases c : (pExpr T h 6 i).1 = 0
    · obtain ⟨hj, t2, nn, hn⟩ := hgr.2 c
      exact ⟨_, nn, hn, Or.inr rfl, fun q => absurd c q, fun _ => ⟨rfl, rfl, rfl⟩⟩
    · obtain ⟨o2, w2, t2, nn, hn⟩ := hgr.1 c
      exact ⟨_, nn, hn, Or.inl rfl, fun _ => ⟨rfl, rfl, rfl⟩, fun q => absurd q c⟩
  have hfin : ∀ (I' : mI) (J' : mJ), (C9.1 = 3 → eX m T I' C9.2.1 C9.2.2.1) ∧ (C9.1 = 4 → eF m h T a0 (I (m + 20)) I' J' C9.2.2.1 C9.2.2.2.1) → (¬ (pExpr T h 6 i).1 = 0 → eX m T I' (pExpr T h 6 i).1 (pExpr T h 6 i).2.1) ∧ ((pExpr T h 6 i).1 = 0 → eF m h T a0 (I (m + 20)) I' J' (pExpr T h 6 i).2.1 (pExpr T h 6 i).2.2) := fun I' J' hx => ⟨fun q => by
    obtain ⟨g1, g2, g3⟩ := hres.1 q
    rw [← g2, ← g3]
    exact hx.1 g1, fun q => by
    obtain ⟨g1, g2, g3⟩ := hres.2 q
    rw [← g2, ← g3]
    exact hx.2 g1⟩
  refine r_aload_n dX10_expression_22 rfl ?_
  refine r_iconst (v := nI 1) dX10_expression_23 (by decide) ?_
  obtain ⟨k9, k1, k2, k3, k4⟩ := firstN (T := T) (h := h) nn (1, 0, i, [], [], fun _ => false) (by show (1 : Nat) < 2; decide) (by rw [hit]; omega)
  refine r_virt (kc2 := 0) (ks2 := 0) (c_oper k9 1 i hM hT hh (by decide) k3 rfl k4 hg2) lk_X10_307 mc_X10_operand dX10_expression_24 (kM_0 hM) (by decide) rfl rfl (Nat.le_of_ble_eq_true rfl) (by decide) (by decide) (fun _ _ _ _ _ _ h => nomatch h.1) ?_
  rintro v8 n8 kd8 I8 J8 P8 ⟨h00, rfl, rfl, rfl, hf8, hr8⟩
  cases h00
  simp only [Option.toList, List.nil_append]
  have hmd := opRun_md k1 k3 k4
  have hit2 : itr (stp T h) (nn - k9) (itr (stp T h) k9 (1, 0, i, [], [], fun _ => false)) = C9 := by rw [← itr_split _ k2]; exact hit
  have hf99 := (hf1.tr eFr.dp).tr hf8
  generalize itr (stp T h) k9 _ = C8 at hr8 hmd hit2
  refine r_iconst (v := nI 1) dX10_expression_27 (by decide) ?_
  refine r_istore_n dX10_expression_28 (by decide) ?_
  rcases hmd with hm2 | hm3
  · obtain ⟨m8, c8, i8, o8, w8, t8⟩ := C8
    have hm2 : m8 = 2 := hm2
    subst hm2
    refine RuZ.mono (w_expr (I0 := I) (J0 := J) hM hT hh (nn - k9) (nn - k9) c8 i8 o8 w8 t8 _ I8 J8 (Nat.le_refl _) hit2 h34 (hr8.1 rfl) hf99) (fun z n' kd' I' J' P' hz => ?_)
    obtain ⟨g1, g2, g3, g4, g5, g6⟩ := hz
    exact ⟨g1, g2, g3, g4, g5, hfin _ _ g6⟩
  · rw [itr_end _ _ (by omega)] at hit2
    subst hit2
    refine RuZ.mono (w_exB29 (h := h) (a0 := a0) (C0 := I (m + 20)) (I0 := I) (J0 := J) hM hm3 (hr8.2 hm3) hf99) (fun z n' kd' I' J' P' hz => ?_)
    obtain ⟨g1, g2, g3, g4, g5, g6⟩ := hz
    exact ⟨g1, g2, g3, g4, g5, hfin _ _ g6⟩

