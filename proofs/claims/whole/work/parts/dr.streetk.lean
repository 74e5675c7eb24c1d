/-! STREET: the class, whole -/
theorem fit_sBy : ∀ t, t < 256 → fits .byte (.int (sBy t)) = true := by decide +kernel
theorem rI_r {r s l : Nat} {T : RT} {R : RS} {I : mI} (h1 : r < s ∨ s + 7 < r) (h2 : r ≠ l + 1) (h3 : r ≠ l + 2) : rI r s l T R I r 12 = R.2.2.1 ∧ rI r s l T R I r 11 = R.2.1 := by
  have e : rI r s l T R I r = hRow (rk T R) R (I r) := by
    show sI s _ (lI l _ _ (hI r _ R I)) r = _
    rw [sI_ne _ _ h1, lI_ne _ _ _ h2 h3]
    exact if_pos rfl
  rw [e]
  exact ⟨rfl, rfl⟩
theorem rI_o {r s l a : Nat} {T : RT} {R : RS} {I : mI} (h1 : a < s ∨ s + 7 < a) (h2 : a ≠ l + 1) (h3 : a ≠ l + 2) (h4 : a ≠ r) : rI r s l T R I a = I a := by
  show sI s _ (lI l _ _ (hI r _ R I)) a = _
  rw [sI_ne _ _ h1, lI_ne _ _ _ h2 h3]
  exact if_neg h4
theorem rI_l {r s l : Nat} {T : RT} {R : RS} {I : mI} (h : s + 7 < l) : rI r s l T R I (l + 1) = R.2.2.2.2.1 ∧ rI r s l T R I (l + 2) = R.2.2.2.2.2.1 := by
  refine ⟨?_, ?_⟩
  · show sI s _ (lI l _ _ (hI r _ R I)) (l + 1) = _
    rw [sI_ne _ _ (by omega)]
    exact if_pos rfl
  · show sI s _ (lI l _ _ (hI r _ R I)) (l + 2) = _
    rw [sI_ne _ _ (by omega)]
    show (if l + 2 = l + 1 then _ else if l + 2 = l + 2 then _ else _) = _
    rw [if_neg (by omega), if_pos rfl]
theorem rFin.cS {R : RS} {H M s : Nat} {un : Bool} {cs : Nat → List Nat} {tx : Nat → List Int32} {W : mI} (h : rFin R H M un cs tx) : cS (sI s (rQ R) W) s H M un cs tx := by
  obtain ⟨h1, h2, h3, -, -, ⟨q1, q2, q3, q4⟩, ht, -⟩ := h
  obtain ⟨q, hq⟩ : ∃ q, q = rQ R := ⟨_, rfl⟩
  rw [← hq] at h1 h2 h3 q1 q2 q3 q4 ht ⊢
  obtain ⟨ho, mo, un9, ri, cd, tl, lo, co, cf, ct, t5, tf, tt⟩ := q
  dsimp only at h1 h2 h3 q1 q2 q3 ht
  refine ⟨⟨by rw [sI_ho, h1], fun i hi => by rw [sI_ri]; exact q3 i hi, fun x hx => ?_⟩, by rw [sI_mo, h2], by rw [sI_un, h3], by rw [sI_cd, q2], fun x hx => ?_⟩
  · rw [sI_alo, sI_acf, sI_act, sI_aco]
    obtain ⟨a1, a2, a3, a4, -⟩ := q4 x hx
    exact ⟨a1, a2, a3, a4⟩
  · rw [sI_atf, sI_att, sI_atx]
    obtain ⟨-, -, -, -, a, b1, b2, b3, b4⟩ := q4 x hx
    exact ⟨a, b1, b2, Nat.le_trans b3 ht, b4⟩
theorem rFin.cL {R : RS} {H M l : Nat} {un : Bool} {cs : Nat → List Nat} {tx : Nat → List Int32} {I : mI} (h : rFin R H M un cs tx) (h1 : I (l + 1) = R.2.2.2.2.1) (h2 : I (l + 2) = R.2.2.2.2.2.1) (k2 : I l 2 = nI 0) (k4 : I l 4 = nI 0) (k7 : I l 7 = nI 0) : cL I l H (eO R) := by
  obtain ⟨-, hl⟩ := h.life
  have hH8 := h.2.2.2.1.2.1
  refine ⟨fun x hx => by rw [h1, h2]; exact hl x (by omega), fun i hi => ?_, ⟨k4, fun j hj => absurd hj (Nat.not_lt_zero _)⟩, k7, fun j hj => absurd hj (Nat.not_lt_zero _)⟩
  rw [k2]
  show bt (nI 0) i = (decide (i < H) && false)
  rw [Bool.and_false]
  exact b_0 i
theorem rIn_rd0 {I : mI} {s l : Nat} : rIn (rd0 I s l) := by
  refine ⟨rfl, rfl, rfl, rfl, fun x hx => ⟨if_pos hx, if_pos hx⟩, rfl, rfl, rfl, rfl, rfl, rfl⟩
theorem kX.mv {kd : mK} {P P' : mP} {o b s f l : Nat} (h : kX kd P o b s f l) (h4 : P' o 4 = some s ∧ P' o 5 = some b ∧ P' o 6 = some l ∧ P' o 7 = some f) (hk : ∀ k, k ≠ 4 → k ≠ 5 → k ≠ 6 → k ≠ 7 → P' o k = P o k) (ne : ∀ a, a ≠ o → P' a = P a) : kX kd P' o s b l f := by
  obtain ⟨⟨c0, c1, c2⟩, ⟨s3, s13⟩, ⟨l23, l29, l35⟩, ⟨q41, a47, g56, w58, r61, d66, p67⟩, ⟨e0, e3, e8, e10, e12, e13, e14, e15, e16, e17⟩, -, hbs, hfl, ho⟩ := h
  have k0 : ∀ k, k ≠ 4 → k ≠ 5 → k ≠ 6 → k ≠ 7 → ∀ w, P o k = w → P' o k = w := fun k z4 z5 z6 z7 w hw => (hk k z4 z5 z6 z7).trans hw
  refine ⟨⟨c0, c1, c2⟩, ⟨s3.congr (ne _ (by omega)), s13.congr (ne _ (by omega))⟩, ⟨l23.congr (ne _ (by omega)), l29.congr (ne _ (by omega)), l35.congr (ne _ (by omega))⟩, ⟨?_, ?_, ?_, ?_, ?_, ?_, ?_⟩, ⟨k0 _ (by decide) (by decide) (by decide) (by decide) _ e0, k0 _ (by decide) (by decide) (by decide) (by decide) _ e3, k0 _ (by decide) (by decide) (by decide) (by decide) _ e8, k0 _ (by decide) (by decide) (by decide) (by decide) _ e10, k0 _ (by decide) (by decide) (by decide) (by decide) _ e12, k0 _ (by decide) (by decide) (by decide) (by decide) _ e13, k0 _ (by decide) (by decide) (by decide) (by decide) _ e14, k0 _ (by decide) (by decide) (by decide) (by decide) _ e15, k0 _ (by decide) (by decide) (by decide) (by decide) _ e16, k0 _ (by decide) (by decide) (by decide) (by decide) _ e17⟩, h4, hbs.symm.imp (fun z => ⟨z.2, z.1⟩) (fun z => ⟨z.2, z.1⟩), hfl.symm.imp (fun z => ⟨z.2, z.1⟩) (fun z => ⟨z.2, z.1⟩), ho⟩
  · unfold kQ at q41 ⊢; rw [ne _ (by omega)]; exact q41
  · unfold kA kQ at a47 ⊢; rw [ne (o + 47) (by omega), ne (o + 47 + 1) (by omega)]; exact a47
  · unfold kG at g56 ⊢; rw [ne _ (by omega)]; exact g56
  · unfold kW at w58 ⊢; rw [ne _ (by omega)]; exact w58
  · unfold kRd at r61 ⊢; rw [ne _ (by omega)]; exact r61
  · exact d66
  · unfold kPg at p67 ⊢; rw [ne _ (by omega)]; exact p67
/-- what street leaves -/
def kSt (o : Nat) (R9 : RS) (T : Nat → Nat) (rr : Nat → Int32) (H M : Nat) (un : Bool) (cs : Nat → List Nat) (tx : Nat → List Int32) (e : Lf) (im : Option Lf) (wk : Option (List Nat)) : Nat → mK → mI → mJ → mP → Prop := fun n kd I J P => (rf R9 = nI 0 → ∀ H2 M2 un2 cs2 tx2, rFin R9 H2 M2 un2 cs2 tx2 → CX o 0 T R9.2.2.1 rr H2 M2 un2 cs2 tx2 (eO R9) none none n kd I J P) ∧ (¬ rf R9 = nI 0 → CX o 0 T R9.2.2.1 (va_up rr 0 (rr 0 + nI 1)) H M un cs tx e im wk n kd I J P)
theorem dX9_street_0 : decode cX9_street 0 = .ok (.iload_n 1, 1) := by decide +kernel
theorem dX9_street_1 : decode cX9_street 1 = .ok (.ifCond .lt 11, 3) := by decide +kernel
theorem dX9_street_4 : decode cX9_street 4 = .ok (.iload_n 1, 1) := by decide +kernel
theorem dX9_street_5 : decode cX9_street 5 = .ok (.aload_n 0, 1) := by decide +kernel
theorem dX9_street_6 : decode cX9_street 6 = .ok (.getfield 13, 3) := by decide +kernel
theorem dX9_street_9 : decode cX9_street 9 = .ok (.if_icmp .le 11, 3) := by decide +kernel
theorem dX9_street_12 : decode cX9_street 12 = .ok (.new 110, 3) := by decide +kernel
theorem dX9_street_15 : decode cX9_street 15 = .ok (.dup, 1) := by decide +kernel
theorem dX9_street_16 : decode cX9_street 16 = .ok (.invokespecial 112, 3) := by decide +kernel
theorem dX9_street_19 : decode cX9_street 19 = .ok (.athrow, 1) := by decide +kernel
theorem dX9_street_20 : decode cX9_street 20 = .ok (.aload_n 0, 1) := by decide +kernel
theorem dX9_street_21 : decode cX9_street 21 = .ok (.iconst 0, 1) := by decide +kernel
theorem dX9_street_22 : decode cX9_street 22 = .ok (.putfield 13, 3) := by decide +kernel
theorem dX9_street_25 : decode cX9_street 25 = .ok (.aload_n 0, 1) := by decide +kernel
theorem dX9_street_26 : decode cX9_street 26 = .ok (.getfield 85, 3) := by decide +kernel
theorem dX9_street_29 : decode cX9_street 29 = .ok (.aload_n 0, 1) := by decide +kernel
theorem dX9_street_30 : decode cX9_street 30 = .ok (.getfield 9, 3) := by decide +kernel
theorem dX9_street_33 : decode cX9_street 33 = .ok (.iload_n 1, 1) := by decide +kernel
theorem dX9_street_34 : decode cX9_street 34 = .ok (.aload_n 0, 1) := by decide +kernel
theorem dX9_street_35 : decode cX9_street 35 = .ok (.getfield 31, 3) := by decide +kernel
theorem dX9_street_38 : decode cX9_street 38 = .ok (.aload_n 0, 1) := by decide +kernel
theorem dX9_street_39 : decode cX9_street 39 = .ok (.getfield 41, 3) := by decide +kernel
theorem dX9_street_42 : decode cX9_street 42 = .ok (.invokevirtual 113, 3) := by decide +kernel
theorem dX9_street_45 : decode cX9_street 45 = .ok (.istore_n 2, 1) := by decide +kernel
theorem dX9_street_46 : decode cX9_street 46 = .ok (.aload_n 0, 1) := by decide +kernel
theorem dX9_street_47 : decode cX9_street 47 = .ok (.aload_n 0, 1) := by decide +kernel
theorem dX9_street_48 : decode cX9_street 48 = .ok (.getfield 85, 3) := by decide +kernel
theorem dX9_street_51 : decode cX9_street 51 = .ok (.getfield 117, 3) := by decide +kernel
theorem dX9_street_54 : decode cX9_street 54 = .ok (.putfield 17, 3) := by decide +kernel
theorem dX9_street_57 : decode cX9_street 57 = .ok (.iload_n 2, 1) := by decide +kernel
theorem dX9_street_58 : decode cX9_street 58 = .ok (.ifCond .ne 21, 3) := by decide +kernel
theorem dX9_street_61 : decode cX9_street 61 = .ok (.aload_n 0, 1) := by decide +kernel
theorem dX9_street_62 : decode cX9_street 62 = .ok (.getfield 20, 3) := by decide +kernel
theorem dX9_street_65 : decode cX9_street 65 = .ok (.iconst 0, 1) := by decide +kernel
theorem dX9_street_66 : decode cX9_street 66 = .ok (.dup2, 1) := by decide +kernel
theorem dX9_street_67 : decode cX9_street 67 = .ok (.iaload, 1) := by decide +kernel
theorem dX9_street_68 : decode cX9_street 68 = .ok (.iconst 1, 1) := by decide +kernel
theorem dX9_street_69 : decode cX9_street 69 = .ok (.iadd, 1) := by decide +kernel
theorem dX9_street_70 : decode cX9_street 70 = .ok (.iastore, 1) := by decide +kernel
theorem dX9_street_71 : decode cX9_street 71 = .ok (.aload_n 0, 1) := by decide +kernel
theorem dX9_street_72 : decode cX9_street 72 = .ok (.getfield 85, 3) := by decide +kernel
theorem dX9_street_75 : decode cX9_street 75 = .ok (.getfield 118, 3) := by decide +kernel
theorem dX9_street_78 : decode cX9_street 78 = .ok (.ireturn, 1) := by decide +kernel
theorem dX9_street_79 : decode cX9_street 79 = .ok (.aload_n 0, 1) := by decide +kernel
theorem dX9_street_80 : decode cX9_street 80 = .ok (.invokevirtual 121, 3) := by decide +kernel
theorem dX9_street_83 : decode cX9_street 83 = .ok (.iconst 0, 1) := by decide +kernel
theorem dX9_street_84 : decode cX9_street 84 = .ok (.ireturn, 1) := by decide +kernel

set_option maxHeartbeats 4000000 in
set_option maxRecDepth 100000 in
theorem k_street9 (o b s f l : Nat) (N : Nat) {t : Nat} {T : Nat → Nat} {fp : Int32} {rr : Nat → Int32} {H M : Nat} {un : Bool} {cs : Nat → List Nat} {tx : Nat → List Int32} {e : Lf} {im : Option Lf} {wk : Option (List Nat)} {n : Nat} {kd : mK} {I : mI} {J : mJ} {P : mP} (hC : CR o b s f l n kd I J P t T fp rr H M un cs tx e im wk) (hz : okZ t T H M cs e) (hN : N ≤ t) : Ct yX9_street cX9_street 3 (some .int) 62 0 0 [.ref o, .int (nI N)] n kd I J P (pK o n kd I J P (.inl (some (.int (rf (rdR (va_up I o (va_up (I o) 1 (nI 0))) s l (o + 1) N))))) (kSt o (rdR (va_up I o (va_up (I o) 1 (nI 0))) s l (o + 1) N) T rr H M un cs tx e im wk)) := by
  obtain ⟨hX, hsc, hT, hSt, hLf, hIm, hWk, hQc, hPc⟩ := hC
  obtain ⟨okt, oks, okl⟩ := hz
  have hS := hX.S
  have hL := hX.L
  have hat := hX.at
  have hH8 : H ≤ 8 := oks.2.1
  have hM20 : 2 ≤ M ∧ M ≤ 20 := oks.1
  have hH : I b 0 = nI H := hSt.1.1
  have hMo : I b 1 = nI M := hSt.2.1
  obtain ⟨⟨x0, x1, x2⟩, -, ⟨-, -, hLk⟩, ⟨hQ, hA, hG, hW, hRd, hD, hPg⟩, ⟨p0, p3, p8, p10, p12, p13, p14, p15, p16, p17⟩, ⟨p4, p5, p6, p7⟩, -, -, -⟩ := id hX
  have ht5 := okt.1
  obtain ⟨k0, k2, k3, k4, z2, z3, z4⟩ := id hRd
  have hF : ∀ i, i < N → fits .byte (.int ((va_up I o (va_up (I o) 1 (nI 0))) (o + 1) i)) = true := fun i hi => by
    rw [am_up_n _ _ (by omega), hT.2.1 i (by omega)]
    exact fit_sBy _ (okt.2 i (by omega))
  refine ct_of 1 (by decide +kernel) (Nat.le_of_ble_eq_true rfl) rfl ?_
  by_cases hr : rf (rdR (va_up I o (va_up (I o) 1 (nI 0))) s l (o + 1) N) = nI 0
  · skip
    refine r_iload_n dX9_street_0 rfl ?_
    refine r_if_lt (tgt := 12) dX9_street_1 (by decide) (fun hz => absurd hz (show ¬ _ from (fun z => absurd z (z_nlt (by omega))))) (fun _ => ?_)
    refine r_iload_n dX9_street_4 rfl ?_
    refine r_aload_n dX9_street_5 rfl ?_
    refine r_getI dX9_street_6 fl_X9_13 rfl x0 ?_
    rw [hT.1]
    refine r_icmp_le (tgt := 20) dX9_street_9 (by decide) (fun _ => ?_) (fun hz => absurd (show _ from (by rw [nI_leI (by omega) (by omega)]; omega)) hz)
    refine r_aload_n dX9_street_20 rfl ?_
    refine r_iconst (v := nI 0) dX9_street_21 (by decide) ?_
    refine r_putI dX9_street_22 fl_X9_13 rfl rfl x0 ?_
    refine r_aload_n dX9_street_25 rfl ?_
    refine r_getR dX9_street_26 fl_X9_85 rfl x0 p15 ?_
    refine r_aload_n dX9_street_29 rfl ?_
    refine r_getR dX9_street_30 fl_X9_9 rfl x0 p0 ?_
    refine r_iload_n dX9_street_33 rfl ?_
    refine r_aload_n dX9_street_34 rfl ?_
    refine r_getR dX9_street_35 fl_X9_31 rfl x0 p5 ?_
    refine r_aload_n dX9_street_38 rfl ?_
    refine r_getR dX9_street_39 fl_X9_41 rfl x0 p7 ?_
    refine r_virt (kc2 := 0) (ks2 := 0) (c_X5_read (o + 61) s l (o + 1) 500 N N k0 k2 k3 k4 z2 z3 z4 hX.S2 hX.L2 (by omega) (by omega) x1 (by omega) (by decide) (by omega) (by omega) hF (by omega) (by omega)) lk_X9_113 mc_X5_read dX9_street_42 k0 (by decide) rfl rfl (Nat.le_of_ble_eq_true rfl) (by decide) (by decide) (fun _ _ _ _ _ _ h => nomatch h.1) ?_
    rintro v2 n2 kd2 I2 J2 P2 ⟨h00, rfl, rfl, rfl, rfl, I0, hI2, hfo, hlo⟩
    cases h00
    simp only [Option.toList, List.nil_append]
    obtain ⟨R9, hR9⟩ : ∃ R9, R9 = (rdR (va_up I o (va_up (I o) 1 (nI 0))) s l (o + 1) N) := ⟨_, rfl⟩
    rw [← hR9] at hI2 ⊢
    have hr2 := rI_r (r := o + 61) (s := s) (l := l) (T := tkT N ((va_up I o (va_up (I o) 1 (nI 0))) (o + 1))) (R := R9) (I := I0) (by omega) (by omega) (by omega)
    rw [← hI2] at hr2
    have ho2 : ∀ a, (a < s ∨ s + 7 < a) → a ≠ l + 1 → a ≠ l + 2 → a ≠ o + 61 → I2 a = I0 a := fun a a1 a2 a3 a4 => by rw [hI2]; exact rI_o a1 a2 a3 a4
    have ho1 : ∀ a, (a < s ∨ s + 7 < a) → (a < l ∨ l + 2 < a) → (a < o + 61 ∨ o + 65 < a) → I2 a = (va_up I o (va_up (I o) 1 (nI 0))) a := fun a a1 a2 a3 => by rw [ho2 a a1 (by omega) (by omega) (by omega)]; exact hfo a (by omega)
    have q61 : rdQ P (o + 61) (o + 1) s l o = P o := rdQ_ne (by omega)
    have hX2 := kX_rdQ (x := o + 1) (y := s) (z := l) hX
    obtain ⟨⟨y0, y1, y2⟩, -, ⟨-, -, yLk⟩, ⟨yQ, yA, yG, yW, yRd, yD, yPg⟩, ⟨t0, t3, t8, t10, t12, t13, t14, t15, t16, t17⟩, ⟨t4, t5, t6, t7⟩, -, -, -⟩ := id hX2
    rw [← hR9] at hr
    refine r_istore_n dX9_street_45 (by decide) ?_
    refine r_aload_n dX9_street_46 rfl ?_
    refine r_aload_n dX9_street_47 rfl ?_
    refine r_getR dX9_street_48 fl_X9_85 rfl y0 t15 ?_
    refine r_getI dX9_street_51 fl_X9_117 rfl yRd.1 ?_
    rw [hr2.1]
    refine r_putI dX9_street_54 fl_X9_17 rfl rfl y0 ?_
    rw [decide_eq_true (show rf R9 = 0 from hr)]
    refine r_iload_n dX9_street_57 rfl ?_
    refine r_if_ne (tgt := 79) dX9_street_58 (by decide) (fun _ => ?_) (fun hz => absurd hz (show ¬ _ from (by decide)))
    refine r_aload_n dX9_street_79 rfl ?_
    refine r_virt (kc2 := 0) (ks2 := 0) (c_X9_moveIn o b s f l hX2) lk_X9_121 mc_X9_moveIn dX9_street_80 y0 (by decide) rfl rfl (Nat.le_of_ble_eq_true rfl) (by decide) (by decide) (fun _ _ _ _ _ _ h => nomatch h.1) ?_
    rintro v3 n3 kd3 I3 J3 P3 ⟨h00, rfl, rfl, rfl, m4, m8, m9, m10, m11, m12⟩
    cases h00
    simp only [Option.toList, List.nil_append]
    refine r_iconst (v := nI 0) dX9_street_83 (by decide) ?_
    refine r_iret rfl dX9_street_84 ?_
    have i2o : I2 o = va_up (I o) 1 (nI 0) := by rw [ho1 o (by omega) (by omega) (by omega), am_up_s]
    have i2a : ∀ a, a ≠ o → (a < s ∨ s + 7 < a) → (a < l ∨ l + 2 < a) → (a < o + 61 ∨ o + 65 < a) → I2 a = I a := fun a a0 a1 a2 a3 => by rw [ho1 a a1 a2 a3, am_up_n _ _ a0]
    have i3 : ∀ a, a ≠ o → a ≠ o + 58 → I3 a = I2 a := fun a a1 a2 => by rw [m10 a a1 a2, am_up_n _ _ a1]
    have i3o : I3 o = va_up (va_up (va_up (va_up (I2 o) 2 R9.2.2.1) 9 (nI 0)) 11 (nI 0)) 18 (nI 0) := by rw [m12, am_up_s]
    have hX3 := hX2.mv m4 m8 m9
    refine ⟨by rw [hr], ⟨Nat.le_refl _, by omega⟩, fun z => by rw [m9 _ (by omega), rdQ_ne (by omega)]; exact z, fun a a1 a2 => ⟨rfl, by rw [i3 a (by omega) (by omega)]; exact i2a a (by omega) (by omega) (by omega) (by omega), rfl, by rw [m9 a (by omega)]; exact rdQ_ne (by omega)⟩, fun _ H2 M2 un2 cs2 tx2 hFi => ?_, fun z => absurd hr z⟩
    refine ⟨s, b, l, f, hX3, ?_, ⟨?_, fun j hj => by omega, ?_, fun j hj => by rw [i3 (o + 2) (by omega) (by omega), i2a (o + 2) (by omega) (by omega) (by omega) (by omega)]; exact hT.2.2.2 j hj⟩, cS.cg (fun a a1 a2 => i3 a (by omega) (by omega)) (by rw [hI2]; exact hFi.cS), cL.cg (fun a a1 a2 => i3 a (by omega) (by omega)) (hFi.cL ?_ ?_ ?_ ?_ ?_), ?_, ?_, Or.inl ?_, Or.inl ?_⟩
    · unfold scr2
      rw [m9 _ (by omega), show rdQ P (o + 61) (o + 1) s l (o + 56) = P (o + 56) from rdQ_ne (by omega)]
      exact hsc
    · rw [i3o, i2o]; simp (disch := decide) only [am_up_s, am_up_n]
    · rw [i3o]; simp (disch := decide) only [am_up_s, am_up_n]
    · rw [hI2]; exact (rI_l (by omega)).1
    · rw [hI2]; exact (rI_l (by omega)).2
    · rw [ho2 l (by omega) (by omega) (by omega) (by omega), hlo]; rfl
    · rw [ho2 l (by omega) (by omega) (by omega) (by omega), hlo]; rfl
    · rw [ho2 l (by omega) (by omega) (by omega) (by omega), hlo]; rfl
    · show I3 o 9 = nI 0
      rw [i3o]; simp (disch := decide) only [am_up_s, am_up_n]
    · show I3 (o + 58) 6 = nI 0
      rw [m11, am_up_s]
    · rw [i3o]; simp (disch := decide) only [am_up_s, am_up_n]
    · rw [i3o, am_up_s]
  · skip
    refine r_iload_n dX9_street_0 rfl ?_
    refine r_if_lt (tgt := 12) dX9_street_1 (by decide) (fun hz => absurd hz (show ¬ _ from (fun z => absurd z (z_nlt (by omega))))) (fun _ => ?_)
    refine r_iload_n dX9_street_4 rfl ?_
    refine r_aload_n dX9_street_5 rfl ?_
    refine r_getI dX9_street_6 fl_X9_13 rfl x0 ?_
    rw [hT.1]
    refine r_icmp_le (tgt := 20) dX9_street_9 (by decide) (fun _ => ?_) (fun hz => absurd (show _ from (by rw [nI_leI (by omega) (by omega)]; omega)) hz)
    refine r_aload_n dX9_street_20 rfl ?_
    refine r_iconst (v := nI 0) dX9_street_21 (by decide) ?_
    refine r_putI dX9_street_22 fl_X9_13 rfl rfl x0 ?_
    refine r_aload_n dX9_street_25 rfl ?_
    refine r_getR dX9_street_26 fl_X9_85 rfl x0 p15 ?_
    refine r_aload_n dX9_street_29 rfl ?_
    refine r_getR dX9_street_30 fl_X9_9 rfl x0 p0 ?_
    refine r_iload_n dX9_street_33 rfl ?_
    refine r_aload_n dX9_street_34 rfl ?_
    refine r_getR dX9_street_35 fl_X9_31 rfl x0 p5 ?_
    refine r_aload_n dX9_street_38 rfl ?_
    refine r_getR dX9_street_39 fl_X9_41 rfl x0 p7 ?_
    refine r_virt (kc2 := 0) (ks2 := 0) (c_X5_read (o + 61) s l (o + 1) 500 N N k0 k2 k3 k4 z2 z3 z4 hX.S2 hX.L2 (by omega) (by omega) x1 (by omega) (by decide) (by omega) (by omega) hF (by omega) (by omega)) lk_X9_113 mc_X5_read dX9_street_42 k0 (by decide) rfl rfl (Nat.le_of_ble_eq_true rfl) (by decide) (by decide) (fun _ _ _ _ _ _ h => nomatch h.1) ?_
    rintro v2 n2 kd2 I2 J2 P2 ⟨h00, rfl, rfl, rfl, rfl, I0, hI2, hfo, hlo⟩
    cases h00
    simp only [Option.toList, List.nil_append]
    obtain ⟨R9, hR9⟩ : ∃ R9, R9 = (rdR (va_up I o (va_up (I o) 1 (nI 0))) s l (o + 1) N) := ⟨_, rfl⟩
    rw [← hR9] at hI2 ⊢
    have hr2 := rI_r (r := o + 61) (s := s) (l := l) (T := tkT N ((va_up I o (va_up (I o) 1 (nI 0))) (o + 1))) (R := R9) (I := I0) (by omega) (by omega) (by omega)
    rw [← hI2] at hr2
    have ho2 : ∀ a, (a < s ∨ s + 7 < a) → a ≠ l + 1 → a ≠ l + 2 → a ≠ o + 61 → I2 a = I0 a := fun a a1 a2 a3 a4 => by rw [hI2]; exact rI_o a1 a2 a3 a4
    have ho1 : ∀ a, (a < s ∨ s + 7 < a) → (a < l ∨ l + 2 < a) → (a < o + 61 ∨ o + 65 < a) → I2 a = (va_up I o (va_up (I o) 1 (nI 0))) a := fun a a1 a2 a3 => by rw [ho2 a a1 (by omega) (by omega) (by omega)]; exact hfo a (by omega)
    have q61 : rdQ P (o + 61) (o + 1) s l o = P o := rdQ_ne (by omega)
    have hX2 := kX_rdQ (x := o + 1) (y := s) (z := l) hX
    obtain ⟨⟨y0, y1, y2⟩, -, ⟨-, -, yLk⟩, ⟨yQ, yA, yG, yW, yRd, yD, yPg⟩, ⟨t0, t3, t8, t10, t12, t13, t14, t15, t16, t17⟩, ⟨t4, t5, t6, t7⟩, -, -, -⟩ := id hX2
    rw [← hR9] at hr
    refine r_istore_n dX9_street_45 (by decide) ?_
    refine r_aload_n dX9_street_46 rfl ?_
    refine r_aload_n dX9_street_47 rfl ?_
    refine r_getR dX9_street_48 fl_X9_85 rfl y0 t15 ?_
    refine r_getI dX9_street_51 fl_X9_117 rfl yRd.1 ?_
    rw [hr2.1]
    refine r_putI dX9_street_54 fl_X9_17 rfl rfl y0 ?_
    rw [decide_eq_false (show ¬ rf R9 = 0 from hr)]
    refine r_iload_n dX9_street_57 rfl ?_
    refine r_if_ne (tgt := 79) dX9_street_58 (by decide) (fun hz => absurd (show _ from (by decide)) hz) (fun _ => ?_)
    refine r_aload_n dX9_street_61 rfl ?_
    refine r_getR dX9_street_62 fl_X9_20 rfl y0 t3 ?_
    refine r_iconst (v := nI 0) dX9_street_65 (by decide) ?_
    refine r_dup2 dX9_street_66 rfl rfl ?_
    refine r_iald dX9_street_67 y2 (nI_in8 (j := 0) 3 (by decide) (by decide)) (nI_clamp (by decide)) ?_
    rw [am_up_n _ _ (show o + 2 ≠ o by omega)]
    refine r_iconst (v := nI 1) dX9_street_68 (by decide) ?_
    refine r_iadd dX9_street_69 ?_
    refine r_iast dX9_street_70 y2 (nI_in8 (j := 0) 3 (by decide) (by decide)) (nI_clamp (by decide)) ?_
    rw [am_up_n _ _ (show o + 2 ≠ o by omega)]
    refine r_aload_n dX9_street_71 rfl ?_
    refine r_getR dX9_street_72 fl_X9_85 rfl y0 t15 ?_
    refine r_getI dX9_street_75 fl_X9_118 rfl yRd.1 ?_
    rw [am_up_n _ _ (by omega), am_up_n _ _ (by omega), hr2.2]
    refine r_iret rfl dX9_street_78 ?_
    have fo : ∀ a, a ≠ o → a ≠ o + 2 → va_up (va_up I2 o (va_up (I2 o) 2 R9.2.2.1)) (o + 2) (va_up (I2 (o + 2)) 0 (I2 (o + 2) 0 + nI 1)) a = I2 a := fun a a1 a2 => by rw [am_up_n _ _ a2, am_up_n _ _ a1]
    have foo : va_up (va_up I2 o (va_up (I2 o) 2 R9.2.2.1)) (o + 2) (va_up (I2 (o + 2)) 0 (I2 (o + 2) 0 + nI 1)) o = va_up (I2 o) 2 R9.2.2.1 := by rw [am_up_n _ _ (by omega), am_up_s]
    have i2o : I2 o = va_up (I o) 1 (nI 0) := by rw [ho1 o (by omega) (by omega) (by omega), am_up_s]
    have i2a : ∀ a, a ≠ o → (a < s ∨ s + 7 < a) → (a < l ∨ l + 2 < a) → (a < o + 61 ∨ o + 65 < a) → I2 a = I a := fun a a0 a1 a2 a3 => by rw [ho1 a a1 a2 a3, am_up_n _ _ a0]
    have fj : ∀ j, j ≠ 1 → j ≠ 2 → va_up (va_up I2 o (va_up (I2 o) 2 R9.2.2.1)) (o + 2) (va_up (I2 (o + 2)) 0 (I2 (o + 2) 0 + nI 1)) o j = I o j := fun j j1 j2 => by rw [foo, am_up_n _ _ j2, i2o, am_up_n _ _ j1]
    have fa : ∀ a, a ≠ o → a ≠ o + 2 → (a < s ∨ s + 7 < a) → (a < l ∨ l + 2 < a) → (a < o + 61 ∨ o + 65 < a) → va_up (va_up I2 o (va_up (I2 o) 2 R9.2.2.1)) (o + 2) (va_up (I2 (o + 2)) 0 (I2 (o + 2) 0 + nI 1)) a = I a := fun a a0 a2 a3 a4 a5 => by rw [fo a a0 a2, i2a a a0 a3 a4 a5]
    refine ⟨rfl, ⟨Nat.le_refl _, by omega⟩, fun z => by rw [rdQ_ne (by omega)]; exact z, fun a a1 a2 => ⟨rfl, fa a (by omega) (by omega) (by omega) (by omega) (by omega), rfl, rdQ_ne (by omega)⟩, fun z => absurd z hr, fun _ => ⟨b, s, f, l, hX2, ?_, ⟨by rw [foo, am_up_n _ _ (by decide), i2o, am_up_s], fun j hj => by omega, by rw [foo, am_up_s], fun j hj => ?_⟩, hSt.cg (fun a a1 a2 => fa a (by omega) (by omega) (by omega) (by omega) (by omega)), hLf.cg (fun a a1 a2 => fa a (by omega) (by omega) (by omega) (by omega) (by omega)), hIm.cg (fj _ (by decide) (by decide)) (fun a a1 a2 => fa a (by omega) (by omega) (by omega) (by omega) (by omega)), hWk.cg (fa _ (by omega) (by omega) (by omega) (by omega) (by omega)) (fa _ (by omega) (by omega) (by omega) (by omega) (by omega)), hQc.cg (fj _ (by decide) (by decide)) (fa _ (by omega) (by omega) (by omega) (by omega) (by omega)) (fa _ (by omega) (by omega) (by omega) (by omega) (by omega)) rfl, hPc.cg (fj _ (by decide) (by decide)) (fa _ (by omega) (by omega) (by omega) (by omega) (by omega)) (fa _ (by omega) (by omega) (by omega) (by omega) (by omega))⟩⟩
    · unfold scr2
      rw [show rdQ P (o + 61) (o + 1) s l (o + 56) = P (o + 56) from rdQ_ne (by omega)]
      exact hsc
    · rw [am_up_s, i2a (o + 2) (by omega) (by omega) (by omega) (by omega)]
      by_cases c : j = 0
      · rw [c, am_up_s, am_up_s, hT.2.2.2 0 (by decide)]
      · rw [am_up_n _ _ c, am_up_n _ _ c]; exact hT.2.2.2 j hj

theorem k_street (o b s f l : Nat) (N : Nat) {t : Nat} {T : Nat → Nat} {fp : Int32} {rr : Nat → Int32} {H M : Nat} {un : Bool} {cs : Nat → List Nat} {tx : Nat → List Int32} {e : Lf} {im : Option Lf} {wk : Option (List Nat)} {n : Nat} {kd : mK} {I : mI} {J : mJ} {P : mP} (hC : CR o b s f l n kd I J P t T fp rr H M un cs tx e im wk) (hz : okZ t T H M cs e) (hN : N ≤ t) : ∃ X R0, (∀ j, j < N → X j = sBy (T j)) ∧ rIn R0 ∧ Ct yX9_street cX9_street 3 (some .int) 62 0 0 [.ref o, .int (nI N)] n kd I J P (pK o n kd I J P (.inl (some (.int (rf (rLines (tkT N X) (tkT N X).2.1 R0))))) (kSt o (rLines (tkT N X) (tkT N X).2.1 R0) T rr H M un cs tx e im wk)) := ⟨(va_up I o (va_up (I o) 1 (nI 0))) (o + 1), rd0 (va_up I o (va_up (I o) 1 (nI 0))) s l, fun j hj => by rw [am_up_n _ _ (by omega)]; exact hC.2.2.1.2.1 j (by omega), rIn_rd0, k_street9 o b s f l N hC hz hN⟩
set_option maxHeartbeats 4000000 in
set_option maxRecDepth 100000 in
theorem k_street_no1 (o b s f l : Nat) (x : Int32) {t : Nat} {T : Nat → Nat} {fp : Int32} {rr : Nat → Int32} {H M : Nat} {un : Bool} {cs : Nat → List Nat} {tx : Nat → List Int32} {e : Lf} {im : Option Lf} {wk : Option (List Nat)} {n : Nat} {kd : mK} {I : mI} {J : mJ} {P : mP} (hC : CR o b s f l n kd I J P t T fp rr H M un cs tx e im wk) (hz : okZ t T H M cs e) (hx : x < 0) : Ct yX9_street cX9_street 3 (some .int) 10 1 6 [.ref o, .int x] n kd I J P (fun z n' kd' I' J' P' => z = .inr "java/lang/IllegalArgumentException" ∧ n' = n ∧ kd' = kd ∧ I' = I ∧ J' = J ∧ P' = P) := by
  obtain ⟨hX, hsc, hT, hSt, hLf, hIm, hWk, hQc, hPc⟩ := hC
  obtain ⟨okt, oks, okl⟩ := hz
  have hS := hX.S
  have hL := hX.L
  have hat := hX.at
  have hH8 : H ≤ 8 := oks.2.1
  have hM20 : 2 ≤ M ∧ M ≤ 20 := oks.1
  have hH : I b 0 = nI H := hSt.1.1
  have hMo : I b 1 = nI M := hSt.2.1
  obtain ⟨⟨x0, x1, x2⟩, -, ⟨-, -, hLk⟩, ⟨hQ, hA, hG, hW, hRd, hD, hPg⟩, ⟨p0, p3, p8, p10, p12, p13, p14, p15, p16, p17⟩, ⟨p4, p5, p6, p7⟩, -, -, -⟩ := id hX
  refine ct_of 1 (by decide +kernel) (Nat.le_of_ble_eq_true rfl) rfl ?_
  refine r_iload_n dX9_street_0 rfl ?_
  refine r_if_lt (tgt := 12) dX9_street_1 (by decide) (fun _ => ?_) (fun hz => absurd (show _ from hx) hz)
  refine r_throw (cls := "java/lang/IllegalArgumentException") (names := ["java/lang/RuntimeException", "java/lang/Exception"]) dX9_street_12 dX9_street_15 dX9_street_16 dX9_street_19 (by decide +kernel) (by decide +kernel) cl_X9_110 xi_IllegalArgumentException xa_iae xb_iae (by decide) (Nat.le_of_ble_eq_true rfl) (by omega) (by omega) ?_
  exact ⟨rfl, rfl, rfl, rfl, rfl, rfl⟩

set_option maxHeartbeats 4000000 in
set_option maxRecDepth 100000 in
theorem k_street_no2 (o b s f l : Nat) (N : Nat) {t : Nat} {T : Nat → Nat} {fp : Int32} {rr : Nat → Int32} {H M : Nat} {un : Bool} {cs : Nat → List Nat} {tx : Nat → List Int32} {e : Lf} {im : Option Lf} {wk : Option (List Nat)} {n : Nat} {kd : mK} {I : mI} {J : mJ} {P : mP} (hC : CR o b s f l n kd I J P t T fp rr H M un cs tx e im wk) (hz : okZ t T H M cs e) (hN : t < N) (hN3 : N < 2 ^ 31) : Ct yX9_street cX9_street 3 (some .int) 10 1 6 [.ref o, .int (nI N)] n kd I J P (fun z n' kd' I' J' P' => z = .inr "java/lang/IllegalArgumentException" ∧ n' = n ∧ kd' = kd ∧ I' = I ∧ J' = J ∧ P' = P) := by
  obtain ⟨hX, hsc, hT, hSt, hLf, hIm, hWk, hQc, hPc⟩ := hC
  obtain ⟨okt, oks, okl⟩ := hz
  have hS := hX.S
  have hL := hX.L
  have hat := hX.at
  have hH8 : H ≤ 8 := oks.2.1
  have hM20 : 2 ≤ M ∧ M ≤ 20 := oks.1
  have hH : I b 0 = nI H := hSt.1.1
  have hMo : I b 1 = nI M := hSt.2.1
  obtain ⟨⟨x0, x1, x2⟩, -, ⟨-, -, hLk⟩, ⟨hQ, hA, hG, hW, hRd, hD, hPg⟩, ⟨p0, p3, p8, p10, p12, p13, p14, p15, p16, p17⟩, ⟨p4, p5, p6, p7⟩, -, -, -⟩ := id hX
  have ht5 := okt.1
  refine ct_of 1 (by decide +kernel) (Nat.le_of_ble_eq_true rfl) rfl ?_
  refine r_iload_n dX9_street_0 rfl ?_
  refine r_if_lt (tgt := 12) dX9_street_1 (by decide) (fun hz => absurd hz (show ¬ _ from (fun z => absurd z (z_nlt (by omega))))) (fun _ => ?_)
  refine r_iload_n dX9_street_4 rfl ?_
  refine r_aload_n dX9_street_5 rfl ?_
  refine r_getI dX9_street_6 fl_X9_13 rfl x0 ?_
  rw [hT.1]
  refine r_icmp_le (tgt := 20) dX9_street_9 (by decide) (fun hz => absurd hz (show ¬ _ from (by rw [nI_leI (by omega) (by omega)]; omega))) (fun _ => ?_)
  refine r_throw (cls := "java/lang/IllegalArgumentException") (names := ["java/lang/RuntimeException", "java/lang/Exception"]) dX9_street_12 dX9_street_15 dX9_street_16 dX9_street_19 (by decide +kernel) (by decide +kernel) cl_X9_110 xi_IllegalArgumentException xa_iae xb_iae (by decide) (Nat.le_of_ble_eq_true rfl) (by omega) (by omega) ?_
  exact ⟨rfl, rfl, rfl, rfl, rfl, rfl⟩

