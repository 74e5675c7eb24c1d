/-! STREET: the reference reads a line -/
theorem stk_pass (T : RT) (w : Int32) : Stk (rPass T w) := fun R h => by
  unfold rPass
  split
  · exact stk_nx T R h
  · exact stk_fail T _ R h
theorem rLn.mv {m len sl sl2 : Nat} {X : Nat → Int32} {I I' : mI} {J J' : mJ} {R R' : RS} {cs : Nat → List Nat} {tx : Nat → List Int32} (h : rLn m len X sl I J R cs tx) (hf : rf R' = nI 0) (hA : rA m (tkT len X) I' J' R'.1) (ha : ∀ a, a ≠ m → I' a = I a) (h1 : (rQ R').1 = (rQ R).1) (h27 : I' m 27 = I m 27) (h28 : I' m 28 = (rQ R').2.1) (h33 : I' m 33 = (rQ R').2.2.1) (h34 : I' m 34 = R'.2.2.2.1) (b1 : ∃ b1, (rQ R').2.2.1 = bz b1) (b2 : ∃ b2, R'.2.2.2.1 = bz b2) (hMo : ∃ M, (rQ R').2.1 = nI M ∧ 2 ≤ M ∧ M ≤ 20) (h30 : I' m 30 = I m 30) (hi : R.1 ≤ R'.1) (hs : (tkT len X).2.2.2.1 R.1 ≤ (tkT len X).2.2.2.1 R'.1 ∧ 2 * (tkT len X).2.2.2.1 R.1 + sl ≤ 2 * (tkT len X).2.2.2.1 R'.1 + sl2) (hq : ∀ ho, qC cs tx ho (rQ R) → qC cs tx ho (rQ R')) (htl : (rQ R').2.2.2.2.2.1 = (rQ R).2.2.2.2.2.1) (hso : R'.2.2.2.2.1 = R.2.2.2.2.1) (hde : R'.2.2.2.2.2.1 = R.2.2.2.2.2.1) : rLn m len X sl2 I' J' R' cs tx := by
  obtain ⟨-, ⟨g1, g2, -⟩, ⟨top, t1, t2, t3⟩, ⟨q1, q2, q3, q4⟩, k, sd⟩ := h
  refine ⟨⟨hf, hA⟩, ⟨by rw [h1]; exact g1, by rw [h1, h27]; exact g2, h28, h33, h34, b1, b2, hMo⟩, ⟨top, h30.trans t1, by omega, fun x hx => ?_⟩, ⟨by rw [h1]; exact hq _ q1, by rw [h1]; omega, by rw [htl]; omega, by rw [h1]; omega⟩, by rw [h1]; exact k, ?_⟩
  · rw [h1] at hx
    exact (t3 x hx).cg (by rw [ha _ (by omega)]) (by rw [ha _ (by omega)]) (by rw [ha _ (by omega)]) (by rw [ha _ (by omega)]) (by rw [ha _ (by omega)]) (Nat.le_refl _) (fun k _ => by rw [ha _ (by omega)]) rfl rfl
  · rw [h1, hso, hde]
    intro x hx
    obtain ⟨u, v, s1, s2, s3, s4, s5, s6⟩ := sd x hx
    exact ⟨u, v, s1, s2, s3, s4, fun z => by rw [ha _ (by omega), ha _ (by omega)]; exact s5 z, s6⟩
theorem qC.smo {cs : Nat → List Nat} {tx : Nat → List Int32} {v : Int32} {ho : Nat} {q : SS} (h : qC cs tx ho q) : qC cs tx ho (SS.smo v q) := by
  obtain ⟨a0, a1, a2, a3, a4, a5, a6, a7, a8, a9, b0, b1, b2⟩ := q
  exact h
theorem qC.sun {cs : Nat → List Nat} {tx : Nat → List Int32} {v : Int32} {ho : Nat} {q : SS} (h : qC cs tx ho q) : qC cs tx ho (SS.sun v q) := by
  obtain ⟨a0, a1, a2, a3, a4, a5, a6, a7, a8, a9, b0, b1, b2⟩ := q
  exact h
theorem SS.smo_p {v : Int32} {q : SS} : (SS.smo v q).1 = q.1 ∧ (SS.smo v q).2.1 = v ∧ (SS.smo v q).2.2.1 = q.2.2.1 ∧ (SS.smo v q).2.2.2.2.2.1 = q.2.2.2.2.2.1 := by
  obtain ⟨a0, a1, a2, a3, a4, a5, a6, a7, a8, a9, b0, b1, b2⟩ := q
  exact ⟨rfl, rfl, rfl, rfl⟩
theorem SS.sun_p {v : Int32} {q : SS} : (SS.sun v q).1 = q.1 ∧ (SS.sun v q).2.1 = q.2.1 ∧ (SS.sun v q).2.2.1 = v ∧ (SS.sun v q).2.2.2.2.2.1 = q.2.2.2.2.2.1 := by
  obtain ⟨a0, a1, a2, a3, a4, a5, a6, a7, a8, a9, b0, b1, b2⟩ := q
  exact ⟨rfl, rfl, rfl, rfl⟩
theorem rPo.bad {m len sl sl2 : Nat} {X : Nat → Int32} {S : RS} {I I' : mI} {J J' : mJ} {f : RS → RS} (hf : Stk f) (h0 : ¬ rf S = nI 0) (h1 : I' m 16 = I m 16) (h2 : I' m 17 = I m 17) (h : rPo m len X sl S I J) : rPo m len X sl2 (f S) I' J' := by
  obtain ⟨g1, g2⟩ := hf S h0
  obtain ⟨k1, k2⟩ := h.2 h0
  exact ⟨fun z => absurd (g1.symm.trans z) h0, fun _ => ⟨by rw [h1, g1]; exact k1, by rw [h2, g2]; exact k2⟩⟩
theorem dX10_line_0 : decode cX10_line 0 = .ok (.aload_n 0, 1) := by decide +kernel
theorem dX10_line_1 : decode cX10_line 1 = .ok (.invokevirtual 262, 3) := by decide +kernel
theorem dX10_line_4 : decode cX10_line 4 = .ok (.istore_n 1, 1) := by decide +kernel
theorem dX10_line_5 : decode cX10_line 5 = .ok (.iload_n 1, 1) := by decide +kernel
theorem dX10_line_6 : decode cX10_line 6 = .ok (.iconst 5, 1) := by decide +kernel
theorem dX10_line_7 : decode cX10_line 7 = .ok (.if_icmp .ne 46, 3) := by decide +kernel
theorem dX10_line_10 : decode cX10_line 10 = .ok (.aload_n 0, 1) := by decide +kernel
theorem dX10_line_11 : decode cX10_line 11 = .ok (.getfield 327, 3) := by decide +kernel
theorem dX10_line_14 : decode cX10_line 14 = .ok (.ifCond .eq 8, 3) := by decide +kernel
theorem dX10_line_17 : decode cX10_line 17 = .ok (.aload_n 0, 1) := by decide +kernel
theorem dX10_line_18 : decode cX10_line 18 = .ok (.iconst 4, 1) := by decide +kernel
theorem dX10_line_19 : decode cX10_line 19 = .ok (.invokevirtual 259, 3) := by decide +kernel
theorem dX10_line_22 : decode cX10_line 22 = .ok (.aload_n 0, 1) := by decide +kernel
theorem dX10_line_23 : decode cX10_line 23 = .ok (.invokevirtual 252, 3) := by decide +kernel
theorem dX10_line_26 : decode cX10_line 26 = .ok (.ifCond .ne 4, 3) := by decide +kernel
theorem dX10_line_29 : decode cX10_line 29 = .ok (.return_, 1) := by decide +kernel
theorem dX10_line_30 : decode cX10_line 30 = .ok (.aload_n 0, 1) := by decide +kernel
theorem dX10_line_31 : decode cX10_line 31 = .ok (.iconst 1, 1) := by decide +kernel
theorem dX10_line_32 : decode cX10_line 32 = .ok (.putfield 327, 3) := by decide +kernel
theorem dX10_line_35 : decode cX10_line 35 = .ok (.aload_n 0, 1) := by decide +kernel
theorem dX10_line_36 : decode cX10_line 36 = .ok (.invokevirtual 256, 3) := by decide +kernel
theorem dX10_line_39 : decode cX10_line 39 = .ok (.aload_n 0, 1) := by decide +kernel
theorem dX10_line_40 : decode cX10_line 40 = .ok (.aload_n 0, 1) := by decide +kernel
theorem dX10_line_41 : decode cX10_line 41 = .ok (.iconst 2, 1) := by decide +kernel
theorem dX10_line_42 : decode cX10_line 42 = .ok (.bipush 20, 2) := by decide +kernel
theorem dX10_line_44 : decode cX10_line 44 = .ok (.invokevirtual 317, 3) := by decide +kernel
theorem dX10_line_47 : decode cX10_line 47 = .ok (.putfield 331, 3) := by decide +kernel
theorem dX10_line_50 : decode cX10_line 50 = .ok (.goto 59, 3) := by decide +kernel
theorem dX10_line_53 : decode cX10_line 53 = .ok (.iload_n 1, 1) := by decide +kernel
theorem dX10_line_54 : decode cX10_line 54 = .ok (.bipush 7, 2) := by decide +kernel
theorem dX10_line_56 : decode cX10_line 56 = .ok (.if_icmp .ne 35, 3) := by decide +kernel
theorem dX10_line_59 : decode cX10_line 59 = .ok (.aload_n 0, 1) := by decide +kernel
theorem dX10_line_60 : decode cX10_line 60 = .ok (.getfield 334, 3) := by decide +kernel
theorem dX10_line_63 : decode cX10_line 63 = .ok (.ifCond .eq 8, 3) := by decide +kernel
theorem dX10_line_66 : decode cX10_line 66 = .ok (.aload_n 0, 1) := by decide +kernel
theorem dX10_line_67 : decode cX10_line 67 = .ok (.iconst 4, 1) := by decide +kernel
theorem dX10_line_68 : decode cX10_line 68 = .ok (.invokevirtual 259, 3) := by decide +kernel
theorem dX10_line_71 : decode cX10_line 71 = .ok (.aload_n 0, 1) := by decide +kernel
theorem dX10_line_72 : decode cX10_line 72 = .ok (.invokevirtual 252, 3) := by decide +kernel
theorem dX10_line_75 : decode cX10_line 75 = .ok (.ifCond .ne 4, 3) := by decide +kernel
theorem dX10_line_78 : decode cX10_line 78 = .ok (.return_, 1) := by decide +kernel
theorem dX10_line_79 : decode cX10_line 79 = .ok (.aload_n 0, 1) := by decide +kernel
theorem dX10_line_80 : decode cX10_line 80 = .ok (.iconst 1, 1) := by decide +kernel
theorem dX10_line_81 : decode cX10_line 81 = .ok (.putfield 334, 3) := by decide +kernel
theorem dX10_line_84 : decode cX10_line 84 = .ok (.aload_n 0, 1) := by decide +kernel
theorem dX10_line_85 : decode cX10_line 85 = .ok (.invokevirtual 256, 3) := by decide +kernel
theorem dX10_line_88 : decode cX10_line 88 = .ok (.goto 21, 3) := by decide +kernel
theorem dX10_line_91 : decode cX10_line 91 = .ok (.iload_n 1, 1) := by decide +kernel
theorem dX10_line_92 : decode cX10_line 92 = .ok (.bipush 8, 2) := by decide +kernel
theorem dX10_line_94 : decode cX10_line 94 = .ok (.if_icmp .ne 10, 3) := by decide +kernel
theorem dX10_line_97 : decode cX10_line 97 = .ok (.aload_n 0, 1) := by decide +kernel
theorem dX10_line_98 : decode cX10_line 98 = .ok (.invokevirtual 337, 3) := by decide +kernel
theorem dX10_line_101 : decode cX10_line 101 = .ok (.goto 8, 3) := by decide +kernel
theorem dX10_line_104 : decode cX10_line 104 = .ok (.aload_n 0, 1) := by decide +kernel
theorem dX10_line_105 : decode cX10_line 105 = .ok (.iconst 1, 1) := by decide +kernel
theorem dX10_line_106 : decode cX10_line 106 = .ok (.invokevirtual 259, 3) := by decide +kernel
theorem dX10_line_109 : decode cX10_line 109 = .ok (.aload_n 0, 1) := by decide +kernel
theorem dX10_line_110 : decode cX10_line 110 = .ok (.aload_n 0, 1) := by decide +kernel
theorem dX10_line_111 : decode cX10_line 111 = .ok (.bipush 59, 2) := by decide +kernel
theorem dX10_line_113 : decode cX10_line 113 = .ok (.invokevirtual 293, 3) := by decide +kernel
theorem dX10_line_116 : decode cX10_line 116 = .ok (.invokevirtual 340, 3) := by decide +kernel
theorem dX10_line_119 : decode cX10_line 119 = .ok (.return_, 1) := by decide +kernel

theorem nO_le2 {v : Int32} {K : Nat} (hK : K < 2 ^ 31) (h1 : ¬ v < nI 2) (h2 : ¬ nI K < v) : nO v ≤ K ∧ 2 ≤ nO v ∧ v = nI (nO v) := by
  have h0 : ¬ v < nI 0 := fun z => h1 (Int32.lt_trans z (by decide))
  obtain ⟨a, b⟩ := nO_le hK h0 h2
  refine ⟨a, ?_, b⟩
  rw [b, nI_ltI (by omega) (by omega)] at h1
  omega
theorem kwI_5 {k : Int32} (h : kwI k = nI 5) : k = nI 129 := by
  unfold kwI at h
  by_cases a : k = nI 136
  · rw [if_pos a] at h; exact absurd h (by decide)
  rw [if_neg a] at h
  by_cases a : k = nI 137
  · rw [if_pos a] at h; exact absurd h (by decide)
  rw [if_neg a] at h
  by_cases a : k = nI 138
  · rw [if_pos a] at h; exact absurd h (by decide)
  rw [if_neg a] at h
  by_cases a : k = nI 139
  · rw [if_pos a] at h; exact absurd h (by decide)
  rw [if_neg a] at h
  by_cases a : k = nI 140
  · rw [if_pos a] at h; exact absurd h (by decide)
  rw [if_neg a] at h
  by_cases a : k = nI 129
  · exact a
  rw [if_neg a] at h
  by_cases a : k = nI 141
  · rw [if_pos a] at h; exact absurd h (by decide)
  rw [if_neg a] at h
  by_cases a : k = nI 130
  · rw [if_pos a] at h; exact absurd h (by decide)
  rw [if_neg a] at h
  by_cases a : k = nI 131
  · rw [if_pos a] at h; exact absurd h (by decide)
  rw [if_neg a] at h
  by_cases a : k = nI 132
  · rw [if_pos a] at h; exact absurd h (by decide)
  rw [if_neg a] at h
  by_cases a : k = nI 134
  · rw [if_pos a] at h; exact absurd h (by decide)
  rw [if_neg a] at h
  by_cases a : k = nI 133
  · rw [if_pos a] at h; exact absurd h (by decide)
  rw [if_neg a] at h
  by_cases a : k = nI 135
  · rw [if_pos a] at h; exact absurd h (by decide)
  rw [if_neg a] at h
  exact absurd h (by decide)
theorem kwI_7 {k : Int32} (h : kwI k = nI 7) : k = nI 130 := by
  unfold kwI at h
  by_cases a : k = nI 136
  · rw [if_pos a] at h; exact absurd h (by decide)
  rw [if_neg a] at h
  by_cases a : k = nI 137
  · rw [if_pos a] at h; exact absurd h (by decide)
  rw [if_neg a] at h
  by_cases a : k = nI 138
  · rw [if_pos a] at h; exact absurd h (by decide)
  rw [if_neg a] at h
  by_cases a : k = nI 139
  · rw [if_pos a] at h; exact absurd h (by decide)
  rw [if_neg a] at h
  by_cases a : k = nI 140
  · rw [if_pos a] at h; exact absurd h (by decide)
  rw [if_neg a] at h
  by_cases a : k = nI 129
  · rw [if_pos a] at h; exact absurd h (by decide)
  rw [if_neg a] at h
  by_cases a : k = nI 141
  · rw [if_pos a] at h; exact absurd h (by decide)
  rw [if_neg a] at h
  by_cases a : k = nI 130
  · exact a
  rw [if_neg a] at h
  by_cases a : k = nI 131
  · rw [if_pos a] at h; exact absurd h (by decide)
  rw [if_neg a] at h
  by_cases a : k = nI 132
  · rw [if_pos a] at h; exact absurd h (by decide)
  rw [if_neg a] at h
  by_cases a : k = nI 134
  · rw [if_pos a] at h; exact absurd h (by decide)
  rw [if_neg a] at h
  by_cases a : k = nI 133
  · rw [if_pos a] at h; exact absurd h (by decide)
  rw [if_neg a] at h
  by_cases a : k = nI 135
  · rw [if_pos a] at h; exact absurd h (by decide)
  rw [if_neg a] at h
  exact absurd h (by decide)
theorem kwI_8 {k : Int32} (h : kwI k = nI 8) : k = nI 131 := by
  unfold kwI at h
  by_cases a : k = nI 136
  · rw [if_pos a] at h; exact absurd h (by decide)
  rw [if_neg a] at h
  by_cases a : k = nI 137
  · rw [if_pos a] at h; exact absurd h (by decide)
  rw [if_neg a] at h
  by_cases a : k = nI 138
  · rw [if_pos a] at h; exact absurd h (by decide)
  rw [if_neg a] at h
  by_cases a : k = nI 139
  · rw [if_pos a] at h; exact absurd h (by decide)
  rw [if_neg a] at h
  by_cases a : k = nI 140
  · rw [if_pos a] at h; exact absurd h (by decide)
  rw [if_neg a] at h
  by_cases a : k = nI 129
  · rw [if_pos a] at h; exact absurd h (by decide)
  rw [if_neg a] at h
  by_cases a : k = nI 141
  · rw [if_pos a] at h; exact absurd h (by decide)
  rw [if_neg a] at h
  by_cases a : k = nI 130
  · rw [if_pos a] at h; exact absurd h (by decide)
  rw [if_neg a] at h
  by_cases a : k = nI 131
  · exact a
  rw [if_neg a] at h
  by_cases a : k = nI 132
  · rw [if_pos a] at h; exact absurd h (by decide)
  rw [if_neg a] at h
  by_cases a : k = nI 134
  · rw [if_pos a] at h; exact absurd h (by decide)
  rw [if_neg a] at h
  by_cases a : k = nI 133
  · rw [if_pos a] at h; exact absurd h (by decide)
  rw [if_neg a] at h
  by_cases a : k = nI 135
  · rw [if_pos a] at h; exact absurd h (by decide)
  rw [if_neg a] at h
  exact absurd h (by decide)
set_option maxHeartbeats 4000000 in
set_option maxRecDepth 100000 in
theorem w_lnB {m len : Nat} {X : Nat → Int32} {n : Nat} {kd : mK} {P : mP} {I0 : mI} {J0 : mJ} {I : mI} {J : mJ} {s9 : Option Value} {S : RS} {sl : Nat} (hM : kM kd P m) (h0 : ¬ rf S = nI 0) (hB : decide (I m 16 = 0) = false) (hS : rPo m len X sl S I J) (hf : hFr m I0 I J0 J) : Ru yX10_line.cls cX10_line 2 none yX10_line.name 14 ((fun z n' kd' I' J' P' => z = .inl none ∧ n' = n ∧ kd' = kd ∧ P' = P ∧ hFr m I0 I' J0 J' ∧ rPo m len X 0 (rPass (tkT len X) (nI 59) S) I' J')) 0 0 109 [some (.ref m), s9] [] n kd I J P := by
  refine r_aload_n dX10_line_109 rfl ?_
  refine r_aload_n dX10_line_110 rfl ?_
  refine r_bipush (v := nI 59) dX10_line_111 (by decide) ?_
  refine r_virtE (c_sign m (nI 59) hM) lk_X10_293 mc_X10_isSign dX10_line_113 (kM_0 hM) (by decide) rfl rfl (Nat.le_of_ble_eq_true rfl) ?_
  refine r_virtV (c_needB (m := m) _ hM hB) lk_X10_340 mc_X10_need dX10_line_116 (kM_0 hM) (by decide) rfl rfl (Nat.le_of_ble_eq_true rfl) ?_
  refine r_vret rfl dX10_line_119 ?_
  exact ⟨rfl, rfl, rfl, rfl, hf, hS.bad (stk_pass _ _) h0 rfl rfl⟩

set_option maxHeartbeats 4000000 in
set_option maxRecDepth 100000 in
theorem w_lnG {m len : Nat} {X : Nat → Int32} {n : Nat} {kd : mK} {P : mP} {I0 : mI} {J0 : mJ} {I : mI} {J : mJ} {s9 : Option Value} {S : RS} {cs : Nat → List Nat} {tx : Nat → List Int32} (hM : kM kd P m) (hl : len ≤ 500) (hS : rLn m len X 2 I J S cs tx) (hf : hFr m I0 I J0 J) : Ru yX10_line.cls cX10_line 2 none yX10_line.name 14 ((fun z n' kd' I' J' P' => z = .inl none ∧ n' = n ∧ kd' = kd ∧ P' = P ∧ hFr m I0 I' J0 J' ∧ rPo m len X 0 (rPass (tkT len X) (nI 59) S) I' J')) 0 0 109 [some (.ref m), s9] [] n kd I J P := by
  have hT := tkA_of (X := X) hl
  obtain ⟨⟨hf0, hA⟩, ⟨-, -, g28, g33, g34, gb1, gb2, gM⟩, -⟩ := id hS
  by_cases c59 : tkK (tkT len X) S.1 = nI 59
  · have hi2 : S.1 + 1 < (tkT len X).2.1 := hT.1.2.1 _ (by rw [c59]; decide)
    have hP : rPass (tkT len X) (nI 59) S = (S.1 + 1, S.2) := by
      unfold rPass
      rw [if_pos (show rk (tkT len X) S = nI 59 from c59)]
      exact if_pos hi2
    refine r_aload_n dX10_line_109 rfl ?_
    refine r_aload_n dX10_line_110 rfl ?_
    refine r_bipush (v := nI 59) dX10_line_111 (by decide) ?_
    refine r_virtE (c_sign m (nI 59) hM) lk_X10_293 mc_X10_isSign dX10_line_113 (kM_0 hM) (by decide) rfl rfl (Nat.le_of_ble_eq_true rfl) ?_
    rw [hA.2.2.1.sg (c := 59) (by decide), show decide ((tkAt (tkT len X) S.1).1 = nI 59) = true from decide_eq_true c59]
    refine r_virt (kc2 := 0) (ks2 := 0) (c_needY hM hT hA hi2) lk_X10_340 mc_X10_need dX10_line_116 (kM_0 hM) (by decide) rfl rfl (Nat.le_of_ble_eq_true rfl) (by decide) (by decide) (fun _ _ _ _ _ _ h => nomatch h.1) ?_
    rintro v2 n2 kd2 I2 J2 P2 ⟨h00, rfl, rfl, rfl, hf2, hA2⟩
    cases h00
    simp only [Option.toList, List.nil_append]
    refine r_vret rfl dX10_line_119 ?_
    refine ⟨rfl, rfl, rfl, rfl, hf.tr (nuFr.g hf2).h, fun _ => ⟨cs, tx, ?_⟩, fun z => absurd ((congrArg rf hP).trans hf0) z⟩
    rw [hP]
    have hw := (wd_len (X := X) (i := S.1) hl).2.2.1 c59
    exact hS.mv hf0 hA2 hf2.1 rfl (hf2.2.1 _ (by decide)) ((hf2.2.1 _ (by decide)).trans g28) ((hf2.2.1 _ (by decide)).trans g33) ((hf2.2.1 _ (by decide)).trans g34) gb1 gb2 gM (hf2.2.1 _ (by decide)) (Nat.le_succ _) (by show (tkT len X).2.2.2.1 S.1 ≤ (tkT len X).2.2.2.1 (S.1 + 1) ∧ 2 * (tkT len X).2.2.2.1 S.1 + 2 ≤ 2 * (tkT len X).2.2.2.1 (S.1 + 1) + 0; omega) (fun _ h => h) rfl rfl rfl
  · have hP : rPass (tkT len X) (nI 59) S = (S.1, nI 1, nI ((tkT len X).2.2.2.1 S.1), S.2.2.2) := by
      unfold rPass
      rw [if_neg (show ¬ rk (tkT len X) S = nI 59 from c59)]
      exact fail_f (R := S) hf0
    refine r_aload_n dX10_line_109 rfl ?_
    refine r_aload_n dX10_line_110 rfl ?_
    refine r_bipush (v := nI 59) dX10_line_111 (by decide) ?_
    refine r_virtE (c_sign m (nI 59) hM) lk_X10_293 mc_X10_isSign dX10_line_113 (kM_0 hM) (by decide) rfl rfl (Nat.le_of_ble_eq_true rfl) ?_
    rw [hA.2.2.1.sg (c := 59) (by decide), show decide ((tkAt (tkT len X) S.1).1 = nI 59) = false from decide_eq_false c59]
    refine r_virtV (c_needN hM hA) lk_X10_340 mc_X10_need dX10_line_116 (kM_0 hM) (by decide) rfl rfl (Nat.le_of_ble_eq_true rfl) ?_
    refine r_vret rfl dX10_line_119 ?_
    have hB := hA.wrong (f := 1) (by decide) (by decide)
    refine ⟨rfl, rfl, rfl, rfl, hf.tr (nuFr.wr).h, fun z => absurd z (by rw [hP]; show ¬ nI 1 = nI 0; decide), fun _ => ?_⟩
    rw [hP]
    exact ⟨hB.1, hB.2.1⟩

set_option maxHeartbeats 4000000 in
set_option maxRecDepth 100000 in
theorem c_lineR {m len : Nat} {X : Nat → Int32} {R : RS} {cs : Nat → List Nat} {tx : Nat → List Int32} {n : Nat} {kd : mK} {I : mI} {J : mJ} {P : mP} (hM : kM kd P m) (hl : len ≤ 500) (hR : rLn m len X 0 I J R cs tx) : Ct yX10_line cX10_line 2 none 14 0 0 [.ref m] n kd I J P (fun z n' kd' I' J' P' => z = .inl none ∧ n' = n ∧ kd' = kd ∧ P' = P ∧ hFr m I I' J J' ∧ rPo m len X 0 (rLine (tkT len X) R) I' J') := by
  refine ct_of 1 (by decide +kernel) (Nat.le_of_ble_eq_true rfl) rfl ?_
  have hT := tkA_of (X := X) hl
  obtain ⟨⟨hf0, hA⟩, ⟨-, -, g28, g33, g34, gb1, gb2, gM⟩, -⟩ := id hR
  have hB4 := hA.wrong (f := 4) (by decide) (by decide)
  have hB1 := hA.wrong (f := 1) (by decide) (by decide)
  by_cases c129 : tkK (tkT len X) R.1 = nI 129
  · have hi2 : R.1 + 1 < (tkT len X).2.1 := hT.1.2.1 _ (by rw [c129]; decide)
    have hw := (wd_len (X := X) (i := R.1) hl).2.2.2 (by rw [c129]; decide)
    have hL0 : rLine (tkT len X) R = rPass (tkT len X) (nI 59) (rMost (tkT len X) R) := by
      show rPass (tkT len X) (nI 59) (if rk (tkT len X) R = nI 129 then _ else _) = _
      rw [if_pos (show rk (tkT len X) R = nI 129 from c129)]
    by_cases c34 : R.2.2.2.1 = nI 0
    · have hM2 : rMost (tkT len X) R = rMost2 (tkT len X) ((R.1 + 1, R.2.1, R.2.2.1, nI 1, R.2.2.2.2) : RS) := by
        unfold rMost
        rw [if_neg (fun z => z c34)]
        show rMost2 _ (rNx _ (rMt (nI 1) R)) = _
        unfold rNx rMt
        rw [if_pos hi2]
      by_cases q1 : nuF (tkT len X) 2 20 (R.1 + 1) = 0
      · have hn1 := nuF_ok (R := ((R.1 + 1, R.2.1, R.2.2.1, nI 1, R.2.2.2.2) : RS)) (lo := 2) (hi := 20) hf0 q1
        have hk3 : tkK (tkT len X) (R.1 + 1) = nI 2 := hn1.2.2.1
        have hi3 : R.1 + 1 + 1 < (tkT len X).2.1 := hT.1.2.1 _ (by rw [hk3]; decide)
        have hw2 := (wd_len (X := X) (i := R.1 + 1) hl).2.2.2 (by rw [hk3]; decide)
        obtain ⟨uu, hu⟩ : ∃ uu, uu = nO (tkV (tkT len X) (R.1 + 1)) := ⟨_, rfl⟩
        have hno := nO_le2 (K := 20) (by decide) hn1.2.2.2.1 hn1.2.2.2.2
        have hu2 : 2 ≤ uu := by rw [hu]; exact hno.2.1
        have hu20 : uu ≤ 20 := by rw [hu]; exact hno.1
        have huu : tkV (tkT len X) (R.1 + 1) = nI uu := by rw [hu]; exact hno.2.2
        have hL : rLine (tkT len X) R = rPass (tkT len X) (nI 59) ((R.1 + 1 + 1, R.2.1, R.2.2.1, nI 1, R.2.2.2.2.1, R.2.2.2.2.2.1, SS.smo (nI uu) (rQ R)) : RS) := by
          rw [hL0, hM2]
          congr 1
          unfold rMost2
          rw [hn1.1, hn1.2.1]
          show rNx _ (rSt ((R.1 + 1, R.2.1, R.2.2.1, nI 1, R.2.2.2.2) : RS) (SS.smo (tkV (tkT len X) (R.1 + 1)) _)) = _
          rw [huu]
          unfold rNx rSt
          rw [if_pos (show R.1 + 1 + 1 < (tkT len X).2.1 from hi3)]
          rfl
        refine r_aload_n dX10_line_0 rfl ?_
        refine r_virtE (c_known m (kwI (tkK (tkT len X) R.1)) hM hA.2.2.1.2.2.1.symm) lk_X10_262 mc_X10_knownWord dX10_line_1 (kM_0 hM) (by decide) rfl rfl (Nat.le_of_ble_eq_true rfl) ?_
        refine r_istore_n dX10_line_4 (by decide) ?_
        refine r_iload_n dX10_line_5 rfl ?_
        refine r_iconst (v := nI 5) dX10_line_6 (by decide) ?_
        refine r_icmp_ne (tgt := 53) dX10_line_7 (by decide) (fun hz => absurd (show _ from (by rw [c129]; rfl)) hz) (fun _ => ?_)
        refine r_aload_n dX10_line_10 rfl ?_
        refine r_getI dX10_line_11 fl_X10_327 rfl (kM_0 hM) ?_
        rw [g34, c34]
        refine r_if_eq (tgt := 22) dX10_line_14 (by decide) (fun _ => ?_) (fun hz => absurd (show _ from rfl) hz)
        refine r_aload_n dX10_line_22 rfl ?_
        refine r_virtE (c_good m hM) lk_X10_252 mc_X10_isGood dX10_line_23 (kM_0 hM) (by decide) rfl rfl (Nat.le_of_ble_eq_true rfl) ?_
        rw [hA.1, show decide (nI 0 = 0) = true from rfl]
        refine r_if_ne (tgt := 30) dX10_line_26 (by decide) (fun _ => ?_) (fun hz => absurd hz (show ¬ _ from (by decide)))
        refine r_aload_n dX10_line_30 rfl ?_
        refine r_iconst (v := nI 1) dX10_line_31 (by decide) ?_
        refine r_putZ dX10_line_32 fl_X10_327 rfl rfl (Or.inr rfl) (kM_0 hM) ?_
        have hf1 : hFr m I (va_up I m (va_up (I m) 34 (nI 1))) J J := hFr.pI (by decide)
        have e1 : ∀ j, j ≠ 34 → va_up I m (va_up (I m) 34 (nI 1)) m j = I m j := fun j hj => by rw [am_up_s, am_up_n _ _ hj]
        have e9 : va_up I m (va_up (I m) 34 (nI 1)) m 34 = nI 1 := by rw [am_up_s, am_up_s]
        have ea1 : ∀ a, a ≠ m → va_up I m (va_up (I m) 34 (nI 1)) a = I a := fun a hj => am_up_n _ _ hj
        have hA1 : rA m (tkT len X) (va_up I m (va_up (I m) 34 (nI 1))) J R.1 := ⟨(e1 _ (by decide)).trans hA.1, hA.2.1.cg (e1 _ (by decide)) (ea1 _ (by omega)), hA.2.2.1.cg (fun j h1 h2 => e1 j (by omega)) rfl, hA.2.2.2⟩
        refine r_aload_n dX10_line_35 rfl ?_
        refine r_virt (kc2 := 0) (ks2 := 0) (c_goesT m R.1 hM hT hA1.2.1 hA1.2.2.1 hi2) lk_X10_256 mc_X10_goes dX10_line_36 (kM_0 hM) (by decide) rfl rfl (Nat.le_of_ble_eq_true rfl) (by decide) (by decide) (fun _ _ _ _ _ _ h => nomatch h.1) ?_
        rintro v2 n2 kd2 I2 J2 P2 ⟨h00, rfl, rfl, rfl, hf2, hk2⟩
        cases h00
        simp only [Option.toList, List.nil_append]
        have hA2 := hA1.go hf2 hk2 hi2
        refine r_aload_n dX10_line_39 rfl ?_
        refine r_aload_n dX10_line_40 rfl ?_
        refine r_iconst (v := nI 2) dX10_line_41 (by decide) ?_
        refine r_bipush (v := nI 20) dX10_line_42 (by decide) ?_
        refine r_virt (kc2 := 0) (ks2 := 0) (c_number0 (i := R.1 + 1) 2 20 hM hT hA2) lk_X10_317 mc_X10_number0 dX10_line_44 (kM_0 hM) (by decide) rfl rfl (Nat.le_of_ble_eq_true rfl) (by decide) (by decide) (fun _ _ _ _ _ _ h => nomatch h.1.choose_spec.1) ?_
        rintro v3 n3 kd3 I3 J3 P3 ⟨⟨w3, h00, hv3⟩, rfl, rfl, rfl, hf3, hy3, hn3⟩
        cases h00
        simp only [Option.toList, List.nil_append, List.cons_append]
        rw [hv3 q1, huu]
        have hA3 := hn3 q1
        refine r_putI dX10_line_47 fl_X10_331 rfl rfl (kM_0 hM) ?_
        have hA4 : rA m (tkT len X) (va_up I3 m (va_up (I3 m) 28 (nI uu))) J3 (R.1 + 1 + 1) := ⟨by rw [am_up_s, am_up_n _ _ (by decide)]; exact hA3.1, hA3.2.1.cg (by rw [am_up_s, am_up_n _ _ (by decide)]) (am_up_n _ _ (by omega)), hA3.2.2.1.cg (fun j h1 h2 => by rw [am_up_s, am_up_n _ _ (by omega)]) rfl, hA3.2.2.2⟩
        have k1 : ∀ j, j ≠ 28 → j ≠ 34 → (j < 16 ∨ 25 < j) → va_up I3 m (va_up (I3 m) 28 (nI uu)) m j = I m j := fun j j1 j2 j3 => by rw [am_up_s, am_up_n _ _ j1, hf3.2.1 j (by omega) (by omega) (by omega), hf2.2.1 j (by omega), e1 j j2]
        refine r_goto (tgt := 109) dX10_line_50 (by decide) ?_
        rw [hL]
        refine w_lnG (cs := cs) (tx := tx) hM hl ?_ (((hf1.tr (nuFr.g hf2).h).tr hf3.h).tr (hFr.pI (by decide)))
        obtain ⟨p1, p2, p3, p4⟩ := SS.smo_p (v := nI uu) (q := rQ R)
        exact hR.mv hf0 hA4 (fun a a1 => by rw [am_up_n _ _ a1, hf3.1 a a1, hf2.1 a a1, ea1 a a1]) p1 (k1 _ (by decide) (by decide) (by decide)) (by rw [am_up_s, am_up_s]; exact p2.symm) ((k1 _ (by decide) (by decide) (by decide)).trans (g33.trans p3.symm)) (by rw [am_up_s, am_up_n _ _ (by decide), hf3.2.1 _ (by decide) (by decide) (by decide), hf2.2.1 _ (by decide), e9]) ⟨gb1.choose, p3.trans gb1.choose_spec⟩ ⟨true, rfl⟩ ⟨uu, p2, hu2, hu20⟩ (k1 _ (by decide) (by decide) (by decide)) (by show R.1 ≤ R.1 + 1 + 1; omega) (by show (tkT len X).2.2.2.1 R.1 ≤ (tkT len X).2.2.2.1 (R.1 + 1 + 1) ∧ 2 * (tkT len X).2.2.2.1 R.1 + 0 ≤ 2 * (tkT len X).2.2.2.1 (R.1 + 1 + 1) + 2; omega) (fun _ h => h.smo) p4 rfl rfl
      · have hn1 := nuF_bad (R := ((R.1 + 1, R.2.1, R.2.2.1, nI 1, R.2.2.2.2) : RS)) (lo := 2) (hi := 20) hf0 q1
        have hbad : rf (rMost (tkT len X) R) = nI (nuF (tkT len X) 2 20 (R.1 + 1)) ∧ (rMost (tkT len X) R).2.2.1 = nI ((tkT len X).2.2.2.1 (R.1 + 1)) := by
          rw [hM2]
          unfold rMost2
          rw [hn1.1, fail_f (R := ((R.1 + 1, R.2.1, R.2.2.1, nI 1, R.2.2.2.2) : RS)) hf0]
          have := stk_nx (tkT len X) (rSt ((R.1 + 1, nI (nuF (tkT len X) 2 20 (R.1 + 1)), nI ((tkT len X).2.2.2.1 (R.1 + 1)), nI 1, R.2.2.2.2) : RS) (SS.smo (rNumV (tkT len X) (nI 2) (nI 20) ((R.1 + 1, R.2.1, R.2.2.1, nI 1, R.2.2.2.2) : RS)) (rQ ((R.1 + 1, nI (nuF (tkT len X) 2 20 (R.1 + 1)), nI ((tkT len X).2.2.2.1 (R.1 + 1)), nI 1, R.2.2.2.2) : RS)))) (nI_lt4 q1 (nuF_lt _ _ _ _))
          exact ⟨this.1, this.2⟩
        obtain ⟨hrf, hpl⟩ := hbad
        have hL := hL0
        refine r_aload_n dX10_line_0 rfl ?_
        refine r_virtE (c_known m (kwI (tkK (tkT len X) R.1)) hM hA.2.2.1.2.2.1.symm) lk_X10_262 mc_X10_knownWord dX10_line_1 (kM_0 hM) (by decide) rfl rfl (Nat.le_of_ble_eq_true rfl) ?_
        refine r_istore_n dX10_line_4 (by decide) ?_
        refine r_iload_n dX10_line_5 rfl ?_
        refine r_iconst (v := nI 5) dX10_line_6 (by decide) ?_
        refine r_icmp_ne (tgt := 53) dX10_line_7 (by decide) (fun hz => absurd (show _ from (by rw [c129]; rfl)) hz) (fun _ => ?_)
        refine r_aload_n dX10_line_10 rfl ?_
        refine r_getI dX10_line_11 fl_X10_327 rfl (kM_0 hM) ?_
        rw [g34, c34]
        refine r_if_eq (tgt := 22) dX10_line_14 (by decide) (fun _ => ?_) (fun hz => absurd (show _ from rfl) hz)
        refine r_aload_n dX10_line_22 rfl ?_
        refine r_virtE (c_good m hM) lk_X10_252 mc_X10_isGood dX10_line_23 (kM_0 hM) (by decide) rfl rfl (Nat.le_of_ble_eq_true rfl) ?_
        rw [hA.1, show decide (nI 0 = 0) = true from rfl]
        refine r_if_ne (tgt := 30) dX10_line_26 (by decide) (fun _ => ?_) (fun hz => absurd hz (show ¬ _ from (by decide)))
        refine r_aload_n dX10_line_30 rfl ?_
        refine r_iconst (v := nI 1) dX10_line_31 (by decide) ?_
        refine r_putZ dX10_line_32 fl_X10_327 rfl rfl (Or.inr rfl) (kM_0 hM) ?_
        have hf1 : hFr m I (va_up I m (va_up (I m) 34 (nI 1))) J J := hFr.pI (by decide)
        have e1 : ∀ j, j ≠ 34 → va_up I m (va_up (I m) 34 (nI 1)) m j = I m j := fun j hj => by rw [am_up_s, am_up_n _ _ hj]
        have e9 : va_up I m (va_up (I m) 34 (nI 1)) m 34 = nI 1 := by rw [am_up_s, am_up_s]
        have ea1 : ∀ a, a ≠ m → va_up I m (va_up (I m) 34 (nI 1)) a = I a := fun a hj => am_up_n _ _ hj
        have hA1 : rA m (tkT len X) (va_up I m (va_up (I m) 34 (nI 1))) J R.1 := ⟨(e1 _ (by decide)).trans hA.1, hA.2.1.cg (e1 _ (by decide)) (ea1 _ (by omega)), hA.2.2.1.cg (fun j h1 h2 => e1 j (by omega)) rfl, hA.2.2.2⟩
        refine r_aload_n dX10_line_35 rfl ?_
        refine r_virt (kc2 := 0) (ks2 := 0) (c_goesT m R.1 hM hT hA1.2.1 hA1.2.2.1 hi2) lk_X10_256 mc_X10_goes dX10_line_36 (kM_0 hM) (by decide) rfl rfl (Nat.le_of_ble_eq_true rfl) (by decide) (by decide) (fun _ _ _ _ _ _ h => nomatch h.1) ?_
        rintro v2 n2 kd2 I2 J2 P2 ⟨h00, rfl, rfl, rfl, hf2, hk2⟩
        cases h00
        simp only [Option.toList, List.nil_append]
        have hA2 := hA1.go hf2 hk2 hi2
        refine r_aload_n dX10_line_39 rfl ?_
        refine r_aload_n dX10_line_40 rfl ?_
        refine r_iconst (v := nI 2) dX10_line_41 (by decide) ?_
        refine r_bipush (v := nI 20) dX10_line_42 (by decide) ?_
        refine r_virt (kc2 := 0) (ks2 := 0) (c_number0 (i := R.1 + 1) 2 20 hM hT hA2) lk_X10_317 mc_X10_number0 dX10_line_44 (kM_0 hM) (by decide) rfl rfl (Nat.le_of_ble_eq_true rfl) (by decide) (by decide) (fun _ _ _ _ _ _ h => nomatch h.1.choose_spec.1) ?_
        rintro v3 n3 kd3 I3 J3 P3 ⟨⟨w3, h00, hv3⟩, rfl, rfl, rfl, hf3, hy3, hn3⟩
        cases h00
        simp only [Option.toList, List.nil_append, List.cons_append]
        refine r_putI dX10_line_47 fl_X10_331 rfl rfl (kM_0 hM) ?_
        refine r_goto (tgt := 109) dX10_line_50 (by decide) ?_
        rw [hL]
        refine w_lnB (sl := 0) hM (by rw [hrf]; exact nI_lt4 q1 (nuF_lt _ _ _ _)) (by rw [am_up_s, am_up_n _ _ (by decide), (hy3 q1).1, decide_eq_false (nI_lt4 q1 (nuF_lt _ _ _ _))]) ⟨fun z => absurd z (by rw [hrf]; exact nI_lt4 q1 (nuF_lt _ _ _ _)), fun _ => ⟨by rw [am_up_s, am_up_n _ _ (by decide), (hy3 q1).1, hrf], by rw [am_up_s, am_up_n _ _ (by decide), (hy3 q1).2, hpl]⟩⟩ (((hf1.tr (nuFr.g hf2).h).tr hf3.h).tr (hFr.pI (by decide)))
    · have hL : rLine (tkT len X) R = rPass (tkT len X) (nI 59) ((R.1, nI 4, nI ((tkT len X).2.2.2.1 R.1), R.2.2.2) : RS) := by
        rw [hL0]
        congr 1
        unfold rMost
        rw [if_pos (show ¬ R.2.2.2.1 = 0 from c34)]
        exact fail_f (R := R) hf0
      have c34' : R.2.2.2.1 = nI 1 := by
        obtain ⟨b, hb⟩ := gb2
        cases b
        · exact absurd hb c34
        · exact hb
      refine r_aload_n dX10_line_0 rfl ?_
      refine r_virtE (c_known m (kwI (tkK (tkT len X) R.1)) hM hA.2.2.1.2.2.1.symm) lk_X10_262 mc_X10_knownWord dX10_line_1 (kM_0 hM) (by decide) rfl rfl (Nat.le_of_ble_eq_true rfl) ?_
      refine r_istore_n dX10_line_4 (by decide) ?_
      refine r_iload_n dX10_line_5 rfl ?_
      refine r_iconst (v := nI 5) dX10_line_6 (by decide) ?_
      refine r_icmp_ne (tgt := 53) dX10_line_7 (by decide) (fun hz => absurd (show _ from (by rw [c129]; rfl)) hz) (fun _ => ?_)
      refine r_aload_n dX10_line_10 rfl ?_
      refine r_getI dX10_line_11 fl_X10_327 rfl (kM_0 hM) ?_
      rw [g34, c34']
      refine r_if_eq (tgt := 22) dX10_line_14 (by decide) (fun hz => absurd hz (show ¬ _ from (by decide))) (fun _ => ?_)
      refine r_aload_n dX10_line_17 rfl ?_
      refine r_iconst (v := nI 4) dX10_line_18 (by decide) ?_
      refine r_virtV (c_wrong m (nI 4) hM) lk_X10_259 mc_X10_wrong dX10_line_19 (kM_0 hM) (by decide) rfl rfl (Nat.le_of_ble_eq_true rfl) ?_
      refine r_aload_n dX10_line_22 rfl ?_
      refine r_virtE (c_good m hM) lk_X10_252 mc_X10_isGood dX10_line_23 (kM_0 hM) (by decide) rfl rfl (Nat.le_of_ble_eq_true rfl) ?_
      rw [hB4.2.2]
      refine r_if_ne (tgt := 30) dX10_line_26 (by decide) (fun hz => absurd (show _ from rfl) hz) (fun _ => ?_)
      refine r_vret rfl dX10_line_29 ?_
      rw [hL]
      refine ⟨rfl, rfl, rfl, rfl, (nuFr.wr).h, ?_⟩
      exact rPo.bad (sl := 0) (I := wrI m (nI 4) I) (J := J) (stk_pass _ _) (by show ¬ nI 4 = nI 0; decide) rfl rfl ⟨fun z => absurd z (by show ¬ nI 4 = nI 0; decide), fun _ => ⟨hB4.1, hB4.2.1⟩⟩
  · by_cases c130 : tkK (tkT len X) R.1 = nI 130
    · have hi2 : R.1 + 1 < (tkT len X).2.1 := hT.1.2.1 _ (by rw [c130]; decide)
      have hw := (wd_len (X := X) (i := R.1) hl).2.2.2 (by rw [c130]; decide)
      have hL0 : rLine (tkT len X) R = rPass (tkT len X) (nI 59) (rUnl (tkT len X) R) := by
        show rPass (tkT len X) (nI 59) (if rk (tkT len X) R = nI 129 then _ else if rk (tkT len X) R = nI 130 then _ else _) = _
        rw [if_neg (show ¬ rk (tkT len X) R = nI 129 from c129), if_pos (show rk (tkT len X) R = nI 130 from c130)]
      by_cases c33 : (rQ R).2.2.1 = nI 0
      · have hL : rLine (tkT len X) R = rPass (tkT len X) (nI 59) ((R.1 + 1, R.2.1, R.2.2.1, R.2.2.2.1, R.2.2.2.2.1, R.2.2.2.2.2.1, SS.sun (nI 1) (rQ R)) : RS) := by
          rw [hL0]
          congr 1
          unfold rUnl
          rw [if_neg (fun z => z c33)]
          unfold rNx rSt
          rw [if_pos (show R.1 + 1 < (tkT len X).2.1 from hi2)]
        refine r_aload_n dX10_line_0 rfl ?_
        refine r_virtE (c_known m (kwI (tkK (tkT len X) R.1)) hM hA.2.2.1.2.2.1.symm) lk_X10_262 mc_X10_knownWord dX10_line_1 (kM_0 hM) (by decide) rfl rfl (Nat.le_of_ble_eq_true rfl) ?_
        refine r_istore_n dX10_line_4 (by decide) ?_
        refine r_iload_n dX10_line_5 rfl ?_
        refine r_iconst (v := nI 5) dX10_line_6 (by decide) ?_
        refine r_icmp_ne (tgt := 53) dX10_line_7 (by decide) (fun _ => ?_) (fun hz => absurd hz (show ¬ _ from (fun z => c129 (kwI_5 z))))
        refine r_iload_n dX10_line_53 rfl ?_
        refine r_bipush (v := nI 7) dX10_line_54 (by decide) ?_
        refine r_icmp_ne (tgt := 91) dX10_line_56 (by decide) (fun hz => absurd (show _ from (by rw [c130]; rfl)) hz) (fun _ => ?_)
        refine r_aload_n dX10_line_59 rfl ?_
        refine r_getI dX10_line_60 fl_X10_334 rfl (kM_0 hM) ?_
        rw [g33, c33]
        refine r_if_eq (tgt := 71) dX10_line_63 (by decide) (fun _ => ?_) (fun hz => absurd (show _ from rfl) hz)
        refine r_aload_n dX10_line_71 rfl ?_
        refine r_virtE (c_good m hM) lk_X10_252 mc_X10_isGood dX10_line_72 (kM_0 hM) (by decide) rfl rfl (Nat.le_of_ble_eq_true rfl) ?_
        rw [hA.1, show decide (nI 0 = 0) = true from rfl]
        refine r_if_ne (tgt := 79) dX10_line_75 (by decide) (fun _ => ?_) (fun hz => absurd hz (show ¬ _ from (by decide)))
        refine r_aload_n dX10_line_79 rfl ?_
        refine r_iconst (v := nI 1) dX10_line_80 (by decide) ?_
        refine r_putZ dX10_line_81 fl_X10_334 rfl rfl (Or.inr rfl) (kM_0 hM) ?_
        have hf1 : hFr m I (va_up I m (va_up (I m) 33 (nI 1))) J J := hFr.pI (by decide)
        have e1 : ∀ j, j ≠ 33 → va_up I m (va_up (I m) 33 (nI 1)) m j = I m j := fun j hj => by rw [am_up_s, am_up_n _ _ hj]
        have e9 : va_up I m (va_up (I m) 33 (nI 1)) m 33 = nI 1 := by rw [am_up_s, am_up_s]
        have ea1 : ∀ a, a ≠ m → va_up I m (va_up (I m) 33 (nI 1)) a = I a := fun a hj => am_up_n _ _ hj
        have hA1 : rA m (tkT len X) (va_up I m (va_up (I m) 33 (nI 1))) J R.1 := ⟨(e1 _ (by decide)).trans hA.1, hA.2.1.cg (e1 _ (by decide)) (ea1 _ (by omega)), hA.2.2.1.cg (fun j h1 h2 => e1 j (by omega)) rfl, hA.2.2.2⟩
        refine r_aload_n dX10_line_84 rfl ?_
        refine r_virt (kc2 := 0) (ks2 := 0) (c_goesT m R.1 hM hT hA1.2.1 hA1.2.2.1 hi2) lk_X10_256 mc_X10_goes dX10_line_85 (kM_0 hM) (by decide) rfl rfl (Nat.le_of_ble_eq_true rfl) (by decide) (by decide) (fun _ _ _ _ _ _ h => nomatch h.1) ?_
        rintro v2 n2 kd2 I2 J2 P2 ⟨h00, rfl, rfl, rfl, hf2, hk2⟩
        cases h00
        simp only [Option.toList, List.nil_append]
        have hA2 := hA1.go hf2 hk2 hi2
        refine r_goto (tgt := 109) dX10_line_88 (by decide) ?_
        rw [hL]
        refine w_lnG (cs := cs) (tx := tx) hM hl ?_ (hf1.tr (nuFr.g hf2).h)
        obtain ⟨p1, p2, p3, p4⟩ := SS.sun_p (v := nI 1) (q := rQ R)
        have k1 : ∀ j, j ≠ 33 → (j < 16 ∨ 25 < j) → I2 m j = I m j := fun j j2 j3 => by rw [hf2.2.1 j (by omega), e1 j j2]
        exact hR.mv hf0 hA2 (fun a a1 => by rw [hf2.1 a a1, ea1 a a1]) p1 (k1 _ (by decide) (by decide)) ((k1 _ (by decide) (by decide)).trans (g28.trans p2.symm)) (by rw [hf2.2.1 _ (by decide), e9]; exact p3.symm) ((k1 _ (by decide) (by decide)).trans g34) ⟨true, p3⟩ gb2 ⟨gM.choose, p2.trans gM.choose_spec.1, gM.choose_spec.2⟩ (k1 _ (by decide) (by decide)) (Nat.le_succ _) (by show (tkT len X).2.2.2.1 R.1 ≤ (tkT len X).2.2.2.1 (R.1 + 1) ∧ 2 * (tkT len X).2.2.2.1 R.1 + 0 ≤ 2 * (tkT len X).2.2.2.1 (R.1 + 1) + 2; omega) (fun _ h => h.sun) p4 rfl rfl
      · have hL : rLine (tkT len X) R = rPass (tkT len X) (nI 59) ((R.1, nI 4, nI ((tkT len X).2.2.2.1 R.1), R.2.2.2) : RS) := by
          rw [hL0]
          congr 1
          unfold rUnl
          rw [if_pos (show ¬ (rQ R).2.2.1 = 0 from c33)]
          exact fail_f (R := R) hf0
        have c33' : (rQ R).2.2.1 = nI 1 := by
          obtain ⟨b, hb⟩ := gb1
          cases b
          · exact absurd hb c33
          · exact hb
        refine r_aload_n dX10_line_0 rfl ?_
        refine r_virtE (c_known m (kwI (tkK (tkT len X) R.1)) hM hA.2.2.1.2.2.1.symm) lk_X10_262 mc_X10_knownWord dX10_line_1 (kM_0 hM) (by decide) rfl rfl (Nat.le_of_ble_eq_true rfl) ?_
        refine r_istore_n dX10_line_4 (by decide) ?_
        refine r_iload_n dX10_line_5 rfl ?_
        refine r_iconst (v := nI 5) dX10_line_6 (by decide) ?_
        refine r_icmp_ne (tgt := 53) dX10_line_7 (by decide) (fun _ => ?_) (fun hz => absurd hz (show ¬ _ from (fun z => c129 (kwI_5 z))))
        refine r_iload_n dX10_line_53 rfl ?_
        refine r_bipush (v := nI 7) dX10_line_54 (by decide) ?_
        refine r_icmp_ne (tgt := 91) dX10_line_56 (by decide) (fun hz => absurd (show _ from (by rw [c130]; rfl)) hz) (fun _ => ?_)
        refine r_aload_n dX10_line_59 rfl ?_
        refine r_getI dX10_line_60 fl_X10_334 rfl (kM_0 hM) ?_
        rw [g33, c33']
        refine r_if_eq (tgt := 71) dX10_line_63 (by decide) (fun hz => absurd hz (show ¬ _ from (by decide))) (fun _ => ?_)
        refine r_aload_n dX10_line_66 rfl ?_
        refine r_iconst (v := nI 4) dX10_line_67 (by decide) ?_
        refine r_virtV (c_wrong m (nI 4) hM) lk_X10_259 mc_X10_wrong dX10_line_68 (kM_0 hM) (by decide) rfl rfl (Nat.le_of_ble_eq_true rfl) ?_
        refine r_aload_n dX10_line_71 rfl ?_
        refine r_virtE (c_good m hM) lk_X10_252 mc_X10_isGood dX10_line_72 (kM_0 hM) (by decide) rfl rfl (Nat.le_of_ble_eq_true rfl) ?_
        rw [hB4.2.2]
        refine r_if_ne (tgt := 79) dX10_line_75 (by decide) (fun hz => absurd (show _ from rfl) hz) (fun _ => ?_)
        refine r_vret rfl dX10_line_78 ?_
        rw [hL]
        refine ⟨rfl, rfl, rfl, rfl, (nuFr.wr).h, ?_⟩
        exact rPo.bad (sl := 0) (I := wrI m (nI 4) I) (J := J) (stk_pass _ _) (by show ¬ nI 4 = nI 0; decide) rfl rfl ⟨fun z => absurd z (by show ¬ nI 4 = nI 0; decide), fun _ => ⟨hB4.1, hB4.2.1⟩⟩
    · by_cases c131 : tkK (tkT len X) R.1 = nI 131
      · have hL : rLine (tkT len X) R = rPass (tkT len X) (nI 59) (rHouse (tkT len X) R) := by
          show rPass (tkT len X) (nI 59) (if rk (tkT len X) R = nI 129 then _ else if rk (tkT len X) R = nI 130 then _ else if rk (tkT len X) R = nI 131 then _ else _) = _
          rw [if_neg (show ¬ rk (tkT len X) R = nI 129 from c129), if_neg (show ¬ rk (tkT len X) R = nI 130 from c130), if_pos (show rk (tkT len X) R = nI 131 from c131)]
        refine r_aload_n dX10_line_0 rfl ?_
        refine r_virtE (c_known m (kwI (tkK (tkT len X) R.1)) hM hA.2.2.1.2.2.1.symm) lk_X10_262 mc_X10_knownWord dX10_line_1 (kM_0 hM) (by decide) rfl rfl (Nat.le_of_ble_eq_true rfl) ?_
        refine r_istore_n dX10_line_4 (by decide) ?_
        refine r_iload_n dX10_line_5 rfl ?_
        refine r_iconst (v := nI 5) dX10_line_6 (by decide) ?_
        refine r_icmp_ne (tgt := 53) dX10_line_7 (by decide) (fun _ => ?_) (fun hz => absurd hz (show ¬ _ from (fun z => c129 (kwI_5 z))))
        refine r_iload_n dX10_line_53 rfl ?_
        refine r_bipush (v := nI 7) dX10_line_54 (by decide) ?_
        refine r_icmp_ne (tgt := 91) dX10_line_56 (by decide) (fun _ => ?_) (fun hz => absurd hz (show ¬ _ from (fun z => c130 (kwI_7 z))))
        refine r_iload_n dX10_line_91 rfl ?_
        refine r_bipush (v := nI 8) dX10_line_92 (by decide) ?_
        refine r_icmp_ne (tgt := 104) dX10_line_94 (by decide) (fun hz => absurd (show _ from (by rw [c131]; rfl)) hz) (fun _ => ?_)
        refine r_aload_n dX10_line_97 rfl ?_
        refine r_virt (kc2 := 0) (ks2 := 0) (c_houseR2 hM hl hR c131) lk_X10_337 mc_X10_readsHouse dX10_line_98 (kM_0 hM) (by decide) rfl rfl (Nat.le_of_ble_eq_true rfl) (by decide) (by decide) (fun _ _ _ _ _ _ h => nomatch h.1) ?_
        rintro v2 n2 kd2 I2 J2 P2 ⟨h00, rfl, rfl, rfl, hf2, hp2⟩
        cases h00
        simp only [Option.toList, List.nil_append]
        refine r_goto (tgt := 109) dX10_line_101 (by decide) ?_
        rw [hL]
        by_cases q : rf (rHouse (tkT len X) R) = nI 0
        · obtain ⟨cs2, tx2, hR2⟩ := hp2.1 q
          exact w_lnG hM hl hR2 hf2
        · exact w_lnB hM q (by rw [(hp2.2 q).1, decide_eq_false (show ¬ rf (rHouse (tkT len X) R) = 0 from q)]) hp2 hf2
      · have hL : rLine (tkT len X) R = rPass (tkT len X) (nI 59) ((R.1, nI 1, nI ((tkT len X).2.2.2.1 R.1), R.2.2.2) : RS) := by
          show rPass (tkT len X) (nI 59) (if rk (tkT len X) R = nI 129 then _ else if rk (tkT len X) R = nI 130 then _ else if rk (tkT len X) R = nI 131 then _ else _) = _
          rw [if_neg (show ¬ rk (tkT len X) R = nI 129 from c129), if_neg (show ¬ rk (tkT len X) R = nI 130 from c130), if_neg (show ¬ rk (tkT len X) R = nI 131 from c131)]
          congr 1
          exact fail_f (R := R) hf0
        refine r_aload_n dX10_line_0 rfl ?_
        refine r_virtE (c_known m (kwI (tkK (tkT len X) R.1)) hM hA.2.2.1.2.2.1.symm) lk_X10_262 mc_X10_knownWord dX10_line_1 (kM_0 hM) (by decide) rfl rfl (Nat.le_of_ble_eq_true rfl) ?_
        refine r_istore_n dX10_line_4 (by decide) ?_
        refine r_iload_n dX10_line_5 rfl ?_
        refine r_iconst (v := nI 5) dX10_line_6 (by decide) ?_
        refine r_icmp_ne (tgt := 53) dX10_line_7 (by decide) (fun _ => ?_) (fun hz => absurd hz (show ¬ _ from (fun z => c129 (kwI_5 z))))
        refine r_iload_n dX10_line_53 rfl ?_
        refine r_bipush (v := nI 7) dX10_line_54 (by decide) ?_
        refine r_icmp_ne (tgt := 91) dX10_line_56 (by decide) (fun _ => ?_) (fun hz => absurd hz (show ¬ _ from (fun z => c130 (kwI_7 z))))
        refine r_iload_n dX10_line_91 rfl ?_
        refine r_bipush (v := nI 8) dX10_line_92 (by decide) ?_
        refine r_icmp_ne (tgt := 104) dX10_line_94 (by decide) (fun _ => ?_) (fun hz => absurd hz (show ¬ _ from (fun z => c131 (kwI_8 z))))
        refine r_aload_n dX10_line_104 rfl ?_
        refine r_iconst (v := nI 1) dX10_line_105 (by decide) ?_
        refine r_virtV (c_wrong m (nI 1) hM) lk_X10_259 mc_X10_wrong dX10_line_106 (kM_0 hM) (by decide) rfl rfl (Nat.le_of_ble_eq_true rfl) ?_
        rw [hL]
        exact w_lnB (S := (R.1, nI 1, nI ((tkT len X).2.2.2.1 R.1), R.2.2.2)) (sl := 0) hM (by show ¬ nI 1 = nI 0; decide) hB1.2.2 ⟨fun z => absurd (show nI 1 = nI 0 from z) (by decide), fun _ => ⟨hB1.1, hB1.2.1⟩⟩ (nuFr.wr).h

