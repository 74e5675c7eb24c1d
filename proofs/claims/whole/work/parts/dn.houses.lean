/-! STREET: the reference reads a whole house -/
theorem nuF_ok {T : RT} {R : RS} {lo hi : Nat} (hR : rf R = 0) (h : nuF T lo hi R.1 = 0) : rNumR T (nI lo) (nI hi) R = R ∧ rNumV T (nI lo) (nI hi) R = tkV T R.1 ∧ tkK T R.1 = nI 2 ∧ ¬ tkV T R.1 < nI lo ∧ ¬ nI hi < tkV T R.1 := by
  unfold nuF at h
  by_cases a : tkK T R.1 = nI 2
  · rw [if_neg (fun q => q a)] at h
    by_cases b : 4 < tkL T R.1
    · rw [if_pos b] at h; exact absurd h (by decide)
    · rw [if_neg b] at h
      by_cases c : tkV T R.1 < nI lo ∨ nI hi < tkV T R.1
      · rw [if_pos c] at h; exact absurd h (by decide)
      · have := num_ok (lo := nI lo) (hi := nI hi) hR a b c
        exact ⟨this.1, this.2, a, fun q => c (Or.inl q), fun q => c (Or.inr q)⟩
  · rw [if_pos a] at h; exact absurd h (by decide)
theorem nuF_bad {T : RT} {R : RS} {lo hi : Nat} (hR : rf R = 0) (h : ¬ nuF T lo hi R.1 = 0) : rNumR T (nI lo) (nI hi) R = rFail T (nI (nuF T lo hi R.1)) R ∧ nuF T lo hi R.1 < 4 := by
  unfold nuF at h ⊢
  by_cases a : tkK T R.1 = nI 2
  · rw [if_neg (fun q => q a)] at h ⊢
    by_cases b : 4 < tkL T R.1
    · rw [if_pos b]; exact ⟨num_bad2 hR a b, by decide⟩
    · rw [if_neg b] at h ⊢
      by_cases c : tkV T R.1 < nI lo ∨ nI hi < tkV T R.1
      · rw [if_pos c]; exact ⟨num_bad3 hR a b c, by decide⟩
      · rw [if_neg c] at h; exact absurd rfl h
  · rw [if_pos a]; exact ⟨num_bad1 hR a, by decide⟩
theorem fail_f {T : RT} {R : RS} {f : Nat} (hR : rf R = 0) : rFail T (nI f) R = (R.1, nI f, nI (T.2.2.2.1 R.1), R.2.2.2) := if_pos hR
set_option maxHeartbeats 4000000 in
set_option maxRecDepth 100000 in
theorem w_rhB83 {m h : Nat} {n : Nat} {kd : mK} {P : mP} {I0 : mI} {J0 : mJ} {I : mI} {J : mJ} {s9 d9 : Option Value} (hM : kM kd P m) (h8 : h < 8) (h27 : I m 27 = nI h) (hB : decide (I m 16 = 0) = false) (hf : hFr m I0 I J0 J) : Ru yX10_readsHouse.cls cX10_readsHouse 3 none yX10_readsHouse.name 13 ((fun z n' kd' I' J' P' => z = .inl none ∧ n' = n ∧ kd' = kd ∧ P' = P ∧ hFr m I0 I' J0 J' ∧ I' m 16 = I m 16 ∧ I' m 17 = I m 17)) 0 0 83 [some (.ref m), s9, d9] [] n kd I J P := by
  refine r_aload_n dX10_readsHouse_83 rfl ?_
  refine r_getR dX10_readsHouse_84 fl_X10_59 rfl (kM_0 hM) (pM_37 hM) ?_
  refine r_aload_n dX10_readsHouse_87 rfl ?_
  refine r_getI dX10_readsHouse_88 fl_X10_266 rfl (kM_0 hM) ?_
  rw [h27]
  refine r_iconst (v := nI 0) dX10_readsHouse_91 (by decide) ?_
  refine r_iast dX10_readsHouse_92 (aM_37 hM) (nI_in8 8 (by omega) (by decide)) (nI_clamp (by omega)) ?_
  refine r_aload_n dX10_readsHouse_93 rfl ?_
  refine r_iconst (v := nI 0) dX10_readsHouse_94 (by decide) ?_
  refine r_putI dX10_readsHouse_95 fl_X10_269 rfl rfl (kM_0 hM) ?_
  refine r_aload_n dX10_readsHouse_98 rfl ?_
  refine r_getR dX10_readsHouse_99 fl_X10_62 rfl (kM_0 hM) (pM_38 hM) ?_
  refine r_aload_n dX10_readsHouse_102 rfl ?_
  refine r_getI dX10_readsHouse_103 fl_X10_266 rfl (kM_0 hM) ?_
  rw [am_up_s, am_up_n _ _ (by decide), am_up_n _ _ (by omega), h27]
  refine r_aload_n dX10_readsHouse_106 rfl ?_
  refine r_getI dX10_readsHouse_107 fl_X10_275 rfl (kM_0 hM) ?_
  rw [am_up_s, am_up_n _ _ (by decide)]
  refine r_iast dX10_readsHouse_110 (aM_38 hM) (nI_in8 8 (by omega) (by decide)) (nI_clamp (by omega)) ?_
  obtain ⟨I1, hI1⟩ : ∃ Y9 : mI, Y9 = va_up (va_up (va_up I (m + 15) (va_up (I (m + 15)) h (nI 0))) m (va_up (I m) 29 (nI 0))) (m + 16) (va_up ((va_up (va_up I (m + 15) (va_up (I (m + 15)) h (nI 0))) m (va_up (I m) 29 (nI 0))) (m + 16)) h (I m 30)) := ⟨_, rfl⟩
  rw [← hI1]
  have e1 : ∀ j, j ≠ 29 → I1 m j = I m j := fun j hj => by rw [hI1]; simp (disch := omega) only [am_up_s, am_up_n]
  have hf1 : hFr m I I1 J J := ⟨fun a x => by rw [hI1]; simp (disch := omega) only [am_up_n], fun j x => e1 j (by omega), fun _ _ => rfl, fun _ _ => rfl, kP.same (e1 _ (by decide)) (e1 _ (by decide))⟩
  clear hI1
  refine r_aload_n dX10_readsHouse_111 rfl ?_
  refine r_virtE (c_good m hM) lk_X10_252 mc_X10_isGood dX10_readsHouse_112 (kM_0 hM) (by decide) rfl rfl (Nat.le_of_ble_eq_true rfl) ?_
  rw [e1 16 (by decide), hB]
  refine r_if_eq (tgt := 171) dX10_readsHouse_115 (by decide) (fun _ => ?_) (fun hz => absurd (show _ from rfl) hz)
  refine r_aload_n dX10_readsHouse_171 rfl ?_
  refine r_getR dX10_readsHouse_172 fl_X10_65 rfl (kM_0 hM) (pM_39 hM) ?_
  refine r_aload_n dX10_readsHouse_175 rfl ?_
  refine r_getI dX10_readsHouse_176 fl_X10_266 rfl (kM_0 hM) ?_
  rw [e1 27 (by decide), h27]
  refine r_aload_n dX10_readsHouse_179 rfl ?_
  refine r_getI dX10_readsHouse_180 fl_X10_269 rfl (kM_0 hM) ?_
  refine r_iast dX10_readsHouse_183 (aM_39 hM) (nI_in8 8 (by omega) (by decide)) (nI_clamp (by omega)) ?_
  refine r_aload_n dX10_readsHouse_184 rfl ?_
  refine r_virtE (c_good m hM) lk_X10_252 mc_X10_isGood dX10_readsHouse_185 (kM_0 hM) (by decide) rfl rfl (Nat.le_of_ble_eq_true rfl) ?_
  rw [am_up_n (b := m) _ _ (by omega), e1 16 (by decide), hB]
  refine r_if_eq (tgt := 201) dX10_readsHouse_188 (by decide) (fun _ => ?_) (fun hz => absurd (show _ from rfl) hz)
  refine r_vret rfl dX10_readsHouse_201 ?_
  exact ⟨rfl, rfl, rfl, rfl, (hf.tr hf1).tr (hFr.pA (by decide)), by rw [am_up_n (b := m) _ _ (by omega), e1 16 (by decide)], by rw [am_up_n (b := m) _ _ (by omega), e1 17 (by decide)]⟩

set_option maxHeartbeats 4000000 in
set_option maxRecDepth 100000 in
theorem w_rhB45 {m h : Nat} {n : Nat} {kd : mK} {P : mP} {I0 : mI} {J0 : mJ} {I : mI} {J : mJ} {sv dv : Int32} (hM : kM kd P m) (h8 : h < 8) (h27 : I m 27 = nI h) (hB : decide (I m 16 = 0) = false) (hf : hFr m I0 I J0 J) : Ru yX10_readsHouse.cls cX10_readsHouse 3 none yX10_readsHouse.name 13 ((fun z n' kd' I' J' P' => z = .inl none ∧ n' = n ∧ kd' = kd ∧ P' = P ∧ hFr m I0 I' J0 J' ∧ I' m 16 = I m 16 ∧ I' m 17 = I m 17)) 0 0 45 [some (.ref m), some (.int sv), some (.int dv)] [] n kd I J P := by
  by_cases cs : sv = -1
  · by_cases cd : dv = -1
    · skip
      refine r_aload_n dX10_readsHouse_45 rfl ?_
      refine r_getR dX10_readsHouse_46 fl_X10_53 rfl (kM_0 hM) (pM_35 hM) ?_
      refine r_aload_n dX10_readsHouse_49 rfl ?_
      refine r_getI dX10_readsHouse_50 fl_X10_266 rfl (kM_0 hM) ?_
      rw [h27]
      refine r_iload_n dX10_readsHouse_53 rfl ?_
      refine r_iconst (v := (-1)) dX10_readsHouse_54 (by decide) ?_
      refine r_icmp_ne (tgt := 62) dX10_readsHouse_55 (by decide) (fun hz => absurd (show _ from cs) hz) (fun _ => ?_)
      refine r_iconst (v := nI 0) dX10_readsHouse_58 (by decide) ?_
      refine r_goto (tgt := 63) dX10_readsHouse_59 (by decide) ?_
      refine r_iast dX10_readsHouse_63 (aM_35 hM) (nI_in8 8 (by omega) (by decide)) (nI_clamp (by omega)) ?_
      refine r_aload_n dX10_readsHouse_64 rfl ?_
      refine r_getR dX10_readsHouse_65 fl_X10_56 rfl (kM_0 hM) (pM_36 hM) ?_
      refine r_aload_n dX10_readsHouse_68 rfl ?_
      refine r_getI dX10_readsHouse_69 fl_X10_266 rfl (kM_0 hM) ?_
      rw [am_up_n (b := m) _ _ (by omega), h27]
      refine r_iload_n dX10_readsHouse_72 rfl ?_
      refine r_iconst (v := (-1)) dX10_readsHouse_73 (by decide) ?_
      refine r_icmp_ne (tgt := 81) dX10_readsHouse_74 (by decide) (fun hz => absurd (show _ from cd) hz) (fun _ => ?_)
      refine r_iconst (v := nI 0) dX10_readsHouse_77 (by decide) ?_
      refine r_goto (tgt := 82) dX10_readsHouse_78 (by decide) ?_
      refine r_iast dX10_readsHouse_82 (aM_36 hM) (nI_in8 8 (by omega) (by decide)) (nI_clamp (by omega)) ?_
      refine RuZ.mono (w_rhB83 hM h8 (by rw [am_up_n (b := m) _ _ (by omega), am_up_n (b := m) _ _ (by omega)]; exact h27) (by rw [am_up_n (b := m) _ _ (by omega), am_up_n (b := m) _ _ (by omega)]; exact hB) ((hf.tr (hFr.pA (by decide))).tr (hFr.pA (by decide)))) (fun z n' kd' I' J' P' hz => ?_)
      obtain ⟨g1, g2, g3, g4, g5, g6, g7⟩ := hz
      exact ⟨g1, g2, g3, g4, g5, by rw [g6, am_up_n (b := m) _ _ (by omega), am_up_n (b := m) _ _ (by omega)], by rw [g7, am_up_n (b := m) _ _ (by omega), am_up_n (b := m) _ _ (by omega)]⟩
    · skip
      refine r_aload_n dX10_readsHouse_45 rfl ?_
      refine r_getR dX10_readsHouse_46 fl_X10_53 rfl (kM_0 hM) (pM_35 hM) ?_
      refine r_aload_n dX10_readsHouse_49 rfl ?_
      refine r_getI dX10_readsHouse_50 fl_X10_266 rfl (kM_0 hM) ?_
      rw [h27]
      refine r_iload_n dX10_readsHouse_53 rfl ?_
      refine r_iconst (v := (-1)) dX10_readsHouse_54 (by decide) ?_
      refine r_icmp_ne (tgt := 62) dX10_readsHouse_55 (by decide) (fun hz => absurd (show _ from cs) hz) (fun _ => ?_)
      refine r_iconst (v := nI 0) dX10_readsHouse_58 (by decide) ?_
      refine r_goto (tgt := 63) dX10_readsHouse_59 (by decide) ?_
      refine r_iast dX10_readsHouse_63 (aM_35 hM) (nI_in8 8 (by omega) (by decide)) (nI_clamp (by omega)) ?_
      refine r_aload_n dX10_readsHouse_64 rfl ?_
      refine r_getR dX10_readsHouse_65 fl_X10_56 rfl (kM_0 hM) (pM_36 hM) ?_
      refine r_aload_n dX10_readsHouse_68 rfl ?_
      refine r_getI dX10_readsHouse_69 fl_X10_266 rfl (kM_0 hM) ?_
      rw [am_up_n (b := m) _ _ (by omega), h27]
      refine r_iload_n dX10_readsHouse_72 rfl ?_
      refine r_iconst (v := (-1)) dX10_readsHouse_73 (by decide) ?_
      refine r_icmp_ne (tgt := 81) dX10_readsHouse_74 (by decide) (fun _ => ?_) (fun hz => absurd hz (show ¬ _ from cd))
      refine r_iload_n dX10_readsHouse_81 rfl ?_
      refine r_iast dX10_readsHouse_82 (aM_36 hM) (nI_in8 8 (by omega) (by decide)) (nI_clamp (by omega)) ?_
      refine RuZ.mono (w_rhB83 hM h8 (by rw [am_up_n (b := m) _ _ (by omega), am_up_n (b := m) _ _ (by omega)]; exact h27) (by rw [am_up_n (b := m) _ _ (by omega), am_up_n (b := m) _ _ (by omega)]; exact hB) ((hf.tr (hFr.pA (by decide))).tr (hFr.pA (by decide)))) (fun z n' kd' I' J' P' hz => ?_)
      obtain ⟨g1, g2, g3, g4, g5, g6, g7⟩ := hz
      exact ⟨g1, g2, g3, g4, g5, by rw [g6, am_up_n (b := m) _ _ (by omega), am_up_n (b := m) _ _ (by omega)], by rw [g7, am_up_n (b := m) _ _ (by omega), am_up_n (b := m) _ _ (by omega)]⟩
  · by_cases cd : dv = -1
    · skip
      refine r_aload_n dX10_readsHouse_45 rfl ?_
      refine r_getR dX10_readsHouse_46 fl_X10_53 rfl (kM_0 hM) (pM_35 hM) ?_
      refine r_aload_n dX10_readsHouse_49 rfl ?_
      refine r_getI dX10_readsHouse_50 fl_X10_266 rfl (kM_0 hM) ?_
      rw [h27]
      refine r_iload_n dX10_readsHouse_53 rfl ?_
      refine r_iconst (v := (-1)) dX10_readsHouse_54 (by decide) ?_
      refine r_icmp_ne (tgt := 62) dX10_readsHouse_55 (by decide) (fun _ => ?_) (fun hz => absurd hz (show ¬ _ from cs))
      refine r_iload_n dX10_readsHouse_62 rfl ?_
      refine r_iast dX10_readsHouse_63 (aM_35 hM) (nI_in8 8 (by omega) (by decide)) (nI_clamp (by omega)) ?_
      refine r_aload_n dX10_readsHouse_64 rfl ?_
      refine r_getR dX10_readsHouse_65 fl_X10_56 rfl (kM_0 hM) (pM_36 hM) ?_
      refine r_aload_n dX10_readsHouse_68 rfl ?_
      refine r_getI dX10_readsHouse_69 fl_X10_266 rfl (kM_0 hM) ?_
      rw [am_up_n (b := m) _ _ (by omega), h27]
      refine r_iload_n dX10_readsHouse_72 rfl ?_
      refine r_iconst (v := (-1)) dX10_readsHouse_73 (by decide) ?_
      refine r_icmp_ne (tgt := 81) dX10_readsHouse_74 (by decide) (fun hz => absurd (show _ from cd) hz) (fun _ => ?_)
      refine r_iconst (v := nI 0) dX10_readsHouse_77 (by decide) ?_
      refine r_goto (tgt := 82) dX10_readsHouse_78 (by decide) ?_
      refine r_iast dX10_readsHouse_82 (aM_36 hM) (nI_in8 8 (by omega) (by decide)) (nI_clamp (by omega)) ?_
      refine RuZ.mono (w_rhB83 hM h8 (by rw [am_up_n (b := m) _ _ (by omega), am_up_n (b := m) _ _ (by omega)]; exact h27) (by rw [am_up_n (b := m) _ _ (by omega), am_up_n (b := m) _ _ (by omega)]; exact hB) ((hf.tr (hFr.pA (by decide))).tr (hFr.pA (by decide)))) (fun z n' kd' I' J' P' hz => ?_)
      obtain ⟨g1, g2, g3, g4, g5, g6, g7⟩ := hz
      exact ⟨g1, g2, g3, g4, g5, by rw [g6, am_up_n (b := m) _ _ (by omega), am_up_n (b := m) _ _ (by omega)], by rw [g7, am_up_n (b := m) _ _ (by omega), am_up_n (b := m) _ _ (by omega)]⟩
    · skip
      refine r_aload_n dX10_readsHouse_45 rfl ?_
      refine r_getR dX10_readsHouse_46 fl_X10_53 rfl (kM_0 hM) (pM_35 hM) ?_
      refine r_aload_n dX10_readsHouse_49 rfl ?_
      refine r_getI dX10_readsHouse_50 fl_X10_266 rfl (kM_0 hM) ?_
      rw [h27]
      refine r_iload_n dX10_readsHouse_53 rfl ?_
      refine r_iconst (v := (-1)) dX10_readsHouse_54 (by decide) ?_
      refine r_icmp_ne (tgt := 62) dX10_readsHouse_55 (by decide) (fun _ => ?_) (fun hz => absurd hz (show ¬ _ from cs))
      refine r_iload_n dX10_readsHouse_62 rfl ?_
      refine r_iast dX10_readsHouse_63 (aM_35 hM) (nI_in8 8 (by omega) (by decide)) (nI_clamp (by omega)) ?_
      refine r_aload_n dX10_readsHouse_64 rfl ?_
      refine r_getR dX10_readsHouse_65 fl_X10_56 rfl (kM_0 hM) (pM_36 hM) ?_
      refine r_aload_n dX10_readsHouse_68 rfl ?_
      refine r_getI dX10_readsHouse_69 fl_X10_266 rfl (kM_0 hM) ?_
      rw [am_up_n (b := m) _ _ (by omega), h27]
      refine r_iload_n dX10_readsHouse_72 rfl ?_
      refine r_iconst (v := (-1)) dX10_readsHouse_73 (by decide) ?_
      refine r_icmp_ne (tgt := 81) dX10_readsHouse_74 (by decide) (fun _ => ?_) (fun hz => absurd hz (show ¬ _ from cd))
      refine r_iload_n dX10_readsHouse_81 rfl ?_
      refine r_iast dX10_readsHouse_82 (aM_36 hM) (nI_in8 8 (by omega) (by decide)) (nI_clamp (by omega)) ?_
      refine RuZ.mono (w_rhB83 hM h8 (by rw [am_up_n (b := m) _ _ (by omega), am_up_n (b := m) _ _ (by omega)]; exact h27) (by rw [am_up_n (b := m) _ _ (by omega), am_up_n (b := m) _ _ (by omega)]; exact hB) ((hf.tr (hFr.pA (by decide))).tr (hFr.pA (by decide)))) (fun z n' kd' I' J' P' hz => ?_)
      obtain ⟨g1, g2, g3, g4, g5, g6, g7⟩ := hz
      exact ⟨g1, g2, g3, g4, g5, by rw [g6, am_up_n (b := m) _ _ (by omega), am_up_n (b := m) _ _ (by omega)], by rw [g7, am_up_n (b := m) _ _ (by omega), am_up_n (b := m) _ _ (by omega)]⟩

set_option maxHeartbeats 4000000 in
set_option maxRecDepth 100000 in
theorem w_rhB31 {m h : Nat} {n : Nat} {kd : mK} {P : mP} {I0 : mI} {J0 : mJ} {I : mI} {J : mJ} {sv : Int32} (hM : kM kd P m) (h8 : h < 8) (h27 : I m 27 = nI h) (hB : decide (I m 16 = 0) = false) (hf : hFr m I0 I J0 J) : Ru yX10_readsHouse.cls cX10_readsHouse 3 none yX10_readsHouse.name 13 ((fun z n' kd' I' J' P' => z = .inl none ∧ n' = n ∧ kd' = kd ∧ P' = P ∧ hFr m I0 I' J0 J' ∧ I' m 16 = I m 16 ∧ I' m 17 = I m 17)) 0 0 31 [some (.ref m), some (.int sv), none] [] n kd I J P := by
  by_cases cs : sv = -1
  · skip
    refine r_iload_n dX10_readsHouse_31 rfl ?_
    refine r_iconst (v := (-1)) dX10_readsHouse_32 (by decide) ?_
    refine r_icmp_ne (tgt := 40) dX10_readsHouse_33 (by decide) (fun hz => absurd (show _ from cs) hz) (fun _ => ?_)
    refine r_iconst (v := (-1)) dX10_readsHouse_36 (by decide) ?_
    refine r_goto (tgt := 44) dX10_readsHouse_37 (by decide) ?_
    refine r_istore_n dX10_readsHouse_44 (by decide) ?_
    exact w_rhB45 hM h8 h27 hB hf
  · skip
    refine r_iload_n dX10_readsHouse_31 rfl ?_
    refine r_iconst (v := (-1)) dX10_readsHouse_32 (by decide) ?_
    refine r_icmp_ne (tgt := 40) dX10_readsHouse_33 (by decide) (fun _ => ?_) (fun hz => absurd hz (show ¬ _ from cs))
    refine r_aload_n dX10_readsHouse_40 rfl ?_
    refine r_virtE (c_perhB hM hB) lk_X10_321 mc_X10_perhaps dX10_readsHouse_41 (kM_0 hM) (by decide) rfl rfl (Nat.le_of_ble_eq_true rfl) ?_
    refine r_istore_n dX10_readsHouse_44 (by decide) ?_
    exact w_rhB45 hM h8 h27 hB hf

theorem nuF_lt (T : RT) (lo hi i : Nat) : nuF T lo hi i < 4 := by
  unfold nuF
  by_cases a : tkK T i = nI 2
  · rw [if_neg (fun q => q a)]
    by_cases b : 4 < tkL T i
    · rw [if_pos b]; decide
    · rw [if_neg b]
      by_cases c : tkV T i < nI lo ∨ nI hi < tkV T i
      · rw [if_pos c]; decide
      · rw [if_neg c]; decide
  · rw [if_pos a]; decide
set_option maxHeartbeats 4000000 in
set_option maxRecDepth 100000 in
theorem c_houseR2 {m len : Nat} {X : Nat → Int32} {R : RS} {cs : Nat → List Nat} {tx : Nat → List Int32} {n : Nat} {kd : mK} {I : mI} {J : mJ} {P : mP} (hM : kM kd P m) (hl : len ≤ 500) (hR : rLn m len X 0 I J R cs tx) (hk : tkK (tkT len X) R.1 = nI 131) : Ct yX10_readsHouse cX10_readsHouse 3 none 13 0 0 [.ref m] n kd I J P (fun z n' kd' I' J' P' => z = .inl none ∧ n' = n ∧ kd' = kd ∧ P' = P ∧ hFr m I I' J J' ∧ rPo m len X 2 (rHouse (tkT len X) R) I' J') := by
  refine ct_of 2 (by decide +kernel) (Nat.le_of_ble_eq_true rfl) rfl ?_
  have hT := tkA_of (X := X) hl
  obtain ⟨⟨hf0, hA⟩, ⟨ho8, h27, h28, h33, h34, hb1, hb2, hMo⟩, ⟨top, h30, htop, hrow⟩, ⟨hqC, hof, htl, htx⟩, hok, hSD⟩ := hR
  have hi2 : R.1 + 1 < (tkT len X).2.1 := hT.1.2.1 _ (by rw [hk]; decide)
  have qh : (rQ R).1 < 8 → (SS.house (rQ R)).2.1 = (rQ R).2.1 ∧ (SS.house (rQ R)).2.2.1 = (rQ R).2.2.1 := fun h8 => ⟨(hqC.house h8).2.2.1, (hqC.house h8).2.2.2⟩
  by_cases hlt8 : (rQ R).1 = 8
  · have hHs : rHouse (tkT len X) R = rFail (tkT len X) (nI 2) R := if_pos (by omega)
    have hB := hA.wrong (f := 2) (by decide) (by decide)
    refine r_aload_n dX10_readsHouse_0 rfl ?_
    refine r_getI dX10_readsHouse_1 fl_X10_266 rfl (kM_0 hM) ?_
    rw [h27]
    refine r_bipush (v := nI 8) dX10_readsHouse_4 (by decide) ?_
    refine r_icmp_ne (tgt := 14) dX10_readsHouse_6 (by decide) (fun hz => absurd (show _ from (by rw [hlt8])) hz) (fun _ => ?_)
    refine r_aload_n dX10_readsHouse_9 rfl ?_
    refine r_iconst (v := nI 2) dX10_readsHouse_10 (by decide) ?_
    refine r_virtV (c_wrong m (nI 2) hM) lk_X10_259 mc_X10_wrong dX10_readsHouse_11 (kM_0 hM) (by decide) rfl rfl (Nat.le_of_ble_eq_true rfl) ?_
    refine r_aload_n dX10_readsHouse_14 rfl ?_
    refine r_virtE (c_good m hM) lk_X10_252 mc_X10_isGood dX10_readsHouse_15 (kM_0 hM) (by decide) rfl rfl (Nat.le_of_ble_eq_true rfl) ?_
    rw [hB.2.2]
    refine r_if_ne (tgt := 22) dX10_readsHouse_18 (by decide) (fun hz => absurd (show _ from rfl) hz) (fun _ => ?_)
    refine r_vret rfl dX10_readsHouse_21 ?_
    refine ⟨rfl, rfl, rfl, rfl, (nuFr.wr).h, ?_⟩
    rw [hHs, fail_f hf0]
    exact ⟨fun z => absurd z (by show ¬ nI 2 = nI 0; decide), fun _ => ⟨hB.1, hB.2.1⟩⟩
  · have hH1 : rHouse (tkT len X) R = rSays (tkT len X) (rQ R).1 (rSons (tkT len X) (rQ R).1 ((R.1 + 1, R.2.1, R.2.2.1, R.2.2.2.1, R.2.2.2.2.1, R.2.2.2.2.2.1, SS.house (rQ R)) : RS)) := by
      show (if 8 ≤ (rQ R).1 then _ else rSays (tkT len X) (rQ R).1 (rSons (tkT len X) (rQ R).1 (rNx (tkT len X) (rSt R (SS.house (rQ R)))))) = _
      rw [if_neg (by omega)]
      unfold rNx rSt
      rw [if_pos hi2]
    have hlt8 : ¬ (rQ R).1 = 8 := hlt8
    by_cases k2 : tkK (tkT len X) (R.1 + 1) = nI 2
    · by_cases q1 : nuF (tkT len X) 0 99 (R.1 + 1) = 0
      · have hn1 := nuF_ok (R := ((R.1 + 1, R.2.1, R.2.2.1, R.2.2.2.1, R.2.2.2.2.1, R.2.2.2.2.2.1, SS.house (rQ R)) : RS)) (lo := 0) (hi := 99) hf0 q1
        have hno := nO_le (K := 99) (by decide) hn1.2.2.2.1 hn1.2.2.2.2
        obtain ⟨uu, hu⟩ : ∃ uu, uu = nO (tkV (tkT len X) (R.1 + 1)) := ⟨_, rfl⟩
        have hu99 : uu ≤ 99 := by rw [hu]; exact hno.1
        have huu : tkV (tkT len X) (R.1 + 1) = nI uu := by rw [hu]; exact hno.2
        have hi3 : R.1 + 1 + 1 < (tkT len X).2.1 := hT.1.2.1 _ (by rw [k2]; decide)
        have hH2 : rSons (tkT len X) (rQ R).1 ((R.1 + 1, R.2.1, R.2.2.1, R.2.2.2.1, R.2.2.2.2.1, R.2.2.2.2.2.1, SS.house (rQ R)) : RS) = rDebts (tkT len X) (rQ R).1 ((R.1 + 2, R.2.1, R.2.2.1, R.2.2.2.1, va_up R.2.2.2.2.1 (rQ R).1 (nI uu), R.2.2.2.2.2.1, SS.house (rQ R)) : RS) := by
          unfold rSons
          rw [if_pos (show rk (tkT len X) ((R.1 + 1, R.2.1, R.2.2.1, R.2.2.2.1, R.2.2.2.2.1, R.2.2.2.2.2.1, SS.house (rQ R)) : RS) = nI 2 from k2), hn1.1, hn1.2.1]
          show rDebts _ _ (rNx _ (rSo (rQ R).1 (tkV (tkT len X) (R.1 + 1)) _)) = _
          rw [huu]
          unfold rNx rSo
          rw [if_pos (show R.1 + 1 + 1 < (tkT len X).2.1 from hi3)]
        by_cases k3 : tkK (tkT len X) (R.1 + 1 + 1) = nI 2
        · by_cases q2 : nuF (tkT len X) 0 99 (R.1 + 1 + 1) = 0
          · have hn2 := nuF_ok (R := ((R.1 + 2, R.2.1, R.2.2.1, R.2.2.2.1, va_up R.2.2.2.2.1 (rQ R).1 (nI uu), R.2.2.2.2.2.1, SS.house (rQ R)) : RS)) (lo := 0) (hi := 99) hf0 q2
            have hno2 := nO_le (K := 99) (by decide) hn2.2.2.2.1 hn2.2.2.2.2
            obtain ⟨vv, hv⟩ : ∃ vv, vv = nO (tkV (tkT len X) (R.1 + 1 + 1)) := ⟨_, rfl⟩
            have hv99 : vv ≤ 99 := by rw [hv]; exact hno2.1
            have hvv : tkV (tkT len X) (R.1 + 1 + 1) = nI vv := by rw [hv]; exact hno2.2
            have hi4 : R.1 + 2 + 1 < (tkT len X).2.1 := hT.1.2.1 _ (by rw [show tkK (tkT len X) (R.1 + 2) = nI 2 from k3]; decide)
            have hHs : rHouse (tkT len X) R = rSays (tkT len X) (rQ R).1 ((R.1 + 3, R.2.1, R.2.2.1, R.2.2.2.1, va_up R.2.2.2.2.1 (rQ R).1 (nI uu), va_up R.2.2.2.2.2.1 (rQ R).1 (nI vv), SS.house (rQ R)) : RS) := by
              rw [hH1, hH2]
              congr 1
              unfold rDebts
              rw [if_pos ⟨show rk (tkT len X) ((R.1 + 2, R.2.1, R.2.2.1, R.2.2.2.1, va_up R.2.2.2.2.1 (rQ R).1 (nI uu), R.2.2.2.2.2.1, SS.house (rQ R)) : RS) = nI 2 from k3, hf0⟩, hn2.1, hn2.2.1]
              show rNx _ (rDe (rQ R).1 (tkV (tkT len X) (R.1 + 1 + 1)) _) = _
              rw [hvv]
              unfold rNx rDe
              rw [if_pos (show R.1 + 2 + 1 < (tkT len X).2.1 from hi4)]
            refine r_aload_n dX10_readsHouse_0 rfl ?_
            refine r_getI dX10_readsHouse_1 fl_X10_266 rfl (kM_0 hM) ?_
            rw [h27]
            refine r_bipush (v := nI 8) dX10_readsHouse_4 (by decide) ?_
            refine r_icmp_ne (tgt := 14) dX10_readsHouse_6 (by decide) (fun _ => ?_) (fun hz => absurd hz (show ¬ _ from (fun z => hlt8 ((nI_eq (by omega) (by decide)).mp z))))
            refine r_aload_n dX10_readsHouse_14 rfl ?_
            refine r_virtE (c_good m hM) lk_X10_252 mc_X10_isGood dX10_readsHouse_15 (kM_0 hM) (by decide) rfl rfl (Nat.le_of_ble_eq_true rfl) ?_
            rw [hA.1, show decide (nI 0 = 0) = true from rfl]
            refine r_if_ne (tgt := 22) dX10_readsHouse_18 (by decide) (fun _ => ?_) (fun hz => absurd hz (show ¬ _ from (by decide)))
            refine r_aload_n dX10_readsHouse_22 rfl ?_
            refine r_virt (kc2 := 0) (ks2 := 0) (c_goesT m R.1 hM hT hA.2.1 hA.2.2.1 hi2) lk_X10_256 mc_X10_goes dX10_readsHouse_23 (kM_0 hM) (by decide) rfl rfl (Nat.le_of_ble_eq_true rfl) (by decide) (by decide) (fun _ _ _ _ _ _ h => nomatch h.1) ?_
            rintro v2 n2 kd2 I2 J2 P2 ⟨h00, rfl, rfl, rfl, hf2, hk2⟩
            cases h00
            simp only [Option.toList, List.nil_append]
            have hA2 := hA.go hf2 hk2 hi2
            have hh2 : hFr m I I2 J J2 := (nuFr.g hf2).h
            have k27 : I2 m 27 = nI (rQ R).1 := (hf2.2.1 _ (by decide)).trans h27
            refine r_aload_n dX10_readsHouse_26 rfl ?_
            refine r_virt (kc2 := 0) (ks2 := 0) (c_perh1 (i := R.1 + 1) hM hT hA2 k2) lk_X10_321 mc_X10_perhaps dX10_readsHouse_27 (kM_0 hM) (by decide) rfl rfl (Nat.le_of_ble_eq_true rfl) (by decide) (by decide) (fun _ _ _ _ _ _ h => nomatch h.1.choose_spec.1) ?_
            rintro v3 n3 kd3 I3 J3 P3 ⟨⟨w3, h00, hv3⟩, rfl, rfl, rfl, hf3, hy3, hn3⟩
            cases h00
            simp only [Option.toList, List.nil_append, List.cons_append]
            rw [hv3 q1, huu]
            have hA3 := hn3 q1
            have k327 : I3 m 27 = nI (rQ R).1 := (hf3.2.1 27 (by decide) (by decide) (by decide)).trans k27
            refine r_istore_n dX10_readsHouse_30 (by decide) ?_
            refine r_iload_n dX10_readsHouse_31 rfl ?_
            refine r_iconst (v := (-1)) dX10_readsHouse_32 (by decide) ?_
            refine r_icmp_ne (tgt := 40) dX10_readsHouse_33 (by decide) (fun _ => ?_) (fun hz => absurd hz (show ¬ _ from (nI_m1 (by omega))))
            refine r_aload_n dX10_readsHouse_40 rfl ?_
            refine r_virt (kc2 := 0) (ks2 := 0) (c_perh1 (i := R.1 + 1 + 1) hM hT hA3 k3) lk_X10_321 mc_X10_perhaps dX10_readsHouse_41 (kM_0 hM) (by decide) rfl rfl (Nat.le_of_ble_eq_true rfl) (by decide) (by decide) (fun _ _ _ _ _ _ h => nomatch h.1.choose_spec.1) ?_
            rintro v4 n4 kd4 I4 J4 P4 ⟨⟨w4, h00, hv4⟩, rfl, rfl, rfl, hf4, hy4, hn4⟩
            cases h00
            simp only [Option.toList, List.nil_append, List.cons_append]
            rw [hv4 q2, hvv]
            have hA4 := hn4 q2
            have k427 : I4 m 27 = nI (rQ R).1 := (hf4.2.1 27 (by decide) (by decide) (by decide)).trans k327
            have hn24 := ((nuFr.g hf2).tr hf3).tr hf4
            refine r_istore_n dX10_readsHouse_44 (by decide) ?_
            refine r_aload_n dX10_readsHouse_45 rfl ?_
            refine r_getR dX10_readsHouse_46 fl_X10_53 rfl (kM_0 hM) (pM_35 hM) ?_
            refine r_aload_n dX10_readsHouse_49 rfl ?_
            refine r_getI dX10_readsHouse_50 fl_X10_266 rfl (kM_0 hM) ?_
            rw [k427]
            refine r_iload_n dX10_readsHouse_53 rfl ?_
            refine r_iconst (v := (-1)) dX10_readsHouse_54 (by decide) ?_
            refine r_icmp_ne (tgt := 62) dX10_readsHouse_55 (by decide) (fun _ => ?_) (fun hz => absurd hz (show ¬ _ from (nI_m1 (by omega))))
            refine r_iload_n dX10_readsHouse_62 rfl ?_
            refine r_iast dX10_readsHouse_63 (aM_35 hM) (nI_in8 8 (by omega) (by decide)) (nI_clamp (by omega)) ?_
            refine r_aload_n dX10_readsHouse_64 rfl ?_
            refine r_getR dX10_readsHouse_65 fl_X10_56 rfl (kM_0 hM) (pM_36 hM) ?_
            refine r_aload_n dX10_readsHouse_68 rfl ?_
            refine r_getI dX10_readsHouse_69 fl_X10_266 rfl (kM_0 hM) ?_
            rw [am_up_n (b := m) _ _ (by omega), k427]
            refine r_iload_n dX10_readsHouse_72 rfl ?_
            refine r_iconst (v := (-1)) dX10_readsHouse_73 (by decide) ?_
            refine r_icmp_ne (tgt := 81) dX10_readsHouse_74 (by decide) (fun _ => ?_) (fun hz => absurd hz (show ¬ _ from (nI_m1 (by omega))))
            refine r_iload_n dX10_readsHouse_81 rfl ?_
            refine r_iast dX10_readsHouse_82 (aM_36 hM) (nI_in8 8 (by omega) (by decide)) (nI_clamp (by omega)) ?_
            obtain ⟨I9, hI9⟩ : ∃ Y9 : mI, Y9 = va_up (va_up I4 (m + 13) (va_up (I4 (m + 13)) (rQ R).1 (nI uu))) (m + 14) (va_up (va_up I4 (m + 13) (va_up (I4 (m + 13)) (rQ R).1 (nI uu)) (m + 14)) (rQ R).1 (nI vv)) := ⟨_, rfl⟩
            rw [← hI9]
            have e9 : I9 m = I4 m := by rw [hI9, am_up_n _ _ (by omega), am_up_n _ _ (by omega)]
            have ea9 : ∀ a, a ≠ m + 13 → a ≠ m + 14 → I9 a = I4 a := fun a a1 a2 => by rw [hI9, am_up_n _ _ a2, am_up_n _ _ a1]
            have e13 : I9 (m + 13) = va_up (I4 (m + 13)) (rQ R).1 (nI uu) := by rw [hI9, am_up_n _ _ (by omega), am_up_s]
            have e14 : I9 (m + 14) = va_up (I4 (m + 14)) (rQ R).1 (nI vv) := by rw [hI9, am_up_s, am_up_n _ _ (by omega)]
            have hf9 : hFr m I4 I9 J4 J4 := ⟨fun a x => ea9 a (by omega) (by omega), fun j x => by rw [e9], fun _ _ => rfl, fun _ _ => rfl, kP.same (by rw [e9]) (by rw [e9])⟩
            clear hI9
            have hA9 : rA m (tkT len X) I9 J4 (R.1 + 3) := ⟨by rw [e9]; exact hA4.1, hA4.2.1.cg (by rw [e9]) (ea9 _ (by omega) (by omega)), hA4.2.2.1.cg (fun j h1 h2 => by rw [e9]) rfl, hA4.2.2.2⟩
            have frm : ∀ j, (j < 20 ∨ 25 < j) → j ≠ 16 → j ≠ 17 → I9 m j = I m j := fun j j1 j2 j3 => by rw [e9]; exact (hn24).2.1 j j2 j3 j1
            have fra : ∀ a, a ≠ m → a ≠ m + 13 → a ≠ m + 14 → I9 a = I a := fun a a1 a2 a3 => by rw [ea9 a a2 a3]; exact (hn24).1 a a1
            have hw := wd_len (X := X) (i := R.1) hl
            have hw1 := hw.1 hk
            have hmon : (tkT len X).2.2.2.1 (R.1 + 1) ≤ (tkT len X).2.2.2.1 (R.1 + 3) := Nat.le_trans (Nat.le_of_lt (wd_len (X := X) (i := R.1 + 1) hl |>.2.2.2 (by rw [k2]; decide))) (Nat.le_of_lt (wd_len (X := X) (i := R.1 + 2) hl |>.2.2.2 (by rw [show tkK (tkT len X) (R.1 + 2) = nI 2 from k3]; decide)))
            have hrow9 : ∀ x, x < (rQ R).1 → rRow m len top X I9 cs tx x := fun x hx => (hrow x hx).cg (by rw [fra _ (by omega) (by omega) (by omega)]) (by rw [fra _ (by omega) (by omega) (by omega)]) (by rw [fra _ (by omega) (by omega) (by omega)]) (by rw [fra _ (by omega) (by omega) (by omega)]) (by rw [fra _ (by omega) (by omega) (by omega)]) (Nat.le_refl _) (fun k _ => by rw [fra _ (by omega) (by omega) (by omega)]) rfl rfl
            have hSD9 : rSD m ((rQ R).1 + 1) I9 ((rQ R).1 + 1) (((R.1 + 3, R.2.1, R.2.2.1, R.2.2.2.1, va_up R.2.2.2.2.1 (rQ R).1 (nI uu), va_up R.2.2.2.2.2.1 (rQ R).1 (nI vv), SS.house (rQ R)) : RS)).2.2.2.2.1 (((R.1 + 3, R.2.1, R.2.2.1, R.2.2.2.1, va_up R.2.2.2.2.1 (rQ R).1 (nI uu), va_up R.2.2.2.2.2.1 (rQ R).1 (nI vv), SS.house (rQ R)) : RS)).2.2.2.2.2.1 := by
              intro x hx
              obtain ⟨u, v, s1, s2, s3, s4, s5, s6⟩ := hSD x hx
              by_cases c : x = (rQ R).1
              · subst c
                obtain ⟨z1, z2⟩ := s6 (Nat.le_refl _)
                subst z1 z2
                exact ⟨uu, vv, hu99, hv99, am_up_s _ _ _, am_up_s _ _ _, fun _ => ⟨by rw [e13, am_up_s], by rw [e14, am_up_s]⟩, fun z => absurd z (Nat.not_succ_le_self _)⟩
              · refine ⟨u, v, s1, s2, (am_up_n _ _ c).trans s3, (am_up_n _ _ c).trans s4, fun z => ?_, fun z => s6 (by omega)⟩
                have s5' := s5 (by omega)
                rw [e13, e14, am_up_n _ _ c, am_up_n _ _ c, (hn24).1 _ (by omega), (hn24).1 _ (by omega)]
                exact s5'
            rw [hHs]
            by_cases c132 : tkK (tkT len X) (R.1 + 3) = nI 132
            · exact w_rhS (S := ((R.1 + 3, R.2.1, R.2.2.1, R.2.2.2.1, va_up R.2.2.2.2.1 (rQ R).1 (nI uu), va_up R.2.2.2.2.2.1 (rQ R).1 (nI vv), SS.house (rQ R)) : RS)) (q0 := rQ R) (cs := cs) (tx := tx) (top := top) hM hl (by omega) hf0 hA9 rfl rfl hqC (by show ofs cs (rQ R).1 + 1 ≤ R.1 + 3; omega) (by show _ ≤ 2 * (tkT len X).2.2.2.1 (R.1 + 3); omega) (by show _ ≤ 2 * (tkT len X).2.2.2.1 (R.1 + 3); omega) ((frm 27 (by decide) (by decide) (by decide)).trans h27) ((frm 28 (by decide) (by decide) (by decide)).trans (h28.trans (qh (by omega)).1.symm)) ((frm 33 (by decide) (by decide) (by decide)).trans (h33.trans (qh (by omega)).2.symm)) ((frm 34 (by decide) (by decide) (by decide)).trans h34) (by obtain ⟨b, hb⟩ := hb1; exact ⟨b, (qh (by omega)).2.trans hb⟩) hb2 (by obtain ⟨M, hb⟩ := hMo; exact ⟨M, (qh (by omega)).1.trans hb.1, hb.2⟩) ((frm 30 (by decide) (by decide) (by decide)).trans h30) (by show top + 2 ≤ 2 * (R.1 + 3); omega) hrow9 hok hSD9 ((hn24).h.tr hf9) c132
            · exact w_rhN (S := ((R.1 + 3, R.2.1, R.2.2.1, R.2.2.2.1, va_up R.2.2.2.2.1 (rQ R).1 (nI uu), va_up R.2.2.2.2.2.1 (rQ R).1 (nI vv), SS.house (rQ R)) : RS)) (q0 := rQ R) (cs := cs) (tx := tx) (top := top) hM hl (by omega) hf0 hA9 rfl rfl hqC (by show ofs cs (rQ R).1 + 1 ≤ R.1 + 3; omega) (by show _ ≤ 2 * (tkT len X).2.2.2.1 (R.1 + 3); omega) (by show _ ≤ 2 * (tkT len X).2.2.2.1 (R.1 + 3); omega) ((frm 27 (by decide) (by decide) (by decide)).trans h27) ((frm 28 (by decide) (by decide) (by decide)).trans (h28.trans (qh (by omega)).1.symm)) ((frm 33 (by decide) (by decide) (by decide)).trans (h33.trans (qh (by omega)).2.symm)) ((frm 34 (by decide) (by decide) (by decide)).trans h34) (by obtain ⟨b, hb⟩ := hb1; exact ⟨b, (qh (by omega)).2.trans hb⟩) hb2 (by obtain ⟨M, hb⟩ := hMo; exact ⟨M, (qh (by omega)).1.trans hb.1, hb.2⟩) ((frm 30 (by decide) (by decide) (by decide)).trans h30) (by show top + 2 ≤ 2 * (R.1 + 3); omega) hrow9 hok hSD9 ((hn24).h.tr hf9) c132
          · have hn2 := nuF_bad (R := ((R.1 + 2, R.2.1, R.2.2.1, R.2.2.2.1, va_up R.2.2.2.2.1 (rQ R).1 (nI uu), R.2.2.2.2.2.1, SS.house (rQ R)) : RS)) (lo := 0) (hi := 99) hf0 q2
            have hHs : rHouse (tkT len X) R = rNx (tkT len X) (rDe (rQ R).1 (rNumV (tkT len X) (nI 0) (nI 99) ((R.1 + 2, R.2.1, R.2.2.1, R.2.2.2.1, va_up R.2.2.2.2.1 (rQ R).1 (nI uu), R.2.2.2.2.2.1, SS.house (rQ R)) : RS)) (R.1 + 2, nI (nuF (tkT len X) 0 99 (R.1 + 2)), nI ((tkT len X).2.2.2.1 (R.1 + 2)), R.2.2.2.1, va_up R.2.2.2.2.1 (rQ R).1 (nI uu), R.2.2.2.2.2.1, SS.house (rQ R))) := by
              rw [hH1, hH2]
              have hd : rDebts (tkT len X) (rQ R).1 ((R.1 + 2, R.2.1, R.2.2.1, R.2.2.2.1, va_up R.2.2.2.2.1 (rQ R).1 (nI uu), R.2.2.2.2.2.1, SS.house (rQ R)) : RS) = rNx (tkT len X) (rDe (rQ R).1 (rNumV (tkT len X) (nI 0) (nI 99) ((R.1 + 2, R.2.1, R.2.2.1, R.2.2.2.1, va_up R.2.2.2.2.1 (rQ R).1 (nI uu), R.2.2.2.2.2.1, SS.house (rQ R)) : RS)) (R.1 + 2, nI (nuF (tkT len X) 0 99 (R.1 + 2)), nI ((tkT len X).2.2.2.1 (R.1 + 2)), R.2.2.2.1, va_up R.2.2.2.2.1 (rQ R).1 (nI uu), R.2.2.2.2.2.1, SS.house (rQ R))) := by
                unfold rDebts
                rw [if_pos ⟨show rk (tkT len X) ((R.1 + 2, R.2.1, R.2.2.1, R.2.2.2.1, va_up R.2.2.2.2.1 (rQ R).1 (nI uu), R.2.2.2.2.2.1, SS.house (rQ R)) : RS) = nI 2 from k3, hf0⟩, hn2.1, fail_f (R := ((R.1 + 2, R.2.1, R.2.2.1, R.2.2.2.1, va_up R.2.2.2.2.1 (rQ R).1 (nI uu), R.2.2.2.2.2.1, SS.house (rQ R)) : RS)) hf0]
              rw [hd]
              refine if_neg (fun z => ?_)
              have hb := (stk_nx (tkT len X) (rDe (rQ R).1 (rNumV (tkT len X) (nI 0) (nI 99) ((R.1 + 2, R.2.1, R.2.2.1, R.2.2.2.1, va_up R.2.2.2.2.1 (rQ R).1 (nI uu), R.2.2.2.2.2.1, SS.house (rQ R)) : RS)) (R.1 + 2, nI (nuF (tkT len X) 0 99 (R.1 + 2)), nI ((tkT len X).2.2.2.1 (R.1 + 2)), R.2.2.2.1, va_up R.2.2.2.2.1 (rQ R).1 (nI uu), R.2.2.2.2.2.1, SS.house (rQ R))) (nI_lt4 q2 (nuF_lt _ _ _ _))).1
              rw [hb] at z
              exact nI_lt4 q2 (nuF_lt _ _ _ _) z.2
            refine r_aload_n dX10_readsHouse_0 rfl ?_
            refine r_getI dX10_readsHouse_1 fl_X10_266 rfl (kM_0 hM) ?_
            rw [h27]
            refine r_bipush (v := nI 8) dX10_readsHouse_4 (by decide) ?_
            refine r_icmp_ne (tgt := 14) dX10_readsHouse_6 (by decide) (fun _ => ?_) (fun hz => absurd hz (show ¬ _ from (fun z => hlt8 ((nI_eq (by omega) (by decide)).mp z))))
            refine r_aload_n dX10_readsHouse_14 rfl ?_
            refine r_virtE (c_good m hM) lk_X10_252 mc_X10_isGood dX10_readsHouse_15 (kM_0 hM) (by decide) rfl rfl (Nat.le_of_ble_eq_true rfl) ?_
            rw [hA.1, show decide (nI 0 = 0) = true from rfl]
            refine r_if_ne (tgt := 22) dX10_readsHouse_18 (by decide) (fun _ => ?_) (fun hz => absurd hz (show ¬ _ from (by decide)))
            refine r_aload_n dX10_readsHouse_22 rfl ?_
            refine r_virt (kc2 := 0) (ks2 := 0) (c_goesT m R.1 hM hT hA.2.1 hA.2.2.1 hi2) lk_X10_256 mc_X10_goes dX10_readsHouse_23 (kM_0 hM) (by decide) rfl rfl (Nat.le_of_ble_eq_true rfl) (by decide) (by decide) (fun _ _ _ _ _ _ h => nomatch h.1) ?_
            rintro v2 n2 kd2 I2 J2 P2 ⟨h00, rfl, rfl, rfl, hf2, hk2⟩
            cases h00
            simp only [Option.toList, List.nil_append]
            have hA2 := hA.go hf2 hk2 hi2
            have hh2 : hFr m I I2 J J2 := (nuFr.g hf2).h
            have k27 : I2 m 27 = nI (rQ R).1 := (hf2.2.1 _ (by decide)).trans h27
            refine r_aload_n dX10_readsHouse_26 rfl ?_
            refine r_virt (kc2 := 0) (ks2 := 0) (c_perh1 (i := R.1 + 1) hM hT hA2 k2) lk_X10_321 mc_X10_perhaps dX10_readsHouse_27 (kM_0 hM) (by decide) rfl rfl (Nat.le_of_ble_eq_true rfl) (by decide) (by decide) (fun _ _ _ _ _ _ h => nomatch h.1.choose_spec.1) ?_
            rintro v3 n3 kd3 I3 J3 P3 ⟨⟨w3, h00, hv3⟩, rfl, rfl, rfl, hf3, hy3, hn3⟩
            cases h00
            simp only [Option.toList, List.nil_append, List.cons_append]
            rw [hv3 q1, huu]
            have hA3 := hn3 q1
            have k327 : I3 m 27 = nI (rQ R).1 := (hf3.2.1 27 (by decide) (by decide) (by decide)).trans k27
            refine r_istore_n dX10_readsHouse_30 (by decide) ?_
            refine r_iload_n dX10_readsHouse_31 rfl ?_
            refine r_iconst (v := (-1)) dX10_readsHouse_32 (by decide) ?_
            refine r_icmp_ne (tgt := 40) dX10_readsHouse_33 (by decide) (fun _ => ?_) (fun hz => absurd hz (show ¬ _ from (nI_m1 (by omega))))
            refine r_aload_n dX10_readsHouse_40 rfl ?_
            refine r_virt (kc2 := 0) (ks2 := 0) (c_perh1 (i := R.1 + 1 + 1) hM hT hA3 k3) lk_X10_321 mc_X10_perhaps dX10_readsHouse_41 (kM_0 hM) (by decide) rfl rfl (Nat.le_of_ble_eq_true rfl) (by decide) (by decide) (fun _ _ _ _ _ _ h => nomatch h.1.choose_spec.1) ?_
            rintro v4 n4 kd4 I4 J4 P4 ⟨⟨w4, h00, hv4⟩, rfl, rfl, rfl, hf4, hy4, hn4⟩
            cases h00
            simp only [Option.toList, List.nil_append, List.cons_append]
            refine r_istore_n dX10_readsHouse_44 (by decide) ?_
            refine RuZ.mono (w_rhB45 (h := (rQ R).1) hM (by omega) ((hf4.2.1 27 (by decide) (by decide) (by decide)).trans k327) (by rw [(hy4 q2).1, decide_eq_false (nI_lt4 q2 (nuF_lt _ _ _ _))]) ((hh2.tr hf3.h).tr hf4.h)) (fun z n' kd' I' J' P' hz => ?_)
            obtain ⟨g1, g2, g3, g4, g5, g6, g7⟩ := hz
            refine ⟨g1, g2, g3, g4, g5, ?_⟩
            rw [hHs]
            have hx9 := stk_nx (tkT len X) (rDe (rQ R).1 (rNumV (tkT len X) (nI 0) (nI 99) ((R.1 + 2, R.2.1, R.2.2.1, R.2.2.2.1, va_up R.2.2.2.2.1 (rQ R).1 (nI uu), R.2.2.2.2.2.1, SS.house (rQ R)) : RS)) (R.1 + 2, nI (nuF (tkT len X) 0 99 (R.1 + 2)), nI ((tkT len X).2.2.2.1 (R.1 + 2)), R.2.2.2.1, va_up R.2.2.2.2.1 (rQ R).1 (nI uu), R.2.2.2.2.2.1, SS.house (rQ R))) (nI_lt4 q2 (nuF_lt _ _ _ _))
            unfold rPo
            rw [hx9.1, hx9.2]
            exact ⟨fun z => absurd z (by show ¬ nI (nuF (tkT len X) 0 99 (R.1 + 2)) = nI 0; exact nI_lt4 q2 (nuF_lt _ _ _ _)), fun _ => ⟨by rw [g6]; exact ((hy4 q2)).1, by rw [g7]; exact ((hy4 q2)).2⟩⟩
        · have hHs : rHouse (tkT len X) R = rSays (tkT len X) (rQ R).1 ((R.1 + 2, R.2.1, R.2.2.1, R.2.2.2.1, va_up R.2.2.2.2.1 (rQ R).1 (nI uu), R.2.2.2.2.2.1, SS.house (rQ R)) : RS) := by
            rw [hH1, hH2]
            congr 1
            exact if_neg (fun z => k3 z.1)
          refine r_aload_n dX10_readsHouse_0 rfl ?_
          refine r_getI dX10_readsHouse_1 fl_X10_266 rfl (kM_0 hM) ?_
          rw [h27]
          refine r_bipush (v := nI 8) dX10_readsHouse_4 (by decide) ?_
          refine r_icmp_ne (tgt := 14) dX10_readsHouse_6 (by decide) (fun _ => ?_) (fun hz => absurd hz (show ¬ _ from (fun z => hlt8 ((nI_eq (by omega) (by decide)).mp z))))
          refine r_aload_n dX10_readsHouse_14 rfl ?_
          refine r_virtE (c_good m hM) lk_X10_252 mc_X10_isGood dX10_readsHouse_15 (kM_0 hM) (by decide) rfl rfl (Nat.le_of_ble_eq_true rfl) ?_
          rw [hA.1, show decide (nI 0 = 0) = true from rfl]
          refine r_if_ne (tgt := 22) dX10_readsHouse_18 (by decide) (fun _ => ?_) (fun hz => absurd hz (show ¬ _ from (by decide)))
          refine r_aload_n dX10_readsHouse_22 rfl ?_
          refine r_virt (kc2 := 0) (ks2 := 0) (c_goesT m R.1 hM hT hA.2.1 hA.2.2.1 hi2) lk_X10_256 mc_X10_goes dX10_readsHouse_23 (kM_0 hM) (by decide) rfl rfl (Nat.le_of_ble_eq_true rfl) (by decide) (by decide) (fun _ _ _ _ _ _ h => nomatch h.1) ?_
          rintro v2 n2 kd2 I2 J2 P2 ⟨h00, rfl, rfl, rfl, hf2, hk2⟩
          cases h00
          simp only [Option.toList, List.nil_append]
          have hA2 := hA.go hf2 hk2 hi2
          have hh2 : hFr m I I2 J J2 := (nuFr.g hf2).h
          have k27 : I2 m 27 = nI (rQ R).1 := (hf2.2.1 _ (by decide)).trans h27
          refine r_aload_n dX10_readsHouse_26 rfl ?_
          refine r_virt (kc2 := 0) (ks2 := 0) (c_perh1 (i := R.1 + 1) hM hT hA2 k2) lk_X10_321 mc_X10_perhaps dX10_readsHouse_27 (kM_0 hM) (by decide) rfl rfl (Nat.le_of_ble_eq_true rfl) (by decide) (by decide) (fun _ _ _ _ _ _ h => nomatch h.1.choose_spec.1) ?_
          rintro v3 n3 kd3 I3 J3 P3 ⟨⟨w3, h00, hv3⟩, rfl, rfl, rfl, hf3, hy3, hn3⟩
          cases h00
          simp only [Option.toList, List.nil_append, List.cons_append]
          rw [hv3 q1, huu]
          have hA3 := hn3 q1
          have k327 : I3 m 27 = nI (rQ R).1 := (hf3.2.1 27 (by decide) (by decide) (by decide)).trans k27
          have hn23 := (nuFr.g hf2).tr hf3
          refine r_istore_n dX10_readsHouse_30 (by decide) ?_
          refine r_iload_n dX10_readsHouse_31 rfl ?_
          refine r_iconst (v := (-1)) dX10_readsHouse_32 (by decide) ?_
          refine r_icmp_ne (tgt := 40) dX10_readsHouse_33 (by decide) (fun _ => ?_) (fun hz => absurd hz (show ¬ _ from (nI_m1 (by omega))))
          refine r_aload_n dX10_readsHouse_40 rfl ?_
          refine r_virtE (c_perh0 (i := R.1 + 1 + 1) hM hA3 k3) lk_X10_321 mc_X10_perhaps dX10_readsHouse_41 (kM_0 hM) (by decide) rfl rfl (Nat.le_of_ble_eq_true rfl) ?_
          refine r_istore_n dX10_readsHouse_44 (by decide) ?_
          refine r_aload_n dX10_readsHouse_45 rfl ?_
          refine r_getR dX10_readsHouse_46 fl_X10_53 rfl (kM_0 hM) (pM_35 hM) ?_
          refine r_aload_n dX10_readsHouse_49 rfl ?_
          refine r_getI dX10_readsHouse_50 fl_X10_266 rfl (kM_0 hM) ?_
          rw [k327]
          refine r_iload_n dX10_readsHouse_53 rfl ?_
          refine r_iconst (v := (-1)) dX10_readsHouse_54 (by decide) ?_
          refine r_icmp_ne (tgt := 62) dX10_readsHouse_55 (by decide) (fun _ => ?_) (fun hz => absurd hz (show ¬ _ from (nI_m1 (by omega))))
          refine r_iload_n dX10_readsHouse_62 rfl ?_
          refine r_iast dX10_readsHouse_63 (aM_35 hM) (nI_in8 8 (by omega) (by decide)) (nI_clamp (by omega)) ?_
          refine r_aload_n dX10_readsHouse_64 rfl ?_
          refine r_getR dX10_readsHouse_65 fl_X10_56 rfl (kM_0 hM) (pM_36 hM) ?_
          refine r_aload_n dX10_readsHouse_68 rfl ?_
          refine r_getI dX10_readsHouse_69 fl_X10_266 rfl (kM_0 hM) ?_
          rw [am_up_n (b := m) _ _ (by omega), k327]
          refine r_iload_n dX10_readsHouse_72 rfl ?_
          refine r_iconst (v := (-1)) dX10_readsHouse_73 (by decide) ?_
          refine r_icmp_ne (tgt := 81) dX10_readsHouse_74 (by decide) (fun hz => absurd (show _ from rfl) hz) (fun _ => ?_)
          refine r_iconst (v := nI 0) dX10_readsHouse_77 (by decide) ?_
          refine r_goto (tgt := 82) dX10_readsHouse_78 (by decide) ?_
          refine r_iast dX10_readsHouse_82 (aM_36 hM) (nI_in8 8 (by omega) (by decide)) (nI_clamp (by omega)) ?_
          obtain ⟨I9, hI9⟩ : ∃ Y9 : mI, Y9 = va_up (va_up I3 (m + 13) (va_up (I3 (m + 13)) (rQ R).1 (nI uu))) (m + 14) (va_up (va_up I3 (m + 13) (va_up (I3 (m + 13)) (rQ R).1 (nI uu)) (m + 14)) (rQ R).1 (nI 0)) := ⟨_, rfl⟩
          rw [← hI9]
          have e9 : I9 m = I3 m := by rw [hI9, am_up_n _ _ (by omega), am_up_n _ _ (by omega)]
          have ea9 : ∀ a, a ≠ m + 13 → a ≠ m + 14 → I9 a = I3 a := fun a a1 a2 => by rw [hI9, am_up_n _ _ a2, am_up_n _ _ a1]
          have e13 : I9 (m + 13) = va_up (I3 (m + 13)) (rQ R).1 (nI uu) := by rw [hI9, am_up_n _ _ (by omega), am_up_s]
          have e14 : I9 (m + 14) = va_up (I3 (m + 14)) (rQ R).1 (nI 0) := by rw [hI9, am_up_s, am_up_n _ _ (by omega)]
          have hf9 : hFr m I3 I9 J3 J3 := ⟨fun a x => ea9 a (by omega) (by omega), fun j x => by rw [e9], fun _ _ => rfl, fun _ _ => rfl, kP.same (by rw [e9]) (by rw [e9])⟩
          clear hI9
          have hA9 : rA m (tkT len X) I9 J3 (R.1 + 2) := ⟨by rw [e9]; exact hA3.1, hA3.2.1.cg (by rw [e9]) (ea9 _ (by omega) (by omega)), hA3.2.2.1.cg (fun j h1 h2 => by rw [e9]) rfl, hA3.2.2.2⟩
          have frm : ∀ j, (j < 20 ∨ 25 < j) → j ≠ 16 → j ≠ 17 → I9 m j = I m j := fun j j1 j2 j3 => by rw [e9]; exact (hn23).2.1 j j2 j3 j1
          have fra : ∀ a, a ≠ m → a ≠ m + 13 → a ≠ m + 14 → I9 a = I a := fun a a1 a2 a3 => by rw [ea9 a a2 a3]; exact (hn23).1 a a1
          have hw := wd_len (X := X) (i := R.1) hl
          have hw1 := hw.1 hk
          have hmon : (tkT len X).2.2.2.1 (R.1 + 1) ≤ (tkT len X).2.2.2.1 (R.1 + 2) := Nat.le_of_lt (wd_len (X := X) (i := R.1 + 1) hl |>.2.2.2 (by rw [k2]; decide))
          have hrow9 : ∀ x, x < (rQ R).1 → rRow m len top X I9 cs tx x := fun x hx => (hrow x hx).cg (by rw [fra _ (by omega) (by omega) (by omega)]) (by rw [fra _ (by omega) (by omega) (by omega)]) (by rw [fra _ (by omega) (by omega) (by omega)]) (by rw [fra _ (by omega) (by omega) (by omega)]) (by rw [fra _ (by omega) (by omega) (by omega)]) (Nat.le_refl _) (fun k _ => by rw [fra _ (by omega) (by omega) (by omega)]) rfl rfl
          have hSD9 : rSD m ((rQ R).1 + 1) I9 ((rQ R).1 + 1) (((R.1 + 2, R.2.1, R.2.2.1, R.2.2.2.1, va_up R.2.2.2.2.1 (rQ R).1 (nI uu), R.2.2.2.2.2.1, SS.house (rQ R)) : RS)).2.2.2.2.1 (((R.1 + 2, R.2.1, R.2.2.1, R.2.2.2.1, va_up R.2.2.2.2.1 (rQ R).1 (nI uu), R.2.2.2.2.2.1, SS.house (rQ R)) : RS)).2.2.2.2.2.1 := by
            intro x hx
            obtain ⟨u, v, s1, s2, s3, s4, s5, s6⟩ := hSD x hx
            by_cases c : x = (rQ R).1
            · subst c
              obtain ⟨z1, z2⟩ := s6 (Nat.le_refl _)
              subst z1 z2
              exact ⟨uu, 0, hu99, by decide, am_up_s _ _ _, s4, fun _ => ⟨by rw [e13, am_up_s], by rw [e14, am_up_s]⟩, fun z => absurd z (Nat.not_succ_le_self _)⟩
            · refine ⟨u, v, s1, s2, (am_up_n _ _ c).trans s3, s4, fun z => ?_, fun z => s6 (by omega)⟩
              have s5' := s5 (by omega)
              rw [e13, e14, am_up_n _ _ c, am_up_n _ _ c, (hn23).1 _ (by omega), (hn23).1 _ (by omega)]
              exact s5'
          rw [hHs]
          by_cases c132 : tkK (tkT len X) (R.1 + 2) = nI 132
          · exact w_rhS (S := ((R.1 + 2, R.2.1, R.2.2.1, R.2.2.2.1, va_up R.2.2.2.2.1 (rQ R).1 (nI uu), R.2.2.2.2.2.1, SS.house (rQ R)) : RS)) (q0 := rQ R) (cs := cs) (tx := tx) (top := top) hM hl (by omega) hf0 hA9 rfl rfl hqC (by show ofs cs (rQ R).1 + 1 ≤ R.1 + 2; omega) (by show _ ≤ 2 * (tkT len X).2.2.2.1 (R.1 + 2); omega) (by show _ ≤ 2 * (tkT len X).2.2.2.1 (R.1 + 2); omega) ((frm 27 (by decide) (by decide) (by decide)).trans h27) ((frm 28 (by decide) (by decide) (by decide)).trans (h28.trans (qh (by omega)).1.symm)) ((frm 33 (by decide) (by decide) (by decide)).trans (h33.trans (qh (by omega)).2.symm)) ((frm 34 (by decide) (by decide) (by decide)).trans h34) (by obtain ⟨b, hb⟩ := hb1; exact ⟨b, (qh (by omega)).2.trans hb⟩) hb2 (by obtain ⟨M, hb⟩ := hMo; exact ⟨M, (qh (by omega)).1.trans hb.1, hb.2⟩) ((frm 30 (by decide) (by decide) (by decide)).trans h30) (by show top + 2 ≤ 2 * (R.1 + 2); omega) hrow9 hok hSD9 ((hn23).h.tr hf9) c132
          · exact w_rhN (S := ((R.1 + 2, R.2.1, R.2.2.1, R.2.2.2.1, va_up R.2.2.2.2.1 (rQ R).1 (nI uu), R.2.2.2.2.2.1, SS.house (rQ R)) : RS)) (q0 := rQ R) (cs := cs) (tx := tx) (top := top) hM hl (by omega) hf0 hA9 rfl rfl hqC (by show ofs cs (rQ R).1 + 1 ≤ R.1 + 2; omega) (by show _ ≤ 2 * (tkT len X).2.2.2.1 (R.1 + 2); omega) (by show _ ≤ 2 * (tkT len X).2.2.2.1 (R.1 + 2); omega) ((frm 27 (by decide) (by decide) (by decide)).trans h27) ((frm 28 (by decide) (by decide) (by decide)).trans (h28.trans (qh (by omega)).1.symm)) ((frm 33 (by decide) (by decide) (by decide)).trans (h33.trans (qh (by omega)).2.symm)) ((frm 34 (by decide) (by decide) (by decide)).trans h34) (by obtain ⟨b, hb⟩ := hb1; exact ⟨b, (qh (by omega)).2.trans hb⟩) hb2 (by obtain ⟨M, hb⟩ := hMo; exact ⟨M, (qh (by omega)).1.trans hb.1, hb.2⟩) ((frm 30 (by decide) (by decide) (by decide)).trans h30) (by show top + 2 ≤ 2 * (R.1 + 2); omega) hrow9 hok hSD9 ((hn23).h.tr hf9) c132
      · have hn1 := nuF_bad (R := ((R.1 + 1, R.2.1, R.2.2.1, R.2.2.2.1, R.2.2.2.2.1, R.2.2.2.2.2.1, SS.house (rQ R)) : RS)) (lo := 0) (hi := 99) hf0 q1
        have hHs : rHouse (tkT len X) R = rNx (tkT len X) (rSo (rQ R).1 (rNumV (tkT len X) (nI 0) (nI 99) ((R.1 + 1, R.2.1, R.2.2.1, R.2.2.2.1, R.2.2.2.2.1, R.2.2.2.2.2.1, SS.house (rQ R)) : RS)) (R.1 + 1, nI (nuF (tkT len X) 0 99 (R.1 + 1)), nI ((tkT len X).2.2.2.1 (R.1 + 1)), R.2.2.2.1, R.2.2.2.2.1, R.2.2.2.2.2.1, SS.house (rQ R))) := by
          have hb := (stk_nx (tkT len X) (rSo (rQ R).1 (rNumV (tkT len X) (nI 0) (nI 99) ((R.1 + 1, R.2.1, R.2.2.1, R.2.2.2.1, R.2.2.2.2.1, R.2.2.2.2.2.1, SS.house (rQ R)) : RS)) (R.1 + 1, nI (nuF (tkT len X) 0 99 (R.1 + 1)), nI ((tkT len X).2.2.2.1 (R.1 + 1)), R.2.2.2.1, R.2.2.2.2.1, R.2.2.2.2.2.1, SS.house (rQ R))) (nI_lt4 q1 (nuF_lt _ _ _ _))).1
          rw [hH1]
          have hd : rSons (tkT len X) (rQ R).1 ((R.1 + 1, R.2.1, R.2.2.1, R.2.2.2.1, R.2.2.2.2.1, R.2.2.2.2.2.1, SS.house (rQ R)) : RS) = rNx (tkT len X) (rSo (rQ R).1 (rNumV (tkT len X) (nI 0) (nI 99) ((R.1 + 1, R.2.1, R.2.2.1, R.2.2.2.1, R.2.2.2.2.1, R.2.2.2.2.2.1, SS.house (rQ R)) : RS)) (R.1 + 1, nI (nuF (tkT len X) 0 99 (R.1 + 1)), nI ((tkT len X).2.2.2.1 (R.1 + 1)), R.2.2.2.1, R.2.2.2.2.1, R.2.2.2.2.2.1, SS.house (rQ R))) := by
            unfold rSons
            rw [if_pos (show rk (tkT len X) ((R.1 + 1, R.2.1, R.2.2.1, R.2.2.2.1, R.2.2.2.2.1, R.2.2.2.2.2.1, SS.house (rQ R)) : RS) = nI 2 from k2), hn1.1, fail_f (R := ((R.1 + 1, R.2.1, R.2.2.1, R.2.2.2.1, R.2.2.2.2.1, R.2.2.2.2.2.1, SS.house (rQ R)) : RS)) hf0]
            refine if_neg (fun z => ?_)
            rw [hb] at z
            exact nI_lt4 q1 (nuF_lt _ _ _ _) z.2
          rw [hd]
          refine if_neg (fun z => ?_)
          rw [hb] at z
          exact nI_lt4 q1 (nuF_lt _ _ _ _) z.2
        refine r_aload_n dX10_readsHouse_0 rfl ?_
        refine r_getI dX10_readsHouse_1 fl_X10_266 rfl (kM_0 hM) ?_
        rw [h27]
        refine r_bipush (v := nI 8) dX10_readsHouse_4 (by decide) ?_
        refine r_icmp_ne (tgt := 14) dX10_readsHouse_6 (by decide) (fun _ => ?_) (fun hz => absurd hz (show ¬ _ from (fun z => hlt8 ((nI_eq (by omega) (by decide)).mp z))))
        refine r_aload_n dX10_readsHouse_14 rfl ?_
        refine r_virtE (c_good m hM) lk_X10_252 mc_X10_isGood dX10_readsHouse_15 (kM_0 hM) (by decide) rfl rfl (Nat.le_of_ble_eq_true rfl) ?_
        rw [hA.1, show decide (nI 0 = 0) = true from rfl]
        refine r_if_ne (tgt := 22) dX10_readsHouse_18 (by decide) (fun _ => ?_) (fun hz => absurd hz (show ¬ _ from (by decide)))
        refine r_aload_n dX10_readsHouse_22 rfl ?_
        refine r_virt (kc2 := 0) (ks2 := 0) (c_goesT m R.1 hM hT hA.2.1 hA.2.2.1 hi2) lk_X10_256 mc_X10_goes dX10_readsHouse_23 (kM_0 hM) (by decide) rfl rfl (Nat.le_of_ble_eq_true rfl) (by decide) (by decide) (fun _ _ _ _ _ _ h => nomatch h.1) ?_
        rintro v2 n2 kd2 I2 J2 P2 ⟨h00, rfl, rfl, rfl, hf2, hk2⟩
        cases h00
        simp only [Option.toList, List.nil_append]
        have hA2 := hA.go hf2 hk2 hi2
        have hh2 : hFr m I I2 J J2 := (nuFr.g hf2).h
        have k27 : I2 m 27 = nI (rQ R).1 := (hf2.2.1 _ (by decide)).trans h27
        refine r_aload_n dX10_readsHouse_26 rfl ?_
        refine r_virt (kc2 := 0) (ks2 := 0) (c_perh1 (i := R.1 + 1) hM hT hA2 k2) lk_X10_321 mc_X10_perhaps dX10_readsHouse_27 (kM_0 hM) (by decide) rfl rfl (Nat.le_of_ble_eq_true rfl) (by decide) (by decide) (fun _ _ _ _ _ _ h => nomatch h.1.choose_spec.1) ?_
        rintro v3 n3 kd3 I3 J3 P3 ⟨⟨w3, h00, hv3⟩, rfl, rfl, rfl, hf3, hy3, hn3⟩
        cases h00
        simp only [Option.toList, List.nil_append, List.cons_append]
        refine r_istore_n dX10_readsHouse_30 (by decide) ?_
        refine RuZ.mono (w_rhB31 (h := (rQ R).1) hM (by omega) ((hf3.2.1 27 (by decide) (by decide) (by decide)).trans k27) (by rw [(hy3 q1).1, decide_eq_false (nI_lt4 q1 (nuF_lt _ _ _ _))]) (hh2.tr hf3.h)) (fun z n' kd' I' J' P' hz => ?_)
        obtain ⟨g1, g2, g3, g4, g5, g6, g7⟩ := hz
        refine ⟨g1, g2, g3, g4, g5, ?_⟩
        rw [hHs]
        have hx9 := stk_nx (tkT len X) (rSo (rQ R).1 (rNumV (tkT len X) (nI 0) (nI 99) ((R.1 + 1, R.2.1, R.2.2.1, R.2.2.2.1, R.2.2.2.2.1, R.2.2.2.2.2.1, SS.house (rQ R)) : RS)) (R.1 + 1, nI (nuF (tkT len X) 0 99 (R.1 + 1)), nI ((tkT len X).2.2.2.1 (R.1 + 1)), R.2.2.2.1, R.2.2.2.2.1, R.2.2.2.2.2.1, SS.house (rQ R))) (nI_lt4 q1 (nuF_lt _ _ _ _))
        unfold rPo
        rw [hx9.1, hx9.2]
        exact ⟨fun z => absurd z (by show ¬ nI (nuF (tkT len X) 0 99 (R.1 + 1)) = nI 0; exact nI_lt4 q1 (nuF_lt _ _ _ _)), fun _ => ⟨by rw [g6]; exact ((hy3 q1)).1, by rw [g7]; exact ((hy3 q1)).2⟩⟩
    · have hHs : rHouse (tkT len X) R = rSays (tkT len X) (rQ R).1 ((R.1 + 1, R.2.1, R.2.2.1, R.2.2.2.1, R.2.2.2.2.1, R.2.2.2.2.2.1, SS.house (rQ R)) : RS) := by
        rw [hH1]
        congr 1
        exact if_neg (fun z => k2 z)
      refine r_aload_n dX10_readsHouse_0 rfl ?_
      refine r_getI dX10_readsHouse_1 fl_X10_266 rfl (kM_0 hM) ?_
      rw [h27]
      refine r_bipush (v := nI 8) dX10_readsHouse_4 (by decide) ?_
      refine r_icmp_ne (tgt := 14) dX10_readsHouse_6 (by decide) (fun _ => ?_) (fun hz => absurd hz (show ¬ _ from (fun z => hlt8 ((nI_eq (by omega) (by decide)).mp z))))
      refine r_aload_n dX10_readsHouse_14 rfl ?_
      refine r_virtE (c_good m hM) lk_X10_252 mc_X10_isGood dX10_readsHouse_15 (kM_0 hM) (by decide) rfl rfl (Nat.le_of_ble_eq_true rfl) ?_
      rw [hA.1, show decide (nI 0 = 0) = true from rfl]
      refine r_if_ne (tgt := 22) dX10_readsHouse_18 (by decide) (fun _ => ?_) (fun hz => absurd hz (show ¬ _ from (by decide)))
      refine r_aload_n dX10_readsHouse_22 rfl ?_
      refine r_virt (kc2 := 0) (ks2 := 0) (c_goesT m R.1 hM hT hA.2.1 hA.2.2.1 hi2) lk_X10_256 mc_X10_goes dX10_readsHouse_23 (kM_0 hM) (by decide) rfl rfl (Nat.le_of_ble_eq_true rfl) (by decide) (by decide) (fun _ _ _ _ _ _ h => nomatch h.1) ?_
      rintro v2 n2 kd2 I2 J2 P2 ⟨h00, rfl, rfl, rfl, hf2, hk2⟩
      cases h00
      simp only [Option.toList, List.nil_append]
      have hA2 := hA.go hf2 hk2 hi2
      have hh2 : hFr m I I2 J J2 := (nuFr.g hf2).h
      have k27 : I2 m 27 = nI (rQ R).1 := (hf2.2.1 _ (by decide)).trans h27
      refine r_aload_n dX10_readsHouse_26 rfl ?_
      refine r_virtE (c_perh0 hM hA2 k2) lk_X10_321 mc_X10_perhaps dX10_readsHouse_27 (kM_0 hM) (by decide) rfl rfl (Nat.le_of_ble_eq_true rfl) ?_
      refine r_istore_n dX10_readsHouse_30 (by decide) ?_
      refine r_iload_n dX10_readsHouse_31 rfl ?_
      refine r_iconst (v := (-1)) dX10_readsHouse_32 (by decide) ?_
      refine r_icmp_ne (tgt := 40) dX10_readsHouse_33 (by decide) (fun hz => absurd (show _ from rfl) hz) (fun _ => ?_)
      refine r_iconst (v := (-1)) dX10_readsHouse_36 (by decide) ?_
      refine r_goto (tgt := 44) dX10_readsHouse_37 (by decide) ?_
      refine r_istore_n dX10_readsHouse_44 (by decide) ?_
      refine r_aload_n dX10_readsHouse_45 rfl ?_
      refine r_getR dX10_readsHouse_46 fl_X10_53 rfl (kM_0 hM) (pM_35 hM) ?_
      refine r_aload_n dX10_readsHouse_49 rfl ?_
      refine r_getI dX10_readsHouse_50 fl_X10_266 rfl (kM_0 hM) ?_
      rw [k27]
      refine r_iload_n dX10_readsHouse_53 rfl ?_
      refine r_iconst (v := (-1)) dX10_readsHouse_54 (by decide) ?_
      refine r_icmp_ne (tgt := 62) dX10_readsHouse_55 (by decide) (fun hz => absurd (show _ from rfl) hz) (fun _ => ?_)
      refine r_iconst (v := nI 0) dX10_readsHouse_58 (by decide) ?_
      refine r_goto (tgt := 63) dX10_readsHouse_59 (by decide) ?_
      refine r_iast dX10_readsHouse_63 (aM_35 hM) (nI_in8 8 (by omega) (by decide)) (nI_clamp (by omega)) ?_
      refine r_aload_n dX10_readsHouse_64 rfl ?_
      refine r_getR dX10_readsHouse_65 fl_X10_56 rfl (kM_0 hM) (pM_36 hM) ?_
      refine r_aload_n dX10_readsHouse_68 rfl ?_
      refine r_getI dX10_readsHouse_69 fl_X10_266 rfl (kM_0 hM) ?_
      rw [am_up_n (b := m) _ _ (by omega), k27]
      refine r_iload_n dX10_readsHouse_72 rfl ?_
      refine r_iconst (v := (-1)) dX10_readsHouse_73 (by decide) ?_
      refine r_icmp_ne (tgt := 81) dX10_readsHouse_74 (by decide) (fun hz => absurd (show _ from rfl) hz) (fun _ => ?_)
      refine r_iconst (v := nI 0) dX10_readsHouse_77 (by decide) ?_
      refine r_goto (tgt := 82) dX10_readsHouse_78 (by decide) ?_
      refine r_iast dX10_readsHouse_82 (aM_36 hM) (nI_in8 8 (by omega) (by decide)) (nI_clamp (by omega)) ?_
      obtain ⟨I9, hI9⟩ : ∃ Y9 : mI, Y9 = va_up (va_up I2 (m + 13) (va_up (I2 (m + 13)) (rQ R).1 (nI 0))) (m + 14) (va_up (va_up I2 (m + 13) (va_up (I2 (m + 13)) (rQ R).1 (nI 0)) (m + 14)) (rQ R).1 (nI 0)) := ⟨_, rfl⟩
      rw [← hI9]
      have e9 : I9 m = I2 m := by rw [hI9, am_up_n _ _ (by omega), am_up_n _ _ (by omega)]
      have ea9 : ∀ a, a ≠ m + 13 → a ≠ m + 14 → I9 a = I2 a := fun a a1 a2 => by rw [hI9, am_up_n _ _ a2, am_up_n _ _ a1]
      have e13 : I9 (m + 13) = va_up (I2 (m + 13)) (rQ R).1 (nI 0) := by rw [hI9, am_up_n _ _ (by omega), am_up_s]
      have e14 : I9 (m + 14) = va_up (I2 (m + 14)) (rQ R).1 (nI 0) := by rw [hI9, am_up_s, am_up_n _ _ (by omega)]
      have hf9 : hFr m I2 I9 J2 J2 := ⟨fun a x => ea9 a (by omega) (by omega), fun j x => by rw [e9], fun _ _ => rfl, fun _ _ => rfl, kP.same (by rw [e9]) (by rw [e9])⟩
      clear hI9
      have hA9 : rA m (tkT len X) I9 J2 (R.1 + 1) := ⟨by rw [e9]; exact hA2.1, hA2.2.1.cg (by rw [e9]) (ea9 _ (by omega) (by omega)), hA2.2.2.1.cg (fun j h1 h2 => by rw [e9]) rfl, hA2.2.2.2⟩
      have frm : ∀ j, (j < 20 ∨ 25 < j) → j ≠ 16 → j ≠ 17 → I9 m j = I m j := fun j j1 j2 j3 => by rw [e9]; exact ((nuFr.g hf2)).2.1 j j2 j3 j1
      have fra : ∀ a, a ≠ m → a ≠ m + 13 → a ≠ m + 14 → I9 a = I a := fun a a1 a2 a3 => by rw [ea9 a a2 a3]; exact ((nuFr.g hf2)).1 a a1
      have hw := wd_len (X := X) (i := R.1) hl
      have hw1 := hw.1 hk
      have hmon : (tkT len X).2.2.2.1 (R.1 + 1) ≤ (tkT len X).2.2.2.1 (R.1 + 1) := Nat.le_refl _
      have hrow9 : ∀ x, x < (rQ R).1 → rRow m len top X I9 cs tx x := fun x hx => (hrow x hx).cg (by rw [fra _ (by omega) (by omega) (by omega)]) (by rw [fra _ (by omega) (by omega) (by omega)]) (by rw [fra _ (by omega) (by omega) (by omega)]) (by rw [fra _ (by omega) (by omega) (by omega)]) (by rw [fra _ (by omega) (by omega) (by omega)]) (Nat.le_refl _) (fun k _ => by rw [fra _ (by omega) (by omega) (by omega)]) rfl rfl
      have hSD9 : rSD m ((rQ R).1 + 1) I9 ((rQ R).1 + 1) (((R.1 + 1, R.2.1, R.2.2.1, R.2.2.2.1, R.2.2.2.2.1, R.2.2.2.2.2.1, SS.house (rQ R)) : RS)).2.2.2.2.1 (((R.1 + 1, R.2.1, R.2.2.1, R.2.2.2.1, R.2.2.2.2.1, R.2.2.2.2.2.1, SS.house (rQ R)) : RS)).2.2.2.2.2.1 := by
        intro x hx
        obtain ⟨u, v, s1, s2, s3, s4, s5, s6⟩ := hSD x hx
        by_cases c : x = (rQ R).1
        · subst c
          obtain ⟨z1, z2⟩ := s6 (Nat.le_refl _)
          subst z1 z2
          exact ⟨0, 0, by decide, by decide, s3, s4, fun _ => ⟨by rw [e13, am_up_s], by rw [e14, am_up_s]⟩, fun _ => ⟨rfl, rfl⟩⟩
        · refine ⟨u, v, s1, s2, s3, s4, fun z => ?_, fun z => s6 (by omega)⟩
          have s5' := s5 (by omega)
          rw [e13, e14, am_up_n _ _ c, am_up_n _ _ c, ((nuFr.g hf2)).1 _ (by omega), ((nuFr.g hf2)).1 _ (by omega)]
          exact s5'
      rw [hHs]
      by_cases c132 : tkK (tkT len X) (R.1 + 1) = nI 132
      · exact w_rhS (S := ((R.1 + 1, R.2.1, R.2.2.1, R.2.2.2.1, R.2.2.2.2.1, R.2.2.2.2.2.1, SS.house (rQ R)) : RS)) (q0 := rQ R) (cs := cs) (tx := tx) (top := top) hM hl (by omega) hf0 hA9 rfl rfl hqC (by show ofs cs (rQ R).1 + 1 ≤ R.1 + 1; omega) (by show _ ≤ 2 * (tkT len X).2.2.2.1 (R.1 + 1); omega) (by show _ ≤ 2 * (tkT len X).2.2.2.1 (R.1 + 1); omega) ((frm 27 (by decide) (by decide) (by decide)).trans h27) ((frm 28 (by decide) (by decide) (by decide)).trans (h28.trans (qh (by omega)).1.symm)) ((frm 33 (by decide) (by decide) (by decide)).trans (h33.trans (qh (by omega)).2.symm)) ((frm 34 (by decide) (by decide) (by decide)).trans h34) (by obtain ⟨b, hb⟩ := hb1; exact ⟨b, (qh (by omega)).2.trans hb⟩) hb2 (by obtain ⟨M, hb⟩ := hMo; exact ⟨M, (qh (by omega)).1.trans hb.1, hb.2⟩) ((frm 30 (by decide) (by decide) (by decide)).trans h30) (by show top + 2 ≤ 2 * (R.1 + 1); omega) hrow9 hok hSD9 (((nuFr.g hf2)).h.tr hf9) c132
      · exact w_rhN (S := ((R.1 + 1, R.2.1, R.2.2.1, R.2.2.2.1, R.2.2.2.2.1, R.2.2.2.2.2.1, SS.house (rQ R)) : RS)) (q0 := rQ R) (cs := cs) (tx := tx) (top := top) hM hl (by omega) hf0 hA9 rfl rfl hqC (by show ofs cs (rQ R).1 + 1 ≤ R.1 + 1; omega) (by show _ ≤ 2 * (tkT len X).2.2.2.1 (R.1 + 1); omega) (by show _ ≤ 2 * (tkT len X).2.2.2.1 (R.1 + 1); omega) ((frm 27 (by decide) (by decide) (by decide)).trans h27) ((frm 28 (by decide) (by decide) (by decide)).trans (h28.trans (qh (by omega)).1.symm)) ((frm 33 (by decide) (by decide) (by decide)).trans (h33.trans (qh (by omega)).2.symm)) ((frm 34 (by decide) (by decide) (by decide)).trans h34) (by obtain ⟨b, hb⟩ := hb1; exact ⟨b, (qh (by omega)).2.trans hb⟩) hb2 (by obtain ⟨M, hb⟩ := hMo; exact ⟨M, (qh (by omega)).1.trans hb.1, hb.2⟩) ((frm 30 (by decide) (by decide) (by decide)).trans h30) (by show top + 2 ≤ 2 * (R.1 + 1); omega) hrow9 hok hSD9 (((nuFr.g hf2)).h.tr hf9) c132

