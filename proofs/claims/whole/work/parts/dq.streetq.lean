/-! STREET: the reference, whole -/
/-- a reading begins -/
def rIn (R : RS) : Prop := R.1 = 0 ∧ rf R = nI 0 ∧ R.2.2.1 = -1 ∧ R.2.2.2.1 = nI 0 ∧ (∀ x, x < 8 → R.2.2.2.2.1 x = nI 0 ∧ R.2.2.2.2.2.1 x = nI 0) ∧ (rQ R).1 = 0 ∧ (rQ R).2.1 = nI 9 ∧ (rQ R).2.2.1 = nI 0 ∧ (rQ R).2.2.2.1 = nI 0 ∧ (rQ R).2.2.2.2.1 = 0 ∧ (rQ R).2.2.2.2.2.1 = 0
/-- a street well read -/
def rFin (R : RS) (H M : Nat) (un : Bool) (cs : Nat → List Nat) (tx : Nat → List Int32) : Prop := (rQ R).1 = H ∧ (rQ R).2.1 = nI M ∧ (rQ R).2.2.1 = bz un ∧ okS H M cs ∧ okX H cs tx ∧ qC cs tx H (rQ R) ∧ (rQ R).2.2.2.2.2.1 ≤ 1000 ∧ ∀ x, x < 8 → ∃ u v, u ≤ 99 ∧ v ≤ 99 ∧ R.2.2.2.2.1 x = nI u ∧ R.2.2.2.2.2.1 x = nI v
/-- the life of a street just read -/
def eO (R : RS) : Lf := (fun x => nO (R.2.2.2.2.1 x), fun x => nO (R.2.2.2.2.2.1 x), fun _ => false, [], [])
theorem rFin.life {R : RS} {H M : Nat} {un : Bool} {cs : Nat → List Nat} {tx : Nat → List Int32} (h : rFin R H M un cs tx) : okL H M (eO R) ∧ ∀ x, x < 8 → R.2.2.2.2.1 x = nI ((eO R).1 x) ∧ R.2.2.2.2.2.1 x = nI ((eO R).2.1 x) := by
  obtain ⟨-, -, -, hs, -, -, -, k⟩ := h
  have main : ∀ x, x < 8 → ((eO R).1 x ≤ 99 ∧ (eO R).2.1 x ≤ 99) ∧ R.2.2.2.2.1 x = nI ((eO R).1 x) ∧ R.2.2.2.2.2.1 x = nI ((eO R).2.1 x) := fun x hx => by
    obtain ⟨u, v, u1, v1, u2, v2⟩ := k x hx
    have a : (eO R).1 x = u := by show nO (R.2.2.2.2.1 x) = u; rw [u2]; exact nO_nI (by omega)
    have b : (eO R).2.1 x = v := by show nO (R.2.2.2.2.2.1 x) = v; rw [v2]; exact nO_nI (by omega)
    rw [a, b]
    exact ⟨⟨u1, v1⟩, u2, v2⟩
  exact ⟨⟨fun x hx => (main x (by have := hs.2.1; omega)).1, ⟨by show (0 : Nat) ≤ 30; decide, fun a ha => absurd ha (List.not_mem_nil)⟩, ⟨by show (0 : Nat) ≤ 10; decide, fun a ha => absurd ha (List.not_mem_nil)⟩⟩, fun x hx => (main x hx).2⟩
theorem tk_ble {X : Nat → Int32} {len i : Nat} (hl : len ≤ 500) (hi : i < (tkT len X).2.1) : (tkT len X).2.2.2.1 i ≤ len := by
  by_cases z : tkK (tkT len X) i = nI 0
  · by_cases q : i < (lx X len 0).length
    · have hs := (lx_at i 0 (Nat.zero_le _) q).1
      rw [← tk_in hl q] at hs
      have s1 : (tkT len X).2.2.2.1 i < (tkAt (tkT len X) i).2.2 := hs.1
      have s2 := hs.2.1
      omega
    · rw [tk_n hl] at hi
      have e9 := tk_end (X := X) (len := len) hl (show i = (lx X len 0).length by omega)
      show (tkAt (tkT len X) i).2.1 ≤ len
      rw [e9]
      exact Nat.le_refl _
  · obtain ⟨-, s1⟩ := tkS_at hl z
    have s2 : (tkT len X).2.2.2.1 i < (tkAt (tkT len X) i).2.2 := s1.1
    have s3 := s1.2.1
    omega
theorem rLn.fin {m len : Nat} {X : Nat → Int32} {I : mI} {J : mJ} {R : RS} {cs : Nat → List Nat} {tx : Nat → List Int32} (hl : len ≤ 500) (h : rLn m len X 0 I J R cs tx) : ∃ M un, rFin R (rQ R).1 M un cs tx := by
  obtain ⟨⟨-, hA⟩, ⟨g1, -, -, -, -, ⟨un, hu⟩, -, M, hM, hM2⟩, -, ⟨q1, q2, q3, q4⟩, k, sd⟩ := h
  have hb := tk_ble (X := X) hl hA.2.2.2
  have hi := hA.2.2.2
  have hn : (tkT len X).2.1 ≤ 501 := (tks_len X len).2
  refine ⟨M, un, rfl, hM, hu, ⟨hM2, g1, by omega, fun x hx => ⟨(k x hx).1, (k x hx).2.1⟩⟩, ⟨by omega, fun x hx _ => (k x hx).2.2⟩, q1, by omega, fun x hx => ?_⟩
  obtain ⟨u, v, s1, s2, s3, s4, -⟩ := sd x hx
  exact ⟨u, v, s1, s2, s3, s4⟩
theorem rIn.ln {m len : Nat} {X : Nat → Int32} {I : mI} {J : mJ} {R : RS} (h : rIn R) (hA : rA m (tkT len X) I J 0) (h27 : I m 27 = nI 0) (h28 : I m 28 = nI 9) (h33 : I m 33 = nI 0) (h34 : I m 34 = nI 0) (h30 : I m 30 = nI 0) : rLn m len X 0 I J R (fun _ => []) (fun _ => []) := by
  obtain ⟨r1, r2, r3, r4, r5, r6, r7, r8, r9, ra, rb⟩ := h
  refine ⟨⟨r2, by rw [r1]; exact hA⟩, ⟨by rw [r6]; decide, by rw [r6]; exact h27, by rw [r7]; exact h28, by rw [r8]; exact h33, by rw [r4]; exact h34, ⟨false, r8⟩, ⟨false, r4⟩, 9, r7, by decide, by decide⟩, ⟨0, h30, Nat.zero_le _, fun x hx => by rw [r6] at hx; omega⟩, ⟨⟨rfl, by rw [ra, r6]; rfl, fun i hi => ?_, fun x hx => by rw [r6] at hx; omega⟩, by rw [r6]; exact Nat.zero_le _, by rw [rb]; exact Nat.zero_le _, by rw [r6]; exact Nat.zero_le _⟩, fun x hx => by rw [r6] at hx; omega, fun x hx => ⟨0, 0, by decide, by decide, (r5 x hx).1, (r5 x hx).2, fun z => by rw [r6] at z; omega, fun _ => ⟨rfl, rfl⟩⟩⟩
  rw [r9, r6]
  simp [show bt (nI 0) i = false from b_0 i]
/-- what street leaves -/
def qSt (m : Nat) (R9 : RS) (T : Nat → Nat) (rr : Nat → Int32) (H M : Nat) (un : Bool) (cs : Nat → List Nat) (tx : Nat → List Int32) (e : Lf) (im : Option Lf) (wk : Option (List Nat)) : mK → mI → mP → Prop := fun kd I P => (rf R9 = nI 0 → ∃ H2 M2 un2 cs2 tx2, rFin R9 H2 M2 un2 cs2 tx2 ∧ RX m 0 T R9.2.2.1 rr H2 M2 un2 cs2 tx2 (eO R9) none none kd I P) ∧ (¬ rf R9 = nI 0 → RX m 0 T R9.2.2.1 (va_up rr 0 (rr 0 + nI 1)) H M un cs tx e im wk kd I P)
/-- the memory where reading begins -/
def sBg (m N : Nat) (I0 I1 : mI) : Prop := (∀ a, a ≠ m → I1 a = I0 a) ∧ (∀ j, (j < 15 ∨ j = 18 ∨ 34 < j) → I1 m j = I0 m j) ∧ I1 m 15 = nI 0 ∧ I1 m 16 = nI 0 ∧ I1 m 17 = -1 ∧ I1 m 19 = nI N ∧ I1 m 20 = nI 0 ∧ I1 m 27 = nI 0 ∧ I1 m 28 = nI 9 ∧ I1 m 33 = nI 0 ∧ I1 m 34 = nI 0 ∧ I1 m 30 = nI 0
theorem st_fr {m : Nat} {I I0 I1 : mI} {J J0 : mJ} {N : Nat} (hB : sBg m N I0 I1) (hf : hFr m I1 I J0 J) : (∀ a, (a < m ∨ m + 22 < a ∨ (m < a ∧ a < m + 13)) → I a = I0 a) ∧ (∀ j, (j < 15 ∨ j = 18 ∨ 34 < j) → I m j = I0 m j) ∧ I m 15 = nI 0 := ⟨fun a h => (hf.1 a h).trans (hB.1 a (by omega)), fun j h => (hf.2.1 j (by omega)).trans (hB.2.1 j h), (hf.2.1 15 (by decide)).trans hB.2.2.1⟩
set_option maxHeartbeats 4000000 in
set_option maxRecDepth 100000 in
theorem w_stB {m N : Nat} {X : Nat → Int32} {R0 : RS} {t : Nat} {T : Nat → Nat} {fp : Int32} {rr : Nat → Int32} {H M : Nat} {un : Bool} {cs : Nat → List Nat} {tx : Nat → List Int32} {e : Lf} {im : Option Lf} {wk : Option (List Nat)} {n : Nat} {kd : mK} {P : mP} {I I0 I1 : mI} {J J0 : mJ} {l2 : Option Value} (hC : RR m kd I0 P t T fp rr H M un cs tx e im wk) (hz : okZ t T H M cs e) (h0 : I0 m 0 = 0) (hN : N ≤ t) (hX : ∀ j, j < N → X j = sBy (T j)) (hR0 : rIn R0) (hB : sBg m N I0 I1) (hr : ¬ rf (rLines (tkT N X) (tkT N X).2.1 R0) = nI 0) (hP : rPo m N X 0 (rLines (tkT N X) (tkT N X).2.1 R0) I J) (hf : hFr m I1 I J0 J) : Ru yX10_street.cls cX10_street 3 (some .int) yX10_street.name 15 ((pQ m n kd I0 J0 P (some (.int (rf (rLines (tkT N X) (tkT N X).2.1 R0)))) 0 (qSt m (rLines (tkT N X) (tkT N X).2.1 R0) T rr H M un cs tx e im wk))) 0 0 108 [some (.ref m), some (.int (nI N)), l2] [] n kd I J P := by
  obtain ⟨hM, hT, hSt, hLf, hIm, hWk⟩ := id hC
  obtain ⟨k1, k2⟩ := hP.2 hr
  obtain ⟨f1, f2, f3⟩ := st_fr hB hf
  have hB6 : decide (I m 16 = 0) = false := by rw [k1, decide_eq_false (show ¬ rf (rLines (tkT N X) (tkT N X).2.1 R0) = 0 from hr)]
  refine r_aload_n dX10_street_108 rfl ?_
  refine r_virtE (c_good m hM) lk_X10_252 mc_X10_isGood dX10_street_109 (kM_0 hM) (by decide) rfl rfl (Nat.le_of_ble_eq_true rfl) ?_
  rw [hB6]
  refine r_if_ne (tgt := 130) dX10_street_112 (by decide) (fun hz => absurd (show _ from (by decide)) hz) (fun _ => ?_)
  refine r_aload_n dX10_street_115 rfl ?_
  refine r_getR dX10_street_116 fl_X10_50 rfl (kM_0 hM) (pM_18 hM) ?_
  refine r_iconst (v := nI 0) dX10_street_119 (by decide) ?_
  refine r_dup2 dX10_street_120 rfl rfl ?_
  refine r_iald dX10_street_121 (aM_18 hM) (nI_in8 (j := 0) 3 (by decide) (by decide)) (nI_clamp (by decide)) ?_
  refine r_iconst (v := nI 1) dX10_street_122 (by decide) ?_
  refine r_iadd dX10_street_123 ?_
  refine r_iast dX10_street_124 (aM_18 hM) (nI_in8 (j := 0) 3 (by decide) (by decide)) (nI_clamp (by decide)) ?_
  refine r_aload_n dX10_street_125 rfl ?_
  refine r_getI dX10_street_126 fl_X10_249 rfl (kM_0 hM) ?_
  rw [am_up_n _ _ (by omega), k1]
  refine r_iret rfl dX10_street_129 ?_
  refine ⟨rfl, rfl, rfl, rfl, fun a ha => ⟨by rw [am_up_n _ _ (by omega)]; exact f1 a (by omega), hf.2.2.1 a (by omega)⟩, by rw [am_up_n _ _ (by omega)]; exact (f2 0 (by decide)).trans h0, fun z => absurd z hr, fun _ => ?_⟩
  have hI : ∀ a, a ≠ m + 12 → va_up I (m + 12) (va_up (I (m + 12)) 0 (I (m + 12) 0 + nI 1)) a = I a := fun a ha => am_up_n _ _ ha
  refine ⟨hM, ⟨by rw [hI _ (by omega)]; exact f3, fun j hj => by omega, by rw [hI _ (by omega)]; exact k2, fun j hj => ?_⟩, hSt.cg (fun j hj => by rw [hI _ (by omega)]; exact f2 j (by omega)) (fun a ha => by rw [hI _ (by omega)]; exact f1 a (by omega)), hLf.cg (by rw [hI _ (by omega)]; exact f1 _ (by omega)) (by rw [hI _ (by omega)]; exact f1 _ (by omega)) (by rw [hI _ (by omega)]; exact f1 _ (by omega)) (by rw [hI _ (by omega)]; exact f1 _ (by omega)) (by rw [hI _ (by omega)]; exact f1 _ (by omega)) (by rw [hI _ (by omega)]; exact f2 _ (by decide)) (by rw [hI _ (by omega)]; exact f2 _ (by decide)), hIm.cg (by rw [hI _ (by omega)]; exact f2 _ (by decide)) (by rw [hI _ (by omega)]; exact f2 _ (by decide)) (by rw [hI _ (by omega)]; exact f2 _ (by decide)) (fun a a1 a2 => by rw [hI _ (by omega)]; exact f1 _ (by omega)), hWk.cg (by rw [hI _ (by omega)]; exact f2 _ (by decide)) (by rw [hI _ (by omega)]; exact f1 _ (by omega))⟩
  rw [am_up_s, f1 (m + 12) (by omega)]
  by_cases c : j = 0
  · rw [c, am_up_s, am_up_s, hT.2.2.2 0 (by decide)]
  · rw [am_up_n _ _ c, am_up_n _ _ c]; exact hT.2.2.2 j hj

set_option maxHeartbeats 4000000 in
set_option maxRecDepth 100000 in
theorem w_stG {m N : Nat} {X : Nat → Int32} {R0 : RS} {t : Nat} {T : Nat → Nat} {fp : Int32} {rr : Nat → Int32} {H M : Nat} {un : Bool} {cs : Nat → List Nat} {tx : Nat → List Int32} {e : Lf} {im : Option Lf} {wk : Option (List Nat)} {n : Nat} {kd : mK} {P : mP} {I I0 I1 : mI} {J J0 : mJ} {l2 : Option Value} (hC : RR m kd I0 P t T fp rr H M un cs tx e im wk) (hz : okZ t T H M cs e) (h0 : I0 m 0 = 0) (hN : N ≤ t) (hX : ∀ j, j < N → X j = sBy (T j)) (hR0 : rIn R0) (hB : sBg m N I0 I1) (hr : rf (rLines (tkT N X) (tkT N X).2.1 R0) = nI 0) (hP : rPo m N X 0 (rLines (tkT N X) (tkT N X).2.1 R0) I J) (hf : hFr m I1 I J0 J) : Ru yX10_street.cls cX10_street 3 (some .int) yX10_street.name 15 ((pQ m n kd I0 J0 P (some (.int (rf (rLines (tkT N X) (tkT N X).2.1 R0)))) 0 (qSt m (rLines (tkT N X) (tkT N X).2.1 R0) T rr H M un cs tx e im wk))) 0 0 108 [some (.ref m), some (.int (nI N)), l2] [] n kd I J P := by
  obtain ⟨hM, hT, hSt, hLf, hIm, hWk⟩ := id hC
  obtain ⟨okt, oks, okl⟩ := id hz
  have hl : N ≤ 500 := Nat.le_trans hN okt.1
  obtain ⟨cs2, tx2, hL⟩ := hP.1 hr
  obtain ⟨M2, un2, hFi⟩ := hL.fin hl
  obtain ⟨⟨-, hA⟩, ⟨g1, g27, g28, g33, -, -, -, -⟩, ⟨top, -, htop, hrow⟩, -, -, hSD⟩ := hL
  have hun := hFi.2.2.1
  have hi9 : (rLines (tkT N X) (tkT N X).2.1 R0).1 < 501 := Nat.lt_of_lt_of_le hA.2.2.2 (tks_len X N).2
  obtain ⟨f1, f2, f3⟩ := st_fr hB hf
  refine r_aload_n dX10_street_108 rfl ?_
  refine r_virtE (c_good m hM) lk_X10_252 mc_X10_isGood dX10_street_109 (kM_0 hM) (by decide) rfl rfl (Nat.le_of_ble_eq_true rfl) ?_
  rw [hA.1, show decide (nI 0 = 0) = true from rfl]
  refine r_if_ne (tgt := 130) dX10_street_112 (by decide) (fun _ => ?_) (fun hz => absurd hz (show ¬ _ from (by decide)))
  refine r_aload_n dX10_street_130 rfl ?_
  refine r_aload_n dX10_street_131 rfl ?_
  refine r_getI dX10_street_132 fl_X10_266 rfl (kM_0 hM) ?_
  rw [g27]
  refine r_putI dX10_street_135 fl_X10_350 rfl rfl (kM_0 hM) ?_
  try simp (disch := omega) only [am_up_s, am_up_n, am_up_up]
  refine r_aload_n dX10_street_138 rfl ?_
  refine r_aload_n dX10_street_139 rfl ?_
  refine r_getI dX10_street_140 fl_X10_331 rfl (kM_0 hM) ?_
  rw [am_up_s, am_up_n _ _ (by decide), g28]
  refine r_putI dX10_street_143 fl_X10_7 rfl rfl (kM_0 hM) ?_
  try simp (disch := omega) only [am_up_s, am_up_n, am_up_up]
  refine r_aload_n dX10_street_146 rfl ?_
  refine r_aload_n dX10_street_147 rfl ?_
  refine r_getI dX10_street_148 fl_X10_334 rfl (kM_0 hM) ?_
  try simp (disch := omega) only [am_up_s, am_up_n, am_up_up]
  rw [g33, hun]
  refine r_putZ dX10_street_151 fl_X10_353 rfl rfl (by cases un2; exact Or.inl rfl; exact Or.inr rfl) (kM_0 hM) ?_
  try simp (disch := omega) only [am_up_s, am_up_n, am_up_up]
  obtain ⟨I2, hI2⟩ : ∃ Y9 : mI, Y9 = va_up I m (va_up (va_up (va_up (I m) 1 (nI (rQ (rLines (tkT N X) (tkT N X).2.1 R0)).1)) 2 (rQ (rLines (tkT N X) (tkT N X).2.1 R0)).2.1) 3 (bz un2)) := ⟨_, rfl⟩
  rw [← hI2]
  refine r_aload_n dX10_street_154 rfl ?_
  refine r_aload_n dX10_street_155 rfl ?_
  refine r_getR dX10_street_156 fl_X10_53 rfl (kM_0 hM) (pM_35 hM) ?_
  refine r_aload_n dX10_street_159 rfl ?_
  refine r_getR dX10_street_160 fl_X10_13 rfl (kM_0 hM) (pM_4 hM) ?_
  refine r_virtV (c_X10_copies m (m + 13) (m + 1) 8 8 (aM_35 hM) (aM_4 hM) (by omega) (by decide) (by decide) (by decide)) lk_X10_356 mc_X10_copies dX10_street_163 (kM_0 hM) (by decide) rfl rfl (Nat.le_of_ble_eq_true rfl) ?_
  refine r_aload_n dX10_street_166 rfl ?_
  refine r_aload_n dX10_street_167 rfl ?_
  refine r_getR dX10_street_168 fl_X10_56 rfl (kM_0 hM) (pM_36 hM) ?_
  refine r_aload_n dX10_street_171 rfl ?_
  refine r_getR dX10_street_172 fl_X10_17 rfl (kM_0 hM) (pM_5 hM) ?_
  refine r_virtV (c_X10_copies m (m + 14) (m + 2) 8 8 (aM_36 hM) (aM_5 hM) (by omega) (by decide) (by decide) (by decide)) lk_X10_356 mc_X10_copies dX10_street_175 (kM_0 hM) (by decide) rfl rfl (Nat.le_of_ble_eq_true rfl) ?_
  refine r_aload_n dX10_street_178 rfl ?_
  refine r_aload_n dX10_street_179 rfl ?_
  refine r_getR dX10_street_180 fl_X10_59 rfl (kM_0 hM) (pM_37 hM) ?_
  refine r_aload_n dX10_street_183 rfl ?_
  refine r_getR dX10_street_184 fl_X10_20 rfl (kM_0 hM) (pM_6 hM) ?_
  refine r_virtV (c_X10_copies m (m + 15) (m + 3) 8 8 (aM_37 hM) (aM_6 hM) (by omega) (by decide) (by decide) (by decide)) lk_X10_356 mc_X10_copies dX10_street_187 (kM_0 hM) (by decide) rfl rfl (Nat.le_of_ble_eq_true rfl) ?_
  refine r_aload_n dX10_street_190 rfl ?_
  refine r_aload_n dX10_street_191 rfl ?_
  refine r_getR dX10_street_192 fl_X10_62 rfl (kM_0 hM) (pM_38 hM) ?_
  refine r_aload_n dX10_street_195 rfl ?_
  refine r_getR dX10_street_196 fl_X10_26 rfl (kM_0 hM) (pM_8 hM) ?_
  refine r_virtV (c_X10_copies m (m + 16) (m + 5) 8 8 (aM_38 hM) (aM_8 hM) (by omega) (by decide) (by decide) (by decide)) lk_X10_356 mc_X10_copies dX10_street_199 (kM_0 hM) (by decide) rfl rfl (Nat.le_of_ble_eq_true rfl) ?_
  refine r_aload_n dX10_street_202 rfl ?_
  refine r_aload_n dX10_street_203 rfl ?_
  refine r_getR dX10_street_204 fl_X10_74 rfl (kM_0 hM) (pM_42 hM) ?_
  refine r_aload_n dX10_street_207 rfl ?_
  refine r_getR dX10_street_208 fl_X10_32 rfl (kM_0 hM) (pM_10 hM) ?_
  refine r_virtV (c_X10_copies m (m + 20) (m + 7) 1300 1300 (aM_42 hM) (aM_10 hM) (by omega) (by decide) (by decide) (by decide)) lk_X10_356 mc_X10_copies dX10_street_211 (kM_0 hM) (by decide) rfl rfl (Nat.le_of_ble_eq_true rfl) ?_
  refine r_iconst (v := nI 0) dX10_street_214 (by decide) ?_
  refine r_istore_n dX10_street_215 (by decide) ?_
  obtain ⟨I3, hI3⟩ : ∃ Y9 : mI, Y9 = va_up (va_up (va_up (va_up (va_up (I2) (m + 1) (fun j => if j < 8 then (I2) (m + 13) j else (I2) (m + 1) j)) (m + 2) (fun j => if j < 8 then (va_up (I2) (m + 1) (fun j => if j < 8 then (I2) (m + 13) j else (I2) (m + 1) j)) (m + 14) j else (va_up (I2) (m + 1) (fun j => if j < 8 then (I2) (m + 13) j else (I2) (m + 1) j)) (m + 2) j)) (m + 3) (fun j => if j < 8 then (va_up (va_up (I2) (m + 1) (fun j => if j < 8 then (I2) (m + 13) j else (I2) (m + 1) j)) (m + 2) (fun j => if j < 8 then (va_up (I2) (m + 1) (fun j => if j < 8 then (I2) (m + 13) j else (I2) (m + 1) j)) (m + 14) j else (va_up (I2) (m + 1) (fun j => if j < 8 then (I2) (m + 13) j else (I2) (m + 1) j)) (m + 2) j)) (m + 15) j else (va_up (va_up (I2) (m + 1) (fun j => if j < 8 then (I2) (m + 13) j else (I2) (m + 1) j)) (m + 2) (fun j => if j < 8 then (va_up (I2) (m + 1) (fun j => if j < 8 then (I2) (m + 13) j else (I2) (m + 1) j)) (m + 14) j else (va_up (I2) (m + 1) (fun j => if j < 8 then (I2) (m + 13) j else (I2) (m + 1) j)) (m + 2) j)) (m + 3) j)) (m + 5) (fun j => if j < 8 then (va_up (va_up (va_up (I2) (m + 1) (fun j => if j < 8 then (I2) (m + 13) j else (I2) (m + 1) j)) (m + 2) (fun j => if j < 8 then (va_up (I2) (m + 1) (fun j => if j < 8 then (I2) (m + 13) j else (I2) (m + 1) j)) (m + 14) j else (va_up (I2) (m + 1) (fun j => if j < 8 then (I2) (m + 13) j else (I2) (m + 1) j)) (m + 2) j)) (m + 3) (fun j => if j < 8 then (va_up (va_up (I2) (m + 1) (fun j => if j < 8 then (I2) (m + 13) j else (I2) (m + 1) j)) (m + 2) (fun j => if j < 8 then (va_up (I2) (m + 1) (fun j => if j < 8 then (I2) (m + 13) j else (I2) (m + 1) j)) (m + 14) j else (va_up (I2) (m + 1) (fun j => if j < 8 then (I2) (m + 13) j else (I2) (m + 1) j)) (m + 2) j)) (m + 15) j else (va_up (va_up (I2) (m + 1) (fun j => if j < 8 then (I2) (m + 13) j else (I2) (m + 1) j)) (m + 2) (fun j => if j < 8 then (va_up (I2) (m + 1) (fun j => if j < 8 then (I2) (m + 13) j else (I2) (m + 1) j)) (m + 14) j else (va_up (I2) (m + 1) (fun j => if j < 8 then (I2) (m + 13) j else (I2) (m + 1) j)) (m + 2) j)) (m + 3) j)) (m + 16) j else (va_up (va_up (va_up (I2) (m + 1) (fun j => if j < 8 then (I2) (m + 13) j else (I2) (m + 1) j)) (m + 2) (fun j => if j < 8 then (va_up (I2) (m + 1) (fun j => if j < 8 then (I2) (m + 13) j else (I2) (m + 1) j)) (m + 14) j else (va_up (I2) (m + 1) (fun j => if j < 8 then (I2) (m + 13) j else (I2) (m + 1) j)) (m + 2) j)) (m + 3) (fun j => if j < 8 then (va_up (va_up (I2) (m + 1) (fun j => if j < 8 then (I2) (m + 13) j else (I2) (m + 1) j)) (m + 2) (fun j => if j < 8 then (va_up (I2) (m + 1) (fun j => if j < 8 then (I2) (m + 13) j else (I2) (m + 1) j)) (m + 14) j else (va_up (I2) (m + 1) (fun j => if j < 8 then (I2) (m + 13) j else (I2) (m + 1) j)) (m + 2) j)) (m + 15) j else (va_up (va_up (I2) (m + 1) (fun j => if j < 8 then (I2) (m + 13) j else (I2) (m + 1) j)) (m + 2) (fun j => if j < 8 then (va_up (I2) (m + 1) (fun j => if j < 8 then (I2) (m + 13) j else (I2) (m + 1) j)) (m + 14) j else (va_up (I2) (m + 1) (fun j => if j < 8 then (I2) (m + 13) j else (I2) (m + 1) j)) (m + 2) j)) (m + 3) j)) (m + 5) j)) (m + 7) (fun j => if j < 1300 then (va_up (va_up (va_up (va_up (I2) (m + 1) (fun j => if j < 8 then (I2) (m + 13) j else (I2) (m + 1) j)) (m + 2) (fun j => if j < 8 then (va_up (I2) (m + 1) (fun j => if j < 8 then (I2) (m + 13) j else (I2) (m + 1) j)) (m + 14) j else (va_up (I2) (m + 1) (fun j => if j < 8 then (I2) (m + 13) j else (I2) (m + 1) j)) (m + 2) j)) (m + 3) (fun j => if j < 8 then (va_up (va_up (I2) (m + 1) (fun j => if j < 8 then (I2) (m + 13) j else (I2) (m + 1) j)) (m + 2) (fun j => if j < 8 then (va_up (I2) (m + 1) (fun j => if j < 8 then (I2) (m + 13) j else (I2) (m + 1) j)) (m + 14) j else (va_up (I2) (m + 1) (fun j => if j < 8 then (I2) (m + 13) j else (I2) (m + 1) j)) (m + 2) j)) (m + 15) j else (va_up (va_up (I2) (m + 1) (fun j => if j < 8 then (I2) (m + 13) j else (I2) (m + 1) j)) (m + 2) (fun j => if j < 8 then (va_up (I2) (m + 1) (fun j => if j < 8 then (I2) (m + 13) j else (I2) (m + 1) j)) (m + 14) j else (va_up (I2) (m + 1) (fun j => if j < 8 then (I2) (m + 13) j else (I2) (m + 1) j)) (m + 2) j)) (m + 3) j)) (m + 5) (fun j => if j < 8 then (va_up (va_up (va_up (I2) (m + 1) (fun j => if j < 8 then (I2) (m + 13) j else (I2) (m + 1) j)) (m + 2) (fun j => if j < 8 then (va_up (I2) (m + 1) (fun j => if j < 8 then (I2) (m + 13) j else (I2) (m + 1) j)) (m + 14) j else (va_up (I2) (m + 1) (fun j => if j < 8 then (I2) (m + 13) j else (I2) (m + 1) j)) (m + 2) j)) (m + 3) (fun j => if j < 8 then (va_up (va_up (I2) (m + 1) (fun j => if j < 8 then (I2) (m + 13) j else (I2) (m + 1) j)) (m + 2) (fun j => if j < 8 then (va_up (I2) (m + 1) (fun j => if j < 8 then (I2) (m + 13) j else (I2) (m + 1) j)) (m + 14) j else (va_up (I2) (m + 1) (fun j => if j < 8 then (I2) (m + 13) j else (I2) (m + 1) j)) (m + 2) j)) (m + 15) j else (va_up (va_up (I2) (m + 1) (fun j => if j < 8 then (I2) (m + 13) j else (I2) (m + 1) j)) (m + 2) (fun j => if j < 8 then (va_up (I2) (m + 1) (fun j => if j < 8 then (I2) (m + 13) j else (I2) (m + 1) j)) (m + 14) j else (va_up (I2) (m + 1) (fun j => if j < 8 then (I2) (m + 13) j else (I2) (m + 1) j)) (m + 2) j)) (m + 3) j)) (m + 16) j else (va_up (va_up (va_up (I2) (m + 1) (fun j => if j < 8 then (I2) (m + 13) j else (I2) (m + 1) j)) (m + 2) (fun j => if j < 8 then (va_up (I2) (m + 1) (fun j => if j < 8 then (I2) (m + 13) j else (I2) (m + 1) j)) (m + 14) j else (va_up (I2) (m + 1) (fun j => if j < 8 then (I2) (m + 13) j else (I2) (m + 1) j)) (m + 2) j)) (m + 3) (fun j => if j < 8 then (va_up (va_up (I2) (m + 1) (fun j => if j < 8 then (I2) (m + 13) j else (I2) (m + 1) j)) (m + 2) (fun j => if j < 8 then (va_up (I2) (m + 1) (fun j => if j < 8 then (I2) (m + 13) j else (I2) (m + 1) j)) (m + 14) j else (va_up (I2) (m + 1) (fun j => if j < 8 then (I2) (m + 13) j else (I2) (m + 1) j)) (m + 2) j)) (m + 15) j else (va_up (va_up (I2) (m + 1) (fun j => if j < 8 then (I2) (m + 13) j else (I2) (m + 1) j)) (m + 2) (fun j => if j < 8 then (va_up (I2) (m + 1) (fun j => if j < 8 then (I2) (m + 13) j else (I2) (m + 1) j)) (m + 14) j else (va_up (I2) (m + 1) (fun j => if j < 8 then (I2) (m + 13) j else (I2) (m + 1) j)) (m + 2) j)) (m + 3) j)) (m + 5) j)) (m + 20) j else (va_up (va_up (va_up (va_up (I2) (m + 1) (fun j => if j < 8 then (I2) (m + 13) j else (I2) (m + 1) j)) (m + 2) (fun j => if j < 8 then (va_up (I2) (m + 1) (fun j => if j < 8 then (I2) (m + 13) j else (I2) (m + 1) j)) (m + 14) j else (va_up (I2) (m + 1) (fun j => if j < 8 then (I2) (m + 13) j else (I2) (m + 1) j)) (m + 2) j)) (m + 3) (fun j => if j < 8 then (va_up (va_up (I2) (m + 1) (fun j => if j < 8 then (I2) (m + 13) j else (I2) (m + 1) j)) (m + 2) (fun j => if j < 8 then (va_up (I2) (m + 1) (fun j => if j < 8 then (I2) (m + 13) j else (I2) (m + 1) j)) (m + 14) j else (va_up (I2) (m + 1) (fun j => if j < 8 then (I2) (m + 13) j else (I2) (m + 1) j)) (m + 2) j)) (m + 15) j else (va_up (va_up (I2) (m + 1) (fun j => if j < 8 then (I2) (m + 13) j else (I2) (m + 1) j)) (m + 2) (fun j => if j < 8 then (va_up (I2) (m + 1) (fun j => if j < 8 then (I2) (m + 13) j else (I2) (m + 1) j)) (m + 14) j else (va_up (I2) (m + 1) (fun j => if j < 8 then (I2) (m + 13) j else (I2) (m + 1) j)) (m + 2) j)) (m + 3) j)) (m + 5) (fun j => if j < 8 then (va_up (va_up (va_up (I2) (m + 1) (fun j => if j < 8 then (I2) (m + 13) j else (I2) (m + 1) j)) (m + 2) (fun j => if j < 8 then (va_up (I2) (m + 1) (fun j => if j < 8 then (I2) (m + 13) j else (I2) (m + 1) j)) (m + 14) j else (va_up (I2) (m + 1) (fun j => if j < 8 then (I2) (m + 13) j else (I2) (m + 1) j)) (m + 2) j)) (m + 3) (fun j => if j < 8 then (va_up (va_up (I2) (m + 1) (fun j => if j < 8 then (I2) (m + 13) j else (I2) (m + 1) j)) (m + 2) (fun j => if j < 8 then (va_up (I2) (m + 1) (fun j => if j < 8 then (I2) (m + 13) j else (I2) (m + 1) j)) (m + 14) j else (va_up (I2) (m + 1) (fun j => if j < 8 then (I2) (m + 13) j else (I2) (m + 1) j)) (m + 2) j)) (m + 15) j else (va_up (va_up (I2) (m + 1) (fun j => if j < 8 then (I2) (m + 13) j else (I2) (m + 1) j)) (m + 2) (fun j => if j < 8 then (va_up (I2) (m + 1) (fun j => if j < 8 then (I2) (m + 13) j else (I2) (m + 1) j)) (m + 14) j else (va_up (I2) (m + 1) (fun j => if j < 8 then (I2) (m + 13) j else (I2) (m + 1) j)) (m + 2) j)) (m + 3) j)) (m + 16) j else (va_up (va_up (va_up (I2) (m + 1) (fun j => if j < 8 then (I2) (m + 13) j else (I2) (m + 1) j)) (m + 2) (fun j => if j < 8 then (va_up (I2) (m + 1) (fun j => if j < 8 then (I2) (m + 13) j else (I2) (m + 1) j)) (m + 14) j else (va_up (I2) (m + 1) (fun j => if j < 8 then (I2) (m + 13) j else (I2) (m + 1) j)) (m + 2) j)) (m + 3) (fun j => if j < 8 then (va_up (va_up (I2) (m + 1) (fun j => if j < 8 then (I2) (m + 13) j else (I2) (m + 1) j)) (m + 2) (fun j => if j < 8 then (va_up (I2) (m + 1) (fun j => if j < 8 then (I2) (m + 13) j else (I2) (m + 1) j)) (m + 14) j else (va_up (I2) (m + 1) (fun j => if j < 8 then (I2) (m + 13) j else (I2) (m + 1) j)) (m + 2) j)) (m + 15) j else (va_up (va_up (I2) (m + 1) (fun j => if j < 8 then (I2) (m + 13) j else (I2) (m + 1) j)) (m + 2) (fun j => if j < 8 then (va_up (I2) (m + 1) (fun j => if j < 8 then (I2) (m + 13) j else (I2) (m + 1) j)) (m + 14) j else (va_up (I2) (m + 1) (fun j => if j < 8 then (I2) (m + 13) j else (I2) (m + 1) j)) (m + 2) j)) (m + 3) j)) (m + 5) j)) (m + 7) j) := ⟨_, rfl⟩
  have hq3 : ∀ Q : mI → Prop, Q I3 → Q _ := fun Q hQ => hI3 ▸ hQ
  refine hq3 (fun Y9 => Ru yX10_street.cls cX10_street 3 (some .int) yX10_street.name 15 ((pQ m n kd I0 J0 P (some (.int (rf (rLines (tkT N X) (tkT N X).2.1 R0)))) 0 (qSt m (rLines (tkT N X) (tkT N X).2.1 R0) T rr H M un cs tx e im wk))) 0 0 216 [some (.ref m), some (.int (nI N)), some (.int (nI 0))] [] n kd Y9 J P) ?_
  have c1 : ∀ x, x < 8 → I3 (m + 1) x = I2 (m + 13) x := fun x hx => by rw [hI3]; simp (disch := omega) only [am_up_s, am_up_n]; exact if_pos hx
  have c2 : ∀ x, x < 8 → I3 (m + 2) x = I2 (m + 14) x := fun x hx => by rw [hI3]; simp (disch := omega) only [am_up_s, am_up_n]; exact if_pos hx
  have c3 : ∀ x, x < 8 → I3 (m + 3) x = I2 (m + 15) x := fun x hx => by rw [hI3]; simp (disch := omega) only [am_up_s, am_up_n]; exact if_pos hx
  have c5 : ∀ x, x < 8 → I3 (m + 5) x = I2 (m + 16) x := fun x hx => by rw [hI3]; simp (disch := omega) only [am_up_s, am_up_n]; exact if_pos hx
  have c7 : ∀ x, x < 1300 → I3 (m + 7) x = I2 (m + 20) x := fun x hx => by rw [hI3]; simp (disch := omega) only [am_up_s, am_up_n]; exact if_pos hx
  have co : ∀ a, a ≠ m + 1 → a ≠ m + 2 → a ≠ m + 3 → a ≠ m + 5 → a ≠ m + 7 → I3 a = I2 a := fun a h1 h2 h3 h4 h5 => by rw [hI3, am_up_n _ _ h5, am_up_n _ _ h4, am_up_n _ _ h3, am_up_n _ _ h2, am_up_n _ _ h1]
  clear hI3
  refine w_st216 hM 8 0 rfl I3 (fun I4 v1 v2 v3 => ?_)
  refine r_iconst (v := nI 0) dX10_street_247 (by decide) ?_
  refine r_istore_n dX10_street_248 (by decide) ?_
  refine w_st249 hM hl N 0 (Nat.zero_add _) I4 (fun I5 w1 w2 w3 => ?_)
  refine r_aload_n dX10_street_272 rfl ?_
  refine r_aload_n dX10_street_273 rfl ?_
  refine r_getR dX10_street_274 fl_X10_68 rfl (kM_0 hM) (pM_40 hM) ?_
  refine r_aload_n dX10_street_277 rfl ?_
  refine r_getR dX10_street_278 fl_X10_38 rfl (kM_0 hM) (pM_12 hM) ?_
  refine r_virtV (c_X10_copies m (m + 18) (m + 9) 8 8 (aM_40 hM) (aM_12 hM) (by omega) (by decide) (by decide) (by decide)) lk_X10_356 mc_X10_copies dX10_street_281 (kM_0 hM) (by decide) rfl rfl (Nat.le_of_ble_eq_true rfl) ?_
  refine r_aload_n dX10_street_284 rfl ?_
  refine r_aload_n dX10_street_285 rfl ?_
  refine r_getR dX10_street_286 fl_X10_71 rfl (kM_0 hM) (pM_41 hM) ?_
  refine r_aload_n dX10_street_289 rfl ?_
  refine r_getR dX10_street_290 fl_X10_41 rfl (kM_0 hM) (pM_13 hM) ?_
  refine r_virtV (c_X10_copies m (m + 19) (m + 10) 8 8 (aM_41 hM) (aM_13 hM) (by omega) (by decide) (by decide) (by decide)) lk_X10_356 mc_X10_copies dX10_street_293 (kM_0 hM) (by decide) rfl rfl (Nat.le_of_ble_eq_true rfl) ?_
  refine r_aload_n dX10_street_296 rfl ?_
  refine r_iconst (v := (-1)) dX10_street_297 (by decide) ?_
  refine r_putI dX10_street_298 fl_X10_139 rfl rfl (kM_0 hM) ?_
  try simp (disch := omega) only [am_up_s, am_up_n, am_up_up]
  refine r_aload_n dX10_street_301 rfl ?_
  refine r_iconst (v := nI 0) dX10_street_302 (by decide) ?_
  refine r_putI dX10_street_303 fl_X10_360 rfl rfl (kM_0 hM) ?_
  try simp (disch := omega) only [am_up_s, am_up_n, am_up_up]
  refine r_aload_n dX10_street_306 rfl ?_
  refine r_iconst (v := nI 0) dX10_street_307 (by decide) ?_
  refine r_putI dX10_street_308 fl_X10_363 rfl rfl (kM_0 hM) ?_
  try simp (disch := omega) only [am_up_s, am_up_n, am_up_up]
  refine r_aload_n dX10_street_311 rfl ?_
  refine r_iconst (v := nI 0) dX10_street_312 (by decide) ?_
  refine r_putZ dX10_street_313 fl_X10_366 rfl rfl (Or.inl rfl) (kM_0 hM) ?_
  try simp (disch := omega) only [am_up_s, am_up_n, am_up_up]
  obtain ⟨I6, hI6⟩ : ∃ Y9 : mI, Y9 = va_up (va_up (va_up I5 (m + 9) (fun j => if j < 8 then I5 (m + 18) j else I5 (m + 9) j)) (m + 10) (fun j => if j < 8 then I5 (m + 19) j else I5 (m + 10) j)) m (va_up (va_up (va_up (va_up (I5 m) 74 (-1)) 45 (nI 0)) 47 (nI 0)) 90 (nI 0)) := ⟨_, rfl⟩
  have hq6 : ∀ Q : mI → Prop, Q I6 → Q _ := fun Q hQ => hI6 ▸ hQ
  refine hq6 (fun Y9 => Ru yX10_street.cls cX10_street 3 (some .int) yX10_street.name 15 ((pQ m n kd I0 J0 P (some (.int (rf (rLines (tkT N X) (tkT N X).2.1 R0)))) 0 (qSt m (rLines (tkT N X) (tkT N X).2.1 R0) T rr H M un cs tx e im wk))) 0 0 316 [some (.ref m), some (.int (nI N)), some (.int (nI N))] [] n kd Y9 J P) ?_
  have d1 : ∀ x, x < 8 → I6 (m + 9) x = I5 (m + 18) x := fun x hx => by rw [hI6]; simp (disch := omega) only [am_up_s, am_up_n]; exact if_pos hx
  have d2 : ∀ x, x < 8 → I6 (m + 10) x = I5 (m + 19) x := fun x hx => by rw [hI6]; simp (disch := omega) only [am_up_s, am_up_n]; exact if_pos hx
  have dm : ∀ j, j ≠ 74 → j ≠ 45 → j ≠ 47 → j ≠ 90 → I6 m j = I5 m j := fun j h1 h2 h3 h4 => by rw [hI6]; simp (disch := omega) only [am_up_s, am_up_n]
  have dk : I6 m 74 = -1 ∧ I6 m 45 = nI 0 ∧ I6 m 47 = nI 0 ∧ I6 m 90 = nI 0 := by
    refine ⟨?_, ?_, ?_, ?_⟩ <;> (rw [hI6]; simp (disch := omega) only [am_up_s, am_up_n])
  have dg : ∀ a, a ≠ m → a ≠ m + 9 → a ≠ m + 10 → I6 a = I5 a := fun a h1 h2 h3 => by rw [hI6, am_up_n _ _ h1, am_up_n _ _ h3, am_up_n _ _ h2]
  clear hI6
  refine r_iconst (v := nI 0) dX10_street_316 (by decide) ?_
  refine r_iret rfl dX10_street_317 ?_
  have a1 : ∀ a, a ≠ m → a ≠ m + 1 → a ≠ m + 2 → a ≠ m + 3 → a ≠ m + 4 → a ≠ m + 5 → a ≠ m + 6 → a ≠ m + 7 → a ≠ m + 8 → a ≠ m + 9 → a ≠ m + 10 → I6 a = I a := fun a h0 h1 h2 h3 h4 h5 h6 h7 h8 h9 h10 => by rw [dg a h0 h9 h10, w1 a h8, v1 a h6 h4, co a h1 h2 h3 h5 h7, hI2, am_up_n _ _ h0]
  have am : ∀ j, j ≠ 1 → j ≠ 2 → j ≠ 3 → j ≠ 74 → j ≠ 45 → j ≠ 47 → j ≠ 90 → I6 m j = I m j := fun j h1 h2 h3 h4 h5 h6 h7 => by rw [dm j h4 h5 h6 h7, w1 m (by omega), v1 m (by omega) (by omega), co m (by omega) (by omega) (by omega) (by omega) (by omega), hI2, am_up_s, am_up_n _ _ h3, am_up_n _ _ h2, am_up_n _ _ h1]
  have am3 : I6 m 1 = nI (rQ (rLines (tkT N X) (tkT N X).2.1 R0)).1 ∧ I6 m 2 = (rQ (rLines (tkT N X) (tkT N X).2.1 R0)).2.1 ∧ I6 m 3 = bz un2 := by
    rw [dm 1 (by decide) (by decide) (by decide) (by decide), dm 2 (by decide) (by decide) (by decide) (by decide), dm 3 (by decide) (by decide) (by decide) (by decide), w1 m (by omega), v1 m (by omega) (by omega), co m (by omega) (by omega) (by omega) (by omega) (by omega), hI2, am_up_s]
    simp (disch := omega) only [am_up_s, am_up_n]
    exact ⟨trivial, trivial, trivial⟩
  have r3 : ∀ x, x < 8 → I6 (m + 3) x = I (m + 15) x := fun x hx => by rw [dg _ (by omega) (by omega) (by omega), w1 _ (by omega), v1 _ (by omega) (by omega), c3 x hx, hI2, am_up_n _ _ (by omega)]
  have r5 : ∀ x, x < 8 → I6 (m + 5) x = I (m + 16) x := fun x hx => by rw [dg _ (by omega) (by omega) (by omega), w1 _ (by omega), v1 _ (by omega) (by omega), c5 x hx, hI2, am_up_n _ _ (by omega)]
  have r6 : ∀ x, x < 8 → I6 (m + 6) x = I (m + 17) x := fun x hx => by rw [dg _ (by omega) (by omega) (by omega), w1 _ (by omega), (v3 x (Nat.zero_le _) hx).1, co _ (by omega) (by omega) (by omega) (by omega) (by omega), hI2, am_up_n _ _ (by omega)]
  have r4 : ∀ x, x < 8 → I6 (m + 4) x = nI 0 := fun x hx => by rw [dg _ (by omega) (by omega) (by omega), w1 _ (by omega), (v3 x (Nat.zero_le _) hx).2]
  have r7 : ∀ x, x < 1300 → I6 (m + 7) x = I (m + 20) x := fun x hx => by rw [dg _ (by omega) (by omega) (by omega), w1 _ (by omega), v1 _ (by omega) (by omega), c7 x hx, hI2, am_up_n _ _ (by omega)]
  have r9 : ∀ x, x < 8 → I6 (m + 9) x = I (m + 18) x := fun x hx => by rw [d1 x hx, w1 _ (by omega), v1 _ (by omega) (by omega), co _ (by omega) (by omega) (by omega) (by omega) (by omega), hI2, am_up_n _ _ (by omega)]
  have r10 : ∀ x, x < 8 → I6 (m + 10) x = I (m + 19) x := fun x hx => by rw [d2 x hx, w1 _ (by omega), v1 _ (by omega) (by omega), co _ (by omega) (by omega) (by omega) (by omega) (by omega), hI2, am_up_n _ _ (by omega)]
  have r1 : ∀ x, x < 8 → I6 (m + 1) x = I (m + 13) x := fun x hx => by rw [dg _ (by omega) (by omega) (by omega), w1 _ (by omega), v1 _ (by omega) (by omega), c1 x hx, hI2, am_up_n _ _ (by omega)]
  have r2 : ∀ x, x < 8 → I6 (m + 2) x = I (m + 14) x := fun x hx => by rw [dg _ (by omega) (by omega) (by omega), w1 _ (by omega), v1 _ (by omega) (by omega), c2 x hx, hI2, am_up_n _ _ (by omega)]
  have r8 : ∀ x, x < N → I6 (m + 8) x = I (m + 11) x := fun x hx => by rw [dg _ (by omega) (by omega) (by omega), w3 x (Nat.zero_le _) hx, v1 _ (by omega) (by omega), co _ (by omega) (by omega) (by omega) (by omega) (by omega), hI2, am_up_n _ _ (by omega)]
  refine ⟨by rw [hr], rfl, rfl, rfl, fun a ha => ⟨by rw [a1 a (by omega) (by omega) (by omega) (by omega) (by omega) (by omega) (by omega) (by omega) (by omega) (by omega) (by omega)]; exact f1 a (by omega), hf.2.2.1 a (by omega)⟩, by rw [am 0 (by decide) (by decide) (by decide) (by decide) (by decide) (by decide) (by decide)]; exact (f2 0 (by decide)).trans h0, fun _ => ⟨_, M2, un2, cs2, tx2, hFi, ?_⟩, fun z => absurd hr z⟩
  obtain ⟨le1, le2⟩ := hFi.life
  refine ⟨hM, ⟨by rw [am 15 (by decide) (by decide) (by decide) (by decide) (by decide) (by decide) (by decide)]; exact f3, fun j hj => by omega, by rw [am 17 (by decide) (by decide) (by decide) (by decide) (by decide) (by decide) (by decide), (hf.2.2.2.2 hA.1).2, hB.2.2.2.2.1, rLines_pl (tkA_of hl).1 _ _ hr]; exact hR0.2.2.1.symm, fun j hj => by rw [a1 (m + 12) (by omega) (by omega) (by omega) (by omega) (by omega) (by omega) (by omega) (by omega) (by omega) (by omega) (by omega), f1 (m + 12) (by omega)]; exact hT.2.2.2 j hj⟩, ⟨⟨am3.1, am3.2.1.trans hFi.2.1, am3.2.2⟩, ⟨by rw [am 54 (by decide) (by decide) (by decide) (by decide) (by decide) (by decide) (by decide), f2 54 (by decide)]; exact hSt.2.1.1, by rw [am 58 (by decide) (by decide) (by decide) (by decide) (by decide) (by decide) (by decide), f2 58 (by decide)]; exact hSt.2.1.2⟩, fun x hx => ?_⟩, ⟨fun x hx => ⟨?_, ?_, r4 x (by omega)⟩, ⟨dk.2.1, fun j hj => absurd hj (Nat.not_lt_zero _)⟩, dk.2.2.1, fun j hj => absurd hj (Nat.not_lt_zero _)⟩, dk.2.2.2, dk.1⟩
  · obtain ⟨k1, k2, k3⟩ := hrow x hx
    refine ⟨(r3 x (by omega)).trans k1, (r6 x (by omega)).trans k2, fun hne => ?_⟩
    obtain ⟨⟨a, x1, x2⟩, p, q, y1, y2, y3, y4, y5⟩ := k3 hne
    refine ⟨⟨a, (r5 x (by omega)).trans x1, x2 _ (fun k hk => r7 k (by omega))⟩, p, q, (r9 x (by omega)).trans y1, (r10 x (by omega)).trans y2, by omega, ?_⟩
    rw [← y5]
    exact wrT_cg _ _ _ _ (fun j j1 j2 => (r8 j (by omega)).trans (okB_eq hA.2.1.2.2 (by show j < N; omega) (y4 j j1 j2)))
  · obtain ⟨u, v, s1, s2, s3, s4, s5, s6⟩ := hSD x (by omega)
    rw [r1 x (by omega), (s5 hx).1, ← s3]
    exact (le2 x (by omega)).1
  · obtain ⟨u, v, s1, s2, s3, s4, s5, s6⟩ := hSD x (by omega)
    rw [r2 x (by omega), (s5 hx).2, ← s4]
    exact (le2 x (by omega)).2

set_option maxHeartbeats 4000000 in
set_option maxRecDepth 100000 in
theorem w_st83 {m N : Nat} {X : Nat → Int32} {R0 : RS} {t : Nat} {T : Nat → Nat} {fp : Int32} {rr : Nat → Int32} {H M : Nat} {un : Bool} {cs : Nat → List Nat} {tx : Nat → List Int32} {e : Lf} {im : Option Lf} {wk : Option (List Nat)} {n : Nat} {kd : mK} {P : mP} {I0 I1 : mI} {J0 : mJ} {l2 : Option Value} (hC : RR m kd I0 P t T fp rr H M un cs tx e im wk) (hz : okZ t T H M cs e) (h0 : I0 m 0 = 0) (hN : N ≤ t) (hX : ∀ j, j < N → X j = sBy (T j)) (hR0 : rIn R0) (hB : sBg m N I0 I1) : Ru yX10_street.cls cX10_street 3 (some .int) yX10_street.name 15 ((pQ m n kd I0 J0 P (some (.int (rf (rLines (tkT N X) (tkT N X).2.1 R0)))) 0 (qSt m (rLines (tkT N X) (tkT N X).2.1 R0) T rr H M un cs tx e im wk))) 0 0 83 [some (.ref m), some (.int (nI N)), l2] [] n kd I1 J0 P := by
  obtain ⟨hM, hT, hSt, hLf, hIm, hWk⟩ := id hC
  obtain ⟨okt, oks, okl⟩ := id hz
  have hl : N ≤ 500 := Nat.le_trans hN okt.1
  have hg : gIn m N X I1 := ⟨hB.2.2.2.2.2.1, hl, fun j hj => ⟨T j, okt.2 j (by omega), hX j hj, by rw [hB.1 _ (by omega)]; exact hT.2.1 j (by omega)⟩⟩
  refine r_aload_n dX10_street_83 rfl ?_
  refine r_virt (kc2 := 0) (ks2 := 0) (c_goes m N 0 hM hg hB.2.2.2.2.2.2.1 (Nat.zero_le _)) lk_X10_256 mc_X10_goes dX10_street_84 (kM_0 hM) (by decide) rfl rfl (Nat.le_of_ble_eq_true rfl) (by decide) (by decide) (fun _ _ _ _ _ _ h => nomatch h.1) ?_
  rintro v2 n2 kd2 I2 J2 P2 ⟨h00, rfl, rfl, rfl, hf2, hk2⟩
  cases h00
  simp only [Option.toList, List.nil_append]
  rw [tk_first hl] at hk2
  have hA2 : rA m (tkT N X) I2 J2 0 := ⟨(hf2.2.1 _ (by decide)).trans hB.2.2.2.1, hg.fr hf2, hk2, (tks_len X N).1⟩
  have hR2 := hR0.ln hA2 ((hf2.2.1 _ (by decide)).trans hB.2.2.2.2.2.2.2.1) ((hf2.2.1 _ (by decide)).trans hB.2.2.2.2.2.2.2.2.1) ((hf2.2.1 _ (by decide)).trans hB.2.2.2.2.2.2.2.2.2.1) ((hf2.2.1 _ (by decide)).trans hB.2.2.2.2.2.2.2.2.2.2.1) ((hf2.2.1 _ (by decide)).trans hB.2.2.2.2.2.2.2.2.2.2.2)
  refine w_st87 hM hl (tkT N X).2.1 R0 I2 J2 (fun _ => Nat.le_add_left _ _) ⟨fun _ => ⟨_, _, hR2⟩, fun z => absurd hR0.2.1 z⟩ (nuFr.g hf2).h (fun I9 J9 hf9 hP9 => ?_)
  by_cases hr : rf (rLines (tkT N X) (tkT N X).2.1 R0) = nI 0
  · exact w_stG hC hz h0 hN hX hR0 hB hr hP9 hf9
  · exact w_stB hC hz h0 hN hX hR0 hB hr hP9 hf9

set_option maxHeartbeats 4000000 in
set_option maxRecDepth 100000 in
theorem q_street (m : Nat) (N : Nat) {X : Nat → Int32} {R0 : RS} {t : Nat} {T : Nat → Nat} {fp : Int32} {rr : Nat → Int32} {H M : Nat} {un : Bool} {cs : Nat → List Nat} {tx : Nat → List Int32} {e : Lf} {im : Option Lf} {wk : Option (List Nat)} {n : Nat} {kd : mK} {I : mI} {J : mJ} {P : mP} (hC : RR m kd I P t T fp rr H M un cs tx e im wk) (hz : okZ t T H M cs e) (hN : N ≤ t) (hX : ∀ j, j < N → X j = sBy (T j)) (hR0 : rIn R0) : Ct yX10_street cX10_street 3 (some .int) 15 0 0 [.ref m, .int (nI N)] n kd I J P (pQ m n kd I J P (some (.int (rf (rLines (tkT N X) (tkT N X).2.1 R0)))) 0 (qSt m (rLines (tkT N X) (tkT N X).2.1 R0) T rr H M un cs tx e im wk)) := by
  refine ct_of 1 (by decide +kernel) (Nat.le_of_ble_eq_true rfl) rfl ?_
  refine r_aload_n dX10_street_0 rfl ?_
  refine r_iconst (v := nI 0) dX10_street_1 (by decide) ?_
  refine r_putI dX10_street_2 fl_X10_193 rfl rfl (kM_0 hC.1) ?_
  refine q_th hC (fun I hC h0 => ?_)
  have hC0 := hC
  have hz0 := hz
  obtain ⟨hM, hT, hSt, hLf, hIm, hWk⟩ := hC
  obtain ⟨okt, oks, okl⟩ := hz
  have hH8 : H ≤ 8 := oks.2.1
  have hM20 : 2 ≤ M ∧ M ≤ 20 := oks.1
  have hH : I m 1 = nI H := hSt.1.1
  have hMo : I m 2 = nI M := hSt.1.2.1
  have ht5 := okt.1
  refine r_aload_n dX10_street_5 rfl ?_
  refine r_iload_n dX10_street_6 rfl ?_
  refine r_if_lt (tgt := 22) dX10_street_7 (by decide) (fun hz => absurd hz (show ¬ _ from (fun z => absurd z (z_nlt (by omega))))) (fun _ => ?_)
  refine r_iload_n dX10_street_10 rfl ?_
  refine r_aload_n dX10_street_11 rfl ?_
  refine r_getI dX10_street_12 fl_X10_196 rfl (kM_0 hM) ?_
  rw [hT.1]
  refine r_icmp_gt (tgt := 22) dX10_street_15 (by decide) (fun hz => absurd hz (show ¬ _ from (by rw [nI_ltI (by omega) (by omega)]; omega))) (fun _ => ?_)
  refine r_iconst (v := nI 1) dX10_street_18 (by decide) ?_
  refine r_goto (tgt := 23) dX10_street_19 (by decide) ?_
  refine r_iconst (v := nI 1) dX10_street_23 (by decide) ?_
  refine r_virtE (c_X10_right m true (nI 1) hM h0 (by decide)) lk_X10_343 mc_X10_right dX10_street_24 (kM_0 hM) (by decide) rfl rfl (Nat.le_of_ble_eq_true rfl) ?_
  rw [thM_ok]
  refine r_if_ne (tgt := 32) dX10_street_27 (by decide) (fun _ => ?_) (fun hz => absurd hz (show ¬ _ from (by decide)))
  refine r_aload_n dX10_street_32 rfl ?_
  refine r_iconst (v := nI 0) dX10_street_33 (by decide) ?_
  refine r_putI dX10_street_34 fl_X10_196 rfl rfl (kM_0 hM) ?_
  try simp (disch := omega) only [am_up_s, am_up_n, am_up_up]
  refine r_aload_n dX10_street_37 rfl ?_
  refine r_iconst (v := (-1)) dX10_street_38 (by decide) ?_
  refine r_putI dX10_street_39 fl_X10_47 rfl rfl (kM_0 hM) ?_
  try simp (disch := omega) only [am_up_s, am_up_n, am_up_up]
  refine r_aload_n dX10_street_42 rfl ?_
  refine r_iconst (v := nI 0) dX10_street_43 (by decide) ?_
  refine r_putI dX10_street_44 fl_X10_249 rfl rfl (kM_0 hM) ?_
  try simp (disch := omega) only [am_up_s, am_up_n, am_up_up]
  refine r_aload_n dX10_street_47 rfl ?_
  refine r_iload_n dX10_street_48 rfl ?_
  refine r_putI dX10_street_49 fl_X10_203 rfl rfl (kM_0 hM) ?_
  try simp (disch := omega) only [am_up_s, am_up_n, am_up_up]
  refine r_aload_n dX10_street_52 rfl ?_
  refine r_iconst (v := nI 0) dX10_street_53 (by decide) ?_
  refine r_putI dX10_street_54 fl_X10_206 rfl rfl (kM_0 hM) ?_
  try simp (disch := omega) only [am_up_s, am_up_n, am_up_up]
  refine r_aload_n dX10_street_57 rfl ?_
  refine r_iconst (v := nI 0) dX10_street_58 (by decide) ?_
  refine r_putI dX10_street_59 fl_X10_266 rfl rfl (kM_0 hM) ?_
  try simp (disch := omega) only [am_up_s, am_up_n, am_up_up]
  refine r_aload_n dX10_street_62 rfl ?_
  refine r_bipush (v := nI 9) dX10_street_63 (by decide) ?_
  refine r_putI dX10_street_65 fl_X10_331 rfl rfl (kM_0 hM) ?_
  try simp (disch := omega) only [am_up_s, am_up_n, am_up_up]
  refine r_aload_n dX10_street_68 rfl ?_
  refine r_iconst (v := nI 0) dX10_street_69 (by decide) ?_
  refine r_putZ dX10_street_70 fl_X10_334 rfl rfl (by first | exact Or.inl rfl | exact Or.inr rfl | assumption) (kM_0 hM) ?_
  try simp (disch := omega) only [am_up_s, am_up_n, am_up_up]
  refine r_aload_n dX10_street_73 rfl ?_
  refine r_iconst (v := nI 0) dX10_street_74 (by decide) ?_
  refine r_putZ dX10_street_75 fl_X10_327 rfl rfl (by first | exact Or.inl rfl | exact Or.inr rfl | assumption) (kM_0 hM) ?_
  try simp (disch := omega) only [am_up_s, am_up_n, am_up_up]
  refine r_aload_n dX10_street_78 rfl ?_
  refine r_iconst (v := nI 0) dX10_street_79 (by decide) ?_
  refine r_putI dX10_street_80 fl_X10_275 rfl rfl (kM_0 hM) ?_
  try simp (disch := omega) only [am_up_s, am_up_n, am_up_up]
  refine w_st83 hC0 hz0 h0 hN hX hR0 ⟨fun a ha => am_up_n _ _ ha, fun j hj => ?_, ?_, ?_, ?_, ?_, ?_, ?_, ?_, ?_, ?_, ?_⟩
  all_goals simp (disch := omega) only [am_up_s, am_up_n]

set_option maxHeartbeats 4000000 in
set_option maxRecDepth 100000 in
theorem q_street_no1 (m : Nat) (x : Int32) {t : Nat} {T : Nat → Nat} {fp : Int32} {rr : Nat → Int32} {H M : Nat} {un : Bool} {cs : Nat → List Nat} {tx : Nat → List Int32} {e : Lf} {im : Option Lf} {wk : Option (List Nat)} {n : Nat} {kd : mK} {I : mI} {J : mJ} {P : mP} (hC : RR m kd I P t T fp rr H M un cs tx e im wk) (hz : okZ t T H M cs e) (hx : x < 0) : Ct yX10_street cX10_street 3 (some .int) 15 0 0 [.ref m, .int x] n kd I J P (pQ m n kd I J P (some (.int (nI 0))) 1 (RX m t T fp rr H M un cs tx e im wk)) := by
  refine ct_of 1 (by decide +kernel) (Nat.le_of_ble_eq_true rfl) rfl ?_
  refine r_aload_n dX10_street_0 rfl ?_
  refine r_iconst (v := nI 0) dX10_street_1 (by decide) ?_
  refine r_putI dX10_street_2 fl_X10_193 rfl rfl (kM_0 hC.1) ?_
  refine q_th hC (fun I hC h0 => ?_)
  have hC0 := hC
  have hz0 := hz
  obtain ⟨hM, hT, hSt, hLf, hIm, hWk⟩ := hC
  obtain ⟨okt, oks, okl⟩ := hz
  have hH8 : H ≤ 8 := oks.2.1
  have hM20 : 2 ≤ M ∧ M ≤ 20 := oks.1
  have hH : I m 1 = nI H := hSt.1.1
  have hMo : I m 2 = nI M := hSt.1.2.1
  refine r_aload_n dX10_street_5 rfl ?_
  refine r_iload_n dX10_street_6 rfl ?_
  refine r_if_lt (tgt := 22) dX10_street_7 (by decide) (fun _ => ?_) (fun hz => absurd (show _ from hx) hz)
  refine r_iconst (v := nI 0) dX10_street_22 (by decide) ?_
  refine r_iconst (v := nI 1) dX10_street_23 (by decide) ?_
  refine r_virtE (c_X10_right m false (nI 1) hM h0 (by decide)) lk_X10_343 mc_X10_right dX10_street_24 (kM_0 hM) (by decide) rfl rfl (Nat.le_of_ble_eq_true rfl) ?_
  refine r_if_ne (tgt := 32) dX10_street_27 (by decide) (fun hz => absurd (show _ from rfl) hz) (fun _ => ?_)
  refine r_iconst (v := nI 0) dX10_street_30 (by decide) ?_
  refine r_iret rfl dX10_street_31 ?_
  exact pQ.th hC0 am_is.mk

set_option maxHeartbeats 4000000 in
set_option maxRecDepth 100000 in
theorem q_street_no2 (m : Nat) (N : Nat) {t : Nat} {T : Nat → Nat} {fp : Int32} {rr : Nat → Int32} {H M : Nat} {un : Bool} {cs : Nat → List Nat} {tx : Nat → List Int32} {e : Lf} {im : Option Lf} {wk : Option (List Nat)} {n : Nat} {kd : mK} {I : mI} {J : mJ} {P : mP} (hC : RR m kd I P t T fp rr H M un cs tx e im wk) (hz : okZ t T H M cs e) (hN : t < N) (hN3 : N < 2 ^ 31) : Ct yX10_street cX10_street 3 (some .int) 15 0 0 [.ref m, .int (nI N)] n kd I J P (pQ m n kd I J P (some (.int (nI 0))) 1 (RX m t T fp rr H M un cs tx e im wk)) := by
  refine ct_of 1 (by decide +kernel) (Nat.le_of_ble_eq_true rfl) rfl ?_
  refine r_aload_n dX10_street_0 rfl ?_
  refine r_iconst (v := nI 0) dX10_street_1 (by decide) ?_
  refine r_putI dX10_street_2 fl_X10_193 rfl rfl (kM_0 hC.1) ?_
  refine q_th hC (fun I hC h0 => ?_)
  have hC0 := hC
  have hz0 := hz
  obtain ⟨hM, hT, hSt, hLf, hIm, hWk⟩ := hC
  obtain ⟨okt, oks, okl⟩ := hz
  have hH8 : H ≤ 8 := oks.2.1
  have hM20 : 2 ≤ M ∧ M ≤ 20 := oks.1
  have hH : I m 1 = nI H := hSt.1.1
  have hMo : I m 2 = nI M := hSt.1.2.1
  have ht5 := okt.1
  refine r_aload_n dX10_street_5 rfl ?_
  refine r_iload_n dX10_street_6 rfl ?_
  refine r_if_lt (tgt := 22) dX10_street_7 (by decide) (fun hz => absurd hz (show ¬ _ from (fun z => absurd z (z_nlt (by omega))))) (fun _ => ?_)
  refine r_iload_n dX10_street_10 rfl ?_
  refine r_aload_n dX10_street_11 rfl ?_
  refine r_getI dX10_street_12 fl_X10_196 rfl (kM_0 hM) ?_
  rw [hT.1]
  refine r_icmp_gt (tgt := 22) dX10_street_15 (by decide) (fun _ => ?_) (fun hz => absurd (show _ from (by rw [nI_ltI (by omega) (by omega)]; omega)) hz)
  refine r_iconst (v := nI 0) dX10_street_22 (by decide) ?_
  refine r_iconst (v := nI 1) dX10_street_23 (by decide) ?_
  refine r_virtE (c_X10_right m false (nI 1) hM h0 (by decide)) lk_X10_343 mc_X10_right dX10_street_24 (kM_0 hM) (by decide) rfl rfl (Nat.le_of_ble_eq_true rfl) ?_
  refine r_if_ne (tgt := 32) dX10_street_27 (by decide) (fun hz => absurd (show _ from rfl) hz) (fun _ => ?_)
  refine r_iconst (v := nI 0) dX10_street_30 (by decide) ?_
  refine r_iret rfl dX10_street_31 ?_
  exact pQ.th hC0 am_is.mk

