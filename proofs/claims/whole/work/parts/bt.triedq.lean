/-! LAWS TRIED on any state: the reference's public method -/
def rqF (m : Nat) (I I' : mI) (J J' : mJ) : Prop := (∀ a, (a < m ∨ m + 55 < a) → I' a = I a ∧ J' a = J a) ∧ (∀ a, m + 10 < a → a ≤ m + 55 → a ≠ m + 40 → (a < m + 25 ∨ m + 27 < a) → a ≠ m + 30 → a ≠ m + 31 → I' a = I a) ∧ ∀ j, j ≠ 78 → j ≠ 1 → j ≠ 30 → j ≠ 77 → j ≠ 52 → j ≠ 53 → I' m j = I m j
def rqP (n : Nat) (kd : mK) (I : mI) (J : mJ) (P : mP) (m : Nat) (l0 v : Int32) : am_Post := fun y n' kd' I' J' P' => y = .inl (some (.int v)) ∧ n' = n ∧ kd' = kd ∧ P' = P ∧ ((∀ a, (a < m ∨ m + 55 < a) → I' a = I a ∧ J' a = J a) ∧ (∀ a, m + 10 < a → a ≤ m + 55 → a ≠ m + 40 → (a < m + 25 ∨ m + 27 < a) → a ≠ m + 30 → a ≠ m + 31 → I' a = I a) ∧ (∀ j, j ≠ 78 → j ≠ 1 → j ≠ 30 → j ≠ 77 → j ≠ 52 → j ≠ 53 → j ≠ 47 → I' m j = I m j) ∧ I' m 47 = l0 ∧ I' m 1 = I m 79 ∧ ∀ q, q < 10 → ∀ x, x < lnS q → I' (m + (1 + q)) x = I (m + (41 + q)) x) ∧ I' m 0 = nI 0
set_option maxHeartbeats 4000000 in
set_option maxRecDepth 100000 in
theorem rq_loop (m M H law S wh : Nat) (un : Bool) (l0 : Int32) {n : Nat} {kd : mK} {I0 : mI} {J0 : mJ} {P : mP} (hM : kM kd P m) (hM0 : 0 < M) (hM20 : M ≤ 20) (hH1 : 1 ≤ H) (hH8 : H ≤ 8) (hlaw : law ≤ 2) (hwh : wh ≤ 2) (hS : S ≤ 40) : ∀ (cnt i : Nat) (z : Option Value) (I : mI) (J : mJ), i + cnt = S → rtI m M un I → rqF m I0 I J0 J → Ru yX10_tried.cls cX10_tried 11 (some .int) yX10_tried.name 10 (rqP n kd I0 J0 P m l0 (trV law H M un S wh)) 0 0 99 [some (.ref m), some (.int (nI law)), some (.int (nI S)), some (.int (nI H)), some (.int (nI wh)), some (.int l0), some (.int (nI (brN law H M un i))), some (.int (leN law H M un i)), some (.int (nI (spN law H M un i))), some (.int (nI i)), z] [] n kd I J P := by
  intro cnt
  induction cnt with
  | zero =>
    intro i z I J hi hI hF
    have ei : i = S := by omega
    subst ei
    refine r_iload dX10_tried_99 rfl ?_
    refine r_iload_n dX10_tried_101 rfl ?_
    refine r_icmp_ge (tgt := 163) dX10_tried_102 (by decide) (fun _ => ?_) (fun hz => absurd (show _ from (by rw [nI_leI (by omega) (by omega)]; omega)) hz)
    refine r_aload_n dX10_tried_163 rfl ?_
    refine r_virt (e_X10_takesStreet m hM) lk_X10_557 mc_X10_takesStreet dX10_tried_164 hM.1 (by decide) rfl rfl (Nat.le_of_ble_eq_true rfl) (Nat.le_of_eq (Nat.zero_add _)) (Nat.le_of_eq (Nat.zero_add _)) (fun _ _ _ _ _ _ h => nomatch h.1) ?_
    rintro v n1 kd1 I1 J1 P1 ⟨h0, rfl, rfl, rfl, rfl, hf1, hf2, hf3, hf4⟩
    cases h0
    simp only [Option.toList, List.nil_append]
    have h00 : I1 m 0 = nI 0 := by rw [hf2 0 (by decide)]; exact hI.2.2.2.2.2
    have hfin : (∀ a, (a < m ∨ m + 55 < a) → (va_up I1 m (va_up (I1 m) 47 l0)) a = I0 a ∧ J1 a = J0 a) ∧ (∀ a, m + 10 < a → a ≤ m + 55 → a ≠ m + 40 → (a < m + 25 ∨ m + 27 < a) → a ≠ m + 30 → a ≠ m + 31 → (va_up I1 m (va_up (I1 m) 47 l0)) a = I0 a) ∧ (∀ j, j ≠ 78 → j ≠ 1 → j ≠ 30 → j ≠ 77 → j ≠ 52 → j ≠ 53 → j ≠ 47 → (va_up I1 m (va_up (I1 m) 47 l0)) m j = I0 m j) ∧ (va_up I1 m (va_up (I1 m) 47 l0)) m 47 = l0 ∧ (va_up I1 m (va_up (I1 m) 47 l0)) m 1 = I0 m 79 ∧ ∀ q, q < 10 → ∀ x, x < lnS q → (va_up I1 m (va_up (I1 m) 47 l0)) (m + (1 + q)) x = I0 (m + (41 + q)) x := by
      refine ⟨fun a ha => ⟨?_, (hF.1 a ha).2⟩, fun a a1 a2 a3 a4 a5 a6 => ?_, fun j j1 j2 j3 j4 j5 j6 j7 => ?_, by rw [am_up_s, am_up_s], ?_, fun q hq x hx => ?_⟩
      · rw [am_up_n _ _ (by omega), hf1 a (by omega) (by omega)]; exact (hF.1 a ha).1
      · rw [am_up_n _ _ (by omega), hf1 a (by omega) (by omega)]; exact hF.2.1 a a1 a2 a3 a4 a5 a6
      · rw [am_up_s, am_up_n _ _ j7, hf2 j j2]; exact hF.2.2 j j1 j2 j3 j4 j5 j6
      · rw [am_up_s, am_up_n _ _ (by decide), hf3]; exact hF.2.2 79 (by decide) (by decide) (by decide) (by decide) (by decide) (by decide)
      · rw [am_up_n _ _ (by omega), hf4 q hq x hx, hF.2.1 (m + (41 + q)) (by omega) (by omega) (by omega) (by omega) (by omega) (by omega)]
    rcases (by omega : wh = 0 ∨ wh = 1 ∨ wh = 2) with e | e | e
    · rw [e]
      rw [show trV law H M un i 0 = nI (brN law H M un i) from rfl]
      refine r_aload_n dX10_tried_167 rfl ?_
      refine r_iload dX10_tried_168 rfl ?_
      refine r_putI dX10_tried_170 fl_X10_363 rfl rfl (kM_0 hM) ?_
      refine r_iload dX10_tried_173 rfl ?_
      refine r_if_ne (tgt := 183) dX10_tried_175 (by decide) (fun hz => absurd (show _ from rfl) hz) (fun _ => ?_)
      refine r_iload dX10_tried_178 rfl ?_
      refine r_goto (tgt := 196) dX10_tried_180 (by decide) ?_
      refine r_iret rfl dX10_tried_196 ?_
      exact ⟨rfl, rfl, rfl, rfl, hfin, by rw [am_up_s, am_up_n _ _ (by decide)]; exact h00⟩
    · rw [e]
      rw [show trV law H M un i 1 = leN law H M un i from rfl]
      refine r_aload_n dX10_tried_167 rfl ?_
      refine r_iload dX10_tried_168 rfl ?_
      refine r_putI dX10_tried_170 fl_X10_363 rfl rfl (kM_0 hM) ?_
      refine r_iload dX10_tried_173 rfl ?_
      refine r_if_ne (tgt := 183) dX10_tried_175 (by decide) (fun _ => ?_) (fun hz => absurd hz (show ¬ _ from (by decide)))
      refine r_iload dX10_tried_183 rfl ?_
      refine r_iconst (v := nI 1) dX10_tried_185 (by decide) ?_
      refine r_icmp_ne (tgt := 194) dX10_tried_186 (by decide) (fun hz => absurd (show _ from rfl) hz) (fun _ => ?_)
      refine r_iload dX10_tried_189 rfl ?_
      refine r_goto (tgt := 196) dX10_tried_191 (by decide) ?_
      refine r_iret rfl dX10_tried_196 ?_
      exact ⟨rfl, rfl, rfl, rfl, hfin, by rw [am_up_s, am_up_n _ _ (by decide)]; exact h00⟩
    · rw [e]
      rw [show trV law H M un i 2 = nI (spN law H M un i) from rfl]
      refine r_aload_n dX10_tried_167 rfl ?_
      refine r_iload dX10_tried_168 rfl ?_
      refine r_putI dX10_tried_170 fl_X10_363 rfl rfl (kM_0 hM) ?_
      refine r_iload dX10_tried_173 rfl ?_
      refine r_if_ne (tgt := 183) dX10_tried_175 (by decide) (fun _ => ?_) (fun hz => absurd hz (show ¬ _ from (by decide)))
      refine r_iload dX10_tried_183 rfl ?_
      refine r_iconst (v := nI 1) dX10_tried_185 (by decide) ?_
      refine r_icmp_ne (tgt := 194) dX10_tried_186 (by decide) (fun _ => ?_) (fun hz => absurd hz (show ¬ _ from (by decide)))
      refine r_iload dX10_tried_194 rfl ?_
      refine r_iret rfl dX10_tried_196 ?_
      exact ⟨rfl, rfl, rfl, rfl, hfin, by rw [am_up_s, am_up_n _ _ (by decide)]; exact h00⟩
  | succ cnt ih =>
    intro i z I J hi hI hF
    refine r_iload dX10_tried_99 rfl ?_
    refine r_iload_n dX10_tried_101 rfl ?_
    refine r_icmp_ge (tgt := 163) dX10_tried_102 (by decide) (fun hz => absurd hz (show ¬ _ from (by rw [nI_leI (by omega) (by omega)]; omega))) (fun _ => ?_)
    refine r_aload_n dX10_tried_105 rfl ?_
    refine r_iload_n dX10_tried_106 rfl ?_
    refine r_aload_n dX10_tried_107 rfl ?_
    refine r_iload dX10_tried_108 rfl ?_
    refine r_iload_n dX10_tried_110 rfl ?_
    refine r_virt (c_plantsAllN m M H (nI i) hM hI.1 hM0 hM20 hH8) lk_X10_541 mc_X10_plantsAll dX10_tried_111 hM.1 (by decide) rfl rfl (Nat.le_of_ble_eq_true rfl) (Nat.le_of_eq (Nat.zero_add _)) (Nat.le_of_eq (Nat.zero_add _)) (fun _ _ _ _ _ _ h => nomatch h.1) ?_
    rintro v n1 kd1 I1 J1 P1 ⟨h0, rfl, rfl, rfl, rfl, hst, hf1, hf2⟩
    cases h0
    simp only [Option.toList, List.cons_append, List.nil_append]
    obtain ⟨g2, g3, g47, g54, g58, g0⟩ := hI
    have hlh := c_X10_lawHolds (n := n1) (J := J1) m M H un (sdCs M (nI i)) law hM (cs_seed hM0 hM20 hH8) hH8 hM20 hst (by rw [hf1 2 (by decide) (by decide) (by decide) (by decide)]; exact g2) (by rw [hf1 3 (by decide) (by decide) (by decide) (by decide)]; exact g3) (by rw [hf1 47 (by decide) (by decide) (by decide) (by decide)]; exact g47) (by rw [hf1 54 (by decide) (by decide) (by decide) (by decide)]; exact g54) (by rw [hf1 58 (by decide) (by decide) (by decide) (by decide)]; exact g58) hlaw
    refine r_virt hlh lk_X10_554 mc_X10_lawHolds dX10_tried_114 hM.1 (by decide) rfl rfl (Nat.le_of_ble_eq_true rfl) (Nat.le_of_eq (Nat.zero_add _)) (Nat.le_of_eq (Nat.zero_add _)) (fun _ _ _ _ _ _ h => nomatch h.1) ?_
    rintro v n2 kd2 I2 J2 P2 ⟨h0, rfl, rfl, rfl, hl1, hl2, hl3⟩
    cases h0
    simp only [Option.toList, List.cons_append, List.nil_append]
    have hc : ∀ j, j ≠ 78 → j ≠ 1 → j ≠ 30 → j ≠ 77 → j ≠ 52 → j ≠ 53 → I2 m j = I m j := fun j j1 j2 j3 j4 j5 j6 => (hl2 j j5 j6).trans (hf1 j j1 j2 j3 j4)
    have hI2 : rtI m M un I2 := ⟨by rw [hc 2 (by decide) (by decide) (by decide) (by decide) (by decide) (by decide)]; exact g2, by rw [hc 3 (by decide) (by decide) (by decide) (by decide) (by decide) (by decide)]; exact g3, by rw [hc 47 (by decide) (by decide) (by decide) (by decide) (by decide) (by decide)]; exact g47, by rw [hc 54 (by decide) (by decide) (by decide) (by decide) (by decide) (by decide)]; exact g54, by rw [hc 58 (by decide) (by decide) (by decide) (by decide) (by decide) (by decide)]; exact g58, by rw [hc 0 (by decide) (by decide) (by decide) (by decide) (by decide) (by decide)]; exact g0⟩
    have hF2 : rqF m I0 I2 J0 J2 := by
      refine ⟨fun a ha => ⟨by rw [hl1 a (by omega) (by omega) (by omega) (by omega) (by omega) (by omega), hf2 a (by omega)]; exact (hF.1 a ha).1, by rw [hl3 a (by omega) (by omega)]; exact (hF.1 a ha).2⟩, fun a a1 a2 a3 a4 a5 a6 => ?_, fun j j1 j2 j3 j4 j5 j6 => (hc j j1 j2 j3 j4 j5 j6).trans (hF.2.2 j j1 j2 j3 j4 j5 j6)⟩
      rw [hl1 a (by omega) (by omega) (by omega) (by omega) a5 a6, hf2 a (by omega)]
      exact hF.2.1 a a1 a2 a3 a4 a5 a6
    have ihn := fun z => ih (i + 1) z I2 J2 (by omega) hI2 hF2
    unfold brN leN spN at ihn
    rcases lawB_rng law H M un (sdCs M (nI i)) with e | e | e
    · rw [show lawH law H M un (sdCs M (nI i)) = -2 from by unfold lawH; rw [e]; rfl]
      rw [show lwS law H M un i = -2 from e] at ihn
      rw [if_neg (by decide), if_neg (by decide), if_pos rfl] at ihn
      refine r_istore dX10_tried_117 (by decide) ?_
      refine r_iload dX10_tried_119 rfl ?_
      refine r_iload dX10_tried_121 rfl ?_
      refine r_bipush (v := -2) dX10_tried_123 (by decide) ?_
      refine r_icmp_ne (tgt := 132) dX10_tried_125 (by decide) (fun hz => absurd (show _ from rfl) hz) (fun _ => ?_)
      refine r_iconst (v := nI 1) dX10_tried_128 (by decide) ?_
      refine r_goto (tgt := 133) dX10_tried_129 (by decide) ?_
      refine r_iadd dX10_tried_133 ?_
      rw [nI_add]
      refine r_istore dX10_tried_134 (by decide) ?_
      refine r_iload dX10_tried_136 rfl ?_
      refine r_if_eq (tgt := 144) dX10_tried_138 (by decide) (fun hz => absurd hz (show ¬ _ from (by decide))) (fun _ => ?_)
      refine r_goto (tgt := 157) dX10_tried_141 (by decide) ?_
      refine r_iinc (v := nI (i + 1)) dX10_tried_157 rfl (nI_inc i) ?_
      refine r_goto (tgt := 99) dX10_tried_160 (by decide) ?_
      exact ihn _
    · rw [show lawH law H M un (sdCs M (nI i)) = nI 0 from by unfold lawH; rw [e]; rfl]
      rw [show lwS law H M un i = nI 1 from e] at ihn
      rw [if_pos rfl, if_pos rfl, if_neg (show ¬ nI 1 = (-2 : Int32) from by decide)] at ihn
      by_cases hle : leN law H M un i = -1
      · rw [if_pos hle] at ihn
        rw [hle]
        refine r_istore dX10_tried_117 (by decide) ?_
        refine r_iload dX10_tried_119 rfl ?_
        refine r_iload dX10_tried_121 rfl ?_
        refine r_bipush (v := -2) dX10_tried_123 (by decide) ?_
        refine r_icmp_ne (tgt := 132) dX10_tried_125 (by decide) (fun _ => ?_) (fun hz => absurd hz (show ¬ _ from (by decide)))
        refine r_iconst (v := nI 0) dX10_tried_132 (by decide) ?_
        refine r_iadd dX10_tried_133 ?_
        rw [nI_add, Nat.add_zero]
        refine r_istore dX10_tried_134 (by decide) ?_
        refine r_iload dX10_tried_136 rfl ?_
        refine r_if_eq (tgt := 144) dX10_tried_138 (by decide) (fun _ => ?_) (fun hz => absurd (show _ from (by decide)) hz)
        refine r_iinc (v := nI (brN law H M un i + 1)) dX10_tried_144 rfl (nI_inc _) ?_
        refine r_iload dX10_tried_147 rfl ?_
        refine r_iconst (v := (-1)) dX10_tried_149 (by decide) ?_
        refine r_icmp_ne (tgt := 157) dX10_tried_150 (by decide) (fun hz => absurd (show _ from rfl) hz) (fun _ => ?_)
        refine r_iload dX10_tried_153 rfl ?_
        refine r_istore dX10_tried_155 (by decide) ?_
        refine r_iinc (v := nI (i + 1)) dX10_tried_157 rfl (nI_inc i) ?_
        refine r_goto (tgt := 99) dX10_tried_160 (by decide) ?_
        exact ihn _
      · rw [if_neg hle] at ihn
        refine r_istore dX10_tried_117 (by decide) ?_
        refine r_iload dX10_tried_119 rfl ?_
        refine r_iload dX10_tried_121 rfl ?_
        refine r_bipush (v := -2) dX10_tried_123 (by decide) ?_
        refine r_icmp_ne (tgt := 132) dX10_tried_125 (by decide) (fun _ => ?_) (fun hz => absurd hz (show ¬ _ from (by decide)))
        refine r_iconst (v := nI 0) dX10_tried_132 (by decide) ?_
        refine r_iadd dX10_tried_133 ?_
        rw [nI_add, Nat.add_zero]
        refine r_istore dX10_tried_134 (by decide) ?_
        refine r_iload dX10_tried_136 rfl ?_
        refine r_if_eq (tgt := 144) dX10_tried_138 (by decide) (fun _ => ?_) (fun hz => absurd (show _ from (by decide)) hz)
        refine r_iinc (v := nI (brN law H M un i + 1)) dX10_tried_144 rfl (nI_inc _) ?_
        refine r_iload dX10_tried_147 rfl ?_
        refine r_iconst (v := (-1)) dX10_tried_149 (by decide) ?_
        refine r_icmp_ne (tgt := 157) dX10_tried_150 (by decide) (fun _ => ?_) (fun hz => absurd hz (show ¬ _ from hle))
        refine r_iinc (v := nI (i + 1)) dX10_tried_157 rfl (nI_inc i) ?_
        refine r_goto (tgt := 99) dX10_tried_160 (by decide) ?_
        exact ihn _
    · rw [show lawH law H M un (sdCs M (nI i)) = nI 1 from by unfold lawH; rw [e]; rfl]
      rw [show lwS law H M un i = nI 0 from e] at ihn
      rw [if_neg (by decide), if_neg (by decide), if_neg (by decide)] at ihn
      refine r_istore dX10_tried_117 (by decide) ?_
      refine r_iload dX10_tried_119 rfl ?_
      refine r_iload dX10_tried_121 rfl ?_
      refine r_bipush (v := -2) dX10_tried_123 (by decide) ?_
      refine r_icmp_ne (tgt := 132) dX10_tried_125 (by decide) (fun _ => ?_) (fun hz => absurd hz (show ¬ _ from (by decide)))
      refine r_iconst (v := nI 0) dX10_tried_132 (by decide) ?_
      refine r_iadd dX10_tried_133 ?_
      rw [nI_add, Nat.add_zero]
      refine r_istore dX10_tried_134 (by decide) ?_
      refine r_iload dX10_tried_136 rfl ?_
      refine r_if_eq (tgt := 144) dX10_tried_138 (by decide) (fun hz => absurd hz (show ¬ _ from (by decide))) (fun _ => ?_)
      refine r_goto (tgt := 157) dX10_tried_141 (by decide) ?_
      refine r_iinc (v := nI (i + 1)) dX10_tried_157 rfl (nI_inc i) ?_
      refine r_goto (tgt := 99) dX10_tried_160 (by decide) ?_
      exact ihn _
theorem RR.tk {m t : Nat} {kd : mK} {I I1 : mI} {P : mP} {T : Nat → Nat} {fp : Int32} {rr : Nat → Int32} {H M : Nat} {un : Bool} {cs : Nat → List Nat} {tx : Nat → List Int32} {e : Lf} {im : Option Lf} {wk : Option (List Nat)} (hz : okZ t T H M cs e) (hC : RR m kd I P t T fp rr H M un cs tx e im wk) (hI : ∀ a, m + 10 < a → a ≤ m + 55 → (a < m + 25 ∨ m + 31 < a) → (a < m + 38 ∨ m + 50 < a) → I1 a = I a) (hj : ∀ j, j = 1 ∨ j = 2 ∨ j = 3 ∨ j = 15 ∨ j = 17 ∨ j = 45 ∨ j = 47 ∨ j = 54 ∨ j = 58 ∨ j = 74 ∨ j = 90 ∨ j = 91 ∨ j = 92 → I1 m j = I m j) (hq : ∀ q, q < 10 → ∀ x, x < lnS q → I1 (m + (1 + q)) x = I (m + (1 + q)) x) : RR m kd I1 P t T fp rr H M un cs tx e im wk := by
  obtain ⟨hM, h1, h2, h3, h4, h5⟩ := hC
  have hH8 : H ≤ 8 := hz.2.1.2.1
  have s8 : ∀ q, q < 10 → q ≠ 6 → q ≠ 7 → lnS q = 8 := fun q a b c => by unfold lnS; rw [if_neg b, if_neg c]
  have q8 : ∀ q, q < 10 → q ≠ 6 → q ≠ 7 → ∀ x, x < 8 → I1 (m + (1 + q)) x = I (m + (1 + q)) x := fun q a b c x hx => hq q a x (by rw [s8 q a b c]; exact hx)
  have e7 : ∀ x, x < 1300 → I1 (m + 7) x = I (m + 7) x := fun x hx => hq 6 (by decide) x hx
  have e8 : ∀ x, x < 500 → I1 (m + 8) x = I (m + 8) x := fun x hx => hq 7 (by decide) x hx
  refine ⟨hM, h1.cg (hj _ (by decide)) (hj _ (by decide)) (hI _ (by omega) (by omega) (by omega) (by omega)) (hI _ (by omega) (by omega) (by omega) (by omega)), ?_, ?_, h4.cg (hj _ (by decide)) (hj _ (by decide)) (hj _ (by decide)) (fun a x y => hI a (by omega) (by omega) (by omega) (by omega)), h5.cg (hj _ (by decide)) (hI _ (by omega) (by omega) (by omega) (by omega))⟩
  · obtain ⟨⟨s1, s2, s3⟩, ⟨s4, s5⟩, s6⟩ := h2
    refine ⟨⟨(hj 1 (by decide)).trans s1, (hj 2 (by decide)).trans s2, (hj 3 (by decide)).trans s3⟩, ⟨(hj 54 (by decide)).trans s4, (hj 58 (by decide)).trans s5⟩, fun h hh => ?_⟩
    obtain ⟨r1, r2, r3⟩ := s6 h hh
    refine ⟨(q8 2 (by decide) (by decide) (by decide) h (by omega)).trans r1, (q8 5 (by decide) (by decide) (by decide) h (by omega)).trans r2, fun hne => ?_⟩
    obtain ⟨⟨a, a1, a2⟩, p, q, p1, p2, p3, p4⟩ := r3 hne
    refine ⟨⟨a, (q8 4 (by decide) (by decide) (by decide) h (by omega)).trans a1, rcs_13 e7 _ _ a2⟩, p, q, (q8 8 (by decide) (by decide) (by decide) h (by omega)).trans p1, (q8 9 (by decide) (by decide) (by decide) h (by omega)).trans p2, p3, ?_⟩
    rw [wrT_cg (A := I (m + 8)) q p (nI 32) false (fun j x y => e8 j (by omega))]
    exact p4
  · obtain ⟨l1, ⟨l2, l3⟩, l4, l5⟩ := h3
    refine ⟨fun h hh => ?_, ⟨(hj 45 (by decide)).trans l2, fun j hx => ?_⟩, (hj 47 (by decide)).trans l4, fun j hx => ?_⟩
    · obtain ⟨r1, r2, r3⟩ := l1 h hh
      exact ⟨(q8 0 (by decide) (by decide) (by decide) h (by omega)).trans r1, (q8 1 (by decide) (by decide) (by decide) h (by omega)).trans r2, (q8 3 (by decide) (by decide) (by decide) h (by omega)).trans r3⟩
    · rw [hI (m + 23) (by omega) (by omega) (by omega) (by omega)]; exact l3 j hx
    · rw [hI (m + 24) (by omega) (by omega) (by omega) (by omega)]; exact l5 j hx
set_option maxHeartbeats 4000000 in
set_option maxRecDepth 100000 in
theorem q_tried (m : Nat) (law S Hs wh : Nat) {t : Nat} {T : Nat → Nat} {fp : Int32} {rr : Nat → Int32} {H M : Nat} {un : Bool} {cs : Nat → List Nat} {tx : Nat → List Int32} {e : Lf} {im : Option Lf} {wk : Option (List Nat)} {n : Nat} {kd : mK} {I : mI} {J : mJ} {P : mP} (hC : RR m kd I P t T fp rr H M un cs tx e im wk) (hz : okZ t T H M cs e) (hH1 : 1 ≤ Hs) (hHs8 : Hs ≤ 8) (hlaw : law ≤ 2) (hwh : wh ≤ 2) (hS40 : S ≤ 40) : Ct yX10_tried cX10_tried 11 (some .int) 10 0 0 [.ref m, .int (nI law), .int (nI S), .int (nI Hs), .int (nI wh)] n kd I J P (pQ m n kd I J P (some (.int (trV law Hs M un S wh))) 0 (RX m t T fp rr H M un cs tx e im wk)) := by
  refine ct_of 6 (by decide +kernel) (Nat.le_of_ble_eq_true rfl) rfl ?_
  refine r_aload_n dX10_tried_0 rfl ?_
  refine r_iconst (v := nI 0) dX10_tried_1 (by decide) ?_
  refine r_putI dX10_tried_2 fl_X10_193 rfl rfl (kM_0 hC.1) ?_
  refine q_th hC (fun I hC h0 => ?_)
  have hC0 := hC
  have hz0 := hz
  obtain ⟨hM, hT, hSt, hLf, hIm, hWk⟩ := hC
  obtain ⟨okt, oks, okl⟩ := hz
  have hH8 : H ≤ 8 := oks.2.1
  have hM20 : 2 ≤ M ∧ M ≤ 20 := oks.1
  have hH : I m 1 = nI H := hSt.1.1
  have hMo : I m 2 = nI M := hSt.1.2.1
  refine r_aload_n dX10_tried_5 rfl ?_
  refine r_iload_n dX10_tried_6 rfl ?_
  refine r_iconst (v := nI 0) dX10_tried_7 (by decide) ?_
  refine r_iconst (v := nI 2) dX10_tried_8 (by decide) ?_
  refine r_statE (c_X10_within (nI law) (nI 0) (nI 2)) lk_X10_369 mc_X10_within dX10_tried_9 (by decide) rfl rfl (Nat.le_of_ble_eq_true rfl) ?_
  rw [show (!decide (nI law < nI 0) && !decide (nI 2 < nI law)) = true from wi_of (Nat.zero_le _) hlaw (by decide)]
  refine r_if_eq (tgt := 29) dX10_tried_12 (by decide) (fun hz => absurd hz (show ¬ _ from (by decide))) (fun _ => ?_)
  refine r_iload dX10_tried_15 rfl ?_
  refine r_iconst (v := nI 0) dX10_tried_17 (by decide) ?_
  refine r_iconst (v := nI 2) dX10_tried_18 (by decide) ?_
  refine r_statE (c_X10_within (nI wh) (nI 0) (nI 2)) lk_X10_369 mc_X10_within dX10_tried_19 (by decide) rfl rfl (Nat.le_of_ble_eq_true rfl) ?_
  rw [show (!decide (nI wh < nI 0) && !decide (nI 2 < nI wh)) = true from wi_of (Nat.zero_le _) hwh (by decide)]
  refine r_if_eq (tgt := 29) dX10_tried_22 (by decide) (fun hz => absurd hz (show ¬ _ from (by decide))) (fun _ => ?_)
  refine r_iconst (v := nI 1) dX10_tried_25 (by decide) ?_
  refine r_goto (tgt := 30) dX10_tried_26 (by decide) ?_
  refine r_iconst (v := nI 1) dX10_tried_30 (by decide) ?_
  refine r_virtE (c_X10_right m true (nI 1) hM h0 (by decide)) lk_X10_343 mc_X10_right dX10_tried_31 (kM_0 hM) (by decide) rfl rfl (Nat.le_of_ble_eq_true rfl) ?_
  rw [thM_ok]
  refine r_if_eq (tgt := 70) dX10_tried_34 (by decide) (fun hz => absurd hz (show ¬ _ from (by decide))) (fun _ => ?_)
  refine r_aload_n dX10_tried_37 rfl ?_
  refine r_iload_n dX10_tried_38 rfl ?_
  refine r_iconst (v := nI 0) dX10_tried_39 (by decide) ?_
  refine r_bipush (v := nI 40) dX10_tried_40 (by decide) ?_
  refine r_statE (c_X10_within (nI S) (nI 0) (nI 40)) lk_X10_369 mc_X10_within dX10_tried_42 (by decide) rfl rfl (Nat.le_of_ble_eq_true rfl) ?_
  rw [show (!decide (nI S < nI 0) && !decide (nI 40 < nI S)) = true from wi_of (Nat.zero_le _) hS40 (by decide)]
  refine r_if_eq (tgt := 62) dX10_tried_45 (by decide) (fun hz => absurd hz (show ¬ _ from (by decide))) (fun _ => ?_)
  refine r_iload_n dX10_tried_48 rfl ?_
  refine r_iconst (v := nI 1) dX10_tried_49 (by decide) ?_
  refine r_bipush (v := nI 8) dX10_tried_50 (by decide) ?_
  refine r_statE (c_X10_within (nI Hs) (nI 1) (nI 8)) lk_X10_369 mc_X10_within dX10_tried_52 (by decide) rfl rfl (Nat.le_of_ble_eq_true rfl) ?_
  rw [show (!decide (nI Hs < nI 1) && !decide (nI 8 < nI Hs)) = true from wi_of hH1 hHs8 (by decide)]
  refine r_if_eq (tgt := 62) dX10_tried_55 (by decide) (fun hz => absurd hz (show ¬ _ from (by decide))) (fun _ => ?_)
  refine r_iconst (v := nI 1) dX10_tried_58 (by decide) ?_
  refine r_goto (tgt := 63) dX10_tried_59 (by decide) ?_
  refine r_iconst (v := nI 2) dX10_tried_63 (by decide) ?_
  refine r_virtE (c_X10_right m true (nI 2) hM h0 (by decide)) lk_X10_343 mc_X10_right dX10_tried_64 (kM_0 hM) (by decide) rfl rfl (Nat.le_of_ble_eq_true rfl) ?_
  rw [thM_ok]
  refine r_if_ne (tgt := 72) dX10_tried_67 (by decide) (fun _ => ?_) (fun hz => absurd hz (show ¬ _ from (by decide)))
  refine r_aload_n dX10_tried_72 rfl ?_
  refine r_virt (kc2 := 0) (ks2 := 0) (e_X10_keepsStreet m hM) lk_X10_551 mc_X10_keepsStreet dX10_tried_73 hM.1 (by decide) rfl rfl (Nat.le_of_ble_eq_true rfl) (by decide) (by decide) (fun _ _ _ _ _ _ h => nomatch h.1) ?_
  rintro v n1 kd1 I1 J1 P1 ⟨h00, rfl, rfl, rfl, rfl, hf1, hf2, hf3, hf4⟩
  cases h00
  simp only [Option.toList, List.nil_append]
  refine r_aload_n dX10_tried_76 rfl ?_
  refine r_getI dX10_tried_77 fl_X10_363 rfl (kM_0 hM) ?_
  refine r_istore dX10_tried_80 (by decide) ?_
  refine r_aload_n dX10_tried_82 rfl ?_
  refine r_iconst (v := nI 0) dX10_tried_83 (by decide) ?_
  refine r_putI dX10_tried_84 fl_X10_363 rfl rfl (kM_0 hM) ?_
  refine r_iconst (v := nI 0) dX10_tried_87 (by decide) ?_
  refine r_istore dX10_tried_88 (by decide) ?_
  refine r_iconst (v := (-1)) dX10_tried_90 (by decide) ?_
  refine r_istore dX10_tried_91 (by decide) ?_
  refine r_iconst (v := nI 0) dX10_tried_93 (by decide) ?_
  refine r_istore dX10_tried_94 (by decide) ?_
  refine r_iconst (v := nI 0) dX10_tried_96 (by decide) ?_
  refine r_istore dX10_tried_97 (by decide) ?_
  have e : ∀ j, j ≠ 79 → j ≠ 47 → (va_up I1 m (va_up (I1 m) 47 (nI 0))) m j = I m j := fun j j1 j2 => by rw [am_up_s, am_up_n _ _ j2, hf2 j j1]
  have hun : (!decide ((va_up I1 m (va_up (I1 m) 47 (nI 0))) m 3 = 0)) = un := by rw [e 3 (by decide) (by decide), hSt.1.2.2]; cases un <;> decide
  refine RuZ.mono (rq_loop m M Hs law S wh un (I1 m 47) hM (by omega) hM20.2 hH1 hHs8 hlaw hwh hS40 S 0 none _ _ (by omega) ⟨(e 2 (by decide) (by decide)).trans hMo, hun, by rw [am_up_s, am_up_s], (e 54 (by decide) (by decide)).trans hSt.2.1.1, (e 58 (by decide) (by decide)).trans hSt.2.1.2, (e 0 (by decide) (by decide)).trans h0⟩ ⟨fun _ _ => ⟨rfl, rfl⟩, fun _ _ _ _ _ _ _ => rfl, fun _ _ _ _ _ _ _ => rfl⟩) (fun y n2 kd2 I2 J2 P2 hx => ?_)
  obtain ⟨hv, rfl, rfl, rfl, ⟨w1, w2, w3, w4, w5, w6⟩, w7⟩ := hx
  have k1 : ∀ a, a ≠ m → (a < m + 41 ∨ m + 50 < a) → (va_up I1 m (va_up (I1 m) 47 (nI 0))) a = I a := fun a a1 a2 => by rw [am_up_n _ _ a1]; exact hf1 a a1 a2
  refine ⟨hv, rfl, rfl, rfl, fun a ha => ⟨(w1 a ha).1.trans (k1 a (by omega) (by omega)), (w1 a ha).2⟩, w7, RR.tk hz0 hC0 (fun a a1 a2 a3 a4 => ?_) (fun j hj => ?_) (fun q hq x hx => ?_)⟩
  · rw [w2 a a1 a2 (by omega) (by omega) (by omega) (by omega)]
    exact k1 a (by omega) (by omega)
  · by_cases j1 : j = 1
    · rw [j1, w5, am_up_s, am_up_n _ _ (by decide)]
      exact hf3
    · by_cases j2 : j = 47
      · rw [j2, w4]
        exact hf2 47 (by decide)
      · rw [w3 j (by omega) j1 (by omega) (by omega) (by omega) (by omega) j2]
        exact e j (by omega) j2
  · rw [w6 q hq x hx, am_up_n _ _ (by omega), hf4 q hq x hx]

set_option maxHeartbeats 4000000 in
set_option maxRecDepth 100000 in
theorem q_tried_1 (m : Nat) (y1 y2 y3 y4 : Int32) {t : Nat} {T : Nat → Nat} {fp : Int32} {rr : Nat → Int32} {H M : Nat} {un : Bool} {cs : Nat → List Nat} {tx : Nat → List Int32} {e : Lf} {im : Option Lf} {wk : Option (List Nat)} {n : Nat} {kd : mK} {I : mI} {J : mJ} {P : mP} (hC : RR m kd I P t T fp rr H M un cs tx e im wk) (hz : okZ t T H M cs e) (hb : ((!decide (y1 < nI 0) && !decide (nI 2 < y1)) && (!decide (y4 < nI 0) && !decide (nI 2 < y4))) = false) : Ct yX10_tried cX10_tried 11 (some .int) 10 0 0 [.ref m, .int y1, .int y2, .int y3, .int y4] n kd I J P (pQ m n kd I J P (some (.int (nI 0))) 1 (RX m t T fp rr H M un cs tx e im wk)) := by
  refine ct_of 6 (by decide +kernel) (Nat.le_of_ble_eq_true rfl) rfl ?_
  refine r_aload_n dX10_tried_0 rfl ?_
  refine r_iconst (v := nI 0) dX10_tried_1 (by decide) ?_
  refine r_putI dX10_tried_2 fl_X10_193 rfl rfl (kM_0 hC.1) ?_
  refine q_th hC (fun I hC h0 => ?_)
  have hC0 := hC
  have hz0 := hz
  obtain ⟨hM, hT, hSt, hLf, hIm, hWk⟩ := hC
  obtain ⟨okt, oks, okl⟩ := hz
  have hH8 : H ≤ 8 := oks.2.1
  have hM20 : 2 ≤ M ∧ M ≤ 20 := oks.1
  have hH : I m 1 = nI H := hSt.1.1
  have hMo : I m 2 = nI M := hSt.1.2.1
  by_cases h1 : (!decide (y1 < nI 0) && !decide (nI 2 < y1)) = true
  · rw [h1, Bool.true_and] at hb
    refine r_aload_n dX10_tried_5 rfl ?_
    refine r_iload_n dX10_tried_6 rfl ?_
    refine r_iconst (v := nI 0) dX10_tried_7 (by decide) ?_
    refine r_iconst (v := nI 2) dX10_tried_8 (by decide) ?_
    refine r_statE (c_X10_within (y1) (nI 0) (nI 2)) lk_X10_369 mc_X10_within dX10_tried_9 (by decide) rfl rfl (Nat.le_of_ble_eq_true rfl) ?_
    rw [show (!decide (y1 < nI 0) && !decide (nI 2 < y1)) = true from h1]
    refine r_if_eq (tgt := 29) dX10_tried_12 (by decide) (fun hz => absurd hz (show ¬ _ from (by decide))) (fun _ => ?_)
    refine r_iload dX10_tried_15 rfl ?_
    refine r_iconst (v := nI 0) dX10_tried_17 (by decide) ?_
    refine r_iconst (v := nI 2) dX10_tried_18 (by decide) ?_
    refine r_statE (c_X10_within (y4) (nI 0) (nI 2)) lk_X10_369 mc_X10_within dX10_tried_19 (by decide) rfl rfl (Nat.le_of_ble_eq_true rfl) ?_
    rw [show (!decide (y4 < nI 0) && !decide (nI 2 < y4)) = false from hb]
    refine r_if_eq (tgt := 29) dX10_tried_22 (by decide) (fun _ => ?_) (fun hz => absurd (show _ from rfl) hz)
    refine r_iconst (v := nI 0) dX10_tried_29 (by decide) ?_
    refine r_iconst (v := nI 1) dX10_tried_30 (by decide) ?_
    refine r_virtE (c_X10_right m false (nI 1) hM h0 (by decide)) lk_X10_343 mc_X10_right dX10_tried_31 (kM_0 hM) (by decide) rfl rfl (Nat.le_of_ble_eq_true rfl) ?_
    refine r_if_eq (tgt := 70) dX10_tried_34 (by decide) (fun _ => ?_) (fun hz => absurd (show _ from rfl) hz)
    refine r_iconst (v := nI 0) dX10_tried_70 (by decide) ?_
    refine r_iret rfl dX10_tried_71 ?_
    exact pQ.th hC0 am_is.mk
  · simp only [Bool.not_eq_true] at h1
    refine r_aload_n dX10_tried_5 rfl ?_
    refine r_iload_n dX10_tried_6 rfl ?_
    refine r_iconst (v := nI 0) dX10_tried_7 (by decide) ?_
    refine r_iconst (v := nI 2) dX10_tried_8 (by decide) ?_
    refine r_statE (c_X10_within (y1) (nI 0) (nI 2)) lk_X10_369 mc_X10_within dX10_tried_9 (by decide) rfl rfl (Nat.le_of_ble_eq_true rfl) ?_
    rw [show (!decide (y1 < nI 0) && !decide (nI 2 < y1)) = false from h1]
    refine r_if_eq (tgt := 29) dX10_tried_12 (by decide) (fun _ => ?_) (fun hz => absurd (show _ from rfl) hz)
    refine r_iconst (v := nI 0) dX10_tried_29 (by decide) ?_
    refine r_iconst (v := nI 1) dX10_tried_30 (by decide) ?_
    refine r_virtE (c_X10_right m false (nI 1) hM h0 (by decide)) lk_X10_343 mc_X10_right dX10_tried_31 (kM_0 hM) (by decide) rfl rfl (Nat.le_of_ble_eq_true rfl) ?_
    refine r_if_eq (tgt := 70) dX10_tried_34 (by decide) (fun _ => ?_) (fun hz => absurd (show _ from rfl) hz)
    refine r_iconst (v := nI 0) dX10_tried_70 (by decide) ?_
    refine r_iret rfl dX10_tried_71 ?_
    exact pQ.th hC0 am_is.mk

set_option maxHeartbeats 4000000 in
set_option maxRecDepth 100000 in
theorem q_tried_2 (m : Nat) (y1 y2 y3 y4 : Int32) {t : Nat} {T : Nat → Nat} {fp : Int32} {rr : Nat → Int32} {H M : Nat} {un : Bool} {cs : Nat → List Nat} {tx : Nat → List Int32} {e : Lf} {im : Option Lf} {wk : Option (List Nat)} {n : Nat} {kd : mK} {I : mI} {J : mJ} {P : mP} (hC : RR m kd I P t T fp rr H M un cs tx e im wk) (hz : okZ t T H M cs e) (h1 : (!decide (y1 < nI 0) && !decide (nI 2 < y1)) = true) (h4 : (!decide (y4 < nI 0) && !decide (nI 2 < y4)) = true) (hb : ((!decide (y2 < nI 0) && !decide (nI 40 < y2)) && (!decide (y3 < nI 1) && !decide (nI 8 < y3))) = false) : Ct yX10_tried cX10_tried 11 (some .int) 10 0 0 [.ref m, .int y1, .int y2, .int y3, .int y4] n kd I J P (pQ m n kd I J P (some (.int (nI 0))) 2 (RX m t T fp rr H M un cs tx e im wk)) := by
  refine ct_of 6 (by decide +kernel) (Nat.le_of_ble_eq_true rfl) rfl ?_
  refine r_aload_n dX10_tried_0 rfl ?_
  refine r_iconst (v := nI 0) dX10_tried_1 (by decide) ?_
  refine r_putI dX10_tried_2 fl_X10_193 rfl rfl (kM_0 hC.1) ?_
  refine q_th hC (fun I hC h0 => ?_)
  have hC0 := hC
  have hz0 := hz
  obtain ⟨hM, hT, hSt, hLf, hIm, hWk⟩ := hC
  obtain ⟨okt, oks, okl⟩ := hz
  have hH8 : H ≤ 8 := oks.2.1
  have hM20 : 2 ≤ M ∧ M ≤ 20 := oks.1
  have hH : I m 1 = nI H := hSt.1.1
  have hMo : I m 2 = nI M := hSt.1.2.1
  by_cases h2 : (!decide (y2 < nI 0) && !decide (nI 40 < y2)) = true
  · rw [h2, Bool.true_and] at hb
    refine r_aload_n dX10_tried_5 rfl ?_
    refine r_iload_n dX10_tried_6 rfl ?_
    refine r_iconst (v := nI 0) dX10_tried_7 (by decide) ?_
    refine r_iconst (v := nI 2) dX10_tried_8 (by decide) ?_
    refine r_statE (c_X10_within (y1) (nI 0) (nI 2)) lk_X10_369 mc_X10_within dX10_tried_9 (by decide) rfl rfl (Nat.le_of_ble_eq_true rfl) ?_
    rw [show (!decide (y1 < nI 0) && !decide (nI 2 < y1)) = true from h1]
    refine r_if_eq (tgt := 29) dX10_tried_12 (by decide) (fun hz => absurd hz (show ¬ _ from (by decide))) (fun _ => ?_)
    refine r_iload dX10_tried_15 rfl ?_
    refine r_iconst (v := nI 0) dX10_tried_17 (by decide) ?_
    refine r_iconst (v := nI 2) dX10_tried_18 (by decide) ?_
    refine r_statE (c_X10_within (y4) (nI 0) (nI 2)) lk_X10_369 mc_X10_within dX10_tried_19 (by decide) rfl rfl (Nat.le_of_ble_eq_true rfl) ?_
    rw [show (!decide (y4 < nI 0) && !decide (nI 2 < y4)) = true from h4]
    refine r_if_eq (tgt := 29) dX10_tried_22 (by decide) (fun hz => absurd hz (show ¬ _ from (by decide))) (fun _ => ?_)
    refine r_iconst (v := nI 1) dX10_tried_25 (by decide) ?_
    refine r_goto (tgt := 30) dX10_tried_26 (by decide) ?_
    refine r_iconst (v := nI 1) dX10_tried_30 (by decide) ?_
    refine r_virtE (c_X10_right m true (nI 1) hM h0 (by decide)) lk_X10_343 mc_X10_right dX10_tried_31 (kM_0 hM) (by decide) rfl rfl (Nat.le_of_ble_eq_true rfl) ?_
    rw [thM_ok]
    refine r_if_eq (tgt := 70) dX10_tried_34 (by decide) (fun hz => absurd hz (show ¬ _ from (by decide))) (fun _ => ?_)
    refine r_aload_n dX10_tried_37 rfl ?_
    refine r_iload_n dX10_tried_38 rfl ?_
    refine r_iconst (v := nI 0) dX10_tried_39 (by decide) ?_
    refine r_bipush (v := nI 40) dX10_tried_40 (by decide) ?_
    refine r_statE (c_X10_within (y2) (nI 0) (nI 40)) lk_X10_369 mc_X10_within dX10_tried_42 (by decide) rfl rfl (Nat.le_of_ble_eq_true rfl) ?_
    rw [show (!decide (y2 < nI 0) && !decide (nI 40 < y2)) = true from h2]
    refine r_if_eq (tgt := 62) dX10_tried_45 (by decide) (fun hz => absurd hz (show ¬ _ from (by decide))) (fun _ => ?_)
    refine r_iload_n dX10_tried_48 rfl ?_
    refine r_iconst (v := nI 1) dX10_tried_49 (by decide) ?_
    refine r_bipush (v := nI 8) dX10_tried_50 (by decide) ?_
    refine r_statE (c_X10_within (y3) (nI 1) (nI 8)) lk_X10_369 mc_X10_within dX10_tried_52 (by decide) rfl rfl (Nat.le_of_ble_eq_true rfl) ?_
    rw [show (!decide (y3 < nI 1) && !decide (nI 8 < y3)) = false from hb]
    refine r_if_eq (tgt := 62) dX10_tried_55 (by decide) (fun _ => ?_) (fun hz => absurd (show _ from rfl) hz)
    refine r_iconst (v := nI 0) dX10_tried_62 (by decide) ?_
    refine r_iconst (v := nI 2) dX10_tried_63 (by decide) ?_
    refine r_virtE (c_X10_right m false (nI 2) hM h0 (by decide)) lk_X10_343 mc_X10_right dX10_tried_64 (kM_0 hM) (by decide) rfl rfl (Nat.le_of_ble_eq_true rfl) ?_
    refine r_if_ne (tgt := 72) dX10_tried_67 (by decide) (fun hz => absurd (show _ from rfl) hz) (fun _ => ?_)
    refine r_iconst (v := nI 0) dX10_tried_70 (by decide) ?_
    refine r_iret rfl dX10_tried_71 ?_
    exact pQ.th hC0 am_is.mk
  · simp only [Bool.not_eq_true] at h2
    refine r_aload_n dX10_tried_5 rfl ?_
    refine r_iload_n dX10_tried_6 rfl ?_
    refine r_iconst (v := nI 0) dX10_tried_7 (by decide) ?_
    refine r_iconst (v := nI 2) dX10_tried_8 (by decide) ?_
    refine r_statE (c_X10_within (y1) (nI 0) (nI 2)) lk_X10_369 mc_X10_within dX10_tried_9 (by decide) rfl rfl (Nat.le_of_ble_eq_true rfl) ?_
    rw [show (!decide (y1 < nI 0) && !decide (nI 2 < y1)) = true from h1]
    refine r_if_eq (tgt := 29) dX10_tried_12 (by decide) (fun hz => absurd hz (show ¬ _ from (by decide))) (fun _ => ?_)
    refine r_iload dX10_tried_15 rfl ?_
    refine r_iconst (v := nI 0) dX10_tried_17 (by decide) ?_
    refine r_iconst (v := nI 2) dX10_tried_18 (by decide) ?_
    refine r_statE (c_X10_within (y4) (nI 0) (nI 2)) lk_X10_369 mc_X10_within dX10_tried_19 (by decide) rfl rfl (Nat.le_of_ble_eq_true rfl) ?_
    rw [show (!decide (y4 < nI 0) && !decide (nI 2 < y4)) = true from h4]
    refine r_if_eq (tgt := 29) dX10_tried_22 (by decide) (fun hz => absurd hz (show ¬ _ from (by decide))) (fun _ => ?_)
    refine r_iconst (v := nI 1) dX10_tried_25 (by decide) ?_
    refine r_goto (tgt := 30) dX10_tried_26 (by decide) ?_
    refine r_iconst (v := nI 1) dX10_tried_30 (by decide) ?_
    refine r_virtE (c_X10_right m true (nI 1) hM h0 (by decide)) lk_X10_343 mc_X10_right dX10_tried_31 (kM_0 hM) (by decide) rfl rfl (Nat.le_of_ble_eq_true rfl) ?_
    rw [thM_ok]
    refine r_if_eq (tgt := 70) dX10_tried_34 (by decide) (fun hz => absurd hz (show ¬ _ from (by decide))) (fun _ => ?_)
    refine r_aload_n dX10_tried_37 rfl ?_
    refine r_iload_n dX10_tried_38 rfl ?_
    refine r_iconst (v := nI 0) dX10_tried_39 (by decide) ?_
    refine r_bipush (v := nI 40) dX10_tried_40 (by decide) ?_
    refine r_statE (c_X10_within (y2) (nI 0) (nI 40)) lk_X10_369 mc_X10_within dX10_tried_42 (by decide) rfl rfl (Nat.le_of_ble_eq_true rfl) ?_
    rw [show (!decide (y2 < nI 0) && !decide (nI 40 < y2)) = false from h2]
    refine r_if_eq (tgt := 62) dX10_tried_45 (by decide) (fun _ => ?_) (fun hz => absurd (show _ from rfl) hz)
    refine r_iconst (v := nI 0) dX10_tried_62 (by decide) ?_
    refine r_iconst (v := nI 2) dX10_tried_63 (by decide) ?_
    refine r_virtE (c_X10_right m false (nI 2) hM h0 (by decide)) lk_X10_343 mc_X10_right dX10_tried_64 (kM_0 hM) (by decide) rfl rfl (Nat.le_of_ble_eq_true rfl) ?_
    refine r_if_ne (tgt := 72) dX10_tried_67 (by decide) (fun hz => absurd (show _ from rfl) hz) (fun _ => ?_)
    refine r_iconst (v := nI 0) dX10_tried_70 (by decide) ?_
    refine r_iret rfl dX10_tried_71 ?_
    exact pQ.th hC0 am_is.mk

