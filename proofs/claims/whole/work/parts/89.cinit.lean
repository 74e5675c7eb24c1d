/-! THE CONSTRUCTOR OF THE CLASS -/
def kC (kd : mK) (P : mP) (o : Nat) : Prop := kd o = some (0, 9) ∧ kd (o + 1) = some (2, 500) ∧ kd (o + 2) = some (1, 3) ∧ kS kd P (o + 3) ∧ kS kd P (o + 13) ∧ kL kd P (o + 23) ∧ kL kd P (o + 29) ∧ kL kd P (o + 35) ∧ kQ kd P (o + 41) ∧ kA kd P (o + 47) ∧ kG kd P (o + 56) ∧ kW kd P (o + 58) ∧ kR kd P (o + 61) ∧ kD kd P (o + 66) ∧ kPg kd P (o + 67) ∧ P o 0 = some (o + 1) ∧ P o 3 = some (o + 2) ∧ P o 8 = some (o + 35) ∧ P o 10 = some (o + 41) ∧ P o 12 = some (o + 47) ∧ P o 13 = some (o + 56) ∧ P o 14 = some (o + 58) ∧ P o 15 = some (o + 61) ∧ P o 16 = some (o + 66) ∧ P o 17 = some (o + 67)
theorem dX9_init_0 : decode cX9_init 0 = .ok (.aload_n 0, 1) := by decide +kernel
theorem dX9_init_1 : decode cX9_init 1 = .ok (.invokespecial 1, 3) := by decide +kernel
theorem dX9_init_4 : decode cX9_init 4 = .ok (.aload_n 0, 1) := by decide +kernel
theorem dX9_init_5 : decode cX9_init 5 = .ok (.sipush 500, 3) := by decide +kernel
theorem dX9_init_8 : decode cX9_init 8 = .ok (.newarray .byte, 2) := by decide +kernel
theorem dX9_init_10 : decode cX9_init 10 = .ok (.putfield 9, 3) := by decide +kernel
theorem dX9_init_13 : decode cX9_init 13 = .ok (.aload_n 0, 1) := by decide +kernel
theorem dX9_init_14 : decode cX9_init 14 = .ok (.iconst 0, 1) := by decide +kernel
theorem dX9_init_15 : decode cX9_init 15 = .ok (.putfield 13, 3) := by decide +kernel
theorem dX9_init_18 : decode cX9_init 18 = .ok (.aload_n 0, 1) := by decide +kernel
theorem dX9_init_19 : decode cX9_init 19 = .ok (.iconst (-1), 1) := by decide +kernel
theorem dX9_init_20 : decode cX9_init 20 = .ok (.putfield 17, 3) := by decide +kernel
theorem dX9_init_23 : decode cX9_init 23 = .ok (.aload_n 0, 1) := by decide +kernel
theorem dX9_init_24 : decode cX9_init 24 = .ok (.iconst 3, 1) := by decide +kernel
theorem dX9_init_25 : decode cX9_init 25 = .ok (.newarray .int, 2) := by decide +kernel
theorem dX9_init_27 : decode cX9_init 27 = .ok (.putfield 20, 3) := by decide +kernel
theorem dX9_init_30 : decode cX9_init 30 = .ok (.aload_n 0, 1) := by decide +kernel
theorem dX9_init_31 : decode cX9_init 31 = .ok (.new 24, 3) := by decide +kernel
theorem dX9_init_34 : decode cX9_init 34 = .ok (.dup, 1) := by decide +kernel
theorem dX9_init_35 : decode cX9_init 35 = .ok (.invokespecial 26, 3) := by decide +kernel
theorem dX9_init_38 : decode cX9_init 38 = .ok (.putfield 27, 3) := by decide +kernel
theorem dX9_init_41 : decode cX9_init 41 = .ok (.aload_n 0, 1) := by decide +kernel
theorem dX9_init_42 : decode cX9_init 42 = .ok (.new 24, 3) := by decide +kernel
theorem dX9_init_45 : decode cX9_init 45 = .ok (.dup, 1) := by decide +kernel
theorem dX9_init_46 : decode cX9_init 46 = .ok (.invokespecial 26, 3) := by decide +kernel
theorem dX9_init_49 : decode cX9_init 49 = .ok (.putfield 31, 3) := by decide +kernel
theorem dX9_init_52 : decode cX9_init 52 = .ok (.aload_n 0, 1) := by decide +kernel
theorem dX9_init_53 : decode cX9_init 53 = .ok (.new 34, 3) := by decide +kernel
theorem dX9_init_56 : decode cX9_init 56 = .ok (.dup, 1) := by decide +kernel
theorem dX9_init_57 : decode cX9_init 57 = .ok (.invokespecial 36, 3) := by decide +kernel
theorem dX9_init_60 : decode cX9_init 60 = .ok (.putfield 37, 3) := by decide +kernel
theorem dX9_init_63 : decode cX9_init 63 = .ok (.aload_n 0, 1) := by decide +kernel
theorem dX9_init_64 : decode cX9_init 64 = .ok (.new 34, 3) := by decide +kernel
theorem dX9_init_67 : decode cX9_init 67 = .ok (.dup, 1) := by decide +kernel
theorem dX9_init_68 : decode cX9_init 68 = .ok (.invokespecial 36, 3) := by decide +kernel
theorem dX9_init_71 : decode cX9_init 71 = .ok (.putfield 41, 3) := by decide +kernel
theorem dX9_init_74 : decode cX9_init 74 = .ok (.aload_n 0, 1) := by decide +kernel
theorem dX9_init_75 : decode cX9_init 75 = .ok (.new 34, 3) := by decide +kernel
theorem dX9_init_78 : decode cX9_init 78 = .ok (.dup, 1) := by decide +kernel
theorem dX9_init_79 : decode cX9_init 79 = .ok (.invokespecial 36, 3) := by decide +kernel
theorem dX9_init_82 : decode cX9_init 82 = .ok (.putfield 44, 3) := by decide +kernel
theorem dX9_init_85 : decode cX9_init 85 = .ok (.aload_n 0, 1) := by decide +kernel
theorem dX9_init_86 : decode cX9_init 86 = .ok (.iconst 0, 1) := by decide +kernel
theorem dX9_init_87 : decode cX9_init 87 = .ok (.putfield 47, 3) := by decide +kernel
theorem dX9_init_90 : decode cX9_init 90 = .ok (.aload_n 0, 1) := by decide +kernel
theorem dX9_init_91 : decode cX9_init 91 = .ok (.new 51, 3) := by decide +kernel
theorem dX9_init_94 : decode cX9_init 94 = .ok (.dup, 1) := by decide +kernel
theorem dX9_init_95 : decode cX9_init 95 = .ok (.invokespecial 53, 3) := by decide +kernel
theorem dX9_init_98 : decode cX9_init 98 = .ok (.putfield 54, 3) := by decide +kernel
theorem dX9_init_101 : decode cX9_init 101 = .ok (.aload_n 0, 1) := by decide +kernel
theorem dX9_init_102 : decode cX9_init 102 = .ok (.iconst 0, 1) := by decide +kernel
theorem dX9_init_103 : decode cX9_init 103 = .ok (.putfield 58, 3) := by decide +kernel
theorem dX9_init_106 : decode cX9_init 106 = .ok (.aload_n 0, 1) := by decide +kernel
theorem dX9_init_107 : decode cX9_init 107 = .ok (.new 61, 3) := by decide +kernel
theorem dX9_init_110 : decode cX9_init 110 = .ok (.dup, 1) := by decide +kernel
theorem dX9_init_111 : decode cX9_init 111 = .ok (.invokespecial 63, 3) := by decide +kernel
theorem dX9_init_114 : decode cX9_init 114 = .ok (.putfield 64, 3) := by decide +kernel
theorem dX9_init_117 : decode cX9_init 117 = .ok (.aload_n 0, 1) := by decide +kernel
theorem dX9_init_118 : decode cX9_init 118 = .ok (.new 68, 3) := by decide +kernel
theorem dX9_init_121 : decode cX9_init 121 = .ok (.dup, 1) := by decide +kernel
theorem dX9_init_122 : decode cX9_init 122 = .ok (.invokespecial 70, 3) := by decide +kernel
theorem dX9_init_125 : decode cX9_init 125 = .ok (.putfield 71, 3) := by decide +kernel
theorem dX9_init_128 : decode cX9_init 128 = .ok (.aload_n 0, 1) := by decide +kernel
theorem dX9_init_129 : decode cX9_init 129 = .ok (.new 75, 3) := by decide +kernel
theorem dX9_init_132 : decode cX9_init 132 = .ok (.dup, 1) := by decide +kernel
theorem dX9_init_133 : decode cX9_init 133 = .ok (.invokespecial 77, 3) := by decide +kernel
theorem dX9_init_136 : decode cX9_init 136 = .ok (.putfield 78, 3) := by decide +kernel
theorem dX9_init_139 : decode cX9_init 139 = .ok (.aload_n 0, 1) := by decide +kernel
theorem dX9_init_140 : decode cX9_init 140 = .ok (.new 82, 3) := by decide +kernel
theorem dX9_init_143 : decode cX9_init 143 = .ok (.dup, 1) := by decide +kernel
theorem dX9_init_144 : decode cX9_init 144 = .ok (.invokespecial 84, 3) := by decide +kernel
theorem dX9_init_147 : decode cX9_init 147 = .ok (.putfield 85, 3) := by decide +kernel
theorem dX9_init_150 : decode cX9_init 150 = .ok (.aload_n 0, 1) := by decide +kernel
theorem dX9_init_151 : decode cX9_init 151 = .ok (.new 89, 3) := by decide +kernel
theorem dX9_init_154 : decode cX9_init 154 = .ok (.dup, 1) := by decide +kernel
theorem dX9_init_155 : decode cX9_init 155 = .ok (.invokespecial 91, 3) := by decide +kernel
theorem dX9_init_158 : decode cX9_init 158 = .ok (.putfield 92, 3) := by decide +kernel
theorem dX9_init_161 : decode cX9_init 161 = .ok (.aload_n 0, 1) := by decide +kernel
theorem dX9_init_162 : decode cX9_init 162 = .ok (.new 96, 3) := by decide +kernel
theorem dX9_init_165 : decode cX9_init 165 = .ok (.dup, 1) := by decide +kernel
theorem dX9_init_166 : decode cX9_init 166 = .ok (.invokespecial 98, 3) := by decide +kernel
theorem dX9_init_169 : decode cX9_init 169 = .ok (.putfield 99, 3) := by decide +kernel
theorem dX9_init_172 : decode cX9_init 172 = .ok (.aload_n 0, 1) := by decide +kernel
theorem dX9_init_173 : decode cX9_init 173 = .ok (.iconst 0, 1) := by decide +kernel
theorem dX9_init_174 : decode cX9_init 174 = .ok (.putfield 103, 3) := by decide +kernel
theorem dX9_init_177 : decode cX9_init 177 = .ok (.return_, 1) := by decide +kernel
set_option maxHeartbeats 40000000 in
set_option maxRecDepth 100000 in
theorem c_X9_init (o : Nat) {n : Nat} {kd : mK} {I : mI} {J : mJ} {P : mP} (hB : bare n o 9 kd I J P) (hl : o < 990000) : Ct yX9_init cX9_init 1 none 3 68 9140 [.ref o] n kd I J P (fun z n' kd' I' J' P' => z = .inl none ∧ n' = o + 69 ∧ kC kd' P' o ∧ (P' o 4 = some (o + 3) ∧ P' o 5 = some (o + 13) ∧ P' o 6 = some (o + 23) ∧ P' o 7 = some (o + 29)) ∧ lowS o kd kd' I I' J J' P P' ∧ I' o = (fun j : Nat => (if j = 2 then (-1) else 0 : Int32)) ∧ (I' (o + 1) = (fun _ => 0) ∧ I' (o + 2) = (fun _ => 0)) ∧ (P' (o + 41) 0 = none ∧ P' (o + 41) 1 = none ∧ P' (o + 48) 0 = none ∧ P' (o + 48) 1 = none ∧ P' (o + 56) 3 = none ∧ P' (o + 58) 3 = none ∧ P' (o + 61) 8 = none ∧ P' (o + 61) 9 = none) ∧ (fr (o + 3) 9 (fun j : Nat => (if j = 1 then nI 9 else 0 : Int32)) I' J' ∧ fr (o + 13) 9 (fun j : Nat => (if j = 1 then nI 9 else 0 : Int32)) I' J' ∧ fr (o + 23) 5 (fun j : Nat => (0 : Int32)) I' J' ∧ fr (o + 29) 5 (fun j : Nat => (0 : Int32)) I' J' ∧ fr (o + 35) 5 (fun j : Nat => (0 : Int32)) I' J' ∧ fr (o + 41) 5 (fun j : Nat => (if j = 4 then (-1) else 0 : Int32)) I' J' ∧ fr (o + 47) 0 (fun j : Nat => (if j = 4 then (-1) else 0 : Int32)) I' J' ∧ fr (o + 56) 1 (fun j : Nat => (0 : Int32)) I' J' ∧ fr (o + 58) 2 (fun j : Nat => (0 : Int32)) I' J' ∧ fr (o + 61) 4 (fun j : Nat => (if j = 12 then (-1) else 0 : Int32)) I' J' ∧ fr (o + 66) 0 (fun j : Nat => (0 : Int32)) I' J' ∧ fr (o + 67) 1 (fun j : Nat => (0 : Int32)) I' J' ∧ fr (o + 48) 7 (fun j : Nat => (if j = 4 then (-1) else 0 : Int32)) I' J')) := by
  obtain ⟨rfl, hko, hI0, hJ0, hP0⟩ := hB
  refine ct_of 0 (by decide +kernel) (Nat.le_of_ble_eq_true rfl) rfl ?_
  refine r_aload_n dX9_init_0 rfl ?_
  refine r_obj dX9_init_1 oi_X9 oi_in oi_co (by decide) (Nat.le_of_ble_eq_true rfl) ?_
  refine r_aload_n dX9_init_4 rfl ?_
  refine r_sipush (v := nI 500) dX9_init_5 (by decide) ?_
  refine r_newByte (N := 500) (kc2 := 67) (ks2 := 8640) dX9_init_8 (by decide) (nI_clamp (by decide)) (by decide) (by omega) (by omega) (by omega) ?_
  refine r_putR dX9_init_10 fl_X9_9 (Or.inr ⟨rfl, rfl, rfl⟩) rfl (by (try simp (disch := omega) only [am_up_e, am_up_n]); exact hko) (by omega) ?_
  refine r_aload_n dX9_init_13 rfl ?_
  refine r_iconst (v := nI 0) dX9_init_14 (by decide) ?_
  refine r_putI dX9_init_15 fl_X9_13 rfl rfl (by (try simp (disch := omega) only [am_up_e, am_up_n]); exact hko) ?_
  refine r_aload_n dX9_init_18 rfl ?_
  refine r_iconst (v := (-1)) dX9_init_19 (by decide) ?_
  refine r_putI dX9_init_20 fl_X9_17 rfl rfl (by (try simp (disch := omega) only [am_up_e, am_up_n]); exact hko) ?_
  refine r_aload_n dX9_init_23 rfl ?_
  refine r_iconst (v := nI 3) dX9_init_24 (by decide) ?_
  refine r_newInt (N := 3) (kc2 := 66) (ks2 := 8637) dX9_init_25 (by decide) (nI_clamp (by decide)) (by decide) (by omega) (by omega) (by omega) ?_
  refine r_putR dX9_init_27 fl_X9_20 (Or.inr ⟨rfl, rfl, rfl⟩) rfl (by (try simp (disch := omega) only [am_up_e, am_up_n]); exact hko) (by omega) ?_
  refine r_aload_n dX9_init_30 rfl ?_
  refine r_new (ci := 7) (kc2 := 65) (ks2 := 8622) dX9_init_31 (by decide) cl_X9_24 in_X7 (by omega) (by omega) (by show 8622 + 15 ≤ 8637; omega) ?_
  refine r_dup dX9_init_34 rfl ?_
  refine r_init (kc2 := 56) (ks2 := 7014) (c_X7_init (o + 3) ⟨rfl, am_up_s _ _ _, am_up_s _ _ _, am_up_s _ _ _, am_up_s _ _ _⟩ (by omega)) li_X9_26 mc_X7_init dX9_init_35 (by decide) rfl rfl (Nat.le_of_ble_eq_true rfl) (by omega) (by omega) (fun _ _ _ _ _ _ h => nomatch h.1) (fun v n0 kd0 I0 J0 P0 h => ?_)
  obtain ⟨h0, rfl, f0, hlow, g0a, g0b⟩ := h
  cases h0
  show Ru _ _ _ _ _ _ _ _ _ _ _ (.ref (o + 3) :: .ref o :: []) _ _ _ _ _
  have hL0 : lowS o kd kd0 I I0 J J0 P P0 := fun a ha => by
    obtain ⟨q1, q2, q3, q4⟩ := hlow a (by omega)
    simp (disch := omega) only [am_up_e, am_up_n] at q1 q2 q3 q4
    exact ⟨q1, q2, q3, q4⟩
  have T1 : kd0 (o + 1) = some (2, 500) ∧ kd0 (o + 2) = some (1, 3) ∧ I0 (o + 1) = (fun _ => 0) ∧ I0 (o + 2) = (fun _ => 0) := by
    obtain ⟨q1, q2, q3, q4⟩ := hlow (o + 1) (by omega)
    obtain ⟨r1, r2, r3, r4⟩ := hlow (o + 2) (by omega)
    simp (disch := omega) only [am_up_e, am_up_n] at q1 q2 r1 r2
    exact ⟨q1, r1, q2, r2⟩
  have g0 : fr (o + 3) 9 (fun j : Nat => (if j = 1 then nI 9 else 0 : Int32)) I0 J0 := ⟨g0a, g0b⟩
  obtain ⟨o1, o2, o3, o4⟩ := hlow o (by omega)
  simp (disch := omega) only [am_up_e, am_up_n] at o1 o2 o4
  have hko : kd0 o = some (0, 9) := o1.trans hko
  rw [hI0] at o2
  rw [hP0] at o4
  have hIo := o2
  have hPo := o4
  clear hlow
  refine r_putR dX9_init_38 fl_X9_27 (Or.inl rfl) rfl (by (try simp (disch := omega) only [am_up_e, am_up_n]); exact hko) (by omega) ?_
  refine r_aload_n dX9_init_41 rfl ?_
  refine r_new (ci := 7) (kc2 := 55) (ks2 := 6999) dX9_init_42 (by decide) cl_X9_24 in_X7 (by omega) (by omega) (by show 6999 + 15 ≤ 7014; omega) ?_
  refine r_dup dX9_init_45 rfl ?_
  refine r_init (kc2 := 46) (ks2 := 5391) (c_X7_init (o + 13) ⟨rfl, am_up_s _ _ _, am_up_s _ _ _, am_up_s _ _ _, am_up_s _ _ _⟩ (by omega)) li_X9_26 mc_X7_init dX9_init_46 (by decide) rfl rfl (Nat.le_of_ble_eq_true rfl) (by omega) (by omega) (fun _ _ _ _ _ _ h => nomatch h.1) (fun v n1 kd1 I1 J1 P1 h => ?_)
  obtain ⟨h0, rfl, f1, hlow, g1a, g1b⟩ := h
  cases h0
  show Ru _ _ _ _ _ _ _ _ _ _ _ (.ref (o + 13) :: .ref o :: []) _ _ _ _ _
  have hL1 : lowS o kd kd1 I I1 J J1 P P1 := fun a ha => by
    obtain ⟨q1, q2, q3, q4⟩ := hlow a (by omega)
    simp (disch := omega) only [am_up_e, am_up_n] at q1 q2 q3 q4
    obtain ⟨r1, r2, r3, r4⟩ := hL0 a ha
    exact ⟨q1.trans r1, q2.trans r2, q3.trans r3, q4.trans r4⟩
  have hm : midS o (o + 13) kd0 kd1 I0 I1 J0 J1 P0 P1 := fun a h1 h2 => by
    obtain ⟨q1, q2, q3, q4⟩ := hlow a (by omega)
    simp (disch := omega) only [am_up_e, am_up_n] at q1 q2 q3 q4
    exact ⟨q1, q2, q3, q4⟩
  have T1 : kd1 (o + 1) = some (2, 500) ∧ kd1 (o + 2) = some (1, 3) ∧ I1 (o + 1) = (fun _ => 0) ∧ I1 (o + 2) = (fun _ => 0) := ⟨(hm (o + 1) (by omega) (by omega)).1.trans T1.1, (hm (o + 2) (by omega) (by omega)).1.trans T1.2.1, (hm (o + 1) (by omega) (by omega)).2.1.trans T1.2.2.1, (hm (o + 2) (by omega) (by omega)).2.1.trans T1.2.2.2⟩
  have f0 := f0.low hm (by omega) (by omega)
  have g0 := g0.low hm (by omega) (by omega)
  have g1 : fr (o + 13) 9 (fun j : Nat => (if j = 1 then nI 9 else 0 : Int32)) I1 J1 := ⟨g1a, g1b⟩
  obtain ⟨o1, o2, o3, o4⟩ := hlow o (by omega)
  simp (disch := omega) only [am_up_e, am_up_n] at o1 o2 o4
  have hko : kd1 o = some (0, 9) := o1.trans hko
  rw [hIo] at o2
  rw [hPo] at o4
  have hIo := o2
  have hPo := o4
  clear hlow
  refine r_putR dX9_init_49 fl_X9_31 (Or.inl rfl) rfl (by (try simp (disch := omega) only [am_up_e, am_up_n]); exact hko) (by omega) ?_
  refine r_aload_n dX9_init_52 rfl ?_
  refine r_new (ci := 2) (kc2 := 45) (ks2 := 5383) dX9_init_53 (by decide) cl_X9_34 in_X2 (by omega) (by omega) (by show 5383 + 8 ≤ 5391; omega) ?_
  refine r_dup dX9_init_56 rfl ?_
  refine r_init (kc2 := 40) (ks2 := 5317) (c_X2_init (o + 23) ⟨rfl, am_up_s _ _ _, am_up_s _ _ _, am_up_s _ _ _, am_up_s _ _ _⟩ (by omega)) li_X9_36 mc_X2_init dX9_init_57 (by decide) rfl rfl (Nat.le_of_ble_eq_true rfl) (by omega) (by omega) (fun _ _ _ _ _ _ h => nomatch h.1) (fun v n2 kd2 I2 J2 P2 h => ?_)
  obtain ⟨h0, rfl, f2, hlow, g2a, g2b⟩ := h
  cases h0
  show Ru _ _ _ _ _ _ _ _ _ _ _ (.ref (o + 23) :: .ref o :: []) _ _ _ _ _
  have hL2 : lowS o kd kd2 I I2 J J2 P P2 := fun a ha => by
    obtain ⟨q1, q2, q3, q4⟩ := hlow a (by omega)
    simp (disch := omega) only [am_up_e, am_up_n] at q1 q2 q3 q4
    obtain ⟨r1, r2, r3, r4⟩ := hL1 a ha
    exact ⟨q1.trans r1, q2.trans r2, q3.trans r3, q4.trans r4⟩
  have hm : midS o (o + 23) kd1 kd2 I1 I2 J1 J2 P1 P2 := fun a h1 h2 => by
    obtain ⟨q1, q2, q3, q4⟩ := hlow a (by omega)
    simp (disch := omega) only [am_up_e, am_up_n] at q1 q2 q3 q4
    exact ⟨q1, q2, q3, q4⟩
  have T1 : kd2 (o + 1) = some (2, 500) ∧ kd2 (o + 2) = some (1, 3) ∧ I2 (o + 1) = (fun _ => 0) ∧ I2 (o + 2) = (fun _ => 0) := ⟨(hm (o + 1) (by omega) (by omega)).1.trans T1.1, (hm (o + 2) (by omega) (by omega)).1.trans T1.2.1, (hm (o + 1) (by omega) (by omega)).2.1.trans T1.2.2.1, (hm (o + 2) (by omega) (by omega)).2.1.trans T1.2.2.2⟩
  have f0 := f0.low hm (by omega) (by omega)
  have g0 := g0.low hm (by omega) (by omega)
  have f1 := f1.low hm (by omega) (by omega)
  have g1 := g1.low hm (by omega) (by omega)
  have g2 : fr (o + 23) 5 (fun j : Nat => (0 : Int32)) I2 J2 := ⟨g2a, g2b⟩
  obtain ⟨o1, o2, o3, o4⟩ := hlow o (by omega)
  simp (disch := omega) only [am_up_e, am_up_n] at o1 o2 o4
  have hko : kd2 o = some (0, 9) := o1.trans hko
  rw [hIo] at o2
  rw [hPo] at o4
  have hIo := o2
  have hPo := o4
  clear hlow
  refine r_putR dX9_init_60 fl_X9_37 (Or.inl rfl) rfl (by (try simp (disch := omega) only [am_up_e, am_up_n]); exact hko) (by omega) ?_
  refine r_aload_n dX9_init_63 rfl ?_
  refine r_new (ci := 2) (kc2 := 39) (ks2 := 5309) dX9_init_64 (by decide) cl_X9_34 in_X2 (by omega) (by omega) (by show 5309 + 8 ≤ 5317; omega) ?_
  refine r_dup dX9_init_67 rfl ?_
  refine r_init (kc2 := 34) (ks2 := 5243) (c_X2_init (o + 29) ⟨rfl, am_up_s _ _ _, am_up_s _ _ _, am_up_s _ _ _, am_up_s _ _ _⟩ (by omega)) li_X9_36 mc_X2_init dX9_init_68 (by decide) rfl rfl (Nat.le_of_ble_eq_true rfl) (by omega) (by omega) (fun _ _ _ _ _ _ h => nomatch h.1) (fun v n3 kd3 I3 J3 P3 h => ?_)
  obtain ⟨h0, rfl, f3, hlow, g3a, g3b⟩ := h
  cases h0
  show Ru _ _ _ _ _ _ _ _ _ _ _ (.ref (o + 29) :: .ref o :: []) _ _ _ _ _
  have hL3 : lowS o kd kd3 I I3 J J3 P P3 := fun a ha => by
    obtain ⟨q1, q2, q3, q4⟩ := hlow a (by omega)
    simp (disch := omega) only [am_up_e, am_up_n] at q1 q2 q3 q4
    obtain ⟨r1, r2, r3, r4⟩ := hL2 a ha
    exact ⟨q1.trans r1, q2.trans r2, q3.trans r3, q4.trans r4⟩
  have hm : midS o (o + 29) kd2 kd3 I2 I3 J2 J3 P2 P3 := fun a h1 h2 => by
    obtain ⟨q1, q2, q3, q4⟩ := hlow a (by omega)
    simp (disch := omega) only [am_up_e, am_up_n] at q1 q2 q3 q4
    exact ⟨q1, q2, q3, q4⟩
  have T1 : kd3 (o + 1) = some (2, 500) ∧ kd3 (o + 2) = some (1, 3) ∧ I3 (o + 1) = (fun _ => 0) ∧ I3 (o + 2) = (fun _ => 0) := ⟨(hm (o + 1) (by omega) (by omega)).1.trans T1.1, (hm (o + 2) (by omega) (by omega)).1.trans T1.2.1, (hm (o + 1) (by omega) (by omega)).2.1.trans T1.2.2.1, (hm (o + 2) (by omega) (by omega)).2.1.trans T1.2.2.2⟩
  have f0 := f0.low hm (by omega) (by omega)
  have g0 := g0.low hm (by omega) (by omega)
  have f1 := f1.low hm (by omega) (by omega)
  have g1 := g1.low hm (by omega) (by omega)
  have f2 := f2.low hm (by omega) (by omega)
  have g2 := g2.low hm (by omega) (by omega)
  have g3 : fr (o + 29) 5 (fun j : Nat => (0 : Int32)) I3 J3 := ⟨g3a, g3b⟩
  obtain ⟨o1, o2, o3, o4⟩ := hlow o (by omega)
  simp (disch := omega) only [am_up_e, am_up_n] at o1 o2 o4
  have hko : kd3 o = some (0, 9) := o1.trans hko
  rw [hIo] at o2
  rw [hPo] at o4
  have hIo := o2
  have hPo := o4
  clear hlow
  refine r_putR dX9_init_71 fl_X9_41 (Or.inl rfl) rfl (by (try simp (disch := omega) only [am_up_e, am_up_n]); exact hko) (by omega) ?_
  refine r_aload_n dX9_init_74 rfl ?_
  refine r_new (ci := 2) (kc2 := 33) (ks2 := 5235) dX9_init_75 (by decide) cl_X9_34 in_X2 (by omega) (by omega) (by show 5235 + 8 ≤ 5243; omega) ?_
  refine r_dup dX9_init_78 rfl ?_
  refine r_init (kc2 := 28) (ks2 := 5169) (c_X2_init (o + 35) ⟨rfl, am_up_s _ _ _, am_up_s _ _ _, am_up_s _ _ _, am_up_s _ _ _⟩ (by omega)) li_X9_36 mc_X2_init dX9_init_79 (by decide) rfl rfl (Nat.le_of_ble_eq_true rfl) (by omega) (by omega) (fun _ _ _ _ _ _ h => nomatch h.1) (fun v n4 kd4 I4 J4 P4 h => ?_)
  obtain ⟨h0, rfl, f4, hlow, g4a, g4b⟩ := h
  cases h0
  show Ru _ _ _ _ _ _ _ _ _ _ _ (.ref (o + 35) :: .ref o :: []) _ _ _ _ _
  have hL4 : lowS o kd kd4 I I4 J J4 P P4 := fun a ha => by
    obtain ⟨q1, q2, q3, q4⟩ := hlow a (by omega)
    simp (disch := omega) only [am_up_e, am_up_n] at q1 q2 q3 q4
    obtain ⟨r1, r2, r3, r4⟩ := hL3 a ha
    exact ⟨q1.trans r1, q2.trans r2, q3.trans r3, q4.trans r4⟩
  have hm : midS o (o + 35) kd3 kd4 I3 I4 J3 J4 P3 P4 := fun a h1 h2 => by
    obtain ⟨q1, q2, q3, q4⟩ := hlow a (by omega)
    simp (disch := omega) only [am_up_e, am_up_n] at q1 q2 q3 q4
    exact ⟨q1, q2, q3, q4⟩
  have T1 : kd4 (o + 1) = some (2, 500) ∧ kd4 (o + 2) = some (1, 3) ∧ I4 (o + 1) = (fun _ => 0) ∧ I4 (o + 2) = (fun _ => 0) := ⟨(hm (o + 1) (by omega) (by omega)).1.trans T1.1, (hm (o + 2) (by omega) (by omega)).1.trans T1.2.1, (hm (o + 1) (by omega) (by omega)).2.1.trans T1.2.2.1, (hm (o + 2) (by omega) (by omega)).2.1.trans T1.2.2.2⟩
  have f0 := f0.low hm (by omega) (by omega)
  have g0 := g0.low hm (by omega) (by omega)
  have f1 := f1.low hm (by omega) (by omega)
  have g1 := g1.low hm (by omega) (by omega)
  have f2 := f2.low hm (by omega) (by omega)
  have g2 := g2.low hm (by omega) (by omega)
  have f3 := f3.low hm (by omega) (by omega)
  have g3 := g3.low hm (by omega) (by omega)
  have g4 : fr (o + 35) 5 (fun j : Nat => (0 : Int32)) I4 J4 := ⟨g4a, g4b⟩
  obtain ⟨o1, o2, o3, o4⟩ := hlow o (by omega)
  simp (disch := omega) only [am_up_e, am_up_n] at o1 o2 o4
  have hko : kd4 o = some (0, 9) := o1.trans hko
  rw [hIo] at o2
  rw [hPo] at o4
  have hIo := o2
  have hPo := o4
  clear hlow
  refine r_putR dX9_init_82 fl_X9_44 (Or.inr ⟨rfl, rfl, rfl⟩) rfl (by (try simp (disch := omega) only [am_up_e, am_up_n]); exact hko) (by omega) ?_
  refine r_aload_n dX9_init_85 rfl ?_
  refine r_iconst (v := nI 0) dX9_init_86 (by decide) ?_
  refine r_putZ dX9_init_87 fl_X9_47 rfl rfl (Or.inl rfl) (by (try simp (disch := omega) only [am_up_e, am_up_n]); exact hko) ?_
  refine r_aload_n dX9_init_90 rfl ?_
  refine r_new (ci := 6) (kc2 := 27) (ks2 := 5158) dX9_init_91 (by decide) cl_X9_51 in_X6 (by omega) (by omega) (by show 5158 + 11 ≤ 5169; omega) ?_
  refine r_dup dX9_init_94 rfl ?_
  refine r_init (kc2 := 22) (ks2 := 4126) (c_X6_init (o + 41) ⟨rfl, am_up_s _ _ _, am_up_s _ _ _, am_up_s _ _ _, am_up_s _ _ _⟩ (by omega)) li_X9_53 mc_X6_init dX9_init_95 (by decide) rfl rfl (Nat.le_of_ble_eq_true rfl) (by omega) (by omega) (fun _ _ _ _ _ _ h => nomatch h.1) (fun v n5 kd5 I5 J5 P5 h => ?_)
  obtain ⟨h0, rfl, f5, z5_0, z5_1, hlow, g5a, g5b⟩ := h
  cases h0
  show Ru _ _ _ _ _ _ _ _ _ _ _ (.ref (o + 41) :: .ref o :: []) _ _ _ _ _
  have hL5 : lowS o kd kd5 I I5 J J5 P P5 := fun a ha => by
    obtain ⟨q1, q2, q3, q4⟩ := hlow a (by omega)
    simp (disch := omega) only [am_up_e, am_up_n] at q1 q2 q3 q4
    obtain ⟨r1, r2, r3, r4⟩ := hL4 a ha
    exact ⟨q1.trans r1, q2.trans r2, q3.trans r3, q4.trans r4⟩
  have hm : midS o (o + 41) kd4 kd5 I4 I5 J4 J5 P4 P5 := fun a h1 h2 => by
    obtain ⟨q1, q2, q3, q4⟩ := hlow a (by omega)
    simp (disch := omega) only [am_up_e, am_up_n] at q1 q2 q3 q4
    exact ⟨q1, q2, q3, q4⟩
  have T1 : kd5 (o + 1) = some (2, 500) ∧ kd5 (o + 2) = some (1, 3) ∧ I5 (o + 1) = (fun _ => 0) ∧ I5 (o + 2) = (fun _ => 0) := ⟨(hm (o + 1) (by omega) (by omega)).1.trans T1.1, (hm (o + 2) (by omega) (by omega)).1.trans T1.2.1, (hm (o + 1) (by omega) (by omega)).2.1.trans T1.2.2.1, (hm (o + 2) (by omega) (by omega)).2.1.trans T1.2.2.2⟩
  have f0 := f0.low hm (by omega) (by omega)
  have g0 := g0.low hm (by omega) (by omega)
  have f1 := f1.low hm (by omega) (by omega)
  have g1 := g1.low hm (by omega) (by omega)
  have f2 := f2.low hm (by omega) (by omega)
  have g2 := g2.low hm (by omega) (by omega)
  have f3 := f3.low hm (by omega) (by omega)
  have g3 := g3.low hm (by omega) (by omega)
  have f4 := f4.low hm (by omega) (by omega)
  have g4 := g4.low hm (by omega) (by omega)
  have g5 : fr (o + 41) 5 (fun j : Nat => (if j = 4 then (-1) else 0 : Int32)) I5 J5 := ⟨g5a, g5b⟩
  obtain ⟨o1, o2, o3, o4⟩ := hlow o (by omega)
  simp (disch := omega) only [am_up_e, am_up_n] at o1 o2 o4
  have hko : kd5 o = some (0, 9) := o1.trans hko
  rw [hIo] at o2
  rw [hPo] at o4
  have hIo := o2
  have hPo := o4
  clear hlow
  refine r_putR dX9_init_98 fl_X9_54 (Or.inr ⟨rfl, rfl, rfl⟩) rfl (by (try simp (disch := omega) only [am_up_e, am_up_n]); exact hko) (by omega) ?_
  refine r_aload_n dX9_init_101 rfl ?_
  refine r_iconst (v := nI 0) dX9_init_102 (by decide) ?_
  refine r_putZ dX9_init_103 fl_X9_58 rfl rfl (Or.inl rfl) (by (try simp (disch := omega) only [am_up_e, am_up_n]); exact hko) ?_
  refine r_aload_n dX9_init_106 rfl ?_
  refine r_new (ci := 0) (kc2 := 21) (ks2 := 4121) dX9_init_107 (by decide) cl_X9_61 in_X0 (by omega) (by omega) (by show 4121 + 5 ≤ 4126; omega) ?_
  refine r_dup dX9_init_110 rfl ?_
  refine r_init (kc2 := 13) (ks2 := 3070) (c_X0_init (o + 47) ⟨rfl, am_up_s _ _ _, am_up_s _ _ _, am_up_s _ _ _, am_up_s _ _ _⟩ (by omega)) li_X9_63 mc_X0_init dX9_init_111 (by decide) rfl rfl (Nat.le_of_ble_eq_true rfl) (by omega) (by omega) (fun _ _ _ _ _ _ h => nomatch h.1) (fun v n6 kd6 I6 J6 P6 h => ?_)
  obtain ⟨h0, rfl, f6, z6_0, z6_1, hlow, g6a, g6c, g6b⟩ := h
  cases h0
  show Ru _ _ _ _ _ _ _ _ _ _ _ (.ref (o + 47) :: .ref o :: []) _ _ _ _ _
  have hL6 : lowS o kd kd6 I I6 J J6 P P6 := fun a ha => by
    obtain ⟨q1, q2, q3, q4⟩ := hlow a (by omega)
    simp (disch := omega) only [am_up_e, am_up_n] at q1 q2 q3 q4
    obtain ⟨r1, r2, r3, r4⟩ := hL5 a ha
    exact ⟨q1.trans r1, q2.trans r2, q3.trans r3, q4.trans r4⟩
  have hm : midS o (o + 47) kd5 kd6 I5 I6 J5 J6 P5 P6 := fun a h1 h2 => by
    obtain ⟨q1, q2, q3, q4⟩ := hlow a (by omega)
    simp (disch := omega) only [am_up_e, am_up_n] at q1 q2 q3 q4
    exact ⟨q1, q2, q3, q4⟩
  have T1 : kd6 (o + 1) = some (2, 500) ∧ kd6 (o + 2) = some (1, 3) ∧ I6 (o + 1) = (fun _ => 0) ∧ I6 (o + 2) = (fun _ => 0) := ⟨(hm (o + 1) (by omega) (by omega)).1.trans T1.1, (hm (o + 2) (by omega) (by omega)).1.trans T1.2.1, (hm (o + 1) (by omega) (by omega)).2.1.trans T1.2.2.1, (hm (o + 2) (by omega) (by omega)).2.1.trans T1.2.2.2⟩
  have f0 := f0.low hm (by omega) (by omega)
  have g0 := g0.low hm (by omega) (by omega)
  have f1 := f1.low hm (by omega) (by omega)
  have g1 := g1.low hm (by omega) (by omega)
  have f2 := f2.low hm (by omega) (by omega)
  have g2 := g2.low hm (by omega) (by omega)
  have f3 := f3.low hm (by omega) (by omega)
  have g3 := g3.low hm (by omega) (by omega)
  have f4 := f4.low hm (by omega) (by omega)
  have g4 := g4.low hm (by omega) (by omega)
  have f5 := f5.low hm (by omega) (by omega)
  have g5 := g5.low hm (by omega) (by omega)
  have z5_0 := hm.p (b := o + 41) (by omega) (by omega) z5_0
  have z5_1 := hm.p (b := o + 41) (by omega) (by omega) z5_1
  have g6 : fr (o + 47) 0 (fun j : Nat => (if j = 4 then (-1) else 0 : Int32)) I6 J6 := ⟨g6a, fun i a c => absurd (Nat.le_trans a c) (by decide)⟩
  have e6 : fr (o + 47 + 1) 7 (fun j : Nat => (if j = 4 then (-1) else 0 : Int32)) I6 J6 := ⟨g6c, fun i a c => by rw [Nat.add_assoc (o + 47) 1 i, Nat.add_comm 1 i]; exact g6b (i + 1) (by omega) (by omega)⟩
  obtain ⟨o1, o2, o3, o4⟩ := hlow o (by omega)
  simp (disch := omega) only [am_up_e, am_up_n] at o1 o2 o4
  have hko : kd6 o = some (0, 9) := o1.trans hko
  rw [hIo] at o2
  rw [hPo] at o4
  have hIo := o2
  have hPo := o4
  clear hlow
  refine r_putR dX9_init_114 fl_X9_64 (Or.inr ⟨rfl, rfl, rfl⟩) rfl (by (try simp (disch := omega) only [am_up_e, am_up_n]); exact hko) (by omega) ?_
  refine r_aload_n dX9_init_117 rfl ?_
  refine r_new (ci := 3) (kc2 := 12) (ks2 := 3066) dX9_init_118 (by decide) cl_X9_68 in_X3 (by omega) (by omega) (by show 3066 + 4 ≤ 3070; omega) ?_
  refine r_dup dX9_init_121 rfl ?_
  refine r_init (kc2 := 11) (ks2 := 2746) (c_X3_init (o + 56) ⟨rfl, am_up_s _ _ _, am_up_s _ _ _, am_up_s _ _ _, am_up_s _ _ _⟩ (by omega)) li_X9_70 mc_X3_init dX9_init_122 (by decide) rfl rfl (Nat.le_of_ble_eq_true rfl) (by omega) (by omega) (fun _ _ _ _ _ _ h => nomatch h.1) (fun v n7 kd7 I7 J7 P7 h => ?_)
  obtain ⟨h0, rfl, f7, z7_0, hlow, g7a, g7b⟩ := h
  cases h0
  show Ru _ _ _ _ _ _ _ _ _ _ _ (.ref (o + 56) :: .ref o :: []) _ _ _ _ _
  have hL7 : lowS o kd kd7 I I7 J J7 P P7 := fun a ha => by
    obtain ⟨q1, q2, q3, q4⟩ := hlow a (by omega)
    simp (disch := omega) only [am_up_e, am_up_n] at q1 q2 q3 q4
    obtain ⟨r1, r2, r3, r4⟩ := hL6 a ha
    exact ⟨q1.trans r1, q2.trans r2, q3.trans r3, q4.trans r4⟩
  have hm : midS o (o + 56) kd6 kd7 I6 I7 J6 J7 P6 P7 := fun a h1 h2 => by
    obtain ⟨q1, q2, q3, q4⟩ := hlow a (by omega)
    simp (disch := omega) only [am_up_e, am_up_n] at q1 q2 q3 q4
    exact ⟨q1, q2, q3, q4⟩
  have T1 : kd7 (o + 1) = some (2, 500) ∧ kd7 (o + 2) = some (1, 3) ∧ I7 (o + 1) = (fun _ => 0) ∧ I7 (o + 2) = (fun _ => 0) := ⟨(hm (o + 1) (by omega) (by omega)).1.trans T1.1, (hm (o + 2) (by omega) (by omega)).1.trans T1.2.1, (hm (o + 1) (by omega) (by omega)).2.1.trans T1.2.2.1, (hm (o + 2) (by omega) (by omega)).2.1.trans T1.2.2.2⟩
  have f0 := f0.low hm (by omega) (by omega)
  have g0 := g0.low hm (by omega) (by omega)
  have f1 := f1.low hm (by omega) (by omega)
  have g1 := g1.low hm (by omega) (by omega)
  have f2 := f2.low hm (by omega) (by omega)
  have g2 := g2.low hm (by omega) (by omega)
  have f3 := f3.low hm (by omega) (by omega)
  have g3 := g3.low hm (by omega) (by omega)
  have f4 := f4.low hm (by omega) (by omega)
  have g4 := g4.low hm (by omega) (by omega)
  have f5 := f5.low hm (by omega) (by omega)
  have g5 := g5.low hm (by omega) (by omega)
  have z5_0 := hm.p (b := o + 41) (by omega) (by omega) z5_0
  have z5_1 := hm.p (b := o + 41) (by omega) (by omega) z5_1
  have f6 := f6.low hm (by omega) (by omega)
  have g6 := g6.low hm (by omega) (by omega)
  have e6 := e6.low hm (by omega) (by omega)
  have z6_0 := hm.p (b := o + 47 + 1) (by omega) (by omega) z6_0
  have z6_1 := hm.p (b := o + 47 + 1) (by omega) (by omega) z6_1
  have g7 : fr (o + 56) 1 (fun j : Nat => (0 : Int32)) I7 J7 := ⟨g7a, g7b⟩
  obtain ⟨o1, o2, o3, o4⟩ := hlow o (by omega)
  simp (disch := omega) only [am_up_e, am_up_n] at o1 o2 o4
  have hko : kd7 o = some (0, 9) := o1.trans hko
  rw [hIo] at o2
  rw [hPo] at o4
  have hIo := o2
  have hPo := o4
  clear hlow
  refine r_putR dX9_init_125 fl_X9_71 (Or.inr ⟨rfl, rfl, rfl⟩) rfl (by (try simp (disch := omega) only [am_up_e, am_up_n]); exact hko) (by omega) ?_
  refine r_aload_n dX9_init_128 rfl ?_
  refine r_new (ci := 8) (kc2 := 10) (ks2 := 2739) dX9_init_129 (by decide) cl_X9_75 in_X8 (by omega) (by omega) (by show 2739 + 7 ≤ 2746; omega) ?_
  refine r_dup dX9_init_132 rfl ?_
  refine r_init (kc2 := 8) (ks2 := 2719) (c_X8_init (o + 58) ⟨rfl, am_up_s _ _ _, am_up_s _ _ _, am_up_s _ _ _, am_up_s _ _ _⟩ (by omega)) li_X9_77 mc_X8_init dX9_init_133 (by decide) rfl rfl (Nat.le_of_ble_eq_true rfl) (by omega) (by omega) (fun _ _ _ _ _ _ h => nomatch h.1) (fun v n8 kd8 I8 J8 P8 h => ?_)
  obtain ⟨h0, rfl, f8, z8_0, hlow, g8a, g8b⟩ := h
  cases h0
  show Ru _ _ _ _ _ _ _ _ _ _ _ (.ref (o + 58) :: .ref o :: []) _ _ _ _ _
  have hL8 : lowS o kd kd8 I I8 J J8 P P8 := fun a ha => by
    obtain ⟨q1, q2, q3, q4⟩ := hlow a (by omega)
    simp (disch := omega) only [am_up_e, am_up_n] at q1 q2 q3 q4
    obtain ⟨r1, r2, r3, r4⟩ := hL7 a ha
    exact ⟨q1.trans r1, q2.trans r2, q3.trans r3, q4.trans r4⟩
  have hm : midS o (o + 58) kd7 kd8 I7 I8 J7 J8 P7 P8 := fun a h1 h2 => by
    obtain ⟨q1, q2, q3, q4⟩ := hlow a (by omega)
    simp (disch := omega) only [am_up_e, am_up_n] at q1 q2 q3 q4
    exact ⟨q1, q2, q3, q4⟩
  have T1 : kd8 (o + 1) = some (2, 500) ∧ kd8 (o + 2) = some (1, 3) ∧ I8 (o + 1) = (fun _ => 0) ∧ I8 (o + 2) = (fun _ => 0) := ⟨(hm (o + 1) (by omega) (by omega)).1.trans T1.1, (hm (o + 2) (by omega) (by omega)).1.trans T1.2.1, (hm (o + 1) (by omega) (by omega)).2.1.trans T1.2.2.1, (hm (o + 2) (by omega) (by omega)).2.1.trans T1.2.2.2⟩
  have f0 := f0.low hm (by omega) (by omega)
  have g0 := g0.low hm (by omega) (by omega)
  have f1 := f1.low hm (by omega) (by omega)
  have g1 := g1.low hm (by omega) (by omega)
  have f2 := f2.low hm (by omega) (by omega)
  have g2 := g2.low hm (by omega) (by omega)
  have f3 := f3.low hm (by omega) (by omega)
  have g3 := g3.low hm (by omega) (by omega)
  have f4 := f4.low hm (by omega) (by omega)
  have g4 := g4.low hm (by omega) (by omega)
  have f5 := f5.low hm (by omega) (by omega)
  have g5 := g5.low hm (by omega) (by omega)
  have z5_0 := hm.p (b := o + 41) (by omega) (by omega) z5_0
  have z5_1 := hm.p (b := o + 41) (by omega) (by omega) z5_1
  have f6 := f6.low hm (by omega) (by omega)
  have g6 := g6.low hm (by omega) (by omega)
  have e6 := e6.low hm (by omega) (by omega)
  have z6_0 := hm.p (b := o + 47 + 1) (by omega) (by omega) z6_0
  have z6_1 := hm.p (b := o + 47 + 1) (by omega) (by omega) z6_1
  have f7 := f7.low hm (by omega) (by omega)
  have g7 := g7.low hm (by omega) (by omega)
  have z7_0 := hm.p (b := o + 56) (by omega) (by omega) z7_0
  have g8 : fr (o + 58) 2 (fun j : Nat => (0 : Int32)) I8 J8 := ⟨g8a, g8b⟩
  obtain ⟨o1, o2, o3, o4⟩ := hlow o (by omega)
  simp (disch := omega) only [am_up_e, am_up_n] at o1 o2 o4
  have hko : kd8 o = some (0, 9) := o1.trans hko
  rw [hIo] at o2
  rw [hPo] at o4
  have hIo := o2
  have hPo := o4
  clear hlow
  refine r_putR dX9_init_136 fl_X9_78 (Or.inr ⟨rfl, rfl, rfl⟩) rfl (by (try simp (disch := omega) only [am_up_e, am_up_n]); exact hko) (by omega) ?_
  refine r_aload_n dX9_init_139 rfl ?_
  refine r_new (ci := 5) (kc2 := 7) (ks2 := 2706) dX9_init_140 (by decide) cl_X9_82 in_X5 (by omega) (by omega) (by show 2706 + 13 ≤ 2719; omega) ?_
  refine r_dup dX9_init_143 rfl ?_
  refine r_init (kc2 := 3) (ks2 := 1203) (c_X5_init (o + 61) ⟨rfl, am_up_s _ _ _, am_up_s _ _ _, am_up_s _ _ _, am_up_s _ _ _⟩ (by omega)) li_X9_84 mc_X5_init dX9_init_144 (by decide) rfl rfl (Nat.le_of_ble_eq_true rfl) (by omega) (by omega) (fun _ _ _ _ _ _ h => nomatch h.1) (fun v n9 kd9 I9 J9 P9 h => ?_)
  obtain ⟨h0, rfl, f9, z9_0, z9_1, hlow, g9a, g9b⟩ := h
  cases h0
  show Ru _ _ _ _ _ _ _ _ _ _ _ (.ref (o + 61) :: .ref o :: []) _ _ _ _ _
  have hL9 : lowS o kd kd9 I I9 J J9 P P9 := fun a ha => by
    obtain ⟨q1, q2, q3, q4⟩ := hlow a (by omega)
    simp (disch := omega) only [am_up_e, am_up_n] at q1 q2 q3 q4
    obtain ⟨r1, r2, r3, r4⟩ := hL8 a ha
    exact ⟨q1.trans r1, q2.trans r2, q3.trans r3, q4.trans r4⟩
  have hm : midS o (o + 61) kd8 kd9 I8 I9 J8 J9 P8 P9 := fun a h1 h2 => by
    obtain ⟨q1, q2, q3, q4⟩ := hlow a (by omega)
    simp (disch := omega) only [am_up_e, am_up_n] at q1 q2 q3 q4
    exact ⟨q1, q2, q3, q4⟩
  have T1 : kd9 (o + 1) = some (2, 500) ∧ kd9 (o + 2) = some (1, 3) ∧ I9 (o + 1) = (fun _ => 0) ∧ I9 (o + 2) = (fun _ => 0) := ⟨(hm (o + 1) (by omega) (by omega)).1.trans T1.1, (hm (o + 2) (by omega) (by omega)).1.trans T1.2.1, (hm (o + 1) (by omega) (by omega)).2.1.trans T1.2.2.1, (hm (o + 2) (by omega) (by omega)).2.1.trans T1.2.2.2⟩
  have f0 := f0.low hm (by omega) (by omega)
  have g0 := g0.low hm (by omega) (by omega)
  have f1 := f1.low hm (by omega) (by omega)
  have g1 := g1.low hm (by omega) (by omega)
  have f2 := f2.low hm (by omega) (by omega)
  have g2 := g2.low hm (by omega) (by omega)
  have f3 := f3.low hm (by omega) (by omega)
  have g3 := g3.low hm (by omega) (by omega)
  have f4 := f4.low hm (by omega) (by omega)
  have g4 := g4.low hm (by omega) (by omega)
  have f5 := f5.low hm (by omega) (by omega)
  have g5 := g5.low hm (by omega) (by omega)
  have z5_0 := hm.p (b := o + 41) (by omega) (by omega) z5_0
  have z5_1 := hm.p (b := o + 41) (by omega) (by omega) z5_1
  have f6 := f6.low hm (by omega) (by omega)
  have g6 := g6.low hm (by omega) (by omega)
  have e6 := e6.low hm (by omega) (by omega)
  have z6_0 := hm.p (b := o + 47 + 1) (by omega) (by omega) z6_0
  have z6_1 := hm.p (b := o + 47 + 1) (by omega) (by omega) z6_1
  have f7 := f7.low hm (by omega) (by omega)
  have g7 := g7.low hm (by omega) (by omega)
  have z7_0 := hm.p (b := o + 56) (by omega) (by omega) z7_0
  have f8 := f8.low hm (by omega) (by omega)
  have g8 := g8.low hm (by omega) (by omega)
  have z8_0 := hm.p (b := o + 58) (by omega) (by omega) z8_0
  have g9 : fr (o + 61) 4 (fun j : Nat => (if j = 12 then (-1) else 0 : Int32)) I9 J9 := ⟨g9a, g9b⟩
  obtain ⟨o1, o2, o3, o4⟩ := hlow o (by omega)
  simp (disch := omega) only [am_up_e, am_up_n] at o1 o2 o4
  have hko : kd9 o = some (0, 9) := o1.trans hko
  rw [hIo] at o2
  rw [hPo] at o4
  have hIo := o2
  have hPo := o4
  clear hlow
  refine r_putR dX9_init_147 fl_X9_85 (Or.inr ⟨rfl, rfl, rfl⟩) rfl (by (try simp (disch := omega) only [am_up_e, am_up_n]); exact hko) (by omega) ?_
  refine r_aload_n dX9_init_150 rfl ?_
  refine r_new (ci := 1) (kc2 := 2) (ks2 := 1202) dX9_init_151 (by decide) cl_X9_89 in_X1 (by omega) (by omega) (by show 1202 + 1 ≤ 1203; omega) ?_
  refine r_dup dX9_init_154 rfl ?_
  refine r_init (kc2 := 2) (ks2 := 1202) (c_X1_init (o + 66) ⟨rfl, am_up_s _ _ _, am_up_s _ _ _, am_up_s _ _ _, am_up_s _ _ _⟩ (by omega)) li_X9_91 mc_X1_init dX9_init_155 (by decide) rfl rfl (Nat.le_of_ble_eq_true rfl) (by omega) (by omega) (fun _ _ _ _ _ _ h => nomatch h.1) (fun v n10 kd10 I10 J10 P10 h => ?_)
  obtain ⟨h0, rfl, f10, hlow, g10a, g10b⟩ := h
  cases h0
  show Ru _ _ _ _ _ _ _ _ _ _ _ (.ref (o + 66) :: .ref o :: []) _ _ _ _ _
  have hL10 : lowS o kd kd10 I I10 J J10 P P10 := fun a ha => by
    obtain ⟨q1, q2, q3, q4⟩ := hlow a (by omega)
    simp (disch := omega) only [am_up_e, am_up_n] at q1 q2 q3 q4
    obtain ⟨r1, r2, r3, r4⟩ := hL9 a ha
    exact ⟨q1.trans r1, q2.trans r2, q3.trans r3, q4.trans r4⟩
  have hm : midS o (o + 66) kd9 kd10 I9 I10 J9 J10 P9 P10 := fun a h1 h2 => by
    obtain ⟨q1, q2, q3, q4⟩ := hlow a (by omega)
    simp (disch := omega) only [am_up_e, am_up_n] at q1 q2 q3 q4
    exact ⟨q1, q2, q3, q4⟩
  have T1 : kd10 (o + 1) = some (2, 500) ∧ kd10 (o + 2) = some (1, 3) ∧ I10 (o + 1) = (fun _ => 0) ∧ I10 (o + 2) = (fun _ => 0) := ⟨(hm (o + 1) (by omega) (by omega)).1.trans T1.1, (hm (o + 2) (by omega) (by omega)).1.trans T1.2.1, (hm (o + 1) (by omega) (by omega)).2.1.trans T1.2.2.1, (hm (o + 2) (by omega) (by omega)).2.1.trans T1.2.2.2⟩
  have f0 := f0.low hm (by omega) (by omega)
  have g0 := g0.low hm (by omega) (by omega)
  have f1 := f1.low hm (by omega) (by omega)
  have g1 := g1.low hm (by omega) (by omega)
  have f2 := f2.low hm (by omega) (by omega)
  have g2 := g2.low hm (by omega) (by omega)
  have f3 := f3.low hm (by omega) (by omega)
  have g3 := g3.low hm (by omega) (by omega)
  have f4 := f4.low hm (by omega) (by omega)
  have g4 := g4.low hm (by omega) (by omega)
  have f5 := f5.low hm (by omega) (by omega)
  have g5 := g5.low hm (by omega) (by omega)
  have z5_0 := hm.p (b := o + 41) (by omega) (by omega) z5_0
  have z5_1 := hm.p (b := o + 41) (by omega) (by omega) z5_1
  have f6 := f6.low hm (by omega) (by omega)
  have g6 := g6.low hm (by omega) (by omega)
  have e6 := e6.low hm (by omega) (by omega)
  have z6_0 := hm.p (b := o + 47 + 1) (by omega) (by omega) z6_0
  have z6_1 := hm.p (b := o + 47 + 1) (by omega) (by omega) z6_1
  have f7 := f7.low hm (by omega) (by omega)
  have g7 := g7.low hm (by omega) (by omega)
  have z7_0 := hm.p (b := o + 56) (by omega) (by omega) z7_0
  have f8 := f8.low hm (by omega) (by omega)
  have g8 := g8.low hm (by omega) (by omega)
  have z8_0 := hm.p (b := o + 58) (by omega) (by omega) z8_0
  have f9 := f9.low hm (by omega) (by omega)
  have g9 := g9.low hm (by omega) (by omega)
  have z9_0 := hm.p (b := o + 61) (by omega) (by omega) z9_0
  have z9_1 := hm.p (b := o + 61) (by omega) (by omega) z9_1
  have g10 : fr (o + 66) 0 (fun j : Nat => (0 : Int32)) I10 J10 := ⟨g10a, g10b⟩
  obtain ⟨o1, o2, o3, o4⟩ := hlow o (by omega)
  simp (disch := omega) only [am_up_e, am_up_n] at o1 o2 o4
  have hko : kd10 o = some (0, 9) := o1.trans hko
  rw [hIo] at o2
  rw [hPo] at o4
  have hIo := o2
  have hPo := o4
  clear hlow
  refine r_putR dX9_init_158 fl_X9_92 (Or.inr ⟨rfl, rfl, rfl⟩) rfl (by (try simp (disch := omega) only [am_up_e, am_up_n]); exact hko) (by omega) ?_
  refine r_aload_n dX9_init_161 rfl ?_
  refine r_new (ci := 4) (kc2 := 1) (ks2 := 1200) dX9_init_162 (by decide) cl_X9_96 in_X4 (by omega) (by omega) (by show 1200 + 2 ≤ 1202; omega) ?_
  refine r_dup dX9_init_165 rfl ?_
  refine r_init (kc2 := 0) (ks2 := 0) (c_X4_init (o + 67) ⟨rfl, am_up_s _ _ _, am_up_s _ _ _, am_up_s _ _ _, am_up_s _ _ _⟩ (by omega)) li_X9_98 mc_X4_init dX9_init_166 (by decide) rfl rfl (Nat.le_of_ble_eq_true rfl) (by omega) (by omega) (fun _ _ _ _ _ _ h => nomatch h.1) (fun v n11 kd11 I11 J11 P11 h => ?_)
  obtain ⟨h0, rfl, f11, hlow, g11a, g11b⟩ := h
  cases h0
  show Ru _ _ _ _ _ _ _ _ _ _ _ (.ref (o + 67) :: .ref o :: []) _ _ _ _ _
  have hL11 : lowS o kd kd11 I I11 J J11 P P11 := fun a ha => by
    obtain ⟨q1, q2, q3, q4⟩ := hlow a (by omega)
    simp (disch := omega) only [am_up_e, am_up_n] at q1 q2 q3 q4
    obtain ⟨r1, r2, r3, r4⟩ := hL10 a ha
    exact ⟨q1.trans r1, q2.trans r2, q3.trans r3, q4.trans r4⟩
  have hm : midS o (o + 67) kd10 kd11 I10 I11 J10 J11 P10 P11 := fun a h1 h2 => by
    obtain ⟨q1, q2, q3, q4⟩ := hlow a (by omega)
    simp (disch := omega) only [am_up_e, am_up_n] at q1 q2 q3 q4
    exact ⟨q1, q2, q3, q4⟩
  have T1 : kd11 (o + 1) = some (2, 500) ∧ kd11 (o + 2) = some (1, 3) ∧ I11 (o + 1) = (fun _ => 0) ∧ I11 (o + 2) = (fun _ => 0) := ⟨(hm (o + 1) (by omega) (by omega)).1.trans T1.1, (hm (o + 2) (by omega) (by omega)).1.trans T1.2.1, (hm (o + 1) (by omega) (by omega)).2.1.trans T1.2.2.1, (hm (o + 2) (by omega) (by omega)).2.1.trans T1.2.2.2⟩
  have f0 := f0.low hm (by omega) (by omega)
  have g0 := g0.low hm (by omega) (by omega)
  have f1 := f1.low hm (by omega) (by omega)
  have g1 := g1.low hm (by omega) (by omega)
  have f2 := f2.low hm (by omega) (by omega)
  have g2 := g2.low hm (by omega) (by omega)
  have f3 := f3.low hm (by omega) (by omega)
  have g3 := g3.low hm (by omega) (by omega)
  have f4 := f4.low hm (by omega) (by omega)
  have g4 := g4.low hm (by omega) (by omega)
  have f5 := f5.low hm (by omega) (by omega)
  have g5 := g5.low hm (by omega) (by omega)
  have z5_0 := hm.p (b := o + 41) (by omega) (by omega) z5_0
  have z5_1 := hm.p (b := o + 41) (by omega) (by omega) z5_1
  have f6 := f6.low hm (by omega) (by omega)
  have g6 := g6.low hm (by omega) (by omega)
  have e6 := e6.low hm (by omega) (by omega)
  have z6_0 := hm.p (b := o + 47 + 1) (by omega) (by omega) z6_0
  have z6_1 := hm.p (b := o + 47 + 1) (by omega) (by omega) z6_1
  have f7 := f7.low hm (by omega) (by omega)
  have g7 := g7.low hm (by omega) (by omega)
  have z7_0 := hm.p (b := o + 56) (by omega) (by omega) z7_0
  have f8 := f8.low hm (by omega) (by omega)
  have g8 := g8.low hm (by omega) (by omega)
  have z8_0 := hm.p (b := o + 58) (by omega) (by omega) z8_0
  have f9 := f9.low hm (by omega) (by omega)
  have g9 := g9.low hm (by omega) (by omega)
  have z9_0 := hm.p (b := o + 61) (by omega) (by omega) z9_0
  have z9_1 := hm.p (b := o + 61) (by omega) (by omega) z9_1
  have f10 := f10.low hm (by omega) (by omega)
  have g10 := g10.low hm (by omega) (by omega)
  have g11 : fr (o + 67) 1 (fun j : Nat => (0 : Int32)) I11 J11 := ⟨g11a, g11b⟩
  obtain ⟨o1, o2, o3, o4⟩ := hlow o (by omega)
  simp (disch := omega) only [am_up_e, am_up_n] at o1 o2 o4
  have hko : kd11 o = some (0, 9) := o1.trans hko
  rw [hIo] at o2
  rw [hPo] at o4
  have hIo := o2
  have hPo := o4
  clear hlow
  refine r_putR dX9_init_169 fl_X9_99 (Or.inr ⟨rfl, rfl, rfl⟩) rfl (by (try simp (disch := omega) only [am_up_e, am_up_n]); exact hko) (by omega) ?_
  refine r_aload_n dX9_init_172 rfl ?_
  refine r_iconst (v := nI 0) dX9_init_173 (by decide) ?_
  refine r_putZ dX9_init_174 fl_X9_103 rfl rfl (Or.inl rfl) (by (try simp (disch := omega) only [am_up_e, am_up_n]); exact hko) ?_
  refine r_vret rfl dX9_init_177 ?_
  have hm : midS o (o + 69) kd11 kd11 I11 (va_up I11 o (va_up (I11 o) 18 (nI 0))) J11 J11 P11 (va_up P11 o (va_up (P11 o) 17 (some (o + 67)))) := fun a h1 h2 => ⟨rfl, am_up_n _ _ (by omega), rfl, am_up_n _ _ (by omega)⟩
  refine ⟨rfl, rfl, ⟨hko, T1.1, T1.2.1, f0.low hm (by omega) (by omega), f1.low hm (by omega) (by omega), f2.low hm (by omega) (by omega), f3.low hm (by omega) (by omega), f4.low hm (by omega) (by omega), f5.low hm (by omega) (by omega), f6.low hm (by omega) (by omega), f7.low hm (by omega) (by omega), f8.low hm (by omega) (by omega), f9.low hm (by omega) (by omega), f10.low hm (by omega) (by omega), f11.low hm (by omega) (by omega), by first | (simp (disch := omega) only [am_up_e, am_up_n]; done) | (simp (disch := omega) only [am_up_e, am_up_n]; rw [hPo]; simp [va_up]), by first | (simp (disch := omega) only [am_up_e, am_up_n]; done) | (simp (disch := omega) only [am_up_e, am_up_n]; rw [hPo]; simp [va_up]), by first | (simp (disch := omega) only [am_up_e, am_up_n]; done) | (simp (disch := omega) only [am_up_e, am_up_n]; rw [hPo]; simp [va_up]), by first | (simp (disch := omega) only [am_up_e, am_up_n]; done) | (simp (disch := omega) only [am_up_e, am_up_n]; rw [hPo]; simp [va_up]), by first | (simp (disch := omega) only [am_up_e, am_up_n]; done) | (simp (disch := omega) only [am_up_e, am_up_n]; rw [hPo]; simp [va_up]), by first | (simp (disch := omega) only [am_up_e, am_up_n]; done) | (simp (disch := omega) only [am_up_e, am_up_n]; rw [hPo]; simp [va_up]), by first | (simp (disch := omega) only [am_up_e, am_up_n]; done) | (simp (disch := omega) only [am_up_e, am_up_n]; rw [hPo]; simp [va_up]), by first | (simp (disch := omega) only [am_up_e, am_up_n]; done) | (simp (disch := omega) only [am_up_e, am_up_n]; rw [hPo]; simp [va_up]), by first | (simp (disch := omega) only [am_up_e, am_up_n]; done) | (simp (disch := omega) only [am_up_e, am_up_n]; rw [hPo]; simp [va_up]), by first | (simp (disch := omega) only [am_up_e, am_up_n]; done) | (simp (disch := omega) only [am_up_e, am_up_n]; rw [hPo]; simp [va_up])⟩, ⟨by first | (simp (disch := omega) only [am_up_e, am_up_n]; done) | (simp (disch := omega) only [am_up_e, am_up_n]; rw [hPo]; simp [va_up]), by first | (simp (disch := omega) only [am_up_e, am_up_n]; done) | (simp (disch := omega) only [am_up_e, am_up_n]; rw [hPo]; simp [va_up]), by first | (simp (disch := omega) only [am_up_e, am_up_n]; done) | (simp (disch := omega) only [am_up_e, am_up_n]; rw [hPo]; simp [va_up]), by first | (simp (disch := omega) only [am_up_e, am_up_n]; done) | (simp (disch := omega) only [am_up_e, am_up_n]; rw [hPo]; simp [va_up])⟩, ?_, ?_, ⟨?_, ?_⟩, ⟨hm.p (b := o + 41) (by omega) (by omega) z5_0, hm.p (b := o + 41) (by omega) (by omega) z5_1, hm.p (b := o + 48) (by omega) (by omega) z6_0, hm.p (b := o + 48) (by omega) (by omega) z6_1, hm.p (b := o + 56) (by omega) (by omega) z7_0, hm.p (b := o + 58) (by omega) (by omega) z8_0, hm.p (b := o + 61) (by omega) (by omega) z9_0, hm.p (b := o + 61) (by omega) (by omega) z9_1⟩, ⟨g0.low hm (by omega) (by omega), g1.low hm (by omega) (by omega), g2.low hm (by omega) (by omega), g3.low hm (by omega) (by omega), g4.low hm (by omega) (by omega), g5.low hm (by omega) (by omega), g6.low hm (by omega) (by omega), g7.low hm (by omega) (by omega), g8.low hm (by omega) (by omega), g9.low hm (by omega) (by omega), g10.low hm (by omega) (by omega), g11.low hm (by omega) (by omega), e6.low hm (by omega) (by omega)⟩⟩
  · intro a ha
    simp (disch := omega) only [am_up_e, am_up_n]
    exact hL11 a ha
  · simp (disch := omega) only [am_up_e, am_up_n]
    rw [hIo]
    funext j
    simp only [va_up]
    repeat' split
    all_goals first | rfl | (exfalso; omega)
  · simp (disch := omega) only [am_up_e, am_up_n]; exact T1.2.2.1
  · simp (disch := omega) only [am_up_e, am_up_n]; exact T1.2.2.2

