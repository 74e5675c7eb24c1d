/-! THE SEARCH ENDS WITHIN ITS STEPS -/
def pbS (x y hh : Nat) (N : Nat → Nat) : Nat := if x < hh ∧ N x < y then 1 else 0
theorem pbS_le (x y hh : Nat) (N : Nat → Nat) : pbS x y hh N ≤ 1 := by unfold pbS; split <;> omega
theorem sk_total {T : (Nat → Nat) → Nat → Bool} {bar : Nat → Nat → Bool} {H M E x y : Nat} (hbar : ∀ h v, h < H → v ≤ M → bar h v = true → h = x ∧ v = y) : ∀ (f hh : Nat) (N : Nat → Nat) (t : Nat) (fs : List (Nat → Nat)), hh ≤ H → t ≤ 20000 → 3 * (20001 - t) + hh + pbS x y hh N < f → ∃ res, sk T bar H M E f hh N t fs = some res
  | 0, _, _, _, _, _, _, h => absurd h (Nat.not_lt_zero _)
  | f + 1, 0, N, t, fs, _, _, _ => ⟨_, by rw [sk]⟩
  | f + 1, h + 1, N, t, fs, hH, ht, hf => by
    rw [sk]
    by_cases h1 : M ≤ N h
    · rw [if_pos h1]
      refine sk_total hbar f h _ t fs (by omega) ht ?_
      have : pbS x y h (upN N h 0) ≤ pbS x y (h + 1) N := by
        unfold pbS
        by_cases a : x < h ∧ upN N h 0 x < y
        · have : upN N h 0 x = N x := by unfold upN; rw [if_neg (by omega)]
          rw [if_pos a, if_pos ⟨by omega, by omega⟩]; exact Nat.le_refl 1
        · rw [if_neg a]; exact Nat.zero_le _
      omega
    · rw [if_neg h1]
      by_cases h2 : bar h (N h + 1) = true
      · rw [if_pos h2]
        obtain ⟨e1, e2⟩ := hbar h (N h + 1) (by omega) (by omega) h2
        refine sk_total hbar f (h + 1) _ t fs hH ht ?_
        have a : pbS x y (h + 1) N = 1 := by unfold pbS; rw [if_pos ⟨by omega, by rw [← e1]; omega⟩]
        have b : pbS x y (h + 1) (upN N h (N h + 1)) = 0 := by unfold pbS; rw [if_neg]; rintro ⟨-, q⟩; rw [← e1] at q; unfold upN at q; rw [if_pos rfl] at q; omega
        omega
      · rw [if_neg h2]
        by_cases h3 : t = 20000
        · rw [if_pos h3]; exact ⟨_, rfl⟩
        · rw [if_neg h3]
          have hp := pbS_le x y (h + 1) (upN N h (N h + 1))
          have hp2 := pbS_le x y (h + 2) (upN N h (N h + 1))
          by_cases h4 : T (upN N h (N h + 1)) h = true
          · rw [if_pos h4]
            by_cases h5 : h + 1 < H
            · rw [if_pos h5]
              exact sk_total hbar f (h + 2) _ (t + 1) fs (by omega) (by omega) (by omega)
            · rw [if_neg h5]
              by_cases h6 : fs.length + 1 = E
              · rw [if_pos h6]; exact ⟨_, rfl⟩
              · rw [if_neg h6]
                exact sk_total hbar f (h + 1) _ (t + 1) _ hH (by omega) (by omega)
          · rw [if_neg h4]
            exact sk_total hbar f (h + 1) _ (t + 1) fs hH (by omega) (by omega)
theorem barS_one (p q : Int32) {H M : Nat} (hH : H ≤ 8) (hM : M ≤ 20) : ∃ x y, ∀ h v, h < H → v ≤ M → barS p q h v = true → h = x ∧ v = y := by
  by_cases ex : ∃ h v, h < H ∧ v ≤ M ∧ barS p q h v = true
  · obtain ⟨x, y, h1, h2, h3⟩ := ex
    refine ⟨x, y, fun h v a b c => ?_⟩
    unfold barS at h3 c
    simp only [Bool.and_eq_true, decide_eq_true_eq] at h3 c
    exact ⟨(nI_eq (by omega) (by omega)).mp (c.1.trans h3.1.symm), (nI_eq (by omega) (by omega)).mp (c.2.trans h3.2.symm)⟩
  · exact ⟨0, 0, fun h v a b c => absurd ⟨h, v, a, b, c⟩ ex⟩
theorem skTop_total (T : (Nat → Nat) → Nat → Bool) (p q : Int32) {H M : Nat} (E : Nat) (hH : H ≤ 8) (hM : M ≤ 20) : ∃ res, skTop T (barS p q) H M E = some res := by
  unfold skTop
  by_cases h0 : H = 0
  · rw [if_pos h0]; exact ⟨_, rfl⟩
  · rw [if_neg h0]
    obtain ⟨x, y, hb⟩ := barS_one p q hH hM
    have := pbS_le x y 1 (fun _ => 0)
    exact sk_total hb 100000 1 _ 0 [] (by omega) (by omega) (by omega)
/-- not more are found than are enough -/
theorem sk_len {T : (Nat → Nat) → Nat → Bool} {bar : Nat → Nat → Bool} {H M E : Nat} : ∀ (f hh : Nat) (N : Nat → Nat) (t : Nat) (fs : List (Nat → Nat)) (res : Nat × List (Nat → Nat) × Bool), fs.length < E → sk T bar H M E f hh N t fs = some res → res.2.1.length ≤ E
  | 0, _, _, _, _, _, _, h => by rw [sk] at h; cases h
  | f + 1, 0, N, t, fs, res, hF, h => by rw [sk] at h; cases h; exact Nat.le_of_lt hF
  | f + 1, k + 1, N, t, fs, res, hF, h => by
    rw [sk] at h
    by_cases h1 : M ≤ N k
    · rw [if_pos h1] at h; exact sk_len f _ _ _ _ res hF h
    · rw [if_neg h1] at h
      by_cases h2 : bar k (N k + 1) = true
      · rw [if_pos h2] at h; exact sk_len f _ _ _ _ res hF h
      · rw [if_neg h2] at h
        by_cases h3 : t = 20000
        · rw [if_pos h3] at h; cases h; exact Nat.le_of_lt hF
        · rw [if_neg h3] at h
          by_cases h4 : T (upN N k (N k + 1)) k = true
          · rw [if_pos h4] at h
            by_cases h5 : k + 1 < H
            · rw [if_pos h5] at h; exact sk_len f _ _ _ _ res hF h
            · rw [if_neg h5] at h
              by_cases h6 : fs.length + 1 = E
              · rw [if_pos h6] at h; cases h; exact Nat.le_of_eq h6
              · rw [if_neg h6] at h; exact sk_len f _ _ _ _ res (by simp; omega) h
          · rw [if_neg h4] at h; exact sk_len f _ _ _ _ res hF h
theorem skTop_len {T : (Nat → Nat) → Nat → Bool} {bar : Nat → Nat → Bool} {H M E : Nat} {res : Nat × List (Nat → Nat) × Bool} (hE : 1 ≤ E) (h : skTop T bar H M E = some res) : res.2.1.length ≤ E := by
  unfold skTop at h
  by_cases h0 : H = 0
  · rw [if_pos h0] at h; cases h; exact hE
  · rw [if_neg h0] at h; exact sk_len 100000 1 _ 0 [] res hE h
/-- all numberings: spent too where there are more than 1000 -/
def skA (res : Nat × List (Nat → Nat) × Bool) : Int32 := if res.2.2 then -2 else if 1000 < res.2.1.length then -2 else nI res.2.1.length
def skAP (b o H : Nat) (S0 r0 : Nat → Int32) (J0 : Nat → Int64) (res : Nat × List (Nat → Nat) × Bool) (n : Nat) (kd : mK) (I : mI) (J : mJ) (P : mP) : am_Post := fun z n' kd' I' J' P' => ∃ Q R : Nat → Int32, am_is (some (.int (skA res))) n kd (sM I b o Q R (SR H S0 res.2.1) (oR r0 (nI res.1) (skA res))) (va_up J (o + 4) (JR H J0 res.2.1)) P z n' kd' I' J' P' 
theorem dX6_seekAll_0 : decode cX6_seekAll 0 = .ok (.aload_n 0, 1) := by decide +kernel
theorem dX6_seekAll_1 : decode cX6_seekAll 1 = .ok (.sipush 1001, 3) := by decide +kernel
theorem dX6_seekAll_4 : decode cX6_seekAll 4 = .ok (.invokevirtual 69, 3) := by decide +kernel
theorem dX6_seekAll_7 : decode cX6_seekAll 7 = .ok (.sipush 1000, 3) := by decide +kernel
theorem dX6_seekAll_10 : decode cX6_seekAll 10 = .ok (.if_icmp .le 9, 3) := by decide +kernel
theorem dX6_seekAll_13 : decode cX6_seekAll 13 = .ok (.aload_n 0, 1) := by decide +kernel
theorem dX6_seekAll_14 : decode cX6_seekAll 14 = .ok (.bipush (-2), 2) := by decide +kernel
theorem dX6_seekAll_16 : decode cX6_seekAll 16 = .ok (.putfield 46, 3) := by decide +kernel
theorem dX6_seekAll_19 : decode cX6_seekAll 19 = .ok (.aload_n 0, 1) := by decide +kernel
theorem dX6_seekAll_20 : decode cX6_seekAll 20 = .ok (.getfield 46, 3) := by decide +kernel
theorem dX6_seekAll_23 : decode cX6_seekAll 23 = .ok (.ireturn, 1) := by decide +kernel

set_option maxHeartbeats 4000000 in
set_option maxRecDepth 100000 in
theorem c_X6_seekAll (o b l H M : Nat) (rid : Nat → List Nat) (res : Nat × List (Nat → Nat) × Bool) {n : Nat} {kd : mK} {I : mI} {J : mJ} {P : mP} (hS : kS kd P b) (hL : kL kd P l) (hQ : kQ kd P o) (hpb : P o 0 = some b) (hpl : P o 1 = some l) (hbl : b + 9 < l) (hlo : l + 5 < o) (hH8 : H ≤ 8) (hH : I b 0 = nI H) (hM : I b 1 = nI M) (hM20 : M ≤ 20) (hrd : ∀ h, h < H → ∀ k, k < 8 → bt (I (o + 1) h) k = true → ridOk I b H rid k) (hsk : skTop (TS I o b l H rid) (barS (I o 4) (I o 5)) H M 1001 = some res) : Ct yX6_seekAll cX6_seekAll 1 (some .int) 7 0 0 [.ref o] n kd I J P (skAP b o H (fun j => if j < 8 then nI 0 else I (o + 5) j) (I o) (J (o + 4)) res n kd I J P) := by
  have hS0 := hS
  obtain ⟨s0, s1, s2, s3, s4, s5, s6, s7, s8, s9, p4, p5, p7, p8, p9, p11, p12, p13, p14⟩ := hS
  have hL0 := hL
  obtain ⟨l0, l1, l2, l3, l4, l5, q0, q1, q3, q5, q6⟩ := hL
  have hQ0 := hQ
  obtain ⟨t0, t1, t2, t3, t4, t5, u2, u3, u6, u7, u8⟩ := hQ
  have hlen := skTop_len (by omega) hsk
  refine ct_of 0 (by decide +kernel) (Nat.le_of_ble_eq_true rfl) rfl ?_
  by_cases hsp : res.2.2 = true
  · skip
    refine r_aload_n dX6_seekAll_0 rfl ?_
    refine r_sipush (v := nI 1001) dX6_seekAll_1 (by decide) ?_
    refine r_virt (kc2 := 0) (ks2 := 0) (c_X6_seek o b l H M 1001 rid res hS0 hL0 hQ0 hpb hpl hbl hlo hH8 hH hM hM20 (by omega) hrd (by omega) hsk) lk_X6_69 mc_X6_seek dX6_seekAll_4 t0 (by decide) rfl rfl (Nat.le_of_ble_eq_true rfl) (by omega) (by omega) (fun _ _ _ _ _ _ h => by obtain ⟨_, _, h0, -⟩ := h; cases h0) (fun v n2 kd2 I2 J2 P2 h => ?_)
    obtain ⟨Q, R, h0, rfl, rfl, rfl, rfl, rfl⟩ := h
    cases h0
    show Ru _ _ _ _ _ _ _ _ _ _ _ (.int (skv res.2.2 res.2.1) :: []) _ _ _ _ _
    rw [skv, if_pos hsp]
    refine r_sipush (v := nI 1000) dX6_seekAll_7 (by decide) ?_
    refine r_icmp_le (tgt := 19) dX6_seekAll_10 (by decide) (fun _ => ?_) (fun hz => absurd (show _ from (by decide)) hz)
    refine r_aload_n dX6_seekAll_19 rfl ?_
    refine r_getI dX6_seekAll_20 fl_X6_46 rfl t0 ?_
    rw [sM_o, oR10]
    refine r_iret rfl dX6_seekAll_23 ?_
    exact ⟨Q, R, by rw [skA, if_pos hsp], rfl, rfl, by rw [skA, if_pos hsp], rfl, rfl⟩
  · by_cases hov : 1000 < res.2.1.length
    · skip
      refine r_aload_n dX6_seekAll_0 rfl ?_
      refine r_sipush (v := nI 1001) dX6_seekAll_1 (by decide) ?_
      refine r_virt (kc2 := 0) (ks2 := 0) (c_X6_seek o b l H M 1001 rid res hS0 hL0 hQ0 hpb hpl hbl hlo hH8 hH hM hM20 (by omega) hrd (by omega) hsk) lk_X6_69 mc_X6_seek dX6_seekAll_4 t0 (by decide) rfl rfl (Nat.le_of_ble_eq_true rfl) (by omega) (by omega) (fun _ _ _ _ _ _ h => by obtain ⟨_, _, h0, -⟩ := h; cases h0) (fun v n2 kd2 I2 J2 P2 h => ?_)
      obtain ⟨Q, R, h0, rfl, rfl, rfl, rfl, rfl⟩ := h
      cases h0
      show Ru _ _ _ _ _ _ _ _ _ _ _ (.int (skv res.2.2 res.2.1) :: []) _ _ _ _ _
      rw [skv, if_neg hsp]
      refine r_sipush (v := nI 1000) dX6_seekAll_7 (by decide) ?_
      refine r_icmp_le (tgt := 19) dX6_seekAll_10 (by decide) (fun hz => absurd hz (show ¬ _ from (by rw [nI_leI (by omega) (by omega)]; omega))) (fun _ => ?_)
      refine r_aload_n dX6_seekAll_13 rfl ?_
      refine r_bipush (v := (-2)) dX6_seekAll_14 (by decide) ?_
      refine r_putI dX6_seekAll_16 fl_X6_46 rfl rfl t0 ?_
      rw [sM_o, sM_uo, oR_10]
      refine r_aload_n dX6_seekAll_19 rfl ?_
      refine r_getI dX6_seekAll_20 fl_X6_46 rfl t0 ?_
      rw [sM_o, oR10]
      refine r_iret rfl dX6_seekAll_23 ?_
      exact ⟨Q, R, by rw [skA, if_neg hsp, if_pos hov], rfl, rfl, by rw [skA, if_neg hsp, if_pos hov], rfl, rfl⟩
    · skip
      refine r_aload_n dX6_seekAll_0 rfl ?_
      refine r_sipush (v := nI 1001) dX6_seekAll_1 (by decide) ?_
      refine r_virt (kc2 := 0) (ks2 := 0) (c_X6_seek o b l H M 1001 rid res hS0 hL0 hQ0 hpb hpl hbl hlo hH8 hH hM hM20 (by omega) hrd (by omega) hsk) lk_X6_69 mc_X6_seek dX6_seekAll_4 t0 (by decide) rfl rfl (Nat.le_of_ble_eq_true rfl) (by omega) (by omega) (fun _ _ _ _ _ _ h => by obtain ⟨_, _, h0, -⟩ := h; cases h0) (fun v n2 kd2 I2 J2 P2 h => ?_)
      obtain ⟨Q, R, h0, rfl, rfl, rfl, rfl, rfl⟩ := h
      cases h0
      show Ru _ _ _ _ _ _ _ _ _ _ _ (.int (skv res.2.2 res.2.1) :: []) _ _ _ _ _
      rw [skv, if_neg hsp]
      refine r_sipush (v := nI 1000) dX6_seekAll_7 (by decide) ?_
      refine r_icmp_le (tgt := 19) dX6_seekAll_10 (by decide) (fun _ => ?_) (fun hz => absurd (show _ from (by rw [nI_leI (by omega) (by omega)]; omega)) hz)
      refine r_aload_n dX6_seekAll_19 rfl ?_
      refine r_getI dX6_seekAll_20 fl_X6_46 rfl t0 ?_
      rw [sM_o, oR10]
      refine r_iret rfl dX6_seekAll_23 ?_
      exact ⟨Q, R, by rw [skA, if_neg hsp, if_neg hov], rfl, rfl, by rw [skA, if_neg hsp, if_neg hov], rfl, rfl⟩

