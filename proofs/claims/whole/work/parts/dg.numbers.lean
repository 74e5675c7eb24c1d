/-! STREET: the reference's numbers and needs -/
/-- all is good, and the token is i -/
def rA (m : Nat) (T : RT) (I : mI) (J : mJ) (i : Nat) : Prop := I m 16 = nI 0 ∧ gIn m T.1 T.2.2.2.2.2 I ∧ gTk m T.2.2.2.2.2 I J (tkAt T i) ∧ i < T.2.1
theorem eX.bad {m : Nat} {T : RT} {I : mI} {f j : Nat} (h : eX m T I f j) : decide (I m 16 = 0) = false := by
  rw [h.1, decide_eq_false (fun z => h.2.1.1 ((z_eq (by have := h.2.1.2; omega)).mp z))]
theorem rA.wrong {m : Nat} {T : RT} {I : mI} {J : mJ} {i f : Nat} (h0 : ¬ f = 0) (h4 : f < 4 ∨ f = 4) (h : rA m T I J i) : wrI m (nI f) I m 16 = nI f ∧ wrI m (nI f) I m 17 = nI (T.2.2.2.1 i) ∧ decide (wrI m (nI f) I m 16 = 0) = false := by
  have e : wrI m (nI f) I m 16 = nI f := by rw [wrI_g h.1, am_up_s, am_up_n _ _ (by decide), am_up_s]
  refine ⟨e, by rw [wrI_g h.1, am_up_s, am_up_s]; exact h.2.2.1.2.1, ?_⟩
  rw [e, decide_eq_false (fun z => h0 ((z_eq (by omega)).mp z))]
theorem rA.go {m : Nat} {T : RT} {I I' : mI} {J J' : mJ} {i : Nat} (hf : gFr m I I' J J') (hk : gTk m T.2.2.2.2.2 I' J' (tkAt T (i + 1))) (hi : i + 1 < T.2.1) (h : rA m T I J i) : rA m T I' J' (i + 1) := ⟨(hf.2.1 _ (by decide)).trans h.1, h.2.1.fr hf, hk, hi⟩
/-- a fault of a number: none, or which -/
def nuF (T : RT) (lo hi : Nat) (i : Nat) : Nat := if ¬ tkK T i = nI 2 then 1 else if 4 < tkL T i then 2 else if tkV T i < nI lo ∨ nI hi < tkV T i then 2 else 0
def nuFr (m : Nat) (I I' : mI) (J J' : mJ) : Prop := (∀ a, a ≠ m → I' a = I a) ∧ (∀ j, j ≠ 16 → j ≠ 17 → (j < 20 ∨ 25 < j) → I' m j = I m j) ∧ (∀ a, a ≠ m → J' a = J a) ∧ (∀ j, j ≠ 26 → J' m j = J m j) ∧ kP m I I'
theorem nuFr.g {m : Nat} {I I' : mI} {J J' : mJ} (h : gFr m I I' J J') : nuFr m I I' J J' := ⟨h.1, fun j _ _ h3 => h.2.1 j h3, h.2.2.1, h.2.2.2, kP.same (h.2.1 _ (by decide)) (h.2.1 _ (by decide))⟩
theorem nuFr.rf {m : Nat} {I : mI} {J : mJ} : nuFr m I I J J := ⟨fun _ _ => rfl, fun _ _ _ _ => rfl, fun _ _ => rfl, fun _ _ => rfl, kP.same rfl rfl⟩
theorem nuFr.wr {m : Nat} {f : Int32} {I : mI} {J : mJ} (hf : ¬ f = nI 0 := by decide) : nuFr m I (wrI m f I) J J := by
  unfold wrI
  split
  · exact ⟨fun a h1 => am_up_n _ _ h1, fun j h1 h2 h3 => by rw [am_up_s, am_up_n _ _ h2, am_up_n _ _ h1], fun _ _ => rfl, fun _ _ => rfl, fun z => absurd ((by rw [am_up_s, am_up_n _ _ (by decide), am_up_s] : va_up I m (va_up (va_up (I m) 16 f) 17 (I m 22)) m 16 = f).symm.trans z) hf⟩
  · exact nuFr.rf
theorem nuFr.tr {m : Nat} {I I1 I2 : mI} {J J1 J2 : mJ} (h : nuFr m I I1 J J1) (g : nuFr m I1 I2 J1 J2) : nuFr m I I2 J J2 := ⟨fun a x => (g.1 a x).trans (h.1 a x), fun j x y z => (g.2.1 j x y z).trans (h.2.1 j x y z), fun a x => (g.2.2.1 a x).trans (h.2.2.1 a x), fun j x => (g.2.2.2.1 j x).trans (h.2.2.2.1 j x), h.2.2.2.2.tr g.2.2.2.2⟩
theorem dX10_number0_0 : decode cX10_number0 0 = .ok (.aload_n 0, 1) := by decide +kernel
theorem dX10_number0_1 : decode cX10_number0 1 = .ok (.invokevirtual 252, 3) := by decide +kernel
theorem dX10_number0_4 : decode cX10_number0 4 = .ok (.ifCond .ne 5, 3) := by decide +kernel
theorem dX10_number0_7 : decode cX10_number0 7 = .ok (.iconst 0, 1) := by decide +kernel
theorem dX10_number0_8 : decode cX10_number0 8 = .ok (.ireturn, 1) := by decide +kernel
theorem dX10_number0_9 : decode cX10_number0 9 = .ok (.aload_n 0, 1) := by decide +kernel
theorem dX10_number0_10 : decode cX10_number0 10 = .ok (.getfield 226, 3) := by decide +kernel
theorem dX10_number0_13 : decode cX10_number0 13 = .ok (.iconst 2, 1) := by decide +kernel
theorem dX10_number0_14 : decode cX10_number0 14 = .ok (.if_icmp .eq 11, 3) := by decide +kernel
theorem dX10_number0_17 : decode cX10_number0 17 = .ok (.aload_n 0, 1) := by decide +kernel
theorem dX10_number0_18 : decode cX10_number0 18 = .ok (.iconst 1, 1) := by decide +kernel
theorem dX10_number0_19 : decode cX10_number0 19 = .ok (.invokevirtual 259, 3) := by decide +kernel
theorem dX10_number0_22 : decode cX10_number0 22 = .ok (.goto 32, 3) := by decide +kernel
theorem dX10_number0_25 : decode cX10_number0 25 = .ok (.aload_n 0, 1) := by decide +kernel
theorem dX10_number0_26 : decode cX10_number0 26 = .ok (.getfield 236, 3) := by decide +kernel
theorem dX10_number0_29 : decode cX10_number0 29 = .ok (.iconst 4, 1) := by decide +kernel
theorem dX10_number0_30 : decode cX10_number0 30 = .ok (.if_icmp .gt 19, 3) := by decide +kernel
theorem dX10_number0_33 : decode cX10_number0 33 = .ok (.aload_n 0, 1) := by decide +kernel
theorem dX10_number0_34 : decode cX10_number0 34 = .ok (.getfield 220, 3) := by decide +kernel
theorem dX10_number0_37 : decode cX10_number0 37 = .ok (.iload_n 1, 1) := by decide +kernel
theorem dX10_number0_38 : decode cX10_number0 38 = .ok (.if_icmp .lt 11, 3) := by decide +kernel
theorem dX10_number0_41 : decode cX10_number0 41 = .ok (.aload_n 0, 1) := by decide +kernel
theorem dX10_number0_42 : decode cX10_number0 42 = .ok (.getfield 220, 3) := by decide +kernel
theorem dX10_number0_45 : decode cX10_number0 45 = .ok (.iload_n 2, 1) := by decide +kernel
theorem dX10_number0_46 : decode cX10_number0 46 = .ok (.if_icmp .le 8, 3) := by decide +kernel
theorem dX10_number0_49 : decode cX10_number0 49 = .ok (.aload_n 0, 1) := by decide +kernel
theorem dX10_number0_50 : decode cX10_number0 50 = .ok (.iconst 2, 1) := by decide +kernel
theorem dX10_number0_51 : decode cX10_number0 51 = .ok (.invokevirtual 259, 3) := by decide +kernel
theorem dX10_number0_54 : decode cX10_number0 54 = .ok (.aload_n 0, 1) := by decide +kernel
theorem dX10_number0_55 : decode cX10_number0 55 = .ok (.getfield 220, 3) := by decide +kernel
theorem dX10_number0_58 : decode cX10_number0 58 = .ok (.istore_n 3, 1) := by decide +kernel
theorem dX10_number0_59 : decode cX10_number0 59 = .ok (.aload_n 0, 1) := by decide +kernel
theorem dX10_number0_60 : decode cX10_number0 60 = .ok (.invokevirtual 252, 3) := by decide +kernel
theorem dX10_number0_63 : decode cX10_number0 63 = .ok (.ifCond .eq 7, 3) := by decide +kernel
theorem dX10_number0_66 : decode cX10_number0 66 = .ok (.aload_n 0, 1) := by decide +kernel
theorem dX10_number0_67 : decode cX10_number0 67 = .ok (.invokevirtual 256, 3) := by decide +kernel
theorem dX10_number0_70 : decode cX10_number0 70 = .ok (.iload_n 3, 1) := by decide +kernel
theorem dX10_number0_71 : decode cX10_number0 71 = .ok (.ireturn, 1) := by decide +kernel

set_option maxHeartbeats 4000000 in
set_option maxRecDepth 100000 in
theorem c_number0 {m i : Nat} {T : RT} (lo hi : Nat) {n : Nat} {kd : mK} {I : mI} {J : mJ} {P : mP} (hM : kM kd P m) (hT : tkA T) (hA : rA m T I J i) : Ct yX10_number0 cX10_number0 4 (some .int) 5 0 0 [.ref m, .int (nI lo), .int (nI hi)] n kd I J P (fun z n' kd' I' J' P' => (∃ v, z = .inl (some (.int v)) ∧ (nuF T lo hi i = 0 → v = tkV T i)) ∧ n' = n ∧ kd' = kd ∧ P' = P ∧ nuFr m I I' J J' ∧ (¬ nuF T lo hi i = 0 → I' m 16 = nI (nuF T lo hi i) ∧ I' m 17 = nI (T.2.2.2.1 i)) ∧ (nuF T lo hi i = 0 → rA m T I' J' (i + 1))) := by
  refine ct_of 1 (by decide +kernel) (Nat.le_of_ble_eq_true rfl) rfl ?_
  have hsl := srt_lt (tkK T i)
  by_cases k2 : tkK T i = nI 2
  · have h21 : nI (srt (tkAt T i).1) = nI 2 := by rw [show (tkAt T i).1 = nI 2 from k2]; rfl
    have h23 : I m 23 = nI (tkL T i) := (hA.2.2.1.2.2.2.2.1 k2).1
    have hlb : tkL T i < 2 ^ 31 := by have := hT.2.2 i hA.2.2.2; have := hA.2.1.2.1; unfold tkL; omega
    by_cases l4 : 4 < tkL T i
    · have hnf : nuF T lo hi i = 2 := by unfold nuF; rw [if_neg (fun q => q k2), if_pos l4]
      refine r_aload_n dX10_number0_0 rfl ?_
      refine r_virtE (c_good m hM) lk_X10_252 mc_X10_isGood dX10_number0_1 (kM_0 hM) (by decide) rfl rfl (Nat.le_of_ble_eq_true rfl) ?_
      rw [hA.1, show decide (nI 0 = 0) = true from rfl]
      refine r_if_ne (tgt := 9) dX10_number0_4 (by decide) (fun _ => ?_) (fun hz => absurd hz (show ¬ _ from (by decide)))
      refine r_aload_n dX10_number0_9 rfl ?_
      refine r_getI dX10_number0_10 fl_X10_226 rfl (kM_0 hM) ?_
      rw [hA.2.2.1.2.2.2.1, h21]
      refine r_iconst (v := nI 2) dX10_number0_13 (by decide) ?_
      refine r_icmp_eq (tgt := 25) dX10_number0_14 (by decide) (fun _ => ?_) (fun hz => absurd (show _ from rfl) hz)
      refine r_aload_n dX10_number0_25 rfl ?_
      refine r_getI dX10_number0_26 fl_X10_236 rfl (kM_0 hM) ?_
      rw [h23]
      refine r_iconst (v := nI 4) dX10_number0_29 (by decide) ?_
      refine r_icmp_gt (tgt := 49) dX10_number0_30 (by decide) (fun _ => ?_) (fun hz => absurd (show _ from (by rw [nI_ltI (by omega) (by omega)]; omega)) hz)
      refine r_aload_n dX10_number0_49 rfl ?_
      refine r_iconst (v := nI 2) dX10_number0_50 (by decide) ?_
      refine r_virtV (c_wrong m (nI 2) hM) lk_X10_259 mc_X10_wrong dX10_number0_51 (kM_0 hM) (by decide) rfl rfl (Nat.le_of_ble_eq_true rfl) ?_
      have hB := hA.wrong (f := 2) (by decide) (by decide)
      refine r_aload_n dX10_number0_54 rfl ?_
      refine r_getI dX10_number0_55 fl_X10_220 rfl (kM_0 hM) ?_
      try simp (disch := omega) only [am_up_s, am_up_n, am_up_up]
      refine r_istore_n dX10_number0_58 (by decide) ?_
      refine r_aload_n dX10_number0_59 rfl ?_
      refine r_virtE (c_good m hM) lk_X10_252 mc_X10_isGood dX10_number0_60 (kM_0 hM) (by decide) rfl rfl (Nat.le_of_ble_eq_true rfl) ?_
      rw [hB.2.2]
      refine r_if_eq (tgt := 70) dX10_number0_63 (by decide) (fun _ => ?_) (fun hz => absurd (show _ from rfl) hz)
      refine r_iload_n dX10_number0_70 rfl ?_
      refine r_iret rfl dX10_number0_71 ?_
      rw [hnf]
      exact ⟨⟨_, rfl, fun q => absurd q (by decide)⟩, rfl, rfl, rfl, nuFr.wr, fun _ => ⟨hB.1, hB.2.1⟩, fun q => absurd q (by decide)⟩
    · have h24 : I m 24 = tkV T i := (hA.2.2.1.2.2.2.2.1 k2).2 (by show T.2.2.2.2.1 i - T.2.2.2.1 i ≤ 4; unfold tkL at l4; omega)
      by_cases vl : tkV T i < nI lo
      · have hnf : nuF T lo hi i = 2 := by unfold nuF; rw [if_neg (fun q => q k2), if_neg l4, if_pos (Or.inl vl)]
        refine r_aload_n dX10_number0_0 rfl ?_
        refine r_virtE (c_good m hM) lk_X10_252 mc_X10_isGood dX10_number0_1 (kM_0 hM) (by decide) rfl rfl (Nat.le_of_ble_eq_true rfl) ?_
        rw [hA.1, show decide (nI 0 = 0) = true from rfl]
        refine r_if_ne (tgt := 9) dX10_number0_4 (by decide) (fun _ => ?_) (fun hz => absurd hz (show ¬ _ from (by decide)))
        refine r_aload_n dX10_number0_9 rfl ?_
        refine r_getI dX10_number0_10 fl_X10_226 rfl (kM_0 hM) ?_
        rw [hA.2.2.1.2.2.2.1, h21]
        refine r_iconst (v := nI 2) dX10_number0_13 (by decide) ?_
        refine r_icmp_eq (tgt := 25) dX10_number0_14 (by decide) (fun _ => ?_) (fun hz => absurd (show _ from rfl) hz)
        refine r_aload_n dX10_number0_25 rfl ?_
        refine r_getI dX10_number0_26 fl_X10_236 rfl (kM_0 hM) ?_
        rw [h23]
        refine r_iconst (v := nI 4) dX10_number0_29 (by decide) ?_
        refine r_icmp_gt (tgt := 49) dX10_number0_30 (by decide) (fun hz => absurd hz (show ¬ _ from (by rw [nI_ltI (by omega) (by omega)]; omega))) (fun _ => ?_)
        refine r_aload_n dX10_number0_33 rfl ?_
        refine r_getI dX10_number0_34 fl_X10_220 rfl (kM_0 hM) ?_
        rw [h24]
        refine r_iload_n dX10_number0_37 rfl ?_
        refine r_icmp_lt (tgt := 49) dX10_number0_38 (by decide) (fun _ => ?_) (fun hz => absurd (show _ from vl) hz)
        refine r_aload_n dX10_number0_49 rfl ?_
        refine r_iconst (v := nI 2) dX10_number0_50 (by decide) ?_
        refine r_virtV (c_wrong m (nI 2) hM) lk_X10_259 mc_X10_wrong dX10_number0_51 (kM_0 hM) (by decide) rfl rfl (Nat.le_of_ble_eq_true rfl) ?_
        have hB := hA.wrong (f := 2) (by decide) (by decide)
        refine r_aload_n dX10_number0_54 rfl ?_
        refine r_getI dX10_number0_55 fl_X10_220 rfl (kM_0 hM) ?_
        try simp (disch := omega) only [am_up_s, am_up_n, am_up_up]
        refine r_istore_n dX10_number0_58 (by decide) ?_
        refine r_aload_n dX10_number0_59 rfl ?_
        refine r_virtE (c_good m hM) lk_X10_252 mc_X10_isGood dX10_number0_60 (kM_0 hM) (by decide) rfl rfl (Nat.le_of_ble_eq_true rfl) ?_
        rw [hB.2.2]
        refine r_if_eq (tgt := 70) dX10_number0_63 (by decide) (fun _ => ?_) (fun hz => absurd (show _ from rfl) hz)
        refine r_iload_n dX10_number0_70 rfl ?_
        refine r_iret rfl dX10_number0_71 ?_
        rw [hnf]
        exact ⟨⟨_, rfl, fun q => absurd q (by decide)⟩, rfl, rfl, rfl, nuFr.wr, fun _ => ⟨hB.1, hB.2.1⟩, fun q => absurd q (by decide)⟩
      · by_cases vh : nI hi < tkV T i
        · have hnf : nuF T lo hi i = 2 := by unfold nuF; rw [if_neg (fun q => q k2), if_neg l4, if_pos (Or.inr vh)]
          refine r_aload_n dX10_number0_0 rfl ?_
          refine r_virtE (c_good m hM) lk_X10_252 mc_X10_isGood dX10_number0_1 (kM_0 hM) (by decide) rfl rfl (Nat.le_of_ble_eq_true rfl) ?_
          rw [hA.1, show decide (nI 0 = 0) = true from rfl]
          refine r_if_ne (tgt := 9) dX10_number0_4 (by decide) (fun _ => ?_) (fun hz => absurd hz (show ¬ _ from (by decide)))
          refine r_aload_n dX10_number0_9 rfl ?_
          refine r_getI dX10_number0_10 fl_X10_226 rfl (kM_0 hM) ?_
          rw [hA.2.2.1.2.2.2.1, h21]
          refine r_iconst (v := nI 2) dX10_number0_13 (by decide) ?_
          refine r_icmp_eq (tgt := 25) dX10_number0_14 (by decide) (fun _ => ?_) (fun hz => absurd (show _ from rfl) hz)
          refine r_aload_n dX10_number0_25 rfl ?_
          refine r_getI dX10_number0_26 fl_X10_236 rfl (kM_0 hM) ?_
          rw [h23]
          refine r_iconst (v := nI 4) dX10_number0_29 (by decide) ?_
          refine r_icmp_gt (tgt := 49) dX10_number0_30 (by decide) (fun hz => absurd hz (show ¬ _ from (by rw [nI_ltI (by omega) (by omega)]; omega))) (fun _ => ?_)
          refine r_aload_n dX10_number0_33 rfl ?_
          refine r_getI dX10_number0_34 fl_X10_220 rfl (kM_0 hM) ?_
          rw [h24]
          refine r_iload_n dX10_number0_37 rfl ?_
          refine r_icmp_lt (tgt := 49) dX10_number0_38 (by decide) (fun hz => absurd hz (show ¬ _ from vl)) (fun _ => ?_)
          refine r_aload_n dX10_number0_41 rfl ?_
          refine r_getI dX10_number0_42 fl_X10_220 rfl (kM_0 hM) ?_
          rw [h24]
          refine r_iload_n dX10_number0_45 rfl ?_
          refine r_icmp_le (tgt := 54) dX10_number0_46 (by decide) (fun hz => absurd hz (show ¬ _ from (Int32.not_le.mpr vh))) (fun _ => ?_)
          refine r_aload_n dX10_number0_49 rfl ?_
          refine r_iconst (v := nI 2) dX10_number0_50 (by decide) ?_
          refine r_virtV (c_wrong m (nI 2) hM) lk_X10_259 mc_X10_wrong dX10_number0_51 (kM_0 hM) (by decide) rfl rfl (Nat.le_of_ble_eq_true rfl) ?_
          have hB := hA.wrong (f := 2) (by decide) (by decide)
          refine r_aload_n dX10_number0_54 rfl ?_
          refine r_getI dX10_number0_55 fl_X10_220 rfl (kM_0 hM) ?_
          try simp (disch := omega) only [am_up_s, am_up_n, am_up_up]
          refine r_istore_n dX10_number0_58 (by decide) ?_
          refine r_aload_n dX10_number0_59 rfl ?_
          refine r_virtE (c_good m hM) lk_X10_252 mc_X10_isGood dX10_number0_60 (kM_0 hM) (by decide) rfl rfl (Nat.le_of_ble_eq_true rfl) ?_
          rw [hB.2.2]
          refine r_if_eq (tgt := 70) dX10_number0_63 (by decide) (fun _ => ?_) (fun hz => absurd (show _ from rfl) hz)
          refine r_iload_n dX10_number0_70 rfl ?_
          refine r_iret rfl dX10_number0_71 ?_
          rw [hnf]
          exact ⟨⟨_, rfl, fun q => absurd q (by decide)⟩, rfl, rfl, rfl, nuFr.wr, fun _ => ⟨hB.1, hB.2.1⟩, fun q => absurd q (by decide)⟩
        · have hnf : nuF T lo hi i = 0 := by unfold nuF; rw [if_neg (fun q => q k2), if_neg l4, if_neg (fun q => q.elim vl vh)]
          have hi2 : i + 1 < T.2.1 := hT.1.2.1 i (by rw [k2]; decide)
          refine r_aload_n dX10_number0_0 rfl ?_
          refine r_virtE (c_good m hM) lk_X10_252 mc_X10_isGood dX10_number0_1 (kM_0 hM) (by decide) rfl rfl (Nat.le_of_ble_eq_true rfl) ?_
          rw [hA.1, show decide (nI 0 = 0) = true from rfl]
          refine r_if_ne (tgt := 9) dX10_number0_4 (by decide) (fun _ => ?_) (fun hz => absurd hz (show ¬ _ from (by decide)))
          refine r_aload_n dX10_number0_9 rfl ?_
          refine r_getI dX10_number0_10 fl_X10_226 rfl (kM_0 hM) ?_
          rw [hA.2.2.1.2.2.2.1, h21]
          refine r_iconst (v := nI 2) dX10_number0_13 (by decide) ?_
          refine r_icmp_eq (tgt := 25) dX10_number0_14 (by decide) (fun _ => ?_) (fun hz => absurd (show _ from rfl) hz)
          refine r_aload_n dX10_number0_25 rfl ?_
          refine r_getI dX10_number0_26 fl_X10_236 rfl (kM_0 hM) ?_
          rw [h23]
          refine r_iconst (v := nI 4) dX10_number0_29 (by decide) ?_
          refine r_icmp_gt (tgt := 49) dX10_number0_30 (by decide) (fun hz => absurd hz (show ¬ _ from (by rw [nI_ltI (by omega) (by omega)]; omega))) (fun _ => ?_)
          refine r_aload_n dX10_number0_33 rfl ?_
          refine r_getI dX10_number0_34 fl_X10_220 rfl (kM_0 hM) ?_
          rw [h24]
          refine r_iload_n dX10_number0_37 rfl ?_
          refine r_icmp_lt (tgt := 49) dX10_number0_38 (by decide) (fun hz => absurd hz (show ¬ _ from vl)) (fun _ => ?_)
          refine r_aload_n dX10_number0_41 rfl ?_
          refine r_getI dX10_number0_42 fl_X10_220 rfl (kM_0 hM) ?_
          rw [h24]
          refine r_iload_n dX10_number0_45 rfl ?_
          refine r_icmp_le (tgt := 54) dX10_number0_46 (by decide) (fun _ => ?_) (fun hz => absurd (show _ from (Int32.not_lt.mp vh)) hz)
          refine r_aload_n dX10_number0_54 rfl ?_
          refine r_getI dX10_number0_55 fl_X10_220 rfl (kM_0 hM) ?_
          rw [h24]
          refine r_istore_n dX10_number0_58 (by decide) ?_
          refine r_aload_n dX10_number0_59 rfl ?_
          refine r_virtE (c_good m hM) lk_X10_252 mc_X10_isGood dX10_number0_60 (kM_0 hM) (by decide) rfl rfl (Nat.le_of_ble_eq_true rfl) ?_
          rw [hA.1, show decide (nI 0 = 0) = true from rfl]
          refine r_if_eq (tgt := 70) dX10_number0_63 (by decide) (fun hz => absurd hz (show ¬ _ from (by decide))) (fun _ => ?_)
          refine r_aload_n dX10_number0_66 rfl ?_
          refine r_virt (kc2 := 0) (ks2 := 0) (c_goesT m i hM hT hA.2.1 hA.2.2.1 hi2) lk_X10_256 mc_X10_goes dX10_number0_67 (kM_0 hM) (by decide) rfl rfl (Nat.le_of_ble_eq_true rfl) (by decide) (by decide) (fun _ _ _ _ _ _ h => nomatch h.1) ?_
          rintro v8 n8 kd8 I8 J8 P8 ⟨h00, rfl, rfl, rfl, hf8, hk8⟩
          cases h00
          simp only [Option.toList, List.nil_append]
          refine r_iload_n dX10_number0_70 rfl ?_
          refine r_iret rfl dX10_number0_71 ?_
          rw [hnf]
          exact ⟨⟨_, rfl, fun _ => rfl⟩, rfl, rfl, rfl, nuFr.g hf8, fun q => absurd rfl q, fun _ => hA.go hf8 hk8 hi2⟩
  · have hnf : nuF T lo hi i = 1 := by unfold nuF; rw [if_pos k2]
    refine r_aload_n dX10_number0_0 rfl ?_
    refine r_virtE (c_good m hM) lk_X10_252 mc_X10_isGood dX10_number0_1 (kM_0 hM) (by decide) rfl rfl (Nat.le_of_ble_eq_true rfl) ?_
    rw [hA.1, show decide (nI 0 = 0) = true from rfl]
    refine r_if_ne (tgt := 9) dX10_number0_4 (by decide) (fun _ => ?_) (fun hz => absurd hz (show ¬ _ from (by decide)))
    refine r_aload_n dX10_number0_9 rfl ?_
    refine r_getI dX10_number0_10 fl_X10_226 rfl (kM_0 hM) ?_
    rw [hA.2.2.1.2.2.2.1]
    refine r_iconst (v := nI 2) dX10_number0_13 (by decide) ?_
    refine r_icmp_eq (tgt := 25) dX10_number0_14 (by decide) (fun hz => absurd hz (show ¬ _ from (fun z => k2 (srt_2 ((nI_eq (Nat.lt_trans hsl (by decide)) (by decide)).mp z))))) (fun _ => ?_)
    refine r_aload_n dX10_number0_17 rfl ?_
    refine r_iconst (v := nI 1) dX10_number0_18 (by decide) ?_
    refine r_virtV (c_wrong m (nI 1) hM) lk_X10_259 mc_X10_wrong dX10_number0_19 (kM_0 hM) (by decide) rfl rfl (Nat.le_of_ble_eq_true rfl) ?_
    have hB := hA.wrong (f := 1) (by decide) (by decide)
    refine r_goto (tgt := 54) dX10_number0_22 (by decide) ?_
    refine r_aload_n dX10_number0_54 rfl ?_
    refine r_getI dX10_number0_55 fl_X10_220 rfl (kM_0 hM) ?_
    try simp (disch := omega) only [am_up_s, am_up_n, am_up_up]
    refine r_istore_n dX10_number0_58 (by decide) ?_
    refine r_aload_n dX10_number0_59 rfl ?_
    refine r_virtE (c_good m hM) lk_X10_252 mc_X10_isGood dX10_number0_60 (kM_0 hM) (by decide) rfl rfl (Nat.le_of_ble_eq_true rfl) ?_
    rw [hB.2.2]
    refine r_if_eq (tgt := 70) dX10_number0_63 (by decide) (fun _ => ?_) (fun hz => absurd (show _ from rfl) hz)
    refine r_iload_n dX10_number0_70 rfl ?_
    refine r_iret rfl dX10_number0_71 ?_
    rw [hnf]
    exact ⟨⟨_, rfl, fun q => absurd q (by decide)⟩, rfl, rfl, rfl, nuFr.wr, fun _ => ⟨hB.1, hB.2.1⟩, fun q => absurd q (by decide)⟩

theorem dX10_perhaps_0 : decode cX10_perhaps 0 = .ok (.aload_n 0, 1) := by decide +kernel
theorem dX10_perhaps_1 : decode cX10_perhaps 1 = .ok (.invokevirtual 252, 3) := by decide +kernel
theorem dX10_perhaps_4 : decode cX10_perhaps 4 = .ok (.ifCond .eq 21, 3) := by decide +kernel
theorem dX10_perhaps_7 : decode cX10_perhaps 7 = .ok (.aload_n 0, 1) := by decide +kernel
theorem dX10_perhaps_8 : decode cX10_perhaps 8 = .ok (.getfield 226, 3) := by decide +kernel
theorem dX10_perhaps_11 : decode cX10_perhaps 11 = .ok (.iconst 2, 1) := by decide +kernel
theorem dX10_perhaps_12 : decode cX10_perhaps 12 = .ok (.if_icmp .ne 13, 3) := by decide +kernel
theorem dX10_perhaps_15 : decode cX10_perhaps 15 = .ok (.aload_n 0, 1) := by decide +kernel
theorem dX10_perhaps_16 : decode cX10_perhaps 16 = .ok (.iconst 0, 1) := by decide +kernel
theorem dX10_perhaps_17 : decode cX10_perhaps 17 = .ok (.bipush 99, 2) := by decide +kernel
theorem dX10_perhaps_19 : decode cX10_perhaps 19 = .ok (.invokevirtual 317, 3) := by decide +kernel
theorem dX10_perhaps_22 : decode cX10_perhaps 22 = .ok (.goto 4, 3) := by decide +kernel
theorem dX10_perhaps_25 : decode cX10_perhaps 25 = .ok (.iconst (-1), 1) := by decide +kernel
theorem dX10_perhaps_26 : decode cX10_perhaps 26 = .ok (.ireturn, 1) := by decide +kernel

set_option maxHeartbeats 4000000 in
set_option maxRecDepth 100000 in
theorem c_perh1 {m i : Nat} {T : RT} {n : Nat} {kd : mK} {I : mI} {J : mJ} {P : mP} (hM : kM kd P m) (hT : tkA T) (hA : rA m T I J i) (k2 : tkK T i = nI 2) : Ct yX10_perhaps cX10_perhaps 1 (some .int) 6 0 0 [.ref m] n kd I J P (fun z n' kd' I' J' P' => (∃ v, z = .inl (some (.int v)) ∧ (nuF T 0 99 i = 0 → v = tkV T i)) ∧ n' = n ∧ kd' = kd ∧ P' = P ∧ nuFr m I I' J J' ∧ (¬ nuF T 0 99 i = 0 → I' m 16 = nI (nuF T 0 99 i) ∧ I' m 17 = nI (T.2.2.2.1 i)) ∧ (nuF T 0 99 i = 0 → rA m T I' J' (i + 1))) := by
  refine ct_of 0 (by decide +kernel) (Nat.le_of_ble_eq_true rfl) rfl ?_
  refine r_aload_n dX10_perhaps_0 rfl ?_
  refine r_virtE (c_good m hM) lk_X10_252 mc_X10_isGood dX10_perhaps_1 (kM_0 hM) (by decide) rfl rfl (Nat.le_of_ble_eq_true rfl) ?_
  rw [hA.1, show decide (nI 0 = 0) = true from rfl]
  refine r_if_eq (tgt := 25) dX10_perhaps_4 (by decide) (fun hz => absurd hz (show ¬ _ from (by decide))) (fun _ => ?_)
  refine r_aload_n dX10_perhaps_7 rfl ?_
  refine r_getI dX10_perhaps_8 fl_X10_226 rfl (kM_0 hM) ?_
  rw [hA.2.2.1.2.2.2.1, show (tkAt T i).1 = nI 2 from k2, show srt (nI 2) = 2 from rfl]
  refine r_iconst (v := nI 2) dX10_perhaps_11 (by decide) ?_
  refine r_icmp_ne (tgt := 25) dX10_perhaps_12 (by decide) (fun hz => absurd (show _ from rfl) hz) (fun _ => ?_)
  refine r_aload_n dX10_perhaps_15 rfl ?_
  refine r_iconst (v := nI 0) dX10_perhaps_16 (by decide) ?_
  refine r_bipush (v := nI 99) dX10_perhaps_17 (by decide) ?_
  refine r_virt (kc2 := 0) (ks2 := 0) (c_number0 0 99 hM hT hA) lk_X10_317 mc_X10_number0 dX10_perhaps_19 (kM_0 hM) (by decide) rfl rfl (Nat.le_of_ble_eq_true rfl) (by decide) (by decide) (fun _ _ _ _ _ _ h => nomatch h.1.choose_spec.1) ?_
  rintro v1 n1 kd1 I1 J1 P1 ⟨⟨w, h00, hv⟩, rfl, rfl, rfl, hf1, hy1, hn1⟩
  cases h00
  simp only [Option.toList, List.nil_append, List.cons_append]
  refine r_goto (tgt := 26) dX10_perhaps_22 (by decide) ?_
  refine r_iret rfl dX10_perhaps_26 ?_
  exact ⟨⟨w, rfl, hv⟩, rfl, rfl, rfl, hf1, hy1, hn1⟩

set_option maxHeartbeats 4000000 in
set_option maxRecDepth 100000 in
theorem c_perh0 {m i : Nat} {T : RT} {n : Nat} {kd : mK} {I : mI} {J : mJ} {P : mP} (hM : kM kd P m) (hA : rA m T I J i) (k2 : ¬ tkK T i = nI 2) : Ct yX10_perhaps cX10_perhaps 1 (some .int) 6 0 0 [.ref m] n kd I J P (am_is (some (.int (-1))) n kd I J P) := by
  have hsl := srt_lt (tkK T i)
  refine ct_of 0 (by decide +kernel) (Nat.le_of_ble_eq_true rfl) rfl ?_
  refine r_aload_n dX10_perhaps_0 rfl ?_
  refine r_virtE (c_good m hM) lk_X10_252 mc_X10_isGood dX10_perhaps_1 (kM_0 hM) (by decide) rfl rfl (Nat.le_of_ble_eq_true rfl) ?_
  rw [hA.1, show decide (nI 0 = 0) = true from rfl]
  refine r_if_eq (tgt := 25) dX10_perhaps_4 (by decide) (fun hz => absurd hz (show ¬ _ from (by decide))) (fun _ => ?_)
  refine r_aload_n dX10_perhaps_7 rfl ?_
  refine r_getI dX10_perhaps_8 fl_X10_226 rfl (kM_0 hM) ?_
  rw [hA.2.2.1.2.2.2.1]
  refine r_iconst (v := nI 2) dX10_perhaps_11 (by decide) ?_
  refine r_icmp_ne (tgt := 25) dX10_perhaps_12 (by decide) (fun _ => ?_) (fun hz => absurd hz (show ¬ _ from (fun z => k2 (srt_2 ((nI_eq (Nat.lt_trans hsl (by decide)) (by decide)).mp z)))))
  refine r_iconst (v := (-1)) dX10_perhaps_25 (by decide) ?_
  refine r_iret rfl dX10_perhaps_26 ?_
  exact am_is.mk

set_option maxHeartbeats 4000000 in
set_option maxRecDepth 100000 in
theorem c_perhB {m : Nat} {n : Nat} {kd : mK} {I : mI} {J : mJ} {P : mP} (hM : kM kd P m) (hB : decide (I m 16 = 0) = false) : Ct yX10_perhaps cX10_perhaps 1 (some .int) 6 0 0 [.ref m] n kd I J P (am_is (some (.int (-1))) n kd I J P) := by
  refine ct_of 0 (by decide +kernel) (Nat.le_of_ble_eq_true rfl) rfl ?_
  refine r_aload_n dX10_perhaps_0 rfl ?_
  refine r_virtE (c_good m hM) lk_X10_252 mc_X10_isGood dX10_perhaps_1 (kM_0 hM) (by decide) rfl rfl (Nat.le_of_ble_eq_true rfl) ?_
  rw [hB]
  refine r_if_eq (tgt := 25) dX10_perhaps_4 (by decide) (fun _ => ?_) (fun hz => absurd (show _ from rfl) hz)
  refine r_iconst (v := (-1)) dX10_perhaps_25 (by decide) ?_
  refine r_iret rfl dX10_perhaps_26 ?_
  exact am_is.mk

theorem dX10_need_0 : decode cX10_need 0 = .ok (.aload_n 0, 1) := by decide +kernel
theorem dX10_need_1 : decode cX10_need 1 = .ok (.invokevirtual 252, 3) := by decide +kernel
theorem dX10_need_4 : decode cX10_need 4 = .ok (.ifCond .ne 4, 3) := by decide +kernel
theorem dX10_need_7 : decode cX10_need 7 = .ok (.return_, 1) := by decide +kernel
theorem dX10_need_8 : decode cX10_need 8 = .ok (.iload_n 1, 1) := by decide +kernel
theorem dX10_need_9 : decode cX10_need 9 = .ok (.ifCond .eq 10, 3) := by decide +kernel
theorem dX10_need_12 : decode cX10_need 12 = .ok (.aload_n 0, 1) := by decide +kernel
theorem dX10_need_13 : decode cX10_need 13 = .ok (.invokevirtual 256, 3) := by decide +kernel
theorem dX10_need_16 : decode cX10_need 16 = .ok (.goto 8, 3) := by decide +kernel
theorem dX10_need_19 : decode cX10_need 19 = .ok (.aload_n 0, 1) := by decide +kernel
theorem dX10_need_20 : decode cX10_need 20 = .ok (.iconst 1, 1) := by decide +kernel
theorem dX10_need_21 : decode cX10_need 21 = .ok (.invokevirtual 259, 3) := by decide +kernel
theorem dX10_need_24 : decode cX10_need 24 = .ok (.return_, 1) := by decide +kernel

set_option maxHeartbeats 4000000 in
set_option maxRecDepth 100000 in
theorem c_needB {m : Nat} (x : Int32) {n : Nat} {kd : mK} {I : mI} {J : mJ} {P : mP} (hM : kM kd P m) (hB : decide (I m 16 = 0) = false) : Ct yX10_need cX10_need 2 none 4 0 0 [.ref m, .int x] n kd I J P (am_is none n kd I J P) := by
  refine ct_of 0 (by decide +kernel) (Nat.le_of_ble_eq_true rfl) rfl ?_
  refine r_aload_n dX10_need_0 rfl ?_
  refine r_virtE (c_good m hM) lk_X10_252 mc_X10_isGood dX10_need_1 (kM_0 hM) (by decide) rfl rfl (Nat.le_of_ble_eq_true rfl) ?_
  rw [hB]
  refine r_if_ne (tgt := 8) dX10_need_4 (by decide) (fun hz => absurd (show _ from rfl) hz) (fun _ => ?_)
  refine r_vret rfl dX10_need_7 ?_
  exact am_is.mk

set_option maxHeartbeats 4000000 in
set_option maxRecDepth 100000 in
theorem c_needN {m i : Nat} {T : RT} {n : Nat} {kd : mK} {I : mI} {J : mJ} {P : mP} (hM : kM kd P m) (hA : rA m T I J i) : Ct yX10_need cX10_need 2 none 4 0 0 [.ref m, .int (nI 0)] n kd I J P (am_is none n kd (wrI m (nI 1) I) J P) := by
  refine ct_of 0 (by decide +kernel) (Nat.le_of_ble_eq_true rfl) rfl ?_
  refine r_aload_n dX10_need_0 rfl ?_
  refine r_virtE (c_good m hM) lk_X10_252 mc_X10_isGood dX10_need_1 (kM_0 hM) (by decide) rfl rfl (Nat.le_of_ble_eq_true rfl) ?_
  rw [hA.1, show decide (nI 0 = 0) = true from rfl]
  refine r_if_ne (tgt := 8) dX10_need_4 (by decide) (fun _ => ?_) (fun hz => absurd hz (show ¬ _ from (by decide)))
  refine r_iload_n dX10_need_8 rfl ?_
  refine r_if_eq (tgt := 19) dX10_need_9 (by decide) (fun _ => ?_) (fun hz => absurd (show _ from (by decide)) hz)
  refine r_aload_n dX10_need_19 rfl ?_
  refine r_iconst (v := nI 1) dX10_need_20 (by decide) ?_
  refine r_virtV (c_wrong m (nI 1) hM) lk_X10_259 mc_X10_wrong dX10_need_21 (kM_0 hM) (by decide) rfl rfl (Nat.le_of_ble_eq_true rfl) ?_
  refine r_vret rfl dX10_need_24 ?_
  exact am_is.mk

set_option maxHeartbeats 4000000 in
set_option maxRecDepth 100000 in
theorem c_needY {m i : Nat} {T : RT} {n : Nat} {kd : mK} {I : mI} {J : mJ} {P : mP} (hM : kM kd P m) (hT : tkA T) (hA : rA m T I J i) (hi2 : i + 1 < T.2.1) : Ct yX10_need cX10_need 2 none 4 0 0 [.ref m, .int (nI 1)] n kd I J P (fun z n' kd' I' J' P' => z = .inl none ∧ n' = n ∧ kd' = kd ∧ P' = P ∧ gFr m I I' J J' ∧ rA m T I' J' (i + 1)) := by
  refine ct_of 0 (by decide +kernel) (Nat.le_of_ble_eq_true rfl) rfl ?_
  refine r_aload_n dX10_need_0 rfl ?_
  refine r_virtE (c_good m hM) lk_X10_252 mc_X10_isGood dX10_need_1 (kM_0 hM) (by decide) rfl rfl (Nat.le_of_ble_eq_true rfl) ?_
  rw [hA.1, show decide (nI 0 = 0) = true from rfl]
  refine r_if_ne (tgt := 8) dX10_need_4 (by decide) (fun _ => ?_) (fun hz => absurd hz (show ¬ _ from (by decide)))
  refine r_iload_n dX10_need_8 rfl ?_
  refine r_if_eq (tgt := 19) dX10_need_9 (by decide) (fun hz => absurd hz (show ¬ _ from (by decide))) (fun _ => ?_)
  refine r_aload_n dX10_need_12 rfl ?_
  refine r_virt (kc2 := 0) (ks2 := 0) (c_goesT m i hM hT hA.2.1 hA.2.2.1 hi2) lk_X10_256 mc_X10_goes dX10_need_13 (kM_0 hM) (by decide) rfl rfl (Nat.le_of_ble_eq_true rfl) (by decide) (by decide) (fun _ _ _ _ _ _ h => nomatch h.1) ?_
  rintro v8 n8 kd8 I8 J8 P8 ⟨h00, rfl, rfl, rfl, hf8, hk8⟩
  cases h00
  simp only [Option.toList, List.nil_append]
  refine r_goto (tgt := 24) dX10_need_16 (by decide) ?_
  refine r_vret rfl dX10_need_24 ?_
  exact ⟨rfl, rfl, rfl, rfl, hf8, hA.go hf8 hk8 hi2⟩

