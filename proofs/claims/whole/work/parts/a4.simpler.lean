/-! SMALL PUBLIC METHODS OF THE REFERENCE, on any state -/
def pQ (m n : Nat) (kd : mK) (I : mI) (J : mJ) (P : mP) (v : Option Value) (k : Nat) (C : mK → mI → mP → Prop) : am_Post := fun y n' kd' I' J' P' => y = .inl v ∧ n' = n ∧ kd' = kd ∧ P' = P ∧ (∀ a, (a < m ∨ m + 55 < a) → I' a = I a ∧ J' a = J a) ∧ I' m 0 = nI k ∧ C kd' I' P'
def RX (m t : Nat) (T : Nat → Nat) (fp : Int32) (rr : Nat → Int32) (H M : Nat) (un : Bool) (cs : Nat → List Nat) (tx : Nat → List Int32) (e : Lf) (im : Option Lf) (wk : Option (List Nat)) : mK → mI → mP → Prop := fun kd I P => RR m kd I P t T fp rr H M un cs tx e im wk
theorem RR.up {m t : Nat} {kd : mK} {I I' : mI} {P : mP} {T : Nat → Nat} {fp : Int32} {rr : Nat → Int32} {H M : Nat} {un : Bool} {cs : Nat → List Nat} {tx : Nat → List Int32} {e e' : Lf} {im : Option Lf} {wk : Option (List Nat)} (hf : ∀ a, m < a → a ≤ m + 55 → a ≠ m + 1 → a ≠ m + 2 → a ≠ m + 4 → (a < m + 13 ∨ m + 36 < a) → (a < m + 38 ∨ m + 50 < a) → I' a = I a) (h0 : ∀ j, j = 1 ∨ j = 2 ∨ j = 3 ∨ j = 15 ∨ j = 17 ∨ j = 54 ∨ j = 58 ∨ j = 74 ∨ j = 90 ∨ j = 91 ∨ j = 92 → I' m j = I m j) (hL : rL I' m H e') (hC : RR m kd I P t T fp rr H M un cs tx e im wk) : RR m kd I' P t T fp rr H M un cs tx e' im wk := by
  obtain ⟨hM, h1, h2, h3, h4, h5⟩ := hC
  exact ⟨hM, h1.cg (h0 _ (by omega)) (h0 _ (by omega)) (hf _ (by omega) (by omega) (by omega) (by omega) (by omega) (by omega) (by omega)) (hf _ (by omega) (by omega) (by omega) (by omega) (by omega) (by omega) (by omega)), h2.cg (fun j hj => h0 j (by omega)) (fun a ha => hf a (by omega) (by omega) (by omega) (by omega) (by omega) (by omega) (by omega)), hL, h4.cg (h0 _ (by omega)) (h0 _ (by omega)) (h0 _ (by omega)) (fun a x y => hf a (by omega) (by omega) (by omega) (by omega) (by omega) (by omega) (by omega)), h5.cg (h0 _ (by omega)) (hf _ (by omega) (by omega) (by omega) (by omega) (by omega) (by omega) (by omega))⟩
theorem RR.th {m t : Nat} {kd : mK} {I : mI} {P : mP} {T : Nat → Nat} {fp : Int32} {rr : Nat → Int32} {H M : Nat} {un : Bool} {cs : Nat → List Nat} {tx : Nat → List Int32} {e : Lf} {im : Option Lf} {wk : Option (List Nat)} {x : Int32} (hC : RR m kd I P t T fp rr H M un cs tx e im wk) : RR m kd (va_up I m (va_up (I m) 0 x)) P t T fp rr H M un cs tx e im wk :=
  RR.up (fun a a1 a2 a3 a4 a5 a6 a7 => am_up_n _ _ (by omega)) (fun j hj => by rw [am_up_s, am_up_n _ _ (by omega)]) (rLx.cg (am_up_n _ _ (by omega)) (am_up_n _ _ (by omega)) (am_up_n _ _ (by omega)) (am_up_n _ _ (by omega)) (am_up_n _ _ (by omega)) (by rw [am_up_s, am_up_n _ _ (by decide)]) (by rw [am_up_s, am_up_n _ _ (by decide)]) hC.2.2.2.1) hC
theorem pQ.th {m n n' t : Nat} {kd kd' : mK} {I I' : mI} {J J' : mJ} {P P' : mP} {T : Nat → Nat} {fp : Int32} {rr : Nat → Int32} {H M : Nat} {un : Bool} {cs : Nat → List Nat} {tx : Nat → List Int32} {e : Lf} {im : Option Lf} {wk : Option (List Nat)} {v : Option Value} {k : Nat} {y : Option Value ⊕ String} (hC : RR m kd I P t T fp rr H M un cs tx e im wk) (h : am_is v n kd (va_up I m (va_up (I m) 0 (nI k))) J P y n' kd' I' J' P') : pQ m n kd I J P v k (RX m t T fp rr H M un cs tx e im wk) y n' kd' I' J' P' := by
  obtain ⟨rfl, rfl, rfl, rfl, rfl, rfl⟩ := h
  exact ⟨rfl, rfl, rfl, rfl, fun a ha => ⟨am_up_n _ _ (by omega), rfl⟩, by rw [am_up_s, am_up_s], hC.th⟩
theorem RR.ref {m t : Nat} {kd : mK} {I : mI} {P : mP} {T : Nat → Nat} {fp : Int32} {rr : Nat → Int32} {H M : Nat} {un : Bool} {cs : Nat → List Nat} {tx : Nat → List Int32} {e : Lf} {im : Option Lf} {wk : Option (List Nat)} {k : Nat} (hk : k < 3) (hC : RR m kd I P t T fp rr H M un cs tx e im wk) : RR m kd (va_up I (m + 12) (va_up (I (m + 12)) k (I (m + 12) k + nI 1))) P t T fp (va_up rr k (rr k + nI 1)) H M un cs tx e im wk := by
  obtain ⟨hM, ⟨t1, t2, t3, t4⟩, h2, h3, h4, h5⟩ := hC
  refine ⟨hM, ⟨by rw [am_up_n _ _ (by omega)]; exact t1, by rw [am_up_n _ _ (by omega)]; exact t2, by rw [am_up_n _ _ (by omega)]; exact t3, fun j hj => ?_⟩, h2.cg (fun j _ => by rw [am_up_n _ _ (by omega)]) (fun a ha => am_up_n _ _ (by omega)), rLx.cg (am_up_n _ _ (by omega)) (am_up_n _ _ (by omega)) (am_up_n _ _ (by omega)) (am_up_n _ _ (by omega)) (am_up_n _ _ (by omega)) (by rw [am_up_n _ _ (by omega)]) (by rw [am_up_n _ _ (by omega)]) h3, h4.cg (by rw [am_up_n _ _ (by omega)]) (by rw [am_up_n _ _ (by omega)]) (by rw [am_up_n _ _ (by omega)]) (fun a x y => am_up_n _ _ (by omega)), h5.cg (by rw [am_up_n _ _ (by omega)]) (am_up_n _ _ (by omega))⟩
  rw [am_up_s]
  by_cases q : j = k
  · rw [q, am_up_s, am_up_s, t4 k hk]
  · rw [am_up_n _ _ q, am_up_n _ _ q]; exact t4 j hj
def turnM (I : mI) (m k h : Nat) (v : Int32) : mI := if k = 0 then va_up I (m + 1) (va_up (I (m + 1)) h v) else if k = 1 then va_up I (m + 2) (va_up (I (m + 2)) h v) else va_up I (m + 4) (va_up (I (m + 4)) h v)
def turnV (I : mI) (m k h : Nat) : Int32 := if k = 0 then I (m + 1) h else if k = 1 then I (m + 2) h else I (m + 4) h
theorem turn_v {I : mI} {m H : Nat} {e : Lf} {k h : Nat} (hh : h < H) (hL : rL I m H e) : turnV I m k h = nI (hadE e k h) := by
  have h1 := hL.1 h hh
  unfold turnV hadE
  split
  · exact h1.1
  split
  · exact h1.2.1
  · rw [h1.2.2]; cases e.2.2.1 h <;> rfl
theorem turn_fr {I : mI} {m k h : Nat} {v : Int32} {x : Nat} (h1 : x ≠ m + 1) (h2 : x ≠ m + 2) (h4 : x ≠ m + 4) : turnM I m k h v x = I x := by
  unfold turnM
  split
  · exact am_up_n _ _ h1
  split
  · exact am_up_n _ _ h2
  · exact am_up_n _ _ h4
theorem rL_turn {I : mI} {m H : Nat} {e : Lf} {k h v : Nat} (h2 : ¬ k = 0 → ¬ k = 1 → v ≤ 1) (hL : rL I m H e) : rL (turnM I m k h (nI v)) m H (putE e k h v) := by
  obtain ⟨h1, ha, hl⟩ := hL
  unfold turnM putE
  split
  · refine ⟨fun j hj => ⟨?_, by rw [am_up_n _ _ (by omega)]; exact (h1 j hj).2.1, by rw [am_up_n _ _ (by omega)]; exact (h1 j hj).2.2⟩, by rw [am_up_n _ _ (by omega), am_up_n _ _ (by omega)]; exact ha, by rw [am_up_n _ _ (by omega), am_up_n _ _ (by omega)]; exact hl⟩
    rw [am_up_s]
    show _ = nI (if j = h then v else e.1 j)
    by_cases q : j = h
    · rw [if_pos q, q, am_up_s]
    · rw [if_neg q, am_up_n _ _ q]; exact (h1 j hj).1
  split
  · refine ⟨fun j hj => ⟨by rw [am_up_n _ _ (by omega)]; exact (h1 j hj).1, ?_, by rw [am_up_n _ _ (by omega)]; exact (h1 j hj).2.2⟩, by rw [am_up_n _ _ (by omega), am_up_n _ _ (by omega)]; exact ha, by rw [am_up_n _ _ (by omega), am_up_n _ _ (by omega)]; exact hl⟩
    rw [am_up_s]
    show _ = nI (if j = h then v else e.2.1 j)
    by_cases q : j = h
    · rw [if_pos q, q, am_up_s]
    · rw [if_neg q, am_up_n _ _ q]; exact (h1 j hj).2.1
  · rename_i q0 q1
    refine ⟨fun j hj => ⟨by rw [am_up_n _ _ (by omega)]; exact (h1 j hj).1, by rw [am_up_n _ _ (by omega)]; exact (h1 j hj).2.1, ?_⟩, by rw [am_up_n _ _ (by omega), am_up_n _ _ (by omega)]; exact ha, by rw [am_up_n _ _ (by omega), am_up_n _ _ (by omega)]; exact hl⟩
    rw [am_up_s]
    show _ = bz (if j = h then decide (v = 1) else e.2.2.1 j)
    by_cases q : j = h
    · rw [if_pos q, q, am_up_s]
      rcases (show v = 0 ∨ v = 1 by have := h2 q0 q1; omega) with r | r <;> rw [r] <;> rfl
    · rw [if_neg q, am_up_n _ _ q]; exact (h1 j hj).2.2
theorem rL_setA {I I' : mI} {m H : Nat} {e : Lf} {A : List (Nat × Nat × Nat)} (h0 : ∀ a, a = m + 1 ∨ a = m + 2 ∨ a = m + 4 ∨ a = m + 24 → I' a = I a) (h7 : I' m 47 = I m 47) (h4 : I' m 45 = nI A.length) (h3 : ∀ j, j < A.length → I' (m + 23) (3 * j) = nI (A.getD j (0, 0, 0)).2.1 ∧ I' (m + 23) (3 * j + 1) = nI (A.getD j (0, 0, 0)).1 ∧ I' (m + 23) (3 * j + 2) = nI (A.getD j (0, 0, 0)).2.2) (hL : rL I m H e) : rL I' m H (setA e A) := by
  obtain ⟨h1, ha, hl⟩ := hL
  unfold rL rLx setA
  rw [h0 (m + 1) (by omega), h0 (m + 2) (by omega), h0 (m + 4) (by omega), h0 (m + 24) (by omega), h7]
  exact ⟨h1, ⟨h4, h3⟩, hl⟩
theorem rL_setL {I I' : mI} {m H : Nat} {e : Lf} {L : List (Nat × Nat)} (h0 : ∀ a, a = m + 1 ∨ a = m + 2 ∨ a = m + 4 ∨ a = m + 23 → I' a = I a) (h7 : I' m 45 = I m 45) (h4 : I' m 47 = nI L.length) (h3 : ∀ j, j < L.length → I' (m + 24) (2 * j) = nI (L.getD j (0, 0)).1 ∧ I' (m + 24) (2 * j + 1) = nI (L.getD j (0, 0)).2) (hL : rL I m H e) : rL I' m H (setL e L) := by
  obtain ⟨h1, ha, hl⟩ := hL
  unfold rL rLx setL
  rw [h0 (m + 1) (by omega), h0 (m + 2) (by omega), h0 (m + 4) (by omega), h0 (m + 23) (by omega), h7]
  exact ⟨h1, ha, h4, h3⟩
theorem put_set {e : Lf} {A : List (Nat × Nat × Nat)} {k h v : Nat} : putE (setA e A) k h v = setA (putE e k h v) A := by
  unfold putE setA
  split
  · rfl
  split <;> rfl
theorem dX10_turns_0 : decode cX10_turns 0 = .ok (.iload_n 2, 1) := by decide +kernel
theorem dX10_turns_1 : decode cX10_turns 1 = .ok (.ifCond .ne 12, 3) := by decide +kernel
theorem dX10_turns_4 : decode cX10_turns 4 = .ok (.aload_n 0, 1) := by decide +kernel
theorem dX10_turns_5 : decode cX10_turns 5 = .ok (.getfield 13, 3) := by decide +kernel
theorem dX10_turns_8 : decode cX10_turns 8 = .ok (.iload_n 1, 1) := by decide +kernel
theorem dX10_turns_9 : decode cX10_turns 9 = .ok (.iaload, 1) := by decide +kernel
theorem dX10_turns_10 : decode cX10_turns 10 = .ok (.goto 23, 3) := by decide +kernel
theorem dX10_turns_13 : decode cX10_turns 13 = .ok (.iload_n 2, 1) := by decide +kernel
theorem dX10_turns_14 : decode cX10_turns 14 = .ok (.iconst 1, 1) := by decide +kernel
theorem dX10_turns_15 : decode cX10_turns 15 = .ok (.if_icmp .ne 12, 3) := by decide +kernel
theorem dX10_turns_18 : decode cX10_turns 18 = .ok (.aload_n 0, 1) := by decide +kernel
theorem dX10_turns_19 : decode cX10_turns 19 = .ok (.getfield 17, 3) := by decide +kernel
theorem dX10_turns_22 : decode cX10_turns 22 = .ok (.iload_n 1, 1) := by decide +kernel
theorem dX10_turns_23 : decode cX10_turns 23 = .ok (.iaload, 1) := by decide +kernel
theorem dX10_turns_24 : decode cX10_turns 24 = .ok (.goto 9, 3) := by decide +kernel
theorem dX10_turns_27 : decode cX10_turns 27 = .ok (.aload_n 0, 1) := by decide +kernel
theorem dX10_turns_28 : decode cX10_turns 28 = .ok (.getfield 23, 3) := by decide +kernel
theorem dX10_turns_31 : decode cX10_turns 31 = .ok (.iload_n 1, 1) := by decide +kernel
theorem dX10_turns_32 : decode cX10_turns 32 = .ok (.iaload, 1) := by decide +kernel
theorem dX10_turns_33 : decode cX10_turns 33 = .ok (.istore 4, 2) := by decide +kernel
theorem dX10_turns_35 : decode cX10_turns 35 = .ok (.iload_n 2, 1) := by decide +kernel
theorem dX10_turns_36 : decode cX10_turns 36 = .ok (.ifCond .ne 13, 3) := by decide +kernel
theorem dX10_turns_39 : decode cX10_turns 39 = .ok (.aload_n 0, 1) := by decide +kernel
theorem dX10_turns_40 : decode cX10_turns 40 = .ok (.getfield 13, 3) := by decide +kernel
theorem dX10_turns_43 : decode cX10_turns 43 = .ok (.iload_n 1, 1) := by decide +kernel
theorem dX10_turns_44 : decode cX10_turns 44 = .ok (.iload_n 3, 1) := by decide +kernel
theorem dX10_turns_45 : decode cX10_turns 45 = .ok (.iastore, 1) := by decide +kernel
theorem dX10_turns_46 : decode cX10_turns 46 = .ok (.goto 25, 3) := by decide +kernel
theorem dX10_turns_49 : decode cX10_turns 49 = .ok (.iload_n 2, 1) := by decide +kernel
theorem dX10_turns_50 : decode cX10_turns 50 = .ok (.iconst 1, 1) := by decide +kernel
theorem dX10_turns_51 : decode cX10_turns 51 = .ok (.if_icmp .ne 13, 3) := by decide +kernel
theorem dX10_turns_54 : decode cX10_turns 54 = .ok (.aload_n 0, 1) := by decide +kernel
theorem dX10_turns_55 : decode cX10_turns 55 = .ok (.getfield 17, 3) := by decide +kernel
theorem dX10_turns_58 : decode cX10_turns 58 = .ok (.iload_n 1, 1) := by decide +kernel
theorem dX10_turns_59 : decode cX10_turns 59 = .ok (.iload_n 3, 1) := by decide +kernel
theorem dX10_turns_60 : decode cX10_turns 60 = .ok (.iastore, 1) := by decide +kernel
theorem dX10_turns_61 : decode cX10_turns 61 = .ok (.goto 10, 3) := by decide +kernel
theorem dX10_turns_64 : decode cX10_turns 64 = .ok (.aload_n 0, 1) := by decide +kernel
theorem dX10_turns_65 : decode cX10_turns 65 = .ok (.getfield 23, 3) := by decide +kernel
theorem dX10_turns_68 : decode cX10_turns 68 = .ok (.iload_n 1, 1) := by decide +kernel
theorem dX10_turns_69 : decode cX10_turns 69 = .ok (.iload_n 3, 1) := by decide +kernel
theorem dX10_turns_70 : decode cX10_turns 70 = .ok (.iastore, 1) := by decide +kernel
theorem dX10_turns_71 : decode cX10_turns 71 = .ok (.iload 4, 2) := by decide +kernel
theorem dX10_turns_73 : decode cX10_turns 73 = .ok (.ireturn, 1) := by decide +kernel

set_option maxHeartbeats 4000000 in
set_option maxRecDepth 100000 in
theorem c_X10_turns (m h k : Nat) (v : Int32) {n : Nat} {kd : mK} {I : mI} {J : mJ} {P : mP} (hM : kM kd P m) (hh : h < 8) (hk : k < 3) : Ct yX10_turns cX10_turns 5 (some .int) 1 0 0 [.ref m, .int (nI h), .int (nI k), .int v] n kd I J P (am_is (some (.int (turnV I m k h))) n kd (turnM I m k h v) J P) := by
  refine ct_of 1 (by decide +kernel) (Nat.le_of_ble_eq_true rfl) rfl ?_
  rcases (show k = 0 ∨ k = 1 ∨ k = 2 by omega) with q | q | q <;> rw [q]
  · show Ru _ _ _ _ _ _ (am_is (some (.int (I (m + 1) h))) n kd (va_up I (m + 1) (va_up (I (m + 1)) h v)) J P) _ _ _ _ _ _ _ _ _ _
    refine r_iload_n dX10_turns_0 rfl ?_
    refine r_if_ne (tgt := 13) dX10_turns_1 (by decide) (fun hz => absurd (show _ from rfl) hz) (fun _ => ?_)
    refine r_aload_n dX10_turns_4 rfl ?_
    refine r_getR dX10_turns_5 fl_X10_13 rfl (kM_0 hM) (pM_4 hM) ?_
    refine r_iload_n dX10_turns_8 rfl ?_
    refine r_iald dX10_turns_9 (aM_4 hM) (nI_in8 8 (by omega) (by decide)) (nI_clamp (by omega)) ?_
    try simp (disch := omega) only [am_up_s, am_up_n, am_up_up]
    refine r_goto (tgt := 33) dX10_turns_10 (by decide) ?_
    refine r_istore dX10_turns_33 (by decide) ?_
    refine r_iload_n dX10_turns_35 rfl ?_
    refine r_if_ne (tgt := 49) dX10_turns_36 (by decide) (fun hz => absurd (show _ from rfl) hz) (fun _ => ?_)
    refine r_aload_n dX10_turns_39 rfl ?_
    refine r_getR dX10_turns_40 fl_X10_13 rfl (kM_0 hM) (pM_4 hM) ?_
    refine r_iload_n dX10_turns_43 rfl ?_
    refine r_iload_n dX10_turns_44 rfl ?_
    refine r_iast dX10_turns_45 (aM_4 hM) (nI_in8 8 (by omega) (by decide)) (nI_clamp (by omega)) ?_
    try simp (disch := omega) only [am_up_s, am_up_n, am_up_up]
    refine r_goto (tgt := 71) dX10_turns_46 (by decide) ?_
    refine r_iload dX10_turns_71 rfl ?_
    refine r_iret rfl dX10_turns_73 ?_
    exact am_is.mk
  · show Ru _ _ _ _ _ _ (am_is (some (.int (I (m + 2) h))) n kd (va_up I (m + 2) (va_up (I (m + 2)) h v)) J P) _ _ _ _ _ _ _ _ _ _
    refine r_iload_n dX10_turns_0 rfl ?_
    refine r_if_ne (tgt := 13) dX10_turns_1 (by decide) (fun _ => ?_) (fun hz => absurd hz (show ¬ _ from (by decide)))
    refine r_iload_n dX10_turns_13 rfl ?_
    refine r_iconst (v := nI 1) dX10_turns_14 (by decide) ?_
    refine r_icmp_ne (tgt := 27) dX10_turns_15 (by decide) (fun hz => absurd (show _ from rfl) hz) (fun _ => ?_)
    refine r_aload_n dX10_turns_18 rfl ?_
    refine r_getR dX10_turns_19 fl_X10_17 rfl (kM_0 hM) (pM_5 hM) ?_
    refine r_iload_n dX10_turns_22 rfl ?_
    refine r_iald dX10_turns_23 (aM_5 hM) (nI_in8 8 (by omega) (by decide)) (nI_clamp (by omega)) ?_
    try simp (disch := omega) only [am_up_s, am_up_n, am_up_up]
    refine r_goto (tgt := 33) dX10_turns_24 (by decide) ?_
    refine r_istore dX10_turns_33 (by decide) ?_
    refine r_iload_n dX10_turns_35 rfl ?_
    refine r_if_ne (tgt := 49) dX10_turns_36 (by decide) (fun _ => ?_) (fun hz => absurd hz (show ¬ _ from (by decide)))
    refine r_iload_n dX10_turns_49 rfl ?_
    refine r_iconst (v := nI 1) dX10_turns_50 (by decide) ?_
    refine r_icmp_ne (tgt := 64) dX10_turns_51 (by decide) (fun hz => absurd (show _ from rfl) hz) (fun _ => ?_)
    refine r_aload_n dX10_turns_54 rfl ?_
    refine r_getR dX10_turns_55 fl_X10_17 rfl (kM_0 hM) (pM_5 hM) ?_
    refine r_iload_n dX10_turns_58 rfl ?_
    refine r_iload_n dX10_turns_59 rfl ?_
    refine r_iast dX10_turns_60 (aM_5 hM) (nI_in8 8 (by omega) (by decide)) (nI_clamp (by omega)) ?_
    try simp (disch := omega) only [am_up_s, am_up_n, am_up_up]
    refine r_goto (tgt := 71) dX10_turns_61 (by decide) ?_
    refine r_iload dX10_turns_71 rfl ?_
    refine r_iret rfl dX10_turns_73 ?_
    exact am_is.mk
  · show Ru _ _ _ _ _ _ (am_is (some (.int (I (m + 4) h))) n kd (va_up I (m + 4) (va_up (I (m + 4)) h v)) J P) _ _ _ _ _ _ _ _ _ _
    refine r_iload_n dX10_turns_0 rfl ?_
    refine r_if_ne (tgt := 13) dX10_turns_1 (by decide) (fun _ => ?_) (fun hz => absurd hz (show ¬ _ from (by decide)))
    refine r_iload_n dX10_turns_13 rfl ?_
    refine r_iconst (v := nI 1) dX10_turns_14 (by decide) ?_
    refine r_icmp_ne (tgt := 27) dX10_turns_15 (by decide) (fun _ => ?_) (fun hz => absurd hz (show ¬ _ from (by decide)))
    refine r_aload_n dX10_turns_27 rfl ?_
    refine r_getR dX10_turns_28 fl_X10_23 rfl (kM_0 hM) (pM_7 hM) ?_
    refine r_iload_n dX10_turns_31 rfl ?_
    refine r_iald dX10_turns_32 (aM_7 hM) (nI_in8 8 (by omega) (by decide)) (nI_clamp (by omega)) ?_
    try simp (disch := omega) only [am_up_s, am_up_n, am_up_up]
    refine r_istore dX10_turns_33 (by decide) ?_
    refine r_iload_n dX10_turns_35 rfl ?_
    refine r_if_ne (tgt := 49) dX10_turns_36 (by decide) (fun _ => ?_) (fun hz => absurd hz (show ¬ _ from (by decide)))
    refine r_iload_n dX10_turns_49 rfl ?_
    refine r_iconst (v := nI 1) dX10_turns_50 (by decide) ?_
    refine r_icmp_ne (tgt := 64) dX10_turns_51 (by decide) (fun _ => ?_) (fun hz => absurd hz (show ¬ _ from (by decide)))
    refine r_aload_n dX10_turns_64 rfl ?_
    refine r_getR dX10_turns_65 fl_X10_23 rfl (kM_0 hM) (pM_7 hM) ?_
    refine r_iload_n dX10_turns_68 rfl ?_
    refine r_iload_n dX10_turns_69 rfl ?_
    refine r_iast dX10_turns_70 (aM_7 hM) (nI_in8 8 (by omega) (by decide)) (nI_clamp (by omega)) ?_
    try simp (disch := omega) only [am_up_s, am_up_n, am_up_up]
    refine r_iload dX10_turns_71 rfl ?_
    refine r_iret rfl dX10_turns_73 ?_
    exact am_is.mk

theorem dX10_keeps_0 : decode cX10_keeps 0 = .ok (.aload_n 0, 1) := by decide +kernel
theorem dX10_keeps_1 : decode cX10_keeps 1 = .ok (.getfield 360, 3) := by decide +kernel
theorem dX10_keeps_4 : decode cX10_keeps 4 = .ok (.bipush 30, 2) := by decide +kernel
theorem dX10_keeps_6 : decode cX10_keeps 6 = .ok (.if_icmp .ne 45, 3) := by decide +kernel
theorem dX10_keeps_9 : decode cX10_keeps 9 = .ok (.iconst 3, 1) := by decide +kernel
theorem dX10_keeps_10 : decode cX10_keeps 10 = .ok (.istore 4, 2) := by decide +kernel
theorem dX10_keeps_12 : decode cX10_keeps 12 = .ok (.iload 4, 2) := by decide +kernel
theorem dX10_keeps_14 : decode cX10_keeps 14 = .ok (.bipush 90, 2) := by decide +kernel
theorem dX10_keeps_16 : decode cX10_keeps 16 = .ok (.if_icmp .ge 25, 3) := by decide +kernel
theorem dX10_keeps_19 : decode cX10_keeps 19 = .ok (.aload_n 0, 1) := by decide +kernel
theorem dX10_keeps_20 : decode cX10_keeps 20 = .ok (.getfield 84, 3) := by decide +kernel
theorem dX10_keeps_23 : decode cX10_keeps 23 = .ok (.iload 4, 2) := by decide +kernel
theorem dX10_keeps_25 : decode cX10_keeps 25 = .ok (.iconst 3, 1) := by decide +kernel
theorem dX10_keeps_26 : decode cX10_keeps 26 = .ok (.isub, 1) := by decide +kernel
theorem dX10_keeps_27 : decode cX10_keeps 27 = .ok (.aload_n 0, 1) := by decide +kernel
theorem dX10_keeps_28 : decode cX10_keeps 28 = .ok (.getfield 84, 3) := by decide +kernel
theorem dX10_keeps_31 : decode cX10_keeps 31 = .ok (.iload 4, 2) := by decide +kernel
theorem dX10_keeps_33 : decode cX10_keeps 33 = .ok (.iaload, 1) := by decide +kernel
theorem dX10_keeps_34 : decode cX10_keeps 34 = .ok (.iastore, 1) := by decide +kernel
theorem dX10_keeps_35 : decode cX10_keeps 35 = .ok (.iinc 4 1, 3) := by decide +kernel
theorem dX10_keeps_38 : decode cX10_keeps 38 = .ok (.goto (-26), 3) := by decide +kernel
theorem dX10_keeps_41 : decode cX10_keeps 41 = .ok (.aload_n 0, 1) := by decide +kernel
theorem dX10_keeps_42 : decode cX10_keeps 42 = .ok (.dup, 1) := by decide +kernel
theorem dX10_keeps_43 : decode cX10_keeps 43 = .ok (.getfield 360, 3) := by decide +kernel
theorem dX10_keeps_46 : decode cX10_keeps 46 = .ok (.iconst 1, 1) := by decide +kernel
theorem dX10_keeps_47 : decode cX10_keeps 47 = .ok (.isub, 1) := by decide +kernel
theorem dX10_keeps_48 : decode cX10_keeps 48 = .ok (.putfield 360, 3) := by decide +kernel
theorem dX10_keeps_51 : decode cX10_keeps 51 = .ok (.aload_n 0, 1) := by decide +kernel
theorem dX10_keeps_52 : decode cX10_keeps 52 = .ok (.getfield 84, 3) := by decide +kernel
theorem dX10_keeps_55 : decode cX10_keeps 55 = .ok (.iconst 3, 1) := by decide +kernel
theorem dX10_keeps_56 : decode cX10_keeps 56 = .ok (.aload_n 0, 1) := by decide +kernel
theorem dX10_keeps_57 : decode cX10_keeps 57 = .ok (.getfield 360, 3) := by decide +kernel
theorem dX10_keeps_60 : decode cX10_keeps 60 = .ok (.imul, 1) := by decide +kernel
theorem dX10_keeps_61 : decode cX10_keeps 61 = .ok (.iload_n 1, 1) := by decide +kernel
theorem dX10_keeps_62 : decode cX10_keeps 62 = .ok (.iastore, 1) := by decide +kernel
theorem dX10_keeps_63 : decode cX10_keeps 63 = .ok (.aload_n 0, 1) := by decide +kernel
theorem dX10_keeps_64 : decode cX10_keeps 64 = .ok (.getfield 84, 3) := by decide +kernel
theorem dX10_keeps_67 : decode cX10_keeps 67 = .ok (.iconst 3, 1) := by decide +kernel
theorem dX10_keeps_68 : decode cX10_keeps 68 = .ok (.aload_n 0, 1) := by decide +kernel
theorem dX10_keeps_69 : decode cX10_keeps 69 = .ok (.getfield 360, 3) := by decide +kernel
theorem dX10_keeps_72 : decode cX10_keeps 72 = .ok (.imul, 1) := by decide +kernel
theorem dX10_keeps_73 : decode cX10_keeps 73 = .ok (.iconst 1, 1) := by decide +kernel
theorem dX10_keeps_74 : decode cX10_keeps 74 = .ok (.iadd, 1) := by decide +kernel
theorem dX10_keeps_75 : decode cX10_keeps 75 = .ok (.iload_n 2, 1) := by decide +kernel
theorem dX10_keeps_76 : decode cX10_keeps 76 = .ok (.iastore, 1) := by decide +kernel
theorem dX10_keeps_77 : decode cX10_keeps 77 = .ok (.aload_n 0, 1) := by decide +kernel
theorem dX10_keeps_78 : decode cX10_keeps 78 = .ok (.getfield 84, 3) := by decide +kernel
theorem dX10_keeps_81 : decode cX10_keeps 81 = .ok (.iconst 3, 1) := by decide +kernel
theorem dX10_keeps_82 : decode cX10_keeps 82 = .ok (.aload_n 0, 1) := by decide +kernel
theorem dX10_keeps_83 : decode cX10_keeps 83 = .ok (.getfield 360, 3) := by decide +kernel
theorem dX10_keeps_86 : decode cX10_keeps 86 = .ok (.imul, 1) := by decide +kernel
theorem dX10_keeps_87 : decode cX10_keeps 87 = .ok (.iconst 2, 1) := by decide +kernel
theorem dX10_keeps_88 : decode cX10_keeps 88 = .ok (.iadd, 1) := by decide +kernel
theorem dX10_keeps_89 : decode cX10_keeps 89 = .ok (.iload_n 3, 1) := by decide +kernel
theorem dX10_keeps_90 : decode cX10_keeps 90 = .ok (.iastore, 1) := by decide +kernel
theorem dX10_keeps_91 : decode cX10_keeps 91 = .ok (.aload_n 0, 1) := by decide +kernel
theorem dX10_keeps_92 : decode cX10_keeps 92 = .ok (.dup, 1) := by decide +kernel
theorem dX10_keeps_93 : decode cX10_keeps 93 = .ok (.getfield 360, 3) := by decide +kernel
theorem dX10_keeps_96 : decode cX10_keeps 96 = .ok (.iconst 1, 1) := by decide +kernel
theorem dX10_keeps_97 : decode cX10_keeps 97 = .ok (.iadd, 1) := by decide +kernel
theorem dX10_keeps_98 : decode cX10_keeps 98 = .ok (.putfield 360, 3) := by decide +kernel
theorem dX10_keeps_101 : decode cX10_keeps 101 = .ok (.return_, 1) := by decide +kernel

def shR (Ac : Nat → Int32) (k : Nat) : Nat → Int32 := fun j => if j + 3 < k then Ac (j + 3) else Ac j
theorem shR_3 (Ac : Nat → Int32) : shR Ac 3 = Ac := by funext j; unfold shR; rw [if_neg (by omega)]
theorem shR_s (Ac : Nat → Int32) {k : Nat} (hk : 3 ≤ k) : va_up (shR Ac k) (k - 3) (shR Ac k k) = shR Ac (k + 1) := by
  funext j
  by_cases q : j = k - 3
  · rw [q, am_up_s]
    unfold shR
    rw [if_neg (by omega), if_pos (by omega), show k - 3 + 3 = k by omega]
  · rw [am_up_n _ _ q]
    unfold shR
    by_cases r : j + 3 < k
    · rw [if_pos r, if_pos (by omega)]
    · rw [if_neg r, if_neg (by omega)]
set_option maxHeartbeats 4000000 in
set_option maxRecDepth 100000 in
theorem w_X10_keeps (m h k v : Nat) {post : am_Post} {n : Nat} {kd : mK} {I : mI} {J : mJ} {P : mP} (hM : kM kd P m) (hE : Ru yX10_keeps.cls cX10_keeps 5 none yX10_keeps.name 1 (post) 0 0 41 [some (.ref m), some (.int (nI h)), some (.int (nI k)), some (.int (nI v)), some (.int (nI 90))] [] n kd (va_up I (m + 23) (shR (I (m + 23)) 90)) J P) : ∀ (c x : Nat), x + c = 90 → 3 ≤ x → Ru yX10_keeps.cls cX10_keeps 5 none yX10_keeps.name 1 (post) 0 0 12 [some (.ref m), some (.int (nI h)), some (.int (nI k)), some (.int (nI v)), some (.int (nI x))] [] n kd (va_up I (m + 23) (shR (I (m + 23)) x)) J P
  | 0, x, hx, hx3 => by
    rw [show x = 90 by omega]
    refine r_iload dX10_keeps_12 rfl ?_
    refine r_bipush (v := nI 90) dX10_keeps_14 (by decide) ?_
    refine r_icmp_ge (tgt := 41) dX10_keeps_16 (by decide) (fun _ => ?_) (fun hz => absurd (show _ from (by decide)) hz)
    exact hE
  | c + 1, x, hx, hx3 => by
    refine r_iload dX10_keeps_12 rfl ?_
    refine r_bipush (v := nI 90) dX10_keeps_14 (by decide) ?_
    refine r_icmp_ge (tgt := 41) dX10_keeps_16 (by decide) (fun hz => absurd hz (show ¬ _ from (fun q => absurd ((nI_leI (by decide) (by omega)).mp q) (by omega)))) (fun _ => ?_)
    refine r_aload_n dX10_keeps_19 rfl ?_
    refine r_getR dX10_keeps_20 fl_X10_84 rfl (kM_0 hM) (pM_46 hM) ?_
    refine r_iload dX10_keeps_23 rfl ?_
    refine r_iconst (v := nI 3) dX10_keeps_25 (by decide) ?_
    refine r_isub dX10_keeps_26 ?_
    rw [pk_sub (by omega)]
    refine r_aload_n dX10_keeps_27 rfl ?_
    refine r_getR dX10_keeps_28 fl_X10_84 rfl (kM_0 hM) (pM_46 hM) ?_
    refine r_iload dX10_keeps_31 rfl ?_
    refine r_iald dX10_keeps_33 (aM_46 hM) (nI_in8 90 (by omega) (by decide)) (nI_clamp (by omega)) ?_
    rw [am_up_s]
    refine r_iast dX10_keeps_34 (aM_46 hM) (nI_in8 90 (by omega) (by decide)) (nI_clamp (by omega)) ?_
    rw [am_up_s, am_up_up, shR_s _ (by omega)]
    refine r_iinc (v := nI (x + 1)) dX10_keeps_35 rfl (nI_inc x) ?_
    refine r_goto (tgt := 12) dX10_keeps_38 (by decide) ?_
    exact w_X10_keeps m h k v hM hE c (x + 1) (by omega) (by omega)

set_option maxHeartbeats 4000000 in
set_option maxRecDepth 100000 in
theorem w_X10_keeps_at (m h k v : Nat) {post : am_Post} {n : Nat} {kd : mK} {I : mI} {J : mJ} {P : mP} (hM : kM kd P m) (hE : Ru yX10_keeps.cls cX10_keeps 5 none yX10_keeps.name 1 (post) 0 0 41 [some (.ref m), some (.int (nI h)), some (.int (nI k)), some (.int (nI v)), some (.int (nI 90))] [] n kd (va_up I (m + 23) (shR (I (m + 23)) 90)) J P) : Ru yX10_keeps.cls cX10_keeps 5 none yX10_keeps.name 1 (post) 0 0 12 [some (.ref m), some (.int (nI h)), some (.int (nI k)), some (.int (nI v)), some (.int (nI 3))] [] n kd I J P := by
  have := w_X10_keeps m h k v hM hE 87 3 (by decide) (by decide)
  rw [shR_3, am_up_id] at this
  exact this
set_option maxHeartbeats 4000000 in
set_option maxRecDepth 100000 in
theorem c_X10_keeps (m H M h k v : Nat) (e : Lf) {n : Nat} {kd : mK} {I : mI} {J : mJ} {P : mP} (hM : kM kd P m) (hc : rL I m H e) (ho : okL H M e) : Ct yX10_keeps cX10_keeps 5 none 1 0 0 [.ref m, .int (nI h), .int (nI k), .int (nI v)] n kd I J P (fun z n' kd' I' J' P' => z = .inl none ∧ n' = n ∧ kd' = kd ∧ J' = J ∧ P' = P ∧ (∀ x, x ≠ m → x ≠ m + 23 → I' x = I x) ∧ (∀ j, j ≠ 45 → I' m j = I m j) ∧ rL I' m H (setA e (pushA e.2.2.2.1 (k, h, v)))) := by
  have ha30 := ho.2.1.1
  have h4 := hc.2.1.1
  refine ct_of 1 (by decide +kernel) (Nat.le_of_ble_eq_true rfl) rfl ?_
  by_cases qq : e.2.2.2.1.length = 30
  · skip
    refine r_aload_n dX10_keeps_0 rfl ?_
    refine r_getI dX10_keeps_1 fl_X10_360 rfl (kM_0 hM) ?_
    try simp (disch := omega) only [am_up_s, am_up_n, am_up_up]
    refine r_bipush (v := nI 30) dX10_keeps_4 (by decide) ?_
    refine r_icmp_ne (tgt := 51) dX10_keeps_6 (by decide) (fun hz => absurd (show _ from (by rw [h4, qq])) hz) (fun _ => ?_)
    refine r_iconst (v := nI 3) dX10_keeps_9 (by decide) ?_
    refine r_istore dX10_keeps_10 (by decide) ?_
    refine w_X10_keeps_at m h k v hM ?_
    refine r_aload_n dX10_keeps_41 rfl ?_
    refine r_dup dX10_keeps_42 rfl ?_
    refine r_getI dX10_keeps_43 fl_X10_360 rfl (kM_0 hM) ?_
    try simp (disch := omega) only [am_up_s, am_up_n]
    rw [h4, qq]
    refine r_iconst (v := nI 1) dX10_keeps_46 (by decide) ?_
    refine r_isub dX10_keeps_47 ?_
    rw [show nI 30 - nI 1 = nI 29 by decide]
    refine r_putI dX10_keeps_48 fl_X10_360 rfl rfl (kM_0 hM) ?_
    try simp (disch := omega) only [am_up_s, am_up_n, am_up_up]
    refine r_aload_n dX10_keeps_51 rfl ?_
    refine r_getR dX10_keeps_52 fl_X10_84 rfl (kM_0 hM) (pM_46 hM) ?_
    refine r_iconst (v := nI 3) dX10_keeps_55 (by decide) ?_
    refine r_aload_n dX10_keeps_56 rfl ?_
    refine r_getI dX10_keeps_57 fl_X10_360 rfl (kM_0 hM) ?_
    try simp (disch := omega) only [am_up_s, am_up_n]
    refine r_imul dX10_keeps_60 ?_
    rw [pk_mul]
    refine r_iload_n dX10_keeps_61 rfl ?_
    refine r_iast dX10_keeps_62 (aM_46 hM) (nI_in8 90 (by omega) (by decide)) (nI_clamp (by omega)) ?_
    try simp (disch := omega) only [am_up_s, am_up_n]
    refine r_aload_n dX10_keeps_63 rfl ?_
    refine r_getR dX10_keeps_64 fl_X10_84 rfl (kM_0 hM) (pM_46 hM) ?_
    refine r_iconst (v := nI 3) dX10_keeps_67 (by decide) ?_
    refine r_aload_n dX10_keeps_68 rfl ?_
    refine r_getI dX10_keeps_69 fl_X10_360 rfl (kM_0 hM) ?_
    try simp (disch := omega) only [am_up_s, am_up_n]
    refine r_imul dX10_keeps_72 ?_
    rw [pk_mul]
    refine r_iconst (v := nI 1) dX10_keeps_73 (by decide) ?_
    refine r_iadd dX10_keeps_74 ?_
    rw [nI_add]
    refine r_iload_n dX10_keeps_75 rfl ?_
    refine r_iast dX10_keeps_76 (aM_46 hM) (nI_in8 90 (by omega) (by decide)) (nI_clamp (by omega)) ?_
    try simp (disch := omega) only [am_up_s, am_up_n]
    refine r_aload_n dX10_keeps_77 rfl ?_
    refine r_getR dX10_keeps_78 fl_X10_84 rfl (kM_0 hM) (pM_46 hM) ?_
    refine r_iconst (v := nI 3) dX10_keeps_81 (by decide) ?_
    refine r_aload_n dX10_keeps_82 rfl ?_
    refine r_getI dX10_keeps_83 fl_X10_360 rfl (kM_0 hM) ?_
    try simp (disch := omega) only [am_up_s, am_up_n]
    refine r_imul dX10_keeps_86 ?_
    rw [pk_mul]
    refine r_iconst (v := nI 2) dX10_keeps_87 (by decide) ?_
    refine r_iadd dX10_keeps_88 ?_
    rw [nI_add]
    refine r_iload_n dX10_keeps_89 rfl ?_
    refine r_iast dX10_keeps_90 (aM_46 hM) (nI_in8 90 (by omega) (by decide)) (nI_clamp (by omega)) ?_
    try simp (disch := omega) only [am_up_s, am_up_n]
    refine r_aload_n dX10_keeps_91 rfl ?_
    refine r_dup dX10_keeps_92 rfl ?_
    refine r_getI dX10_keeps_93 fl_X10_360 rfl (kM_0 hM) ?_
    try simp (disch := omega) only [am_up_s, am_up_n]
    refine r_iconst (v := nI 1) dX10_keeps_96 (by decide) ?_
    refine r_iadd dX10_keeps_97 ?_
    rw [nI_add]
    refine r_putI dX10_keeps_98 fl_X10_360 rfl rfl (kM_0 hM) ?_
    try simp (disch := omega) only [am_up_s, am_up_n, am_up_up]
    refine r_vret rfl dX10_keeps_101 ?_
    refine ⟨rfl, rfl, rfl, rfl, rfl, fun x x1 x2 => by simp (disch := omega) only [am_up_s, am_up_n], fun j j1 => by simp (disch := omega) only [am_up_s, am_up_n], rL_setA (I := I) (fun a ha => by simp (disch := omega) only [am_up_s, am_up_n]) (by simp (disch := omega) only [am_up_s, am_up_n]) ?_ (fun j hj => ?_) hc⟩
    · rw [pushA_len ha30]
      simp only [qq, if_true]
      simp (disch := omega) only [am_up_s, am_up_n]
    · rw [pushA_len ha30] at hj
      rw [pushA_at ha30 (by rw [pushA_len ha30]; exact hj), pushA_len ha30]
      simp only [qq, if_true] at hj ⊢
      try simp (disch := omega) only [am_up_s, am_up_n]
      by_cases r : j = 29
      · rw [if_pos (by omega), r]
        simp (disch := omega) only [am_up_s, am_up_n]
        exact ⟨trivial, trivial, trivial⟩
      · rw [if_neg (by omega)]
        simp (disch := omega) only [am_up_n]
        unfold shR
        rw [if_pos (by omega), if_pos (by omega), if_pos (by omega), show 3 * j + 3 = 3 * (j + 1) by omega, show 3 * j + 1 + 3 = 3 * (j + 1) + 1 by omega, show 3 * j + 2 + 3 = 3 * (j + 1) + 2 by omega]
        exact hc.2.1.2 (j + 1) (by omega)
  · skip
    refine r_aload_n dX10_keeps_0 rfl ?_
    refine r_getI dX10_keeps_1 fl_X10_360 rfl (kM_0 hM) ?_
    try simp (disch := omega) only [am_up_s, am_up_n, am_up_up]
    refine r_bipush (v := nI 30) dX10_keeps_4 (by decide) ?_
    refine r_icmp_ne (tgt := 51) dX10_keeps_6 (by decide) (fun _ => ?_) (fun hz => absurd hz (show ¬ _ from (by rw [h4, nI_eq (by omega) (by decide)]; exact qq)))
    refine r_aload_n dX10_keeps_51 rfl ?_
    refine r_getR dX10_keeps_52 fl_X10_84 rfl (kM_0 hM) (pM_46 hM) ?_
    refine r_iconst (v := nI 3) dX10_keeps_55 (by decide) ?_
    refine r_aload_n dX10_keeps_56 rfl ?_
    refine r_getI dX10_keeps_57 fl_X10_360 rfl (kM_0 hM) ?_
    try simp (disch := omega) only [am_up_s, am_up_n]
    rw [h4]
    refine r_imul dX10_keeps_60 ?_
    rw [pk_mul]
    refine r_iload_n dX10_keeps_61 rfl ?_
    refine r_iast dX10_keeps_62 (aM_46 hM) (nI_in8 90 (by omega) (by decide)) (nI_clamp (by omega)) ?_
    try simp (disch := omega) only [am_up_s, am_up_n]
    refine r_aload_n dX10_keeps_63 rfl ?_
    refine r_getR dX10_keeps_64 fl_X10_84 rfl (kM_0 hM) (pM_46 hM) ?_
    refine r_iconst (v := nI 3) dX10_keeps_67 (by decide) ?_
    refine r_aload_n dX10_keeps_68 rfl ?_
    refine r_getI dX10_keeps_69 fl_X10_360 rfl (kM_0 hM) ?_
    try simp (disch := omega) only [am_up_s, am_up_n]
    rw [h4]
    refine r_imul dX10_keeps_72 ?_
    rw [pk_mul]
    refine r_iconst (v := nI 1) dX10_keeps_73 (by decide) ?_
    refine r_iadd dX10_keeps_74 ?_
    rw [nI_add]
    refine r_iload_n dX10_keeps_75 rfl ?_
    refine r_iast dX10_keeps_76 (aM_46 hM) (nI_in8 90 (by omega) (by decide)) (nI_clamp (by omega)) ?_
    try simp (disch := omega) only [am_up_s, am_up_n]
    refine r_aload_n dX10_keeps_77 rfl ?_
    refine r_getR dX10_keeps_78 fl_X10_84 rfl (kM_0 hM) (pM_46 hM) ?_
    refine r_iconst (v := nI 3) dX10_keeps_81 (by decide) ?_
    refine r_aload_n dX10_keeps_82 rfl ?_
    refine r_getI dX10_keeps_83 fl_X10_360 rfl (kM_0 hM) ?_
    try simp (disch := omega) only [am_up_s, am_up_n]
    rw [h4]
    refine r_imul dX10_keeps_86 ?_
    rw [pk_mul]
    refine r_iconst (v := nI 2) dX10_keeps_87 (by decide) ?_
    refine r_iadd dX10_keeps_88 ?_
    rw [nI_add]
    refine r_iload_n dX10_keeps_89 rfl ?_
    refine r_iast dX10_keeps_90 (aM_46 hM) (nI_in8 90 (by omega) (by decide)) (nI_clamp (by omega)) ?_
    try simp (disch := omega) only [am_up_s, am_up_n]
    refine r_aload_n dX10_keeps_91 rfl ?_
    refine r_dup dX10_keeps_92 rfl ?_
    refine r_getI dX10_keeps_93 fl_X10_360 rfl (kM_0 hM) ?_
    try simp (disch := omega) only [am_up_s, am_up_n]
    rw [h4]
    refine r_iconst (v := nI 1) dX10_keeps_96 (by decide) ?_
    refine r_iadd dX10_keeps_97 ?_
    rw [nI_add]
    refine r_putI dX10_keeps_98 fl_X10_360 rfl rfl (kM_0 hM) ?_
    try simp (disch := omega) only [am_up_s, am_up_n, am_up_up]
    refine r_vret rfl dX10_keeps_101 ?_
    refine ⟨rfl, rfl, rfl, rfl, rfl, fun x x1 x2 => by simp (disch := omega) only [am_up_s, am_up_n], fun j j1 => by simp (disch := omega) only [am_up_s, am_up_n], rL_setA (I := I) (fun a ha => by simp (disch := omega) only [am_up_s, am_up_n]) (by simp (disch := omega) only [am_up_s, am_up_n]) ?_ (fun j hj => ?_) hc⟩
    · rw [pushA_len ha30]
      simp only [qq, if_false]
      simp (disch := omega) only [am_up_s, am_up_n]
    · rw [pushA_len ha30] at hj
      rw [pushA_at ha30 (by rw [pushA_len ha30]; exact hj), pushA_len ha30]
      simp only [qq, if_false] at hj ⊢
      try simp (disch := omega) only [am_up_s, am_up_n]
      by_cases r : j = e.2.2.2.1.length
      · rw [if_pos (by omega), r]
        simp (disch := omega) only [am_up_s, am_up_n]
        exact ⟨trivial, trivial, trivial⟩
      · rw [if_neg (by omega)]
        simp (disch := omega) only [am_up_n]
        exact hc.2.1.2 j (by omega)

