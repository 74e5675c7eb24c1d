/-! STREET: the reference's next token -/
def gFr (m : Nat) (I I' : mI) (J J' : mJ) : Prop := (∀ a, a ≠ m → I' a = I a) ∧ (∀ j, (j < 20 ∨ 25 < j) → I' m j = I m j) ∧ (∀ a, a ≠ m → J' a = J a) ∧ (∀ j, j ≠ 26 → J' m j = J m j)
theorem gFr.rf {m : Nat} {I : mI} {J : mJ} : gFr m I I J J := ⟨fun _ _ => rfl, fun _ _ => rfl, fun _ _ => rfl, fun _ _ => rfl⟩
theorem gFr.tr {m : Nat} {I I1 I2 : mI} {J J1 J2 : mJ} (h : gFr m I I1 J J1) (g : gFr m I1 I2 J1 J2) : gFr m I I2 J J2 := ⟨fun a x => (g.1 a x).trans (h.1 a x), fun j x => (g.2.1 j x).trans (h.2.1 j x), fun a x => (g.2.2.1 a x).trans (h.2.2.1 a x), fun j x => (g.2.2.2 j x).trans (h.2.2.2 j x)⟩
theorem gFr.pI {m k : Nat} {I : mI} {J : mJ} {x : Int32} (h : 20 ≤ k ∧ k ≤ 25) : gFr m I (va_up I m (va_up (I m) k x)) J J := ⟨fun a ha => am_up_n _ _ ha, fun j hj => by rw [am_up_s, am_up_n _ _ (by omega)], fun _ _ => rfl, fun _ _ => rfl⟩
theorem gFr.pJ {m : Nat} {I : mI} {J : mJ} {x : Int64} : gFr m I I J (va_up J m (va_up (J m) 26 x)) := ⟨fun _ _ => rfl, fun _ _ => rfl, fun a ha => am_up_n _ _ ha, fun j hj => by rw [am_up_s, am_up_n _ _ hj]⟩
def kwV (m : Nat) (I : mI) (J : mJ) : Int32 := if I m 21 = nI 1 ∧ ¬ nI 6 < I m 23 then kwd (J m 26) else -1
def srt (k : Int32) : Nat := if k = nI 0 then 0 else if k = nI 2 then 2 else if k = nI 1 then 4 else if k < nI 128 then 3 else 1
/-- the reference's token is t -/
def gTk (m : Nat) (X : Nat → Int32) (I : mI) (J : mJ) (t : Tok) : Prop := I m 20 = nI t.2.2 ∧ I m 22 = nI t.2.1 ∧ kwV m I J = kwI t.1 ∧ I m 21 = nI (srt t.1) ∧ (t.1 = nI 2 → I m 23 = nI (t.2.2 - t.2.1) ∧ (t.2.2 - t.2.1 ≤ 4 → I m 24 = nv X t.2.1 (t.2.2 - t.2.1))) ∧ (srt t.1 = 3 → I m 25 = t.1)
def nxT (X : Nat → Int32) (len b : Nat) : Tok := (lx X len b).headD (nI 0, len, len)
theorem runE_spec (p : Int32 → Bool) (X : Nat → Int32) : ∀ (k i : Nat), (∀ j, i ≤ j → j < runE p X k i → p (X j) = true) ∧ (runE p X k i = i + k ∨ p (X (runE p X k i)) = false)
  | 0, i => ⟨fun j h1 h2 => by have h2 : j < i := h2; omega, Or.inl rfl⟩
  | k + 1, i => by
    unfold runE
    by_cases c : p (X i) = true
    · rw [if_pos c]
      have ih := runE_spec p X k (i + 1)
      refine ⟨fun j h1 h2 => ?_, ih.2.imp (fun a => by omega) id⟩
      by_cases q : j = i
      · rw [q]; exact c
      · exact ih.1 j (by omega) h2
    · rw [if_neg c]
      exact ⟨fun j h1 h2 => by omega, Or.inr (eq_false_of_ne_true c)⟩
/-- what stands in the way of goes -/
def gIn (m len : Nat) (X : Nat → Int32) (I : mI) : Prop := I m 19 = nI len ∧ len ≤ 500 ∧ tpR len X (I (m + 11))
theorem gIn.fr {m len : Nat} {X : Nat → Int32} {I I' : mI} {J J' : mJ} (hf : gFr m I I' J J') (h : gIn m len X I) : gIn m len X I' := by
  unfold gIn
  rw [hf.2.1 19 (by decide), hf.1 (m + 11) (by omega)]
  exact h
def bA (len : Nat) (R : Nat → Int32) (k : Nat) : Int32 := if k < len then R k else nI 0
theorem bA_L {len k : Nat} {X R : Nat → Int32} (h : tpR len X R) : isL (bA len R k) = (decide (k < len) && isL (X k)) ∧ isD (bA len R k) = (decide (k < len) && isD (X k)) ∧ (k < len → isG (bA len R k) = isG (X k) ∧ (bA len R k = nI 32 ↔ X k = nI 32) ∧ (bA len R k = nI 10 ↔ X k = nI 10) ∧ ((isL (X k) = true ∨ isD (X k) = true ∨ isG (X k) = true) → bA len R k = X k)) := by
  unfold bA
  by_cases q : k < len
  · rw [if_pos q, decide_eq_true q]
    obtain ⟨t, ht, h1, h2⟩ := h k q
    obtain ⟨b1, b2, b3, b4, b5, b6⟩ := byt t ht
    rw [h1, h2, b1, b2, b3]
    exact ⟨rfl, rfl, fun _ => ⟨rfl, ⟨fun a => b4.mpr ((nI_eq (by omega) (by decide)).mp a), fun a => by rw [b4.mp a]⟩, ⟨fun a => b5.mpr ((nI_eq (by omega) (by decide)).mp a), fun a => by rw [b5.mp a]⟩, fun a => (b6 a).symm⟩⟩
  · rw [if_neg q, decide_eq_false q]
    exact ⟨rfl, rfl, fun a => absurd a q⟩
theorem isG_of {k : Int32} (h : isG k = true) : kwI k = -1 ∧ srt k = 3 := by
  unfold isG at h
  simp only [Bool.or_eq_true, decide_eq_true_eq] at h
  rcases h with ((((((((h | h) | h) | h) | h) | h) | h) | h) | h) <;> rw [h] <;> decide
theorem dX10_byteAt_0 : decode cX10_byteAt 0 = .ok (.iload_n 1, 1) := by decide +kernel
theorem dX10_byteAt_1 : decode cX10_byteAt 1 = .ok (.aload_n 0, 1) := by decide +kernel
theorem dX10_byteAt_2 : decode cX10_byteAt 2 = .ok (.getfield 203, 3) := by decide +kernel
theorem dX10_byteAt_5 : decode cX10_byteAt 5 = .ok (.if_icmp .ge 12, 3) := by decide +kernel
theorem dX10_byteAt_8 : decode cX10_byteAt 8 = .ok (.aload_n 0, 1) := by decide +kernel
theorem dX10_byteAt_9 : decode cX10_byteAt 9 = .ok (.getfield 44, 3) := by decide +kernel
theorem dX10_byteAt_12 : decode cX10_byteAt 12 = .ok (.iload_n 1, 1) := by decide +kernel
theorem dX10_byteAt_13 : decode cX10_byteAt 13 = .ok (.iaload, 1) := by decide +kernel
theorem dX10_byteAt_14 : decode cX10_byteAt 14 = .ok (.goto 4, 3) := by decide +kernel
theorem dX10_byteAt_17 : decode cX10_byteAt 17 = .ok (.iconst 0, 1) := by decide +kernel
theorem dX10_byteAt_18 : decode cX10_byteAt 18 = .ok (.ireturn, 1) := by decide +kernel

set_option maxHeartbeats 4000000 in
set_option maxRecDepth 100000 in
theorem c_byte (m len k : Nat) {n : Nat} {kd : mK} {I : mI} {J : mJ} {P : mP} (hM : kM kd P m) (h19 : I m 19 = nI len) (hl : len ≤ 500) (hk : k ≤ 500) : Ct yX10_byteAt cX10_byteAt 2 (some .int) 1 0 0 [.ref m, .int (nI k)] n kd I J P (am_is (some (.int (bA len (I (m + 11)) k))) n kd I J P) := by
  refine ct_of 0 (by decide +kernel) (Nat.le_of_ble_eq_true rfl) rfl ?_
  unfold bA
  by_cases q : k < len
  · rw [if_pos q]
    refine r_iload_n dX10_byteAt_0 rfl ?_
    refine r_aload_n dX10_byteAt_1 rfl ?_
    refine r_getI dX10_byteAt_2 fl_X10_203 rfl (kM_0 hM) ?_
    rw [h19]
    refine r_icmp_ge (tgt := 17) dX10_byteAt_5 (by decide) (fun hz => absurd hz (show ¬ _ from (by rw [nI_leI (by omega) (by omega)]; omega))) (fun _ => ?_)
    refine r_aload_n dX10_byteAt_8 rfl ?_
    refine r_getR dX10_byteAt_9 fl_X10_44 rfl (kM_0 hM) (pM_14 hM) ?_
    refine r_iload_n dX10_byteAt_12 rfl ?_
    refine r_iald dX10_byteAt_13 (aM_14 hM) (nI_in8 500 (by omega) (by decide)) (nI_clamp (by omega)) ?_
    try simp (disch := omega) only [am_up_s, am_up_n, am_up_up]
    refine r_goto (tgt := 18) dX10_byteAt_14 (by decide) ?_
    refine r_iret rfl dX10_byteAt_18 ?_
    exact am_is.mk
  · rw [if_neg q]
    refine r_iload_n dX10_byteAt_0 rfl ?_
    refine r_aload_n dX10_byteAt_1 rfl ?_
    refine r_getI dX10_byteAt_2 fl_X10_203 rfl (kM_0 hM) ?_
    rw [h19]
    refine r_icmp_ge (tgt := 17) dX10_byteAt_5 (by decide) (fun _ => ?_) (fun hz => absurd (show _ from (by rw [nI_leI (by omega) (by omega)]; omega)) hz)
    refine r_iconst (v := nI 0) dX10_byteAt_17 (by decide) ?_
    refine r_iret rfl dX10_byteAt_18 ?_
    exact am_is.mk

theorem dX10_goes_0 : decode cX10_goes 0 = .ok (.aload_n 0, 1) := by decide +kernel
theorem dX10_goes_1 : decode cX10_goes 1 = .ok (.getfield 206, 3) := by decide +kernel
theorem dX10_goes_4 : decode cX10_goes 4 = .ok (.aload_n 0, 1) := by decide +kernel
theorem dX10_goes_5 : decode cX10_goes 5 = .ok (.getfield 203, 3) := by decide +kernel
theorem dX10_goes_8 : decode cX10_goes 8 = .ok (.if_icmp .ge 42, 3) := by decide +kernel
theorem dX10_goes_11 : decode cX10_goes 11 = .ok (.aload_n 0, 1) := by decide +kernel
theorem dX10_goes_12 : decode cX10_goes 12 = .ok (.aload_n 0, 1) := by decide +kernel
theorem dX10_goes_13 : decode cX10_goes 13 = .ok (.getfield 206, 3) := by decide +kernel
theorem dX10_goes_16 : decode cX10_goes 16 = .ok (.invokevirtual 209, 3) := by decide +kernel
theorem dX10_goes_19 : decode cX10_goes 19 = .ok (.bipush 32, 2) := by decide +kernel
theorem dX10_goes_21 : decode cX10_goes 21 = .ok (.if_icmp .eq 16, 3) := by decide +kernel
theorem dX10_goes_24 : decode cX10_goes 24 = .ok (.aload_n 0, 1) := by decide +kernel
theorem dX10_goes_25 : decode cX10_goes 25 = .ok (.aload_n 0, 1) := by decide +kernel
theorem dX10_goes_26 : decode cX10_goes 26 = .ok (.getfield 206, 3) := by decide +kernel
theorem dX10_goes_29 : decode cX10_goes 29 = .ok (.invokevirtual 209, 3) := by decide +kernel
theorem dX10_goes_32 : decode cX10_goes 32 = .ok (.bipush 10, 2) := by decide +kernel
theorem dX10_goes_34 : decode cX10_goes 34 = .ok (.if_icmp .ne 16, 3) := by decide +kernel
theorem dX10_goes_37 : decode cX10_goes 37 = .ok (.aload_n 0, 1) := by decide +kernel
theorem dX10_goes_38 : decode cX10_goes 38 = .ok (.dup, 1) := by decide +kernel
theorem dX10_goes_39 : decode cX10_goes 39 = .ok (.getfield 206, 3) := by decide +kernel
theorem dX10_goes_42 : decode cX10_goes 42 = .ok (.iconst 1, 1) := by decide +kernel
theorem dX10_goes_43 : decode cX10_goes 43 = .ok (.iadd, 1) := by decide +kernel
theorem dX10_goes_44 : decode cX10_goes 44 = .ok (.putfield 206, 3) := by decide +kernel
theorem dX10_goes_47 : decode cX10_goes 47 = .ok (.goto (-47), 3) := by decide +kernel
theorem dX10_goes_50 : decode cX10_goes 50 = .ok (.aload_n 0, 1) := by decide +kernel
theorem dX10_goes_51 : decode cX10_goes 51 = .ok (.aload_n 0, 1) := by decide +kernel
theorem dX10_goes_52 : decode cX10_goes 52 = .ok (.getfield 206, 3) := by decide +kernel
theorem dX10_goes_55 : decode cX10_goes 55 = .ok (.putfield 213, 3) := by decide +kernel
theorem dX10_goes_58 : decode cX10_goes 58 = .ok (.aload_n 0, 1) := by decide +kernel
theorem dX10_goes_59 : decode cX10_goes 59 = .ok (.lconst 0, 1) := by decide +kernel
theorem dX10_goes_60 : decode cX10_goes 60 = .ok (.putfield 216, 3) := by decide +kernel
theorem dX10_goes_63 : decode cX10_goes 63 = .ok (.aload_n 0, 1) := by decide +kernel
theorem dX10_goes_64 : decode cX10_goes 64 = .ok (.iconst 0, 1) := by decide +kernel
theorem dX10_goes_65 : decode cX10_goes 65 = .ok (.putfield 220, 3) := by decide +kernel
theorem dX10_goes_68 : decode cX10_goes 68 = .ok (.aload_n 0, 1) := by decide +kernel
theorem dX10_goes_69 : decode cX10_goes 69 = .ok (.aload_n 0, 1) := by decide +kernel
theorem dX10_goes_70 : decode cX10_goes 70 = .ok (.getfield 206, 3) := by decide +kernel
theorem dX10_goes_73 : decode cX10_goes 73 = .ok (.invokevirtual 209, 3) := by decide +kernel
theorem dX10_goes_76 : decode cX10_goes 76 = .ok (.istore_n 1, 1) := by decide +kernel
theorem dX10_goes_77 : decode cX10_goes 77 = .ok (.aload_n 0, 1) := by decide +kernel
theorem dX10_goes_78 : decode cX10_goes 78 = .ok (.iload_n 1, 1) := by decide +kernel
theorem dX10_goes_79 : decode cX10_goes 79 = .ok (.putfield 223, 3) := by decide +kernel
theorem dX10_goes_82 : decode cX10_goes 82 = .ok (.aload_n 0, 1) := by decide +kernel
theorem dX10_goes_83 : decode cX10_goes 83 = .ok (.getfield 206, 3) := by decide +kernel
theorem dX10_goes_86 : decode cX10_goes 86 = .ok (.aload_n 0, 1) := by decide +kernel
theorem dX10_goes_87 : decode cX10_goes 87 = .ok (.getfield 203, 3) := by decide +kernel
theorem dX10_goes_90 : decode cX10_goes 90 = .ok (.if_icmp .lt 11, 3) := by decide +kernel
theorem dX10_goes_93 : decode cX10_goes 93 = .ok (.aload_n 0, 1) := by decide +kernel
theorem dX10_goes_94 : decode cX10_goes 94 = .ok (.iconst 0, 1) := by decide +kernel
theorem dX10_goes_95 : decode cX10_goes 95 = .ok (.putfield 226, 3) := by decide +kernel
theorem dX10_goes_98 : decode cX10_goes 98 = .ok (.goto 233, 3) := by decide +kernel
theorem dX10_goes_101 : decode cX10_goes 101 = .ok (.iload_n 1, 1) := by decide +kernel
theorem dX10_goes_102 : decode cX10_goes 102 = .ok (.invokestatic 229, 3) := by decide +kernel
theorem dX10_goes_105 : decode cX10_goes 105 = .ok (.ifCond .eq 75, 3) := by decide +kernel
theorem dX10_goes_108 : decode cX10_goes 108 = .ok (.aload_n 0, 1) := by decide +kernel
theorem dX10_goes_109 : decode cX10_goes 109 = .ok (.aload_n 0, 1) := by decide +kernel
theorem dX10_goes_110 : decode cX10_goes 110 = .ok (.getfield 206, 3) := by decide +kernel
theorem dX10_goes_113 : decode cX10_goes 113 = .ok (.invokevirtual 209, 3) := by decide +kernel
theorem dX10_goes_116 : decode cX10_goes 116 = .ok (.invokestatic 229, 3) := by decide +kernel
theorem dX10_goes_119 : decode cX10_goes 119 = .ok (.ifCond .eq 53, 3) := by decide +kernel
theorem dX10_goes_122 : decode cX10_goes 122 = .ok (.aload_n 0, 1) := by decide +kernel
theorem dX10_goes_123 : decode cX10_goes 123 = .ok (.getfield 206, 3) := by decide +kernel
theorem dX10_goes_126 : decode cX10_goes 126 = .ok (.aload_n 0, 1) := by decide +kernel
theorem dX10_goes_127 : decode cX10_goes 127 = .ok (.getfield 213, 3) := by decide +kernel
theorem dX10_goes_130 : decode cX10_goes 130 = .ok (.isub, 1) := by decide +kernel
theorem dX10_goes_131 : decode cX10_goes 131 = .ok (.bipush 6, 2) := by decide +kernel
theorem dX10_goes_133 : decode cX10_goes 133 = .ok (.if_icmp .ge 26, 3) := by decide +kernel
theorem dX10_goes_136 : decode cX10_goes 136 = .ok (.aload_n 0, 1) := by decide +kernel
theorem dX10_goes_137 : decode cX10_goes 137 = .ok (.aload_n 0, 1) := by decide +kernel
theorem dX10_goes_138 : decode cX10_goes 138 = .ok (.getfield 216, 3) := by decide +kernel
theorem dX10_goes_141 : decode cX10_goes 141 = .ok (.iconst 5, 1) := by decide +kernel
theorem dX10_goes_142 : decode cX10_goes 142 = .ok (.lshl, 1) := by decide +kernel
theorem dX10_goes_143 : decode cX10_goes 143 = .ok (.aload_n 0, 1) := by decide +kernel
theorem dX10_goes_144 : decode cX10_goes 144 = .ok (.aload_n 0, 1) := by decide +kernel
theorem dX10_goes_145 : decode cX10_goes 145 = .ok (.getfield 206, 3) := by decide +kernel
theorem dX10_goes_148 : decode cX10_goes 148 = .ok (.invokevirtual 209, 3) := by decide +kernel
theorem dX10_goes_151 : decode cX10_goes 151 = .ok (.bipush 96, 2) := by decide +kernel
theorem dX10_goes_153 : decode cX10_goes 153 = .ok (.isub, 1) := by decide +kernel
theorem dX10_goes_154 : decode cX10_goes 154 = .ok (.i2l, 1) := by decide +kernel
theorem dX10_goes_155 : decode cX10_goes 155 = .ok (.lor, 1) := by decide +kernel
theorem dX10_goes_156 : decode cX10_goes 156 = .ok (.putfield 216, 3) := by decide +kernel
theorem dX10_goes_159 : decode cX10_goes 159 = .ok (.aload_n 0, 1) := by decide +kernel
theorem dX10_goes_160 : decode cX10_goes 160 = .ok (.dup, 1) := by decide +kernel
theorem dX10_goes_161 : decode cX10_goes 161 = .ok (.getfield 206, 3) := by decide +kernel
theorem dX10_goes_164 : decode cX10_goes 164 = .ok (.iconst 1, 1) := by decide +kernel
theorem dX10_goes_165 : decode cX10_goes 165 = .ok (.iadd, 1) := by decide +kernel
theorem dX10_goes_166 : decode cX10_goes 166 = .ok (.putfield 206, 3) := by decide +kernel
theorem dX10_goes_169 : decode cX10_goes 169 = .ok (.goto (-61), 3) := by decide +kernel
theorem dX10_goes_172 : decode cX10_goes 172 = .ok (.aload_n 0, 1) := by decide +kernel
theorem dX10_goes_173 : decode cX10_goes 173 = .ok (.iconst 1, 1) := by decide +kernel
theorem dX10_goes_174 : decode cX10_goes 174 = .ok (.putfield 226, 3) := by decide +kernel
theorem dX10_goes_177 : decode cX10_goes 177 = .ok (.goto 154, 3) := by decide +kernel
theorem dX10_goes_180 : decode cX10_goes 180 = .ok (.iload_n 1, 1) := by decide +kernel
theorem dX10_goes_181 : decode cX10_goes 181 = .ok (.invokestatic 233, 3) := by decide +kernel
theorem dX10_goes_184 : decode cX10_goes 184 = .ok (.ifCond .eq 74, 3) := by decide +kernel
theorem dX10_goes_187 : decode cX10_goes 187 = .ok (.aload_n 0, 1) := by decide +kernel
theorem dX10_goes_188 : decode cX10_goes 188 = .ok (.aload_n 0, 1) := by decide +kernel
theorem dX10_goes_189 : decode cX10_goes 189 = .ok (.getfield 206, 3) := by decide +kernel
theorem dX10_goes_192 : decode cX10_goes 192 = .ok (.invokevirtual 209, 3) := by decide +kernel
theorem dX10_goes_195 : decode cX10_goes 195 = .ok (.invokestatic 233, 3) := by decide +kernel
theorem dX10_goes_198 : decode cX10_goes 198 = .ok (.ifCond .eq 52, 3) := by decide +kernel
theorem dX10_goes_201 : decode cX10_goes 201 = .ok (.aload_n 0, 1) := by decide +kernel
theorem dX10_goes_202 : decode cX10_goes 202 = .ok (.getfield 206, 3) := by decide +kernel
theorem dX10_goes_205 : decode cX10_goes 205 = .ok (.aload_n 0, 1) := by decide +kernel
theorem dX10_goes_206 : decode cX10_goes 206 = .ok (.getfield 213, 3) := by decide +kernel
theorem dX10_goes_209 : decode cX10_goes 209 = .ok (.isub, 1) := by decide +kernel
theorem dX10_goes_210 : decode cX10_goes 210 = .ok (.iconst 4, 1) := by decide +kernel
theorem dX10_goes_211 : decode cX10_goes 211 = .ok (.if_icmp .ge 26, 3) := by decide +kernel
theorem dX10_goes_214 : decode cX10_goes 214 = .ok (.aload_n 0, 1) := by decide +kernel
theorem dX10_goes_215 : decode cX10_goes 215 = .ok (.bipush 10, 2) := by decide +kernel
theorem dX10_goes_217 : decode cX10_goes 217 = .ok (.aload_n 0, 1) := by decide +kernel
theorem dX10_goes_218 : decode cX10_goes 218 = .ok (.getfield 220, 3) := by decide +kernel
theorem dX10_goes_221 : decode cX10_goes 221 = .ok (.imul, 1) := by decide +kernel
theorem dX10_goes_222 : decode cX10_goes 222 = .ok (.aload_n 0, 1) := by decide +kernel
theorem dX10_goes_223 : decode cX10_goes 223 = .ok (.aload_n 0, 1) := by decide +kernel
theorem dX10_goes_224 : decode cX10_goes 224 = .ok (.getfield 206, 3) := by decide +kernel
theorem dX10_goes_227 : decode cX10_goes 227 = .ok (.invokevirtual 209, 3) := by decide +kernel
theorem dX10_goes_230 : decode cX10_goes 230 = .ok (.iadd, 1) := by decide +kernel
theorem dX10_goes_231 : decode cX10_goes 231 = .ok (.bipush 48, 2) := by decide +kernel
theorem dX10_goes_233 : decode cX10_goes 233 = .ok (.isub, 1) := by decide +kernel
theorem dX10_goes_234 : decode cX10_goes 234 = .ok (.putfield 220, 3) := by decide +kernel
theorem dX10_goes_237 : decode cX10_goes 237 = .ok (.aload_n 0, 1) := by decide +kernel
theorem dX10_goes_238 : decode cX10_goes 238 = .ok (.dup, 1) := by decide +kernel
theorem dX10_goes_239 : decode cX10_goes 239 = .ok (.getfield 206, 3) := by decide +kernel
theorem dX10_goes_242 : decode cX10_goes 242 = .ok (.iconst 1, 1) := by decide +kernel
theorem dX10_goes_243 : decode cX10_goes 243 = .ok (.iadd, 1) := by decide +kernel
theorem dX10_goes_244 : decode cX10_goes 244 = .ok (.putfield 206, 3) := by decide +kernel
theorem dX10_goes_247 : decode cX10_goes 247 = .ok (.goto (-60), 3) := by decide +kernel
theorem dX10_goes_250 : decode cX10_goes 250 = .ok (.aload_n 0, 1) := by decide +kernel
theorem dX10_goes_251 : decode cX10_goes 251 = .ok (.iconst 2, 1) := by decide +kernel
theorem dX10_goes_252 : decode cX10_goes 252 = .ok (.putfield 226, 3) := by decide +kernel
theorem dX10_goes_255 : decode cX10_goes 255 = .ok (.goto 76, 3) := by decide +kernel
theorem dX10_goes_258 : decode cX10_goes 258 = .ok (.aload_n 0, 1) := by decide +kernel
theorem dX10_goes_259 : decode cX10_goes 259 = .ok (.dup, 1) := by decide +kernel
theorem dX10_goes_260 : decode cX10_goes 260 = .ok (.getfield 206, 3) := by decide +kernel
theorem dX10_goes_263 : decode cX10_goes 263 = .ok (.iconst 1, 1) := by decide +kernel
theorem dX10_goes_264 : decode cX10_goes 264 = .ok (.iadd, 1) := by decide +kernel
theorem dX10_goes_265 : decode cX10_goes 265 = .ok (.putfield 206, 3) := by decide +kernel
theorem dX10_goes_268 : decode cX10_goes 268 = .ok (.aload_n 0, 1) := by decide +kernel
theorem dX10_goes_269 : decode cX10_goes 269 = .ok (.iload_n 1, 1) := by decide +kernel
theorem dX10_goes_270 : decode cX10_goes 270 = .ok (.bipush 59, 2) := by decide +kernel
theorem dX10_goes_272 : decode cX10_goes 272 = .ok (.if_icmp .eq 51, 3) := by decide +kernel
theorem dX10_goes_275 : decode cX10_goes 275 = .ok (.iload_n 1, 1) := by decide +kernel
theorem dX10_goes_276 : decode cX10_goes 276 = .ok (.bipush 40, 2) := by decide +kernel
theorem dX10_goes_278 : decode cX10_goes 278 = .ok (.if_icmp .eq 45, 3) := by decide +kernel
theorem dX10_goes_281 : decode cX10_goes 281 = .ok (.iload_n 1, 1) := by decide +kernel
theorem dX10_goes_282 : decode cX10_goes 282 = .ok (.bipush 41, 2) := by decide +kernel
theorem dX10_goes_284 : decode cX10_goes 284 = .ok (.if_icmp .eq 39, 3) := by decide +kernel
theorem dX10_goes_287 : decode cX10_goes 287 = .ok (.iload_n 1, 1) := by decide +kernel
theorem dX10_goes_288 : decode cX10_goes 288 = .ok (.bipush 43, 2) := by decide +kernel
theorem dX10_goes_290 : decode cX10_goes 290 = .ok (.if_icmp .eq 33, 3) := by decide +kernel
theorem dX10_goes_293 : decode cX10_goes 293 = .ok (.iload_n 1, 1) := by decide +kernel
theorem dX10_goes_294 : decode cX10_goes 294 = .ok (.bipush 45, 2) := by decide +kernel
theorem dX10_goes_296 : decode cX10_goes 296 = .ok (.if_icmp .eq 27, 3) := by decide +kernel
theorem dX10_goes_299 : decode cX10_goes 299 = .ok (.iload_n 1, 1) := by decide +kernel
theorem dX10_goes_300 : decode cX10_goes 300 = .ok (.bipush 42, 2) := by decide +kernel
theorem dX10_goes_302 : decode cX10_goes 302 = .ok (.if_icmp .eq 21, 3) := by decide +kernel
theorem dX10_goes_305 : decode cX10_goes 305 = .ok (.iload_n 1, 1) := by decide +kernel
theorem dX10_goes_306 : decode cX10_goes 306 = .ok (.bipush 47, 2) := by decide +kernel
theorem dX10_goes_308 : decode cX10_goes 308 = .ok (.if_icmp .eq 15, 3) := by decide +kernel
theorem dX10_goes_311 : decode cX10_goes 311 = .ok (.iload_n 1, 1) := by decide +kernel
theorem dX10_goes_312 : decode cX10_goes 312 = .ok (.bipush 60, 2) := by decide +kernel
theorem dX10_goes_314 : decode cX10_goes 314 = .ok (.if_icmp .eq 9, 3) := by decide +kernel
theorem dX10_goes_317 : decode cX10_goes 317 = .ok (.iload_n 1, 1) := by decide +kernel
theorem dX10_goes_318 : decode cX10_goes 318 = .ok (.bipush 61, 2) := by decide +kernel
theorem dX10_goes_320 : decode cX10_goes 320 = .ok (.if_icmp .ne 7, 3) := by decide +kernel
theorem dX10_goes_323 : decode cX10_goes 323 = .ok (.iconst 3, 1) := by decide +kernel
theorem dX10_goes_324 : decode cX10_goes 324 = .ok (.goto 4, 3) := by decide +kernel
theorem dX10_goes_327 : decode cX10_goes 327 = .ok (.iconst 4, 1) := by decide +kernel
theorem dX10_goes_328 : decode cX10_goes 328 = .ok (.putfield 226, 3) := by decide +kernel
theorem dX10_goes_331 : decode cX10_goes 331 = .ok (.aload_n 0, 1) := by decide +kernel
theorem dX10_goes_332 : decode cX10_goes 332 = .ok (.aload_n 0, 1) := by decide +kernel
theorem dX10_goes_333 : decode cX10_goes 333 = .ok (.getfield 206, 3) := by decide +kernel
theorem dX10_goes_336 : decode cX10_goes 336 = .ok (.aload_n 0, 1) := by decide +kernel
theorem dX10_goes_337 : decode cX10_goes 337 = .ok (.getfield 213, 3) := by decide +kernel
theorem dX10_goes_340 : decode cX10_goes 340 = .ok (.isub, 1) := by decide +kernel
theorem dX10_goes_341 : decode cX10_goes 341 = .ok (.putfield 236, 3) := by decide +kernel
theorem dX10_goes_344 : decode cX10_goes 344 = .ok (.return_, 1) := by decide +kernel

set_option maxHeartbeats 4000000 in
set_option maxRecDepth 100000 in
theorem w_goesE {m n : Nat} {kd : mK} {P : mP} {b e : Nat} {Qp : am_Post} {I : mI} {J : mJ} {z1 : Option Value} (hM : kM kd P m) (hbe : b ≤ e) (he : e ≤ 500) (h20 : I m 20 = nI e) (h22 : I m 22 = nI b) (hQ : ∀ (I' : mI) (J' : mJ), I' = va_up I m (va_up (I m) 23 (nI (e - b))) → J' = J → Qp (.inl none) n kd I' J' P) : Ru yX10_goes.cls cX10_goes 2 none yX10_goes.name 3 (Qp) 0 0 331 [some (.ref m), z1] [] n kd I J P := by
  refine r_aload_n dX10_goes_331 rfl ?_
  refine r_aload_n dX10_goes_332 rfl ?_
  refine r_getI dX10_goes_333 fl_X10_206 rfl (kM_0 hM) ?_
  rw [h20]
  refine r_aload_n dX10_goes_336 rfl ?_
  refine r_getI dX10_goes_337 fl_X10_213 rfl (kM_0 hM) ?_
  rw [h22]
  refine r_isub dX10_goes_340 ?_
  rw [pk_sub (by omega)]
  refine r_putI dX10_goes_341 fl_X10_236 rfl rfl (kM_0 hM) ?_
  refine r_vret rfl dX10_goes_344 ?_
  exact hQ _ _ rfl rfl

set_option maxHeartbeats 4000000 in
set_option maxRecDepth 100000 in
theorem w_goesL {m len : Nat} {X : Nat → Int32} {n : Nat} {kd : mK} {P : mP} {I0 : mI} {J0 : mJ} {b e : Nat} {z1 : Option Value} {Qp : am_Post} (hM : kM kd P m) (hL : ∀ j, b ≤ j → j < e → isL (X j) = true) (he : e ≤ len ∧ (e = len ∨ isL (X e) = false)) (hk : ∀ (I : mI) (J : mJ), gIn m len X I → I m 20 = nI e → I m 22 = nI b → J m 26 = jN (pkN X b (min (e - b) 6)) → gFr m I0 I J0 J → Ru yX10_goes.cls cX10_goes 2 none yX10_goes.name 3 (Qp) 0 0 172 [some (.ref m), z1] [] n kd I J P) : ∀ (c i : Nat) (I : mI) (J : mJ), i + c = e → b ≤ i → gIn m len X I → I m 20 = nI i → I m 22 = nI b → J m 26 = jN (pkN X b (min (i - b) 6)) → gFr m I0 I J0 J → Ru yX10_goes.cls cX10_goes 2 none yX10_goes.name 3 (Qp) 0 0 108 [some (.ref m), z1] [] n kd I J P
  | 0, i, I, J, hc, hbi, hg, h20, h22, hJ, hf => by
    have ei : i = e := by omega
    subst ei
    have hl5 := hg.2.1
    refine r_aload_n dX10_goes_108 rfl ?_
    refine r_aload_n dX10_goes_109 rfl ?_
    refine r_getI dX10_goes_110 fl_X10_206 rfl (kM_0 hM) ?_
    rw [h20]
    refine r_virtE (c_byte m len i hM hg.1 hg.2.1 (by omega)) lk_X10_209 mc_X10_byteAt dX10_goes_113 (kM_0 hM) (by decide) rfl rfl (Nat.le_of_ble_eq_true rfl) ?_
    refine r_statE (c_X10_isLetter _) lk_X10_229 mc_X10_isLetter dX10_goes_116 (by decide) rfl rfl (Nat.le_of_ble_eq_true rfl) ?_
    rw [(bA_L hg.2.2).1]
    refine r_if_eq (tgt := 172) dX10_goes_119 (by decide) (fun _ => ?_) (fun hz => absurd (show _ from (by rcases he.2 with q | q; (rw [decide_eq_false (by omega)]; rfl); (rw [q, Bool.and_false]; rfl))) hz)
    exact hk I J hg h20 h22 hJ hf
  | c + 1, i, I, J, hc, hbi, hg, h20, h22, hJ, hf => by
    have hl5 := hg.2.1
    by_cases q6 : i - b < 6
    · skip
      refine r_aload_n dX10_goes_108 rfl ?_
      refine r_aload_n dX10_goes_109 rfl ?_
      refine r_getI dX10_goes_110 fl_X10_206 rfl (kM_0 hM) ?_
      rw [h20]
      refine r_virtE (c_byte m len i hM hg.1 hg.2.1 (by omega)) lk_X10_209 mc_X10_byteAt dX10_goes_113 (kM_0 hM) (by decide) rfl rfl (Nat.le_of_ble_eq_true rfl) ?_
      refine r_statE (c_X10_isLetter _) lk_X10_229 mc_X10_isLetter dX10_goes_116 (by decide) rfl rfl (Nat.le_of_ble_eq_true rfl) ?_
      rw [(bA_L hg.2.2).1]
      refine r_if_eq (tgt := 172) dX10_goes_119 (by decide) (fun hz => absurd hz (show ¬ _ from (by rw [decide_eq_true (show i < len by omega), hL i hbi (by omega)]; decide))) (fun _ => ?_)
      refine r_aload_n dX10_goes_122 rfl ?_
      refine r_getI dX10_goes_123 fl_X10_206 rfl (kM_0 hM) ?_
      rw [h20]
      refine r_aload_n dX10_goes_126 rfl ?_
      refine r_getI dX10_goes_127 fl_X10_213 rfl (kM_0 hM) ?_
      rw [h22]
      refine r_isub dX10_goes_130 ?_
      rw [pk_sub (by omega)]
      refine r_bipush (v := nI 6) dX10_goes_131 (by decide) ?_
      refine r_icmp_ge (tgt := 159) dX10_goes_133 (by decide) (fun hz => absurd hz (show ¬ _ from (by rw [nI_leI (by omega) (by omega)]; omega))) (fun _ => ?_)
      refine r_aload_n dX10_goes_136 rfl ?_
      refine r_aload_n dX10_goes_137 rfl ?_
      refine r_getJ dX10_goes_138 fl_X10_216 rfl (kM_0 hM) ?_
      rw [hJ]
      refine r_iconst (v := nI 5) dX10_goes_141 (by decide) ?_
      refine r_lshl dX10_goes_142 ?_
      refine r_aload_n dX10_goes_143 rfl ?_
      refine r_aload_n dX10_goes_144 rfl ?_
      refine r_getI dX10_goes_145 fl_X10_206 rfl (kM_0 hM) ?_
      rw [h20]
      refine r_virtE (c_byte m len i hM hg.1 hg.2.1 (by omega)) lk_X10_209 mc_X10_byteAt dX10_goes_148 (kM_0 hM) (by decide) rfl rfl (Nat.le_of_ble_eq_true rfl) ?_
      rw [((bA_L hg.2.2).2.2 (show i < len by omega)).2.2.2 (Or.inl (hL i hbi (by omega))), show X i = nI (nO (X i)) from (isL_nO (hL i hbi (by omega))).2.2]
      refine r_bipush (v := nI 96) dX10_goes_151 (by decide) ?_
      refine r_isub dX10_goes_153 ?_
      rw [pk_sub (show 96 ≤ nO (X i) by have := (isL_nO (hL i hbi (by omega))).1; omega)]
      refine r_i2l dX10_goes_154 ?_
      refine r_lor dX10_goes_155 ?_
      rw [jN_push (show nO (X i) - 96 < 32 by have := (isL_nO (hL i hbi (by omega))).2.1; omega)]
      refine r_putJ dX10_goes_156 fl_X10_216 rfl rfl (kM_0 hM) ?_
      refine r_aload_n dX10_goes_159 rfl ?_
      refine r_dup dX10_goes_160 rfl ?_
      refine r_getI dX10_goes_161 fl_X10_206 rfl (kM_0 hM) ?_
      rw [h20]
      refine r_iconst (v := nI 1) dX10_goes_164 (by decide) ?_
      refine r_iadd dX10_goes_165 ?_
      rw [nI_add]
      refine r_putI dX10_goes_166 fl_X10_206 rfl rfl (kM_0 hM) ?_
      refine r_goto (tgt := 108) dX10_goes_169 (by decide) ?_
      exact w_goesL hM hL he hk c (i + 1) _ _ (by omega) (by omega) (hg.fr (J := J) (J' := J) (gFr.pI (by decide))) (by rw [am_up_s, am_up_s]) (by rw [am_up_s, am_up_n _ _ (by decide)]; exact h22) (by rw [am_up_s, am_up_s, show min (i + 1 - b) 6 = (i - b) + 1 by omega, show min (i - b) 6 = i - b by omega]; show jN _ = jN (32 * pkN X b (i - b) + (nO (X (b + (i - b))) - 96)); rw [show b + (i - b) = i by omega]) ((hf.tr gFr.pJ).tr (gFr.pI (by decide)))
    · skip
      refine r_aload_n dX10_goes_108 rfl ?_
      refine r_aload_n dX10_goes_109 rfl ?_
      refine r_getI dX10_goes_110 fl_X10_206 rfl (kM_0 hM) ?_
      rw [h20]
      refine r_virtE (c_byte m len i hM hg.1 hg.2.1 (by omega)) lk_X10_209 mc_X10_byteAt dX10_goes_113 (kM_0 hM) (by decide) rfl rfl (Nat.le_of_ble_eq_true rfl) ?_
      refine r_statE (c_X10_isLetter _) lk_X10_229 mc_X10_isLetter dX10_goes_116 (by decide) rfl rfl (Nat.le_of_ble_eq_true rfl) ?_
      rw [(bA_L hg.2.2).1]
      refine r_if_eq (tgt := 172) dX10_goes_119 (by decide) (fun hz => absurd hz (show ¬ _ from (by rw [decide_eq_true (show i < len by omega), hL i hbi (by omega)]; decide))) (fun _ => ?_)
      refine r_aload_n dX10_goes_122 rfl ?_
      refine r_getI dX10_goes_123 fl_X10_206 rfl (kM_0 hM) ?_
      rw [h20]
      refine r_aload_n dX10_goes_126 rfl ?_
      refine r_getI dX10_goes_127 fl_X10_213 rfl (kM_0 hM) ?_
      rw [h22]
      refine r_isub dX10_goes_130 ?_
      rw [pk_sub (by omega)]
      refine r_bipush (v := nI 6) dX10_goes_131 (by decide) ?_
      refine r_icmp_ge (tgt := 159) dX10_goes_133 (by decide) (fun _ => ?_) (fun hz => absurd (show _ from (by rw [nI_leI (by omega) (by omega)]; omega)) hz)
      refine r_aload_n dX10_goes_159 rfl ?_
      refine r_dup dX10_goes_160 rfl ?_
      refine r_getI dX10_goes_161 fl_X10_206 rfl (kM_0 hM) ?_
      rw [h20]
      refine r_iconst (v := nI 1) dX10_goes_164 (by decide) ?_
      refine r_iadd dX10_goes_165 ?_
      rw [nI_add]
      refine r_putI dX10_goes_166 fl_X10_206 rfl rfl (kM_0 hM) ?_
      refine r_goto (tgt := 108) dX10_goes_169 (by decide) ?_
      exact w_goesL hM hL he hk c (i + 1) _ _ (by omega) (by omega) (hg.fr (J := J) (J' := J) (gFr.pI (by decide))) (by rw [am_up_s, am_up_s]) (by rw [am_up_s, am_up_n _ _ (by decide)]; exact h22) (by rw [hJ, show min (i + 1 - b) 6 = min (i - b) 6 by omega]) (hf.tr (gFr.pI (by decide)))

set_option maxHeartbeats 4000000 in
set_option maxRecDepth 100000 in
theorem w_goesD {m len : Nat} {X : Nat → Int32} {n : Nat} {kd : mK} {P : mP} {I0 : mI} {J0 : mJ} {b e : Nat} {z1 : Option Value} {Qp : am_Post} (hM : kM kd P m) (hL : ∀ j, b ≤ j → j < e → isD (X j) = true) (he : e ≤ len ∧ (e = len ∨ isD (X e) = false)) (hk : ∀ (I : mI) (J : mJ), gIn m len X I → I m 20 = nI e → I m 22 = nI b → I m 24 = nv X b (min (e - b) 4) → gFr m I0 I J0 J → Ru yX10_goes.cls cX10_goes 2 none yX10_goes.name 3 (Qp) 0 0 250 [some (.ref m), z1] [] n kd I J P) : ∀ (c i : Nat) (I : mI) (J : mJ), i + c = e → b ≤ i → gIn m len X I → I m 20 = nI i → I m 22 = nI b → I m 24 = nv X b (min (i - b) 4) → gFr m I0 I J0 J → Ru yX10_goes.cls cX10_goes 2 none yX10_goes.name 3 (Qp) 0 0 187 [some (.ref m), z1] [] n kd I J P
  | 0, i, I, J, hc, hbi, hg, h20, h22, hV, hf => by
    have ei : i = e := by omega
    subst ei
    have hl5 := hg.2.1
    refine r_aload_n dX10_goes_187 rfl ?_
    refine r_aload_n dX10_goes_188 rfl ?_
    refine r_getI dX10_goes_189 fl_X10_206 rfl (kM_0 hM) ?_
    rw [h20]
    refine r_virtE (c_byte m len i hM hg.1 hg.2.1 (by omega)) lk_X10_209 mc_X10_byteAt dX10_goes_192 (kM_0 hM) (by decide) rfl rfl (Nat.le_of_ble_eq_true rfl) ?_
    refine r_statE (c_X10_isDigit _) lk_X10_233 mc_X10_isDigit dX10_goes_195 (by decide) rfl rfl (Nat.le_of_ble_eq_true rfl) ?_
    rw [(bA_L hg.2.2).2.1]
    refine r_if_eq (tgt := 250) dX10_goes_198 (by decide) (fun _ => ?_) (fun hz => absurd (show _ from (by rcases he.2 with q | q; (rw [decide_eq_false (by omega)]; rfl); (rw [q, Bool.and_false]; rfl))) hz)
    exact hk I J hg h20 h22 hV hf
  | c + 1, i, I, J, hc, hbi, hg, h20, h22, hV, hf => by
    have hl5 := hg.2.1
    by_cases q4 : i - b < 4
    · skip
      refine r_aload_n dX10_goes_187 rfl ?_
      refine r_aload_n dX10_goes_188 rfl ?_
      refine r_getI dX10_goes_189 fl_X10_206 rfl (kM_0 hM) ?_
      rw [h20]
      refine r_virtE (c_byte m len i hM hg.1 hg.2.1 (by omega)) lk_X10_209 mc_X10_byteAt dX10_goes_192 (kM_0 hM) (by decide) rfl rfl (Nat.le_of_ble_eq_true rfl) ?_
      refine r_statE (c_X10_isDigit _) lk_X10_233 mc_X10_isDigit dX10_goes_195 (by decide) rfl rfl (Nat.le_of_ble_eq_true rfl) ?_
      rw [(bA_L hg.2.2).2.1]
      refine r_if_eq (tgt := 250) dX10_goes_198 (by decide) (fun hz => absurd hz (show ¬ _ from (by rw [decide_eq_true (show i < len by omega), hL i hbi (by omega)]; decide))) (fun _ => ?_)
      refine r_aload_n dX10_goes_201 rfl ?_
      refine r_getI dX10_goes_202 fl_X10_206 rfl (kM_0 hM) ?_
      rw [h20]
      refine r_aload_n dX10_goes_205 rfl ?_
      refine r_getI dX10_goes_206 fl_X10_213 rfl (kM_0 hM) ?_
      rw [h22]
      refine r_isub dX10_goes_209 ?_
      rw [pk_sub (by omega)]
      refine r_iconst (v := nI 4) dX10_goes_210 (by decide) ?_
      refine r_icmp_ge (tgt := 237) dX10_goes_211 (by decide) (fun hz => absurd hz (show ¬ _ from (by rw [nI_leI (by omega) (by omega)]; omega))) (fun _ => ?_)
      refine r_aload_n dX10_goes_214 rfl ?_
      refine r_bipush (v := nI 10) dX10_goes_215 (by decide) ?_
      refine r_aload_n dX10_goes_217 rfl ?_
      refine r_getI dX10_goes_218 fl_X10_220 rfl (kM_0 hM) ?_
      rw [hV]
      refine r_imul dX10_goes_221 ?_
      refine r_aload_n dX10_goes_222 rfl ?_
      refine r_aload_n dX10_goes_223 rfl ?_
      refine r_getI dX10_goes_224 fl_X10_206 rfl (kM_0 hM) ?_
      rw [h20]
      refine r_virtE (c_byte m len i hM hg.1 hg.2.1 (by omega)) lk_X10_209 mc_X10_byteAt dX10_goes_227 (kM_0 hM) (by decide) rfl rfl (Nat.le_of_ble_eq_true rfl) ?_
      rw [((bA_L hg.2.2).2.2 (show i < len by omega)).2.2.2 (Or.inr (Or.inl (hL i hbi (by omega))))]
      refine r_iadd dX10_goes_230 ?_
      refine r_bipush (v := nI 48) dX10_goes_231 (by decide) ?_
      refine r_isub dX10_goes_233 ?_
      refine r_putI dX10_goes_234 fl_X10_220 rfl rfl (kM_0 hM) ?_
      refine r_aload_n dX10_goes_237 rfl ?_
      refine r_dup dX10_goes_238 rfl ?_
      refine r_getI dX10_goes_239 fl_X10_206 rfl (kM_0 hM) ?_
      rw [show (va_up I m (va_up (I m) 24 (nI 10 * nv X b (min (i - b) 4) + X i - nI 48))) m 20 = nI i from by rw [am_up_s, am_up_n _ _ (by decide)]; exact h20]
      refine r_iconst (v := nI 1) dX10_goes_242 (by decide) ?_
      refine r_iadd dX10_goes_243 ?_
      rw [nI_add]
      refine r_putI dX10_goes_244 fl_X10_206 rfl rfl (kM_0 hM) ?_
      rw [am_up_s, am_up_up]
      refine r_goto (tgt := 187) dX10_goes_247 (by decide) ?_
      have hfr : gFr m I (va_up I m (va_up (va_up (I m) 24 (nI 10 * nv X b (min (i - b) 4) + X i - nI 48)) 20 (nI (i + 1)))) J J := ⟨fun a ha => am_up_n _ _ ha, fun j hj => by rw [am_up_s, am_up_n _ _ (by omega), am_up_n _ _ (by omega)], fun _ _ => rfl, fun _ _ => rfl⟩
      exact w_goesD hM hL he hk c (i + 1) _ _ (by omega) (by omega) (hg.fr hfr) (by rw [am_up_s, am_up_s]) (by rw [am_up_s, am_up_n _ _ (by decide), am_up_n _ _ (by decide)]; exact h22) (by rw [am_up_s, am_up_n _ _ (by decide), am_up_s, show min (i + 1 - b) 4 = (i - b) + 1 by omega, show min (i - b) 4 = i - b by omega]; show _ = nI 10 * nv X b (i - b) + X (b + (i - b)) - nI 48; rw [show b + (i - b) = i by omega]) (hf.tr hfr)
    · skip
      refine r_aload_n dX10_goes_187 rfl ?_
      refine r_aload_n dX10_goes_188 rfl ?_
      refine r_getI dX10_goes_189 fl_X10_206 rfl (kM_0 hM) ?_
      rw [h20]
      refine r_virtE (c_byte m len i hM hg.1 hg.2.1 (by omega)) lk_X10_209 mc_X10_byteAt dX10_goes_192 (kM_0 hM) (by decide) rfl rfl (Nat.le_of_ble_eq_true rfl) ?_
      refine r_statE (c_X10_isDigit _) lk_X10_233 mc_X10_isDigit dX10_goes_195 (by decide) rfl rfl (Nat.le_of_ble_eq_true rfl) ?_
      rw [(bA_L hg.2.2).2.1]
      refine r_if_eq (tgt := 250) dX10_goes_198 (by decide) (fun hz => absurd hz (show ¬ _ from (by rw [decide_eq_true (show i < len by omega), hL i hbi (by omega)]; decide))) (fun _ => ?_)
      refine r_aload_n dX10_goes_201 rfl ?_
      refine r_getI dX10_goes_202 fl_X10_206 rfl (kM_0 hM) ?_
      rw [h20]
      refine r_aload_n dX10_goes_205 rfl ?_
      refine r_getI dX10_goes_206 fl_X10_213 rfl (kM_0 hM) ?_
      rw [h22]
      refine r_isub dX10_goes_209 ?_
      rw [pk_sub (by omega)]
      refine r_iconst (v := nI 4) dX10_goes_210 (by decide) ?_
      refine r_icmp_ge (tgt := 237) dX10_goes_211 (by decide) (fun _ => ?_) (fun hz => absurd (show _ from (by rw [nI_leI (by omega) (by omega)]; omega)) hz)
      refine r_aload_n dX10_goes_237 rfl ?_
      refine r_dup dX10_goes_238 rfl ?_
      refine r_getI dX10_goes_239 fl_X10_206 rfl (kM_0 hM) ?_
      rw [h20]
      refine r_iconst (v := nI 1) dX10_goes_242 (by decide) ?_
      refine r_iadd dX10_goes_243 ?_
      rw [nI_add]
      refine r_putI dX10_goes_244 fl_X10_206 rfl rfl (kM_0 hM) ?_
      refine r_goto (tgt := 187) dX10_goes_247 (by decide) ?_
      have hfr : gFr m I (va_up I m (va_up (I m) 20 (nI (i + 1)))) J J := gFr.pI (by decide)
      exact w_goesD hM hL he hk c (i + 1) _ _ (by omega) (by omega) (hg.fr hfr) (by rw [am_up_s, am_up_s]) (by rw [am_up_s, am_up_n _ _ (by decide)]; exact h22) (by rw [am_up_s, am_up_n _ _ (by decide), hV, show min (i + 1 - b) 4 = min (i - b) 4 by omega]) (hf.tr hfr)

