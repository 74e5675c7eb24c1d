/-! STREET: bytes of the tape, words as the reference packs them -/
def tpR (len : Nat) (X Xr : Nat → Int32) : Prop := ∀ j, j < len → ∃ t, t < 256 ∧ X j = sBy t ∧ Xr j = nI t
theorem byt : ∀ t, t < 256 → isL (sBy t) = isL (nI t) ∧ isD (sBy t) = isD (nI t) ∧ isG (sBy t) = isG (nI t) ∧ (sBy t = nI 32 ↔ t = 32) ∧ (sBy t = nI 10 ↔ t = 10) ∧ ((isL (nI t) = true ∨ isD (nI t) = true ∨ isG (nI t) = true) → sBy t = nI t) := by decide +kernel
def pkN (X : Nat → Int32) (b : Nat) : Nat → Nat
  | 0 => 0
  | k + 1 => 32 * pkN X b k + (nO (X (b + k)) - 96)
def kwd (x : Int64) : Int32 := if x = 267845 then nI 0 else if x = 72564293 then nI 1 else if x = 1265842 then nI 2 else if x = 638419 then nI 3 else if x = 4360851 then nI 4 else if x = 441972 then nI 5 else if x = 486 then nI 6 else if x = 719725925 then nI 7 else if x = 8902245 then nI 8 else if x = 624435 then nI 9 else if x = 1476 then nI 10 else if x = 498 then nI 11 else if x = 14836 then nI 12 else -1
def kwI (k : Int32) : Int32 := if k = nI 136 then nI 0 else if k = nI 137 then nI 1 else if k = nI 138 then nI 2 else if k = nI 139 then nI 3 else if k = nI 140 then nI 4 else if k = nI 129 then nI 5 else if k = nI 141 then nI 6 else if k = nI 130 then nI 7 else if k = nI 131 then nI 8 else if k = nI 132 then nI 9 else if k = nI 134 then nI 10 else if k = nI 133 then nI 11 else if k = nI 135 then nI 12 else -1
theorem isL_nO {x : Int32} (h : isL x = true) : 97 ≤ nO x ∧ nO x ≤ 122 ∧ x = nI (nO x) := by
  unfold isL at h
  rw [Bool.and_eq_true, Bool.not_eq_true', Bool.not_eq_true', decide_eq_false_iff_not, decide_eq_false_iff_not] at h
  have hx := nO_eq x
  have hl : nO x < 2 ^ 32 := x.toBitVec.isLt
  have h1 : (nI 97).toInt ≤ x.toInt := Int32.le_iff_toInt_le.mp (Int32.not_lt.mp h.1)
  have h2 : x.toInt ≤ (nI 122).toInt := Int32.le_iff_toInt_le.mp (Int32.not_lt.mp h.2)
  have e : x.toInt = if 2 * nO x < 2 ^ 32 then (nO x : Int) else (nO x : Int) - (2 ^ 32 : Nat) := BitVec.toInt_eq_toNat_cond x.toBitVec
  have e1 : (nI 97).toInt = 97 := by decide
  have e2 : (nI 122).toInt = 122 := by decide
  rw [e1, e] at h1
  rw [e2, e] at h2
  split at h1 <;> split at h2 <;> exact ⟨by omega, by omega, hx.symm⟩
theorem pkN_lt (X : Nat → Int32) (b : Nat) : ∀ n, (∀ j, j < n → isL (X (b + j)) = true) → pkN X b n < 32 ^ n
  | 0, _ => by show 0 < 1; decide
  | n + 1, h => by
    have ih := pkN_lt X b n (fun j hj => h j (by omega))
    have hx := isL_nO (h n (by omega))
    show 32 * pkN X b n + _ < 32 ^ (n + 1)
    rw [Nat.pow_succ]
    omega
theorem pkN_inj {X Y : Nat → Int32} {b c : Nat} : ∀ (n k : Nat), (∀ j, j < n → isL (X (b + j)) = true) → (∀ j, j < k → isL (Y (c + j)) = true) → pkN X b n = pkN Y c k → n = k ∧ ∀ j, j < n → X (b + j) = Y (c + j)
  | 0, 0, _, _, _ => ⟨rfl, fun j hj => absurd hj (Nat.not_lt_zero j)⟩
  | 0, k + 1, _, hy, h => by
    have h : 0 = 32 * pkN Y c k + (nO (Y (c + k)) - 96) := h
    have := isL_nO (hy k (by omega))
    omega
  | n + 1, 0, hx, _, h => by
    have h : 32 * pkN X b n + (nO (X (b + n)) - 96) = 0 := h
    have := isL_nO (hx n (by omega))
    omega
  | n + 1, k + 1, hx, hy, h => by
    have h : 32 * pkN X b n + (nO (X (b + n)) - 96) = 32 * pkN Y c k + (nO (Y (c + k)) - 96) := h
    have h1 := isL_nO (hx n (by omega))
    have h2 := isL_nO (hy k (by omega))
    have ih := pkN_inj n k (fun j hj => hx j (by omega)) (fun j hj => hy j (by omega)) (show pkN X b n = pkN Y c k by omega)
    refine ⟨by omega, fun j hj => ?_⟩
    by_cases q : j = n
    · rw [q, h1.2.2, show n = k from ih.1, h2.2.2]
      congr 1
      rw [← ih.1]
      have e : nO (X (b + n)) = nO (Y (c + k)) := by omega
      rw [ih.1] at e ⊢
      exact e
    · exact ih.2 j (by omega)
theorem splF_iff {X : Nat → Int32} {w b : Nat} : ∀ (k j : Nat), splF X w b k j = true ↔ ∀ i, j ≤ i → i < j + k → X (b + i) = sC w i
  | 0, j => ⟨fun _ i h1 h2 => by omega, fun _ => rfl⟩
  | k + 1, j => by
    unfold splF
    rw [Bool.and_eq_true, decide_eq_true_eq, splF_iff k (j + 1)]
    constructor
    · rintro ⟨h1, h2⟩ i h3 h4
      by_cases q : i = j
      · rw [q]; exact h1
      · exact h2 i (by omega) (by omega)
    · intro h
      exact ⟨h j (Nat.le_refl _) (by omega), fun i h3 h4 => h i (by omega) (by omega)⟩
theorem sC_L : ∀ w, w < 13 → ∀ j, j < sN w → isL (sC w (0 + j)) = true := by decide +kernel
theorem sN_6 : ∀ w, w < 13 → sN w ≤ 6 := by decide
/-- a word is spelled where its packing stands -/
theorem spl_pk {X : Nat → Int32} {w b n : Nat} (hw : w < 13) (hX : ∀ j, j < n → isL (X (b + j)) = true) : spl X w b (b + n) = true ↔ pkN X b n = pkN (sC w) 0 (sN w) := by
  unfold spl
  rw [Bool.and_eq_true, decide_eq_true_eq, splF_iff, Nat.add_sub_cancel_left]
  constructor
  · rintro ⟨h1, h2⟩
    rw [h1]
    have key : ∀ k, k ≤ sN w → pkN X b k = pkN (sC w) 0 k := by
      intro k
      induction k with
      | zero => intro _; rfl
      | succ k ih =>
        intro hk
        show 32 * pkN X b k + _ = 32 * pkN (sC w) 0 k + _
        rw [ih (by omega), h2 k (Nat.zero_le _) (by omega), Nat.zero_add]
    exact key _ (Nat.le_refl _)
  · intro h
    have := pkN_inj n (sN w) hX (sC_L w hw) h
    refine ⟨this.1, fun i _ hi => ?_⟩
    have h2 := this.2 i (by omega)
    rw [Nat.zero_add] at h2
    exact h2
theorem jN_pk : ∀ d, d < 32 → (nI d).toInt64 = jN d := by decide +kernel
theorem jN_push {a d : Nat} (hd : d < 32) : (jN a <<< ((nI 5).toInt64 &&& 63)) ||| (nI d).toInt64 = jN (32 * a + d) := by
  rw [jN_pk d hd]
  refine lb_ext (fun i hi => ?_)
  rw [lb_or, lb_shl 5 (by decide) _ hi, lb_jN _ hi, lb_jN _ hi, show 32 * a + d = a <<< 5 ||| d by rw [← Nat.shiftLeft_add_eq_or_of_lt (show d < 2 ^ 5 from hd), Nat.shiftLeft_eq]; omega, Nat.testBit_or, Nat.testBit_shiftLeft]
  by_cases q : 5 ≤ i
  · rw [lb_jN _ (by omega)]
  · rw [decide_eq_false q, Bool.false_and, Bool.false_and]
set_option maxHeartbeats 4000000 in
set_option maxRecDepth 100000 in
theorem kwd_kow {X : Nat → Int32} {b n : Nat} (hn : n ≤ 6) (hX : ∀ j, j < n → isL (X (b + j)) = true) : kwd (jN (pkN X b n)) = kwI (kow X b (b + n)) := by
  have hl : pkN X b n < 2 ^ 63 := Nat.lt_of_lt_of_le (pkN_lt X b n hX) (Nat.le_trans (Nat.pow_le_pow_right (by decide) hn) (by decide))
  unfold kow kwL
  unfold kwF
  by_cases s0 : spl X 0 b (b + n) = true
  · rw [if_pos s0, (spl_pk (by decide) hX).mp s0]
    decide +kernel
  rw [if_neg s0]
  unfold kwF
  by_cases s1 : spl X 1 b (b + n) = true
  · rw [if_pos s1, (spl_pk (by decide) hX).mp s1]
    decide +kernel
  rw [if_neg s1]
  unfold kwF
  by_cases s2 : spl X 2 b (b + n) = true
  · rw [if_pos s2, (spl_pk (by decide) hX).mp s2]
    decide +kernel
  rw [if_neg s2]
  unfold kwF
  by_cases s3 : spl X 3 b (b + n) = true
  · rw [if_pos s3, (spl_pk (by decide) hX).mp s3]
    decide +kernel
  rw [if_neg s3]
  unfold kwF
  by_cases s4 : spl X 4 b (b + n) = true
  · rw [if_pos s4, (spl_pk (by decide) hX).mp s4]
    decide +kernel
  rw [if_neg s4]
  unfold kwF
  by_cases s5 : spl X 5 b (b + n) = true
  · rw [if_pos s5, (spl_pk (by decide) hX).mp s5]
    decide +kernel
  rw [if_neg s5]
  unfold kwF
  by_cases s6 : spl X 6 b (b + n) = true
  · rw [if_pos s6, (spl_pk (by decide) hX).mp s6]
    decide +kernel
  rw [if_neg s6]
  unfold kwF
  by_cases s7 : spl X 7 b (b + n) = true
  · rw [if_pos s7, (spl_pk (by decide) hX).mp s7]
    decide +kernel
  rw [if_neg s7]
  unfold kwF
  by_cases s8 : spl X 8 b (b + n) = true
  · rw [if_pos s8, (spl_pk (by decide) hX).mp s8]
    decide +kernel
  rw [if_neg s8]
  unfold kwF
  by_cases s9 : spl X 9 b (b + n) = true
  · rw [if_pos s9, (spl_pk (by decide) hX).mp s9]
    decide +kernel
  rw [if_neg s9]
  unfold kwF
  by_cases s10 : spl X 10 b (b + n) = true
  · rw [if_pos s10, (spl_pk (by decide) hX).mp s10]
    decide +kernel
  rw [if_neg s10]
  unfold kwF
  by_cases s11 : spl X 11 b (b + n) = true
  · rw [if_pos s11, (spl_pk (by decide) hX).mp s11]
    decide +kernel
  rw [if_neg s11]
  unfold kwF
  by_cases s12 : spl X 12 b (b + n) = true
  · rw [if_pos s12, (spl_pk (by decide) hX).mp s12]
    decide +kernel
  rw [if_neg s12]
  unfold kwF kwd
  rw [if_neg (show ¬ jN (pkN X b n) = 267845 from fun q => s7 ((spl_pk (by decide) hX).mpr ((jN_inj hl (by decide) (q.trans (show (267845 : Int64) = jN 267845 by decide +kernel))).trans (by decide +kernel))))]
  rw [if_neg (show ¬ jN (pkN X b n) = 72564293 from fun q => s8 ((spl_pk (by decide) hX).mpr ((jN_inj hl (by decide) (q.trans (show (72564293 : Int64) = jN 72564293 by decide +kernel))).trans (by decide +kernel))))]
  rw [if_neg (show ¬ jN (pkN X b n) = 1265842 from fun q => s9 ((spl_pk (by decide) hX).mpr ((jN_inj hl (by decide) (q.trans (show (1265842 : Int64) = jN 1265842 by decide +kernel))).trans (by decide +kernel))))]
  rw [if_neg (show ¬ jN (pkN X b n) = 638419 from fun q => s10 ((spl_pk (by decide) hX).mpr ((jN_inj hl (by decide) (q.trans (show (638419 : Int64) = jN 638419 by decide +kernel))).trans (by decide +kernel))))]
  rw [if_neg (show ¬ jN (pkN X b n) = 4360851 from fun q => s11 ((spl_pk (by decide) hX).mpr ((jN_inj hl (by decide) (q.trans (show (4360851 : Int64) = jN 4360851 by decide +kernel))).trans (by decide +kernel))))]
  rw [if_neg (show ¬ jN (pkN X b n) = 441972 from fun q => s0 ((spl_pk (by decide) hX).mpr ((jN_inj hl (by decide) (q.trans (show (441972 : Int64) = jN 441972 by decide +kernel))).trans (by decide +kernel))))]
  rw [if_neg (show ¬ jN (pkN X b n) = 486 from fun q => s12 ((spl_pk (by decide) hX).mpr ((jN_inj hl (by decide) (q.trans (show (486 : Int64) = jN 486 by decide +kernel))).trans (by decide +kernel))))]
  rw [if_neg (show ¬ jN (pkN X b n) = 719725925 from fun q => s1 ((spl_pk (by decide) hX).mpr ((jN_inj hl (by decide) (q.trans (show (719725925 : Int64) = jN 719725925 by decide +kernel))).trans (by decide +kernel))))]
  rw [if_neg (show ¬ jN (pkN X b n) = 8902245 from fun q => s2 ((spl_pk (by decide) hX).mpr ((jN_inj hl (by decide) (q.trans (show (8902245 : Int64) = jN 8902245 by decide +kernel))).trans (by decide +kernel))))]
  rw [if_neg (show ¬ jN (pkN X b n) = 624435 from fun q => s3 ((spl_pk (by decide) hX).mpr ((jN_inj hl (by decide) (q.trans (show (624435 : Int64) = jN 624435 by decide +kernel))).trans (by decide +kernel))))]
  rw [if_neg (show ¬ jN (pkN X b n) = 1476 from fun q => s5 ((spl_pk (by decide) hX).mpr ((jN_inj hl (by decide) (q.trans (show (1476 : Int64) = jN 1476 by decide +kernel))).trans (by decide +kernel))))]
  rw [if_neg (show ¬ jN (pkN X b n) = 498 from fun q => s4 ((spl_pk (by decide) hX).mpr ((jN_inj hl (by decide) (q.trans (show (498 : Int64) = jN 498 by decide +kernel))).trans (by decide +kernel))))]
  rw [if_neg (show ¬ jN (pkN X b n) = 14836 from fun q => s6 ((spl_pk (by decide) hX).mpr ((jN_inj hl (by decide) (q.trans (show (14836 : Int64) = jN 14836 by decide +kernel))).trans (by decide +kernel))))]
  decide

theorem kow_long {X : Nat → Int32} {b n : Nat} (hn : 6 < n) : kow X b (b + n) = nI 128 := by
  have h : ∀ w, w < 13 → ¬ spl X w b (b + n) = true := fun w hw q => by
    unfold spl at q
    rw [Bool.and_eq_true, decide_eq_true_eq, Nat.add_sub_cancel_left] at q
    have := sN_6 w hw
    omega
  unfold kow kwL
  unfold kwF
  rw [if_neg (h 0 (by decide))]
  unfold kwF
  rw [if_neg (h 1 (by decide))]
  unfold kwF
  rw [if_neg (h 2 (by decide))]
  unfold kwF
  rw [if_neg (h 3 (by decide))]
  unfold kwF
  rw [if_neg (h 4 (by decide))]
  unfold kwF
  rw [if_neg (h 5 (by decide))]
  unfold kwF
  rw [if_neg (h 6 (by decide))]
  unfold kwF
  rw [if_neg (h 7 (by decide))]
  unfold kwF
  rw [if_neg (h 8 (by decide))]
  unfold kwF
  rw [if_neg (h 9 (by decide))]
  unfold kwF
  rw [if_neg (h 10 (by decide))]
  unfold kwF
  rw [if_neg (h 11 (by decide))]
  unfold kwF
  rw [if_neg (h 12 (by decide))]
  rfl

theorem kow_ge (X : Nat → Int32) (b e : Nat) : ¬ kow X b e < nI 128 ∧ ¬ kow X b e = nI 0 := by
  unfold kow kwL
  unfold kwF
  split
  · decide
  unfold kwF
  split
  · decide
  unfold kwF
  split
  · decide
  unfold kwF
  split
  · decide
  unfold kwF
  split
  · decide
  unfold kwF
  split
  · decide
  unfold kwF
  split
  · decide
  unfold kwF
  split
  · decide
  unfold kwF
  split
  · decide
  unfold kwF
  split
  · decide
  unfold kwF
  split
  · decide
  unfold kwF
  split
  · decide
  unfold kwF
  split
  · decide
  unfold kwF
  decide

