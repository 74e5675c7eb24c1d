/-! LONGS AS SETS; the rows of numberings read back; trailing zeros -/
def jN (w : Nat) : Int64 := Int64.ofNat w
def lb (x : Int64) (i : Nat) : Bool := x.toBitVec.getLsbD i
theorem lb_ext {x y : Int64} (h : ∀ i, i < 64 → lb x i = lb y i) : x = y := Int64.toBitVec_inj.mp (BitVec.eq_of_getLsbD_eq (fun i hi => h i hi))
theorem lb_or (x y : Int64) (i : Nat) : lb (x ||| y) i = (lb x i || lb y i) := by unfold lb; rw [Int64.toBitVec_or, BitVec.getLsbD_or]
theorem lb_and (x y : Int64) (i : Nat) : lb (x &&& y) i = (lb x i && lb y i) := by unfold lb; rw [Int64.toBitVec_and, BitVec.getLsbD_and]
theorem lb_xor (x y : Int64) (i : Nat) : lb (x ^^^ y) i = (lb x i ^^ lb y i) := by unfold lb; rw [Int64.toBitVec_xor, BitVec.getLsbD_xor]
theorem lb_jN (w : Nat) {i : Nat} (hi : i < 64) : lb (jN w) i = w.testBit i := by
  show (BitVec.ofNat 64 w).getLsbD i = _
  rw [BitVec.getLsbD_ofNat]
  simp [hi]
theorem lb_m1 : ∀ i, i < 64 → lb (-1) i = true := by decide +kernel
theorem bt_nI (w : Nat) {i : Nat} (hi : i < 32) : bt (nI w) i = w.testBit i := by
  show (BitVec.ofNat 32 w).getLsbD i = _
  rw [BitVec.getLsbD_ofNat]
  simp [hi]
theorem jN_and (a b : Nat) : jN a &&& jN b = jN (a &&& b) := lb_ext (fun i hi => by rw [lb_and, lb_jN _ hi, lb_jN _ hi, lb_jN _ hi, Nat.testBit_and])
theorem jN_or (a b : Nat) : jN a ||| jN b = jN (a ||| b) := lb_ext (fun i hi => by rw [lb_or, lb_jN _ hi, lb_jN _ hi, lb_jN _ hi, Nat.testBit_or])
theorem jN_dif (a b : Nat) : jN a &&& (jN b ^^^ (-1)) = jN (a ^^^ (a &&& b)) := lb_ext (fun i hi => by
  rw [lb_and, lb_xor, lb_m1 i hi, lb_jN _ hi, lb_jN _ hi, lb_jN _ hi, Nat.testBit_xor, Nat.testBit_and]
  cases a.testBit i <;> cases b.testBit i <;> rfl)
theorem jN_inj {a b : Nat} (ha : a < 2 ^ 63) (hb : b < 2 ^ 63) (h : jN a = jN b) : a = b := tb_ext (fun i => by
  rcases Nat.lt_or_ge i 64 with q | q
  · rw [← lb_jN a q, ← lb_jN b q, h]
  · rw [Nat.testBit_lt_two_pow (Nat.lt_of_lt_of_le ha (Nat.pow_le_pow_right (by decide) (by omega))), Nat.testBit_lt_two_pow (Nat.lt_of_lt_of_le hb (Nat.pow_le_pow_right (by decide) (by omega)))])
theorem jN_0 : jN 0 = 0 := by decide +kernel
theorem jN_1 : jN 1 = 1 := by decide +kernel
theorem jN_sh1 : ∀ i, i < 63 → (1 : Int64) <<< ((nI i).toInt64 &&& 63) = jN (2 ^ i) := by decide +kernel
theorem s_l64 : ∀ n, n < 64 → (((nI n).toInt64 &&& 63).toBitVec.smod 64).toNat = n := by decide +kernel
theorem lb_shl (n : Nat) (hn : n < 64) (x : Int64) {i : Nat} (hi : i < 64) : lb (x <<< ((nI n).toInt64 &&& 63)) i = (decide (n ≤ i) && lb x (i - n)) := by
  unfold lb
  rw [Int64.toBitVec_shiftLeft]
  show (x.toBitVec <<< (((nI n).toInt64 &&& 63).toBitVec.smod 64).toNat).getLsbD i = _
  rw [s_l64 n hn, BitVec.getLsbD_shiftLeft]
  rcases Nat.lt_or_ge i n with h | h
  · simp [h, Nat.not_le.mpr h]
  · simp [hi, h, Nat.not_lt.mpr h]
theorem lb_shr (n : Nat) (hn : n < 64) (x : Int64) {i : Nat} (hi : i + n < 64) : lb (x >>> ((nI n).toInt64 &&& 63)) i = lb x (n + i) := by
  unfold lb
  rw [Int64.toBitVec_shiftRight]
  show (x.toBitVec.sshiftRight (((nI n).toInt64 &&& 63).toBitVec.smod 64).toNat).getLsbD i = _
  rw [s_l64 n hn, BitVec.getLsbD_sshiftRight]
  simp [show i < 64 by omega, show n + i < 64 by omega]
theorem jN_ask (w : Nat) {i : Nat} (hi : i < 64) : (jN w >>> ((nI i).toInt64 &&& 63)) &&& 1 = if w.testBit i then 1 else 0 := by
  apply lb_ext
  intro j hj
  rw [lb_and, ← jN_1, lb_jN 1 hj]
  by_cases h0 : j = 0
  · subst h0
    rw [lb_shr i hi _ (by omega), Nat.add_zero, lb_jN w hi]
    cases w.testBit i <;> decide +kernel
  · rw [(by decide +kernel : ∀ j, j < 64 → j ≠ 0 → (1 : Nat).testBit j = false) j hj h0]
    cases w.testBit i
    · rw [Bool.and_false]; exact (by decide +kernel : ∀ j, j < 64 → false = lb 0 j) j hj
    · rw [Bool.and_false]; exact (by decide +kernel : ∀ j, j < 64 → j ≠ 0 → false = lb (jN 1) j) j hj h0
theorem jN_s1 {a : Nat} (h : 1 ≤ a) : jN a - 1 = jN (a - 1) := by
  obtain ⟨c, rfl⟩ : ∃ c, a = c + 1 := ⟨a - 1, by omega⟩
  have : jN (c + 1) = jN c + 1 := by unfold jN; rw [Int64.ofNat_add]; rfl
  rw [this, Int64.add_sub_cancel, Nat.add_sub_cancel]
theorem jN_one {w : Nat} (hw : w < 2 ^ 40) : jN w &&& (jN w - 1) = 0 ↔ one w = true := by
  unfold one
  rw [decide_eq_true_iff]
  by_cases h0 : w = 0
  · subst h0
    simp [jN_0]
  · rw [jN_s1 (by omega), jN_and, ← jN_0]
    have : w &&& (w - 1) ≤ w := Nat.and_le_left
    exact ⟨fun h => jN_inj (by omega) (by omega) h, fun h => by rw [h]⟩
theorem pkR_lb {N : Nat → Nat} (hN : ∀ j, N j < 32 ∨ 8 ≤ j) : ∀ (H k : Nat), H ≤ 8 → k < 64 → lb (pkR (rN N) H) k = (decide (k / 5 < H) && (N (k / 5)).testBit (k % 5))
  | 0, k, _, hk => by unfold pkR; exact (by simpa using (by decide +kernel : ∀ k, k < 64 → lb 0 k = false) k hk)
  | H + 1, k, hH, hk => by
    unfold pkR
    have e0 : (rN N H).toInt64 = jN (N H) := (by
      have : ∀ v, v < 32 → (nI v).toInt64 = jN v := (by decide +kernel)
      exact this (N H) ((hN H).resolve_right (by omega)))
    have e5 : nI 5 * nI H = nI (5 * H) := pk_mul 5 H
    rw [lb_or, pkR_lb hN H k (by omega) hk, e0, e5, lb_shl (5 * H) (by omega) _ hk]
    rcases Nat.lt_or_ge k (5 * H) with q | q
    · have h1 : k / 5 < H := by omega
      simp [h1, show k / 5 < H + 1 by omega, Nat.not_le.mpr q]
    · have h1 : ¬ k / 5 < H := by omega
      rw [lb_jN _ (by omega)]
      simp only [h1, decide_false, Bool.false_and, Bool.false_or, q, decide_true, Bool.true_and]
      by_cases h2 : k / 5 < H + 1
      · have h3 : k / 5 = H := by omega
        rw [h3]
        simp [show k - 5 * H = k % 5 by omega]
      · simp only [h2, decide_false, Bool.false_and]
        have h32 : N H < 32 := (hN H).resolve_right (by omega)
        exact Nat.testBit_lt_two_pow (Nat.lt_of_lt_of_le h32 (show 2 ^ 5 ≤ 2 ^ (k - 5 * H) from Nat.pow_le_pow_right (by decide) (by omega)))
theorem bt_l2i (x : Int64) {i : Nat} (hi : i < 32) : bt x.toInt32 i = lb x i := by
  unfold bt lb
  show (x.toBitVec.signExtend 32).getLsbD i = _
  rw [BitVec.getLsbD_signExtend]
  simp [hi, show i < 64 by omega]
theorem b_31 : ∀ i, i < 32 → bt (nI 31) i = decide (i < 5) := by decide +kernel
theorem pkR_num {N : Nat → Nat} {H h : Nat} (hN : ∀ j, N j < 32 ∨ 8 ≤ j) (hH : H ≤ 8) (hh : h < H) : (pkR (rN N) H >>> ((nI 5 * nI h).toInt64 &&& 63)).toInt32 &&& nI 31 = nI (N h) := by
  have e5 : nI 5 * nI h = nI (5 * h) := pk_mul 5 h
  have h32 : N h < 32 := (hN h).resolve_right (by omega)
  rw [e5]
  apply b_ext
  intro i hi
  rw [b_and, b_31 i hi, bt_nI _ hi]
  by_cases c : i < 5
  · rw [bt_l2i _ hi, lb_shr (5 * h) (by omega) _ (by omega), pkR_lb hN H _ hH (by omega), show (5 * h + i) / 5 = h by omega, show (5 * h + i) % 5 = i by omega]
    simp [hh, c]
  · simp only [c, decide_false, Bool.and_false]
    exact (Nat.testBit_lt_two_pow (Nat.lt_of_lt_of_le h32 (show 2 ^ 5 ≤ 2 ^ i from Nat.pow_le_pow_right (by decide) (by omega)))).symm
theorem JR_at {H : Nat} {J0 : Nat → Int64} : ∀ (fs : List (Nat → Nat)) (i : Nat), i < fs.length → fs.length ≤ 1000 → JR H J0 fs i = pkR (rN (nmF fs i)) H
  | [], i, hi, _ => nomatch hi
  | N :: fs, i, hi, hl => by
    rw [List.length_cons] at hi hl
    unfold JR
    rw [if_pos (by omega)]
    rcases Nat.lt_or_ge i fs.length with q | q
    · rw [am_up_n _ _ (by omega), JR_at fs i q (by omega)]
      exact congrArg (fun f => pkR f H) (funext fun k => by unfold rN; rw [nmF_lt q])
    · have e : i = fs.length := by omega
      subst e
      rw [am_up_s]
      exact congrArg (fun f => pkR f H) (funext fun k => by unfold rN; rw [nmF_eq])
theorem nrS_out {R B : Nat → Int32} {F : Nat} : ∀ (k a : Nat), (a < 8 * F ∨ 8 * F + k ≤ a) → nrS R B F k a = B a
  | 0, a, _ => rfl
  | k + 1, a, h => by unfold nrS; rw [am_up_n _ _ (by omega), nrS_out k a (by omega)]
theorem nrS_in {R B : Nat → Int32} {F : Nat} : ∀ (k j : Nat), j < k → nrS R B F k (8 * F + j) = R j
  | 0, j, h => nomatch h
  | k + 1, j, h => by
    unfold nrS
    rcases Nat.lt_or_ge j k with q | q
    · rw [am_up_n _ _ (by omega), nrS_in k j q]
    · rw [show j = k by omega, am_up_s]
theorem NR_at {H : Nat} {B0 : Nat → Int32} (hH : H ≤ 8) : ∀ (fs : List (Nat → Nat)) (i h : Nat), i < fs.length → h < H → NR H B0 fs (8 * i + h) = nI (nmF fs i h)
  | [], i, h, hi, _ => nomatch hi
  | N :: fs, i, h, hi, hh => by
    rw [List.length_cons] at hi
    unfold NR
    rcases Nat.lt_or_ge i fs.length with q | q
    · rw [nrS_out _ _ (by omega), NR_at hH fs i h q hh, nmF_lt q]
    · have e : i = fs.length := by omega
      subst e
      rw [nrS_in H h hh, nmF_eq]
      rfl
theorem low_bit {v : Nat} (h : v ≠ 0) : ∃ k, v.testBit k = true ∧ ∀ j, j < k → v.testBit j = false := by
  obtain ⟨i, hi⟩ := Nat.exists_testBit_of_ne_zero h
  have : ∀ n i, i < n → v.testBit i = true → ∃ k, v.testBit k = true ∧ ∀ j, j < k → v.testBit j = false := by
    intro n
    induction n with
    | zero => intro i h; omega
    | succ n ih =>
      intro i h1 h2
      by_cases q : ∃ j, j < i ∧ v.testBit j = true
      · obtain ⟨j, h3, h4⟩ := q
        exact ih j (by omega) h4
      · exact ⟨i, h2, fun j hj => by
          have : ¬ v.testBit j = true := fun z => q ⟨j, hj, z⟩
          simpa using this⟩
  exact this (i + 1) i (by omega) hi
theorem low_split {v k : Nat} (h : v.testBit k = true) (h0 : ∀ j, j < k → v.testBit j = false) : v = 2 ^ (k + 1) * (v / 2 ^ (k + 1)) + 2 ^ k := by
  apply tb_ext
  intro j
  rw [Nat.testBit_two_pow_mul_add _ (Nat.pow_lt_pow_right (by decide) (by omega)) j]
  by_cases q : j < k + 1
  · rw [if_pos q, Nat.testBit_two_pow]
    by_cases q2 : k = j
    · subst q2; simp [h]
    · simp [q2, h0 j (by omega)]
  · rw [if_neg q, Nat.testBit_div_two_pow, show j - (k + 1) + (k + 1) = j by omega]
theorem low_pred {v k : Nat} (h : v.testBit k = true) (h0 : ∀ j, j < k → v.testBit j = false) (j : Nat) : (v - 1).testBit j = if j < k then true else if j = k then false else v.testBit j := by
  have e := low_split h h0
  have hp : 0 < 2 ^ k := Nat.two_pow_pos k
  have h2 : 2 ^ (k + 1) = 2 * 2 ^ k := by rw [Nat.pow_succ]; omega
  have e1 : v - 1 = 2 ^ (k + 1) * (v / 2 ^ (k + 1)) + (2 ^ k - 1) := by omega
  rw [e1, Nat.testBit_two_pow_mul_add _ (by omega) j]
  by_cases q : j < k
  · rw [if_pos (by omega), if_pos q, Nat.testBit_two_pow_sub_one]; simp [q]
  · rw [if_neg q]
    by_cases q2 : j = k
    · rw [if_pos (by omega), if_pos q2, Nat.testBit_two_pow_sub_one]; simp [q]
    · rw [if_neg (by omega), if_neg q2, Nat.testBit_div_two_pow, show j - (k + 1) + (k + 1) = j by omega]
theorem ntz_mask {v k : Nat} (hv : v < 2 ^ 32) (h : v.testBit k = true) (h0 : ∀ j, j < k → v.testBit j = false) : (nI v ^^^ (-1)) &&& (nI v - nI 1) = nI (2 ^ k - 1) := by
  have hv0 : v ≠ 0 := fun z => by rw [z, Nat.zero_testBit] at h; exact nomatch h
  rw [pk_sub (by omega)]
  apply b_ext
  intro j hj
  rw [b_and, b_xor, b_m1 j hj, bt_nI _ hj, bt_nI _ hj, bt_nI _ hj, low_pred h h0, Nat.testBit_two_pow_sub_one]
  by_cases q : j < k
  · simp [q, h0 j q]
  · by_cases q2 : j = k
    · simp [q2]
    · simp [q, q2]
def n4 (x n : Int32) : Int32 := if x ≤ nI 4 then n + (x.toUInt32 >>> ((nI 1).toUInt32 &&& Int32.toUInt32 31)).toInt32 else n + Int32.ofInt 2 + ((x.toUInt32 >>> ((nI 2).toUInt32 &&& Int32.toUInt32 31)).toInt32.toUInt32 >>> ((nI 1).toUInt32 &&& Int32.toUInt32 31)).toInt32
def n16 (x n : Int32) : Int32 := if x ≤ nI 16 then n4 x n else n4 (x.toUInt32 >>> ((nI 4).toUInt32 &&& Int32.toUInt32 31)).toInt32 (n + Int32.ofInt 4)
def n256 (x n : Int32) : Int32 := if x ≤ nI 256 then n16 x n else n16 (x.toUInt32 >>> ((nI 8).toUInt32 &&& Int32.toUInt32 31)).toInt32 (n + Int32.ofInt 8)
def nTz (x : Int32) : Int32 := if 0 < x then (if x ≤ 65536 then n256 x (nI 1) else n256 (x.toUInt32 >>> ((nI 16).toUInt32 &&& Int32.toUInt32 31)).toInt32 (nI 1 + Int32.ofInt 16)) else x &&& nI 32
theorem nTz_k : ∀ k, k < 32 → nTz (nI (2 ^ k - 1)) = nI k := by decide +kernel
theorem dJ6_numberOfTrailingZeros_0f7a4_0 : decode cJ6_numberOfTrailingZeros_0f7a4 0 = .ok (.iload_n 0, 1) := by decide +kernel
theorem dJ6_numberOfTrailingZeros_0f7a4_1 : decode cJ6_numberOfTrailingZeros_0f7a4 1 = .ok (.iconst (-1), 1) := by decide +kernel
theorem dJ6_numberOfTrailingZeros_0f7a4_2 : decode cJ6_numberOfTrailingZeros_0f7a4 2 = .ok (.ixor, 1) := by decide +kernel
theorem dJ6_numberOfTrailingZeros_0f7a4_3 : decode cJ6_numberOfTrailingZeros_0f7a4 3 = .ok (.iload_n 0, 1) := by decide +kernel
theorem dJ6_numberOfTrailingZeros_0f7a4_4 : decode cJ6_numberOfTrailingZeros_0f7a4 4 = .ok (.iconst 1, 1) := by decide +kernel
theorem dJ6_numberOfTrailingZeros_0f7a4_5 : decode cJ6_numberOfTrailingZeros_0f7a4 5 = .ok (.isub, 1) := by decide +kernel
theorem dJ6_numberOfTrailingZeros_0f7a4_6 : decode cJ6_numberOfTrailingZeros_0f7a4 6 = .ok (.iand, 1) := by decide +kernel
theorem dJ6_numberOfTrailingZeros_0f7a4_7 : decode cJ6_numberOfTrailingZeros_0f7a4 7 = .ok (.istore_n 0, 1) := by decide +kernel
theorem dJ6_numberOfTrailingZeros_0f7a4_8 : decode cJ6_numberOfTrailingZeros_0f7a4 8 = .ok (.iload_n 0, 1) := by decide +kernel
theorem dJ6_numberOfTrailingZeros_0f7a4_9 : decode cJ6_numberOfTrailingZeros_0f7a4 9 = .ok (.ifCond .gt 8, 3) := by decide +kernel
theorem dJ6_numberOfTrailingZeros_0f7a4_12 : decode cJ6_numberOfTrailingZeros_0f7a4 12 = .ok (.iload_n 0, 1) := by decide +kernel
theorem dJ6_numberOfTrailingZeros_0f7a4_13 : decode cJ6_numberOfTrailingZeros_0f7a4 13 = .ok (.bipush 32, 2) := by decide +kernel
theorem dJ6_numberOfTrailingZeros_0f7a4_15 : decode cJ6_numberOfTrailingZeros_0f7a4 15 = .ok (.iand, 1) := by decide +kernel
theorem dJ6_numberOfTrailingZeros_0f7a4_16 : decode cJ6_numberOfTrailingZeros_0f7a4 16 = .ok (.ireturn, 1) := by decide +kernel
theorem dJ6_numberOfTrailingZeros_0f7a4_17 : decode cJ6_numberOfTrailingZeros_0f7a4 17 = .ok (.iconst 1, 1) := by decide +kernel
theorem dJ6_numberOfTrailingZeros_0f7a4_18 : decode cJ6_numberOfTrailingZeros_0f7a4 18 = .ok (.istore_n 1, 1) := by decide +kernel
theorem dJ6_numberOfTrailingZeros_0f7a4_19 : decode cJ6_numberOfTrailingZeros_0f7a4 19 = .ok (.iload_n 0, 1) := by decide +kernel
theorem dJ6_numberOfTrailingZeros_0f7a4_20 : decode cJ6_numberOfTrailingZeros_0f7a4 20 = .ok (.ldc_w 264, 3) := by decide +kernel
theorem dJ6_numberOfTrailingZeros_0f7a4_23 : decode cJ6_numberOfTrailingZeros_0f7a4 23 = .ok (.if_icmp .le 11, 3) := by decide +kernel
theorem dJ6_numberOfTrailingZeros_0f7a4_26 : decode cJ6_numberOfTrailingZeros_0f7a4 26 = .ok (.iinc 1 16, 3) := by decide +kernel
theorem dJ6_numberOfTrailingZeros_0f7a4_29 : decode cJ6_numberOfTrailingZeros_0f7a4 29 = .ok (.iload_n 0, 1) := by decide +kernel
theorem dJ6_numberOfTrailingZeros_0f7a4_30 : decode cJ6_numberOfTrailingZeros_0f7a4 30 = .ok (.bipush 16, 2) := by decide +kernel
theorem dJ6_numberOfTrailingZeros_0f7a4_32 : decode cJ6_numberOfTrailingZeros_0f7a4 32 = .ok (.iushr, 1) := by decide +kernel
theorem dJ6_numberOfTrailingZeros_0f7a4_33 : decode cJ6_numberOfTrailingZeros_0f7a4 33 = .ok (.istore_n 0, 1) := by decide +kernel
theorem dJ6_numberOfTrailingZeros_0f7a4_34 : decode cJ6_numberOfTrailingZeros_0f7a4 34 = .ok (.iload_n 0, 1) := by decide +kernel
theorem dJ6_numberOfTrailingZeros_0f7a4_35 : decode cJ6_numberOfTrailingZeros_0f7a4 35 = .ok (.sipush 256, 3) := by decide +kernel
theorem dJ6_numberOfTrailingZeros_0f7a4_38 : decode cJ6_numberOfTrailingZeros_0f7a4 38 = .ok (.if_icmp .le 11, 3) := by decide +kernel
theorem dJ6_numberOfTrailingZeros_0f7a4_41 : decode cJ6_numberOfTrailingZeros_0f7a4 41 = .ok (.iinc 1 8, 3) := by decide +kernel
theorem dJ6_numberOfTrailingZeros_0f7a4_44 : decode cJ6_numberOfTrailingZeros_0f7a4 44 = .ok (.iload_n 0, 1) := by decide +kernel
theorem dJ6_numberOfTrailingZeros_0f7a4_45 : decode cJ6_numberOfTrailingZeros_0f7a4 45 = .ok (.bipush 8, 2) := by decide +kernel
theorem dJ6_numberOfTrailingZeros_0f7a4_47 : decode cJ6_numberOfTrailingZeros_0f7a4 47 = .ok (.iushr, 1) := by decide +kernel
theorem dJ6_numberOfTrailingZeros_0f7a4_48 : decode cJ6_numberOfTrailingZeros_0f7a4 48 = .ok (.istore_n 0, 1) := by decide +kernel
theorem dJ6_numberOfTrailingZeros_0f7a4_49 : decode cJ6_numberOfTrailingZeros_0f7a4 49 = .ok (.iload_n 0, 1) := by decide +kernel
theorem dJ6_numberOfTrailingZeros_0f7a4_50 : decode cJ6_numberOfTrailingZeros_0f7a4 50 = .ok (.bipush 16, 2) := by decide +kernel
theorem dJ6_numberOfTrailingZeros_0f7a4_52 : decode cJ6_numberOfTrailingZeros_0f7a4 52 = .ok (.if_icmp .le 10, 3) := by decide +kernel
theorem dJ6_numberOfTrailingZeros_0f7a4_55 : decode cJ6_numberOfTrailingZeros_0f7a4 55 = .ok (.iinc 1 4, 3) := by decide +kernel
theorem dJ6_numberOfTrailingZeros_0f7a4_58 : decode cJ6_numberOfTrailingZeros_0f7a4 58 = .ok (.iload_n 0, 1) := by decide +kernel
theorem dJ6_numberOfTrailingZeros_0f7a4_59 : decode cJ6_numberOfTrailingZeros_0f7a4 59 = .ok (.iconst 4, 1) := by decide +kernel
theorem dJ6_numberOfTrailingZeros_0f7a4_60 : decode cJ6_numberOfTrailingZeros_0f7a4 60 = .ok (.iushr, 1) := by decide +kernel
theorem dJ6_numberOfTrailingZeros_0f7a4_61 : decode cJ6_numberOfTrailingZeros_0f7a4 61 = .ok (.istore_n 0, 1) := by decide +kernel
theorem dJ6_numberOfTrailingZeros_0f7a4_62 : decode cJ6_numberOfTrailingZeros_0f7a4 62 = .ok (.iload_n 0, 1) := by decide +kernel
theorem dJ6_numberOfTrailingZeros_0f7a4_63 : decode cJ6_numberOfTrailingZeros_0f7a4 63 = .ok (.iconst 4, 1) := by decide +kernel
theorem dJ6_numberOfTrailingZeros_0f7a4_64 : decode cJ6_numberOfTrailingZeros_0f7a4 64 = .ok (.if_icmp .le 10, 3) := by decide +kernel
theorem dJ6_numberOfTrailingZeros_0f7a4_67 : decode cJ6_numberOfTrailingZeros_0f7a4 67 = .ok (.iinc 1 2, 3) := by decide +kernel
theorem dJ6_numberOfTrailingZeros_0f7a4_70 : decode cJ6_numberOfTrailingZeros_0f7a4 70 = .ok (.iload_n 0, 1) := by decide +kernel
theorem dJ6_numberOfTrailingZeros_0f7a4_71 : decode cJ6_numberOfTrailingZeros_0f7a4 71 = .ok (.iconst 2, 1) := by decide +kernel
theorem dJ6_numberOfTrailingZeros_0f7a4_72 : decode cJ6_numberOfTrailingZeros_0f7a4 72 = .ok (.iushr, 1) := by decide +kernel
theorem dJ6_numberOfTrailingZeros_0f7a4_73 : decode cJ6_numberOfTrailingZeros_0f7a4 73 = .ok (.istore_n 0, 1) := by decide +kernel
theorem dJ6_numberOfTrailingZeros_0f7a4_74 : decode cJ6_numberOfTrailingZeros_0f7a4 74 = .ok (.iload_n 1, 1) := by decide +kernel
theorem dJ6_numberOfTrailingZeros_0f7a4_75 : decode cJ6_numberOfTrailingZeros_0f7a4 75 = .ok (.iload_n 0, 1) := by decide +kernel
theorem dJ6_numberOfTrailingZeros_0f7a4_76 : decode cJ6_numberOfTrailingZeros_0f7a4 76 = .ok (.iconst 1, 1) := by decide +kernel
theorem dJ6_numberOfTrailingZeros_0f7a4_77 : decode cJ6_numberOfTrailingZeros_0f7a4 77 = .ok (.iushr, 1) := by decide +kernel
theorem dJ6_numberOfTrailingZeros_0f7a4_78 : decode cJ6_numberOfTrailingZeros_0f7a4 78 = .ok (.iadd, 1) := by decide +kernel
theorem dJ6_numberOfTrailingZeros_0f7a4_79 : decode cJ6_numberOfTrailingZeros_0f7a4 79 = .ok (.ireturn, 1) := by decide +kernel
set_option maxHeartbeats 4000000 in
set_option maxRecDepth 100000 in
theorem c_J6_numberOfTrailingZeros_0f7a4 (v k : Nat) {n : Nat} {kd : mK} {I : mI} {J : mJ} {P : mP} (hv : v < 2 ^ 32) (h : v.testBit k = true) (h0 : ∀ j, j < k → v.testBit j = false) (hk : k < 32) : Ct yJ6_numberOfTrailingZeros_0f7a4 cJ6_numberOfTrailingZeros_0f7a4 2 (some .int) 1 0 0 [.int (nI v)] n kd I J P (am_is (some (.int (nI k))) n kd I J P) := by
  refine ct_of 1 (by decide +kernel) (Nat.le_of_ble_eq_true rfl) rfl ?_
  refine r_iload_n dJ6_numberOfTrailingZeros_0f7a4_0 rfl ?_
  refine r_iconst (v := (-1)) dJ6_numberOfTrailingZeros_0f7a4_1 (by decide) ?_
  refine r_ixor dJ6_numberOfTrailingZeros_0f7a4_2 ?_
  refine r_iload_n dJ6_numberOfTrailingZeros_0f7a4_3 rfl ?_
  refine r_iconst (v := nI 1) dJ6_numberOfTrailingZeros_0f7a4_4 (by decide) ?_
  refine r_isub dJ6_numberOfTrailingZeros_0f7a4_5 ?_
  refine r_iand dJ6_numberOfTrailingZeros_0f7a4_6 ?_
  rw [ntz_mask hv h h0]
  refine r_istore_n dJ6_numberOfTrailingZeros_0f7a4_7 (by decide) ?_
  refine r_iload_n dJ6_numberOfTrailingZeros_0f7a4_8 rfl ?_
  refine r_if_gt (tgt := 17) dJ6_numberOfTrailingZeros_0f7a4_9 (by decide) (fun h9 => ?_) (fun h9 => ?_)
  · skip
    refine r_iconst (v := nI 1) dJ6_numberOfTrailingZeros_0f7a4_17 (by decide) ?_
    refine r_istore_n dJ6_numberOfTrailingZeros_0f7a4_18 (by decide) ?_
    refine r_iload_n dJ6_numberOfTrailingZeros_0f7a4_19 rfl ?_
    refine r_ldcw dJ6_numberOfTrailingZeros_0f7a4_20 ic_J6_264 ?_
    refine r_icmp_le (tgt := 34) dJ6_numberOfTrailingZeros_0f7a4_23 (by decide) (fun h23 => ?_) (fun h23 => ?_)
    · skip
      refine r_iload_n dJ6_numberOfTrailingZeros_0f7a4_34 rfl ?_
      refine r_sipush (v := nI 256) dJ6_numberOfTrailingZeros_0f7a4_35 (by decide) ?_
      refine r_icmp_le (tgt := 49) dJ6_numberOfTrailingZeros_0f7a4_38 (by decide) (fun h38 => ?_) (fun h38 => ?_)
      · skip
        refine r_iload_n dJ6_numberOfTrailingZeros_0f7a4_49 rfl ?_
        refine r_bipush (v := nI 16) dJ6_numberOfTrailingZeros_0f7a4_50 (by decide) ?_
        refine r_icmp_le (tgt := 62) dJ6_numberOfTrailingZeros_0f7a4_52 (by decide) (fun h52 => ?_) (fun h52 => ?_)
        · skip
          refine r_iload_n dJ6_numberOfTrailingZeros_0f7a4_62 rfl ?_
          refine r_iconst (v := nI 4) dJ6_numberOfTrailingZeros_0f7a4_63 (by decide) ?_
          refine r_icmp_le (tgt := 74) dJ6_numberOfTrailingZeros_0f7a4_64 (by decide) (fun h64 => ?_) (fun h64 => ?_)
          · skip
            refine r_iload_n dJ6_numberOfTrailingZeros_0f7a4_74 rfl ?_
            refine r_iload_n dJ6_numberOfTrailingZeros_0f7a4_75 rfl ?_
            refine r_iconst (v := nI 1) dJ6_numberOfTrailingZeros_0f7a4_76 (by decide) ?_
            refine r_iushr dJ6_numberOfTrailingZeros_0f7a4_77 ?_
            refine r_iadd dJ6_numberOfTrailingZeros_0f7a4_78 ?_
            refine r_iret rfl dJ6_numberOfTrailingZeros_0f7a4_79 ?_
            refine ⟨congrArg (fun z => Sum.inl (some (Value.int z))) ?_, rfl, rfl, rfl, rfl, rfl⟩
            rw [← nTz_k k hk]
            unfold nTz
            rw [if_pos h9]
            first | rw [if_pos h23] | rw [if_neg h23]
            unfold n256
            first | rw [if_pos h38] | rw [if_neg h38]
            unfold n16
            first | rw [if_pos h52] | rw [if_neg h52]
            unfold n4
            first | rw [if_pos h64] | rw [if_neg h64]
          · skip
            refine r_iinc dJ6_numberOfTrailingZeros_0f7a4_67 rfl rfl ?_
            refine r_iload_n dJ6_numberOfTrailingZeros_0f7a4_70 rfl ?_
            refine r_iconst (v := nI 2) dJ6_numberOfTrailingZeros_0f7a4_71 (by decide) ?_
            refine r_iushr dJ6_numberOfTrailingZeros_0f7a4_72 ?_
            refine r_istore_n dJ6_numberOfTrailingZeros_0f7a4_73 (by decide) ?_
            refine r_iload_n dJ6_numberOfTrailingZeros_0f7a4_74 rfl ?_
            refine r_iload_n dJ6_numberOfTrailingZeros_0f7a4_75 rfl ?_
            refine r_iconst (v := nI 1) dJ6_numberOfTrailingZeros_0f7a4_76 (by decide) ?_
            refine r_iushr dJ6_numberOfTrailingZeros_0f7a4_77 ?_
            refine r_iadd dJ6_numberOfTrailingZeros_0f7a4_78 ?_
            refine r_iret rfl dJ6_numberOfTrailingZeros_0f7a4_79 ?_
            refine ⟨congrArg (fun z => Sum.inl (some (Value.int z))) ?_, rfl, rfl, rfl, rfl, rfl⟩
            rw [← nTz_k k hk]
            unfold nTz
            rw [if_pos h9]
            first | rw [if_pos h23] | rw [if_neg h23]
            unfold n256
            first | rw [if_pos h38] | rw [if_neg h38]
            unfold n16
            first | rw [if_pos h52] | rw [if_neg h52]
            unfold n4
            first | rw [if_pos h64] | rw [if_neg h64]
        · skip
          refine r_iinc dJ6_numberOfTrailingZeros_0f7a4_55 rfl rfl ?_
          refine r_iload_n dJ6_numberOfTrailingZeros_0f7a4_58 rfl ?_
          refine r_iconst (v := nI 4) dJ6_numberOfTrailingZeros_0f7a4_59 (by decide) ?_
          refine r_iushr dJ6_numberOfTrailingZeros_0f7a4_60 ?_
          refine r_istore_n dJ6_numberOfTrailingZeros_0f7a4_61 (by decide) ?_
          refine r_iload_n dJ6_numberOfTrailingZeros_0f7a4_62 rfl ?_
          refine r_iconst (v := nI 4) dJ6_numberOfTrailingZeros_0f7a4_63 (by decide) ?_
          refine r_icmp_le (tgt := 74) dJ6_numberOfTrailingZeros_0f7a4_64 (by decide) (fun h64 => ?_) (fun h64 => ?_)
          · skip
            refine r_iload_n dJ6_numberOfTrailingZeros_0f7a4_74 rfl ?_
            refine r_iload_n dJ6_numberOfTrailingZeros_0f7a4_75 rfl ?_
            refine r_iconst (v := nI 1) dJ6_numberOfTrailingZeros_0f7a4_76 (by decide) ?_
            refine r_iushr dJ6_numberOfTrailingZeros_0f7a4_77 ?_
            refine r_iadd dJ6_numberOfTrailingZeros_0f7a4_78 ?_
            refine r_iret rfl dJ6_numberOfTrailingZeros_0f7a4_79 ?_
            refine ⟨congrArg (fun z => Sum.inl (some (Value.int z))) ?_, rfl, rfl, rfl, rfl, rfl⟩
            rw [← nTz_k k hk]
            unfold nTz
            rw [if_pos h9]
            first | rw [if_pos h23] | rw [if_neg h23]
            unfold n256
            first | rw [if_pos h38] | rw [if_neg h38]
            unfold n16
            first | rw [if_pos h52] | rw [if_neg h52]
            unfold n4
            first | rw [if_pos h64] | rw [if_neg h64]
          · skip
            refine r_iinc dJ6_numberOfTrailingZeros_0f7a4_67 rfl rfl ?_
            refine r_iload_n dJ6_numberOfTrailingZeros_0f7a4_70 rfl ?_
            refine r_iconst (v := nI 2) dJ6_numberOfTrailingZeros_0f7a4_71 (by decide) ?_
            refine r_iushr dJ6_numberOfTrailingZeros_0f7a4_72 ?_
            refine r_istore_n dJ6_numberOfTrailingZeros_0f7a4_73 (by decide) ?_
            refine r_iload_n dJ6_numberOfTrailingZeros_0f7a4_74 rfl ?_
            refine r_iload_n dJ6_numberOfTrailingZeros_0f7a4_75 rfl ?_
            refine r_iconst (v := nI 1) dJ6_numberOfTrailingZeros_0f7a4_76 (by decide) ?_
            refine r_iushr dJ6_numberOfTrailingZeros_0f7a4_77 ?_
            refine r_iadd dJ6_numberOfTrailingZeros_0f7a4_78 ?_
            refine r_iret rfl dJ6_numberOfTrailingZeros_0f7a4_79 ?_
            refine ⟨congrArg (fun z => Sum.inl (some (Value.int z))) ?_, rfl, rfl, rfl, rfl, rfl⟩
            rw [← nTz_k k hk]
            unfold nTz
            rw [if_pos h9]
            first | rw [if_pos h23] | rw [if_neg h23]
            unfold n256
            first | rw [if_pos h38] | rw [if_neg h38]
            unfold n16
            first | rw [if_pos h52] | rw [if_neg h52]
            unfold n4
            first | rw [if_pos h64] | rw [if_neg h64]
      · skip
        refine r_iinc dJ6_numberOfTrailingZeros_0f7a4_41 rfl rfl ?_
        refine r_iload_n dJ6_numberOfTrailingZeros_0f7a4_44 rfl ?_
        refine r_bipush (v := nI 8) dJ6_numberOfTrailingZeros_0f7a4_45 (by decide) ?_
        refine r_iushr dJ6_numberOfTrailingZeros_0f7a4_47 ?_
        refine r_istore_n dJ6_numberOfTrailingZeros_0f7a4_48 (by decide) ?_
        refine r_iload_n dJ6_numberOfTrailingZeros_0f7a4_49 rfl ?_
        refine r_bipush (v := nI 16) dJ6_numberOfTrailingZeros_0f7a4_50 (by decide) ?_
        refine r_icmp_le (tgt := 62) dJ6_numberOfTrailingZeros_0f7a4_52 (by decide) (fun h52 => ?_) (fun h52 => ?_)
        · skip
          refine r_iload_n dJ6_numberOfTrailingZeros_0f7a4_62 rfl ?_
          refine r_iconst (v := nI 4) dJ6_numberOfTrailingZeros_0f7a4_63 (by decide) ?_
          refine r_icmp_le (tgt := 74) dJ6_numberOfTrailingZeros_0f7a4_64 (by decide) (fun h64 => ?_) (fun h64 => ?_)
          · skip
            refine r_iload_n dJ6_numberOfTrailingZeros_0f7a4_74 rfl ?_
            refine r_iload_n dJ6_numberOfTrailingZeros_0f7a4_75 rfl ?_
            refine r_iconst (v := nI 1) dJ6_numberOfTrailingZeros_0f7a4_76 (by decide) ?_
            refine r_iushr dJ6_numberOfTrailingZeros_0f7a4_77 ?_
            refine r_iadd dJ6_numberOfTrailingZeros_0f7a4_78 ?_
            refine r_iret rfl dJ6_numberOfTrailingZeros_0f7a4_79 ?_
            refine ⟨congrArg (fun z => Sum.inl (some (Value.int z))) ?_, rfl, rfl, rfl, rfl, rfl⟩
            rw [← nTz_k k hk]
            unfold nTz
            rw [if_pos h9]
            first | rw [if_pos h23] | rw [if_neg h23]
            unfold n256
            first | rw [if_pos h38] | rw [if_neg h38]
            unfold n16
            first | rw [if_pos h52] | rw [if_neg h52]
            unfold n4
            first | rw [if_pos h64] | rw [if_neg h64]
          · skip
            refine r_iinc dJ6_numberOfTrailingZeros_0f7a4_67 rfl rfl ?_
            refine r_iload_n dJ6_numberOfTrailingZeros_0f7a4_70 rfl ?_
            refine r_iconst (v := nI 2) dJ6_numberOfTrailingZeros_0f7a4_71 (by decide) ?_
            refine r_iushr dJ6_numberOfTrailingZeros_0f7a4_72 ?_
            refine r_istore_n dJ6_numberOfTrailingZeros_0f7a4_73 (by decide) ?_
            refine r_iload_n dJ6_numberOfTrailingZeros_0f7a4_74 rfl ?_
            refine r_iload_n dJ6_numberOfTrailingZeros_0f7a4_75 rfl ?_
            refine r_iconst (v := nI 1) dJ6_numberOfTrailingZeros_0f7a4_76 (by decide) ?_
            refine r_iushr dJ6_numberOfTrailingZeros_0f7a4_77 ?_
            refine r_iadd dJ6_numberOfTrailingZeros_0f7a4_78 ?_
            refine r_iret rfl dJ6_numberOfTrailingZeros_0f7a4_79 ?_
            refine ⟨congrArg (fun z => Sum.inl (some (Value.int z))) ?_, rfl, rfl, rfl, rfl, rfl⟩
            rw [← nTz_k k hk]
            unfold nTz
            rw [if_pos h9]
            first | rw [if_pos h23] | rw [if_neg h23]
            unfold n256
            first | rw [if_pos h38] | rw [if_neg h38]
            unfold n16
            first | rw [if_pos h52] | rw [if_neg h52]
            unfold n4
            first | rw [if_pos h64] | rw [if_neg h64]
        · skip
          refine r_iinc dJ6_numberOfTrailingZeros_0f7a4_55 rfl rfl ?_
          refine r_iload_n dJ6_numberOfTrailingZeros_0f7a4_58 rfl ?_
          refine r_iconst (v := nI 4) dJ6_numberOfTrailingZeros_0f7a4_59 (by decide) ?_
          refine r_iushr dJ6_numberOfTrailingZeros_0f7a4_60 ?_
          refine r_istore_n dJ6_numberOfTrailingZeros_0f7a4_61 (by decide) ?_
          refine r_iload_n dJ6_numberOfTrailingZeros_0f7a4_62 rfl ?_
          refine r_iconst (v := nI 4) dJ6_numberOfTrailingZeros_0f7a4_63 (by decide) ?_
          refine r_icmp_le (tgt := 74) dJ6_numberOfTrailingZeros_0f7a4_64 (by decide) (fun h64 => ?_) (fun h64 => ?_)
          · skip
            refine r_iload_n dJ6_numberOfTrailingZeros_0f7a4_74 rfl ?_
            refine r_iload_n dJ6_numberOfTrailingZeros_0f7a4_75 rfl ?_
            refine r_iconst (v := nI 1) dJ6_numberOfTrailingZeros_0f7a4_76 (by decide) ?_
            refine r_iushr dJ6_numberOfTrailingZeros_0f7a4_77 ?_
            refine r_iadd dJ6_numberOfTrailingZeros_0f7a4_78 ?_
            refine r_iret rfl dJ6_numberOfTrailingZeros_0f7a4_79 ?_
            refine ⟨congrArg (fun z => Sum.inl (some (Value.int z))) ?_, rfl, rfl, rfl, rfl, rfl⟩
            rw [← nTz_k k hk]
            unfold nTz
            rw [if_pos h9]
            first | rw [if_pos h23] | rw [if_neg h23]
            unfold n256
            first | rw [if_pos h38] | rw [if_neg h38]
            unfold n16
            first | rw [if_pos h52] | rw [if_neg h52]
            unfold n4
            first | rw [if_pos h64] | rw [if_neg h64]
          · skip
            refine r_iinc dJ6_numberOfTrailingZeros_0f7a4_67 rfl rfl ?_
            refine r_iload_n dJ6_numberOfTrailingZeros_0f7a4_70 rfl ?_
            refine r_iconst (v := nI 2) dJ6_numberOfTrailingZeros_0f7a4_71 (by decide) ?_
            refine r_iushr dJ6_numberOfTrailingZeros_0f7a4_72 ?_
            refine r_istore_n dJ6_numberOfTrailingZeros_0f7a4_73 (by decide) ?_
            refine r_iload_n dJ6_numberOfTrailingZeros_0f7a4_74 rfl ?_
            refine r_iload_n dJ6_numberOfTrailingZeros_0f7a4_75 rfl ?_
            refine r_iconst (v := nI 1) dJ6_numberOfTrailingZeros_0f7a4_76 (by decide) ?_
            refine r_iushr dJ6_numberOfTrailingZeros_0f7a4_77 ?_
            refine r_iadd dJ6_numberOfTrailingZeros_0f7a4_78 ?_
            refine r_iret rfl dJ6_numberOfTrailingZeros_0f7a4_79 ?_
            refine ⟨congrArg (fun z => Sum.inl (some (Value.int z))) ?_, rfl, rfl, rfl, rfl, rfl⟩
            rw [← nTz_k k hk]
            unfold nTz
            rw [if_pos h9]
            first | rw [if_pos h23] | rw [if_neg h23]
            unfold n256
            first | rw [if_pos h38] | rw [if_neg h38]
            unfold n16
            first | rw [if_pos h52] | rw [if_neg h52]
            unfold n4
            first | rw [if_pos h64] | rw [if_neg h64]
    · skip
      refine r_iinc dJ6_numberOfTrailingZeros_0f7a4_26 rfl rfl ?_
      refine r_iload_n dJ6_numberOfTrailingZeros_0f7a4_29 rfl ?_
      refine r_bipush (v := nI 16) dJ6_numberOfTrailingZeros_0f7a4_30 (by decide) ?_
      refine r_iushr dJ6_numberOfTrailingZeros_0f7a4_32 ?_
      refine r_istore_n dJ6_numberOfTrailingZeros_0f7a4_33 (by decide) ?_
      refine r_iload_n dJ6_numberOfTrailingZeros_0f7a4_34 rfl ?_
      refine r_sipush (v := nI 256) dJ6_numberOfTrailingZeros_0f7a4_35 (by decide) ?_
      refine r_icmp_le (tgt := 49) dJ6_numberOfTrailingZeros_0f7a4_38 (by decide) (fun h38 => ?_) (fun h38 => ?_)
      · skip
        refine r_iload_n dJ6_numberOfTrailingZeros_0f7a4_49 rfl ?_
        refine r_bipush (v := nI 16) dJ6_numberOfTrailingZeros_0f7a4_50 (by decide) ?_
        refine r_icmp_le (tgt := 62) dJ6_numberOfTrailingZeros_0f7a4_52 (by decide) (fun h52 => ?_) (fun h52 => ?_)
        · skip
          refine r_iload_n dJ6_numberOfTrailingZeros_0f7a4_62 rfl ?_
          refine r_iconst (v := nI 4) dJ6_numberOfTrailingZeros_0f7a4_63 (by decide) ?_
          refine r_icmp_le (tgt := 74) dJ6_numberOfTrailingZeros_0f7a4_64 (by decide) (fun h64 => ?_) (fun h64 => ?_)
          · skip
            refine r_iload_n dJ6_numberOfTrailingZeros_0f7a4_74 rfl ?_
            refine r_iload_n dJ6_numberOfTrailingZeros_0f7a4_75 rfl ?_
            refine r_iconst (v := nI 1) dJ6_numberOfTrailingZeros_0f7a4_76 (by decide) ?_
            refine r_iushr dJ6_numberOfTrailingZeros_0f7a4_77 ?_
            refine r_iadd dJ6_numberOfTrailingZeros_0f7a4_78 ?_
            refine r_iret rfl dJ6_numberOfTrailingZeros_0f7a4_79 ?_
            refine ⟨congrArg (fun z => Sum.inl (some (Value.int z))) ?_, rfl, rfl, rfl, rfl, rfl⟩
            rw [← nTz_k k hk]
            unfold nTz
            rw [if_pos h9]
            first | rw [if_pos h23] | rw [if_neg h23]
            unfold n256
            first | rw [if_pos h38] | rw [if_neg h38]
            unfold n16
            first | rw [if_pos h52] | rw [if_neg h52]
            unfold n4
            first | rw [if_pos h64] | rw [if_neg h64]
          · skip
            refine r_iinc dJ6_numberOfTrailingZeros_0f7a4_67 rfl rfl ?_
            refine r_iload_n dJ6_numberOfTrailingZeros_0f7a4_70 rfl ?_
            refine r_iconst (v := nI 2) dJ6_numberOfTrailingZeros_0f7a4_71 (by decide) ?_
            refine r_iushr dJ6_numberOfTrailingZeros_0f7a4_72 ?_
            refine r_istore_n dJ6_numberOfTrailingZeros_0f7a4_73 (by decide) ?_
            refine r_iload_n dJ6_numberOfTrailingZeros_0f7a4_74 rfl ?_
            refine r_iload_n dJ6_numberOfTrailingZeros_0f7a4_75 rfl ?_
            refine r_iconst (v := nI 1) dJ6_numberOfTrailingZeros_0f7a4_76 (by decide) ?_
            refine r_iushr dJ6_numberOfTrailingZeros_0f7a4_77 ?_
            refine r_iadd dJ6_numberOfTrailingZeros_0f7a4_78 ?_
            refine r_iret rfl dJ6_numberOfTrailingZeros_0f7a4_79 ?_
            refine ⟨congrArg (fun z => Sum.inl (some (Value.int z))) ?_, rfl, rfl, rfl, rfl, rfl⟩
            rw [← nTz_k k hk]
            unfold nTz
            rw [if_pos h9]
            first | rw [if_pos h23] | rw [if_neg h23]
            unfold n256
            first | rw [if_pos h38] | rw [if_neg h38]
            unfold n16
            first | rw [if_pos h52] | rw [if_neg h52]
            unfold n4
            first | rw [if_pos h64] | rw [if_neg h64]
        · skip
          refine r_iinc dJ6_numberOfTrailingZeros_0f7a4_55 rfl rfl ?_
          refine r_iload_n dJ6_numberOfTrailingZeros_0f7a4_58 rfl ?_
          refine r_iconst (v := nI 4) dJ6_numberOfTrailingZeros_0f7a4_59 (by decide) ?_
          refine r_iushr dJ6_numberOfTrailingZeros_0f7a4_60 ?_
          refine r_istore_n dJ6_numberOfTrailingZeros_0f7a4_61 (by decide) ?_
          refine r_iload_n dJ6_numberOfTrailingZeros_0f7a4_62 rfl ?_
          refine r_iconst (v := nI 4) dJ6_numberOfTrailingZeros_0f7a4_63 (by decide) ?_
          refine r_icmp_le (tgt := 74) dJ6_numberOfTrailingZeros_0f7a4_64 (by decide) (fun h64 => ?_) (fun h64 => ?_)
          · skip
            refine r_iload_n dJ6_numberOfTrailingZeros_0f7a4_74 rfl ?_
            refine r_iload_n dJ6_numberOfTrailingZeros_0f7a4_75 rfl ?_
            refine r_iconst (v := nI 1) dJ6_numberOfTrailingZeros_0f7a4_76 (by decide) ?_
            refine r_iushr dJ6_numberOfTrailingZeros_0f7a4_77 ?_
            refine r_iadd dJ6_numberOfTrailingZeros_0f7a4_78 ?_
            refine r_iret rfl dJ6_numberOfTrailingZeros_0f7a4_79 ?_
            refine ⟨congrArg (fun z => Sum.inl (some (Value.int z))) ?_, rfl, rfl, rfl, rfl, rfl⟩
            rw [← nTz_k k hk]
            unfold nTz
            rw [if_pos h9]
            first | rw [if_pos h23] | rw [if_neg h23]
            unfold n256
            first | rw [if_pos h38] | rw [if_neg h38]
            unfold n16
            first | rw [if_pos h52] | rw [if_neg h52]
            unfold n4
            first | rw [if_pos h64] | rw [if_neg h64]
          · skip
            refine r_iinc dJ6_numberOfTrailingZeros_0f7a4_67 rfl rfl ?_
            refine r_iload_n dJ6_numberOfTrailingZeros_0f7a4_70 rfl ?_
            refine r_iconst (v := nI 2) dJ6_numberOfTrailingZeros_0f7a4_71 (by decide) ?_
            refine r_iushr dJ6_numberOfTrailingZeros_0f7a4_72 ?_
            refine r_istore_n dJ6_numberOfTrailingZeros_0f7a4_73 (by decide) ?_
            refine r_iload_n dJ6_numberOfTrailingZeros_0f7a4_74 rfl ?_
            refine r_iload_n dJ6_numberOfTrailingZeros_0f7a4_75 rfl ?_
            refine r_iconst (v := nI 1) dJ6_numberOfTrailingZeros_0f7a4_76 (by decide) ?_
            refine r_iushr dJ6_numberOfTrailingZeros_0f7a4_77 ?_
            refine r_iadd dJ6_numberOfTrailingZeros_0f7a4_78 ?_
            refine r_iret rfl dJ6_numberOfTrailingZeros_0f7a4_79 ?_
            refine ⟨congrArg (fun z => Sum.inl (some (Value.int z))) ?_, rfl, rfl, rfl, rfl, rfl⟩
            rw [← nTz_k k hk]
            unfold nTz
            rw [if_pos h9]
            first | rw [if_pos h23] | rw [if_neg h23]
            unfold n256
            first | rw [if_pos h38] | rw [if_neg h38]
            unfold n16
            first | rw [if_pos h52] | rw [if_neg h52]
            unfold n4
            first | rw [if_pos h64] | rw [if_neg h64]
      · skip
        refine r_iinc dJ6_numberOfTrailingZeros_0f7a4_41 rfl rfl ?_
        refine r_iload_n dJ6_numberOfTrailingZeros_0f7a4_44 rfl ?_
        refine r_bipush (v := nI 8) dJ6_numberOfTrailingZeros_0f7a4_45 (by decide) ?_
        refine r_iushr dJ6_numberOfTrailingZeros_0f7a4_47 ?_
        refine r_istore_n dJ6_numberOfTrailingZeros_0f7a4_48 (by decide) ?_
        refine r_iload_n dJ6_numberOfTrailingZeros_0f7a4_49 rfl ?_
        refine r_bipush (v := nI 16) dJ6_numberOfTrailingZeros_0f7a4_50 (by decide) ?_
        refine r_icmp_le (tgt := 62) dJ6_numberOfTrailingZeros_0f7a4_52 (by decide) (fun h52 => ?_) (fun h52 => ?_)
        · skip
          refine r_iload_n dJ6_numberOfTrailingZeros_0f7a4_62 rfl ?_
          refine r_iconst (v := nI 4) dJ6_numberOfTrailingZeros_0f7a4_63 (by decide) ?_
          refine r_icmp_le (tgt := 74) dJ6_numberOfTrailingZeros_0f7a4_64 (by decide) (fun h64 => ?_) (fun h64 => ?_)
          · skip
            refine r_iload_n dJ6_numberOfTrailingZeros_0f7a4_74 rfl ?_
            refine r_iload_n dJ6_numberOfTrailingZeros_0f7a4_75 rfl ?_
            refine r_iconst (v := nI 1) dJ6_numberOfTrailingZeros_0f7a4_76 (by decide) ?_
            refine r_iushr dJ6_numberOfTrailingZeros_0f7a4_77 ?_
            refine r_iadd dJ6_numberOfTrailingZeros_0f7a4_78 ?_
            refine r_iret rfl dJ6_numberOfTrailingZeros_0f7a4_79 ?_
            refine ⟨congrArg (fun z => Sum.inl (some (Value.int z))) ?_, rfl, rfl, rfl, rfl, rfl⟩
            rw [← nTz_k k hk]
            unfold nTz
            rw [if_pos h9]
            first | rw [if_pos h23] | rw [if_neg h23]
            unfold n256
            first | rw [if_pos h38] | rw [if_neg h38]
            unfold n16
            first | rw [if_pos h52] | rw [if_neg h52]
            unfold n4
            first | rw [if_pos h64] | rw [if_neg h64]
          · skip
            refine r_iinc dJ6_numberOfTrailingZeros_0f7a4_67 rfl rfl ?_
            refine r_iload_n dJ6_numberOfTrailingZeros_0f7a4_70 rfl ?_
            refine r_iconst (v := nI 2) dJ6_numberOfTrailingZeros_0f7a4_71 (by decide) ?_
            refine r_iushr dJ6_numberOfTrailingZeros_0f7a4_72 ?_
            refine r_istore_n dJ6_numberOfTrailingZeros_0f7a4_73 (by decide) ?_
            refine r_iload_n dJ6_numberOfTrailingZeros_0f7a4_74 rfl ?_
            refine r_iload_n dJ6_numberOfTrailingZeros_0f7a4_75 rfl ?_
            refine r_iconst (v := nI 1) dJ6_numberOfTrailingZeros_0f7a4_76 (by decide) ?_
            refine r_iushr dJ6_numberOfTrailingZeros_0f7a4_77 ?_
            refine r_iadd dJ6_numberOfTrailingZeros_0f7a4_78 ?_
            refine r_iret rfl dJ6_numberOfTrailingZeros_0f7a4_79 ?_
            refine ⟨congrArg (fun z => Sum.inl (some (Value.int z))) ?_, rfl, rfl, rfl, rfl, rfl⟩
            rw [← nTz_k k hk]
            unfold nTz
            rw [if_pos h9]
            first | rw [if_pos h23] | rw [if_neg h23]
            unfold n256
            first | rw [if_pos h38] | rw [if_neg h38]
            unfold n16
            first | rw [if_pos h52] | rw [if_neg h52]
            unfold n4
            first | rw [if_pos h64] | rw [if_neg h64]
        · skip
          refine r_iinc dJ6_numberOfTrailingZeros_0f7a4_55 rfl rfl ?_
          refine r_iload_n dJ6_numberOfTrailingZeros_0f7a4_58 rfl ?_
          refine r_iconst (v := nI 4) dJ6_numberOfTrailingZeros_0f7a4_59 (by decide) ?_
          refine r_iushr dJ6_numberOfTrailingZeros_0f7a4_60 ?_
          refine r_istore_n dJ6_numberOfTrailingZeros_0f7a4_61 (by decide) ?_
          refine r_iload_n dJ6_numberOfTrailingZeros_0f7a4_62 rfl ?_
          refine r_iconst (v := nI 4) dJ6_numberOfTrailingZeros_0f7a4_63 (by decide) ?_
          refine r_icmp_le (tgt := 74) dJ6_numberOfTrailingZeros_0f7a4_64 (by decide) (fun h64 => ?_) (fun h64 => ?_)
          · skip
            refine r_iload_n dJ6_numberOfTrailingZeros_0f7a4_74 rfl ?_
            refine r_iload_n dJ6_numberOfTrailingZeros_0f7a4_75 rfl ?_
            refine r_iconst (v := nI 1) dJ6_numberOfTrailingZeros_0f7a4_76 (by decide) ?_
            refine r_iushr dJ6_numberOfTrailingZeros_0f7a4_77 ?_
            refine r_iadd dJ6_numberOfTrailingZeros_0f7a4_78 ?_
            refine r_iret rfl dJ6_numberOfTrailingZeros_0f7a4_79 ?_
            refine ⟨congrArg (fun z => Sum.inl (some (Value.int z))) ?_, rfl, rfl, rfl, rfl, rfl⟩
            rw [← nTz_k k hk]
            unfold nTz
            rw [if_pos h9]
            first | rw [if_pos h23] | rw [if_neg h23]
            unfold n256
            first | rw [if_pos h38] | rw [if_neg h38]
            unfold n16
            first | rw [if_pos h52] | rw [if_neg h52]
            unfold n4
            first | rw [if_pos h64] | rw [if_neg h64]
          · skip
            refine r_iinc dJ6_numberOfTrailingZeros_0f7a4_67 rfl rfl ?_
            refine r_iload_n dJ6_numberOfTrailingZeros_0f7a4_70 rfl ?_
            refine r_iconst (v := nI 2) dJ6_numberOfTrailingZeros_0f7a4_71 (by decide) ?_
            refine r_iushr dJ6_numberOfTrailingZeros_0f7a4_72 ?_
            refine r_istore_n dJ6_numberOfTrailingZeros_0f7a4_73 (by decide) ?_
            refine r_iload_n dJ6_numberOfTrailingZeros_0f7a4_74 rfl ?_
            refine r_iload_n dJ6_numberOfTrailingZeros_0f7a4_75 rfl ?_
            refine r_iconst (v := nI 1) dJ6_numberOfTrailingZeros_0f7a4_76 (by decide) ?_
            refine r_iushr dJ6_numberOfTrailingZeros_0f7a4_77 ?_
            refine r_iadd dJ6_numberOfTrailingZeros_0f7a4_78 ?_
            refine r_iret rfl dJ6_numberOfTrailingZeros_0f7a4_79 ?_
            refine ⟨congrArg (fun z => Sum.inl (some (Value.int z))) ?_, rfl, rfl, rfl, rfl, rfl⟩
            rw [← nTz_k k hk]
            unfold nTz
            rw [if_pos h9]
            first | rw [if_pos h23] | rw [if_neg h23]
            unfold n256
            first | rw [if_pos h38] | rw [if_neg h38]
            unfold n16
            first | rw [if_pos h52] | rw [if_neg h52]
            unfold n4
            first | rw [if_pos h64] | rw [if_neg h64]
  · skip
    refine r_iload_n dJ6_numberOfTrailingZeros_0f7a4_12 rfl ?_
    refine r_bipush (v := nI 32) dJ6_numberOfTrailingZeros_0f7a4_13 (by decide) ?_
    refine r_iand dJ6_numberOfTrailingZeros_0f7a4_15 ?_
    refine r_iret rfl dJ6_numberOfTrailingZeros_0f7a4_16 ?_
    refine ⟨congrArg (fun z => Sum.inl (some (Value.int z))) ?_, rfl, rfl, rfl, rfl, rfl⟩
    rw [← nTz_k k hk]
    unfold nTz
    rw [if_neg h9]

theorem jN_lo (w : Nat) : (jN w).toInt32 = nI (w % 2 ^ 32) := b_ext (fun i hi => by
  rw [bt_l2i _ hi, lb_jN _ (by omega), bt_nI _ hi, Nat.testBit_mod_two_pow]
  simp [hi])
theorem s_u64 : (((nI 32).toInt64.toUInt64 &&& Int64.toUInt64 63).toBitVec % 64).toNat = 32 := by decide +kernel
theorem jN_hi (w : Nat) (hw : w < 2 ^ 63) : ((jN w).toUInt64 >>> ((nI 32).toInt64.toUInt64 &&& Int64.toUInt64 63)).toInt64.toInt32 = nI (w / 2 ^ 32) := b_ext (fun i hi => by
  rw [bt_l2i _ hi, bt_nI _ hi, Nat.testBit_div_two_pow]
  show ((jN w).toUInt64 >>> ((nI 32).toInt64.toUInt64 &&& Int64.toUInt64 63)).toBitVec.getLsbD i = _
  rw [UInt64.toBitVec_shiftRight]
  show ((jN w).toBitVec >>> (((nI 32).toInt64.toUInt64 &&& Int64.toUInt64 63).toBitVec % 64).toNat).getLsbD i = _
  rw [s_u64, BitVec.getLsbD_ushiftRight]
  show lb (jN w) (32 + i) = _
  rw [lb_jN _ (by omega), Nat.add_comm])
theorem nI_eq0 {a : Nat} (ha : a < 2 ^ 32) : nI a = 0 ↔ a = 0 := by
  constructor
  · intro h
    have h1 : (nI a).toBitVec.toNat = 0 := by rw [h]; rfl
    rw [pk_tn ha] at h1
    exact h1
  · intro h; subst h; rfl
theorem dJ13_numberOfTrailingZeros_95d88_0 : decode cJ13_numberOfTrailingZeros_95d88 0 = .ok (.lload_n 0, 1) := by decide +kernel
theorem dJ13_numberOfTrailingZeros_95d88_1 : decode cJ13_numberOfTrailingZeros_95d88 1 = .ok (.l2i, 1) := by decide +kernel
theorem dJ13_numberOfTrailingZeros_95d88_2 : decode cJ13_numberOfTrailingZeros_95d88 2 = .ok (.istore_n 2, 1) := by decide +kernel
theorem dJ13_numberOfTrailingZeros_95d88_3 : decode cJ13_numberOfTrailingZeros_95d88 3 = .ok (.iload_n 2, 1) := by decide +kernel
theorem dJ13_numberOfTrailingZeros_95d88_4 : decode cJ13_numberOfTrailingZeros_95d88 4 = .ok (.ifCond .ne 17, 3) := by decide +kernel
theorem dJ13_numberOfTrailingZeros_95d88_7 : decode cJ13_numberOfTrailingZeros_95d88 7 = .ok (.bipush 32, 2) := by decide +kernel
theorem dJ13_numberOfTrailingZeros_95d88_9 : decode cJ13_numberOfTrailingZeros_95d88 9 = .ok (.lload_n 0, 1) := by decide +kernel
theorem dJ13_numberOfTrailingZeros_95d88_10 : decode cJ13_numberOfTrailingZeros_95d88 10 = .ok (.bipush 32, 2) := by decide +kernel
theorem dJ13_numberOfTrailingZeros_95d88_12 : decode cJ13_numberOfTrailingZeros_95d88 12 = .ok (.lushr, 1) := by decide +kernel
theorem dJ13_numberOfTrailingZeros_95d88_13 : decode cJ13_numberOfTrailingZeros_95d88 13 = .ok (.l2i, 1) := by decide +kernel
theorem dJ13_numberOfTrailingZeros_95d88_14 : decode cJ13_numberOfTrailingZeros_95d88 14 = .ok (.invokestatic 311, 3) := by decide +kernel
theorem dJ13_numberOfTrailingZeros_95d88_17 : decode cJ13_numberOfTrailingZeros_95d88 17 = .ok (.iadd, 1) := by decide +kernel
theorem dJ13_numberOfTrailingZeros_95d88_18 : decode cJ13_numberOfTrailingZeros_95d88 18 = .ok (.goto 7, 3) := by decide +kernel
theorem dJ13_numberOfTrailingZeros_95d88_21 : decode cJ13_numberOfTrailingZeros_95d88 21 = .ok (.iload_n 2, 1) := by decide +kernel
theorem dJ13_numberOfTrailingZeros_95d88_22 : decode cJ13_numberOfTrailingZeros_95d88 22 = .ok (.invokestatic 311, 3) := by decide +kernel
theorem dJ13_numberOfTrailingZeros_95d88_25 : decode cJ13_numberOfTrailingZeros_95d88 25 = .ok (.ireturn, 1) := by decide +kernel
set_option maxHeartbeats 4000000 in
set_option maxRecDepth 100000 in
theorem c_J13_numberOfTrailingZeros_95d88 (w k : Nat) {n : Nat} {kd : mK} {I : mI} {J : mJ} {P : mP} (hw : w < 2 ^ 40) (h : w.testBit k = true) (h0 : ∀ j, j < k → w.testBit j = false) : Ct yJ13_numberOfTrailingZeros_95d88 cJ13_numberOfTrailingZeros_95d88 3 (some .int) 2 0 0 [.long (jN w)] n kd I J P (am_is (some (.int (nI k))) n kd I J P) := by
  have hk : k < 40 := by
    apply Classical.byContradiction
    intro q
    rw [Nat.testBit_lt_two_pow (Nat.lt_of_lt_of_le hw (Nat.pow_le_pow_right (by decide) (by omega)))] at h
    exact nomatch h
  refine ct_of 1 (by decide +kernel) (Nat.le_of_ble_eq_true rfl) rfl ?_
  by_cases c : ¬ w % 2 ^ 32 = 0
  · have hk2 : k < 32 := by
      apply Classical.byContradiction
      intro q
      apply c
      apply tb_ext
      intro j
      rw [Nat.testBit_mod_two_pow, Nat.zero_testBit]
      by_cases q2 : j < 32
      · rw [h0 j (by omega)]; simp
      · simp [q2]
    refine r_lload_n dJ13_numberOfTrailingZeros_95d88_0 rfl ?_
    refine r_l2i dJ13_numberOfTrailingZeros_95d88_1 ?_
    rw [jN_lo]
    refine r_istore_n dJ13_numberOfTrailingZeros_95d88_2 (by decide) ?_
    refine r_iload_n dJ13_numberOfTrailingZeros_95d88_3 rfl ?_
    refine r_if_ne (tgt := 21) dJ13_numberOfTrailingZeros_95d88_4 (by decide) (fun _ => ?_) (fun hz => absurd hz (show ¬ _ from (by rw [nI_eq0 (Nat.mod_lt _ (by decide))]; exact c)))
    refine r_iload_n dJ13_numberOfTrailingZeros_95d88_21 rfl ?_
    refine r_statE (c_J6_numberOfTrailingZeros_0f7a4 _ k (Nat.mod_lt _ (by decide)) (by rw [Nat.testBit_mod_two_pow, h]; simp [hk2]) (fun j hj => by rw [Nat.testBit_mod_two_pow, h0 j hj]; simp) hk2) lk_J13_311 mc_J6_numberOfTrailingZeros_0f7a4 dJ13_numberOfTrailingZeros_95d88_22 (by decide) rfl rfl (Nat.le_of_ble_eq_true rfl) ?_
    refine r_iret rfl dJ13_numberOfTrailingZeros_95d88_25 ?_
    exact am_is.mk
  · have c : w % 2 ^ 32 = 0 := Classical.byContradiction c
    have hk2 : 32 ≤ k := by
      apply Classical.byContradiction
      intro q
      have : (w % 2 ^ 32).testBit k = true := by rw [Nat.testBit_mod_two_pow, h]; simp; omega
      rw [c, Nat.zero_testBit] at this
      exact nomatch this
    refine r_lload_n dJ13_numberOfTrailingZeros_95d88_0 rfl ?_
    refine r_l2i dJ13_numberOfTrailingZeros_95d88_1 ?_
    rw [jN_lo]
    refine r_istore_n dJ13_numberOfTrailingZeros_95d88_2 (by decide) ?_
    refine r_iload_n dJ13_numberOfTrailingZeros_95d88_3 rfl ?_
    refine r_if_ne (tgt := 21) dJ13_numberOfTrailingZeros_95d88_4 (by decide) (fun hz => absurd (show _ from (by rw [c]; rfl)) hz) (fun _ => ?_)
    refine r_bipush (v := nI 32) dJ13_numberOfTrailingZeros_95d88_7 (by decide) ?_
    refine r_lload_n dJ13_numberOfTrailingZeros_95d88_9 rfl ?_
    refine r_bipush (v := nI 32) dJ13_numberOfTrailingZeros_95d88_10 (by decide) ?_
    refine r_lushr dJ13_numberOfTrailingZeros_95d88_12 ?_
    refine r_l2i dJ13_numberOfTrailingZeros_95d88_13 ?_
    rw [jN_hi w (by omega)]
    refine r_statE (c_J6_numberOfTrailingZeros_0f7a4 _ (k - 32) (by omega) (by rw [Nat.testBit_div_two_pow, show k - 32 + 32 = k by omega]; exact h) (fun j hj => by rw [Nat.testBit_div_two_pow]; exact h0 _ (by omega)) (by omega)) lk_J13_311 mc_J6_numberOfTrailingZeros_0f7a4 dJ13_numberOfTrailingZeros_95d88_14 (by decide) rfl rfl (Nat.le_of_ble_eq_true rfl) ?_
    refine r_iadd dJ13_numberOfTrailingZeros_95d88_17 ?_
    refine r_goto (tgt := 25) dJ13_numberOfTrailingZeros_95d88_18 (by decide) ?_
    refine r_iret rfl dJ13_numberOfTrailingZeros_95d88_25 ?_
    exact ⟨by rw [nI_add, show 32 + (k - 32) = k by omega], rfl, rfl, rfl, rfl, rfl⟩

