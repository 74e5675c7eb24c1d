/-! POST, on any state -/
theorem log2_is {n k : Nat} (h1 : 2 ^ k ≤ n) (h2 : n < 2 ^ (k + 1)) : Nat.log2 n = k := by
  have h0 : n ≠ 0 := by have := Nat.two_pow_pos k; omega
  have a := (Nat.le_log2 h0).mpr h1
  have b := (Nat.log2_lt h0).mpr h2
  omega
theorem log2_div {n s : Nat} (h : 2 ^ s ≤ n) : Nat.log2 n = s + Nat.log2 (n / 2 ^ s) := by
  have hp := Nat.two_pow_pos s
  have h1 : 1 ≤ n / 2 ^ s := (Nat.one_le_div_iff hp).mpr h
  have h0 : n / 2 ^ s ≠ 0 := by omega
  have a := (Nat.le_log2 (k := Nat.log2 (n / 2 ^ s)) h0).mp (Nat.le_refl _)
  have b := (Nat.log2_lt (k := Nat.log2 (n / 2 ^ s) + 1) h0).mp (Nat.lt_succ_self _)
  apply log2_is
  · rw [Nat.pow_add, Nat.mul_comm]
    exact (Nat.le_div_iff_mul_le hp).mp a
  · rw [Nat.add_assoc, Nat.pow_add, Nat.mul_comm]
    exact (Nat.div_lt_iff_lt_mul hp).mp b
theorem log2_hi {w hi : Nat} (h1 : w.testBit hi = true) (h2 : ∀ j, hi < j → w.testBit j = false) : Nat.log2 w = hi := by
  refine log2_is (Nat.ge_two_pow_of_testBit h1) (Nat.lt_pow_two_of_testBit _ (fun j hj => h2 j (by omega)))
def dst (p l : Nat) : Nat := if p < l then l - p else p - l
theorem ab_nI {p l : Nat} (hp : p < 2 ^ 30) (hl : l < 2 ^ 30) : (if 0 ≤ nI p - nI l then nI p - nI l else 0 - (nI p - nI l)) = nI (dst p l) := by
  unfold dst
  by_cases q : p < l
  · rw [if_pos q, if_neg (Int32.not_le.mpr (pk_sneg hl q))]
    apply Int32.toInt_inj.mp
    have h1 : nI l - nI p = nI (l - p) := pk_sub (by omega)
    rw [← h1]
    congr 1
    rw [show (0 : Int32) - (nI p - nI l) = nI l - nI p from by rw [Int32.zero_sub, Int32.neg_sub]]
  · rw [if_neg q, pk_sub (by omega), if_pos (show (0 : Int32) ≤ nI (p - l) from Int32.not_lt.mp (z_nlt (by omega)))]
theorem lo_ex : ∀ (n w : Nat), w < 2 ^ n → w ≠ 0 → ∃ k, w.testBit k = true ∧ ∀ j, j < k → w.testBit j = false
  | 0, w, h, h0 => by simp at h; omega
  | n + 1, w, h, h0 => by
    by_cases q : w.testBit 0 = true
    · exact ⟨0, q, fun j hj => by omega⟩
    · have hq : w.testBit 0 = false := by cases hx : w.testBit 0; rfl; exact absurd hx q
      have h1 : w % 2 = 0 := by
        rw [Nat.testBit_zero] at hq
        have := of_decide_eq_false hq
        omega
      obtain ⟨k, a, b⟩ := lo_ex n (w / 2) (by rw [Nat.pow_succ] at h; omega) (by omega)
      refine ⟨k + 1, by rw [Nat.testBit_succ]; exact a, fun j hj => ?_⟩
      cases j with
      | zero => exact hq
      | succ j => rw [Nat.testBit_succ]; exact b j (by omega)
theorem hi_ex {w : Nat} (h0 : w ≠ 0) : ∃ k, w.testBit k = true ∧ ∀ j, k < j → w.testBit j = false :=
  ⟨Nat.log2 w, Nat.testBit_log2 h0, fun j hj => Nat.testBit_lt_two_pow ((Nat.log2_lt h0).mp hj)⟩
def lhB (w lo hi : Nat) : Prop := (w.testBit lo = true ∧ ∀ j, j < lo → w.testBit j = false) ∧ (w.testBit hi = true ∧ ∀ j, hi < j → w.testBit j = false)
theorem lhB.le {w lo hi : Nat} (h : lhB w lo hi) : lo ≤ hi := by
  by_cases q : lo ≤ hi
  · exact q
  · have := h.2.2 lo (by omega)
    rw [h.1.1] at this
    exact absurd this (by decide)
theorem inc_m {k s : Nat} {z : Int32} (h : nI s + z = 0) : nI (k + s) + z = nI k := by rw [← nI_add, Int32.add_assoc, h, Int32.add_zero]
def postA (lo hi p : Nat) : Nat := hi - lo + min (dst p lo) (dst p hi)
set_option maxHeartbeats 4000000 in
set_option maxRecDepth 100000 in
theorem nlz_73 (i q : Nat) {n : Nat} {kd : mK} {I : mI} {J : mJ} {P : mP} (h0 : 0 < i) (hi : i < 4) (hq : 1 ≤ q) (hq2 : q < 2 ^ 31) : Ru yJ6_numberOfLeadingZeros_0f7a4.cls cJ6_numberOfLeadingZeros_0f7a4 2 (some .int) yJ6_numberOfLeadingZeros_0f7a4.name 1 (am_is (some (.int (nI (q - Nat.log2 i)))) n kd I J P) 0 0 73 [some (.int (nI i)), some (.int (nI q))] [] n kd I J P := by
  have hlg : Nat.log2 i = i / 2 ^ 1 := by
    rcases (show i = 1 ∨ i = 2 ∨ i = 3 by omega) with r | r | r <;> rw [r]
    · exact log2_is (by decide) (by decide)
    · exact log2_is (by decide) (by decide)
    · exact log2_is (by decide) (by decide)
  rw [hlg]
  refine r_iload_n dJ6_numberOfLeadingZeros_0f7a4_73 rfl ?_
  refine r_iload_n dJ6_numberOfLeadingZeros_0f7a4_74 rfl ?_
  refine r_iconst (v := nI 1) dJ6_numberOfLeadingZeros_0f7a4_75 (by decide) ?_
  refine r_iushr dJ6_numberOfLeadingZeros_0f7a4_76 ?_
  rw [pk_ushrN (by omega) (nI 1) 1 (by decide)]
  refine r_isub dJ6_numberOfLeadingZeros_0f7a4_77 ?_
  rw [pk_sub (by omega)]
  refine r_iret rfl dJ6_numberOfLeadingZeros_0f7a4_78 ?_
  exact am_is.mk

set_option maxHeartbeats 4000000 in
set_option maxRecDepth 100000 in
theorem nlz_61 (i q : Nat) {n : Nat} {kd : mK} {I : mI} {J : mJ} {P : mP} (h0 : 0 < i) (hi : i < 16) (hq : 3 ≤ q) (hq2 : q < 2 ^ 31) : Ru yJ6_numberOfLeadingZeros_0f7a4.cls cJ6_numberOfLeadingZeros_0f7a4 2 (some .int) yJ6_numberOfLeadingZeros_0f7a4.name 1 (am_is (some (.int (nI (q - Nat.log2 i)))) n kd I J P) 0 0 61 [some (.int (nI i)), some (.int (nI q))] [] n kd I J P := by
  by_cases c : i < 4
  · skip
    refine r_iload_n dJ6_numberOfLeadingZeros_0f7a4_61 rfl ?_
    refine r_iconst (v := nI 4) dJ6_numberOfLeadingZeros_0f7a4_62 (by decide) ?_
    refine r_icmp_lt (tgt := 73) dJ6_numberOfLeadingZeros_0f7a4_63 (by decide) (fun _ => ?_) (fun hz => absurd (show _ from (by rw [nI_ltI (by omega) (by omega)]; omega)) hz)
    exact nlz_73 i q h0 (by omega) (by omega) hq2
  · skip
    refine r_iload_n dJ6_numberOfLeadingZeros_0f7a4_61 rfl ?_
    refine r_iconst (v := nI 4) dJ6_numberOfLeadingZeros_0f7a4_62 (by decide) ?_
    refine r_icmp_lt (tgt := 73) dJ6_numberOfLeadingZeros_0f7a4_63 (by decide) (fun hz => absurd hz (show ¬ _ from (by rw [nI_ltI (by omega) (by omega)]; omega))) (fun _ => ?_)
    refine r_iinc (v := nI (q - 2)) dJ6_numberOfLeadingZeros_0f7a4_66 rfl (by have hx := inc_m (k := q - 2) (s := 2) (z := Int32.ofInt (-2)) (by decide); rwa [show q - 2 + 2 = q by omega] at hx) ?_
    refine r_iload_n dJ6_numberOfLeadingZeros_0f7a4_69 rfl ?_
    refine r_iconst (v := nI 2) dJ6_numberOfLeadingZeros_0f7a4_70 (by decide) ?_
    refine r_iushr dJ6_numberOfLeadingZeros_0f7a4_71 ?_
    rw [pk_ushrN (by omega) (nI 2) 2 (by decide)]
    refine r_istore_n dJ6_numberOfLeadingZeros_0f7a4_72 (by decide) ?_
    have hd := Nat.div_lt_of_lt_mul (show i < 2 ^ 2 * 4 by omega)
    have hd1 : 0 < i / 2 ^ 2 := Nat.div_pos (by omega) (by decide)
    have hx := nlz_73 (n := n) (kd := kd) (I := I) (J := J) (P := P) (i / 2 ^ 2) (q - 2) hd1 (by omega) (by omega) (by omega)
    rw [show q - 2 - Nat.log2 (i / 2 ^ 2) = q - Nat.log2 i from by rw [log2_div (n := i) (s := 2) (by omega)]; omega] at hx
    exact hx

set_option maxHeartbeats 4000000 in
set_option maxRecDepth 100000 in
theorem nlz_48 (i q : Nat) {n : Nat} {kd : mK} {I : mI} {J : mJ} {P : mP} (h0 : 0 < i) (hi : i < 256) (hq : 7 ≤ q) (hq2 : q < 2 ^ 31) : Ru yJ6_numberOfLeadingZeros_0f7a4.cls cJ6_numberOfLeadingZeros_0f7a4 2 (some .int) yJ6_numberOfLeadingZeros_0f7a4.name 1 (am_is (some (.int (nI (q - Nat.log2 i)))) n kd I J P) 0 0 48 [some (.int (nI i)), some (.int (nI q))] [] n kd I J P := by
  by_cases c : i < 16
  · skip
    refine r_iload_n dJ6_numberOfLeadingZeros_0f7a4_48 rfl ?_
    refine r_bipush (v := nI 16) dJ6_numberOfLeadingZeros_0f7a4_49 (by decide) ?_
    refine r_icmp_lt (tgt := 61) dJ6_numberOfLeadingZeros_0f7a4_51 (by decide) (fun _ => ?_) (fun hz => absurd (show _ from (by rw [nI_ltI (by omega) (by omega)]; omega)) hz)
    exact nlz_61 i q h0 (by omega) (by omega) hq2
  · skip
    refine r_iload_n dJ6_numberOfLeadingZeros_0f7a4_48 rfl ?_
    refine r_bipush (v := nI 16) dJ6_numberOfLeadingZeros_0f7a4_49 (by decide) ?_
    refine r_icmp_lt (tgt := 61) dJ6_numberOfLeadingZeros_0f7a4_51 (by decide) (fun hz => absurd hz (show ¬ _ from (by rw [nI_ltI (by omega) (by omega)]; omega))) (fun _ => ?_)
    refine r_iinc (v := nI (q - 4)) dJ6_numberOfLeadingZeros_0f7a4_54 rfl (by have hx := inc_m (k := q - 4) (s := 4) (z := Int32.ofInt (-4)) (by decide); rwa [show q - 4 + 4 = q by omega] at hx) ?_
    refine r_iload_n dJ6_numberOfLeadingZeros_0f7a4_57 rfl ?_
    refine r_iconst (v := nI 4) dJ6_numberOfLeadingZeros_0f7a4_58 (by decide) ?_
    refine r_iushr dJ6_numberOfLeadingZeros_0f7a4_59 ?_
    rw [pk_ushrN (by omega) (nI 4) 4 (by decide)]
    refine r_istore_n dJ6_numberOfLeadingZeros_0f7a4_60 (by decide) ?_
    have hd := Nat.div_lt_of_lt_mul (show i < 2 ^ 4 * 16 by omega)
    have hd1 : 0 < i / 2 ^ 4 := Nat.div_pos (by omega) (by decide)
    have hx := nlz_61 (n := n) (kd := kd) (I := I) (J := J) (P := P) (i / 2 ^ 4) (q - 4) hd1 (by omega) (by omega) (by omega)
    rw [show q - 4 - Nat.log2 (i / 2 ^ 4) = q - Nat.log2 i from by rw [log2_div (n := i) (s := 4) (by omega)]; omega] at hx
    exact hx

set_option maxHeartbeats 4000000 in
set_option maxRecDepth 100000 in
theorem nlz_33 (i q : Nat) {n : Nat} {kd : mK} {I : mI} {J : mJ} {P : mP} (h0 : 0 < i) (hi : i < 65536) (hq : 15 ≤ q) (hq2 : q < 2 ^ 31) : Ru yJ6_numberOfLeadingZeros_0f7a4.cls cJ6_numberOfLeadingZeros_0f7a4 2 (some .int) yJ6_numberOfLeadingZeros_0f7a4.name 1 (am_is (some (.int (nI (q - Nat.log2 i)))) n kd I J P) 0 0 33 [some (.int (nI i)), some (.int (nI q))] [] n kd I J P := by
  by_cases c : i < 256
  · skip
    refine r_iload_n dJ6_numberOfLeadingZeros_0f7a4_33 rfl ?_
    refine r_sipush (v := nI 256) dJ6_numberOfLeadingZeros_0f7a4_34 (by decide) ?_
    refine r_icmp_lt (tgt := 48) dJ6_numberOfLeadingZeros_0f7a4_37 (by decide) (fun _ => ?_) (fun hz => absurd (show _ from (by rw [nI_ltI (by omega) (by omega)]; omega)) hz)
    exact nlz_48 i q h0 (by omega) (by omega) hq2
  · skip
    refine r_iload_n dJ6_numberOfLeadingZeros_0f7a4_33 rfl ?_
    refine r_sipush (v := nI 256) dJ6_numberOfLeadingZeros_0f7a4_34 (by decide) ?_
    refine r_icmp_lt (tgt := 48) dJ6_numberOfLeadingZeros_0f7a4_37 (by decide) (fun hz => absurd hz (show ¬ _ from (by rw [nI_ltI (by omega) (by omega)]; omega))) (fun _ => ?_)
    refine r_iinc (v := nI (q - 8)) dJ6_numberOfLeadingZeros_0f7a4_40 rfl (by have hx := inc_m (k := q - 8) (s := 8) (z := Int32.ofInt (-8)) (by decide); rwa [show q - 8 + 8 = q by omega] at hx) ?_
    refine r_iload_n dJ6_numberOfLeadingZeros_0f7a4_43 rfl ?_
    refine r_bipush (v := nI 8) dJ6_numberOfLeadingZeros_0f7a4_44 (by decide) ?_
    refine r_iushr dJ6_numberOfLeadingZeros_0f7a4_46 ?_
    rw [pk_ushrN (by omega) (nI 8) 8 (by decide)]
    refine r_istore_n dJ6_numberOfLeadingZeros_0f7a4_47 (by decide) ?_
    have hd := Nat.div_lt_of_lt_mul (show i < 2 ^ 8 * 256 by omega)
    have hd1 : 0 < i / 2 ^ 8 := Nat.div_pos (by omega) (by decide)
    have hx := nlz_48 (n := n) (kd := kd) (I := I) (J := J) (P := P) (i / 2 ^ 8) (q - 8) hd1 (by omega) (by omega) (by omega)
    rw [show q - 8 - Nat.log2 (i / 2 ^ 8) = q - Nat.log2 i from by rw [log2_div (n := i) (s := 8) (by omega)]; omega] at hx
    exact hx

set_option maxHeartbeats 4000000 in
set_option maxRecDepth 100000 in
theorem nlz_18 (i q : Nat) {n : Nat} {kd : mK} {I : mI} {J : mJ} {P : mP} (h0 : 0 < i) (hi : i < 2147483648) (hq : 31 ≤ q) (hq2 : q < 2 ^ 31) : Ru yJ6_numberOfLeadingZeros_0f7a4.cls cJ6_numberOfLeadingZeros_0f7a4 2 (some .int) yJ6_numberOfLeadingZeros_0f7a4.name 1 (am_is (some (.int (nI (q - Nat.log2 i)))) n kd I J P) 0 0 18 [some (.int (nI i)), some (.int (nI q))] [] n kd I J P := by
  by_cases c : i < 65536
  · skip
    refine r_iload_n dJ6_numberOfLeadingZeros_0f7a4_18 rfl ?_
    refine r_ldcw dJ6_numberOfLeadingZeros_0f7a4_19 ic_J6_264 ?_
    refine r_icmp_lt (tgt := 33) dJ6_numberOfLeadingZeros_0f7a4_22 (by decide) (fun _ => ?_) (fun hz => absurd (show _ from (by rw [show (65536 : Int32) = nI 65536 from rfl, nI_ltI (by omega) (by omega)]; omega)) hz)
    exact nlz_33 i q h0 (by omega) (by omega) hq2
  · skip
    refine r_iload_n dJ6_numberOfLeadingZeros_0f7a4_18 rfl ?_
    refine r_ldcw dJ6_numberOfLeadingZeros_0f7a4_19 ic_J6_264 ?_
    refine r_icmp_lt (tgt := 33) dJ6_numberOfLeadingZeros_0f7a4_22 (by decide) (fun hz => absurd hz (show ¬ _ from (by rw [show (65536 : Int32) = nI 65536 from rfl, nI_ltI (by omega) (by omega)]; omega))) (fun _ => ?_)
    refine r_iinc (v := nI (q - 16)) dJ6_numberOfLeadingZeros_0f7a4_25 rfl (by have hx := inc_m (k := q - 16) (s := 16) (z := Int32.ofInt (-16)) (by decide); rwa [show q - 16 + 16 = q by omega] at hx) ?_
    refine r_iload_n dJ6_numberOfLeadingZeros_0f7a4_28 rfl ?_
    refine r_bipush (v := nI 16) dJ6_numberOfLeadingZeros_0f7a4_29 (by decide) ?_
    refine r_iushr dJ6_numberOfLeadingZeros_0f7a4_31 ?_
    rw [pk_ushrN (by omega) (nI 16) 16 (by decide)]
    refine r_istore_n dJ6_numberOfLeadingZeros_0f7a4_32 (by decide) ?_
    have hd := Nat.div_lt_of_lt_mul (show i < 2 ^ 16 * 32768 by omega)
    have hd1 : 0 < i / 2 ^ 16 := Nat.div_pos (by omega) (by decide)
    have hx := nlz_33 (n := n) (kd := kd) (I := I) (J := J) (P := P) (i / 2 ^ 16) (q - 16) hd1 (by omega) (by omega) (by omega)
    rw [show q - 16 - Nat.log2 (i / 2 ^ 16) = q - Nat.log2 i from by rw [log2_div (n := i) (s := 16) (by omega)]; omega] at hx
    exact hx

set_option maxHeartbeats 4000000 in
set_option maxRecDepth 100000 in
theorem c_nlz (m : Nat) {n : Nat} {kd : mK} {I : mI} {J : mJ} {P : mP} (hm : m < 2 ^ 31) (hm0 : 0 < m) : Ct yJ6_numberOfLeadingZeros_0f7a4 cJ6_numberOfLeadingZeros_0f7a4 2 (some .int) 1 0 0 [.int (nI m)] n kd I J P (am_is (some (.int (nI (31 - Nat.log2 m)))) n kd I J P) := by
  refine ct_of 1 (by decide +kernel) (Nat.le_of_ble_eq_true rfl) rfl ?_
  refine r_iload_n dJ6_numberOfLeadingZeros_0f7a4_0 rfl ?_
  refine r_if_gt (tgt := 15) dJ6_numberOfLeadingZeros_0f7a4_1 (by decide) (fun _ => ?_) (fun hz => absurd (show _ from (by rw [z_gt (by omega)]; omega)) hz)
  refine r_bipush (v := nI 31) dJ6_numberOfLeadingZeros_0f7a4_15 (by decide) ?_
  refine r_istore_n dJ6_numberOfLeadingZeros_0f7a4_17 (by decide) ?_
  exact nlz_18 m 31 hm0 hm (by decide) (by decide)


set_option maxHeartbeats 4000000 in
set_option maxRecDepth 100000 in
theorem k_post_sp (o b s f l : Nat) (h p : Nat) {t : Nat} {T : Nat → Nat} {fp : Int32} {rr : Nat → Int32} {H M : Nat} {un : Bool} {cs : Nat → List Nat} {tx : Nat → List Int32} {e : Lf} {im : Option Lf} {wk : Option (List Nat)} {n : Nat} {kd : mK} {I : mI} {J : mJ} {P : mP} (hC : CR o b s f l n kd I J P t T fp rr H M un cs tx e im wk) (hz : okZ t T H M cs e) (hh : h < H) (hp1 : 1 ≤ p) (hp : p ≤ M) (hg : gdN H M un cs e = false) : Ct yX9_post cX9_post 6 (some .int) 9 1 6 [.ref o, .int (nI h), .int (nI p)] n kd I J P (pK o n kd I J P (.inl (some (.int (-2)))) (CX o t T fp rr H M un cs tx e im wk)) := by
  have hC0 := hC
  have hz0 := hz
  obtain ⟨hX, hsc, hT, hSt, hLf, hIm, hWk, hQc, hPc⟩ := hC
  obtain ⟨okt, oks, okl⟩ := hz
  have hS := hX.S
  have hL := hX.L
  have hat := hX.at
  have hH8 : H ≤ 8 := oks.2.1
  have hM20 : 2 ≤ M ∧ M ≤ 20 := oks.1
  have hH : I b 0 = nI H := hSt.1.1
  have hMo : I b 1 = nI M := hSt.2.1
  obtain ⟨⟨x0, x1, x2⟩, -, ⟨-, -, hLk⟩, ⟨hQ, hA, hG, hW, hRd, hD, hPg⟩, ⟨p0, p3, p8, p10, p12, p13, p14, p15, p16, p17⟩, ⟨p4, p5, p6, p7⟩, -, -, -⟩ := id hX
  refine ct_of 3 (by decide +kernel) (Nat.le_of_ble_eq_true rfl) rfl ?_
  refine r_aload_n dX9_post_0 rfl ?_
  refine r_iload_n dX9_post_1 rfl ?_
  refine r_virtV (m0_House o b (nI h) x0 p4 hS.1 (by rw [hH]; exact (isH_of hh (by omega)))) lk_X9_142 mc_X9_mustBeHouse dX9_post_2 x0 (by decide) rfl rfl (Nat.le_of_ble_eq_true rfl) ?_
  refine r_aload_n dX9_post_5 rfl ?_
  refine r_iload_n dX9_post_6 rfl ?_
  refine r_virtV (m0_Number o b (nI p) x0 p4 hS.1 (by rw [hMo]; exact (isN_of hp1 hp (by omega)))) lk_X9_235 mc_X9_mustBeNumber dX9_post_7 x0 (by decide) rfl rfl (Nat.le_of_ble_eq_true rfl) ?_
  refine r_aload_n dX9_post_10 rfl ?_
  refine r_virt (kc2 := 1) (ks2 := 6) (k_search o b s f l hC0 hz0) lk_X9_183 mc_X9_search dX9_post_11 x0 (by decide) rfl rfl (Nat.le_of_ble_eq_true rfl) (by decide) (by decide) (fun _ _ _ _ _ _ h => nomatch h.1) ?_
  rintro v1 n1 kd1 I1 J1 P1 ⟨h00, rfl, rfl, hfr, h56, hC1, h11⟩
  cases h00
  simp only [Option.toList, List.nil_append]
  obtain ⟨f9, f10, fS, fJ⟩ := hC1.found h11 hz0
  obtain ⟨⟨y0, y1, y2⟩, -, -, ⟨hQ1, hA1, hG1, hW1, -, -, -⟩, ⟨-, -, -, r10, r12, r13, r14, -, -, -⟩, ⟨r4, r5, r6, r7⟩, -, -, -⟩ := id hC1.1
  have hH1 := hC1.H0
  have hMo1 := hC1.M0
  have hS1 := hC1.1.S
  have hL1 := hC1.1.L
  refine r_aload_n dX9_post_14 rfl ?_
  refine r_getR dX9_post_15 fl_X9_54 rfl (by assumption) (by assumption) ?_
  refine r_getI dX9_post_18 fl_X9_186 rfl hQ1.1 ?_
  rw [f10, if_neg (show ¬ _ from by rw [hg]; decide)]
  refine r_bipush (v := (-2)) dX9_post_21 (by decide) ?_
  refine r_icmp_ne (tgt := 29) dX9_post_23 (by decide) (fun hz => absurd (show _ from rfl) hz) (fun _ => ?_)
  refine r_bipush (v := (-2)) dX9_post_26 (by decide) ?_
  refine r_iret rfl dX9_post_28 ?_
  exact ⟨rfl, ⟨Nat.le_refl _, Nat.le_succ _⟩, fun q => by rw [h56]; exact q, fun a a1 a2 => ⟨rfl, (hfr a (by omega)).1, (hfr a (by omega)).2.1, (hfr a (by omega)).2.2⟩, b, s, f, l, hC1⟩

set_option maxHeartbeats 4000000 in
set_option maxRecDepth 100000 in
theorem k_post_0 (o b s f l : Nat) (h p : Nat) {t : Nat} {T : Nat → Nat} {fp : Int32} {rr : Nat → Int32} {H M : Nat} {un : Bool} {cs : Nat → List Nat} {tx : Nat → List Int32} {e : Lf} {im : Option Lf} {wk : Option (List Nat)} {n : Nat} {kd : mK} {I : mI} {J : mJ} {P : mP} (hC : CR o b s f l n kd I J P t T fp rr H M un cs tx e im wk) (hz : okZ t T H M cs e) (hh : h < H) (hp1 : 1 ≤ p) (hp : p ≤ M) (hg : gdN H M un cs e = true) (hw : mayN (fsN H M un cs e) h = 0) : Ct yX9_post cX9_post 6 (some .int) 9 1 6 [.ref o, .int (nI h), .int (nI p)] n kd I J P (pK o n kd I J P (.inl (some (.int (nI 0)))) (CX o t T fp rr H M un cs tx e im wk)) := by
  have hC0 := hC
  have hz0 := hz
  obtain ⟨hX, hsc, hT, hSt, hLf, hIm, hWk, hQc, hPc⟩ := hC
  obtain ⟨okt, oks, okl⟩ := hz
  have hS := hX.S
  have hL := hX.L
  have hat := hX.at
  have hH8 : H ≤ 8 := oks.2.1
  have hM20 : 2 ≤ M ∧ M ≤ 20 := oks.1
  have hH : I b 0 = nI H := hSt.1.1
  have hMo : I b 1 = nI M := hSt.2.1
  obtain ⟨⟨x0, x1, x2⟩, -, ⟨-, -, hLk⟩, ⟨hQ, hA, hG, hW, hRd, hD, hPg⟩, ⟨p0, p3, p8, p10, p12, p13, p14, p15, p16, p17⟩, ⟨p4, p5, p6, p7⟩, -, -, -⟩ := id hX
  have hl : (fsN H M un cs e).length ≤ 1000 := gd_len hg
  refine ct_of 3 (by decide +kernel) (Nat.le_of_ble_eq_true rfl) rfl ?_
  refine r_aload_n dX9_post_0 rfl ?_
  refine r_iload_n dX9_post_1 rfl ?_
  refine r_virtV (m0_House o b (nI h) x0 p4 hS.1 (by rw [hH]; exact (isH_of hh (by omega)))) lk_X9_142 mc_X9_mustBeHouse dX9_post_2 x0 (by decide) rfl rfl (Nat.le_of_ble_eq_true rfl) ?_
  refine r_aload_n dX9_post_5 rfl ?_
  refine r_iload_n dX9_post_6 rfl ?_
  refine r_virtV (m0_Number o b (nI p) x0 p4 hS.1 (by rw [hMo]; exact (isN_of hp1 hp (by omega)))) lk_X9_235 mc_X9_mustBeNumber dX9_post_7 x0 (by decide) rfl rfl (Nat.le_of_ble_eq_true rfl) ?_
  refine r_aload_n dX9_post_10 rfl ?_
  refine r_virt (kc2 := 1) (ks2 := 6) (k_search o b s f l hC0 hz0) lk_X9_183 mc_X9_search dX9_post_11 x0 (by decide) rfl rfl (Nat.le_of_ble_eq_true rfl) (by decide) (by decide) (fun _ _ _ _ _ _ h => nomatch h.1) ?_
  rintro v1 n1 kd1 I1 J1 P1 ⟨h00, rfl, rfl, hfr, h56, hC1, h11⟩
  cases h00
  simp only [Option.toList, List.nil_append]
  obtain ⟨f9, f10, fS, fJ⟩ := hC1.found h11 hz0
  obtain ⟨⟨y0, y1, y2⟩, -, -, ⟨hQ1, hA1, hG1, hW1, -, -, -⟩, ⟨-, -, -, r10, r12, r13, r14, -, -, -⟩, ⟨r4, r5, r6, r7⟩, -, -, -⟩ := id hC1.1
  have hH1 := hC1.H0
  have hMo1 := hC1.M0
  have hS1 := hC1.1.S
  have hL1 := hC1.1.L
  refine r_aload_n dX9_post_14 rfl ?_
  refine r_getR dX9_post_15 fl_X9_54 rfl (by assumption) (by assumption) ?_
  refine r_getI dX9_post_18 fl_X9_186 rfl hQ1.1 ?_
  rw [f10, if_pos hg]
  refine r_bipush (v := (-2)) dX9_post_21 (by decide) ?_
  refine r_icmp_ne (tgt := 29) dX9_post_23 (by decide) (fun _ => ?_) (fun hz => absurd hz (show ¬ _ from (nI_m2 (by omega))))
  refine r_aload_n dX9_post_29 rfl ?_
  refine r_getR dX9_post_30 fl_X9_54 rfl (by assumption) (by assumption) ?_
  refine r_getR dX9_post_33 fl_X9_195 rfl hQ1.1 hQ1.2.2.2.2.2.2.2.2.2.2 ?_
  refine r_iload_n dX9_post_36 rfl ?_
  refine r_iald dX9_post_37 hQ1.2.2.2.2.2.1 (nI_in8 8 (by omega) (by decide)) (nI_clamp (by omega)) ?_
  rw [fS h hh]
  refine r_istore_n dX9_post_38 (by decide) ?_
  refine r_iload_n dX9_post_39 rfl ?_
  refine r_if_ne (tgt := 45) dX9_post_40 (by decide) (fun hz => absurd (show _ from (by rw [hw]; rfl)) hz) (fun _ => ?_)
  refine r_iconst (v := nI 0) dX9_post_43 (by decide) ?_
  refine r_iret rfl dX9_post_44 ?_
  exact ⟨rfl, ⟨Nat.le_refl _, Nat.le_succ _⟩, fun q => by rw [h56]; exact q, fun a a1 a2 => ⟨rfl, (hfr a (by omega)).1, (hfr a (by omega)).2.1, (hfr a (by omega)).2.2⟩, b, s, f, l, hC1⟩

set_option maxHeartbeats 4000000 in
set_option maxRecDepth 100000 in
theorem k_post (o b s f l : Nat) (h p lo hi : Nat) {t : Nat} {T : Nat → Nat} {fp : Int32} {rr : Nat → Int32} {H M : Nat} {un : Bool} {cs : Nat → List Nat} {tx : Nat → List Int32} {e : Lf} {im : Option Lf} {wk : Option (List Nat)} {n : Nat} {kd : mK} {I : mI} {J : mJ} {P : mP} (hC : CR o b s f l n kd I J P t T fp rr H M un cs tx e im wk) (hz : okZ t T H M cs e) (hh : h < H) (hp1 : 1 ≤ p) (hp : p ≤ M) (hg : gdN H M un cs e = true) (hb : lhB (mayN (fsN H M un cs e) h) lo hi) : Ct yX9_post cX9_post 6 (some .int) 9 1 6 [.ref o, .int (nI h), .int (nI p)] n kd I J P (pK o n kd I J P (.inl (some (.int (nI (postA lo hi p))))) (CX o t T fp rr H M un cs tx e im wk)) := by
  have hC0 := hC
  have hz0 := hz
  obtain ⟨hX, hsc, hT, hSt, hLf, hIm, hWk, hQc, hPc⟩ := hC
  obtain ⟨okt, oks, okl⟩ := hz
  have hS := hX.S
  have hL := hX.L
  have hat := hX.at
  have hH8 : H ≤ 8 := oks.2.1
  have hM20 : 2 ≤ M ∧ M ≤ 20 := oks.1
  have hH : I b 0 = nI H := hSt.1.1
  have hMo : I b 1 = nI M := hSt.2.1
  obtain ⟨⟨x0, x1, x2⟩, -, ⟨-, -, hLk⟩, ⟨hQ, hA, hG, hW, hRd, hD, hPg⟩, ⟨p0, p3, p8, p10, p12, p13, p14, p15, p16, p17⟩, ⟨p4, p5, p6, p7⟩, -, -, -⟩ := id hX
  have hl : (fsN H M un cs e).length ≤ 1000 := gd_len hg
  have hle := hb.le
  have hwb : mayN (fsN H M un cs e) h < 2 ^ 21 := mayN_lt (zR_rng hH8 hM20.2).2 hM20.2 hh
  have hhi : hi < 21 := by
    by_cases q : hi < 21
    · exact q
    · have := Nat.testBit_lt_two_pow (Nat.lt_of_lt_of_le hwb (Nat.pow_le_pow_right (by decide) (show 21 ≤ hi by omega)))
      rw [hb.2.1] at this
      exact absurd this (by decide)
  have hd1 : dst p lo < 2 ^ 30 := by unfold dst; split <;> omega
  have hd2 : dst p hi < 2 ^ 30 := by unfold dst; split <;> omega
  have hw0 : 0 < mayN (fsN H M un cs e) h := by
    have := Nat.ge_two_pow_of_testBit hb.1.1
    have := Nat.two_pow_pos lo
    omega
  refine ct_of 3 (by decide +kernel) (Nat.le_of_ble_eq_true rfl) rfl ?_
  refine r_aload_n dX9_post_0 rfl ?_
  refine r_iload_n dX9_post_1 rfl ?_
  refine r_virtV (m0_House o b (nI h) x0 p4 hS.1 (by rw [hH]; exact (isH_of hh (by omega)))) lk_X9_142 mc_X9_mustBeHouse dX9_post_2 x0 (by decide) rfl rfl (Nat.le_of_ble_eq_true rfl) ?_
  refine r_aload_n dX9_post_5 rfl ?_
  refine r_iload_n dX9_post_6 rfl ?_
  refine r_virtV (m0_Number o b (nI p) x0 p4 hS.1 (by rw [hMo]; exact (isN_of hp1 hp (by omega)))) lk_X9_235 mc_X9_mustBeNumber dX9_post_7 x0 (by decide) rfl rfl (Nat.le_of_ble_eq_true rfl) ?_
  refine r_aload_n dX9_post_10 rfl ?_
  refine r_virt (kc2 := 1) (ks2 := 6) (k_search o b s f l hC0 hz0) lk_X9_183 mc_X9_search dX9_post_11 x0 (by decide) rfl rfl (Nat.le_of_ble_eq_true rfl) (by decide) (by decide) (fun _ _ _ _ _ _ h => nomatch h.1) ?_
  rintro v1 n1 kd1 I1 J1 P1 ⟨h00, rfl, rfl, hfr, h56, hC1, h11⟩
  cases h00
  simp only [Option.toList, List.nil_append]
  obtain ⟨f9, f10, fS, fJ⟩ := hC1.found h11 hz0
  obtain ⟨⟨y0, y1, y2⟩, -, -, ⟨hQ1, hA1, hG1, hW1, -, -, -⟩, ⟨-, -, -, r10, r12, r13, r14, -, -, -⟩, ⟨r4, r5, r6, r7⟩, -, -, -⟩ := id hC1.1
  have hH1 := hC1.H0
  have hMo1 := hC1.M0
  have hS1 := hC1.1.S
  have hL1 := hC1.1.L
  refine r_aload_n dX9_post_14 rfl ?_
  refine r_getR dX9_post_15 fl_X9_54 rfl (by assumption) (by assumption) ?_
  refine r_getI dX9_post_18 fl_X9_186 rfl hQ1.1 ?_
  rw [f10, if_pos hg]
  refine r_bipush (v := (-2)) dX9_post_21 (by decide) ?_
  refine r_icmp_ne (tgt := 29) dX9_post_23 (by decide) (fun _ => ?_) (fun hz => absurd hz (show ¬ _ from (nI_m2 (by omega))))
  refine r_aload_n dX9_post_29 rfl ?_
  refine r_getR dX9_post_30 fl_X9_54 rfl (by assumption) (by assumption) ?_
  refine r_getR dX9_post_33 fl_X9_195 rfl hQ1.1 hQ1.2.2.2.2.2.2.2.2.2.2 ?_
  refine r_iload_n dX9_post_36 rfl ?_
  refine r_iald dX9_post_37 hQ1.2.2.2.2.2.1 (nI_in8 8 (by omega) (by decide)) (nI_clamp (by omega)) ?_
  rw [fS h hh]
  refine r_istore_n dX9_post_38 (by decide) ?_
  refine r_iload_n dX9_post_39 rfl ?_
  refine r_if_ne (tgt := 45) dX9_post_40 (by decide) (fun _ => ?_) (fun hz => absurd hz (show ¬ _ from (nI_ne0 (by omega) (by omega))))
  refine r_iload_n dX9_post_45 rfl ?_
  refine r_statE (c_J6_numberOfTrailingZeros_0f7a4 (mayN (fsN H M un cs e) h) lo (by omega) hb.1.1 hb.1.2 (by omega)) lk_X9_238 mc_J6_numberOfTrailingZeros_0f7a4 dX9_post_46 (by decide) rfl rfl (Nat.le_of_ble_eq_true rfl) ?_
  refine r_istore dX9_post_49 (by decide) ?_
  refine r_bipush (v := nI 31) dX9_post_51 (by decide) ?_
  refine r_iload_n dX9_post_53 rfl ?_
  refine r_statE (c_nlz (mayN (fsN H M un cs e) h) (by omega) (by omega)) lk_X9_243 mc_J6_numberOfLeadingZeros_0f7a4 dX9_post_54 (by decide) rfl rfl (Nat.le_of_ble_eq_true rfl) ?_
  rw [log2_hi hb.2.1 hb.2.2]
  refine r_isub dX9_post_57 ?_
  rw [pk_sub (by omega), show 31 - (31 - hi) = hi by omega]
  refine r_istore dX9_post_58 (by decide) ?_
  refine r_iload dX9_post_60 rfl ?_
  refine r_iload dX9_post_62 rfl ?_
  refine r_isub dX9_post_64 ?_
  rw [pk_sub hle]
  refine r_iload_n dX9_post_65 rfl ?_
  refine r_iload dX9_post_66 rfl ?_
  refine r_isub dX9_post_68 ?_
  refine r_mabs dX9_post_69 mm_X9_246 (by decide) (Nat.le_of_ble_eq_true rfl) ?_
  rw [ab_nI (by omega) (by omega)]
  refine r_iload_n dX9_post_72 rfl ?_
  refine r_iload dX9_post_73 rfl ?_
  refine r_isub dX9_post_75 ?_
  refine r_mabs dX9_post_76 mm_X9_246 (by decide) (Nat.le_of_ble_eq_true rfl) ?_
  rw [ab_nI (by omega) (by omega)]
  refine r_mmin dX9_post_79 mm_X9_251 (by decide) (Nat.le_of_ble_eq_true rfl) ?_
  rw [mn_nI (by omega) (by omega)]
  refine r_iadd dX9_post_82 ?_
  rw [nI_add]
  refine r_iret rfl dX9_post_83 ?_
  exact ⟨rfl, ⟨Nat.le_refl _, Nat.le_succ _⟩, fun q => by rw [h56]; exact q, fun a a1 a2 => ⟨rfl, (hfr a (by omega)).1, (hfr a (by omega)).2.1, (hfr a (by omega)).2.2⟩, b, s, f, l, hC1⟩

set_option maxHeartbeats 4000000 in
set_option maxRecDepth 100000 in
theorem k_post_no (o b s f l : Nat) (h : Nat) (y : Int32) {t : Nat} {T : Nat → Nat} {fp : Int32} {rr : Nat → Int32} {H M : Nat} {un : Bool} {cs : Nat → List Nat} {tx : Nat → List Int32} {e : Lf} {im : Option Lf} {wk : Option (List Nat)} {n : Nat} {kd : mK} {I : mI} {J : mJ} {P : mP} (hC : CR o b s f l n kd I J P t T fp rr H M un cs tx e im wk) (hz : okZ t T H M cs e) (hh : h < H) (hy : (!decide (y < nI 1) && decide (y ≤ nI M)) = false) : Ct yX9_post cX9_post 6 (some .int) 9 1 6 [.ref o, .int (nI h), .int y] n kd I J P (fun z n' kd' I' J' P' => z = .inr "java/lang/IllegalArgumentException" ∧ n' = n ∧ kd' = kd ∧ I' = I ∧ J' = J ∧ P' = P) := by
  obtain ⟨hX, hsc, hT, hSt, hLf, hIm, hWk, hQc, hPc⟩ := hC
  obtain ⟨okt, oks, okl⟩ := hz
  have hS := hX.S
  have hL := hX.L
  have hat := hX.at
  have hH8 : H ≤ 8 := oks.2.1
  have hM20 : 2 ≤ M ∧ M ≤ 20 := oks.1
  have hH : I b 0 = nI H := hSt.1.1
  have hMo : I b 1 = nI M := hSt.2.1
  obtain ⟨⟨x0, x1, x2⟩, -, ⟨-, -, hLk⟩, ⟨hQ, hA, hG, hW, hRd, hD, hPg⟩, ⟨p0, p3, p8, p10, p12, p13, p14, p15, p16, p17⟩, ⟨p4, p5, p6, p7⟩, -, -, -⟩ := id hX
  refine ct_of 3 (by decide +kernel) (Nat.le_of_ble_eq_true rfl) rfl ?_
  refine r_aload_n dX9_post_0 rfl ?_
  refine r_iload_n dX9_post_1 rfl ?_
  refine r_virtV (m0_House o b (nI h) x0 p4 hS.1 (by rw [hH]; exact (isH_of hh (by omega)))) lk_X9_142 mc_X9_mustBeHouse dX9_post_2 x0 (by decide) rfl rfl (Nat.le_of_ble_eq_true rfl) ?_
  refine r_aload_n dX9_post_5 rfl ?_
  refine r_iload_n dX9_post_6 rfl ?_
  have hc7 := c_X9_mustBeNumber (n := n) (kd := kd) (I := I) (J := J) (P := P) o b (y) x0 p4 hS.1
  rw [hMo, hy] at hc7
  exact r_virtX hc7 lk_X9_235 mc_X9_mustBeNumber dX9_post_7 x0 (by decide) rfl rfl (Nat.le_of_ble_eq_true rfl) (by decide) (by decide) ⟨rfl, rfl, rfl, rfl, rfl, rfl⟩

set_option maxHeartbeats 4000000 in
set_option maxRecDepth 100000 in
theorem w_post_lo (m h p w lo : Nat) {post : am_Post} (z5 z6 z7 : Option Value) {n : Nat} {kd : mK} {I : mI} {J : mJ} {P : mP} (hlo : w.testBit lo = true) (hl0 : ∀ j, j < lo → w.testBit j = false) (hb : lo < 31) (hE : Ru yX10_post.cls cX10_post 8 (some .int) yX10_post.name 10 (post) 0 0 72 [some (.ref m), some (.int (nI h)), some (.int (nI p)), some (.int (nI w)), some (.int (nI lo)), z5, z6, z7] [] n kd I J P) : ∀ (c i : Nat), i + c = lo → Ru yX10_post.cls cX10_post 8 (some .int) yX10_post.name 10 (post) 0 0 57 [some (.ref m), some (.int (nI h)), some (.int (nI p)), some (.int (nI w)), some (.int (nI i)), z5, z6, z7] [] n kd I J P
  | 0, i, hi => by
    rw [show i = lo by omega]
    refine r_iload_n dX10_post_57 rfl ?_
    refine r_iload dX10_post_58 rfl ?_
    refine r_ishr dX10_post_60 ?_
    refine r_iconst (v := nI 1) dX10_post_61 (by decide) ?_
    refine r_iand dX10_post_62 ?_
    rw [b_ask _ (by omega), bt_nI _ (by omega)]
    rw [hlo, if_pos rfl]
    refine r_if_ne (tgt := 72) dX10_post_63 (by decide) (fun _ => ?_) (fun hz => absurd hz (show ¬ _ from (by decide)))
    exact hE
  | c + 1, i, hi => by
    refine r_iload_n dX10_post_57 rfl ?_
    refine r_iload dX10_post_58 rfl ?_
    refine r_ishr dX10_post_60 ?_
    refine r_iconst (v := nI 1) dX10_post_61 (by decide) ?_
    refine r_iand dX10_post_62 ?_
    rw [b_ask _ (by omega), bt_nI _ (by omega)]
    rw [hl0 i (by omega), if_neg (by decide)]
    refine r_if_ne (tgt := 72) dX10_post_63 (by decide) (fun hz => absurd (show _ from rfl) hz) (fun _ => ?_)
    refine r_iinc (v := nI (i + 1)) dX10_post_66 rfl (nI_inc i) ?_
    refine r_goto (tgt := 57) dX10_post_69 (by decide) ?_
    exact w_post_lo m h p w lo z5 z6 z7 hlo hl0 hb hE c (i + 1) (by omega)

set_option maxHeartbeats 4000000 in
set_option maxRecDepth 100000 in
theorem w_post_hi (m h p w lo hi : Nat) {post : am_Post} (z6 z7 : Option Value) {n : Nat} {kd : mK} {I : mI} {J : mJ} {P : mP} (hhi : w.testBit hi = true) (hl0 : ∀ j, hi < j → w.testBit j = false) (hE : Ru yX10_post.cls cX10_post 8 (some .int) yX10_post.name 10 (post) 0 0 93 [some (.ref m), some (.int (nI h)), some (.int (nI p)), some (.int (nI w)), some (.int (nI lo)), some (.int (nI hi)), z6, z7] [] n kd I J P) : ∀ (c v : Nat), v = hi + c → v < 31 → Ru yX10_post.cls cX10_post 8 (some .int) yX10_post.name 10 (post) 0 0 78 [some (.ref m), some (.int (nI h)), some (.int (nI p)), some (.int (nI w)), some (.int (nI lo)), some (.int (nI v)), z6, z7] [] n kd I J P
  | 0, v, hv, hb => by
    rw [show v = hi by omega]
    refine r_iload_n dX10_post_78 rfl ?_
    refine r_iload dX10_post_79 rfl ?_
    refine r_ishr dX10_post_81 ?_
    refine r_iconst (v := nI 1) dX10_post_82 (by decide) ?_
    refine r_iand dX10_post_83 ?_
    rw [b_ask _ (by omega), bt_nI _ (by omega)]
    rw [hhi, if_pos rfl]
    refine r_if_ne (tgt := 93) dX10_post_84 (by decide) (fun _ => ?_) (fun hz => absurd hz (show ¬ _ from (by decide)))
    exact hE
  | c + 1, v, hv, hb => by
    rw [show v = hi + c + 1 by omega]
    refine r_iload_n dX10_post_78 rfl ?_
    refine r_iload dX10_post_79 rfl ?_
    refine r_ishr dX10_post_81 ?_
    refine r_iconst (v := nI 1) dX10_post_82 (by decide) ?_
    refine r_iand dX10_post_83 ?_
    rw [b_ask _ (by omega), bt_nI _ (by omega)]
    rw [hl0 (hi + c + 1) (by omega), if_neg (by decide)]
    refine r_if_ne (tgt := 93) dX10_post_84 (by decide) (fun hz => absurd (show _ from rfl) hz) (fun _ => ?_)
    refine r_iinc (v := nI (hi + c)) dX10_post_87 rfl (nI_dec (hi + c)) ?_
    refine r_goto (tgt := 78) dX10_post_90 (by decide) ?_
    exact w_post_hi m h p w lo hi z6 z7 hhi hl0 hE c (hi + c) rfl (by omega)

set_option maxHeartbeats 4000000 in
set_option maxRecDepth 100000 in
theorem q_post_sp (m : Nat) (h p : Nat) {t : Nat} {T : Nat → Nat} {fp : Int32} {rr : Nat → Int32} {H M : Nat} {un : Bool} {cs : Nat → List Nat} {tx : Nat → List Int32} {e : Lf} {im : Option Lf} {wk : Option (List Nat)} {n : Nat} {kd : mK} {I : mI} {J : mJ} {P : mP} (hC : RR m kd I P t T fp rr H M un cs tx e im wk) (hz : okZ t T H M cs e) (hh : h < H) (hp1 : 1 ≤ p) (hp : p ≤ M) (hg : gdN H M un cs e = false) : Ct yX10_post cX10_post 8 (some .int) 10 0 0 [.ref m, .int (nI h), .int (nI p)] n kd I J P (pQ m n kd I J P (some (.int (-2))) 0 (RX m t T fp rr H M un cs tx e im wk)) := by
  refine ct_of 5 (by decide +kernel) (Nat.le_of_ble_eq_true rfl) rfl ?_
  refine r_aload_n dX10_post_0 rfl ?_
  refine r_iconst (v := nI 0) dX10_post_1 (by decide) ?_
  refine r_putI dX10_post_2 fl_X10_193 rfl rfl (kM_0 hC.1) ?_
  refine q_th hC (fun I hC h0 => ?_)
  have hC0 := hC
  have hz0 := hz
  obtain ⟨hM, hT, hSt, hLf, hIm, hWk⟩ := hC
  obtain ⟨okt, oks, okl⟩ := hz
  have hH8 : H ≤ 8 := oks.2.1
  have hM20 : 2 ≤ M ∧ M ≤ 20 := oks.1
  have hH : I m 1 = nI H := hSt.1.1
  have hMo : I m 2 = nI M := hSt.1.2.1
  refine r_aload_n dX10_post_5 rfl ?_
  refine r_iload_n dX10_post_6 rfl ?_
  refine r_virtE (c_X10_isHouse m (nI h) hM h0) lk_X10_373 mc_X10_isHouse dX10_post_7 (kM_0 hM) (by decide) rfl rfl (Nat.le_of_ble_eq_true rfl) ?_
  rw [show (!decide (nI h < 0) && decide (nI h < I m 1)) = true from by rw [hH]; exact (isH_of hh (by omega)), thM_ok]
  refine r_if_eq (tgt := 30) dX10_post_10 (by decide) (fun hz => absurd hz (show ¬ _ from (by decide))) (fun _ => ?_)
  refine r_aload_n dX10_post_13 rfl ?_
  refine r_iload_n dX10_post_14 rfl ?_
  refine r_iconst (v := nI 1) dX10_post_15 (by decide) ?_
  refine r_aload_n dX10_post_16 rfl ?_
  refine r_getI dX10_post_17 fl_X10_7 rfl (kM_0 hM) ?_
  rw [hMo]
  refine r_statE (c_X10_within (nI p) (nI 1) (nI M)) lk_X10_369 mc_X10_within dX10_post_20 (by decide) rfl rfl (Nat.le_of_ble_eq_true rfl) ?_
  rw [show (!decide (nI p < nI 1) && !decide (nI M < nI p)) = true from wi_of hp1 hp (by omega)]
  refine r_iconst (v := nI 2) dX10_post_23 (by decide) ?_
  refine r_virtE (c_X10_right m true (nI 2) hM h0 (by decide)) lk_X10_343 mc_X10_right dX10_post_24 (kM_0 hM) (by decide) rfl rfl (Nat.le_of_ble_eq_true rfl) ?_
  rw [thM_ok]
  refine r_if_ne (tgt := 32) dX10_post_27 (by decide) (fun _ => ?_) (fun hz => absurd hz (show ¬ _ from (by decide)))
  refine r_aload_n dX10_post_32 rfl ?_
  refine r_virt (kc2 := 0) (ks2 := 0) (q_seeksAll m hC0 hz0) lk_X10_436 mc_X10_seeksAll dX10_post_33 (kM_0 hM) (by decide) rfl rfl (Nat.le_of_ble_eq_true rfl) (by decide) (by decide) (fun _ _ _ _ _ _ h => nomatch h.1) ?_
  rintro v1 n1 kd1 I1 J1 P1 ⟨h00, rfl, rfl, rfl, rfl, hfr, hfd⟩
  cases h00
  simp only [Option.toList, List.nil_append, List.cons_append]
  have hC1 := RR.rf hfr hC0
  have h01 : I1 m 0 = 0 := by rw [hfr.2 0 (by decide) (by decide)]; exact h0
  have hH1 := hC1.2.2.1.1.1
  have hMo1 := hC1.2.2.1.1.2.1
  rw [hg]
  refine r_if_ne (tgt := 42) dX10_post_36 (by decide) (fun hz => absurd (show _ from rfl) hz) (fun _ => ?_)
  refine r_bipush (v := (-2)) dX10_post_39 (by decide) ?_
  refine r_iret rfl dX10_post_41 ?_
  exact ⟨rfl, rfl, rfl, rfl, fun a ha => ⟨hfr.1 a (by omega) (by omega) (by omega) (by omega), rfl⟩, h01, hC1⟩

set_option maxHeartbeats 4000000 in
set_option maxRecDepth 100000 in
theorem q_post_0 (m : Nat) (h p : Nat) {t : Nat} {T : Nat → Nat} {fp : Int32} {rr : Nat → Int32} {H M : Nat} {un : Bool} {cs : Nat → List Nat} {tx : Nat → List Int32} {e : Lf} {im : Option Lf} {wk : Option (List Nat)} {n : Nat} {kd : mK} {I : mI} {J : mJ} {P : mP} (hC : RR m kd I P t T fp rr H M un cs tx e im wk) (hz : okZ t T H M cs e) (hh : h < H) (hp1 : 1 ≤ p) (hp : p ≤ M) (hg : gdN H M un cs e = true) (hw : mayN (fsN H M un cs e) h = 0) : Ct yX10_post cX10_post 8 (some .int) 10 0 0 [.ref m, .int (nI h), .int (nI p)] n kd I J P (pQ m n kd I J P (some (.int (nI 0))) 0 (RX m t T fp rr H M un cs tx e im wk)) := by
  refine ct_of 5 (by decide +kernel) (Nat.le_of_ble_eq_true rfl) rfl ?_
  refine r_aload_n dX10_post_0 rfl ?_
  refine r_iconst (v := nI 0) dX10_post_1 (by decide) ?_
  refine r_putI dX10_post_2 fl_X10_193 rfl rfl (kM_0 hC.1) ?_
  refine q_th hC (fun I hC h0 => ?_)
  have hC0 := hC
  have hz0 := hz
  obtain ⟨hM, hT, hSt, hLf, hIm, hWk⟩ := hC
  obtain ⟨okt, oks, okl⟩ := hz
  have hH8 : H ≤ 8 := oks.2.1
  have hM20 : 2 ≤ M ∧ M ≤ 20 := oks.1
  have hH : I m 1 = nI H := hSt.1.1
  have hMo : I m 2 = nI M := hSt.1.2.1
  have hl : (fsN H M un cs e).length ≤ 1000 := gd_len hg
  refine r_aload_n dX10_post_5 rfl ?_
  refine r_iload_n dX10_post_6 rfl ?_
  refine r_virtE (c_X10_isHouse m (nI h) hM h0) lk_X10_373 mc_X10_isHouse dX10_post_7 (kM_0 hM) (by decide) rfl rfl (Nat.le_of_ble_eq_true rfl) ?_
  rw [show (!decide (nI h < 0) && decide (nI h < I m 1)) = true from by rw [hH]; exact (isH_of hh (by omega)), thM_ok]
  refine r_if_eq (tgt := 30) dX10_post_10 (by decide) (fun hz => absurd hz (show ¬ _ from (by decide))) (fun _ => ?_)
  refine r_aload_n dX10_post_13 rfl ?_
  refine r_iload_n dX10_post_14 rfl ?_
  refine r_iconst (v := nI 1) dX10_post_15 (by decide) ?_
  refine r_aload_n dX10_post_16 rfl ?_
  refine r_getI dX10_post_17 fl_X10_7 rfl (kM_0 hM) ?_
  rw [hMo]
  refine r_statE (c_X10_within (nI p) (nI 1) (nI M)) lk_X10_369 mc_X10_within dX10_post_20 (by decide) rfl rfl (Nat.le_of_ble_eq_true rfl) ?_
  rw [show (!decide (nI p < nI 1) && !decide (nI M < nI p)) = true from wi_of hp1 hp (by omega)]
  refine r_iconst (v := nI 2) dX10_post_23 (by decide) ?_
  refine r_virtE (c_X10_right m true (nI 2) hM h0 (by decide)) lk_X10_343 mc_X10_right dX10_post_24 (kM_0 hM) (by decide) rfl rfl (Nat.le_of_ble_eq_true rfl) ?_
  rw [thM_ok]
  refine r_if_ne (tgt := 32) dX10_post_27 (by decide) (fun _ => ?_) (fun hz => absurd hz (show ¬ _ from (by decide)))
  refine r_aload_n dX10_post_32 rfl ?_
  refine r_virt (kc2 := 0) (ks2 := 0) (q_seeksAll m hC0 hz0) lk_X10_436 mc_X10_seeksAll dX10_post_33 (kM_0 hM) (by decide) rfl rfl (Nat.le_of_ble_eq_true rfl) (by decide) (by decide) (fun _ _ _ _ _ _ h => nomatch h.1) ?_
  rintro v1 n1 kd1 I1 J1 P1 ⟨h00, rfl, rfl, rfl, rfl, hfr, hfd⟩
  cases h00
  simp only [Option.toList, List.nil_append, List.cons_append]
  have hC1 := RR.rf hfr hC0
  have h01 : I1 m 0 = 0 := by rw [hfr.2 0 (by decide) (by decide)]; exact h0
  have hH1 := hC1.2.2.1.1.1
  have hMo1 := hC1.2.2.1.1.2.1
  rw [hg]
  refine r_if_ne (tgt := 42) dX10_post_36 (by decide) (fun _ => ?_) (fun hz => absurd hz (show ¬ _ from (by decide)))
  refine r_aload_n dX10_post_42 rfl ?_
  refine r_iload_n dX10_post_43 rfl ?_
  refine r_virtE (c_X10_mayOf m (h) (fsN H M un cs e).length hM (by omega) (hfd hg).1 hl) lk_X10_442 mc_X10_mayOf dX10_post_44 (kM_0 hM) (by decide) rfl rfl (Nat.le_of_ble_eq_true rfl) ?_
  rw [my_of hM20.2 hh (fsN H M un cs e) _ (zR_rng hH8 hM20.2).2 (fun i hi => (hfd hg).2.2 i _ hi hh)]
  refine r_istore_n dX10_post_47 (by decide) ?_
  refine r_iload_n dX10_post_48 rfl ?_
  refine r_if_ne (tgt := 54) dX10_post_49 (by decide) (fun hz => absurd (show _ from (by rw [hw]; rfl)) hz) (fun _ => ?_)
  refine r_iconst (v := nI 0) dX10_post_52 (by decide) ?_
  refine r_iret rfl dX10_post_53 ?_
  exact ⟨rfl, rfl, rfl, rfl, fun a ha => ⟨hfr.1 a (by omega) (by omega) (by omega) (by omega), rfl⟩, h01, hC1⟩

set_option maxHeartbeats 4000000 in
set_option maxRecDepth 100000 in
theorem q_post (m : Nat) (h p lo hi : Nat) {t : Nat} {T : Nat → Nat} {fp : Int32} {rr : Nat → Int32} {H M : Nat} {un : Bool} {cs : Nat → List Nat} {tx : Nat → List Int32} {e : Lf} {im : Option Lf} {wk : Option (List Nat)} {n : Nat} {kd : mK} {I : mI} {J : mJ} {P : mP} (hC : RR m kd I P t T fp rr H M un cs tx e im wk) (hz : okZ t T H M cs e) (hh : h < H) (hp1 : 1 ≤ p) (hp : p ≤ M) (hg : gdN H M un cs e = true) (hb : lhB (mayN (fsN H M un cs e) h) lo hi) : Ct yX10_post cX10_post 8 (some .int) 10 0 0 [.ref m, .int (nI h), .int (nI p)] n kd I J P (pQ m n kd I J P (some (.int (nI (postA lo hi p)))) 0 (RX m t T fp rr H M un cs tx e im wk)) := by
  refine ct_of 5 (by decide +kernel) (Nat.le_of_ble_eq_true rfl) rfl ?_
  refine r_aload_n dX10_post_0 rfl ?_
  refine r_iconst (v := nI 0) dX10_post_1 (by decide) ?_
  refine r_putI dX10_post_2 fl_X10_193 rfl rfl (kM_0 hC.1) ?_
  refine q_th hC (fun I hC h0 => ?_)
  have hC0 := hC
  have hz0 := hz
  obtain ⟨hM, hT, hSt, hLf, hIm, hWk⟩ := hC
  obtain ⟨okt, oks, okl⟩ := hz
  have hH8 : H ≤ 8 := oks.2.1
  have hM20 : 2 ≤ M ∧ M ≤ 20 := oks.1
  have hH : I m 1 = nI H := hSt.1.1
  have hMo : I m 2 = nI M := hSt.1.2.1
  have hl : (fsN H M un cs e).length ≤ 1000 := gd_len hg
  have hle := hb.le
  have hwb : mayN (fsN H M un cs e) h < 2 ^ 21 := mayN_lt (zR_rng hH8 hM20.2).2 hM20.2 hh
  have hhi : hi < 21 := by
    by_cases q : hi < 21
    · exact q
    · have := Nat.testBit_lt_two_pow (Nat.lt_of_lt_of_le hwb (Nat.pow_le_pow_right (by decide) (show 21 ≤ hi by omega)))
      rw [hb.2.1] at this
      exact absurd this (by decide)
  have hd1 : dst p lo < 2 ^ 30 := by unfold dst; split <;> omega
  have hd2 : dst p hi < 2 ^ 30 := by unfold dst; split <;> omega
  have hw0 : 0 < mayN (fsN H M un cs e) h := by
    have := Nat.ge_two_pow_of_testBit hb.1.1
    have := Nat.two_pow_pos lo
    omega
  have hhM : hi ≤ M := by
    obtain ⟨N, n1, n2⟩ := (mayN_bit _ _ _).mp hb.2.1
    have := ((zR_rng hH8 hM20.2).2 N n1 h hh).2
    omega
  refine r_aload_n dX10_post_5 rfl ?_
  refine r_iload_n dX10_post_6 rfl ?_
  refine r_virtE (c_X10_isHouse m (nI h) hM h0) lk_X10_373 mc_X10_isHouse dX10_post_7 (kM_0 hM) (by decide) rfl rfl (Nat.le_of_ble_eq_true rfl) ?_
  rw [show (!decide (nI h < 0) && decide (nI h < I m 1)) = true from by rw [hH]; exact (isH_of hh (by omega)), thM_ok]
  refine r_if_eq (tgt := 30) dX10_post_10 (by decide) (fun hz => absurd hz (show ¬ _ from (by decide))) (fun _ => ?_)
  refine r_aload_n dX10_post_13 rfl ?_
  refine r_iload_n dX10_post_14 rfl ?_
  refine r_iconst (v := nI 1) dX10_post_15 (by decide) ?_
  refine r_aload_n dX10_post_16 rfl ?_
  refine r_getI dX10_post_17 fl_X10_7 rfl (kM_0 hM) ?_
  rw [hMo]
  refine r_statE (c_X10_within (nI p) (nI 1) (nI M)) lk_X10_369 mc_X10_within dX10_post_20 (by decide) rfl rfl (Nat.le_of_ble_eq_true rfl) ?_
  rw [show (!decide (nI p < nI 1) && !decide (nI M < nI p)) = true from wi_of hp1 hp (by omega)]
  refine r_iconst (v := nI 2) dX10_post_23 (by decide) ?_
  refine r_virtE (c_X10_right m true (nI 2) hM h0 (by decide)) lk_X10_343 mc_X10_right dX10_post_24 (kM_0 hM) (by decide) rfl rfl (Nat.le_of_ble_eq_true rfl) ?_
  rw [thM_ok]
  refine r_if_ne (tgt := 32) dX10_post_27 (by decide) (fun _ => ?_) (fun hz => absurd hz (show ¬ _ from (by decide)))
  refine r_aload_n dX10_post_32 rfl ?_
  refine r_virt (kc2 := 0) (ks2 := 0) (q_seeksAll m hC0 hz0) lk_X10_436 mc_X10_seeksAll dX10_post_33 (kM_0 hM) (by decide) rfl rfl (Nat.le_of_ble_eq_true rfl) (by decide) (by decide) (fun _ _ _ _ _ _ h => nomatch h.1) ?_
  rintro v1 n1 kd1 I1 J1 P1 ⟨h00, rfl, rfl, rfl, rfl, hfr, hfd⟩
  cases h00
  simp only [Option.toList, List.nil_append, List.cons_append]
  have hC1 := RR.rf hfr hC0
  have h01 : I1 m 0 = 0 := by rw [hfr.2 0 (by decide) (by decide)]; exact h0
  have hH1 := hC1.2.2.1.1.1
  have hMo1 := hC1.2.2.1.1.2.1
  rw [hg]
  refine r_if_ne (tgt := 42) dX10_post_36 (by decide) (fun _ => ?_) (fun hz => absurd hz (show ¬ _ from (by decide)))
  refine r_aload_n dX10_post_42 rfl ?_
  refine r_iload_n dX10_post_43 rfl ?_
  refine r_virtE (c_X10_mayOf m (h) (fsN H M un cs e).length hM (by omega) (hfd hg).1 hl) lk_X10_442 mc_X10_mayOf dX10_post_44 (kM_0 hM) (by decide) rfl rfl (Nat.le_of_ble_eq_true rfl) ?_
  rw [my_of hM20.2 hh (fsN H M un cs e) _ (zR_rng hH8 hM20.2).2 (fun i hi => (hfd hg).2.2 i _ hi hh)]
  refine r_istore_n dX10_post_47 (by decide) ?_
  refine r_iload_n dX10_post_48 rfl ?_
  refine r_if_ne (tgt := 54) dX10_post_49 (by decide) (fun _ => ?_) (fun hz => absurd hz (show ¬ _ from (nI_ne0 (by omega) (by omega))))
  refine r_iconst (v := nI 0) dX10_post_54 (by decide) ?_
  refine r_istore dX10_post_55 (by decide) ?_
  refine w_post_lo m h p (mayN (fsN H M un cs e) h) lo _ _ _ hb.1.1 hb.1.2 (by omega) ?_ lo 0 (by omega)
  refine r_aload_n dX10_post_72 rfl ?_
  refine r_getI dX10_post_73 fl_X10_7 rfl (kM_0 hM) ?_
  rw [hMo1]
  refine r_istore dX10_post_76 (by decide) ?_
  refine w_post_hi m h p (mayN (fsN H M un cs e) h) lo hi _ _ hb.2.1 hb.2.2 ?_ (M - hi) M (by omega) (by omega)
  by_cases c1 : p < lo
  · by_cases c2 : p < hi
    · skip
      by_cases c3 : lo - p < hi - p
      · rw [show postA lo hi p = hi - lo + (lo - p) from by unfold postA dst; rw [if_pos c1, if_pos c2]; omega]
        refine r_iload_n dX10_post_93 rfl ?_
        refine r_iload dX10_post_94 rfl ?_
        refine r_icmp_ge (tgt := 106) dX10_post_96 (by decide) (fun hz => absurd hz (show ¬ _ from (by rw [nI_leI (by omega) (by omega)]; omega))) (fun _ => ?_)
        refine r_iload dX10_post_99 rfl ?_
        refine r_iload_n dX10_post_101 rfl ?_
        refine r_isub dX10_post_102 ?_
        rw [pk_sub (by omega)]
        refine r_goto (tgt := 110) dX10_post_103 (by decide) ?_
        refine r_istore dX10_post_110 (by decide) ?_
        refine r_iload_n dX10_post_112 rfl ?_
        refine r_iload dX10_post_113 rfl ?_
        refine r_icmp_ge (tgt := 125) dX10_post_115 (by decide) (fun hz => absurd hz (show ¬ _ from (by rw [nI_leI (by omega) (by omega)]; omega))) (fun _ => ?_)
        refine r_iload dX10_post_118 rfl ?_
        refine r_iload_n dX10_post_120 rfl ?_
        refine r_isub dX10_post_121 ?_
        rw [pk_sub (by omega)]
        refine r_goto (tgt := 129) dX10_post_122 (by decide) ?_
        refine r_istore dX10_post_129 (by decide) ?_
        refine r_iload dX10_post_131 rfl ?_
        refine r_iload dX10_post_133 rfl ?_
        refine r_isub dX10_post_135 ?_
        rw [pk_sub (by omega)]
        refine r_iload dX10_post_136 rfl ?_
        refine r_iload dX10_post_138 rfl ?_
        refine r_icmp_ge (tgt := 148) dX10_post_140 (by decide) (fun hz => absurd hz (show ¬ _ from (by rw [nI_leI (by omega) (by omega)]; omega))) (fun _ => ?_)
        refine r_iload dX10_post_143 rfl ?_
        refine r_goto (tgt := 150) dX10_post_145 (by decide) ?_
        refine r_iadd dX10_post_150 ?_
        rw [nI_add]
        refine r_iret rfl dX10_post_151 ?_
        exact ⟨rfl, rfl, rfl, rfl, fun a ha => ⟨hfr.1 a (by omega) (by omega) (by omega) (by omega), rfl⟩, h01, hC1⟩
      · rw [show postA lo hi p = hi - lo + (hi - p) from by unfold postA dst; rw [if_pos c1, if_pos c2]; omega]
        refine r_iload_n dX10_post_93 rfl ?_
        refine r_iload dX10_post_94 rfl ?_
        refine r_icmp_ge (tgt := 106) dX10_post_96 (by decide) (fun hz => absurd hz (show ¬ _ from (by rw [nI_leI (by omega) (by omega)]; omega))) (fun _ => ?_)
        refine r_iload dX10_post_99 rfl ?_
        refine r_iload_n dX10_post_101 rfl ?_
        refine r_isub dX10_post_102 ?_
        rw [pk_sub (by omega)]
        refine r_goto (tgt := 110) dX10_post_103 (by decide) ?_
        refine r_istore dX10_post_110 (by decide) ?_
        refine r_iload_n dX10_post_112 rfl ?_
        refine r_iload dX10_post_113 rfl ?_
        refine r_icmp_ge (tgt := 125) dX10_post_115 (by decide) (fun hz => absurd hz (show ¬ _ from (by rw [nI_leI (by omega) (by omega)]; omega))) (fun _ => ?_)
        refine r_iload dX10_post_118 rfl ?_
        refine r_iload_n dX10_post_120 rfl ?_
        refine r_isub dX10_post_121 ?_
        rw [pk_sub (by omega)]
        refine r_goto (tgt := 129) dX10_post_122 (by decide) ?_
        refine r_istore dX10_post_129 (by decide) ?_
        refine r_iload dX10_post_131 rfl ?_
        refine r_iload dX10_post_133 rfl ?_
        refine r_isub dX10_post_135 ?_
        rw [pk_sub (by omega)]
        refine r_iload dX10_post_136 rfl ?_
        refine r_iload dX10_post_138 rfl ?_
        refine r_icmp_ge (tgt := 148) dX10_post_140 (by decide) (fun _ => ?_) (fun hz => absurd (show _ from (by rw [nI_leI (by omega) (by omega)]; omega)) hz)
        refine r_iload dX10_post_148 rfl ?_
        refine r_iadd dX10_post_150 ?_
        rw [nI_add]
        refine r_iret rfl dX10_post_151 ?_
        exact ⟨rfl, rfl, rfl, rfl, fun a ha => ⟨hfr.1 a (by omega) (by omega) (by omega) (by omega), rfl⟩, h01, hC1⟩
    · omega
  · by_cases c2 : p < hi
    · skip
      by_cases c3 : p - lo < hi - p
      · rw [show postA lo hi p = hi - lo + (p - lo) from by unfold postA dst; rw [if_neg c1, if_pos c2]; omega]
        refine r_iload_n dX10_post_93 rfl ?_
        refine r_iload dX10_post_94 rfl ?_
        refine r_icmp_ge (tgt := 106) dX10_post_96 (by decide) (fun _ => ?_) (fun hz => absurd (show _ from (by rw [nI_leI (by omega) (by omega)]; omega)) hz)
        refine r_iload_n dX10_post_106 rfl ?_
        refine r_iload dX10_post_107 rfl ?_
        refine r_isub dX10_post_109 ?_
        rw [pk_sub (by omega)]
        refine r_istore dX10_post_110 (by decide) ?_
        refine r_iload_n dX10_post_112 rfl ?_
        refine r_iload dX10_post_113 rfl ?_
        refine r_icmp_ge (tgt := 125) dX10_post_115 (by decide) (fun hz => absurd hz (show ¬ _ from (by rw [nI_leI (by omega) (by omega)]; omega))) (fun _ => ?_)
        refine r_iload dX10_post_118 rfl ?_
        refine r_iload_n dX10_post_120 rfl ?_
        refine r_isub dX10_post_121 ?_
        rw [pk_sub (by omega)]
        refine r_goto (tgt := 129) dX10_post_122 (by decide) ?_
        refine r_istore dX10_post_129 (by decide) ?_
        refine r_iload dX10_post_131 rfl ?_
        refine r_iload dX10_post_133 rfl ?_
        refine r_isub dX10_post_135 ?_
        rw [pk_sub (by omega)]
        refine r_iload dX10_post_136 rfl ?_
        refine r_iload dX10_post_138 rfl ?_
        refine r_icmp_ge (tgt := 148) dX10_post_140 (by decide) (fun hz => absurd hz (show ¬ _ from (by rw [nI_leI (by omega) (by omega)]; omega))) (fun _ => ?_)
        refine r_iload dX10_post_143 rfl ?_
        refine r_goto (tgt := 150) dX10_post_145 (by decide) ?_
        refine r_iadd dX10_post_150 ?_
        rw [nI_add]
        refine r_iret rfl dX10_post_151 ?_
        exact ⟨rfl, rfl, rfl, rfl, fun a ha => ⟨hfr.1 a (by omega) (by omega) (by omega) (by omega), rfl⟩, h01, hC1⟩
      · rw [show postA lo hi p = hi - lo + (hi - p) from by unfold postA dst; rw [if_neg c1, if_pos c2]; omega]
        refine r_iload_n dX10_post_93 rfl ?_
        refine r_iload dX10_post_94 rfl ?_
        refine r_icmp_ge (tgt := 106) dX10_post_96 (by decide) (fun _ => ?_) (fun hz => absurd (show _ from (by rw [nI_leI (by omega) (by omega)]; omega)) hz)
        refine r_iload_n dX10_post_106 rfl ?_
        refine r_iload dX10_post_107 rfl ?_
        refine r_isub dX10_post_109 ?_
        rw [pk_sub (by omega)]
        refine r_istore dX10_post_110 (by decide) ?_
        refine r_iload_n dX10_post_112 rfl ?_
        refine r_iload dX10_post_113 rfl ?_
        refine r_icmp_ge (tgt := 125) dX10_post_115 (by decide) (fun hz => absurd hz (show ¬ _ from (by rw [nI_leI (by omega) (by omega)]; omega))) (fun _ => ?_)
        refine r_iload dX10_post_118 rfl ?_
        refine r_iload_n dX10_post_120 rfl ?_
        refine r_isub dX10_post_121 ?_
        rw [pk_sub (by omega)]
        refine r_goto (tgt := 129) dX10_post_122 (by decide) ?_
        refine r_istore dX10_post_129 (by decide) ?_
        refine r_iload dX10_post_131 rfl ?_
        refine r_iload dX10_post_133 rfl ?_
        refine r_isub dX10_post_135 ?_
        rw [pk_sub (by omega)]
        refine r_iload dX10_post_136 rfl ?_
        refine r_iload dX10_post_138 rfl ?_
        refine r_icmp_ge (tgt := 148) dX10_post_140 (by decide) (fun _ => ?_) (fun hz => absurd (show _ from (by rw [nI_leI (by omega) (by omega)]; omega)) hz)
        refine r_iload dX10_post_148 rfl ?_
        refine r_iadd dX10_post_150 ?_
        rw [nI_add]
        refine r_iret rfl dX10_post_151 ?_
        exact ⟨rfl, rfl, rfl, rfl, fun a ha => ⟨hfr.1 a (by omega) (by omega) (by omega) (by omega), rfl⟩, h01, hC1⟩
    · skip
      by_cases c3 : p - lo < p - hi
      · rw [show postA lo hi p = hi - lo + (p - lo) from by unfold postA dst; rw [if_neg c1, if_neg c2]; omega]
        refine r_iload_n dX10_post_93 rfl ?_
        refine r_iload dX10_post_94 rfl ?_
        refine r_icmp_ge (tgt := 106) dX10_post_96 (by decide) (fun _ => ?_) (fun hz => absurd (show _ from (by rw [nI_leI (by omega) (by omega)]; omega)) hz)
        refine r_iload_n dX10_post_106 rfl ?_
        refine r_iload dX10_post_107 rfl ?_
        refine r_isub dX10_post_109 ?_
        rw [pk_sub (by omega)]
        refine r_istore dX10_post_110 (by decide) ?_
        refine r_iload_n dX10_post_112 rfl ?_
        refine r_iload dX10_post_113 rfl ?_
        refine r_icmp_ge (tgt := 125) dX10_post_115 (by decide) (fun _ => ?_) (fun hz => absurd (show _ from (by rw [nI_leI (by omega) (by omega)]; omega)) hz)
        refine r_iload_n dX10_post_125 rfl ?_
        refine r_iload dX10_post_126 rfl ?_
        refine r_isub dX10_post_128 ?_
        rw [pk_sub (by omega)]
        refine r_istore dX10_post_129 (by decide) ?_
        refine r_iload dX10_post_131 rfl ?_
        refine r_iload dX10_post_133 rfl ?_
        refine r_isub dX10_post_135 ?_
        rw [pk_sub (by omega)]
        refine r_iload dX10_post_136 rfl ?_
        refine r_iload dX10_post_138 rfl ?_
        refine r_icmp_ge (tgt := 148) dX10_post_140 (by decide) (fun hz => absurd hz (show ¬ _ from (by rw [nI_leI (by omega) (by omega)]; omega))) (fun _ => ?_)
        refine r_iload dX10_post_143 rfl ?_
        refine r_goto (tgt := 150) dX10_post_145 (by decide) ?_
        refine r_iadd dX10_post_150 ?_
        rw [nI_add]
        refine r_iret rfl dX10_post_151 ?_
        exact ⟨rfl, rfl, rfl, rfl, fun a ha => ⟨hfr.1 a (by omega) (by omega) (by omega) (by omega), rfl⟩, h01, hC1⟩
      · rw [show postA lo hi p = hi - lo + (p - hi) from by unfold postA dst; rw [if_neg c1, if_neg c2]; omega]
        refine r_iload_n dX10_post_93 rfl ?_
        refine r_iload dX10_post_94 rfl ?_
        refine r_icmp_ge (tgt := 106) dX10_post_96 (by decide) (fun _ => ?_) (fun hz => absurd (show _ from (by rw [nI_leI (by omega) (by omega)]; omega)) hz)
        refine r_iload_n dX10_post_106 rfl ?_
        refine r_iload dX10_post_107 rfl ?_
        refine r_isub dX10_post_109 ?_
        rw [pk_sub (by omega)]
        refine r_istore dX10_post_110 (by decide) ?_
        refine r_iload_n dX10_post_112 rfl ?_
        refine r_iload dX10_post_113 rfl ?_
        refine r_icmp_ge (tgt := 125) dX10_post_115 (by decide) (fun _ => ?_) (fun hz => absurd (show _ from (by rw [nI_leI (by omega) (by omega)]; omega)) hz)
        refine r_iload_n dX10_post_125 rfl ?_
        refine r_iload dX10_post_126 rfl ?_
        refine r_isub dX10_post_128 ?_
        rw [pk_sub (by omega)]
        refine r_istore dX10_post_129 (by decide) ?_
        refine r_iload dX10_post_131 rfl ?_
        refine r_iload dX10_post_133 rfl ?_
        refine r_isub dX10_post_135 ?_
        rw [pk_sub (by omega)]
        refine r_iload dX10_post_136 rfl ?_
        refine r_iload dX10_post_138 rfl ?_
        refine r_icmp_ge (tgt := 148) dX10_post_140 (by decide) (fun _ => ?_) (fun hz => absurd (show _ from (by rw [nI_leI (by omega) (by omega)]; omega)) hz)
        refine r_iload dX10_post_148 rfl ?_
        refine r_iadd dX10_post_150 ?_
        rw [nI_add]
        refine r_iret rfl dX10_post_151 ?_
        exact ⟨rfl, rfl, rfl, rfl, fun a ha => ⟨hfr.1 a (by omega) (by omega) (by omega) (by omega), rfl⟩, h01, hC1⟩

set_option maxHeartbeats 4000000 in
set_option maxRecDepth 100000 in
theorem q_post_no (m : Nat) (h : Nat) (y : Int32) {t : Nat} {T : Nat → Nat} {fp : Int32} {rr : Nat → Int32} {H M : Nat} {un : Bool} {cs : Nat → List Nat} {tx : Nat → List Int32} {e : Lf} {im : Option Lf} {wk : Option (List Nat)} {n : Nat} {kd : mK} {I : mI} {J : mJ} {P : mP} (hC : RR m kd I P t T fp rr H M un cs tx e im wk) (hz : okZ t T H M cs e) (hh : h < H) (hy : (!decide (y < nI 1) && decide (y ≤ nI M)) = false) : Ct yX10_post cX10_post 8 (some .int) 10 0 0 [.ref m, .int (nI h), .int y] n kd I J P (pQ m n kd I J P (some (.int (nI 0))) 2 (RX m t T fp rr H M un cs tx e im wk)) := by
  refine ct_of 5 (by decide +kernel) (Nat.le_of_ble_eq_true rfl) rfl ?_
  refine r_aload_n dX10_post_0 rfl ?_
  refine r_iconst (v := nI 0) dX10_post_1 (by decide) ?_
  refine r_putI dX10_post_2 fl_X10_193 rfl rfl (kM_0 hC.1) ?_
  refine q_th hC (fun I hC h0 => ?_)
  have hC0 := hC
  have hz0 := hz
  obtain ⟨hM, hT, hSt, hLf, hIm, hWk⟩ := hC
  obtain ⟨okt, oks, okl⟩ := hz
  have hH8 : H ≤ 8 := oks.2.1
  have hM20 : 2 ≤ M ∧ M ≤ 20 := oks.1
  have hH : I m 1 = nI H := hSt.1.1
  have hMo : I m 2 = nI M := hSt.1.2.1
  refine r_aload_n dX10_post_5 rfl ?_
  refine r_iload_n dX10_post_6 rfl ?_
  refine r_virtE (c_X10_isHouse m (nI h) hM h0) lk_X10_373 mc_X10_isHouse dX10_post_7 (kM_0 hM) (by decide) rfl rfl (Nat.le_of_ble_eq_true rfl) ?_
  rw [show (!decide (nI h < 0) && decide (nI h < I m 1)) = true from by rw [hH]; exact (isH_of hh (by omega)), thM_ok]
  refine r_if_eq (tgt := 30) dX10_post_10 (by decide) (fun hz => absurd hz (show ¬ _ from (by decide))) (fun _ => ?_)
  refine r_aload_n dX10_post_13 rfl ?_
  refine r_iload_n dX10_post_14 rfl ?_
  refine r_iconst (v := nI 1) dX10_post_15 (by decide) ?_
  refine r_aload_n dX10_post_16 rfl ?_
  refine r_getI dX10_post_17 fl_X10_7 rfl (kM_0 hM) ?_
  rw [hMo]
  refine r_statE (c_X10_within (y) (nI 1) (nI M)) lk_X10_369 mc_X10_within dX10_post_20 (by decide) rfl rfl (Nat.le_of_ble_eq_true rfl) ?_
  rw [show (!decide (y < nI 1) && !decide (nI M < y)) = false from wiN_no hy]
  refine r_iconst (v := nI 2) dX10_post_23 (by decide) ?_
  refine r_virtE (c_X10_right m false (nI 2) hM h0 (by decide)) lk_X10_343 mc_X10_right dX10_post_24 (kM_0 hM) (by decide) rfl rfl (Nat.le_of_ble_eq_true rfl) ?_
  refine r_if_ne (tgt := 32) dX10_post_27 (by decide) (fun hz => absurd (show _ from rfl) hz) (fun _ => ?_)
  refine r_iconst (v := nI 0) dX10_post_30 (by decide) ?_
  refine r_iret rfl dX10_post_31 ?_
  exact pQ.th hC0 am_is.mk

