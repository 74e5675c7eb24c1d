/-! RINGS AND LEVELS: on any state, the class -/
theorem or_nI {a b : Nat} : nI a ||| nI b = nI (a ||| b) := b_ext (fun i hi => by rw [b_or, bt_nI _ hi, bt_nI _ hi, bt_nI _ hi, Nat.testBit_or])
theorem sh1_nI : ∀ h, h < 8 → nI 1 <<< (nI h &&& 31) = nI (2 ^ h) := by decide +kernel
theorem nO_bit (x : Int32) (i : Nat) : (nO x).testBit i = bt x i := rfl
/-- others on which a house leans -/
def lnN (H : Nat) (cs : Nat → List Nat) (e : Lf) (h : Nat) : Nat := if (spB H cs e).testBit h = true then nO (nI (lkO cs H h) &&& ((nI 1 <<< (nI h &&& 31)) ^^^ (-1))) else 0
theorem lnN_lt {H : Nat} {cs : Nat → List Nat} {e : Lf} {h i : Nat} (hH : H ≤ 8) (hi : H ≤ i) : (lnN H cs e h).testBit i = false := by
  unfold lnN
  split
  · rw [nO_bit]
    by_cases q : i < 32
    · rw [b_and, bt_nI _ q]
      have : (lkO cs H h).testBit i = false := Nat.testBit_lt_two_pow (Nat.lt_of_lt_of_le (Nat.mod_lt _ (Nat.two_pow_pos H)) (Nat.pow_le_pow_right (by decide) hi))
      rw [this, Bool.false_and]
    · exact BitVec.getLsbD_of_ge _ _ (by omega)
  · exact Nat.zero_testBit _
theorem lt_bits {x : Nat} {H : Nat} (h : ∀ i, H ≤ i → x.testBit i = false) : x < 2 ^ H := Nat.lt_pow_two_of_testBit _ (fun i hi => h i hi)
theorem lnN_256 {H : Nat} {cs : Nat → List Nat} {e : Lf} {h : Nat} (hH : H ≤ 8) : lnN H cs e h < 256 := Nat.lt_of_lt_of_le (lt_bits (fun i hi => lnN_lt hH hi)) (Nat.pow_le_pow_right (n := 2) (by decide) hH)
/-- all on which one of a set leans -/
def suN (ln : Nat → Nat) (s : Nat) : Nat → Nat
  | 0 => 0
  | k + 1 => if s.testBit k = true then suN ln s k ||| ln k else suN ln s k
theorem suN_bit (ln : Nat → Nat) (s j : Nat) : ∀ k, (suN ln s k).testBit j = true ↔ ∃ u, u < k ∧ s.testBit u = true ∧ (ln u).testBit j = true
  | 0 => by
    constructor
    · intro h; rw [show suN ln s 0 = 0 from rfl, Nat.zero_testBit] at h; exact absurd h (by decide)
    · rintro ⟨u, hu, _⟩; omega
  | k + 1 => by
    show (if s.testBit k = true then suN ln s k ||| ln k else suN ln s k).testBit j = true ↔ _
    by_cases q : s.testBit k = true
    · rw [if_pos q, Nat.testBit_or, Bool.or_eq_true, suN_bit ln s j k]
      constructor
      · rintro (⟨u, a, b, c⟩ | c)
        · exact ⟨u, by omega, b, c⟩
        · exact ⟨k, by omega, q, c⟩
      · rintro ⟨u, a, b, c⟩
        by_cases r : u = k
        · right; rw [← r]; exact c
        · left; exact ⟨u, by omega, b, c⟩
    · rw [if_neg q, suN_bit ln s j k]
      constructor
      · rintro ⟨u, a, b, c⟩; exact ⟨u, by omega, b, c⟩
      · rintro ⟨u, a, b, c⟩
        refine ⟨u, ?_, b, c⟩
        by_cases r : u = k
        · rw [r] at b; exact absurd b q
        · omega
theorem suN_lt {ln : Nat → Nat} {s : Nat} (h : ∀ k, ln k < 256) : ∀ k, suN ln s k < 256
  | 0 => by show (0 : Nat) < 256; decide
  | k + 1 => by
    show (if s.testBit k = true then suN ln s k ||| ln k else suN ln s k) < 256
    split
    · exact Nat.or_lt_two_pow (n := 8) (suN_lt h k) (h k)
    · exact suN_lt h k
/-- the class's way round, the reference's -/
def rgC (ln : Nat → Nat) (H h : Nat) : Nat → Nat → Nat → Int32
  | 0, _, _ => -1
  | c + 1, n, s => if (suN ln s H).testBit h = true then nI n else rgC ln H h c (n + 1) (suN ln s H)
def rgR (ln : Nat → Nat) (H h : Nat) : Nat → Nat → Nat → Nat → Int32
  | 0, _, _, _ => -1
  | c + 1, n, co, al => if (suN ln co H).testBit h = true then nI n else rgR ln H h c (n + 1) (nO (nI (suN ln co H) &&& (nI al ^^^ (-1)))) (al ||| suN ln co H)
theorem clr_bit {x al i : Nat} (hi : i < 32) : (nO (nI x &&& (nI al ^^^ (-1)))).testBit i = (x.testBit i && !al.testBit i) := by
  rw [nO_bit, b_and, b_xor, bt_nI _ hi, bt_nI _ hi, b_m1 i hi, Bool.xor_true]
theorem rg_same {ln : Nat → Nat} {H h : Nat} (hH : H ≤ 8) (hln : ∀ k, k < H → ∀ j, H ≤ j → (ln k).testBit j = false) : ∀ (c n s co al : Nat), (∀ i, i < H → co.testBit i = true → s.testBit i = true) → (∀ i, i < H → s.testBit i = true → co.testBit i = false → ∀ j, (ln i).testBit j = true → al.testBit j = true) → al.testBit h = false → (∀ i, i < H → al.testBit i = true → co.testBit i = false → ∀ j, (ln i).testBit j = true → al.testBit j = true) → rgC ln H h c n s = rgR ln H h c n co al
  | 0, _, _, _, _, _, _, _, _ => rfl
  | c + 1, n, s, co, al, h1, h2, h3, h4 => by
    have sub : ∀ j, (suN ln co H).testBit j = true → (suN ln s H).testBit j = true := fun j hj => by
      obtain ⟨u, a, b, q⟩ := (suN_bit ln co j H).mp hj
      exact (suN_bit ln s j H).mpr ⟨u, a, h1 u a b, q⟩
    have back : ∀ j, (suN ln s H).testBit j = true → (suN ln co H).testBit j = true ∨ al.testBit j = true := fun j hj => by
      obtain ⟨u, a, b, q⟩ := (suN_bit ln s j H).mp hj
      cases hc : co.testBit u with
      | true => exact Or.inl ((suN_bit ln co j H).mpr ⟨u, a, hc, q⟩)
      | false => exact Or.inr (h2 u a b hc j q)
    have iff1 : (suN ln s H).testBit h = true ↔ (suN ln co H).testBit h = true := ⟨fun q => (back h q).resolve_right (by rw [h3]; decide), sub h⟩
    show (if (suN ln s H).testBit h = true then nI n else rgC ln H h c (n + 1) (suN ln s H)) = (if (suN ln co H).testBit h = true then nI n else rgR ln H h c (n + 1) (nO (nI (suN ln co H) &&& (nI al ^^^ (-1)))) (al ||| suN ln co H))
    by_cases q : (suN ln co H).testBit h = true
    · rw [if_pos q, if_pos (iff1.mpr q)]
    · rw [if_neg q, if_neg (fun z => q (iff1.mp z))]
      have key : ∀ i, i < H → al.testBit i = true → ∀ j, (ln i).testBit j = true → (al ||| suN ln co H).testBit j = true := fun i hi ha j hj => by
        rw [Nat.testBit_or, Bool.or_eq_true]
        cases hc : co.testBit i with
        | true => exact Or.inr ((suN_bit ln co j H).mpr ⟨i, hi, hc, hj⟩)
        | false => exact Or.inl (h4 i hi ha hc j hj)
      refine rg_same hH hln c (n + 1) _ _ _ (fun i hi hc => ?_) (fun i hi hs hc j hj => ?_) ?_ (fun i hi ha hc j hj => ?_)
      · rw [clr_bit (by omega), Bool.and_eq_true] at hc
        exact sub i hc.1
      · rw [clr_bit (by omega)] at hc
        refine key i hi ?_ j hj
        rcases back i hs with r | r
        · rw [r] at hc
          simpa using hc
        · exact r
      · rw [Nat.testBit_or, h3, Bool.false_or]
        simpa using q
      · rw [clr_bit (by omega)] at hc
        refine key i hi ?_ j hj
        rw [Nat.testBit_or, Bool.or_eq_true] at ha
        rcases ha with r | r
        · exact r
        · rw [r] at hc
          simpa using hc
def rgO (H : Nat) (cs : Nat → List Nat) (e : Lf) (h : Nat) : Int32 := rgC (lnN H cs e) H h H 1 (2 ^ h)
theorem rg_ref {H : Nat} {cs : Nat → List Nat} {e : Lf} {h : Nat} (hH : H ≤ 8) (hh : h < H) : rgR (lnN H cs e) H h H 1 (2 ^ h) 0 = rgO H cs e h :=
  (rg_same hH (fun k _ j hj => lnN_lt hH hj) H 1 (2 ^ h) (2 ^ h) 0 (fun _ _ q => q) (fun i _ a b => absurd a (by rw [b]; decide)) (Nat.zero_testBit _) (fun i _ a => absurd a (by rw [Nat.zero_testBit]; decide))).symm
/-- levels: 0 none, else 1 more than the level -/
def lvI (x : Nat) : Int32 := if x = 0 then -1 else nI (x - 1)
def lvB (L : Nat → Nat) (s : Nat) : Nat → Nat → Nat → Nat
  | 0, _, v => v + 1
  | c + 1, k, v => if s.testBit k = true then (if L k = 0 then 0 else lvB L s c (k + 1) (max v (L k))) else lvB L s c (k + 1) v
def lvK (ln : Nat → Nat) (H : Nat) (L : Nat → Nat) : Nat → Nat → Nat
  | 0 => L
  | k + 1 => va_up (lvK ln H L k) k (lvB (lvK ln H L k) (ln k) H 0 0)
def lvN (ln : Nat → Nat) (H : Nat) : Nat → Nat → Nat
  | 0 => fun _ => 0
  | n + 1 => lvK ln H (lvN ln H n) H
theorem lvB_le {L : Nat → Nat} {s B : Nat} (hL : ∀ j, L j ≤ B) : ∀ (c k v : Nat), v ≤ B → lvB L s c k v ≤ B + 1
  | 0, _, v, hv => by show v + 1 ≤ B + 1; omega
  | c + 1, k, v, hv => by
    show (if s.testBit k = true then (if L k = 0 then 0 else lvB L s c (k + 1) (max v (L k))) else lvB L s c (k + 1) v) ≤ B + 1
    have := hL k
    split
    · split
      · omega
      · exact lvB_le hL c (k + 1) _ (by omega)
    · exact lvB_le hL c (k + 1) v hv
theorem lvK_le {ln : Nat → Nat} {H B : Nat} {L : Nat → Nat} (hL : ∀ j, L j ≤ B) : ∀ k j, lvK ln H L k j ≤ B + k
  | 0, j => hL j
  | k + 1, j => by
    show va_up (lvK ln H L k) k (lvB (lvK ln H L k) (ln k) H 0 0) j ≤ B + (k + 1)
    by_cases q : j = k
    · rw [q, am_up_s]
      exact lvB_le (lvK_le hL k) H 0 0 (by omega)
    · rw [am_up_n _ _ q]
      have := lvK_le (ln := ln) (H := H) hL k j
      omega
theorem lvN_le {ln : Nat → Nat} {H : Nat} : ∀ n j, lvN ln H n j ≤ n * H
  | 0, j => Nat.zero_le _
  | n + 1, j => by
    have := lvK_le (ln := ln) (H := H) (lvN_le (ln := ln) (H := H) n) H j
    rw [Nat.succ_mul]
    exact this
def lvO (H : Nat) (cs : Nat → List Nat) (e : Lf) (h : Nat) : Int32 := lvI (lvN (lnN H cs e) H H h)
theorem lv_bd {n k H B : Nat} (hH : H ≤ 8) (hn : n ≤ H) (hk : k ≤ H) (hB : B ≤ n * H + k) : B < 2 ^ 30 := by
  have : n * H ≤ 8 * 8 := Nat.mul_le_mul (by omega) hH
  omega
theorem lvI_eq {x : Nat} (h : x < 2 ^ 31) : lvI x = -1 ↔ x = 0 := by
  unfold lvI
  split
  · rename_i q; exact ⟨fun _ => q, fun _ => rfl⟩
  · rename_i q; exact ⟨fun z => absurd z (nI_m1 (by omega)), fun z => absurd z q⟩
/-- leaning, of the class -/
theorem spb_bit {H h : Nat} {cs : Nat → List Nat} {e : Lf} (hh : h < 32) : bt (nI (spB H cs e)) h = (spB H cs e).testBit h := bt_nI _ hh
theorem dX7_leansOn_0 : decode cX7_leansOn 0 = .ok (.iload_n 2, 1) := by decide +kernel
theorem dX7_leansOn_1 : decode cX7_leansOn 1 = .ok (.iload_n 1, 1) := by decide +kernel
theorem dX7_leansOn_2 : decode cX7_leansOn 2 = .ok (.ishr, 1) := by decide +kernel
theorem dX7_leansOn_3 : decode cX7_leansOn 3 = .ok (.iconst 1, 1) := by decide +kernel
theorem dX7_leansOn_4 : decode cX7_leansOn 4 = .ok (.iand, 1) := by decide +kernel
theorem dX7_leansOn_5 : decode cX7_leansOn 5 = .ok (.ifCond .ne 7, 3) := by decide +kernel
theorem dX7_leansOn_8 : decode cX7_leansOn 8 = .ok (.iconst 0, 1) := by decide +kernel
theorem dX7_leansOn_9 : decode cX7_leansOn 9 = .ok (.goto 14, 3) := by decide +kernel
theorem dX7_leansOn_12 : decode cX7_leansOn 12 = .ok (.aload_n 0, 1) := by decide +kernel
theorem dX7_leansOn_13 : decode cX7_leansOn 13 = .ok (.iload_n 1, 1) := by decide +kernel
theorem dX7_leansOn_14 : decode cX7_leansOn 14 = .ok (.invokevirtual 79, 3) := by decide +kernel
theorem dX7_leansOn_17 : decode cX7_leansOn 17 = .ok (.iconst 1, 1) := by decide +kernel
theorem dX7_leansOn_18 : decode cX7_leansOn 18 = .ok (.iload_n 1, 1) := by decide +kernel
theorem dX7_leansOn_19 : decode cX7_leansOn 19 = .ok (.ishl, 1) := by decide +kernel
theorem dX7_leansOn_20 : decode cX7_leansOn 20 = .ok (.iconst (-1), 1) := by decide +kernel
theorem dX7_leansOn_21 : decode cX7_leansOn 21 = .ok (.ixor, 1) := by decide +kernel
theorem dX7_leansOn_22 : decode cX7_leansOn 22 = .ok (.iand, 1) := by decide +kernel
theorem dX7_leansOn_23 : decode cX7_leansOn 23 = .ok (.ireturn, 1) := by decide +kernel

set_option maxHeartbeats 4000000 in
set_option maxRecDepth 100000 in
theorem c_X7_leansOn (b h : Nat) {H M : Nat} {un : Bool} {cs : Nat → List Nat} {tx : Nat → List Int32} {e : Lf} {n : Nat} {kd : mK} {I : mI} {J : mJ} {P : mP} (hS : kS kd P b) (hSt : cS I b H M un cs tx) (oS : okS H M cs) (hh : h < H) : Ct yX7_leansOn cX7_leansOn 3 (some .int) 3 0 0 [.ref b, .int (nI h), .int (nI (spB H cs e))] n kd I J P (am_is (some (.int (nI (lnN H cs e h)))) n kd I J P) := by
  have hH8 := oS.2.1
  refine ct_of 0 (by decide +kernel) (Nat.le_of_ble_eq_true rfl) rfl ?_
  by_cases c : (spB H cs e).testBit h = true
  · skip
    refine r_iload_n dX7_leansOn_0 rfl ?_
    refine r_iload_n dX7_leansOn_1 rfl ?_
    refine r_ishr dX7_leansOn_2 ?_
    refine r_iconst (v := nI 1) dX7_leansOn_3 (by decide) ?_
    refine r_iand dX7_leansOn_4 ?_
    rw [b_ask _ (by omega), spb_bit (by omega)]
    rw [if_pos c]
    refine r_if_ne (tgt := 12) dX7_leansOn_5 (by decide) (fun _ => ?_) (fun hz => absurd hz (show ¬ _ from (by decide)))
    refine r_aload_n dX7_leansOn_12 rfl ?_
    refine r_iload_n dX7_leansOn_13 rfl ?_
    refine r_virtE (c_X7_looksAt b h hS (by omega)) lk_X7_79 mc_X7_looksAt dX7_leansOn_14 hS.1 (by decide) rfl rfl (Nat.le_of_ble_eq_true rfl) ?_
    rw [lks_c hh hSt oS]
    refine r_iconst (v := nI 1) dX7_leansOn_17 (by decide) ?_
    refine r_iload_n dX7_leansOn_18 rfl ?_
    refine r_ishl dX7_leansOn_19 ?_
    refine r_iconst (v := (-1)) dX7_leansOn_20 (by decide) ?_
    refine r_ixor dX7_leansOn_21 ?_
    refine r_iand dX7_leansOn_22 ?_
    refine r_iret rfl dX7_leansOn_23 ?_
    rw [show nI (lnN H cs e h) = nI (lkO cs H h) &&& ((nI 1 <<< (nI h &&& 31)) ^^^ (-1)) from by unfold lnN; rw [if_pos c, nO_eq]]
    exact am_is.mk
  · skip
    refine r_iload_n dX7_leansOn_0 rfl ?_
    refine r_iload_n dX7_leansOn_1 rfl ?_
    refine r_ishr dX7_leansOn_2 ?_
    refine r_iconst (v := nI 1) dX7_leansOn_3 (by decide) ?_
    refine r_iand dX7_leansOn_4 ?_
    rw [b_ask _ (by omega), spb_bit (by omega)]
    rw [if_neg c]
    refine r_if_ne (tgt := 12) dX7_leansOn_5 (by decide) (fun hz => absurd (show _ from rfl) hz) (fun _ => ?_)
    refine r_iconst (v := nI 0) dX7_leansOn_8 (by decide) ?_
    refine r_goto (tgt := 23) dX7_leansOn_9 (by decide) ?_
    refine r_iret rfl dX7_leansOn_23 ?_
    rw [show nI (lnN H cs e h) = nI 0 from by unfold lnN; rw [if_neg c]]
    exact am_is.mk

theorem dX7_ringOf_0 : decode cX7_ringOf 0 = .ok (.iconst 1, 1) := by decide +kernel
theorem dX7_ringOf_1 : decode cX7_ringOf 1 = .ok (.iload_n 1, 1) := by decide +kernel
theorem dX7_ringOf_2 : decode cX7_ringOf 2 = .ok (.ishl, 1) := by decide +kernel
theorem dX7_ringOf_3 : decode cX7_ringOf 3 = .ok (.istore_n 3, 1) := by decide +kernel
theorem dX7_ringOf_4 : decode cX7_ringOf 4 = .ok (.iconst 1, 1) := by decide +kernel
theorem dX7_ringOf_5 : decode cX7_ringOf 5 = .ok (.istore 4, 2) := by decide +kernel
theorem dX7_ringOf_7 : decode cX7_ringOf 7 = .ok (.iload 4, 2) := by decide +kernel
theorem dX7_ringOf_9 : decode cX7_ringOf 9 = .ok (.aload_n 0, 1) := by decide +kernel
theorem dX7_ringOf_10 : decode cX7_ringOf 10 = .ok (.getfield 9, 3) := by decide +kernel
theorem dX7_ringOf_13 : decode cX7_ringOf 13 = .ok (.if_icmp .gt 65, 3) := by decide +kernel
theorem dX7_ringOf_16 : decode cX7_ringOf 16 = .ok (.iconst 0, 1) := by decide +kernel
theorem dX7_ringOf_17 : decode cX7_ringOf 17 = .ok (.istore 5, 2) := by decide +kernel
theorem dX7_ringOf_19 : decode cX7_ringOf 19 = .ok (.iconst 0, 1) := by decide +kernel
theorem dX7_ringOf_20 : decode cX7_ringOf 20 = .ok (.istore 6, 2) := by decide +kernel
theorem dX7_ringOf_22 : decode cX7_ringOf 22 = .ok (.iload 6, 2) := by decide +kernel
theorem dX7_ringOf_24 : decode cX7_ringOf 24 = .ok (.aload_n 0, 1) := by decide +kernel
theorem dX7_ringOf_25 : decode cX7_ringOf 25 = .ok (.getfield 9, 3) := by decide +kernel
theorem dX7_ringOf_28 : decode cX7_ringOf 28 = .ok (.if_icmp .ge 30, 3) := by decide +kernel
theorem dX7_ringOf_31 : decode cX7_ringOf 31 = .ok (.iload_n 3, 1) := by decide +kernel
theorem dX7_ringOf_32 : decode cX7_ringOf 32 = .ok (.iload 6, 2) := by decide +kernel
theorem dX7_ringOf_34 : decode cX7_ringOf 34 = .ok (.ishr, 1) := by decide +kernel
theorem dX7_ringOf_35 : decode cX7_ringOf 35 = .ok (.iconst 1, 1) := by decide +kernel
theorem dX7_ringOf_36 : decode cX7_ringOf 36 = .ok (.iand, 1) := by decide +kernel
theorem dX7_ringOf_37 : decode cX7_ringOf 37 = .ok (.ifCond .eq 15, 3) := by decide +kernel
theorem dX7_ringOf_40 : decode cX7_ringOf 40 = .ok (.iload 5, 2) := by decide +kernel
theorem dX7_ringOf_42 : decode cX7_ringOf 42 = .ok (.aload_n 0, 1) := by decide +kernel
theorem dX7_ringOf_43 : decode cX7_ringOf 43 = .ok (.iload 6, 2) := by decide +kernel
theorem dX7_ringOf_45 : decode cX7_ringOf 45 = .ok (.iload_n 2, 1) := by decide +kernel
theorem dX7_ringOf_46 : decode cX7_ringOf 46 = .ok (.invokevirtual 102, 3) := by decide +kernel
theorem dX7_ringOf_49 : decode cX7_ringOf 49 = .ok (.ior, 1) := by decide +kernel
theorem dX7_ringOf_50 : decode cX7_ringOf 50 = .ok (.istore 5, 2) := by decide +kernel
theorem dX7_ringOf_52 : decode cX7_ringOf 52 = .ok (.iinc 6 1, 3) := by decide +kernel
theorem dX7_ringOf_55 : decode cX7_ringOf 55 = .ok (.goto (-33), 3) := by decide +kernel
theorem dX7_ringOf_58 : decode cX7_ringOf 58 = .ok (.iload 5, 2) := by decide +kernel
theorem dX7_ringOf_60 : decode cX7_ringOf 60 = .ok (.istore_n 3, 1) := by decide +kernel
theorem dX7_ringOf_61 : decode cX7_ringOf 61 = .ok (.iload_n 3, 1) := by decide +kernel
theorem dX7_ringOf_62 : decode cX7_ringOf 62 = .ok (.iload_n 1, 1) := by decide +kernel
theorem dX7_ringOf_63 : decode cX7_ringOf 63 = .ok (.ishr, 1) := by decide +kernel
theorem dX7_ringOf_64 : decode cX7_ringOf 64 = .ok (.iconst 1, 1) := by decide +kernel
theorem dX7_ringOf_65 : decode cX7_ringOf 65 = .ok (.iand, 1) := by decide +kernel
theorem dX7_ringOf_66 : decode cX7_ringOf 66 = .ok (.ifCond .eq 6, 3) := by decide +kernel
theorem dX7_ringOf_69 : decode cX7_ringOf 69 = .ok (.iload 4, 2) := by decide +kernel
theorem dX7_ringOf_71 : decode cX7_ringOf 71 = .ok (.ireturn, 1) := by decide +kernel
theorem dX7_ringOf_72 : decode cX7_ringOf 72 = .ok (.iinc 4 1, 3) := by decide +kernel
theorem dX7_ringOf_75 : decode cX7_ringOf 75 = .ok (.goto (-68), 3) := by decide +kernel
theorem dX7_ringOf_78 : decode cX7_ringOf 78 = .ok (.iconst (-1), 1) := by decide +kernel
theorem dX7_ringOf_79 : decode cX7_ringOf 79 = .ok (.ireturn, 1) := by decide +kernel

set_option maxHeartbeats 4000000 in
set_option maxRecDepth 100000 in
theorem w_ring1 (b h s n9 : Nat) {H M : Nat} {un : Bool} {cs : Nat → List Nat} {tx : Nat → List Int32} {e : Lf} {n : Nat} {kd : mK} {I : mI} {J : mJ} {P : mP} {post : am_Post} (hS : kS kd P b) (hSt : cS I b H M un cs tx) (oS : okS H M cs) (hh : h < H) (hE : Ru yX7_ringOf.cls cX7_ringOf 7 (some .int) yX7_ringOf.name 9 (post) 0 0 58 [some (.ref b), some (.int (nI h)), some (.int (nI (spB H cs e))), some (.int (nI s)), some (.int (nI n9)), some (.int (nI (suN (lnN H cs e) s H))), some (.int (nI H))] [] n kd I J P) : ∀ (c k : Nat), k + c = H → Ru yX7_ringOf.cls cX7_ringOf 7 (some .int) yX7_ringOf.name 9 (post) 0 0 22 [some (.ref b), some (.int (nI h)), some (.int (nI (spB H cs e))), some (.int (nI s)), some (.int (nI n9)), some (.int (nI (suN (lnN H cs e) s k))), some (.int (nI k))] [] n kd I J P
  | 0, k, hc => by
    have hH8 := oS.2.1
    rw [show k = H by omega]
    refine r_iload dX7_ringOf_22 rfl ?_
    refine r_aload_n dX7_ringOf_24 rfl ?_
    refine r_getI dX7_ringOf_25 fl_X7_9 rfl hS.1 ?_
    rw [hSt.1.1]
    refine r_icmp_ge (tgt := 58) dX7_ringOf_28 (by decide) (fun _ => ?_) (fun hz => absurd (show _ from (by rw [nI_leI (by omega) (by omega)]; omega)) hz)
    exact hE
  | c + 1, k, hc => by
    have hH8 := oS.2.1
    by_cases q : s.testBit k = true
    · skip
      refine r_iload dX7_ringOf_22 rfl ?_
      refine r_aload_n dX7_ringOf_24 rfl ?_
      refine r_getI dX7_ringOf_25 fl_X7_9 rfl hS.1 ?_
      rw [hSt.1.1]
      refine r_icmp_ge (tgt := 58) dX7_ringOf_28 (by decide) (fun hz => absurd hz (show ¬ _ from (by rw [nI_leI (by omega) (by omega)]; omega))) (fun _ => ?_)
      refine r_iload_n dX7_ringOf_31 rfl ?_
      refine r_iload dX7_ringOf_32 rfl ?_
      refine r_ishr dX7_ringOf_34 ?_
      refine r_iconst (v := nI 1) dX7_ringOf_35 (by decide) ?_
      refine r_iand dX7_ringOf_36 ?_
      rw [b_ask _ (by omega), bt_nI _ (by omega)]
      rw [if_pos q]
      refine r_if_eq (tgt := 52) dX7_ringOf_37 (by decide) (fun hz => absurd hz (show ¬ _ from (by decide))) (fun _ => ?_)
      refine r_iload dX7_ringOf_40 rfl ?_
      refine r_aload_n dX7_ringOf_42 rfl ?_
      refine r_iload dX7_ringOf_43 rfl ?_
      refine r_iload_n dX7_ringOf_45 rfl ?_
      refine r_virtE (c_X7_leansOn b k hS hSt oS (by omega)) lk_X7_102 mc_X7_leansOn dX7_ringOf_46 hS.1 (by decide) rfl rfl (Nat.le_of_ble_eq_true rfl) ?_
      refine r_ior dX7_ringOf_49 ?_
      rw [or_nI]
      refine r_istore dX7_ringOf_50 (by decide) ?_
      refine r_iinc (v := nI (k + 1)) dX7_ringOf_52 rfl (nI_inc k) ?_
      refine r_goto (tgt := 22) dX7_ringOf_55 (by decide) ?_
      have hx := w_ring1 b h s n9 (n := n) (J := J) hS hSt oS hh hE c (k + 1) (by omega)
      rw [show suN (lnN H cs e) s (k + 1) = suN (lnN H cs e) s k ||| lnN H cs e k from if_pos q] at hx
      exact hx
    · skip
      refine r_iload dX7_ringOf_22 rfl ?_
      refine r_aload_n dX7_ringOf_24 rfl ?_
      refine r_getI dX7_ringOf_25 fl_X7_9 rfl hS.1 ?_
      rw [hSt.1.1]
      refine r_icmp_ge (tgt := 58) dX7_ringOf_28 (by decide) (fun hz => absurd hz (show ¬ _ from (by rw [nI_leI (by omega) (by omega)]; omega))) (fun _ => ?_)
      refine r_iload_n dX7_ringOf_31 rfl ?_
      refine r_iload dX7_ringOf_32 rfl ?_
      refine r_ishr dX7_ringOf_34 ?_
      refine r_iconst (v := nI 1) dX7_ringOf_35 (by decide) ?_
      refine r_iand dX7_ringOf_36 ?_
      rw [b_ask _ (by omega), bt_nI _ (by omega)]
      rw [if_neg q]
      refine r_if_eq (tgt := 52) dX7_ringOf_37 (by decide) (fun _ => ?_) (fun hz => absurd (show _ from rfl) hz)
      refine r_iinc (v := nI (k + 1)) dX7_ringOf_52 rfl (nI_inc k) ?_
      refine r_goto (tgt := 22) dX7_ringOf_55 (by decide) ?_
      have hx := w_ring1 b h s n9 (n := n) (J := J) hS hSt oS hh hE c (k + 1) (by omega)
      rw [show suN (lnN H cs e) s (k + 1) = suN (lnN H cs e) s k from if_neg q] at hx
      exact hx

set_option maxHeartbeats 4000000 in
set_option maxRecDepth 100000 in
theorem w_ring2 (b h : Nat) {H M : Nat} {un : Bool} {cs : Nat → List Nat} {tx : Nat → List Int32} {e : Lf} {n : Nat} {kd : mK} {I : mI} {J : mJ} {P : mP} (hS : kS kd P b) (hSt : cS I b H M un cs tx) (oS : okS H M cs) (hh : h < H) : ∀ (c n9 s : Nat) (z5 z6 : Option Value), n9 + c = H + 1 → Ru yX7_ringOf.cls cX7_ringOf 7 (some .int) yX7_ringOf.name 9 (am_is (some (.int (rgC (lnN H cs e) H h c n9 s))) n kd I J P) 0 0 7 [some (.ref b), some (.int (nI h)), some (.int (nI (spB H cs e))), some (.int (nI s)), some (.int (nI n9)), z5, z6] [] n kd I J P
  | 0, n9, s, z5, z6, hc => by
    have hH8 := oS.2.1
    refine r_iload dX7_ringOf_7 rfl ?_
    refine r_aload_n dX7_ringOf_9 rfl ?_
    refine r_getI dX7_ringOf_10 fl_X7_9 rfl hS.1 ?_
    rw [hSt.1.1]
    refine r_icmp_gt (tgt := 78) dX7_ringOf_13 (by decide) (fun _ => ?_) (fun hz => absurd (show _ from (by rw [nI_ltI (by omega) (by omega)]; omega)) hz)
    refine r_iconst (v := (-1)) dX7_ringOf_78 (by decide) ?_
    refine r_iret rfl dX7_ringOf_79 ?_
    exact am_is.mk
  | c + 1, n9, s, z5, z6, hc => by
    have hH8 := oS.2.1
    refine r_iload dX7_ringOf_7 rfl ?_
    refine r_aload_n dX7_ringOf_9 rfl ?_
    refine r_getI dX7_ringOf_10 fl_X7_9 rfl hS.1 ?_
    rw [hSt.1.1]
    refine r_icmp_gt (tgt := 78) dX7_ringOf_13 (by decide) (fun hz => absurd hz (show ¬ _ from (by rw [nI_ltI (by omega) (by omega)]; omega))) (fun _ => ?_)
    refine r_iconst (v := nI 0) dX7_ringOf_16 (by decide) ?_
    refine r_istore dX7_ringOf_17 (by decide) ?_
    refine r_iconst (v := nI 0) dX7_ringOf_19 (by decide) ?_
    refine r_istore dX7_ringOf_20 (by decide) ?_
    refine w_ring1 b h s n9 hS hSt oS hh ?_ H 0 (by omega)
    by_cases q : (suN (lnN H cs e) s H).testBit h = true
    · rw [show rgC (lnN H cs e) H h (c + 1) n9 s = nI n9 from if_pos q]
      refine r_iload dX7_ringOf_58 rfl ?_
      refine r_istore_n dX7_ringOf_60 (by decide) ?_
      refine r_iload_n dX7_ringOf_61 rfl ?_
      refine r_iload_n dX7_ringOf_62 rfl ?_
      refine r_ishr dX7_ringOf_63 ?_
      refine r_iconst (v := nI 1) dX7_ringOf_64 (by decide) ?_
      refine r_iand dX7_ringOf_65 ?_
      rw [b_ask _ (by omega), bt_nI _ (by omega)]
      rw [if_pos q]
      refine r_if_eq (tgt := 72) dX7_ringOf_66 (by decide) (fun hz => absurd hz (show ¬ _ from (by decide))) (fun _ => ?_)
      refine r_iload dX7_ringOf_69 rfl ?_
      refine r_iret rfl dX7_ringOf_71 ?_
      exact am_is.mk
    · rw [show rgC (lnN H cs e) H h (c + 1) n9 s = rgC (lnN H cs e) H h c (n9 + 1) (suN (lnN H cs e) s H) from if_neg q]
      refine r_iload dX7_ringOf_58 rfl ?_
      refine r_istore_n dX7_ringOf_60 (by decide) ?_
      refine r_iload_n dX7_ringOf_61 rfl ?_
      refine r_iload_n dX7_ringOf_62 rfl ?_
      refine r_ishr dX7_ringOf_63 ?_
      refine r_iconst (v := nI 1) dX7_ringOf_64 (by decide) ?_
      refine r_iand dX7_ringOf_65 ?_
      rw [b_ask _ (by omega), bt_nI _ (by omega)]
      rw [if_neg q]
      refine r_if_eq (tgt := 72) dX7_ringOf_66 (by decide) (fun _ => ?_) (fun hz => absurd (show _ from rfl) hz)
      refine r_iinc (v := nI (n9 + 1)) dX7_ringOf_72 rfl (nI_inc n9) ?_
      refine r_goto (tgt := 7) dX7_ringOf_75 (by decide) ?_
      exact w_ring2 b h hS hSt oS hh c (n9 + 1) (suN (lnN H cs e) s H) _ _ (by omega)

set_option maxHeartbeats 4000000 in
set_option maxRecDepth 100000 in
theorem c_X7_ringOf (b h : Nat) {H M : Nat} {un : Bool} {cs : Nat → List Nat} {tx : Nat → List Int32} {e : Lf} {n : Nat} {kd : mK} {I : mI} {J : mJ} {P : mP} (hS : kS kd P b) (hSt : cS I b H M un cs tx) (oS : okS H M cs) (hh : h < H) : Ct yX7_ringOf cX7_ringOf 7 (some .int) 9 0 0 [.ref b, .int (nI h), .int (nI (spB H cs e))] n kd I J P (am_is (some (.int (rgO H cs e h))) n kd I J P) := by
  have hH8 := oS.2.1
  refine ct_of 4 (by decide +kernel) (Nat.le_of_ble_eq_true rfl) rfl ?_
  refine r_iconst (v := nI 1) dX7_ringOf_0 (by decide) ?_
  refine r_iload_n dX7_ringOf_1 rfl ?_
  refine r_ishl dX7_ringOf_2 ?_
  rw [sh1_nI h (by omega)]
  refine r_istore_n dX7_ringOf_3 (by decide) ?_
  refine r_iconst (v := nI 1) dX7_ringOf_4 (by decide) ?_
  refine r_istore dX7_ringOf_5 (by decide) ?_
  exact w_ring2 b h hS hSt oS hh H 1 (2 ^ h) _ _ (by omega)

theorem dX7_levelBy_0 : decode cX7_levelBy 0 = .ok (.iconst 0, 1) := by decide +kernel
theorem dX7_levelBy_1 : decode cX7_levelBy 1 = .ok (.istore_n 2, 1) := by decide +kernel
theorem dX7_levelBy_2 : decode cX7_levelBy 2 = .ok (.iconst 0, 1) := by decide +kernel
theorem dX7_levelBy_3 : decode cX7_levelBy 3 = .ok (.istore_n 3, 1) := by decide +kernel
theorem dX7_levelBy_4 : decode cX7_levelBy 4 = .ok (.iload_n 3, 1) := by decide +kernel
theorem dX7_levelBy_5 : decode cX7_levelBy 5 = .ok (.aload_n 0, 1) := by decide +kernel
theorem dX7_levelBy_6 : decode cX7_levelBy 6 = .ok (.getfield 9, 3) := by decide +kernel
theorem dX7_levelBy_9 : decode cX7_levelBy 9 = .ok (.if_icmp .ge 42, 3) := by decide +kernel
theorem dX7_levelBy_12 : decode cX7_levelBy 12 = .ok (.iload_n 1, 1) := by decide +kernel
theorem dX7_levelBy_13 : decode cX7_levelBy 13 = .ok (.iload_n 3, 1) := by decide +kernel
theorem dX7_levelBy_14 : decode cX7_levelBy 14 = .ok (.ishr, 1) := by decide +kernel
theorem dX7_levelBy_15 : decode cX7_levelBy 15 = .ok (.iconst 1, 1) := by decide +kernel
theorem dX7_levelBy_16 : decode cX7_levelBy 16 = .ok (.iand, 1) := by decide +kernel
theorem dX7_levelBy_17 : decode cX7_levelBy 17 = .ok (.ifCond .eq 28, 3) := by decide +kernel
theorem dX7_levelBy_20 : decode cX7_levelBy 20 = .ok (.aload_n 0, 1) := by decide +kernel
theorem dX7_levelBy_21 : decode cX7_levelBy 21 = .ok (.getfield 57, 3) := by decide +kernel
theorem dX7_levelBy_24 : decode cX7_levelBy 24 = .ok (.iload_n 3, 1) := by decide +kernel
theorem dX7_levelBy_25 : decode cX7_levelBy 25 = .ok (.iaload, 1) := by decide +kernel
theorem dX7_levelBy_26 : decode cX7_levelBy 26 = .ok (.iconst (-1), 1) := by decide +kernel
theorem dX7_levelBy_27 : decode cX7_levelBy 27 = .ok (.if_icmp .ne 5, 3) := by decide +kernel
theorem dX7_levelBy_30 : decode cX7_levelBy 30 = .ok (.iconst (-1), 1) := by decide +kernel
theorem dX7_levelBy_31 : decode cX7_levelBy 31 = .ok (.ireturn, 1) := by decide +kernel
theorem dX7_levelBy_32 : decode cX7_levelBy 32 = .ok (.iload_n 2, 1) := by decide +kernel
theorem dX7_levelBy_33 : decode cX7_levelBy 33 = .ok (.aload_n 0, 1) := by decide +kernel
theorem dX7_levelBy_34 : decode cX7_levelBy 34 = .ok (.getfield 57, 3) := by decide +kernel
theorem dX7_levelBy_37 : decode cX7_levelBy 37 = .ok (.iload_n 3, 1) := by decide +kernel
theorem dX7_levelBy_38 : decode cX7_levelBy 38 = .ok (.iaload, 1) := by decide +kernel
theorem dX7_levelBy_39 : decode cX7_levelBy 39 = .ok (.iconst 1, 1) := by decide +kernel
theorem dX7_levelBy_40 : decode cX7_levelBy 40 = .ok (.iadd, 1) := by decide +kernel
theorem dX7_levelBy_41 : decode cX7_levelBy 41 = .ok (.invokestatic 115, 3) := by decide +kernel
theorem dX7_levelBy_44 : decode cX7_levelBy 44 = .ok (.istore_n 2, 1) := by decide +kernel
theorem dX7_levelBy_45 : decode cX7_levelBy 45 = .ok (.iinc 3 1, 3) := by decide +kernel
theorem dX7_levelBy_48 : decode cX7_levelBy 48 = .ok (.goto (-44), 3) := by decide +kernel
theorem dX7_levelBy_51 : decode cX7_levelBy 51 = .ok (.iload_n 2, 1) := by decide +kernel
theorem dX7_levelBy_52 : decode cX7_levelBy 52 = .ok (.ireturn, 1) := by decide +kernel

set_option maxHeartbeats 4000000 in
set_option maxRecDepth 100000 in
theorem w_levelBy (b H s : Nat) (L : Nat → Nat) {n : Nat} {kd : mK} {I : mI} {J : mJ} {P : mP} (hS : kS kd P b) (hH : I b 0 = nI H) (hH8 : H ≤ 8) (hR : ∀ j, j < H → I (b + 9) j = lvI (L j)) (hB : ∀ j, L j < 2 ^ 30) : ∀ (c k v : Nat), k + c = H → v < 2 ^ 30 → Ru yX7_levelBy.cls cX7_levelBy 4 (some .int) yX7_levelBy.name 1 (am_is (some (.int (lvI (lvB L s c k v)))) n kd I J P) 0 0 4 [some (.ref b), some (.int (nI s)), some (.int (nI v)), some (.int (nI k))] [] n kd I J P
  | 0, k, v, hc, hv => by
    rw [show lvI (lvB L s 0 k v) = nI v from by show lvI (v + 1) = _; unfold lvI; rw [if_neg (by omega), Nat.add_sub_cancel]]
    refine r_iload_n dX7_levelBy_4 rfl ?_
    refine r_aload_n dX7_levelBy_5 rfl ?_
    refine r_getI dX7_levelBy_6 fl_X7_9 rfl hS.1 ?_
    rw [hH]
    refine r_icmp_ge (tgt := 51) dX7_levelBy_9 (by decide) (fun _ => ?_) (fun hz => absurd (show _ from (by rw [nI_leI (by omega) (by omega)]; omega)) hz)
    refine r_iload_n dX7_levelBy_51 rfl ?_
    refine r_iret rfl dX7_levelBy_52 ?_
    exact am_is.mk
  | c + 1, k, v, hc, hv => by
    have hBk := hB k
    by_cases q : s.testBit k = true
    · by_cases q2 : L k = 0
      · rw [show lvB L s (c + 1) k v = 0 from by show (if s.testBit k = true then (if L k = 0 then 0 else _) else _) = _; rw [if_pos q, if_pos q2]]
        refine r_iload_n dX7_levelBy_4 rfl ?_
        refine r_aload_n dX7_levelBy_5 rfl ?_
        refine r_getI dX7_levelBy_6 fl_X7_9 rfl hS.1 ?_
        rw [hH]
        refine r_icmp_ge (tgt := 51) dX7_levelBy_9 (by decide) (fun hz => absurd hz (show ¬ _ from (by rw [nI_leI (by omega) (by omega)]; omega))) (fun _ => ?_)
        refine r_iload_n dX7_levelBy_12 rfl ?_
        refine r_iload_n dX7_levelBy_13 rfl ?_
        refine r_ishr dX7_levelBy_14 ?_
        refine r_iconst (v := nI 1) dX7_levelBy_15 (by decide) ?_
        refine r_iand dX7_levelBy_16 ?_
        rw [b_ask _ (by omega), bt_nI _ (by omega)]
        rw [if_pos q]
        refine r_if_eq (tgt := 45) dX7_levelBy_17 (by decide) (fun hz => absurd hz (show ¬ _ from (by decide))) (fun _ => ?_)
        refine r_aload_n dX7_levelBy_20 rfl ?_
        refine r_getR dX7_levelBy_21 fl_X7_57 rfl hS.1 hS.2.2.2.2.2.2.2.2.2.2.2.2.2.2.2.2.2.2 ?_
        refine r_iload_n dX7_levelBy_24 rfl ?_
        refine r_iald dX7_levelBy_25 hS.2.2.2.2.2.2.2.2.2.1 (nI_in8 8 (by omega) (by decide)) (nI_clamp (by omega)) ?_
        rw [hR k (by omega)]
        refine r_iconst (v := (-1)) dX7_levelBy_26 (by decide) ?_
        refine r_icmp_ne (tgt := 32) dX7_levelBy_27 (by decide) (fun hz => absurd (show _ from (by rw [q2]; rfl)) hz) (fun _ => ?_)
        refine r_iconst (v := (-1)) dX7_levelBy_30 (by decide) ?_
        refine r_iret rfl dX7_levelBy_31 ?_
        exact am_is.mk
      · rw [show lvB L s (c + 1) k v = lvB L s c (k + 1) (max v (L k)) from by show (if s.testBit k = true then (if L k = 0 then 0 else _) else _) = _; rw [if_pos q, if_neg q2]]
        refine r_iload_n dX7_levelBy_4 rfl ?_
        refine r_aload_n dX7_levelBy_5 rfl ?_
        refine r_getI dX7_levelBy_6 fl_X7_9 rfl hS.1 ?_
        rw [hH]
        refine r_icmp_ge (tgt := 51) dX7_levelBy_9 (by decide) (fun hz => absurd hz (show ¬ _ from (by rw [nI_leI (by omega) (by omega)]; omega))) (fun _ => ?_)
        refine r_iload_n dX7_levelBy_12 rfl ?_
        refine r_iload_n dX7_levelBy_13 rfl ?_
        refine r_ishr dX7_levelBy_14 ?_
        refine r_iconst (v := nI 1) dX7_levelBy_15 (by decide) ?_
        refine r_iand dX7_levelBy_16 ?_
        rw [b_ask _ (by omega), bt_nI _ (by omega)]
        rw [if_pos q]
        refine r_if_eq (tgt := 45) dX7_levelBy_17 (by decide) (fun hz => absurd hz (show ¬ _ from (by decide))) (fun _ => ?_)
        refine r_aload_n dX7_levelBy_20 rfl ?_
        refine r_getR dX7_levelBy_21 fl_X7_57 rfl hS.1 hS.2.2.2.2.2.2.2.2.2.2.2.2.2.2.2.2.2.2 ?_
        refine r_iload_n dX7_levelBy_24 rfl ?_
        refine r_iald dX7_levelBy_25 hS.2.2.2.2.2.2.2.2.2.1 (nI_in8 8 (by omega) (by decide)) (nI_clamp (by omega)) ?_
        rw [hR k (by omega)]
        refine r_iconst (v := (-1)) dX7_levelBy_26 (by decide) ?_
        refine r_icmp_ne (tgt := 32) dX7_levelBy_27 (by decide) (fun _ => ?_) (fun hz => absurd hz (show ¬ _ from (fun z => q2 ((lvI_eq (by omega)).mp z))))
        refine r_iload_n dX7_levelBy_32 rfl ?_
        refine r_aload_n dX7_levelBy_33 rfl ?_
        refine r_getR dX7_levelBy_34 fl_X7_57 rfl hS.1 hS.2.2.2.2.2.2.2.2.2.2.2.2.2.2.2.2.2.2 ?_
        refine r_iload_n dX7_levelBy_37 rfl ?_
        refine r_iald dX7_levelBy_38 hS.2.2.2.2.2.2.2.2.2.1 (nI_in8 8 (by omega) (by decide)) (nI_clamp (by omega)) ?_
        rw [hR k (by omega)]
        refine r_iconst (v := nI 1) dX7_levelBy_39 (by decide) ?_
        refine r_iadd dX7_levelBy_40 ?_
        rw [show lvI (L k) + nI 1 = nI (L k) from by unfold lvI; rw [if_neg q2, nI_add, show L k - 1 + 1 = L k by omega]]
        refine r_mmax dX7_levelBy_41 mm_X7_115 (by decide) (Nat.le_of_ble_eq_true rfl) ?_
        rw [mx_nI (by omega) (by omega)]
        refine r_istore_n dX7_levelBy_44 (by decide) ?_
        refine r_iinc (v := nI (k + 1)) dX7_levelBy_45 rfl (nI_inc k) ?_
        refine r_goto (tgt := 4) dX7_levelBy_48 (by decide) ?_
        exact w_levelBy b H s L hS hH hH8 hR hB c (k + 1) (max v (L k)) (by omega) (by omega)
    · rw [show lvB L s (c + 1) k v = lvB L s c (k + 1) v from if_neg q]
      refine r_iload_n dX7_levelBy_4 rfl ?_
      refine r_aload_n dX7_levelBy_5 rfl ?_
      refine r_getI dX7_levelBy_6 fl_X7_9 rfl hS.1 ?_
      rw [hH]
      refine r_icmp_ge (tgt := 51) dX7_levelBy_9 (by decide) (fun hz => absurd hz (show ¬ _ from (by rw [nI_leI (by omega) (by omega)]; omega))) (fun _ => ?_)
      refine r_iload_n dX7_levelBy_12 rfl ?_
      refine r_iload_n dX7_levelBy_13 rfl ?_
      refine r_ishr dX7_levelBy_14 ?_
      refine r_iconst (v := nI 1) dX7_levelBy_15 (by decide) ?_
      refine r_iand dX7_levelBy_16 ?_
      rw [b_ask _ (by omega), bt_nI _ (by omega)]
      rw [if_neg q]
      refine r_if_eq (tgt := 45) dX7_levelBy_17 (by decide) (fun _ => ?_) (fun hz => absurd (show _ from rfl) hz)
      refine r_iinc (v := nI (k + 1)) dX7_levelBy_45 rfl (nI_inc k) ?_
      refine r_goto (tgt := 4) dX7_levelBy_48 (by decide) ?_
      exact w_levelBy b H s L hS hH hH8 hR hB c (k + 1) v (by omega) hv

set_option maxHeartbeats 4000000 in
set_option maxRecDepth 100000 in
theorem c_X7_levelBy (b H s : Nat) (L : Nat → Nat) {n : Nat} {kd : mK} {I : mI} {J : mJ} {P : mP} (hS : kS kd P b) (hH : I b 0 = nI H) (hH8 : H ≤ 8) (hR : ∀ j, j < H → I (b + 9) j = lvI (L j)) (hB : ∀ j, L j < 2 ^ 30) : Ct yX7_levelBy cX7_levelBy 4 (some .int) 1 0 0 [.ref b, .int (nI s)] n kd I J P (am_is (some (.int (lvI (lvB L s H 0 0)))) n kd I J P) := by
  refine ct_of 2 (by decide +kernel) (Nat.le_of_ble_eq_true rfl) rfl ?_
  refine r_iconst (v := nI 0) dX7_levelBy_0 (by decide) ?_
  refine r_istore_n dX7_levelBy_1 (by decide) ?_
  refine r_iconst (v := nI 0) dX7_levelBy_2 (by decide) ?_
  refine r_istore_n dX7_levelBy_3 (by decide) ?_
  exact w_levelBy b H s L hS hH hH8 hR hB H 0 0 (by omega) (by decide)

theorem dX7_levelOf_0 : decode cX7_levelOf 0 = .ok (.iload_n 1, 1) := by decide +kernel
theorem dX7_levelOf_1 : decode cX7_levelOf 1 = .ok (.ifCond .lt 11, 3) := by decide +kernel
theorem dX7_levelOf_4 : decode cX7_levelOf 4 = .ok (.iload_n 1, 1) := by decide +kernel
theorem dX7_levelOf_5 : decode cX7_levelOf 5 = .ok (.aload_n 0, 1) := by decide +kernel
theorem dX7_levelOf_6 : decode cX7_levelOf 6 = .ok (.getfield 9, 3) := by decide +kernel
theorem dX7_levelOf_9 : decode cX7_levelOf 9 = .ok (.if_icmp .lt 5, 3) := by decide +kernel
theorem dX7_levelOf_12 : decode cX7_levelOf 12 = .ok (.iconst (-1), 1) := by decide +kernel
theorem dX7_levelOf_13 : decode cX7_levelOf 13 = .ok (.ireturn, 1) := by decide +kernel
theorem dX7_levelOf_14 : decode cX7_levelOf 14 = .ok (.aload_n 0, 1) := by decide +kernel
theorem dX7_levelOf_15 : decode cX7_levelOf 15 = .ok (.getfield 57, 3) := by decide +kernel
theorem dX7_levelOf_18 : decode cX7_levelOf 18 = .ok (.iconst (-1), 1) := by decide +kernel
theorem dX7_levelOf_19 : decode cX7_levelOf 19 = .ok (.invokestatic 106, 3) := by decide +kernel
theorem dX7_levelOf_22 : decode cX7_levelOf 22 = .ok (.iconst 0, 1) := by decide +kernel
theorem dX7_levelOf_23 : decode cX7_levelOf 23 = .ok (.istore_n 3, 1) := by decide +kernel
theorem dX7_levelOf_24 : decode cX7_levelOf 24 = .ok (.iload_n 3, 1) := by decide +kernel
theorem dX7_levelOf_25 : decode cX7_levelOf 25 = .ok (.aload_n 0, 1) := by decide +kernel
theorem dX7_levelOf_26 : decode cX7_levelOf 26 = .ok (.getfield 9, 3) := by decide +kernel
theorem dX7_levelOf_29 : decode cX7_levelOf 29 = .ok (.if_icmp .ge 45, 3) := by decide +kernel
theorem dX7_levelOf_32 : decode cX7_levelOf 32 = .ok (.iconst 0, 1) := by decide +kernel
theorem dX7_levelOf_33 : decode cX7_levelOf 33 = .ok (.istore 4, 2) := by decide +kernel
theorem dX7_levelOf_35 : decode cX7_levelOf 35 = .ok (.iload 4, 2) := by decide +kernel
theorem dX7_levelOf_37 : decode cX7_levelOf 37 = .ok (.aload_n 0, 1) := by decide +kernel
theorem dX7_levelOf_38 : decode cX7_levelOf 38 = .ok (.getfield 9, 3) := by decide +kernel
theorem dX7_levelOf_41 : decode cX7_levelOf 41 = .ok (.if_icmp .ge 27, 3) := by decide +kernel
theorem dX7_levelOf_44 : decode cX7_levelOf 44 = .ok (.aload_n 0, 1) := by decide +kernel
theorem dX7_levelOf_45 : decode cX7_levelOf 45 = .ok (.getfield 57, 3) := by decide +kernel
theorem dX7_levelOf_48 : decode cX7_levelOf 48 = .ok (.iload 4, 2) := by decide +kernel
theorem dX7_levelOf_50 : decode cX7_levelOf 50 = .ok (.aload_n 0, 1) := by decide +kernel
theorem dX7_levelOf_51 : decode cX7_levelOf 51 = .ok (.aload_n 0, 1) := by decide +kernel
theorem dX7_levelOf_52 : decode cX7_levelOf 52 = .ok (.iload 4, 2) := by decide +kernel
theorem dX7_levelOf_54 : decode cX7_levelOf 54 = .ok (.iload_n 2, 1) := by decide +kernel
theorem dX7_levelOf_55 : decode cX7_levelOf 55 = .ok (.invokevirtual 102, 3) := by decide +kernel
theorem dX7_levelOf_58 : decode cX7_levelOf 58 = .ok (.invokevirtual 112, 3) := by decide +kernel
theorem dX7_levelOf_61 : decode cX7_levelOf 61 = .ok (.iastore, 1) := by decide +kernel
theorem dX7_levelOf_62 : decode cX7_levelOf 62 = .ok (.iinc 4 1, 3) := by decide +kernel
theorem dX7_levelOf_65 : decode cX7_levelOf 65 = .ok (.goto (-30), 3) := by decide +kernel
theorem dX7_levelOf_68 : decode cX7_levelOf 68 = .ok (.iinc 3 1, 3) := by decide +kernel
theorem dX7_levelOf_71 : decode cX7_levelOf 71 = .ok (.goto (-47), 3) := by decide +kernel
theorem dX7_levelOf_74 : decode cX7_levelOf 74 = .ok (.aload_n 0, 1) := by decide +kernel
theorem dX7_levelOf_75 : decode cX7_levelOf 75 = .ok (.getfield 57, 3) := by decide +kernel
theorem dX7_levelOf_78 : decode cX7_levelOf 78 = .ok (.iload_n 1, 1) := by decide +kernel
theorem dX7_levelOf_79 : decode cX7_levelOf 79 = .ok (.iaload, 1) := by decide +kernel
theorem dX7_levelOf_80 : decode cX7_levelOf 80 = .ok (.ireturn, 1) := by decide +kernel

set_option maxHeartbeats 4000000 in
set_option maxRecDepth 100000 in
theorem w_level1 (b h n9 : Nat) {H M : Nat} {un : Bool} {cs : Nat → List Nat} {tx : Nat → List Int32} {e : Lf} {n : Nat} {kd : mK} {I : mI} {J : mJ} {P : mP} {post : am_Post} (hS : kS kd P b) (hSt : cS I b H M un cs tx) (oS : okS H M cs) (hn9 : n9 < H) (hE : (∀ R : Nat → Int32, (∀ j, j < H → R j = lvI (lvK (lnN H cs e) H (lvN (lnN H cs e) H n9) H j)) → Ru yX7_levelOf.cls cX7_levelOf 5 (some .int) yX7_levelOf.name 9 (post) 0 0 68 [some (.ref b), some (.int (nI h)), some (.int (nI (spB H cs e))), some (.int (nI n9)), some (.int (nI H))] [] n kd (va_up I (b + 9) R) J P)) : ∀ (c k : Nat) (R : Nat → Int32), k + c = H → (∀ j, j < H → R j = lvI (lvK (lnN H cs e) H (lvN (lnN H cs e) H n9) k j)) → Ru yX7_levelOf.cls cX7_levelOf 5 (some .int) yX7_levelOf.name 9 (post) 0 0 35 [some (.ref b), some (.int (nI h)), some (.int (nI (spB H cs e))), some (.int (nI n9)), some (.int (nI k))] [] n kd (va_up I (b + 9) R) J P
  | 0, k, R, hc, hR => by
    have hH8 := oS.2.1
    rw [show k = H by omega] at hR ⊢
    refine r_iload dX7_levelOf_35 rfl ?_
    refine r_aload_n dX7_levelOf_37 rfl ?_
    refine r_getI dX7_levelOf_38 fl_X7_9 rfl hS.1 ?_
    rw [am_up_n _ _ (show b ≠ b + 9 by omega), hSt.1.1]
    refine r_icmp_ge (tgt := 68) dX7_levelOf_41 (by decide) (fun _ => ?_) (fun hz => absurd (show _ from (by rw [nI_leI (by omega) (by omega)]; omega)) hz)
    exact hE R hR
  | c + 1, k, R, hc, hR => by
    have hH8 := oS.2.1
    refine r_iload dX7_levelOf_35 rfl ?_
    refine r_aload_n dX7_levelOf_37 rfl ?_
    refine r_getI dX7_levelOf_38 fl_X7_9 rfl hS.1 ?_
    rw [am_up_n _ _ (show b ≠ b + 9 by omega), hSt.1.1]
    refine r_icmp_ge (tgt := 68) dX7_levelOf_41 (by decide) (fun hz => absurd hz (show ¬ _ from (by rw [nI_leI (by omega) (by omega)]; omega))) (fun _ => ?_)
    refine r_aload_n dX7_levelOf_44 rfl ?_
    refine r_getR dX7_levelOf_45 fl_X7_57 rfl hS.1 hS.2.2.2.2.2.2.2.2.2.2.2.2.2.2.2.2.2.2 ?_
    refine r_iload dX7_levelOf_48 rfl ?_
    refine r_aload_n dX7_levelOf_50 rfl ?_
    refine r_aload_n dX7_levelOf_51 rfl ?_
    refine r_iload dX7_levelOf_52 rfl ?_
    refine r_iload_n dX7_levelOf_54 rfl ?_
    refine r_virtE (c_X7_leansOn (e := e) b k hS (hSt.cg (I' := va_up I (b + 9) R) (fun a a1 a2 => am_up_n _ _ (by omega))) oS (by omega)) lk_X7_102 mc_X7_leansOn dX7_levelOf_55 hS.1 (by decide) rfl rfl (Nat.le_of_ble_eq_true rfl) ?_
    refine r_virtE (c_X7_levelBy b H (lnN H cs e k) (lvK (lnN H cs e) H (lvN (lnN H cs e) H n9) k) hS (by rw [am_up_n _ _ (show b ≠ b + 9 by omega)]; exact hSt.1.1) hH8 (fun j hj => by rw [am_up_s]; exact hR j hj) (fun j => lv_bd hH8 (show n9 ≤ H by omega) (show k ≤ H by omega) (lvK_le (lvN_le n9) k j))) lk_X7_112 mc_X7_levelBy dX7_levelOf_58 hS.1 (by decide) rfl rfl (Nat.le_of_ble_eq_true rfl) ?_
    refine r_iast dX7_levelOf_61 hS.2.2.2.2.2.2.2.2.2.1 (nI_in8 8 (by omega) (by decide)) (nI_clamp (by omega)) ?_
    rw [am_up_s, am_up_up]
    refine r_iinc (v := nI (k + 1)) dX7_levelOf_62 rfl (nI_inc k) ?_
    refine r_goto (tgt := 35) dX7_levelOf_65 (by decide) ?_
    refine w_level1 b h n9 hS hSt oS hn9 hE c (k + 1) _ (by omega) (fun j hj => ?_)
    show _ = lvI (va_up (lvK (lnN H cs e) H (lvN (lnN H cs e) H n9) k) k _ j)
    by_cases q : j = k
    · rw [q, am_up_s, am_up_s]
    · rw [am_up_n _ _ q, am_up_n _ _ q]; exact hR j hj

set_option maxHeartbeats 4000000 in
set_option maxRecDepth 100000 in
theorem w_level2 (b h : Nat) {H M : Nat} {un : Bool} {cs : Nat → List Nat} {tx : Nat → List Int32} {e : Lf} {n : Nat} {kd : mK} {I : mI} {J : mJ} {P : mP} {post : am_Post} (hS : kS kd P b) (hSt : cS I b H M un cs tx) (oS : okS H M cs) (hE : (∀ (z4 : Option Value) (R : Nat → Int32), (∀ j, j < H → R j = lvI (lvN (lnN H cs e) H H j)) → Ru yX7_levelOf.cls cX7_levelOf 5 (some .int) yX7_levelOf.name 9 (post) 0 0 74 [some (.ref b), some (.int (nI h)), some (.int (nI (spB H cs e))), some (.int (nI H)), z4] [] n kd (va_up I (b + 9) R) J P)) : ∀ (c n9 : Nat) (z4 : Option Value) (R : Nat → Int32), n9 + c = H → (∀ j, j < H → R j = lvI (lvN (lnN H cs e) H n9 j)) → Ru yX7_levelOf.cls cX7_levelOf 5 (some .int) yX7_levelOf.name 9 (post) 0 0 24 [some (.ref b), some (.int (nI h)), some (.int (nI (spB H cs e))), some (.int (nI n9)), z4] [] n kd (va_up I (b + 9) R) J P
  | 0, n9, z4, R, hc, hR => by
    have hH8 := oS.2.1
    rw [show n9 = H by omega] at hR ⊢
    refine r_iload_n dX7_levelOf_24 rfl ?_
    refine r_aload_n dX7_levelOf_25 rfl ?_
    refine r_getI dX7_levelOf_26 fl_X7_9 rfl hS.1 ?_
    rw [am_up_n _ _ (show b ≠ b + 9 by omega), hSt.1.1]
    refine r_icmp_ge (tgt := 74) dX7_levelOf_29 (by decide) (fun _ => ?_) (fun hz => absurd (show _ from (by rw [nI_leI (by omega) (by omega)]; omega)) hz)
    exact hE z4 R hR
  | c + 1, n9, z4, R, hc, hR => by
    have hH8 := oS.2.1
    refine r_iload_n dX7_levelOf_24 rfl ?_
    refine r_aload_n dX7_levelOf_25 rfl ?_
    refine r_getI dX7_levelOf_26 fl_X7_9 rfl hS.1 ?_
    rw [am_up_n _ _ (show b ≠ b + 9 by omega), hSt.1.1]
    refine r_icmp_ge (tgt := 74) dX7_levelOf_29 (by decide) (fun hz => absurd hz (show ¬ _ from (by rw [nI_leI (by omega) (by omega)]; omega))) (fun _ => ?_)
    refine r_iconst (v := nI 0) dX7_levelOf_32 (by decide) ?_
    refine r_istore dX7_levelOf_33 (by decide) ?_
    refine w_level1 b h n9 hS hSt oS (by omega) (fun R2 hR2 => ?_) H 0 R (by omega) hR
    refine r_iinc (v := nI (n9 + 1)) dX7_levelOf_68 rfl (nI_inc n9) ?_
    refine r_goto (tgt := 24) dX7_levelOf_71 (by decide) ?_
    exact w_level2 b h hS hSt oS hE c (n9 + 1) _ R2 (by omega) hR2

set_option maxHeartbeats 4000000 in
set_option maxRecDepth 100000 in
theorem c_X7_levelOf (b h : Nat) {H M : Nat} {un : Bool} {cs : Nat → List Nat} {tx : Nat → List Int32} {e : Lf} {n : Nat} {kd : mK} {I : mI} {J : mJ} {P : mP} (hS : kS kd P b) (hSt : cS I b H M un cs tx) (oS : okS H M cs) (hh : h < H) : Ct yX7_levelOf cX7_levelOf 5 (some .int) 9 0 0 [.ref b, .int (nI h), .int (nI (spB H cs e))] n kd I J P (fun y n' kd' I' J' P' => y = .inl (some (.int (lvO H cs e h))) ∧ n' = n ∧ kd' = kd ∧ J' = J ∧ P' = P ∧ ∀ a, a ≠ b + 9 → I' a = I a) := by
  have hH8 := oS.2.1
  refine ct_of 2 (by decide +kernel) (Nat.le_of_ble_eq_true rfl) rfl ?_
  refine r_iload_n dX7_levelOf_0 rfl ?_
  refine r_if_lt (tgt := 12) dX7_levelOf_1 (by decide) (fun hz => absurd hz (show ¬ _ from (z_nlt (by omega)))) (fun _ => ?_)
  refine r_iload_n dX7_levelOf_4 rfl ?_
  refine r_aload_n dX7_levelOf_5 rfl ?_
  refine r_getI dX7_levelOf_6 fl_X7_9 rfl hS.1 ?_
  rw [hSt.1.1]
  refine r_icmp_lt (tgt := 14) dX7_levelOf_9 (by decide) (fun _ => ?_) (fun hz => absurd (show _ from ((nI_ltI (by omega) (by omega)).mpr hh)) hz)
  refine r_aload_n dX7_levelOf_14 rfl ?_
  refine r_getR dX7_levelOf_15 fl_X7_57 rfl hS.1 hS.2.2.2.2.2.2.2.2.2.2.2.2.2.2.2.2.2.2 ?_
  refine r_iconst (v := (-1)) dX7_levelOf_18 (by decide) ?_
  refine r_statV (c_J7_fill_53178 (b + 9) 8 (-1) hS.2.2.2.2.2.2.2.2.2.1 (by decide)) lk_X7_106 mc_J7_fill_53178 dX7_levelOf_19 (by decide) rfl rfl (Nat.le_of_ble_eq_true rfl) ?_
  refine r_iconst (v := nI 0) dX7_levelOf_22 (by decide) ?_
  refine r_istore_n dX7_levelOf_23 (by decide) ?_
  refine w_level2 (e := e) b h hS hSt oS (fun z4 R hR => ?_) H 0 _ _ (by omega) (fun j hj => ?_)
  · skip
    refine r_aload_n dX7_levelOf_74 rfl ?_
    refine r_getR dX7_levelOf_75 fl_X7_57 rfl hS.1 hS.2.2.2.2.2.2.2.2.2.2.2.2.2.2.2.2.2.2 ?_
    refine r_iload_n dX7_levelOf_78 rfl ?_
    refine r_iald dX7_levelOf_79 hS.2.2.2.2.2.2.2.2.2.1 (nI_in8 8 (by omega) (by decide)) (nI_clamp (by omega)) ?_
    rw [am_up_s, hR h hh]
    refine r_iret rfl dX7_levelOf_80 ?_
    exact ⟨rfl, rfl, rfl, rfl, rfl, fun a a1 => am_up_n _ _ a1⟩
  · rw [if_pos (show j < 8 by omega)]; rfl


set_option maxHeartbeats 4000000 in
set_option maxRecDepth 100000 in
theorem k_ring_no (o b s f l : Nat) (h : Nat) (y : Int32) {t : Nat} {T : Nat → Nat} {fp : Int32} {rr : Nat → Int32} {H M : Nat} {un : Bool} {cs : Nat → List Nat} {tx : Nat → List Int32} {e : Lf} {im : Option Lf} {wk : Option (List Nat)} {n : Nat} {kd : mK} {I : mI} {J : mJ} {P : mP} (hC : CR o b s f l n kd I J P t T fp rr H M un cs tx e im wk) (hz : okZ t T H M cs e) (hh : h < H) (hy : (!decide (y < 0) && decide (y < nI 2)) = false) : Ct yX9_ring cX9_ring 4 (some .int) 12 1 6 [.ref o, .int (nI h), .int y] n kd I J P (fun z n' kd' I' J' P' => z = .inr "java/util/NoSuchElementException" ∧ n' = n ∧ kd' = kd ∧ I' = I ∧ J' = J ∧ P' = P) := by
  obtain ⟨hX, hsc, hT, hSt, hLf, hIm, hWk, hQc, hPc⟩ := hC
  obtain ⟨okt, oks, okl⟩ := hz
  have hS := hX.S
  have hL := hX.L
  have hat := hX.at
  have hH8 : H ≤ 8 := oks.2.1
  have hM20 : 2 ≤ M ∧ M ≤ 20 := oks.1
  have hH : I b 0 = nI H := hSt.1.1
  have hMo : I b 1 = nI M := hSt.2.1
  obtain ⟨⟨x0, x1, x2⟩, -, ⟨-, -, hLk⟩, ⟨hQ, hA, hG, hW, hRd, hD, hPg⟩, ⟨p0, p3, p8, p10, p12, p13, p14, p15, p16, p17⟩, ⟨p4, p5, p6, p7⟩, -, -, -⟩ := id hX
  refine ct_of 1 (by decide +kernel) (Nat.le_of_ble_eq_true rfl) rfl ?_
  refine r_aload_n dX9_ring_0 rfl ?_
  refine r_iload_n dX9_ring_1 rfl ?_
  refine r_virtV (m0_House o b (nI h) x0 p4 hS.1 (by rw [hH]; exact (isH_of hh (by omega)))) lk_X9_142 mc_X9_mustBeHouse dX9_ring_2 x0 (by decide) rfl rfl (Nat.le_of_ble_eq_true rfl) ?_
  refine r_aload_n dX9_ring_5 rfl ?_
  refine r_iload_n dX9_ring_6 rfl ?_
  refine r_iconst (v := nI 2) dX9_ring_7 (by decide) ?_
  have hc8 := c_X9_mustBeWhat (n := n) (kd := kd) (I := I) (J := J) (P := P) o (y) (nI 2)
  rw [hy] at hc8
  exact r_virtX hc8 lk_X9_162 mc_X9_mustBeWhat dX9_ring_8 x0 (by decide) rfl rfl (Nat.le_of_ble_eq_true rfl) (by decide) (by decide) ⟨rfl, rfl, rfl, rfl, rfl, rfl⟩

def riV (H : Nat) (cs : Nat → List Nat) (e : Lf) (h k : Nat) : Int32 := if k = 0 then rgO H cs e h else lvO H cs e h
set_option maxHeartbeats 4000000 in
set_option maxRecDepth 100000 in
theorem k_ring (o b s f l : Nat) (h k : Nat) {t : Nat} {T : Nat → Nat} {fp : Int32} {rr : Nat → Int32} {H M : Nat} {un : Bool} {cs : Nat → List Nat} {tx : Nat → List Int32} {e : Lf} {im : Option Lf} {wk : Option (List Nat)} {n : Nat} {kd : mK} {I : mI} {J : mJ} {P : mP} (hC : CR o b s f l n kd I J P t T fp rr H M un cs tx e im wk) (hz : okZ t T H M cs e) (hh : h < H) (hk2 : k < 2) : Ct yX9_ring cX9_ring 4 (some .int) 12 1 6 [.ref o, .int (nI h), .int (nI k)] n kd I J P (pK o n kd I J P (.inl (some (.int (riV H cs e h k)))) (CX o t T fp rr H M un cs tx e im wk)) := by
  have hC0 := hC
  have hz0 := hz
  obtain ⟨hX, hsc, hT, hSt, hLf, hIm, hWk, hQc, hPc⟩ := hC
  obtain ⟨okt, oks, okl⟩ := hz
  have hS := hX.S
  have hL := hX.L
  have hat := hX.at
  have hH8 : H ≤ 8 := oks.2.1
  have hM20 : 2 ≤ M ∧ M ≤ 20 := oks.1
  have hH : I b 0 = nI H := hSt.1.1
  have hMo : I b 1 = nI M := hSt.2.1
  obtain ⟨⟨x0, x1, x2⟩, -, ⟨-, -, hLk⟩, ⟨hQ, hA, hG, hW, hRd, hD, hPg⟩, ⟨p0, p3, p8, p10, p12, p13, p14, p15, p16, p17⟩, ⟨p4, p5, p6, p7⟩, -, -, -⟩ := id hX
  refine ct_of 1 (by decide +kernel) (Nat.le_of_ble_eq_true rfl) rfl ?_
  by_cases c : k = 0
  · rw [show riV H cs e h k = rgO H cs e h from if_pos c]
    refine r_aload_n dX9_ring_0 rfl ?_
    refine r_iload_n dX9_ring_1 rfl ?_
    refine r_virtV (m0_House o b (nI h) x0 p4 hS.1 (by rw [hH]; exact (isH_of hh (by omega)))) lk_X9_142 mc_X9_mustBeHouse dX9_ring_2 x0 (by decide) rfl rfl (Nat.le_of_ble_eq_true rfl) ?_
    refine r_aload_n dX9_ring_5 rfl ?_
    refine r_iload_n dX9_ring_6 rfl ?_
    refine r_iconst (v := nI 2) dX9_ring_7 (by decide) ?_
    refine r_virtV (m0_What o (nI k) (nI 2) (isH_of hk2 (by omega))) lk_X9_162 mc_X9_mustBeWhat dX9_ring_8 x0 (by decide) rfl rfl (Nat.le_of_ble_eq_true rfl) ?_
    refine r_aload_n dX9_ring_11 rfl ?_
    refine r_getR dX9_ring_12 fl_X9_27 rfl (by assumption) (by assumption) ?_
    refine r_aload_n dX9_ring_15 rfl ?_
    refine r_getR dX9_ring_16 fl_X9_37 rfl (by assumption) (by assumption) ?_
    refine r_virtE (c_X7_speaking b f hS hL) lk_X9_300 mc_X7_speaking dX9_ring_19 hS.1 (by decide) rfl rfl (Nat.le_of_ble_eq_true rfl) ?_
    rw [sp_c hSt hLf]
    refine r_istore_n dX9_ring_22 (by decide) ?_
    refine r_iload_n dX9_ring_23 rfl ?_
    refine r_if_ne (tgt := 39) dX9_ring_24 (by decide) (fun hz => absurd (show _ from (by rw [c]; rfl)) hz) (fun _ => ?_)
    refine r_aload_n dX9_ring_27 rfl ?_
    refine r_getR dX9_ring_28 fl_X9_27 rfl (by assumption) (by assumption) ?_
    refine r_iload_n dX9_ring_31 rfl ?_
    refine r_iload_n dX9_ring_32 rfl ?_
    refine r_virtE (c_X7_ringOf b h hS hSt oks hh) lk_X9_337 mc_X7_ringOf dX9_ring_33 hS.1 (by decide) rfl rfl (Nat.le_of_ble_eq_true rfl) ?_
    refine r_goto (tgt := 48) dX9_ring_36 (by decide) ?_
    refine r_iret rfl dX9_ring_48 ?_
    exact pK.is hC0 am_is.mk
  · rw [show riV H cs e h k = lvO H cs e h from if_neg c]
    refine r_aload_n dX9_ring_0 rfl ?_
    refine r_iload_n dX9_ring_1 rfl ?_
    refine r_virtV (m0_House o b (nI h) x0 p4 hS.1 (by rw [hH]; exact (isH_of hh (by omega)))) lk_X9_142 mc_X9_mustBeHouse dX9_ring_2 x0 (by decide) rfl rfl (Nat.le_of_ble_eq_true rfl) ?_
    refine r_aload_n dX9_ring_5 rfl ?_
    refine r_iload_n dX9_ring_6 rfl ?_
    refine r_iconst (v := nI 2) dX9_ring_7 (by decide) ?_
    refine r_virtV (m0_What o (nI k) (nI 2) (isH_of hk2 (by omega))) lk_X9_162 mc_X9_mustBeWhat dX9_ring_8 x0 (by decide) rfl rfl (Nat.le_of_ble_eq_true rfl) ?_
    refine r_aload_n dX9_ring_11 rfl ?_
    refine r_getR dX9_ring_12 fl_X9_27 rfl (by assumption) (by assumption) ?_
    refine r_aload_n dX9_ring_15 rfl ?_
    refine r_getR dX9_ring_16 fl_X9_37 rfl (by assumption) (by assumption) ?_
    refine r_virtE (c_X7_speaking b f hS hL) lk_X9_300 mc_X7_speaking dX9_ring_19 hS.1 (by decide) rfl rfl (Nat.le_of_ble_eq_true rfl) ?_
    rw [sp_c hSt hLf]
    refine r_istore_n dX9_ring_22 (by decide) ?_
    refine r_iload_n dX9_ring_23 rfl ?_
    refine r_if_ne (tgt := 39) dX9_ring_24 (by decide) (fun _ => ?_) (fun hz => absurd hz (show ¬ _ from (nI_ne0 (by omega) (by omega))))
    refine r_aload_n dX9_ring_39 rfl ?_
    refine r_getR dX9_ring_40 fl_X9_27 rfl (by assumption) (by assumption) ?_
    refine r_iload_n dX9_ring_43 rfl ?_
    refine r_iload_n dX9_ring_44 rfl ?_
    refine r_virt (kc2 := 0) (ks2 := 0) (c_X7_levelOf (e := e) b h hS hSt oks hh) lk_X9_340 mc_X7_levelOf dX9_ring_45 hS.1 (by decide) rfl rfl (Nat.le_of_ble_eq_true rfl) (by decide) (by decide) (fun _ _ _ _ _ _ h => nomatch h.1) ?_
    rintro v1 n1 kd1 I1 J1 P1 ⟨h00, rfl, rfl, rfl, rfl, hfr⟩
    cases h00
    simp only [Option.toList, List.nil_append, List.cons_append]
    refine r_iret rfl dX9_ring_48 ?_
    have hC1 : CR o b s f l n1 kd1 I1 J1 P1 t T fp rr H M un cs tx e im wk := CR.qu (I := I) (J := J1) hC0.1 hC0.2.1 (hfr o (by omega)) (fun a a1 a2 a3 a4 a5 a6 a7 a8 a9 a10 => hfr a (by omega)) rfl hC0
    exact ⟨rfl, ⟨Nat.le_refl _, Nat.le_succ _⟩, fun q => q, fun a a1 a2 => ⟨rfl, hfr a (by omega), rfl, rfl⟩, b, s, f, l, hC1⟩

