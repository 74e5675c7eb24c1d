/-! HOW MANY BITS: the JDK's way, of numbers below 2 to the 21 -/
theorem and_nI {a b : Nat} : nI a &&& nI b = nI (a &&& b) := b_ext (fun i hi => by rw [b_and, bt_nI _ hi, bt_nI _ hi, bt_nI _ hi, Nat.testBit_and])
theorem and_sp {k a m u v : Nat} (hv : v < 2 ^ k) (hu : u < 2 ^ k) : (2 ^ k * a + u) &&& (2 ^ k * m + v) = 2 ^ k * (a &&& m) + (u &&& v) := by
  apply Nat.eq_of_testBit_eq
  intro j
  rw [Nat.testBit_and, Nat.testBit_two_pow_mul_add _ hu, Nat.testBit_two_pow_mul_add _ hv, Nat.testBit_two_pow_mul_add _ (Nat.lt_of_le_of_lt Nat.and_le_left hu)]
  by_cases q : j < k
  · rw [if_pos q, if_pos q, if_pos q, Nat.testBit_and]
  · rw [if_neg q, if_neg q, if_neg q, Nat.testBit_and]
def f1N (M w : Nat) : Nat := w - (w / 2 &&& M)
def f2N (M x : Nat) : Nat := (x &&& M) + (x / 4 &&& M)
def f3N (M x : Nat) : Nat := (x + x / 16) &&& M
theorem f1_b : ∀ b, b < 2 → ∀ a, a < 256 → (128 * b + a / 2) &&& 85 = a / 2 &&& 85 := by decide +kernel
theorem f2_b : ∀ b, b < 4 → ∀ a, a < 256 → (64 * b + a / 4) &&& 51 = a / 4 &&& 51 := by decide +kernel
theorem f1_sp {M q a : Nat} (ha : a < 256) : f1N (256 * M + 85) (256 * q + a) = 256 * f1N M q + f1N 85 a := by
  unfold f1N
  have e : (256 * q + a) / 2 = 2 ^ 8 * (q / 2) + (128 * (q % 2) + a / 2) := by omega
  rw [e, show 256 * M + 85 = 2 ^ 8 * M + 85 from rfl, and_sp (by decide) (by omega), f1_b _ (by omega) a ha]
  have h1 : q / 2 &&& M ≤ q / 2 := Nat.and_le_left
  have h2 : a / 2 &&& 85 ≤ a / 2 := Nat.and_le_left
  omega
theorem f2_sp {M q a : Nat} (ha : a < 256) : f2N (256 * M + 51) (256 * q + a) = 256 * f2N M q + f2N 51 a := by
  unfold f2N
  have e : (256 * q + a) / 4 = 2 ^ 8 * (q / 4) + (64 * (q % 4) + a / 4) := by omega
  rw [e, show 256 * M + 51 = 2 ^ 8 * M + 51 from rfl, show 256 * q + a = 2 ^ 8 * q + a from rfl, and_sp (by decide) (by omega), and_sp (by decide) (by omega), f2_b _ (by omega) a ha]
  omega
theorem f3_sp {M q a : Nat} (ha : a ≤ 68) (hq : q % 16 ≤ 4) : f3N (256 * M + 15) (256 * q + a) = 256 * f3N M q + f3N 15 a := by
  unfold f3N
  have e : 256 * q + a + (256 * q + a) / 16 = 2 ^ 8 * (q + q / 16) + (16 * (q % 16) + (a + a / 16)) := by omega
  rw [e, show 256 * M + 15 = 2 ^ 8 * M + 15 from rfl, and_sp (by decide) (by omega)]
  congr 1
  rw [show (15 : Nat) = 2 ^ 4 - 1 from rfl, Nat.and_two_pow_sub_one_eq_mod, Nat.and_two_pow_sub_one_eq_mod]
  omega
def pb (a : Nat) : Nat := f2N 51 (f1N 85 a)
theorem pb_le : ∀ a, a < 256 → f1N 85 a < 256 ∧ pb a ≤ 68 ∧ pb a % 16 ≤ 4 ∧ f3N 15 (pb a) = pc8 a ∧ pc8 a ≤ 8 := by decide +kernel
theorem bc1_n {w : Nat} (h : w < 2 ^ 31) : bc1 (nI w) = nI (f1N 1431655765 w) := by
  unfold bc1 f1N
  rw [pk_ushrN (by omega) (nI 1) 1 (by decide), show (1431655765 : Int32) = nI 1431655765 from rfl, and_nI, pk_sub (Nat.le_trans Nat.and_le_left (Nat.div_le_self _ _))]
theorem bc2_n {w : Nat} (h : w < 2 ^ 31) : bc2 (nI w) = nI (f2N 858993459 w) := by
  unfold bc2 f2N
  rw [pk_ushrN (by omega) (nI 2) 2 (by decide), show (858993459 : Int32) = nI 858993459 from rfl, and_nI, and_nI, nI_add]
theorem bc3_n {w : Nat} (h : w < 2 ^ 31) : bc3 (nI w) = nI (f3N 252645135 w) := by
  unfold bc3 f3N
  rw [pk_ushrN (by omega) (nI 4) 4 (by decide), show (252645135 : Int32) = nI 252645135 from rfl, nI_add, and_nI]
theorem bc4_n {w : Nat} (h : w < 2 ^ 31) : bc4 (nI w) = nI (w + w / 256) := by
  unfold bc4
  rw [pk_ushrN (by omega) (nI 8) 8 (by decide), nI_add]
theorem bc5_n {w : Nat} (h : w < 2 ^ 31) : bc5 (nI w) = nI (w + w / 65536) := by
  unfold bc5
  rw [pk_ushrN (by omega) (nI 16) 16 (by decide), nI_add]
theorem pcF_cg {v w : Int32} : ∀ n, (∀ i, i < n → bt v i = bt w i) → pcF v n = pcF w n
  | 0, _ => rfl
  | n + 1, h => by
    show pcF v n + _ = pcF w n + _
    rw [pcF_cg n (fun i hi => h i (by omega)), h n (by omega)]
theorem pcF_sp {a q : Nat} (ha : a < 256) : ∀ n, n ≤ 24 → pcF (nI (256 * q + a)) (8 + n) = pcF (nI a) 8 + pcF (nI q) n
  | 0, _ => by
    show pcF _ 8 = pcF _ 8 + 0
    rw [Nat.add_zero]
    refine pcF_cg 8 (fun i hi => ?_)
    rw [bt_nI _ (by omega), bt_nI _ (by omega), show 256 * q + a = 2 ^ 8 * q + a from rfl, Nat.testBit_two_pow_mul_add _ ha, if_pos hi]
  | n + 1, h => by
    have e8 : bt (nI (256 * q + a)) (8 + n) = bt (nI q) n := by
      rw [bt_nI _ (by omega), bt_nI _ (by omega), show 256 * q + a = 2 ^ 8 * q + a from rfl, Nat.testBit_two_pow_mul_add _ ha, if_neg (by omega), Nat.add_sub_cancel_left]
    show pcF _ (8 + n) + (if bt (nI (256 * q + a)) (8 + n) = true then 1 else 0) = _ + (pcF _ n + (if bt (nI q) n = true then 1 else 0))
    rw [e8, pcF_sp ha n (by omega), Nat.add_assoc]
theorem pc5_8 : ∀ c, c < 32 → pcF (nI c) 5 = pc8 c := by decide +kernel
theorem bc_21 {w : Nat} (h : w < 2 ^ 21) : bcF (nI w) = nI (pcF (nI w) 21) := by
  obtain ⟨a, b, c, ha, hb, hc, rfl⟩ : ∃ a b c, a < 256 ∧ b < 256 ∧ c < 32 ∧ w = 256 * (256 * c + b) + a := ⟨w % 256, w / 256 % 256, w / 65536, by omega, by omega, by omega, by omega⟩
  obtain ⟨a1, a2, a3, a4, a5⟩ := pb_le a ha
  obtain ⟨b1, b2, b3, b4, b5⟩ := pb_le b hb
  obtain ⟨c1, c2, c3, c4, c5⟩ := pb_le c (by omega)
  rw [show (21 : Nat) = 8 + 13 from rfl, pcF_sp ha 13 (by decide), show (13 : Nat) = 8 + 5 from rfl, pcF_sp hb 5 (by decide), pc5_8 c hc]
  have e1 : f1N 1431655765 (256 * (256 * c + b) + a) = 256 * (256 * f1N 85 c + f1N 85 b) + f1N 85 a := by
    rw [show (1431655765 : Nat) = 256 * (256 * 21845 + 85) + 85 from rfl, f1_sp ha, f1_sp hb, show f1N 21845 c = f1N 85 c from by rw [show (21845 : Nat) = 256 * 85 + 85 from rfl]; have := f1_sp (M := 85) (q := 0) (a := c) (by omega); rw [Nat.mul_zero, Nat.zero_add] at this; rw [this]; show 256 * (0 - (0 / 2 &&& 85)) + _ = _; rw [Nat.zero_sub, Nat.mul_zero, Nat.zero_add]]
  have e2 : f2N 858993459 (256 * (256 * f1N 85 c + f1N 85 b) + f1N 85 a) = 256 * (256 * pb c + pb b) + pb a := by
    rw [show (858993459 : Nat) = 256 * (256 * 13107 + 51) + 51 from rfl, f2_sp a1, f2_sp b1, show f2N 13107 (f1N 85 c) = pb c from by rw [show (13107 : Nat) = 256 * 51 + 51 from rfl]; have := f2_sp (M := 51) (q := 0) (a := f1N 85 c) c1; rw [Nat.mul_zero, Nat.zero_add] at this; rw [this]; show 256 * ((0 &&& 51) + (0 / 4 &&& 51)) + _ = _; rw [Nat.zero_div, Nat.zero_and, Nat.add_zero, Nat.mul_zero, Nat.zero_add]; rfl]
    rfl
  have e3 : f3N 252645135 (256 * (256 * pb c + pb b) + pb a) = 256 * (256 * pc8 c + pc8 b) + pc8 a := by
    rw [show (252645135 : Nat) = 256 * (256 * 3855 + 15) + 15 from rfl, f3_sp a2 (by omega), f3_sp b2 c3, a4, b4, show f3N 3855 (pb c) = pc8 c from by rw [show (3855 : Nat) = 256 * 15 + 15 from rfl]; have := f3_sp (M := 15) (q := 0) (a := pb c) c2 (by decide); rw [Nat.mul_zero, Nat.zero_add] at this; rw [this, c4]; show 256 * ((0 + 0 / 16) &&& 15) + _ = _; rw [Nat.zero_div, Nat.zero_and, Nat.mul_zero, Nat.zero_add]]
  unfold bcF
  rw [bc1_n (by omega), e1, bc2_n (by omega), e2, bc3_n (by omega), e3, bc4_n (by omega), bc5_n (by omega), pk_andN (by omega) 6 (by decide)]
  congr 1
  show _ = pc8 a + (pc8 b + pc8 c)
  clear e1 e2 e3 a4 b4 c4
  generalize pc8 a = A at *
  generalize pc8 b = B at *
  generalize pc8 c = C at *
  have h1 : (256 * (256 * C + B) + A) / 256 = 256 * C + B := by omega
  rw [h1]
  have h2 : (256 * (256 * C + B) + A + (256 * C + B)) / 65536 = C := by omega
  rw [h2]
  show (256 * (256 * C + B) + A + (256 * C + B) + C) % 64 = A + (B + C)
  omega
