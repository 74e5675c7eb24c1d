/-! SEARCHES ON ANY STATE: both sides -/
theorem kX.gen {o b s f l : Nat} {kd kd' : mK} {P P' : mP} (hk : ∀ a, o ≤ a → a ≤ o + 68 → kd' a = kd a) (h1 : ∀ a, o ≤ a → a ≤ o + 68 → a ≠ o + 41 → a ≠ o + 48 → a ≠ o + 56 → a ≠ o + 58 → a ≠ o + 61 → P' a = P a) (h41 : ∀ k, k ≠ 0 → k ≠ 1 → P' (o + 41) k = P (o + 41) k) (h48 : ∀ k, k ≠ 0 → k ≠ 1 → P' (o + 48) k = P (o + 48) k) (h56 : ∀ k, k ≠ 3 → P' (o + 56) k = P (o + 56) k) (h58 : ∀ k, k ≠ 3 → P' (o + 58) k = P (o + 58) k) (h61 : ∀ k, k = 2 ∨ k = 3 ∨ k = 4 → P' (o + 61) k = P (o + 61) k) (h : kX kd P o b s f l) : kX kd' P' o b s f l := by
  simp (disch := omega) only [kX, kS, kL, kQ, kA, kG, kW, kRd, kD, kPg, hk, h1, h41, h48, h56, h58, h61] at h ⊢
  exact h
/-- questions leave what is -/
theorem CR.qu {o b s f l n n' t : Nat} {kd kd' : mK} {I I' : mI} {J J' : mJ} {P P' : mP} {T : Nat → Nat} {fp : Int32} {rr : Nat → Int32} {H M : Nat} {un : Bool} {cs : Nat → List Nat} {tx : Nat → List Int32} {e : Lf} {im : Option Lf} {wk : Option (List Nat)} (hX' : kX kd' P' o b s f l) (hs' : scr2 kd' P' o n') (h0 : I' o = I o) (hI : ∀ a, o < a → a ≤ o + 68 → a ≠ b + 8 → a ≠ b + 9 → (a < s ∨ s + 9 < a) → (a < l ∨ l + 5 < a) → (a < o + 42 ∨ o + 45 < a) → (a < o + 47 ∨ o + 57 < a) → a ≠ o + 59 → (a < o + 61 ∨ o + 66 < a) → I' a = I a) (hJ : J' (o + 45) = J (o + 45)) (hC : CR o b s f l n kd I J P t T fp rr H M un cs tx e im wk) : CR o b s f l n' kd' I' J' P' t T fp rr H M un cs tx e im wk := by
  obtain ⟨hX, hs, h1, h2, h3, h4, h5, h6, h7⟩ := hC
  have hat := hX.at
  have hh : ∀ a, o < a → a ≤ o + 68 → a ≠ b + 8 → a ≠ b + 9 → (a < s ∨ s + 9 < a) → (a < l ∨ l + 5 < a) → (a < o + 42 ∨ o + 45 < a) → (a < o + 47 ∨ o + 57 < a) → a ≠ o + 59 → (a < o + 61 ∨ o + 66 < a) → I' a = I a := hI
  exact ⟨hX', hs', h1.cg (by rw [h0]) (by rw [h0]) (hh _ (by omega) (by omega) (by omega) (by omega) (by omega) (by omega) (by omega) (by omega) (by omega) (by omega)) (hh _ (by omega) (by omega) (by omega) (by omega) (by omega) (by omega) (by omega) (by omega) (by omega) (by omega)), h2.cg (fun a x y => hh _ (by omega) (by omega) (by omega) (by omega) (by omega) (by omega) (by omega) (by omega) (by omega) (by omega)), h3.cg (fun a x y => hh _ (by omega) (by omega) (by omega) (by omega) (by omega) (by omega) (by omega) (by omega) (by omega) (by omega)), h4.cg (by rw [h0]) (fun a x y => hh _ (by omega) (by omega) (by omega) (by omega) (by omega) (by omega) (by omega) (by omega) (by omega) (by omega)), h5.cg (hh _ (by omega) (by omega) (by omega) (by omega) (by omega) (by omega) (by omega) (by omega) (by omega) (by omega)) (hh _ (by omega) (by omega) (by omega) (by omega) (by omega) (by omega) (by omega) (by omega) (by omega) (by omega)), h6.cg (by rw [h0]) (hh _ (by omega) (by omega) (by omega) (by omega) (by omega) (by omega) (by omega) (by omega) (by omega) (by omega)) (hh _ (by omega) (by omega) (by omega) (by omega) (by omega) (by omega) (by omega) (by omega) (by omega) (by omega)) hJ, h7.cg (by rw [h0]) (hh _ (by omega) (by omega) (by omega) (by omega) (by omega) (by omega) (by omega) (by omega) (by omega) (by omega)) (hh _ (by omega) (by omega) (by omega) (by omega) (by omega) (by omega) (by omega) (by omega) (by omega) (by omega))⟩
theorem RR.qu {m t : Nat} {kd : mK} {I I' : mI} {P : mP} {T : Nat → Nat} {fp : Int32} {rr : Nat → Int32} {H M : Nat} {un : Bool} {cs : Nat → List Nat} {tx : Nat → List Int32} {e : Lf} {im : Option Lf} {wk : Option (List Nat)} (hf : ∀ a, m < a → a ≤ m + 55 → (a < m + 25 ∨ m + 36 < a) → (a < m + 38 ∨ m + 50 < a) → I' a = I a) (h0 : ∀ j, j = 1 ∨ j = 2 ∨ j = 3 ∨ j = 15 ∨ j = 17 ∨ j = 45 ∨ j = 47 ∨ j = 54 ∨ j = 58 ∨ j = 74 ∨ j = 90 ∨ j = 91 ∨ j = 92 → I' m j = I m j) (hC : RR m kd I P t T fp rr H M un cs tx e im wk) : RR m kd I' P t T fp rr H M un cs tx e im wk := by
  obtain ⟨hM, h1, h2, h3, h4, h5⟩ := hC
  exact ⟨hM, h1.cg (h0 _ (by omega)) (h0 _ (by omega)) (hf _ (by omega) (by omega) (by omega) (by omega)) (hf _ (by omega) (by omega) (by omega) (by omega)), h2.cg (fun j hj => h0 j (by omega)) (fun a ha => hf a (by omega) (by omega) (by omega) (by omega)), rLx.cg (hf _ (by omega) (by omega) (by omega) (by omega)) (hf _ (by omega) (by omega) (by omega) (by omega)) (hf _ (by omega) (by omega) (by omega) (by omega)) (hf _ (by omega) (by omega) (by omega) (by omega)) (hf _ (by omega) (by omega) (by omega) (by omega)) (h0 _ (by omega)) (h0 _ (by omega)) h3, h4.cg (h0 _ (by omega)) (h0 _ (by omega)) (h0 _ (by omega)) (fun a x y => hf a (by omega) (by omega) (by omega) (by omega)), h5.cg (h0 _ (by omega)) (hf _ (by omega) (by omega) (by omega) (by omega))⟩
/-- found numberings, and whether they are good -/
def fsN (H M : Nat) (un : Bool) (cs : Nat → List Nat) (e : Lf) : List (Nat → Nat) := (zN H M un cs e).2.1
def gdN (H M : Nat) (un : Bool) (cs : Nat → List Nat) (e : Lf) : Bool := !(zN H M un cs e).2.2 && decide ((zN H M un cs e).2.1.length ≤ 1000)
def mayN : List (Nat → Nat) → Nat → Nat
  | [], _ => 0
  | N :: fs, h => mayN fs h ||| 2 ^ N h
def cntN : List (Nat → Nat) → Nat → Nat → Nat
  | [], _, _ => 0
  | N :: fs, h, v => cntN fs h v + if N h = v then 1 else 0
theorem zR_rng {H M : Nat} {un : Bool} {cs : Nat → List Nat} {e : Lf} {r w : Int32} {E : Nat} (hH : H ≤ 8) (hM : M ≤ 20) : fDif H (zR H M un cs e r w E).2.1 ∧ fRng H M (zR H M un cs e r w E).2.1 := skTop_dif (zR_eq hH hM)
theorem or_sh2 {a v : Nat} (hv : v < 32) : nI a ||| (nI 1 <<< (nI v &&& 31)) = nI (a ||| 2 ^ v) := b_ext (fun i hi => by rw [b_or, bt_nI _ hi, bt_nI _ hi, b_sh1 hv hi, Nat.testBit_or, Nat.testBit_two_pow]; congr 1; exact decide_eq_decide.mpr ⟨Eq.symm, Eq.symm⟩)
theorem mayN_bit : ∀ (fs : List (Nat → Nat)) (h v : Nat), (mayN fs h).testBit v = true ↔ ∃ N ∈ fs, N h = v
  | [], h, v => by simp [mayN]
  | N :: fs, h, v => by
    show (mayN fs h ||| 2 ^ N h).testBit v = true ↔ _
    rw [Nat.testBit_or, Nat.testBit_two_pow, Bool.or_eq_true, mayN_bit fs h v, decide_eq_true_eq]
    constructor
    · rintro (⟨Q, q1, q2⟩ | q)
      · exact ⟨Q, List.mem_cons_of_mem _ q1, q2⟩
      · exact ⟨N, List.mem_cons_self, q⟩
    · rintro ⟨Q, q1, q2⟩
      rcases List.mem_cons.mp q1 with r | r
      · right; rw [← r]; exact q2
      · left; exact ⟨Q, r, q2⟩
theorem mayN_lt : ∀ {fs : List (Nat → Nat)} {H M h : Nat}, fRng H M fs → M ≤ 20 → h < H → mayN fs h < 2 ^ 21
  | [], _, _, _, _, _, _ => by show (0 : Nat) < _; decide
  | N :: fs, H, M, h, hr, hM, hh => by
    have h1 := (hr N List.mem_cons_self h hh).2
    exact Nat.or_lt_two_pow (mayN_lt (fun f hf => hr f (List.mem_cons_of_mem _ hf)) hM hh) (Nat.pow_lt_pow_right (by decide) (by omega))
theorem snR_at (N S0 : Nat → Int32) : ∀ (i h : Nat), snR N S0 i h = if h < i then S0 h ||| (nI 1 <<< (N h &&& 31)) else S0 h
  | 0, h => by rw [if_neg (by omega)]; rfl
  | i + 1, h => by
    show va_up (snR N S0 i) i (snR N S0 i i ||| (nI 1 <<< (N i &&& 31))) h = _
    by_cases q : h = i
    · rw [q, am_up_s, if_pos (by omega), snR_at N S0 i i, if_neg (by omega)]
    · rw [am_up_n _ _ q, snR_at N S0 i h]
      by_cases r : h < i
      · rw [if_pos r, if_pos (by omega)]
      · rw [if_neg r, if_neg (by omega)]
theorem SR_may {H M : Nat} {S0 : Nat → Int32} {h : Nat} (hM : M ≤ 20) (hh : h < H) (h0 : S0 h = nI 0) : ∀ (fs : List (Nat → Nat)), fRng H M fs → SR H S0 fs h = nI (mayN fs h)
  | [], _ => h0
  | N :: fs, hr => by
    have h1 := (hr N List.mem_cons_self h hh).2
    show snR (rN N) (SR H S0 fs) H h = nI (mayN fs h ||| 2 ^ N h)
    rw [snR_at, if_pos hh, SR_may hM hh h0 fs (fun f hf => hr f (List.mem_cons_of_mem _ hf))]
    exact or_sh2 (by omega)
theorem my_of {H M h : Nat} (hM : M ≤ 20) (hh : h < H) : ∀ (fs : List (Nat → Nat)) (B : Nat → Int32), fRng H M fs → (∀ i, i < fs.length → B (8 * i + h) = nI (nmF fs i h)) → myR B h fs.length = nI (mayN fs h)
  | [], B, _, _ => rfl
  | N :: fs, B, hr, hB => by
    have h1 := (hr N List.mem_cons_self h hh).2
    show myR B h fs.length ||| (nI 1 <<< (B (8 * fs.length + h) &&& 31)) = nI (mayN fs h ||| 2 ^ N h)
    rw [my_of hM hh fs B (fun f hf => hr f (List.mem_cons_of_mem _ hf)) (fun i hi => by rw [hB i (Nat.lt_succ_of_lt hi), nmF_lt hi]), hB fs.length (Nat.lt_succ_self _), nmF_eq]
    exact or_sh2 (by omega)
theorem cw_of {H M h : Nat} (hM : M ≤ 20) (hh : h < H) (hH : H ≤ 8) {v : Nat} (hv : v < 2 ^ 31) : ∀ (fs : List (Nat → Nat)) (B : Nat → Int64), fRng H M fs → (∀ i, i < fs.length → nmI (B i) (nI h) = nI (nmF fs i h)) → cwR B (nI h) (nI v) fs.length = cntN fs h v
  | [], B, _, _ => rfl
  | N :: fs, B, hr, hB => by
    have h1 := (hr N List.mem_cons_self h hh).2
    have h2 : nmI (B fs.length) (nI h) = nI (N h) := by rw [hB fs.length (Nat.lt_succ_self _), nmF_eq]
    show (if nmI (B fs.length) (nI h) = nI v then cwR B (nI h) (nI v) fs.length + 1 else cwR B (nI h) (nI v) fs.length) = cntN fs h v + if N h = v then 1 else 0
    rw [cw_of hM hh hH hv fs B (fun f hf => hr f (List.mem_cons_of_mem _ hf)) (fun i hi => by rw [hB i (Nat.lt_succ_of_lt hi), nmF_lt hi]), h2]
    by_cases q : N h = v
    · rw [if_pos (by rw [q]), if_pos q]
    · rw [if_neg (fun z => q ((nI_eq (by omega) hv).mp z)), if_neg q, Nat.add_zero]
theorem cntN_le : ∀ (fs : List (Nat → Nat)) (h v : Nat), cntN fs h v ≤ fs.length
  | [], _, _ => Nat.le_refl _
  | N :: fs, h, v => by
    show cntN fs h v + _ ≤ fs.length + 1
    have := cntN_le fs h v
    split <;> omega
