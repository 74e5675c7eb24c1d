/-! ONE SEARCH FOR BOTH -/
def opN (so de : Nat → Int32) (mo : Int32) (k H : Nat) (N : Nat → Nat) (c : Nat) : Int32 := if c < 20000 then (if c - 10000 < H then nI (N (c - 10000)) else nI 0) else if c = 20002 then mo else if c = 20000 then so k else de k
def tvN (so de : Nat → Int32) (mo : Int32) (H : Nat) (rid : Nat → List Nat) (N : Nat → Nat) (k : Nat) : Bool := !decide (lastI (evs (opN so de mo k H N) (rid k) []) = 0)
def TN (un : Bool) (Lt : Nat → Int32) (L : Nat) (r w : Int32) (lk : Nat → Nat) (tv : (Nat → Nat) → Nat → Bool) (H : Nat) (N : Nat → Nat) (h : Nat) : Bool := (decide (w = 0) || ltl Lt (nI h) (nI (N h)) L 0) && ((!un || unl (rN N) (nI (N h)) h 0) && rlR r (fun k => awS (lk k) k) h (tv N) H 0)
theorem TR_TN (I : mI) (m H L : Nat) (r w : Int32) (lk : Nat → Nat) (tv : (Nat → Nat) → Nat → Bool) (N : Nat → Nat) (h : Nat) : TR I m H L r w lk tv N h = TN (!decide (I m 3 = 0)) (I (m + 24)) L r w lk tv H N h := by
  unfold TR TN
  rw [Bool.not_not]
theorem b_iff {x y : Bool} (h : x = true ↔ y = true) : x = y := by cases x <;> cases y <;> simp_all
theorem TS_TN {I : mI} {o b l H L : Nat} {r w : Int32} {lk : Nat → Nat} {rid : Nat → List Nat} {A0 B0 f Lt : Nat → Int32} {un : Bool} (hbl : b + 9 < l) (hlo : l + 5 < o) (hH8 : H ≤ 8) (ho1 : I (o + 1) = askR r lk A0 H) (hA0 : ∀ j, j < 8 → A0 j = nI 0) (ho2 : I (o + 2) = alwR f B0 H) (hf : ∀ i, i < H → f i = if w = 0 then -1 else llv (I (l + 4)) (I (l + 5)) (nI i) L) (hLt : ∀ i, i < L → I (l + 4) i = Lt (2 * i) ∧ I (l + 5) i = Lt (2 * i + 1) ∧ ∃ v, v < 32 ∧ I (l + 5) i = nI v) (hun : decide (I b 2 = 0) = !un) (N : Nat → Nat) (h : Nat) (hh : h < H) (hN : N h < 32) : TS I o b l H rid N h = TN un Lt L r w lk (tvN (I (l + 1)) (I (l + 2)) (I b 1) H rid) H N h := by
  unfold TS stS TN
  rw [am_up_n _ _ (show o + 2 ≠ o + 3 by omega), am_up_n _ _ (show b ≠ o + 3 by omega), am_up_n _ _ (show o + 1 ≠ o + 3 by omega), am_up_s, hun]
  show (_ && ((!un || unl (rN N) (nI (N h)) h 0) && _)) = _
  congr 1
  · rw [ho2, alwR_at f B0 hh, hf h hh]
    by_cases e : w = 0
    · rw [if_pos e, b_m1 _ hN]; simp [e]
    · rw [if_neg e]
      apply b_iff
      rw [llv_iff _ _ _ hN L (fun i hi => (hLt i hi).2.2)]
      simp only [e, decide_false, Bool.false_or]
      rw [ltl_iff]
      constructor
      · intro h1 i _ h3 h4
        have := hLt i (by omega)
        rw [← this.2.1]
        exact h1 i (by omega) (by rw [this.1]; exact h4)
      · intro h1 i h3 h4
        have := hLt i h3
        rw [this.2.1]
        exact h1 i (by omega) (by omega) (by rw [← this.1]; exact h4)
  · congr 1
    have hop : ∀ k, opdS (va_up I (o + 3) (rN N)) b (o + 3) l k H = opN (I (l + 1)) (I (l + 2)) (I b 1) k H N := fun k => by
      funext c
      unfold opdS opN
      rw [am_up_s, am_up_n _ _ (show b ≠ o + 3 by omega), am_up_n _ _ (show l + 1 ≠ o + 3 by omega), am_up_n _ _ (show l + 2 ≠ o + 3 by omega)]
      rfl
    apply b_iff
    rw [rdl_iff, rlR_iff, ho1]
    constructor
    · intro h1 i _ h3 h4 h5
      have := h1 i (by omega) (by omega) (by rw [askR_bit r lk A0 (hA0 h (by omega)) (by omega) H (by omega)]; simp [show i < H by omega, h4, h5])
      unfold valS at this
      rw [hop] at this
      unfold tvN
      simp [this]
    · intro h1 i _ h3 h4
      rw [askR_bit r lk A0 (hA0 h (by omega)) (by omega) H (by omega)] at h4
      simp at h4
      have := h1 i (by omega) (by omega) h4.2.1 h4.2.2
      unfold valS
      rw [hop]
      unfold tvN at this
      simpa using this
theorem evs_congr {o1 o2 : Nat → Int32} : ∀ (cs : List Nat) (st : List Int32), (∀ c ∈ cs, 10000 ≤ c → c < 20003 → o1 c = o2 c) → evs o1 cs st = evs o2 cs st
  | [], st, _ => rfl
  | c :: t, st, h => by
    unfold evs
    have e : ev1 o1 c st = ev1 o2 c st := by
      unfold ev1
      by_cases c1 : c < 10000
      · simp [c1]
      · by_cases c2 : c < 20003
        · simp [c1, c2, h c List.mem_cons_self (by omega) c2]
        · simp [c1, c2]
    rw [e]
    exact evs_congr t _ (fun c' h' => h c' (List.mem_cons_of_mem _ h'))
theorem bit_log {m t : Nat} (h : m.testBit t = true) : t ≤ Nat.log2 m ∧ m ≠ 0 := by
  have h0 : m ≠ 0 := fun z => by rw [z] at h; simp at h
  refine ⟨?_, h0⟩
  have h1 : 2 ^ t ≤ m := Nat.ge_two_pow_of_testBit h
  exact (Nat.le_log2 h0).mpr h1
theorem hT_ref {m H : Nat} {lk : Nat → Nat} {rid : Nat → List Nat} {n : Nat} {kd : mK} {I : mI} {J : mJ} {P : mP} (hM : kM kd P m) (hH8 : H ≤ 8) (hH : I m 1 = nI H) (r : Int32) (hfr : ∀ k, k < H → ¬ nI k = I m 54) (hrc : ∀ k, k < H → bt r k = true → okd (rid k) 0 ∧ ∃ a, I (m + 5) k = nI a ∧ rcs (I (m + 7)) (rid k) a) (hLK : ∀ k, k < H → ∀ t, t < H → 10000 + t ∈ rid k → (lk k).testBit t = true) : ∀ (N : Nat → Nat) (k h : Nat) (Pl R Nb q : Nat → Int32), (∀ j, j ≤ h → R j = nI (N j)) → (∀ j, j ≠ 52 → j ≠ 53 → q j = I m j) → k < H → bt r k = true → awS (lk k) k = h → Ct yX10_isTrue cX10_isTrue 5 (some .boolean) 2 0 0 [.ref m, .int (nI k)] n kd (xM I m Pl R Nb q) J P (am_sc (some (.int (bz (tvN (I (m + 1)) (I (m + 2)) (I m 2) H rid N k)))) (m + 26) n kd (xM I m Pl R Nb q) J P) := by
  intro N k h Pl R Nb q hR hq hk hb haw
  obtain ⟨hok, a, ha, hra⟩ := hrc k hk hb
  have x5 : xM I m Pl R Nb q (m + 5) = I (m + 5) := by unfold xM; rw [am_up_n _ _ (by omega), am_up_n _ _ (by omega), am_up_n _ _ (by omega), am_up_n _ _ (by omega)]
  have x7 : xM I m Pl R Nb q (m + 7) = I (m + 7) := by unfold xM; rw [am_up_n _ _ (by omega), am_up_n _ _ (by omega), am_up_n _ _ (by omega), am_up_n _ _ (by omega)]
  have x1 : xM I m Pl R Nb q (m + 1) = I (m + 1) := by unfold xM; rw [am_up_n _ _ (by omega), am_up_n _ _ (by omega), am_up_n _ _ (by omega), am_up_n _ _ (by omega)]
  have x2 : xM I m Pl R Nb q (m + 2) = I (m + 2) := by unfold xM; rw [am_up_n _ _ (by omega), am_up_n _ _ (by omega), am_up_n _ _ (by omega), am_up_n _ _ (by omega)]
  have hc := c_X10_isTrue (n := n) (I := xM I m Pl R Nb q) (J := J) m k H a (rid k) hM hk hH8 (by rw [xM_m, hq 1 (by decide) (by decide)]; exact hH) (by rw [xM_m, hq 54 (by decide) (by decide)]; exact hfr k hk) (by rw [x5]; exact ha) (by rw [x7]; exact hra) hok
  have he : evs (opdR (xM I m Pl R Nb q) m k H) (rid k) [] = evs (opN (I (m + 1)) (I (m + 2)) (I m 2) k H N) (rid k) [] := by
    apply evs_congr
    intro c hcm c1 c2
    unfold opdR opN
    rw [xM_m, xM_25, x1, x2, hq 2 (by decide) (by decide)]
    by_cases c3 : c < 20000
    · rw [if_pos c3, if_pos c3]
      by_cases c4 : c - 10000 < H
      · rw [if_pos c4, if_pos c4]
        apply hR
        have hbit := hLK k hk (c - 10000) c4 (by rw [show 10000 + (c - 10000) = c by omega]; exact hcm)
        have hl := bit_log hbit
        unfold awS at haw
        rw [if_neg hl.2] at haw
        omega
      · rw [if_neg c4, if_neg c4]
    · rw [if_neg c3, if_neg c3]
  rw [he] at hc
  exact hc
theorem sk_cg {T1 T2 : (Nat → Nat) → Nat → Bool} {bar : Nat → Nat → Bool} {H M E : Nat} (hT : ∀ (N : Nat → Nat) (h : Nat), h < H → (∀ j, N j ≤ M) → T1 N h = T2 N h) : ∀ (f h : Nat) (N : Nat → Nat) (t : Nat) (fs : List (Nat → Nat)), h ≤ H → (∀ j, N j ≤ M) → sk T1 bar H M E f h N t fs = sk T2 bar H M E f h N t fs
  | 0, h, N, t, fs, _, _ => by unfold sk; rfl
  | f + 1, 0, N, t, fs, _, _ => by unfold sk; rfl
  | f + 1, h + 1, N, t, fs, hh, hN => by
    unfold sk
    by_cases c1 : M ≤ N h
    · rw [if_pos c1, if_pos c1]
      exact sk_cg hT f h _ t fs (by omega) (fun j => by unfold upN; split; omega; exact hN j)
    have hU : ∀ j, upN N h (N h + 1) j ≤ M := fun j => by unfold upN; split; omega; exact hN j
    rw [if_neg c1, if_neg c1]
    rw [sk_cg hT f (h + 1) (upN N h (N h + 1)) t fs hh hU, sk_cg hT f (h + 1) (upN N h (N h + 1)) (t + 1) fs hh hU, sk_cg hT f (h + 1) (upN N h (N h + 1)) (t + 1) (upN N h (N h + 1) :: fs) hh hU, hT (upN N h (N h + 1)) h (by omega) hU]
    by_cases c2 : h + 1 < H
    · rw [sk_cg hT f (h + 2) (upN N h (N h + 1)) (t + 1) fs (by omega) hU]
    · simp only [if_neg c2]
theorem skTop_cg {T1 T2 : (Nat → Nat) → Nat → Bool} {bar : Nat → Nat → Bool} {H M E : Nat} (hT : ∀ (N : Nat → Nat) (h : Nat), h < H → (∀ j, N j ≤ M) → T1 N h = T2 N h) : skTop T1 bar H M E = skTop T2 bar H M E := by
  unfold skTop
  by_cases h0 : H = 0
  · rw [if_pos h0, if_pos h0]
  · rw [if_neg h0, if_neg h0]
    exact sk_cg hT 100000 1 _ 0 [] (by omega) (fun _ => Nat.zero_le M)
