/-! CLASS AND REFERENCE ASK THE SAME OF A NUMBER: the pieces -/
theorem ltl_iff (Lt : Nat → Int32) (hh v : Int32) : ∀ (c k : Nat), ltl Lt hh v c k = true ↔ ∀ i, k ≤ i → i < k + c → Lt (2 * i) = hh → Lt (2 * i + 1) = v
  | 0, k => ⟨fun _ i h1 h2 => absurd h2 (by omega), fun _ => rfl⟩
  | c + 1, k => by
    rw [ltl, Bool.and_eq_true, ltl_iff Lt hh v c (k + 1)]
    constructor
    · rintro ⟨h1, h2⟩ i h3 h4 h5
      by_cases e : i = k
      · subst e
        simpa [h5] using h1
      · exact h2 i (by omega) (by omega) h5
    · intro h
      refine ⟨?_, fun i h3 h4 h5 => h i (by omega) (by omega) h5⟩
      by_cases e : Lt (2 * k) = hh
      · simp [e, h k (Nat.le_refl k) (by omega) e]
      · simp [e]
theorem rdl_iff (A : Int32) (val : Nat → Int32) : ∀ (c k : Nat), rdl A val c k = true ↔ ∀ i, k ≤ i → i < k + c → bt A i = true → ¬ val i = 0
  | 0, k => ⟨fun _ i h1 h2 => absurd h2 (by omega), fun _ => rfl⟩
  | c + 1, k => by
    rw [rdl, Bool.and_eq_true, rdl_iff A val c (k + 1)]
    constructor
    · rintro ⟨h1, h2⟩ i h3 h4 h5
      by_cases e : i = k
      · subst e
        simpa [h5] using h1
      · exact h2 i (by omega) (by omega) h5
    · intro h
      refine ⟨?_, fun i h3 h4 h5 => h i (by omega) (by omega) h5⟩
      cases e : bt A k with
      | false => simp
      | true => simp [h k (Nat.le_refl k) (by omega) e]
theorem rlR_iff (r : Int32) (aw : Nat → Nat) (h : Nat) (tv : Nat → Bool) : ∀ (c k : Nat), rlR r aw h tv c k = true ↔ ∀ i, k ≤ i → i < k + c → bt r i = true → aw i = h → tv i = true
  | 0, k => ⟨fun _ i h1 h2 => absurd h2 (by omega), fun _ => rfl⟩
  | c + 1, k => by
    rw [rlR, Bool.and_eq_true, rlR_iff r aw h tv c (k + 1)]
    constructor
    · rintro ⟨h1, h2⟩ i h3 h4 h5 h6
      by_cases e : i = k
      · subst e
        simpa [h5, h6] using h1
      · exact h2 i (by omega) (by omega) h5 h6
    · intro hq
      refine ⟨?_, fun i h3 h4 h5 h6 => hq i (by omega) (by omega) h5 h6⟩
      by_cases e : bt r k = true ∧ aw k = h
      · simp [hq k (Nat.le_refl k) (by omega) e.1 e.2]
      · cases e1 : bt r k with
        | false => simp
        | true =>
          have : ¬ aw k = h := fun q => e ⟨e1, q⟩
          simp [this]
/-- the bits that letters leave -/
theorem llv_iff (hs ns : Nat → Int32) (h : Int32) {v : Nat} (hv : v < 32) : ∀ (L : Nat), (∀ i, i < L → ∃ w, w < 32 ∧ ns i = nI w) → (bt (llv hs ns h L) v = true ↔ ∀ i, i < L → hs i = h → ns i = nI v)
  | 0, _ => ⟨fun _ i h1 => absurd h1 (Nat.not_lt_zero i), fun _ => b_m1 v hv⟩
  | L + 1, hn => by
    have ih := llv_iff hs ns h hv L (fun i hi => hn i (by omega))
    rw [llv]
    by_cases e : hs L = h
    · rw [if_pos e, b_and, Bool.and_eq_true, ih]
      obtain ⟨w, hw, hw2⟩ := hn L (by omega)
      rw [hw2, b_sh1 hw hv, decide_eq_true_eq]
      constructor
      · rintro ⟨h1, h2⟩ i h3 h4
        by_cases q : i = L
        · subst q; rw [hw2, h2]
        · exact h1 i (by omega) h4
      · intro h1
        refine ⟨fun i h3 h4 => h1 i (by omega) h4, ?_⟩
        have := h1 L (by omega) e
        rw [hw2] at this
        exact ((nI_eq (by omega) (by omega)).mp this).symm
    · rw [if_neg e, ih]
      constructor
      · intro h1 i h3 h4
        by_cases q : i = L
        · subst q; exact absurd h4 e
        · exact h1 i (by omega) h4
      · intro h1 i h3 h4
        exact h1 i (by omega) h4
/-- the bits of what is asked with house w -/
theorem askR_bit (r : Int32) (lk : Nat → Nat) (A0 : Nat → Int32) {w k : Nat} (hA : A0 w = nI 0) (hk : k < 32) : ∀ (i : Nat), i ≤ 32 → bt (askR r lk A0 i w) k = (decide (k < i) && (bt r k && decide (awS (lk k) k = w)))
  | 0, _ => by rw [askR, hA]; simp [show bt (nI 0) k = false from b_0 k]
  | i + 1, hi => by
    have ih := askR_bit r lk A0 hA hk i (by omega)
    rw [askR]
    cases hb : bt r i with
    | false =>
      rw [if_neg (by decide), ih]
      by_cases e : k = i
      · subst e; simp [hb]
      · by_cases l : k < i
        · simp [l, show k < i + 1 by omega]
        · simp [l, show ¬ k < i + 1 by omega]
    | true =>
      rw [if_pos rfl]
      by_cases ew : w = awS (lk i) i
      · rw [am_up_e _ _ ew, b_or, ← ew, ih, b_sh1 (by omega) hk]
        by_cases e : k = i
        · subst e; simp [hb, ew]
        · by_cases l : k < i
          · simp [l, e, show k < i + 1 by omega]
          · simp [l, e, show ¬ k < i + 1 by omega]
      · rw [am_up_n _ _ ew, ih]
        by_cases e : k = i
        · subst e; simp [show ¬ awS (lk k) k = w from fun q => ew q.symm]
        · by_cases l : k < i
          · simp [l, show k < i + 1 by omega]
          · simp [l, show ¬ k < i + 1 by omega]
theorem alwR_at (f B0 : Nat → Int32) {j : Nat} : ∀ {i : Nat}, j < i → alwR f B0 i j = f j
  | 0, h => absurd h (Nat.not_lt_zero j)
  | i + 1, h => by
    rw [alwR]
    by_cases e : j = i
    · subst e; rw [am_up_s]
    · rw [am_up_n _ _ e]; exact alwR_at f B0 (by omega)
