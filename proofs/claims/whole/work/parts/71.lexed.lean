/-! WHAT A TEXT IS CUT INTO -/
def atX (X : Nat → Int32) (p : Nat) (w : List Int32) : Prop := ∀ j, j < w.length → X (p + j) = w.getD j 0
theorem atX_l {X : Nat → Int32} {p : Nat} {u v : List Int32} (h : atX X p (u ++ v)) : atX X p u := fun j hj => by
  rw [h j (by simp; omega)]
  simp [List.getD, List.getElem?_append_left hj]
theorem atX_r {X : Nat → Int32} {p : Nat} {u v : List Int32} (h : atX X p (u ++ v)) : atX X (p + u.length) v := fun j hj => by
  have := h (u.length + j) (by simp; omega)
  rw [Nat.add_assoc, this]
  simp [List.getD, List.getElem?_append_right]
theorem atX_0 {X : Nat → Int32} {p : Nat} {c : Int32} {v : List Int32} (h : atX X p (c :: v)) : X p = c := by
  have := h 0 (by simp)
  simpa using this
theorem lexF_fuel (X : Nat → Int32) (len : Nat) : ∀ (k1 k2 b : Nat), len ≤ b + k1 → len ≤ b + k2 → lexF X len k1 b = lexF X len k2 b
  | 0, 0, b, _, _ => rfl
  | 0, k2 + 1, b, h1, _ => by
    show [] = _
    unfold lexF
    rw [if_neg (by omega)]
  | k1 + 1, 0, b, _, h2 => by
    show _ = []
    unfold lexF
    rw [if_neg (by omega)]
  | k1 + 1, k2 + 1, b, h1, h2 => by
    unfold lexF
    by_cases c0 : b < len
    · rw [if_pos c0, if_pos c0]
      have hk : len - b = (len - b - 1) + 1 := by omega
      by_cases c1 : isL (X b) = true
      · rw [if_pos c1, if_pos c1]
        have e := runE_gt isL X (len - b - 1) b c1
        rw [← hk] at e
        rw [lexF_fuel X len k1 k2 _ (by omega) (by omega)]
      · rw [if_neg c1, if_neg c1]
        by_cases c2 : isD (X b) = true
        · rw [if_pos c2, if_pos c2]
          have e := runE_gt isD X (len - b - 1) b c2
          rw [← hk] at e
          rw [lexF_fuel X len k1 k2 _ (by omega) (by omega)]
        · rw [if_neg c2, if_neg c2, lexF_fuel X len k1 k2 (b + 1) (by omega) (by omega)]
    · rw [if_neg c0, if_neg c0]
def lx (X : Nat → Int32) (len b : Nat) : List Tok := lexF X len (len - b) b
theorem lx_end {X : Nat → Int32} {len b : Nat} (h : len ≤ b) : lx X len b = [] := by unfold lx; rw [show len - b = 0 by omega]; rfl
theorem lx_go {X : Nat → Int32} {len b : Nat} (h : b < len) : lx X len b = if isL (X b) = true then (kow X b (runE isL X (len - b) b), b, runE isL X (len - b) b) :: lx X len (runE isL X (len - b) b) else if isD (X b) = true then (nI 2, b, runE isD X (len - b) b) :: lx X len (runE isD X (len - b) b) else if X b = nI 32 ∨ X b = nI 10 then lx X len (b + 1) else (if isG (X b) = true then X b else nI 1, b, b + 1) :: lx X len (b + 1) := by
  unfold lx
  have hk : len - b = (len - b - 1) + 1 := by omega
  rw [show lexF X len (len - b) b = lexF X len ((len - b - 1) + 1) b by rw [← hk]]
  conv => lhs; unfold lexF
  rw [if_pos h]
  by_cases c1 : isL (X b) = true
  · rw [if_pos c1, if_pos c1]
    have e := runE_gt isL X (len - b - 1) b c1
    rw [← hk] at e
    rw [lexF_fuel X len _ (len - runE isL X (len - b) b) _ (by omega) (by omega)]
  · rw [if_neg c1, if_neg c1]
    by_cases c2 : isD (X b) = true
    · rw [if_pos c2, if_pos c2]
      have e := runE_gt isD X (len - b - 1) b c2
      rw [← hk] at e
      rw [lexF_fuel X len _ (len - runE isD X (len - b) b) _ (by omega) (by omega)]
    · rw [if_neg c2, if_neg c2, lexF_fuel X len _ (len - (b + 1)) (b + 1) (by omega) (by omega)]
theorem runE_at (p : Int32 → Bool) (X : Nat → Int32) (len : Nat) : ∀ (n b : Nat), (∀ j, j < n → p (X (b + j)) = true) → (b + n = len ∨ p (X (b + n)) = false) → b + n ≤ len → runE p X (len - b) b = b + n
  | 0, b, _, h2, h3 => by
    cases hk : len - b with
    | zero => rfl
    | succ k =>
      rcases h2 with h2 | h2
      · omega
      · unfold runE
        rw [if_neg (by rw [show X b = X (b + 0) from rfl, h2]; decide)]
        rfl
  | n + 1, b, h1, h2, h3 => by
    have hk : len - b = (len - (b + 1)) + 1 := by omega
    rw [hk]
    unfold runE
    rw [if_pos (show p (X b) = true from h1 0 (by omega)), runE_at p X len n (b + 1) (fun j hj => by rw [show b + 1 + j = b + (j + 1) by omega]; exact h1 (j + 1) (by omega)) (by rw [show b + 1 + n = b + (n + 1) by omega]; exact h2) (by omega)]
    omega
theorem splF_at (X : Nat → Int32) (w v b N : Nat) (h : ∀ i, i < N → X (b + i) = sC w i) : ∀ (k j : Nat), j + k ≤ N → splF X v b k j = splF (sC w) v 0 k j
  | 0, j, _ => rfl
  | k + 1, j, hj => by
    unfold splF
    rw [h j (by omega), Nat.zero_add, splF_at X w v b N h k (j + 1) (by omega)]
def kwG (w : Nat) : List (Nat × Nat) → Int32
  | [] => nI 128
  | (v, k) :: t => if (decide (sN w = sN v) && splF (sC w) v 0 (sN v) 0) = true then nI k else kwG w t
theorem kw_at (X : Nat → Int32) (w b : Nat) (h : ∀ i, i < sN w → X (b + i) = sC w i) : ∀ (L : List (Nat × Nat)), kwF X b (b + sN w) L = kwG w L
  | [] => rfl
  | (v, k) :: t => by
    unfold kwF kwG spl
    rw [kw_at X w b h t, Nat.add_sub_cancel_left]
    by_cases c : sN w = sN v
    · rw [splF_at X w v b (sN w) h (sN v) 0 (by omega)]
    · simp [c]
theorem kwG_val : ∀ w, w < 13 → kwG w kwL = nI (129 + w) := by decide +kernel
theorem sC_let : ∀ w, w < 13 → ∀ j, j < sN w → isL (sC w j) = true := by decide +kernel
theorem sN_pos : ∀ w, w < 13 → 0 < sN w := by decide +kernel
theorem atX_sC {X : Nat → Int32} {b w : Nat} (hw : w < 21) (h : atX X b (sB.getD w [])) : ∀ i, i < sN w → X (b + i) = sC w i := fun i hi => h i (by rw [sN_len w hw]; exact hi)
theorem lx_word {X : Nat → Int32} {len b : Nat} (w : Nat) (hw : w < 13) (h : atX X b (sB.getD w [])) (hl : b + sN w ≤ len) (hn : b + sN w = len ∨ isL (X (b + sN w)) = false) : lx X len b = (nI (129 + w), b, b + sN w) :: lx X len (b + sN w) := by
  have h1 := atX_sC (by omega) h
  have hp := sN_pos w hw
  have hr := runE_at isL X len (sN w) b (fun j hj => by rw [h1 j hj]; exact sC_let w hw j hj) hn hl
  rw [lx_go (by omega), if_pos (by rw [show X b = X (b + 0) from rfl, h1 0 hp]; exact sC_let w hw 0 hp), hr]
  unfold kow
  rw [kw_at X w b h1, kwG_val w hw]
theorem dig_k : ∀ k, k < 10 → isD (nI (48 + k)) = true ∧ isL (nI (48 + k)) = false := by decide +kernel
theorem dg_dig {k : Nat} (hk : k < 100) : ∀ j, j < (dg k).length → isD ((dg k).getD j 0) = true ∧ isL ((dg k).getD j 0) = false := by
  intro j hj
  unfold dg at hj ⊢
  split at hj
  · rename_i h9
    rw [if_pos h9]
    match j, hj with
    | 0, _ => exact dig_k _ (by omega)
    | 1, _ => exact dig_k _ (by omega)
  · rename_i h9
    rw [if_neg h9]
    match j, hj with
    | 0, _ => exact dig_k _ (by omega)
theorem dg_pos (k : Nat) : 0 < (dg k).length := by unfold dg; split <;> simp
theorem lx_num {X : Nat → Int32} {len b k : Nat} (hk : k < 100) (h : atX X b (dg k)) (hl : b + (dg k).length ≤ len) (hn : b + (dg k).length = len ∨ isD (X (b + (dg k).length)) = false) : lx X len b = (nI 2, b, b + (dg k).length) :: lx X len (b + (dg k).length) := by
  have hp := dg_pos k
  have hr := runE_at isD X len (dg k).length b (fun j hj => by rw [h j hj]; exact (dg_dig hk j hj).1) hn hl
  have h0 : X b = (dg k).getD 0 0 := h 0 hp
  rw [lx_go (by omega), if_neg (by rw [h0, (dg_dig hk 0 hp).2]; decide), if_pos (by rw [h0]; exact (dg_dig hk 0 hp).1), hr]
theorem sign_k : ∀ c, c = 59 ∨ c = 61 ∨ c = 43 → isL (nI c) = false ∧ isD (nI c) = false ∧ ¬ (nI c = nI 32 ∨ nI c = nI 10) ∧ isG (nI c) = true := by
  intro c h
  rcases h with rfl | rfl | rfl <;> decide +kernel
theorem lx_sign {X : Nat → Int32} {len b : Nat} (c : Nat) (hc : c = 59 ∨ c = 61 ∨ c = 43) (h : X b = nI c) (hl : b < len) : lx X len b = (nI c, b, b + 1) :: lx X len (b + 1) := by
  obtain ⟨c1, c2, c3, c4⟩ := sign_k c hc
  rw [lx_go hl, h, if_neg (by rw [c1]; decide), if_neg (by rw [c2]; decide), if_neg c3, if_pos c4]
theorem lx_blank {X : Nat → Int32} {len b : Nat} (h : X b = nI 32) (hl : b < len) : lx X len b = lx X len (b + 1) := by
  rw [lx_go hl, h, if_neg (by decide), if_neg (by decide), if_pos (Or.inl rfl)]
theorem nv_dg {X : Nat → Int32} {b k : Nat} (hk : k < 100) (h : atX X b (dg k)) : nv X b (dg k).length = nI k := by
  unfold dg at h ⊢
  split at h
  · rename_i h9
    rw [if_pos h9]
    have e0 : X (b + 0) = nI (48 + k / 10) := h 0 (by simp)
    have e1 : X (b + 1) = nI (48 + k % 10) := h 1 (by simp)
    show nI 10 * (nI 10 * nI 0 + X (b + 0) - nI 48) + X (b + 1) - nI 48 = nI k
    rw [e0, e1, pk_mul, nI_add, pk_sub (by omega), pk_mul, nI_add, pk_sub (by omega)]
    congr 1
    omega
  · rename_i h9
    rw [if_neg h9]
    have e0 : X (b + 0) = nI (48 + k % 10) := h 0 (by simp)
    show nI 10 * nI 0 + X (b + 0) - nI 48 = nI k
    rw [e0, pk_mul, nI_add, pk_sub (by omega)]
    congr 1
    omega
theorem tks_lx (X : Nat → Int32) (len : Nat) (h : len ≤ 500) : tks X len = lx X len 0 ++ [(nI 0, len, len)] := by
  unfold tks lx
  rw [lexF_fuel X len 500 (len - 0) 0 (by omega) (by omega)]
