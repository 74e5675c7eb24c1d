/-! STREET: tokens as the text is cut -/
def blk (x : Int32) : Prop := x = nI 32 ∨ x = nI 10
/-- a token in its place -/
def tkS (X : Nat → Int32) (len : Nat) (t : Tok) : Prop := t.2.1 < t.2.2 ∧ t.2.2 ≤ len ∧ ((t.1 = kow X t.2.1 t.2.2 ∧ (∀ j, t.2.1 ≤ j → j < t.2.2 → isL (X j) = true) ∧ (t.2.2 = len ∨ isL (X t.2.2) = false)) ∨ (t.1 = nI 2 ∧ (∀ j, t.2.1 ≤ j → j < t.2.2 → isD (X j) = true) ∧ (t.2.2 = len ∨ isD (X t.2.2) = false)) ∨ (t.2.2 = t.2.1 + 1 ∧ ((isG (X t.2.1) = true ∧ t.1 = X t.2.1) ∨ t.1 = nI 1)))
theorem lx_nx {X : Nat → Int32} {len : Nat} : ∀ (c b : Nat), b + c = len → (lx X len b = [] ∧ ∀ p, b ≤ p → p < len → blk (X p)) ∨ ∃ t, lx X len b = t :: lx X len t.2.2 ∧ tkS X len t ∧ b ≤ t.2.1 ∧ ∀ p, b ≤ p → p < t.2.1 → blk (X p)
  | 0, b, hc => Or.inl ⟨lx_end (by omega), fun p h1 h2 => by omega⟩
  | c + 1, b, hc => by
    have hb : b < len := by omega
    rw [lx_go hb]
    have hk : len - b = (len - b - 1) + 1 := by omega
    by_cases c1 : isL (X b) = true
    · rw [if_pos c1]
      have h1 := runE_spec isL X (len - b) b
      have h2 := runE_le isL X (len - b) b
      have h3 := runE_gt isL X (len - b - 1) b c1
      rw [← hk] at h3
      exact Or.inr ⟨_, rfl, ⟨by show b < runE isL X (len - b) b; omega, by show runE isL X (len - b) b ≤ len; omega, Or.inl ⟨rfl, h1.1, h1.2.imp (fun a => by show runE isL X (len - b) b = len; omega) id⟩⟩, Nat.le_refl b, fun p p1 p2 => by have p2 : p < b := p2; omega⟩
    · rw [if_neg c1]
      by_cases c2 : isD (X b) = true
      · rw [if_pos c2]
        have h1 := runE_spec isD X (len - b) b
        have h2 := runE_le isD X (len - b) b
        have h3 := runE_gt isD X (len - b - 1) b c2
        rw [← hk] at h3
        exact Or.inr ⟨_, rfl, ⟨by show b < runE isD X (len - b) b; omega, by show runE isD X (len - b) b ≤ len; omega, Or.inr (Or.inl ⟨rfl, h1.1, h1.2.imp (fun a => by show runE isD X (len - b) b = len; omega) id⟩)⟩, Nat.le_refl b, fun p p1 p2 => by have p2 : p < b := p2; omega⟩
      · rw [if_neg c2]
        by_cases c3 : X b = nI 32 ∨ X b = nI 10
        · rw [if_pos c3]
          rcases lx_nx (X := X) (len := len) c (b + 1) (by omega) with ⟨h1, h2⟩ | ⟨t, h1, h2, h3, h4⟩
          · refine Or.inl ⟨h1, fun p p1 p2 => ?_⟩
            by_cases q : p = b
            · rw [q]; exact c3
            · exact h2 p (by omega) p2
          · refine Or.inr ⟨t, h1, h2, by omega, fun p p1 p2 => ?_⟩
            by_cases q : p = b
            · rw [q]; exact c3
            · exact h4 p (by omega) p2
        · rw [if_neg c3]
          refine Or.inr ⟨_, rfl, ⟨by show b < b + 1; omega, by show b + 1 ≤ len; omega, Or.inr (Or.inr ⟨rfl, ?_⟩)⟩, Nat.le_refl b, fun p p1 p2 => by have p2 : p < b := p2; omega⟩
          by_cases c4 : isG (X b) = true
          · exact Or.inl ⟨c4, if_pos c4⟩
          · exact Or.inr (if_neg c4)
/-- what follows the i-th token -/
theorem lx_at {X : Nat → Int32} {len : Nat} : ∀ (i b : Nat), b ≤ len → i < (lx X len b).length → tkS X len ((lx X len b).getD i (0, 0, 0)) ∧ lx X len ((lx X len b).getD i (0, 0, 0)).2.2 = (lx X len b).drop (i + 1)
  | 0, b, hb, hi => by
    rcases lx_nx (X := X) (len := len) (len - b) b (by omega) with ⟨h1, -⟩ | ⟨t, h1, h2, -, -⟩
    · rw [h1] at hi; exact absurd hi (Nat.lt_irrefl 0)
    · rw [h1]
      exact ⟨h2, rfl⟩
  | i + 1, b, hb, hi => by
    rcases lx_nx (X := X) (len := len) (len - b) b (by omega) with ⟨h1, -⟩ | ⟨t, h1, h2, -, -⟩
    · rw [h1] at hi; exact absurd hi (Nat.not_lt_zero _)
    · rw [h1] at hi ⊢
      have ih := lx_at (X := X) (len := len) i t.2.2 h2.2.1 (by simp only [List.length_cons] at hi; omega)
      exact ih
theorem tks_lx2 {X : Nat → Int32} {len : Nat} (hl : len ≤ 500) : tks X len = lx X len 0 ++ [(nI 0, len, len)] := by
  unfold tks lx
  rw [lexF_fuel X len 500 (len - 0) 0 (by omega) (by omega)]
theorem tk_in {X : Nat → Int32} {len i : Nat} (hl : len ≤ 500) (hi : i < (lx X len 0).length) : tkAt (tkT len X) i = (lx X len 0).getD i (0, 0, 0) := by
  show ((tks X len).getD i (0, 0, 0)) = _
  rw [tks_lx2 hl, List.getD_eq_getElem?_getD, List.getD_eq_getElem?_getD, List.getElem?_append_left hi]
theorem tk_end {X : Nat → Int32} {len i : Nat} (hl : len ≤ 500) (hi : i = (lx X len 0).length) : tkAt (tkT len X) i = (nI 0, len, len) := by
  show ((tks X len).getD i (0, 0, 0)) = _
  rw [tks_lx2 hl, List.getD_eq_getElem?_getD, List.getElem?_append_right (by omega), hi, Nat.sub_self]
  rfl
theorem tk_n {X : Nat → Int32} {len : Nat} (hl : len ≤ 500) : (tkT len X).2.1 = (lx X len 0).length + 1 := by
  show (tks X len).length = _
  rw [tks_lx2 hl, List.length_append]
  rfl
theorem nv_dig {X : Nat → Int32} {b : Nat} : ∀ (k : Nat), k ≤ 4 → (∀ j, b ≤ j → j < b + k → isD (X j) = true) → ∃ v, v < 10 ^ k ∧ nv X b k = nI v
  | 0, _, _ => ⟨0, by decide, rfl⟩
  | k + 1, hk, h => by
    obtain ⟨v, h1, h2⟩ := nv_dig k (by omega) (fun j j1 j2 => h j j1 (by omega))
    have hd := h (b + k) (by omega) (by omega)
    unfold isD at hd
    rw [Bool.and_eq_true, Bool.not_eq_true', Bool.not_eq_true', decide_eq_false_iff_not, decide_eq_false_iff_not] at hd
    have hx := nO_le (v := X (b + k)) (K := 57) (by decide) (fun q => hd.1 (Int32.lt_trans q (by decide))) hd.2
    have h48 : 48 ≤ nO (X (b + k)) := by
      have h3 := hd.1
      rw [hx.2, nI_ltI (by omega) (by decide)] at h3
      omega
    refine ⟨10 * v + (nO (X (b + k)) - 48), by rw [Nat.pow_succ]; omega, ?_⟩
    show nI 10 * nv X b k + X (b + k) - nI 48 = _
    rw [h2, hx.2, pk_mul, nI_add, pk_sub (by omega), ← hx.2, show 10 * v + nO (X (b + k)) - 48 = 10 * v + (nO (X (b + k)) - 48) by omega]
theorem isG_n2 {x : Int32} (h : isG x = true) : ¬ x = nI 2 ∧ ¬ x = nI 0 := by
  constructor <;> intro q <;> rw [q] at h <;> exact absurd h (by decide)
theorem tkA_of {X : Nat → Int32} {len : Nat} (hl : len ≤ 500) : tkA (tkT len X) := by
  have hn := tk_n (X := X) hl
  have hL : (lx X len 0).length ≤ len := by unfold lx; exact lexF_len X len (len - 0) 0
  have hw : ∀ i, (tkT len X).2.1 ≤ i + 1 → tkK (tkT len X) i = nI 0 := by
    intro i hi
    by_cases q : i = (lx X len 0).length
    · show (tkAt (tkT len X) i).1 = nI 0
      rw [tk_end hl q]
    · show ((tks X len).getD i (0, 0, 0)).1 = nI 0
      rw [List.getD_eq_getElem?_getD, List.getElem?_eq_none (by rw [tks_lx2 hl, List.length_append]; show _ + 1 ≤ i; omega)]
      rfl
  refine ⟨⟨⟨by rw [hn]; omega, hw⟩, fun i hi => ?_, fun i hk h4 => ?_⟩, fun i hi => ?_, fun i hi => ?_⟩
  · exact Nat.lt_of_not_le (fun q => hi (hw i q))
  · by_cases q : i < (lx X len 0).length
    · have hs := (lx_at i 0 (Nat.zero_le _) q).1
      rw [← tk_in hl q] at hs
      obtain ⟨g1, g2, g3⟩ := hs
      have hk : (tkAt (tkT len X) i).1 = nI 2 := hk
      rcases g3 with ⟨a, -, -⟩ | ⟨-, a, -⟩ | ⟨-, ⟨a, b⟩ | a⟩
      · exfalso
        rw [hk] at a
        have := (kow_ge X (tkAt (tkT len X) i).2.1 (tkAt (tkT len X) i).2.2).1
        rw [← a] at this
        exact this (by decide)
      · have h4 : (tkAt (tkT len X) i).2.2 - (tkAt (tkT len X) i).2.1 ≤ 4 := h4
        obtain ⟨v, v1, v2⟩ := nv_dig (X := X) (b := (tkAt (tkT len X) i).2.1) ((tkAt (tkT len X) i).2.2 - (tkAt (tkT len X) i).2.1) h4 (fun j j1 j2 => a j j1 (by omega))
        have hv : tkV (tkT len X) i = nI v := v2
        have : v < 10000 := Nat.lt_of_lt_of_le v1 (Nat.pow_le_pow_right (by decide) h4)
        rw [hv]
        exact ⟨nI_pos (by omega), fun z => absurd ((nI_ltI (by decide) (by omega)).mp z) (by omega)⟩
      · rw [hk] at b
        exact absurd b.symm (isG_n2 a).1
      · rw [hk] at a
        exact absurd a (by decide)
    · exfalso
      have := hw i (by omega)
      rw [this] at hk
      exact absurd hk (by decide)
  · have q : i < (lx X len 0).length := by omega
    have hs := (lx_at i 0 (Nat.zero_le _) q).2
    show nxT X len (tkAt (tkT len X) i).2.2 = _
    rw [tk_in hl q]
    unfold nxT
    rw [hs]
    by_cases r : i + 1 < (lx X len 0).length
    · rw [tk_in hl r, List.drop_eq_getElem_cons r, List.headD_cons, List.getD_eq_getElem?_getD, List.getElem?_eq_getElem r]
      rfl
    · rw [tk_end hl (by omega), List.drop_eq_nil_of_le (by omega)]
      rfl
  · by_cases q : i < (lx X len 0).length
    · have hs := (lx_at i 0 (Nat.zero_le _) q).1
      rw [← tk_in hl q] at hs
      exact hs.2.1
    · show (tkAt (tkT len X) i).2.2 ≤ len
      rw [tk_end hl (by omega)]
      exact Nat.le_refl _
theorem tk_first {X : Nat → Int32} {len : Nat} (hl : len ≤ 500) : nxT X len 0 = tkAt (tkT len X) 0 := by
  unfold nxT
  cases h : lx X len 0 with
  | nil => rw [tk_end hl (by rw [h]; rfl)]; rfl
  | cons t r => rw [tk_in hl (by rw [h]; exact Nat.succ_pos _), h]; rfl
/-- between tokens there are blanks alone -/
theorem tk_gap {X : Nat → Int32} {len i : Nat} (hl : len ≤ 500) (hi : i < (lx X len 0).length) : (tkAt (tkT len X) i).2.2 ≤ (tkAt (tkT len X) (i + 1)).2.1 ∧ ∀ p, (tkAt (tkT len X) i).2.2 ≤ p → p < (tkAt (tkT len X) (i + 1)).2.1 → blk (X p) := by
  have hs := lx_at i 0 (Nat.zero_le _) hi
  rw [← tk_in hl hi] at hs
  have he := hs.1.2.1
  rcases lx_nx (X := X) (len := len) (len - (tkAt (tkT len X) i).2.2) (tkAt (tkT len X) i).2.2 (by omega) with ⟨h1, h2⟩ | ⟨t, h1, h2, h3, h4⟩
  · rw [h1] at hs
    have hlen := congrArg List.length hs.2
    rw [List.length_nil, List.length_drop] at hlen
    rw [tk_end hl (show i + 1 = (lx X len 0).length by omega)]
    exact ⟨he, h2⟩
  · rw [hs.2] at h1
    have hlen := congrArg List.length h1
    rw [List.length_drop, List.length_cons] at hlen
    have r : i + 1 < (lx X len 0).length := by omega
    rw [List.drop_eq_getElem_cons r] at h1
    have e : (lx X len 0)[i + 1] = t := (List.cons.inj h1).1
    have e2 : tkAt (tkT len X) (i + 1) = t := by rw [tk_in hl r, List.getD_eq_getElem?_getD, List.getElem?_eq_getElem r]; exact e
    rw [e2]
    exact ⟨h3, h4⟩
