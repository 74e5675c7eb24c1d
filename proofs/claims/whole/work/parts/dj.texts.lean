/-! STREET: the text of a riddle, as the class puts it together and as the reference writes it -/
def tbs (X : Nat → Int32) (b : Nat) : Nat → List Int32
  | 0 => []
  | n + 1 => X b :: tbs X (b + 1) n
theorem tbs_len (X : Nat → Int32) : ∀ (n b : Nat), (tbs X b n).length = n
  | 0, _ => rfl
  | n + 1, b => by show (tbs X (b + 1) n).length + 1 = n + 1; rw [tbs_len X n]
theorem tbs_at (X : Nat → Int32) : ∀ (n b j : Nat), j < n → (tbs X b n).getD j 0 = X (b + j)
  | n + 1, b, 0, _ => rfl
  | n + 1, b, j + 1, h => by
    show (tbs X (b + 1) n).getD j 0 = _
    rw [tbs_at X n (b + 1) j (by omega), show b + 1 + j = b + (j + 1) by omega]
/-- the last byte; a blank where there is none -/
def lstB (acc : List Int32) : Int32 := acc.getLast?.getD (nI 32)
/-- a token more -/
def apT (acc ws : List Int32) : List Int32 := acc ++ (if (!acc.isEmpty && (wdl (ws.headD 0) && wdl (lstB acc))) = true then [nI 32] else []) ++ ws
def txA (T : RT) (i0 : Nat) : Nat → List Int32
  | 0 => []
  | n + 1 => apT (txA T i0 n) (tbs T.2.2.2.2.2 (T.2.2.2.1 (i0 + n)) (tkL T (i0 + n)))
theorem wdl_32 : wdl (nI 32) = false := by decide
theorem lstB_app {a : List Int32} {X : Nat → Int32} {b n : Nat} (hn : 0 < n) : lstB (a ++ tbs X b n) = X (b + n - 1) := by
  have key : ∀ (n b : Nat), (tbs X b (n + 1)).getLast? = some (X (b + n)) := by
    intro n
    induction n with
    | zero => intro b; rfl
    | succ n ih =>
      intro b
      show (X b :: tbs X (b + 1) (n + 1)).getLast? = _
      rw [List.getLast?_cons, ih (b + 1), show b + 1 + n = b + (n + 1) by omega]
      rfl
  unfold lstB
  rw [List.getLast?_append, show n = (n - 1) + 1 by omega, key (n - 1) b, show b + (n - 1 + 1) - 1 = b + (n - 1) by omega]
  rfl
/-- one byte that is no blank -/
theorem wrT_c {X : Nat → Int32} {k p : Nat} {la : Int32} {ap : Bool} (h : ¬ (X p = nI 32 ∨ X p = nI 10)) : wrT X (k + 1) p la ap = (if ((ap || (isL (X p) != isL la)) && (wdl (X p) && wdl la)) = true then [nI 32] else []) ++ X p :: wrT X k (p + 1) (X p) false := by
  conv => lhs; unfold wrT
  rw [if_neg h]
theorem wrT_b {X : Nat → Int32} {k p : Nat} {la : Int32} {ap : Bool} (h : X p = nI 32 ∨ X p = nI 10) : wrT X (k + 1) p la ap = wrT X k (p + 1) la true := by
  conv => lhs; unfold wrT
  rw [if_pos h]
/-- a run of bytes of one kind -/
theorem wrT_run {X : Nat → Int32} (v : Bool) : ∀ (n k p : Nat) (la : Int32), (∀ j, p ≤ j → j < p + n → isL (X j) = v ∧ ¬ (X j = nI 32 ∨ X j = nI 10)) → isL la = v → wrT X (n + k) p la false = tbs X p n ++ wrT X k (p + n) (if n = 0 then la else X (p + n - 1)) false
  | 0, k, p, la, _, _ => by rw [Nat.zero_add]; rfl
  | n + 1, k, p, la, h, hl => by
    have h0 := h p (Nat.le_refl p) (by omega)
    rw [show n + 1 + k = (n + k) + 1 by omega, wrT_c h0.2, h0.1, hl, if_neg (by cases v <;> simp), List.nil_append, wrT_run v n k (p + 1) (X p) (fun j j1 j2 => h j (by omega) (by omega)) h0.1, if_neg (show ¬ n + 1 = 0 by omega), show p + 1 + n = p + (n + 1) by omega]
    show X p :: (tbs X (p + 1) n ++ _) = X p :: tbs X (p + 1) n ++ _
    by_cases q : n = 0
    · subst q
      rfl
    · rw [if_neg q, show p + (n + 1) - 1 = p + (n + 1) - 1 from rfl]
      rfl
theorem wrT_blk {X : Nat → Int32} : ∀ (g k p : Nat) (la : Int32) (ap : Bool), (∀ j, p ≤ j → j < p + g → blk (X j)) → wrT X (g + k) p la ap = wrT X k (p + g) la (ap || decide (0 < g))
  | 0, k, p, la, ap, _ => by rw [Nat.zero_add, decide_eq_false (Nat.lt_irrefl 0), Bool.or_false]; rfl
  | g + 1, k, p, la, ap, h => by
    rw [show g + 1 + k = (g + k) + 1 by omega, wrT_b (h p (Nat.le_refl p) (by omega)), wrT_blk g k (p + 1) la true (fun j j1 j2 => h j (by omega) (by omega)), decide_eq_true (Nat.succ_pos g), Bool.or_true, Bool.true_or, show p + 1 + g = p + (g + 1) by omega]
theorem isL_nb {x : Int32} (h : isL x = true) : ¬ (x = nI 32 ∨ x = nI 10) := fun q => by rcases q with q | q <;> rw [q] at h <;> exact absurd h (by decide)
theorem isD_nb {x : Int32} (h : isD x = true) : ¬ (x = nI 32 ∨ x = nI 10) ∧ isL x = false := by
  refine ⟨fun q => by rcases q with q | q <;> rw [q] at h <;> exact absurd h (by decide), ?_⟩
  unfold isD at h
  unfold isL
  rw [Bool.and_eq_true, Bool.not_eq_true', Bool.not_eq_true', decide_eq_false_iff_not, decide_eq_false_iff_not] at h
  rw [decide_eq_true (Int32.lt_of_le_of_lt (Int32.not_lt.mp h.2) (by decide))]
  rfl
theorem isG_nb {x : Int32} (h : isG x = true) : ¬ (x = nI 32 ∨ x = nI 10) ∧ wdl x = false := by
  unfold isG at h
  simp only [Bool.or_eq_true, decide_eq_true_eq] at h
  rcases h with ((((((((h | h) | h) | h) | h) | h) | h) | h) | h) <;> rw [h] <;> decide
/-- a whole token -/
theorem wrT_tok {X : Nat → Int32} {len k : Nat} {t : Tok} {la : Int32} {ap : Bool} (hs : tkS X len t) (h1 : ¬ t.1 = nI 1) : wrT X (t.2.2 - t.2.1 + k) t.2.1 la ap = (if ((ap || (isL (X t.2.1) != isL la)) && (wdl (X t.2.1) && wdl la)) = true then [nI 32] else []) ++ tbs X t.2.1 (t.2.2 - t.2.1) ++ wrT X k t.2.2 (X (t.2.2 - 1)) false := by
  obtain ⟨kd, b, e⟩ := t
  obtain ⟨g1, g2, g3⟩ := hs
  have g1 : b < e := g1
  have g2 : e ≤ len := g2
  have h1 : ¬ kd = nI 1 := h1
  show wrT X (e - b + k) b la ap = _ ++ tbs X b (e - b) ++ wrT X k e (X (e - 1)) false
  have key : ∀ v : Bool, (∀ j, b ≤ j → j < e → isL (X j) = v ∧ ¬ (X j = nI 32 ∨ X j = nI 10)) → wrT X (e - b + k) b la ap = (if ((ap || (isL (X b) != isL la)) && (wdl (X b) && wdl la)) = true then [nI 32] else []) ++ tbs X b (e - b) ++ wrT X k e (X (e - 1)) false := by
    intro v hv
    have h0 := hv b (Nat.le_refl b) g1
    rw [show e - b + k = ((e - b - 1) + k) + 1 by omega, wrT_c h0.2, wrT_run v (e - b - 1) k (b + 1) (X b) (fun j j1 j2 => hv j (by omega) (by omega)) h0.1, show e - b = (e - b - 1) + 1 by omega]
    show _ ++ X b :: (tbs X (b + 1) (e - b - 1 + 1 - 1) ++ _) = _ ++ (X b :: tbs X (b + 1) (e - b - 1)) ++ _
    rw [show e - b - 1 + 1 - 1 = e - b - 1 by omega, show b + 1 + (e - b - 1) = e by omega]
    have el : (if e - b - 1 = 0 then X b else X (e - 1)) = X (e - 1) := by
      by_cases q : e - b - 1 = 0
      · rw [if_pos q, show e - 1 = b by omega]
      · rw [if_neg q]
    rw [el, List.append_assoc, List.cons_append]
  rcases g3 with ⟨-, a, -⟩ | ⟨-, a, -⟩ | ⟨a, ⟨c, -⟩ | c⟩
  · exact key true (fun j j1 j2 => ⟨a j j1 j2, isL_nb (a j j1 j2)⟩)
  · exact key false (fun j j1 j2 => ⟨(isD_nb (a j j1 j2)).2, (isD_nb (a j j1 j2)).1⟩)
  · have a : e = b + 1 := a
    have c : isG (X b) = true := c
    exact key (isL (X b)) (fun j j1 j2 => by rw [show j = b by omega]; exact ⟨rfl, (isG_nb c).1⟩)
  · exact absurd c h1
/-- how it stands between tokens -/
def gapI (X : Nat → Int32) (acc : List Int32) (la : Int32) (ap : Bool) (b : Nat) : Prop := (acc = [] ∧ la = nI 32) ∨ (¬ acc = [] ∧ lstB acc = la ∧ (ap = true ∨ (isL la = true → isL (X b) = false) ∧ (isD la = true → isD (X b) = false)))
theorem gap_sp {X : Nat → Int32} {acc : List Int32} {la : Int32} {ap : Bool} {b n : Nat} (hn : 0 < n) (h : gapI X acc la ap b) : (if ((ap || (isL (X b) != isL la)) && (wdl (X b) && wdl la)) = true then [nI 32] else []) = (if (!acc.isEmpty && (wdl ((tbs X b n).headD 0) && wdl (lstB acc))) = true then [nI 32] else ([] : List Int32)) := by
  rw [show (tbs X b n).headD 0 = X b from by rw [show n = (n - 1) + 1 by omega]; rfl]
  rcases h with ⟨h1, h2⟩ | ⟨h1, h2, h3⟩
  · rw [h1, h2, wdl_32, Bool.and_false, Bool.and_false]
    rfl
  · rw [h2, show acc.isEmpty = false from by cases acc with
      | nil => exact absurd rfl h1
      | cons x t => rfl]
    rcases h3 with h3 | ⟨h3, h4⟩
    · rw [h3]
      rfl
    · by_cases w1 : wdl (X b) = true
      · by_cases w2 : wdl la = true
        · have e : (isL (X b) != isL la) = true := by
            rw [wdl_eq, Bool.or_eq_true] at w1 w2
            rcases w2 with w2 | w2
            · rw [h3 w2, w2]; rfl
            · have d := h4 w2
              rcases w1 with w1 | w1
              · rw [w1, (isD_nb w2).2]; rfl
              · rw [d] at w1; exact absurd w1 (by decide)
          rw [e, w1, w2, Bool.or_true]
          rfl
        · rw [eq_false_of_ne_true w2, Bool.and_false, Bool.and_false]
          rfl
      · rw [eq_false_of_ne_true w1, Bool.false_and, Bool.and_false]
        rfl
theorem tkS_at {X : Nat → Int32} {len i : Nat} (hl : len ≤ 500) (h0 : ¬ tkK (tkT len X) i = nI 0) : i < (lx X len 0).length ∧ tkS X len (tkAt (tkT len X) i) := by
  have hi := (tkA_of (X := X) hl).1.2.1 i h0
  rw [tk_n hl] at hi
  have q : i < (lx X len 0).length := by omega
  have hs := (lx_at i 0 (Nat.zero_le _) q).1
  rw [← tk_in hl q] at hs
  exact ⟨q, hs⟩
/-- the reference's writing of tokens, from one on -/
theorem wrT_toks {X : Nat → Int32} {len i0 : Nat} (hl : len ≤ 500) : ∀ (m n : Nat) (la : Int32) (ap : Bool), (∀ t, i0 + n ≤ t → t < i0 + n + m → tOK (tkT len X) t) → (0 < m → gapI X (txA (tkT len X) i0 n) la ap ((tkT len X).2.2.2.1 (i0 + n))) → txA (tkT len X) i0 n ++ wrT X ((tkT len X).2.2.2.1 (i0 + n + m) - (tkT len X).2.2.2.1 (i0 + n)) ((tkT len X).2.2.2.1 (i0 + n)) la ap = txA (tkT len X) i0 (n + m)
  | 0, n, la, ap, _, _ => by
    rw [show i0 + n + 0 = i0 + n from rfl, Nat.sub_self]
    show _ ++ [] = _
    rw [List.append_nil]
    rfl
  | m + 1, n, la, ap, ht, hg => by
    have hg := hg (Nat.succ_pos m)
    have ho := ht (i0 + n) (Nat.le_refl _) (by omega)
    obtain ⟨hq, hs⟩ := tkS_at hl ho.1
    have hgap := tk_gap hl hq
    have mono : ∀ c, (∀ t, i0 + n ≤ t → t < i0 + n + 1 + c → tOK (tkT len X) t) → (tkT len X).2.2.2.1 (i0 + n + 1) ≤ (tkT len X).2.2.2.1 (i0 + n + 1 + c) := by
      intro c
      induction c with
      | zero => intro _; exact Nat.le_refl _
      | succ c ih =>
        intro hc
        have h1 := ih (fun t t1 t2 => hc t t1 (by omega))
        obtain ⟨q2, s2⟩ := tkS_at hl (hc (i0 + n + 1 + c) (by omega) (by omega)).1
        have h2 := (tk_gap hl q2).1
        have h3 : (tkT len X).2.2.2.1 (i0 + n + 1 + c) < (tkAt (tkT len X) (i0 + n + 1 + c)).2.2 := s2.1
        have h2 : (tkAt (tkT len X) (i0 + n + 1 + c)).2.2 ≤ (tkT len X).2.2.2.1 (i0 + n + 1 + c + 1) := h2
        show _ ≤ (tkT len X).2.2.2.1 (i0 + n + 1 + c + 1)
        omega
    have hm := mono m (fun t t1 t2 => ht t t1 (by omega))
    have hb1 : (tkT len X).2.2.2.1 (i0 + n) < (tkT len X).2.2.2.2.1 (i0 + n) := hs.1
    have hg1 : (tkT len X).2.2.2.2.1 (i0 + n) ≤ (tkT len X).2.2.2.1 (i0 + n + 1) := hgap.1
    have hL : tkL (tkT len X) (i0 + n) = (tkT len X).2.2.2.2.1 (i0 + n) - (tkT len X).2.2.2.1 (i0 + n) := rfl
    have e1 : (tkT len X).2.2.2.1 (i0 + n + (m + 1)) - (tkT len X).2.2.2.1 (i0 + n) = ((tkT len X).2.2.2.2.1 (i0 + n) - (tkT len X).2.2.2.1 (i0 + n)) + (((tkT len X).2.2.2.1 (i0 + n + 1) - (tkT len X).2.2.2.2.1 (i0 + n)) + ((tkT len X).2.2.2.1 (i0 + n + 1 + m) - (tkT len X).2.2.2.1 (i0 + n + 1))) := by
      rw [show i0 + n + (m + 1) = i0 + n + 1 + m by omega]
      omega
    have h1 := wrT_tok (k := ((tkT len X).2.2.2.1 (i0 + n + 1) - (tkT len X).2.2.2.2.1 (i0 + n)) + ((tkT len X).2.2.2.1 (i0 + n + 1 + m) - (tkT len X).2.2.2.1 (i0 + n + 1))) (la := la) (ap := ap) hs ho.2
    have h1 : wrT X (((tkT len X).2.2.2.2.1 (i0 + n) - (tkT len X).2.2.2.1 (i0 + n)) + (((tkT len X).2.2.2.1 (i0 + n + 1) - (tkT len X).2.2.2.2.1 (i0 + n)) + ((tkT len X).2.2.2.1 (i0 + n + 1 + m) - (tkT len X).2.2.2.1 (i0 + n + 1)))) ((tkT len X).2.2.2.1 (i0 + n)) la ap = (if ((ap || (isL (X ((tkT len X).2.2.2.1 (i0 + n))) != isL la)) && (wdl (X ((tkT len X).2.2.2.1 (i0 + n))) && wdl la)) = true then [nI 32] else []) ++ tbs X ((tkT len X).2.2.2.1 (i0 + n)) ((tkT len X).2.2.2.2.1 (i0 + n) - (tkT len X).2.2.2.1 (i0 + n)) ++ wrT X (((tkT len X).2.2.2.1 (i0 + n + 1) - (tkT len X).2.2.2.2.1 (i0 + n)) + ((tkT len X).2.2.2.1 (i0 + n + 1 + m) - (tkT len X).2.2.2.1 (i0 + n + 1))) ((tkT len X).2.2.2.2.1 (i0 + n)) (X ((tkT len X).2.2.2.2.1 (i0 + n) - 1)) false := h1
    rw [e1, h1, gap_sp (n := (tkT len X).2.2.2.2.1 (i0 + n) - (tkT len X).2.2.2.1 (i0 + n)) (by omega) hg, wrT_blk _ _ ((tkT len X).2.2.2.2.1 (i0 + n)) _ _ (fun j j1 j2 => hgap.2 j j1 (by show j < (tkT len X).2.2.2.1 (i0 + n + 1); have j2 : j < (tkT len X).2.2.2.2.1 (i0 + n) + ((tkT len X).2.2.2.1 (i0 + n + 1) - (tkT len X).2.2.2.2.1 (i0 + n)) := j2; omega))]
    rw [show (tkT len X).2.2.2.2.1 (i0 + n) + ((tkT len X).2.2.2.1 (i0 + n + 1) - (tkT len X).2.2.2.2.1 (i0 + n)) = (tkT len X).2.2.2.1 (i0 + n + 1) from by omega, Bool.false_or]
    have ih := wrT_toks hl (i0 := i0) (X := X) m (n + 1) (X ((tkT len X).2.2.2.2.1 (i0 + n) - 1)) (decide (0 < (tkT len X).2.2.2.1 (i0 + n + 1) - (tkT len X).2.2.2.2.1 (i0 + n))) (fun t t1 t2 => ht t (by omega) (by omega)) ?_
    · rw [show n + 1 + m = n + (m + 1) by omega] at ih
      rw [← ih]
      show _ = apT (txA (tkT len X) i0 n) (tbs X ((tkT len X).2.2.2.1 (i0 + n)) (tkL (tkT len X) (i0 + n))) ++ _
      unfold apT
      rw [hL]
      simp only [List.append_assoc]
      rfl
    · intro hm0
      right
      refine ⟨?_, ?_, ?_⟩
      · show ¬ apT _ (tbs X ((tkT len X).2.2.2.1 (i0 + n)) (tkL (tkT len X) (i0 + n))) = []
        unfold apT
        intro q
        have q2 := (List.append_eq_nil_iff.mp q).2
        have q3 := tbs_len X (tkL (tkT len X) (i0 + n)) ((tkT len X).2.2.2.1 (i0 + n))
        rw [q2, hL] at q3
        have q3 : 0 = (tkT len X).2.2.2.2.1 (i0 + n) - (tkT len X).2.2.2.1 (i0 + n) := q3
        omega
      · show lstB (apT _ (tbs X ((tkT len X).2.2.2.1 (i0 + n)) (tkL (tkT len X) (i0 + n)))) = _
        unfold apT
        rw [lstB_app (by rw [hL]; omega), hL, show (tkT len X).2.2.2.1 (i0 + n) + ((tkT len X).2.2.2.2.1 (i0 + n) - (tkT len X).2.2.2.1 (i0 + n)) - 1 = (tkT len X).2.2.2.2.1 (i0 + n) - 1 by omega]
      · by_cases c : 0 < (tkT len X).2.2.2.1 (i0 + n + 1) - (tkT len X).2.2.2.2.1 (i0 + n)
        · exact Or.inl (decide_eq_true c)
        · right
          have he : (tkT len X).2.2.2.1 (i0 + (n + 1)) = (tkT len X).2.2.2.2.1 (i0 + n) := by
            show (tkT len X).2.2.2.1 (i0 + n + 1) = _
            omega
          have hne : ¬ (tkT len X).2.2.2.2.1 (i0 + n) = len := by
            obtain ⟨-, s2⟩ := tkS_at hl (ht (i0 + n + 1) (by omega) (by omega)).1
            have a1 : (tkT len X).2.2.2.1 (i0 + n + 1) < (tkAt (tkT len X) (i0 + n + 1)).2.2 := s2.1
            have a2 := s2.2.1
            omega
          rw [he]
          obtain ⟨g1, g2, g3⟩ := hs
          rcases g3 with ⟨-, a, b⟩ | ⟨-, a, b⟩ | ⟨a, ⟨b, -⟩ | b⟩
          · have la9 : isL (X ((tkT len X).2.2.2.2.1 (i0 + n) - 1)) = true := a _ (by show (tkT len X).2.2.2.1 (i0 + n) ≤ _; omega) (by show _ < (tkT len X).2.2.2.2.1 (i0 + n); omega)
            exact ⟨fun _ => b.resolve_left hne, fun q => by have := (isD_nb q).2; rw [la9] at this; exact absurd this (by decide)⟩
          · have la9 : isD (X ((tkT len X).2.2.2.2.1 (i0 + n) - 1)) = true := a _ (by show (tkT len X).2.2.2.1 (i0 + n) ≤ _; omega) (by show _ < (tkT len X).2.2.2.2.1 (i0 + n); omega)
            exact ⟨fun q => by have := (isD_nb la9).2; rw [q] at this; exact absurd this (by decide), fun _ => b.resolve_left hne⟩
          · have a : (tkT len X).2.2.2.2.1 (i0 + n) = (tkT len X).2.2.2.1 (i0 + n) + 1 := a
            have b : isG (X ((tkT len X).2.2.2.1 (i0 + n))) = true := b
            have w := (isG_nb b).2
            rw [wdl_eq, Bool.or_eq_false_iff] at w
            rw [show (tkT len X).2.2.2.2.1 (i0 + n) - 1 = (tkT len X).2.2.2.1 (i0 + n) by omega]
            exact ⟨fun q => by rw [w.1] at q; exact absurd q (by decide), fun q => by rw [w.2] at q; exact absurd q (by decide)⟩
          · exact absurd b ho.2
/-- the text of tokens i0 to j, as the reference writes it -/
theorem wrT_all {X : Nat → Int32} {len i0 n : Nat} (hl : len ≤ 500) (ht : ∀ t, i0 ≤ t → t < i0 + n → tOK (tkT len X) t) : wrT X ((tkT len X).2.2.2.1 (i0 + n) - (tkT len X).2.2.2.1 i0) ((tkT len X).2.2.2.1 i0) (nI 32) false = txA (tkT len X) i0 n := by
  have h := wrT_toks (X := X) (i0 := i0) hl n 0 (nI 32) false (fun t t1 t2 => ht t (by omega) (by omega)) (fun _ => Or.inl ⟨rfl, rfl⟩)
  rw [Nat.zero_add] at h
  exact h
/-- bytes of tokens and between them -/
def okB (x : Int32) : Prop := isL x = true ∨ isD x = true ∨ isG x = true ∨ blk x
theorem okB_tk {X : Nat → Int32} {len i0 : Nat} (hl : len ≤ 500) : ∀ (n : Nat), (∀ t, i0 ≤ t → t < i0 + n → tOK (tkT len X) t) → (tkT len X).2.2.2.1 i0 ≤ (tkT len X).2.2.2.1 (i0 + n) ∧ ∀ p, (tkT len X).2.2.2.1 i0 ≤ p → p < (tkT len X).2.2.2.1 (i0 + n) → okB (X p)
  | 0, _ => ⟨Nat.le_refl _, fun p p1 p2 => by have p2 : p < (tkT len X).2.2.2.1 i0 := p2; omega⟩
  | n + 1, ht => by
    obtain ⟨ih1, ih2⟩ := okB_tk hl n (fun t t1 t2 => ht t t1 (by omega))
    have ho := ht (i0 + n) (by omega) (by omega)
    obtain ⟨q, g1, g2, g3⟩ := tkS_at hl ho.1
    have hgap := tk_gap hl q
    have g1 : (tkT len X).2.2.2.1 (i0 + n) < (tkT len X).2.2.2.2.1 (i0 + n) := g1
    have hg1 : (tkT len X).2.2.2.2.1 (i0 + n) ≤ (tkT len X).2.2.2.1 (i0 + n + 1) := hgap.1
    refine ⟨by show _ ≤ (tkT len X).2.2.2.1 (i0 + n + 1); omega, fun p p1 p2 => ?_⟩
    by_cases c1 : p < (tkT len X).2.2.2.1 (i0 + n)
    · exact ih2 p p1 c1
    · by_cases c2 : p < (tkT len X).2.2.2.2.1 (i0 + n)
      · rcases g3 with ⟨-, a, -⟩ | ⟨-, a, -⟩ | ⟨a, ⟨b, -⟩ | b⟩
        · exact Or.inl (a p (by show (tkT len X).2.2.2.1 (i0 + n) ≤ p; omega) c2)
        · exact Or.inr (Or.inl (a p (by show (tkT len X).2.2.2.1 (i0 + n) ≤ p; omega) c2))
        · have a : (tkT len X).2.2.2.2.1 (i0 + n) = (tkT len X).2.2.2.1 (i0 + n) + 1 := a
          rw [show p = (tkT len X).2.2.2.1 (i0 + n) by omega]
          exact Or.inr (Or.inr (Or.inl b))
        · exact absurd b ho.2
      · exact Or.inr (Or.inr (Or.inr (hgap.2 p (by show (tkT len X).2.2.2.2.1 (i0 + n) ≤ p; omega) p2)))
theorem okB_eq {len p : Nat} {X Xr : Nat → Int32} (hr : tpR len X Xr) (hp : p < len) (h : okB (X p)) : Xr p = X p := by
  obtain ⟨t, ht, h1, h2⟩ := hr p hp
  obtain ⟨b1, b2, b3, b4, b5, b6⟩ := byt t ht
  rw [h1] at h ⊢
  rw [h2]
  rcases h with h | h | h | h | h
  · exact (b6 (Or.inl (by rw [← b1]; exact h))).symm
  · exact (b6 (Or.inr (Or.inl (by rw [← b2]; exact h)))).symm
  · exact (b6 (Or.inr (Or.inr (by rw [← b3]; exact h)))).symm
  · rw [h, b4.mp h]
  · rw [h, b5.mp h]
