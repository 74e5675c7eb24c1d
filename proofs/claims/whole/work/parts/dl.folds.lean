/-! STREET: codes and tokens of a riddle, one behind the other -/
theorem qM.cds {cs : Nat → List Nat} {tx : Nat → List Int32} {ho : Nat} {w : List Int32} (h8 : ho < 8) : ∀ (r2 r : List Nat) (q : SS), ofs cs ho + r.length + r2.length ≤ 519 → (∀ c ∈ r2, cOK c) → qM cs tx ho r w q → qM cs tx ho (r ++ r2) w (rCds r2 q) ∧ (rCds r2 q).2.2.2.2.2.1 = q.2.2.2.2.2.1 ∧ (rCds r2 q).2.1 = q.2.1 ∧ (rCds r2 q).2.2.1 = q.2.2.1
  | [], r, q, _, _, h => by
    rw [List.append_nil]
    exact ⟨h, rfl, rfl, rfl⟩
  | c :: t, r, q, hl, hc, h => by
    simp only [List.length_cons] at hl
    obtain ⟨a1, a2, a3, a4⟩ := h.code h8 (by omega) (hc c List.mem_cons_self)
    obtain ⟨b1, b2, b3, b4⟩ := qM.cds h8 t (r ++ [c]) (SS.code q (nI c)) (by simp only [List.length_append, List.length_cons, List.length_nil]; omega) (fun d hd => hc d (List.mem_cons_of_mem _ hd)) a1
    refine ⟨?_, b2.trans a2, b3.trans a3, b4.trans a4⟩
    rw [show r ++ c :: t = (r ++ [c]) ++ t by simp]
    exact b1
theorem qM.toks {X : Nat → Int32} {len i0 : Nat} (hl : len ≤ 500) {cs : Nat → List Nat} {tx : Nat → List Int32} {ho : Nat} {r : List Nat} (h8 : ho < 8) : ∀ (n k : Nat) (q : SS), (∀ t, i0 + k ≤ t → t < i0 + k + n → tOK (tkT len X) t) → q.2.2.2.2.2.1 ≤ 2 * (tkT len X).2.2.2.1 (i0 + k) → qM cs tx ho r (txA (tkT len X) i0 k) q → qM cs tx ho r (txA (tkT len X) i0 (k + n)) (rToks (tkT len X) n (i0 + k) q) ∧ (rToks (tkT len X) n (i0 + k) q).2.2.2.2.2.1 ≤ 2 * (tkT len X).2.2.2.1 (i0 + k + n) ∧ (rToks (tkT len X) n (i0 + k) q).2.1 = q.2.1 ∧ (rToks (tkT len X) n (i0 + k) q).2.2.1 = q.2.2.1
  | 0, k, q, _, htl, h => ⟨h, htl, rfl, rfl⟩
  | n + 1, k, q, ht, htl, h => by
    have ho := ht (i0 + k) (Nat.le_refl _) (by omega)
    obtain ⟨hq, hs⟩ := tkS_at hl ho.1
    have hg1 : (tkT len X).2.2.2.2.1 (i0 + k) ≤ (tkT len X).2.2.2.1 (i0 + k + 1) := (tk_gap hl hq).1
    have hb1 : (tkT len X).2.2.2.1 (i0 + k) < (tkT len X).2.2.2.2.1 (i0 + k) := hs.1
    have he1 : (tkT len X).2.2.2.2.1 (i0 + k) ≤ len := hs.2.1
    obtain ⟨a1, a2, a3, a4⟩ := h.tok (X := X) h8 hb1 (by omega) htl
    have ih := qM.toks hl (i0 := i0) h8 n (k + 1) (SS.token q X ((tkT len X).2.2.2.1 (i0 + k)) ((tkT len X).2.2.2.2.1 (i0 + k))) (fun t t1 t2 => ht t (by omega) (by omega)) (by show _ ≤ 2 * (tkT len X).2.2.2.1 (i0 + k + 1); omega) a1
    rw [show k + 1 + n = k + (n + 1) by omega, show i0 + (k + 1) = i0 + k + 1 from rfl, show i0 + k + 1 + n = i0 + k + (n + 1) by omega] at ih
    exact ⟨ih.1, ih.2.1, ih.2.2.1.trans a3, ih.2.2.2.trans a4⟩
theorem txA_len {X : Nat → Int32} {len i0 : Nat} (hl : len ≤ 500) : ∀ (n : Nat), (∀ t, i0 ≤ t → t < i0 + n → tOK (tkT len X) t) → (txA (tkT len X) i0 n).length ≤ 2 * ((tkT len X).2.2.2.1 (i0 + n) - (tkT len X).2.2.2.1 i0)
  | 0, _ => Nat.zero_le _
  | n + 1, ht => by
    have ih := txA_len hl n (fun t t1 t2 => ht t t1 (by omega))
    have hm := (okB_tk hl n (fun t t1 t2 => ht t t1 (by omega))).1
    have ho := ht (i0 + n) (by omega) (by omega)
    obtain ⟨hq, hs⟩ := tkS_at hl ho.1
    have hg1 : (tkT len X).2.2.2.2.1 (i0 + n) ≤ (tkT len X).2.2.2.1 (i0 + n + 1) := (tk_gap hl hq).1
    have hb1 : (tkT len X).2.2.2.1 (i0 + n) < (tkT len X).2.2.2.2.1 (i0 + n) := hs.1
    show (apT (txA (tkT len X) i0 n) (tbs X ((tkT len X).2.2.2.1 (i0 + n)) (tkL (tkT len X) (i0 + n)))).length ≤ 2 * ((tkT len X).2.2.2.1 (i0 + n + 1) - _)
    unfold apT
    rw [List.length_append, List.length_append, tbs_len]
    have h1 : ∀ b : Bool, (if b = true then [nI 32] else ([] : List Int32)).length ≤ 1 := fun b => by cases b <;> decide
    have h2 := h1 (!(txA (tkT len X) i0 n).isEmpty && (wdl ((tbs X ((tkT len X).2.2.2.1 (i0 + n)) (tkL (tkT len X) (i0 + n))).headD 0) && wdl (lstB (txA (tkT len X) i0 n))))
    have h3 : tkL (tkT len X) (i0 + n) = (tkT len X).2.2.2.2.1 (i0 + n) - (tkT len X).2.2.2.1 (i0 + n) := rfl
    rw [h3] at h2 ⊢
    omega
/-- bytes of a text are bytes -/
theorem sBy_ok : ∀ t, t < 256 → (sBy t).toInt8.toInt32 = sBy t := by decide +kernel
theorem tbs_ok {X Xr : Nat → Int32} {len : Nat} (hr : tpR len X Xr) : ∀ (n b : Nat), b + n ≤ len → ∀ c ∈ tbs X b n, c.toInt8.toInt32 = c
  | 0, b, _, c, hc => absurd hc List.not_mem_nil
  | n + 1, b, hb, c, hc => by
    rcases List.mem_cons.mp hc with q | q
    · obtain ⟨t, ht, h1, -⟩ := hr b (by omega)
      rw [q, h1]
      exact sBy_ok t ht
    · exact tbs_ok hr n (b + 1) (by omega) c q
theorem txA_ok {X Xr : Nat → Int32} {len i0 : Nat} (hl : len ≤ 500) (hr : tpR len X Xr) : ∀ (n : Nat), (∀ t, i0 ≤ t → t < i0 + n → tOK (tkT len X) t) → ∀ c ∈ txA (tkT len X) i0 n, c.toInt8.toInt32 = c
  | 0, _, c, hc => absurd hc List.not_mem_nil
  | n + 1, ht, c, hc => by
    have ho := ht (i0 + n) (by omega) (by omega)
    obtain ⟨hq, hs⟩ := tkS_at hl ho.1
    have hb1 : (tkT len X).2.2.2.1 (i0 + n) < (tkT len X).2.2.2.2.1 (i0 + n) := hs.1
    have he1 : (tkT len X).2.2.2.2.1 (i0 + n) ≤ len := hs.2.1
    have hc : c ∈ apT (txA (tkT len X) i0 n) (tbs X ((tkT len X).2.2.2.1 (i0 + n)) (tkL (tkT len X) (i0 + n))) := hc
    unfold apT at hc
    rcases List.mem_append.mp hc with y | y
    · rcases List.mem_append.mp y with z | z
      · exact txA_ok hl hr n (fun t t1 t2 => ht t t1 (by omega)) c z
      · split at z
        · rw [List.mem_singleton.mp z]; decide
        · exact absurd z List.not_mem_nil
    · exact tbs_ok hr _ _ (by show _ + tkL (tkT len X) (i0 + n) ≤ len; unfold tkL; omega) c y
theorem house_tf {ho : Nat} {q : SS} (h8 : ho < 8) (h : q.1 = ho) : (SS.house q).2.2.2.2.2.2.2.2.2.2.2.1 ho = nI q.2.2.2.2.2.1 := by
  obtain ⟨hq, mo, un, ri, cd, tl, lo, co, cf, ct, txr, tf, tt⟩ := q
  have h : hq = ho := h
  subst h
  rw [show SS.house (hq, mo, un, ri, cd, tl, lo, co, cf, ct, txr, tf, tt) = (hq + 1, mo, un, ri, cd, tl, va_up lo hq (nI 0), co, va_up cf hq (nI cd), va_up ct hq (nI cd), txr, va_up tf hq (nI tl), va_up tt hq (nI tl)) from if_pos h8]
  show va_up tf hq (nI tl) hq = _
  rw [am_up_s]
theorem csN_N {cs : Nat → List Nat} {H : Nat} {a b : List Nat} : csN (csN cs H a) H b = csN cs H b := by
  funext h
  by_cases q : h = H
  · rw [q, csN_s, csN_s]
  · rw [csN_o q, csN_o q, csN_o q]
theorem txN_N {tx : Nat → List Int32} {H : Nat} {a b : List Int32} : txN (txN tx H a) H b = txN tx H b := by
  funext h
  by_cases q : h = H
  · rw [q, txN_s, txN_s]
  · rw [txN_o q, txN_o q, txN_o q]
theorem kow_5 {X : Nat → Int32} {b e : Nat} : (kow X b e = nI 131 → e - b = 5) ∧ (kow X b e = nI 132 → e - b = 4) := by
  have hs : ∀ w, spl X w b e = true → e - b = sN w := fun w h => by
    unfold spl at h
    rw [Bool.and_eq_true, decide_eq_true_eq] at h
    exact h.1
  unfold kow kwL
  unfold kwF
  by_cases c0 : spl X 0 b e = true
  · rw [if_pos c0]; exact ⟨fun q => absurd q (by decide), fun q => absurd q (by decide)⟩
  rw [if_neg c0]
  unfold kwF
  by_cases c1 : spl X 1 b e = true
  · rw [if_pos c1]; exact ⟨fun q => absurd q (by decide), fun q => absurd q (by decide)⟩
  rw [if_neg c1]
  unfold kwF
  by_cases c2 : spl X 2 b e = true
  · rw [if_pos c2]; exact ⟨fun _ => hs 2 c2, fun q => absurd q (by decide)⟩
  rw [if_neg c2]
  unfold kwF
  by_cases c3 : spl X 3 b e = true
  · rw [if_pos c3]; exact ⟨fun q => absurd q (by decide), fun _ => hs 3 c3⟩
  rw [if_neg c3]
  have key : ∀ l : List (Nat × Nat), (∀ p ∈ l, ¬ nI p.2 = nI 131 ∧ ¬ nI p.2 = nI 132) → ¬ kwF X b e l = nI 131 ∧ ¬ kwF X b e l = nI 132 := by
    intro l
    induction l with
    | nil => intro _; exact ⟨by show ¬ nI 128 = nI 131; decide, by show ¬ nI 128 = nI 132; decide⟩
    | cons p t ih =>
      intro hp
      obtain ⟨w, k⟩ := p
      unfold kwF
      split
      · exact hp (w, k) List.mem_cons_self
      · exact ih (fun p hp2 => hp p (List.mem_cons_of_mem _ hp2))
  have := key [(4, 133), (5, 134), (6, 135), (7, 136), (8, 137), (9, 138), (10, 139), (11, 140), (12, 141)] (by decide)
  exact ⟨fun q => absurd q this.1, fun q => absurd q this.2⟩
/-- how far the words house and says go -/
theorem wd_len {X : Nat → Int32} {len i : Nat} (hl : len ≤ 500) : (tkK (tkT len X) i = nI 131 → (tkT len X).2.2.2.1 i + 5 ≤ (tkT len X).2.2.2.1 (i + 1)) ∧ (tkK (tkT len X) i = nI 132 → (tkT len X).2.2.2.1 i + 4 ≤ (tkT len X).2.2.2.1 (i + 1)) ∧ (tkK (tkT len X) i = nI 59 → (tkT len X).2.2.2.1 i + 1 ≤ (tkT len X).2.2.2.1 (i + 1)) ∧ (¬ tkK (tkT len X) i = nI 0 → (tkT len X).2.2.2.1 i < (tkT len X).2.2.2.1 (i + 1)) := by
  have main : ¬ tkK (tkT len X) i = nI 0 → (tkT len X).2.2.2.1 i < (tkT len X).2.2.2.2.1 i ∧ (tkT len X).2.2.2.2.1 i ≤ (tkT len X).2.2.2.1 (i + 1) ∧ tkS X len (tkAt (tkT len X) i) := fun h0 => by
    obtain ⟨hq, hs⟩ := tkS_at hl h0
    exact ⟨hs.1, (tk_gap hl hq).1, hs⟩
  have word : ∀ k, (k = nI 131 ∨ k = nI 132) → tkK (tkT len X) i = k → kow X ((tkT len X).2.2.2.1 i) ((tkT len X).2.2.2.2.1 i) = k := fun k hk h => by
    obtain ⟨g1, g2, g3, g4, g5⟩ := main (by rw [h]; rcases hk with q | q <;> rw [q] <;> decide)
    have h : (tkAt (tkT len X) i).1 = k := h
    rcases g5 with ⟨a, -, -⟩ | ⟨a, -, -⟩ | ⟨-, ⟨a, b⟩ | a⟩
    · rw [← h, a]; rfl
    · rw [h] at a; rcases hk with q | q <;> rw [q] at a <;> exact absurd a (by decide)
    · exfalso
      have hG := isG_of a
      rw [← b, h] at hG
      rcases hk with q | q <;> rw [q] at hG <;> exact absurd hG.2 (by decide)
    · rw [h] at a; rcases hk with q | q <;> rw [q] at a <;> exact absurd a (by decide)
  refine ⟨fun h => ?_, fun h => ?_, fun h => ?_, fun h => ?_⟩
  · have g := main (by rw [h]; decide)
    have := kow_5.1 (word _ (Or.inl rfl) h)
    omega
  · have g := main (by rw [h]; decide)
    have := kow_5.2 (word _ (Or.inr rfl) h)
    omega
  · have g := main (by rw [h]; decide)
    omega
  · have g := main h
    omega
