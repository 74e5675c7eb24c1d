/-! A SEEDED LINE READ: pure -/
theorem nI_m1 {k : Nat} (h : k < 2 ^ 31) : ¬ nI k = -1 := fun z => by
  have h1 := nI_pos h
  rw [z] at h1
  exact h1 (by decide)
abbrev SC : Type := Nat × Int32 × Int32 × Int32 × Nat × (Nat → Int32) × (Nat → Int32) × (Nat → Int32) × (Nat → Int32)
def core (q : SS) : SC := match q with
  | (ho, mo, un, ri, cd, _, lo, co, cf, ct, _) => (ho, mo, un, ri, cd, lo, co, cf, ct)
theorem core_eq {q q2 : SS} (h : core q = core q2) : q.1 = q2.1 ∧ q.2.1 = q2.2.1 ∧ q.2.2.1 = q2.2.2.1 ∧ q.2.2.2.1 = q2.2.2.2.1 ∧ q.2.2.2.2.1 = q2.2.2.2.2.1 ∧ q.2.2.2.2.2.2.1 = q2.2.2.2.2.2.2.1 ∧ q.2.2.2.2.2.2.2.1 = q2.2.2.2.2.2.2.2.1 ∧ q.2.2.2.2.2.2.2.2.1 = q2.2.2.2.2.2.2.2.2.1 ∧ q.2.2.2.2.2.2.2.2.2.1 = q2.2.2.2.2.2.2.2.2.2.1 := by
  obtain ⟨ho, mo, un, ri, cd, tl, lo, co, cf, ct, tx⟩ := q
  obtain ⟨ho2, mo2, un2, ri2, cd2, tl2, lo2, co2, cf2, ct2, tx2⟩ := q2
  simp only [core, Prod.mk.injEq] at h
  exact h
theorem core_code {q q2 : SS} (c : Int32) (h : core q = core q2) : core (SS.code q c) = core (SS.code q2 c) := by
  obtain ⟨ho, mo, un, ri, cd, tl, lo, co, cf, ct, tx, tf, tt⟩ := q
  obtain ⟨ho2, mo2, un2, ri2, cd2, tl2, lo2, co2, cf2, ct2, tx2, tf2, tt2⟩ := q2
  simp only [core, Prod.mk.injEq] at h
  obtain ⟨rfl, rfl, rfl, rfl, rfl, rfl, rfl, rfl, rfl⟩ := h
  simp only [SS.code]
  split <;> rfl
theorem core_house {q q2 : SS} (h : core q = core q2) : core (SS.house q) = core (SS.house q2) := by
  obtain ⟨ho, mo, un, ri, cd, tl, lo, co, cf, ct, tx, tf, tt⟩ := q
  obtain ⟨ho2, mo2, un2, ri2, cd2, tl2, lo2, co2, cf2, ct2, tx2, tf2, tt2⟩ := q2
  simp only [core, Prod.mk.injEq] at h
  obtain ⟨rfl, rfl, rfl, rfl, rfl, rfl, rfl, rfl, rfl⟩ := h
  simp only [SS.house]
  split <;> rfl
theorem core_begin {q q2 : SS} (h : core q = core q2) : core (SS.begin q) = core (SS.begin q2) := by
  obtain ⟨ho, mo, un, ri, cd, tl, lo, co, cf, ct, tx, tf, tt⟩ := q
  obtain ⟨ho2, mo2, un2, ri2, cd2, tl2, lo2, co2, cf2, ct2, tx2, tf2, tt2⟩ := q2
  simp only [core, Prod.mk.injEq] at h
  obtain ⟨rfl, rfl, rfl, rfl, rfl, rfl, rfl, rfl, rfl⟩ := h
  simp only [SS.begin]
  split <;> rfl
theorem core_token (q : SS) (X : Nat → Int32) (b e : Nat) : core (SS.token q X b e) = core q := by
  obtain ⟨ho, mo, un, ri, cd, tl, lo, co, cf, ct, tx, tf, tt⟩ := q
  simp only [SS.token]
  split
  · rfl
  split <;> rfl
def adv (R : RS) (a : Nat) (q : SS) : RS := (a, R.2.1, R.2.2.1, R.2.2.2.1, R.2.2.2.2.1, R.2.2.2.2.2.1, q)
section
variable {T : RT} {h : Nat} {E : RS → RS} {R : RS}
theorem e_nx {a : Nat} {q : SS} (ha : a + 1 < T.2.1) : rNx T (adv R a q) = adv R (a + 1) q := if_pos ha
theorem e_take {a : Nat} {q : SS} (ha : a + 1 < T.2.1) : rTake T (adv R a q) = adv R (a + 1) (SS.token q T.2.2.2.2.2 (T.2.2.2.1 a) (T.2.2.2.2.1 a)) := if_pos ha
theorem rLoop_no {is : Int32 → Bool} {cd : Int32 → Int32} {sub : RS → RS} {S : RS} : ∀ k, is (rk T S) = false → rLoop T is cd sub k S = S
  | 0, _ => rfl
  | k + 1, hk => by unfold rLoop; rw [if_neg (by rw [hk]; simp)]
theorem rLoop_yes {is : Int32 → Bool} {cd : Int32 → Int32} {sub : RS → RS} {S : RS} (k : Nat) (h1 : is (rk T S) = true) (h2 : rf S = 0) : rLoop T is cd sub (k + 1) S = rLoop T is cd sub k (rCode (cd (rk T S)) (sub (rTake T S))) := by
  conv => lhs; unfold rLoop
  rw [if_pos ⟨h1, h2⟩]
theorem p_here {a : Nat} {q : SS} (hf : R.2.1 = 0) (hk : T.2.2.1 a = nI 136) (ha : a + 1 < T.2.1) (h8 : h < 8) : ∃ q', rPart T h E (adv R a q) = adv R (a + 1) q' ∧ core q' = core (SS.code q (nI (10000 + h))) := by
  have k1 : rk T (adv R a q) = nI 136 := hk
  have c1 : cov (nI 136) h = nI (10000 + h) := rfl
  refine ⟨SS.token (SS.code q (nI (10000 + h))) T.2.2.2.2.2 (T.2.2.2.1 a) (T.2.2.2.2.1 a), ?_, core_token _ _ _ _⟩
  unfold rPart
  rw [k1, if_neg (fun z => z hf), if_neg (by decide), if_neg (by decide), if_neg (by decide), c1, if_pos (nI_m1 (by omega))]
  exact e_take ha
theorem p_num {a v : Nat} {q : SS} (hf : R.2.1 = 0) (hk : T.2.2.1 a = nI 2) (ha : a + 1 < T.2.1) (hl : T.2.2.2.2.1 a - T.2.2.2.1 a ≤ 4) (hv : nv T.2.2.2.2.2 (T.2.2.2.1 a) (T.2.2.2.2.1 a - T.2.2.2.1 a) = nI v) (hv9 : v ≤ 9999) : ∃ q', rPart T h E (adv R a q) = adv R (a + 1) q' ∧ core q' = core (SS.code q (nI v)) := by
  have k1 : rk T (adv R a q) = nI 2 := hk
  have v1 : rNumV T (nI 0) (nI 9999) (adv R a q) = nI v := by
    unfold rNumV
    rw [if_neg (fun z => z hf), if_neg (fun z => z k1), if_neg (show ¬ 4 < T.2.2.2.2.1 (adv R a q).1 - T.2.2.2.1 (adv R a q).1 from (by show ¬ 4 < T.2.2.2.2.1 a - T.2.2.2.1 a; omega))]
    show (if nv T.2.2.2.2.2 (T.2.2.2.1 a) (T.2.2.2.2.1 a - T.2.2.2.1 a) < nI 0 ∨ nI 9999 < nv T.2.2.2.2.2 (T.2.2.2.1 a) (T.2.2.2.2.1 a - T.2.2.2.1 a) then nI 0 else nv T.2.2.2.2.2 (T.2.2.2.1 a) (T.2.2.2.2.1 a - T.2.2.2.1 a)) = nI v
    rw [hv, if_neg (by rw [nI_ltI (by omega) (by omega), nI_ltI (by omega) (by omega)]; omega)]
  have r1 : rNumR T (nI 0) (nI 9999) (adv R a q) = adv R a q := by
    unfold rNumR
    rw [if_neg (fun z => z hf), if_neg (fun z => z k1), if_neg (show ¬ 4 < T.2.2.2.2.1 (adv R a q).1 - T.2.2.2.1 (adv R a q).1 from (by show ¬ 4 < T.2.2.2.2.1 a - T.2.2.2.1 a; omega))]
    show (if nv T.2.2.2.2.2 (T.2.2.2.1 a) (T.2.2.2.2.1 a - T.2.2.2.1 a) < nI 0 ∨ nI 9999 < nv T.2.2.2.2.2 (T.2.2.2.1 a) (T.2.2.2.2.1 a - T.2.2.2.1 a) then _ else adv R a q) = adv R a q
    rw [hv, if_neg (by rw [nI_ltI (by omega) (by omega), nI_ltI (by omega) (by omega)]; omega)]
  refine ⟨SS.token (SS.code q (nI v)) T.2.2.2.2.2 (T.2.2.2.1 a) (T.2.2.2.2.1 a), ?_, core_token _ _ _ _⟩
  unfold rPart
  rw [k1, if_neg (fun z => z hf), if_pos rfl, v1, r1]
  exact e_take ha
theorem p_of {a v : Nat} {q : SS} (hf : R.2.1 = 0) (hk : T.2.2.1 a = nI 141) (hk1 : T.2.2.1 (a + 1) = nI 2) (ha : a + 2 < T.2.1) (hl : T.2.2.2.2.1 (a + 1) - T.2.2.2.1 (a + 1) ≤ 4) (hv : nv T.2.2.2.2.2 (T.2.2.2.1 (a + 1)) (T.2.2.2.2.1 (a + 1) - T.2.2.2.1 (a + 1)) = nI v) (hv7 : v ≤ 7) : ∃ q', rPart T h E (adv R a q) = adv R (a + 2) q' ∧ core q' = core (SS.code q (nI (10000 + v))) := by
  have k1 : rk T (adv R a q) = nI 141 := hk
  have t1 : rTake T (adv R a q) = adv R (a + 1) (SS.token q T.2.2.2.2.2 (T.2.2.2.1 a) (T.2.2.2.2.1 a)) := e_take (by omega)
  generalize hq1 : SS.token q T.2.2.2.2.2 (T.2.2.2.1 a) (T.2.2.2.2.1 a) = q1 at t1
  have hc1 : core q1 = core q := by rw [← hq1]; exact core_token _ _ _ _
  have k2 : rk T (adv R (a + 1) q1) = nI 2 := hk1
  have v1 : rNumV T (nI 0) (nI 7) (adv R (a + 1) q1) = nI v := by
    unfold rNumV
    rw [if_neg (fun z => z hf), if_neg (fun z => z k2), if_neg (show ¬ 4 < T.2.2.2.2.1 (adv R (a + 1) q1).1 - T.2.2.2.1 (adv R (a + 1) q1).1 from (by show ¬ 4 < T.2.2.2.2.1 (a + 1) - T.2.2.2.1 (a + 1); omega))]
    show (if nv T.2.2.2.2.2 (T.2.2.2.1 (a + 1)) (T.2.2.2.2.1 (a + 1) - T.2.2.2.1 (a + 1)) < nI 0 ∨ nI 7 < nv T.2.2.2.2.2 (T.2.2.2.1 (a + 1)) (T.2.2.2.2.1 (a + 1) - T.2.2.2.1 (a + 1)) then nI 0 else nv T.2.2.2.2.2 (T.2.2.2.1 (a + 1)) (T.2.2.2.2.1 (a + 1) - T.2.2.2.1 (a + 1))) = nI v
    rw [hv, if_neg (by rw [nI_ltI (by omega) (by omega), nI_ltI (by omega) (by omega)]; omega)]
  have r1 : rNumR T (nI 0) (nI 7) (adv R (a + 1) q1) = adv R (a + 1) q1 := by
    unfold rNumR
    rw [if_neg (fun z => z hf), if_neg (fun z => z k2), if_neg (show ¬ 4 < T.2.2.2.2.1 (adv R (a + 1) q1).1 - T.2.2.2.1 (adv R (a + 1) q1).1 from (by show ¬ 4 < T.2.2.2.2.1 (a + 1) - T.2.2.2.1 (a + 1); omega))]
    show (if nv T.2.2.2.2.2 (T.2.2.2.1 (a + 1)) (T.2.2.2.2.1 (a + 1) - T.2.2.2.1 (a + 1)) < nI 0 ∨ nI 7 < nv T.2.2.2.2.2 (T.2.2.2.1 (a + 1)) (T.2.2.2.2.1 (a + 1) - T.2.2.2.1 (a + 1)) then _ else adv R (a + 1) q1) = adv R (a + 1) q1
    rw [hv, if_neg (by rw [nI_ltI (by omega) (by omega), nI_ltI (by omega) (by omega)]; omega)]
  refine ⟨SS.token (SS.code q1 (nI (10000 + v))) T.2.2.2.2.2 (T.2.2.2.1 (a + 1)) (T.2.2.2.2.1 (a + 1)), ?_, (core_token _ _ _ _).trans (core_code _ hc1)⟩
  unfold rPart
  rw [k1, if_neg (fun z => z hf), if_neg (by decide), if_pos rfl, t1, v1, r1, nI_add]
  exact e_take ha
theorem s_prod {S S1 : RS} (h1 : rPart T h E S = S1) (h2 : is2 42 47 (rk T S1) = false) : rProd T h E S = S1 := by unfold rProd; rw [h1, rLoop_no _ h2]
theorem s_sum {S S1 : RS} (h1 : rPart T h E S = S1) (h2 : is2 42 47 (rk T S1) = false) (h3 : is2 43 45 (rk T S1) = false) : rSum T h E S = S1 := by unfold rSum; rw [s_prod h1 h2, rLoop_no _ h3]
/-- a sum of two -/
theorem s_sum2 {a1 a2 : Nat} {q1 q2 : SS} {S : RS} (hf : R.2.1 = 0) (h1 : rPart T h E S = adv R a1 q1) (hk : T.2.2.1 a1 = nI 43) (ha : a1 + 1 < T.2.1) (h3 : ∃ q', rPart T h E (rTake T (adv R a1 q1)) = adv R a2 q' ∧ core q' = core q2) (hk2 : T.2.2.1 a2 = nI 59 ∨ T.2.2.1 a2 = nI 61) : ∃ q', rSum T h E S = adv R a2 q' ∧ core q' = core (SS.code q2 (nI 20004)) := by
  obtain ⟨q', e1, e2⟩ := h3
  refine ⟨SS.code q' (nI 20004), ?_, core_code _ e2⟩
  have k1 : rk T (adv R a1 q1) = nI 43 := hk
  have n2 : is2 42 47 (T.2.2.1 a2) = false ∧ is2 43 45 (T.2.2.1 a2) = false := by rcases hk2 with z | z <;> rw [z] <;> exact ⟨by decide, by decide⟩
  unfold rSum
  rw [s_prod h1 (by rw [k1]; decide), show (500 : Nat) = 499 + 1 from rfl, rLoop_yes (S := adv R a1 q1) 499 (by rw [k1]; decide) hf, k1, s_prod e1 n2.1]
  exact rLoop_no _ n2.2
/-- a test: two sums about '=' -/
theorem s_test {a1 a2 : Nat} {q1 q2 : SS} {S : RS} (hf : R.2.1 = 0) (h1 : rSum T h E S = adv R a1 q1) (hk : T.2.2.1 a1 = nI 61) (h3 : ∃ q', rSum T h E (rTake T (adv R a1 q1)) = adv R a2 q' ∧ core q' = core q2) : ∃ q', rTest T h E S = adv R a2 q' ∧ core q' = core (SS.code q2 (nI 20009)) := by
  obtain ⟨q', e1, e2⟩ := h3
  refine ⟨SS.code q' (nI 20009), ?_, core_code _ e2⟩
  have k1 : rk T (adv R a1 q1) = nI 61 := hk
  unfold rTest rTest2
  rw [h1, if_pos ⟨by rw [k1]; decide, hf⟩, k1, e1]
  rfl
theorem rNots_no {S : RS} (k m : Nat) (h1 : ¬ rk T S = nI 135) : rNots T (k + 1) m S = (m, S) := by
  unfold rNots
  rw [if_neg (fun z => h1 z.1)]
theorem s_expr {k a2 : Nat} {q2 : SS} {S : RS} (h1 : rNot T h (rExpr T h k) S = adv R a2 q2) (hk : T.2.2.1 a2 = nI 59) : rExpr T h (k + 1) S = adv R a2 q2 := by
  have k1 : rk T (adv R a2 q2) = nI 59 := hk
  unfold rExpr rBoth
  rw [h1, rLoop_no _ (show is1 134 (rk T (adv R a2 q2)) = false by rw [k1]; decide), rLoop_no _ (show is1 133 (rk T (adv R a2 q2)) = false by rw [k1]; decide)]
theorem s_not0 {a2 : Nat} {q2 : SS} {S : RS} (h1 : rTest T h E S = adv R a2 q2) (hk : ¬ rk T S = nI 135) : rNot T h E S = adv R a2 q2 := by
  unfold rNot
  rw [rNots_no 6 0 hk]
  exact h1
theorem s_not1 {a1 a2 : Nat} {q1 : SS} {q2 : SS} (hf : R.2.1 = 0) (hk : T.2.2.1 a1 = nI 135) (h1 : rTest T h E (rTake T (adv R a1 q1)) = adv R a2 q2) (hk1 : ¬ rk T (rTake T (adv R a1 q1)) = nI 135) : rNot T h E (adv R a1 q1) = adv R a2 (SS.code q2 (nI 20003)) := by
  have k1 : rk T (adv R a1 q1) = nI 135 := hk
  have e : rNots T 7 0 (adv R a1 q1) = (1, rTake T (adv R a1 q1)) := by
    conv => lhs; unfold rNots
    rw [if_pos ⟨k1, hf⟩, if_neg (by decide), rNots_no 5 1 hk1]
  unfold rNot
  rw [e]
  dsimp only
  rw [h1]
  rfl
/-- a house's line -/
theorem s_line {a a2 : Nat} {q q2 : SS} (hf : R.2.1 = 0) (h8 : q.1 < 8) (hk : T.2.2.1 a = nI 131) (ha : a + 1 < T.2.1) (hs : rSays T q.1 (adv R (a + 1) (SS.house q)) = adv R a2 q2) (hk1 : ¬ T.2.2.1 (a + 1) = nI 2) (hk2 : T.2.2.1 a2 = nI 59) (ha2 : a2 + 1 < T.2.1) : rLine T (adv R a q) = adv R (a2 + 1) q2 := by
  have k1 : rk T (adv R a q) = nI 131 := hk
  have e1 : rHouse T (adv R a q) = adv R a2 q2 := by
    unfold rHouse
    rw [if_neg (show ¬ 8 ≤ (rQ (adv R a q)).1 from (by show ¬ 8 ≤ q.1; omega))]
    show rSays T q.1 (rSons T q.1 (rNx T (adv R a (SS.house q)))) = _
    rw [e_nx ha]
    unfold rSons
    rw [if_neg (show ¬ rk T (adv R (a + 1) (SS.house q)) = nI 2 from hk1)]
    exact hs
  unfold rLine
  rw [k1, if_neg (by decide), if_neg (by decide), if_pos rfl, e1]
  unfold rPass
  rw [if_pos (show rk T (adv R a2 q2) = nI 59 from hk2)]
  exact e_nx ha2
theorem s_says {a a2 : Nat} {q q2 : SS} (hf : R.2.1 = 0) (hk : T.2.2.1 a = nI 132) (ha : a + 1 < T.2.1) (he : rExpr T h 6 (adv R (a + 1) (SS.begin q)) = adv R a2 q2) : rSays T h (adv R a q) = adv R a2 q2 := by
  unfold rSays
  rw [if_pos ⟨show rk T (adv R a q) = nI 132 from hk, hf⟩, e_nx ha]
  exact he
end
