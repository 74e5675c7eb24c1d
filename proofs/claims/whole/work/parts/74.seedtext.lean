/-! A SEEDED TEXT READ -/
def tAt (T : RT) (a : Nat) (ts : List Tok) : Prop := a + ts.length < T.2.1 ∧ ∀ j, j < ts.length → T.2.2.1 (a + j) = (ts.getD j (0, 0, 0)).1 ∧ T.2.2.2.1 (a + j) = (ts.getD j (0, 0, 0)).2.1 ∧ T.2.2.2.2.1 (a + j) = (ts.getD j (0, 0, 0)).2.2
theorem tAt_app {T : RT} {a : Nat} {u v : List Tok} (h : tAt T a (u ++ v)) : tAt T a u ∧ tAt T (a + u.length) v := by
  obtain ⟨h1, h2⟩ := h
  rw [List.length_append] at h1 h2
  refine ⟨⟨by omega, fun j hj => ?_⟩, ⟨by omega, fun j hj => ?_⟩⟩
  · have := h2 j (by omega)
    simp only [List.getD, List.getElem?_append_left hj] at this ⊢
    exact this
  · have := h2 (u.length + j) (by omega)
    rw [Nat.add_assoc]
    simp only [List.getD, List.getElem?_append_right (show u.length ≤ u.length + j by omega), Nat.add_sub_cancel_left] at this ⊢
    exact this
theorem tAt_of {X : Nat → Int32} {len : Nat} {ts : List Tok} (h : tks X len = ts ++ [(nI 0, len, len)]) : tAt (tkT len X) 0 ts ∧ (tkT len X).2.2.1 ts.length = nI 0 ∧ (tkT len X).2.1 = ts.length + 1 := by
  unfold tkT
  rw [h]
  refine ⟨⟨by simp, fun j hj => ?_⟩, by simp, by simp⟩
  simp only [Nat.zero_add, List.getD, List.getElem?_append_left hj]
  exact ⟨trivial, trivial, trivial⟩
set_option maxHeartbeats 4000000 in
theorem sd_line {T : RT} {R : RS} {a b h M : Nat} {x : Int32} {q : SS} (hf : R.2.1 = 0) (hq : q.1 = h) (h8 : h < 8) (hM0 : 0 < M) (hM : M ≤ 20) (hat : atX T.2.2.2.2.2 b (sdH x h M).1) (hT : tAt T a (sdK x h M b)) : ∃ q', rLine T (adv R a q) = adv R (a + (sdK x h M b).length) q' ∧ core q' = core (sdQ x h M q) := by
  have b2 : (sB.getD 2 []).length = 5 := by decide
  have b18 : (sB.getD 18 []).length = 11 := by decide
  have b19 : (sB.getD 19 []).length = 14 := by decide
  have b20 : (sB.getD 20 []).length = 18 := by decide
  have a3 := Nat.mod_lt (dv (lcg (lcg (lcg x)))) (show 0 < 4 by omega)
  have a1 := Nat.mod_lt (dv (lcg (lcg x))) hM0
  have l1 := dg_len (1 + dv (lcg (lcg x)) % M)
  have l2 := dg_len (dv (lcg (lcg x)) % h)
  have l3 := dg_len (dv (lcg (lcg (lcg x))) % 4)
  unfold sdQ sdC
  unfold sdH at hat
  unfold sdK at hT ⊢
  by_cases e1 : dv (lcg x) % 4 = 1
  · rw [if_pos e1] at hat hT
    simp only [if_pos e1]
    have w1 := atX_l (atX_r (atX_r hat))
    rw [b2, b18, show b + 5 + 11 = b + 16 from rfl] at w1
    have v1 := nv_dg (by omega) w1
    obtain ⟨hT0, hT⟩ := hT
    have t0 : T.2.2.1 a = nI 131 ∧ True := ⟨(hT 0 (by simp)).1, trivial⟩
    have t1 : T.2.2.1 (a + 1) = nI 132 ∧ True := ⟨(hT 1 (by simp)).1, trivial⟩
    have t2 : T.2.2.1 (a + 2) = nI 136 ∧ True := ⟨(hT 2 (by simp)).1, trivial⟩
    have t3 : T.2.2.1 (a + 3) = nI 61 ∧ True := ⟨(hT 3 (by simp)).1, trivial⟩
    have t4 : T.2.2.1 (a + 4) = nI 2 ∧ T.2.2.2.1 (a + 4) = b + 16 ∧ T.2.2.2.2.1 (a + 4) = b + 16 + (dg (1 + dv (lcg (lcg x)) % M)).length := hT 4 (by simp)
    have t5 : T.2.2.1 (a + 5) = nI 59 ∧ True := ⟨(hT 5 (by simp)).1, trivial⟩
    obtain ⟨q', e, c⟩ := x_1 (T := T) (h := h) (k := 5) (R := R) (a := a + 2) (v := 1 + dv (lcg (lcg x)) % M) (q := SS.begin (SS.house q)) hf h8 (by simp at hT0; omega) t2.1 t3.1 t4.1 t5.1 (by rw [t4.2.1, t4.2.2]; show b + 16 + (dg (1 + dv (lcg (lcg x)) % M)).length - (b + 16) ≤ 4; omega) (by rw [t4.2.1, t4.2.2]; show nv _ (b + 16) (b + 16 + (dg (1 + dv (lcg (lcg x)) % M)).length - (b + 16)) = _; rw [Nat.add_sub_cancel_left]; exact v1) (by omega)
    refine ⟨q', ?_, by rw [if_neg (by simp)]; exact c⟩
    have hs : rSays T q.1 (adv R (a + 1) (SS.house q)) = adv R (a + 5) q' := by rw [hq]; exact s_says hf t1.1 (by simp at hT0; omega) e
    have hL : rLine T (adv R a q) = adv R (a + 5 + 1) q' := s_line hf (by omega) t0.1 (by simp at hT0; omega) hs (by rw [t1.1]; decide) t5.1 (by simp at hT0; omega)
    exact hL
  by_cases e2 : dv (lcg x) % 4 = 2 ∧ 0 < h
  · rw [if_neg e1, if_pos e2] at hat hT
    simp only [if_neg e1, if_pos e2]
    have a2 := Nat.mod_lt (dv (lcg (lcg x))) e2.2
    have w0 := atX_r (atX_r hat)
    have w1 := atX_l w0
    have w2 := atX_l (atX_r (atX_r w0))
    rw [b2, b19, show b + 5 + 14 = b + 19 from rfl] at w1
    rw [b2, b19, show b + 5 + 14 + (dg (dv (lcg (lcg x)) % h)).length + [nI 43].length = b + 19 + (dg (dv (lcg (lcg x)) % h)).length + 1 from rfl] at w2
    have v1 := nv_dg (by omega) w1
    have v2 := nv_dg (by omega) w2
    obtain ⟨hT0, hT⟩ := hT
    have t0 : T.2.2.1 a = nI 131 ∧ True := ⟨(hT 0 (by simp)).1, trivial⟩
    have t1 : T.2.2.1 (a + 1) = nI 132 ∧ True := ⟨(hT 1 (by simp)).1, trivial⟩
    have t2 : T.2.2.1 (a + 2) = nI 136 ∧ True := ⟨(hT 2 (by simp)).1, trivial⟩
    have t3 : T.2.2.1 (a + 3) = nI 61 ∧ True := ⟨(hT 3 (by simp)).1, trivial⟩
    have t4 : T.2.2.1 (a + 4) = nI 141 ∧ True := ⟨(hT 4 (by simp)).1, trivial⟩
    have t5 : T.2.2.1 (a + 5) = nI 2 ∧ T.2.2.2.1 (a + 5) = b + 19 ∧ T.2.2.2.2.1 (a + 5) = b + 19 + (dg (dv (lcg (lcg x)) % h)).length := hT 5 (by simp)
    have t6 : T.2.2.1 (a + 6) = nI 43 ∧ True := ⟨(hT 6 (by simp)).1, trivial⟩
    have t7 : T.2.2.1 (a + 7) = nI 2 ∧ T.2.2.2.1 (a + 7) = b + 19 + (dg (dv (lcg (lcg x)) % h)).length + 1 ∧ T.2.2.2.2.1 (a + 7) = b + 19 + (dg (dv (lcg (lcg x)) % h)).length + 1 + (dg (dv (lcg (lcg (lcg x))) % 4)).length := hT 7 (by simp)
    have t8 : T.2.2.1 (a + 8) = nI 59 ∧ True := ⟨(hT 8 (by simp)).1, trivial⟩
    obtain ⟨q', e, c⟩ := x_2 (T := T) (h := h) (k := 5) (R := R) (a := a + 2) (v := dv (lcg (lcg x)) % h) (w := dv (lcg (lcg (lcg x))) % 4) (q := SS.begin (SS.house q)) hf h8 (by simp at hT0; omega) t2.1 t3.1 t4.1 t5.1 t6.1 t7.1 t8.1 (by rw [t5.2.1, t5.2.2]; show b + 19 + (dg (dv (lcg (lcg x)) % h)).length - (b + 19) ≤ 4; omega) (by rw [t5.2.1, t5.2.2]; show nv _ (b + 19) (b + 19 + (dg (dv (lcg (lcg x)) % h)).length - (b + 19)) = _; rw [Nat.add_sub_cancel_left]; exact v1) (by omega) (by rw [t7.2.1, t7.2.2]; show b + 19 + (dg (dv (lcg (lcg x)) % h)).length + 1 + (dg (dv (lcg (lcg (lcg x))) % 4)).length - (b + 19 + (dg (dv (lcg (lcg x)) % h)).length + 1) ≤ 4; omega) (by rw [t7.2.1, t7.2.2]; show nv _ (b + 19 + (dg (dv (lcg (lcg x)) % h)).length + 1) (b + 19 + (dg (dv (lcg (lcg x)) % h)).length + 1 + (dg (dv (lcg (lcg (lcg x))) % 4)).length - (b + 19 + (dg (dv (lcg (lcg x)) % h)).length + 1)) = _; rw [Nat.add_sub_cancel_left]; exact v2) (by omega)
    refine ⟨q', ?_, by rw [if_neg (by simp)]; exact c⟩
    have hs : rSays T q.1 (adv R (a + 1) (SS.house q)) = adv R (a + 8) q' := by rw [hq]; exact s_says hf t1.1 (by simp at hT0; omega) e
    have hL : rLine T (adv R a q) = adv R (a + 8 + 1) q' := s_line hf (by omega) t0.1 (by simp at hT0; omega) hs (by rw [t1.1]; decide) t8.1 (by simp at hT0; omega)
    exact hL
  by_cases e3 : dv (lcg x) % 4 = 3 ∧ 0 < h
  · rw [if_neg e1, if_neg e2, if_pos e3] at hat hT
    simp only [if_neg e1, if_neg e2, if_pos e3]
    have a2 := Nat.mod_lt (dv (lcg (lcg x))) e3.2
    have w1 := atX_l (atX_r (atX_r hat))
    rw [b2, b20, show b + 5 + 18 = b + 23 from rfl] at w1
    have v1 := nv_dg (by omega) w1
    obtain ⟨hT0, hT⟩ := hT
    have t0 : T.2.2.1 a = nI 131 ∧ True := ⟨(hT 0 (by simp)).1, trivial⟩
    have t1 : T.2.2.1 (a + 1) = nI 132 ∧ True := ⟨(hT 1 (by simp)).1, trivial⟩
    have t2 : T.2.2.1 (a + 2) = nI 135 ∧ True := ⟨(hT 2 (by simp)).1, trivial⟩
    have t3 : T.2.2.1 (a + 3) = nI 136 ∧ True := ⟨(hT 3 (by simp)).1, trivial⟩
    have t4 : T.2.2.1 (a + 4) = nI 61 ∧ True := ⟨(hT 4 (by simp)).1, trivial⟩
    have t5 : T.2.2.1 (a + 5) = nI 141 ∧ True := ⟨(hT 5 (by simp)).1, trivial⟩
    have t6 : T.2.2.1 (a + 6) = nI 2 ∧ T.2.2.2.1 (a + 6) = b + 23 ∧ T.2.2.2.2.1 (a + 6) = b + 23 + (dg (dv (lcg (lcg x)) % h)).length := hT 6 (by simp)
    have t7 : T.2.2.1 (a + 7) = nI 59 ∧ True := ⟨(hT 7 (by simp)).1, trivial⟩
    obtain ⟨q', e, c⟩ := x_3 (T := T) (h := h) (k := 5) (R := R) (a := a + 2) (v := dv (lcg (lcg x)) % h) (q := SS.begin (SS.house q)) hf h8 (by simp at hT0; omega) t2.1 t3.1 t4.1 t5.1 t6.1 t7.1 (by rw [t6.2.1, t6.2.2]; show b + 23 + (dg (dv (lcg (lcg x)) % h)).length - (b + 23) ≤ 4; omega) (by rw [t6.2.1, t6.2.2]; show nv _ (b + 23) (b + 23 + (dg (dv (lcg (lcg x)) % h)).length - (b + 23)) = _; rw [Nat.add_sub_cancel_left]; exact v1) (by omega)
    refine ⟨q', ?_, by rw [if_neg (by simp)]; exact c⟩
    have hs : rSays T q.1 (adv R (a + 1) (SS.house q)) = adv R (a + 7) q' := by rw [hq]; exact s_says hf t1.1 (by simp at hT0; omega) e
    have hL : rLine T (adv R a q) = adv R (a + 7 + 1) q' := s_line hf (by omega) t0.1 (by simp at hT0; omega) hs (by rw [t1.1]; decide) t7.1 (by simp at hT0; omega)
    exact hL
  · rw [if_neg e1, if_neg e2, if_neg e3] at hT
    simp only [if_neg e1, if_neg e2, if_neg e3]
    obtain ⟨hT0, hT⟩ := hT
    have t0 : T.2.2.1 a = nI 131 ∧ True := ⟨(hT 0 (by simp)).1, trivial⟩
    have t1 : T.2.2.1 (a + 1) = nI 59 ∧ True := ⟨(hT 1 (by simp)).1, trivial⟩
    refine ⟨SS.house q, ?_, by rw [if_pos (by trivial)]⟩
    have hs : rSays T q.1 (adv R (a + 1) (SS.house q)) = adv R (a + 1) (SS.house q) := by
      unfold rSays
      rw [if_neg (fun z => by have z1 : T.2.2.1 (a + 1) = nI 132 := z.1; rw [t1.1] at z1; exact absurd z1 (by decide))]
    have hL : rLine T (adv R a q) = adv R (a + 1 + 1) (SS.house q) := s_line hf (by omega) t0.1 (by simp at hT0; omega) hs (by rw [t1.1]; decide) t1.1 (by simp at hT0; omega)
    exact hL
def swK (M : Nat) : Nat → Nat → Int32 → Nat → List Tok
  | 0, _, _, _ => []
  | k + 1, h, x, b => sdK x h M b ++ swK M k (h + 1) (sdH x h M).2 (b + (sdH x h M).1.length)
def swQ (M : Nat) : Nat → Nat → Int32 → SS → SS
  | 0, _, _, q => q
  | k + 1, h, x, q => swQ M k (h + 1) (sdH x h M).2 (sdQ x h M q)
theorem cds_ho : ∀ (cs : List Nat) (q : SS), (cds cs q).1 = q.1
  | [], _ => rfl
  | c :: t, q => by
    show (cds t (SS.code q (nI c))).1 = q.1
    rw [cds_ho t]
    obtain ⟨ho, mo, un, ri, cd, tl, lo, co, cf, ct, tx, tf, tt⟩ := q
    simp only [SS.code]
    split <;> rfl
theorem begin_ho (q : SS) : (SS.begin q).1 = q.1 := by
  obtain ⟨ho, mo, un, ri, cd, tl, lo, co, cf, ct, tx, tf, tt⟩ := q
  simp only [SS.begin]
  split <;> rfl
theorem house_ho {q : SS} (h : q.1 < 8) : (SS.house q).1 = q.1 + 1 := by
  obtain ⟨ho, mo, un, ri, cd, tl, lo, co, cf, ct, tx, tf, tt⟩ := q
  simp only [SS.house]
  rw [if_pos h]
theorem sdQ_ho {x : Int32} {h M : Nat} {q : SS} (h8 : q.1 < 8) : (sdQ x h M q).1 = q.1 + 1 := by
  unfold sdQ
  split
  · exact house_ho h8
  · rw [cds_ho, begin_ho, house_ho h8]
theorem core_sdQ {x : Int32} {h M : Nat} {q q2 : SS} (hc : core q = core q2) : core (sdQ x h M q) = core (sdQ x h M q2) := by
  unfold sdQ
  split
  · exact core_house hc
  · exact core_cds _ (core_begin (core_house hc))
theorem core_swQ (M k : Nat) : ∀ (h : Nat) (x : Int32) (q q2 : SS), core q = core q2 → core (swQ M k h x q) = core (swQ M k h x q2) := by
  induction k with
  | zero =>
    intro h x q q2 hc
    unfold swQ
    exact hc
  | succ k ih =>
    intro h x q q2 hc
    unfold swQ
    exact ih (h + 1) _ _ _ (core_sdQ hc)
theorem sdK_len (x : Int32) (h M b : Nat) : 2 ≤ (sdK x h M b).length := by
  unfold sdK
  split
  · simp
  split
  · simp
  split
  · simp
  · simp
theorem lx_sw (X : Nat → Int32) (len M : Nat) (hM0 : 0 < M) (hM : M ≤ 20) (k : Nat) : ∀ (h : Nat) (x : Int32) (b : Nat), h + k ≤ 8 → atX X b (swF M k h x) → b + (swF M k h x).length ≤ len → lx X len b = swK M k h x b ++ lx X len (b + (swF M k h x).length) := by
  induction k with
  | zero =>
    intro h x b _ _ _
    unfold swK swF
    rw [List.nil_append, List.length_nil, Nat.add_zero]
  | succ k ih =>
    intro h x b hk hat hl
    unfold swF at hat hl ⊢
    unfold swK
    rw [List.length_append] at hl ⊢
    rw [lx_sd X len x h M b (by omega) hM0 hM (atX_l hat) (by omega), ih (h + 1) _ _ (by omega) (atX_r hat) (by omega), List.append_assoc, Nat.add_assoc]
theorem sw_lines {T : RT} {R : RS} {M : Nat} (hf : R.2.1 = 0) (hM0 : 0 < M) (hM : M ≤ 20) (k : Nat) : ∀ (h : Nat) (x : Int32) (a b N : Nat) (q : SS), h + k ≤ 8 → q.1 = h → k ≤ N → atX T.2.2.2.2.2 b (swF M k h x) → tAt T a (swK M k h x b) → T.2.2.1 (a + (swK M k h x b).length) = nI 0 → ∃ q', rLines T N (adv R a q) = adv R (a + (swK M k h x b).length) q' ∧ core q' = core (swQ M k h x q) := by
  induction k with
  | zero =>
    intro h x a b N q _ _ _ _ _ hz
    unfold swK at hz ⊢
    unfold swQ
    rw [List.length_nil, Nat.add_zero] at hz ⊢
    refine ⟨q, ?_, rfl⟩
    cases N with
    | zero => unfold rLines; rfl
    | succ N =>
      unfold rLines
      rw [if_neg (fun z => z.1 hz)]
  | succ k ih =>
    intro h x a b N q hk hq hN hat hT hz
    unfold swF at hat
    unfold swK at hT hz ⊢
    unfold swQ
    obtain ⟨T1, T2⟩ := tAt_app hT
    obtain ⟨q1, e1, c1⟩ := sd_line (R := R) (q := q) hf hq (by omega) hM0 hM (atX_l hat) T1
    have hq1 : q1.1 = h + 1 := by rw [(core_eq c1).1, sdQ_ho (by omega), hq]
    rw [List.length_append, ← Nat.add_assoc] at hz
    obtain ⟨q2, e2, c2⟩ := ih (h + 1) (sdH x h M).2 _ _ (N - 1) q1 (by omega) hq1 (by omega) (atX_r hat) T2 hz
    refine ⟨q2, ?_, c2.trans (core_swQ M k (h + 1) _ _ _ c1)⟩
    have hK : T.2.2.1 a = nI 131 := by
      have := (T1.2 0 (by have := sdK_len x h M b; omega)).1
      rw [Nat.add_zero] at this
      rw [this]
      unfold sdK
      split
      · rfl
      split
      · rfl
      split
      · rfl
      · rfl
    obtain ⟨N, rfl⟩ : ∃ n, N = n + 1 := ⟨N - 1, by omega⟩
    rw [Nat.add_sub_cancel] at e2
    unfold rLines
    rw [if_pos ⟨show ¬ T.2.2.1 a = 0 by rw [hK]; decide, hf⟩, e1, e2, List.length_append, Nat.add_assoc]
