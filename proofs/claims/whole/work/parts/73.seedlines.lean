/-! SEEDED LINES: cut and read -/
def cds (cs : List Nat) (q : SS) : SS := cs.foldl (fun q c => SS.code q (nI c)) q
theorem core_cds : ∀ (cs : List Nat) {q q2 : SS}, core q = core q2 → core (cds cs q) = core (cds cs q2)
  | [], _, _, h => h
  | c :: t, _, _, h => core_cds t (core_code _ h)
section
variable {T : RT} {h k : Nat} {R : RS}
theorem x_1 {a v : Nat} {q : SS} (hf : R.2.1 = 0) (h8 : h < 8) (ha : a + 3 < T.2.1) (k0 : T.2.2.1 a = nI 136) (k1 : T.2.2.1 (a + 1) = nI 61) (k2 : T.2.2.1 (a + 2) = nI 2) (k3 : T.2.2.1 (a + 3) = nI 59) (hl : T.2.2.2.2.1 (a + 2) - T.2.2.2.1 (a + 2) ≤ 4) (hv : nv T.2.2.2.2.2 (T.2.2.2.1 (a + 2)) (T.2.2.2.2.1 (a + 2) - T.2.2.2.1 (a + 2)) = nI v) (hv9 : v ≤ 9999) : ∃ q', rExpr T h (k + 1) (adv R a q) = adv R (a + 3) q' ∧ core q' = core (cds [10000 + h, v, 20009] q) := by
  obtain ⟨q1, e1, c1⟩ := p_here (E := rExpr T h k) (q := q) hf k0 (by omega) h8
  have s1 := s_sum e1 (by show is2 42 47 (T.2.2.1 (a + 1)) = false; rw [k1]; decide) (by show is2 43 45 (T.2.2.1 (a + 1)) = false; rw [k1]; decide)
  obtain ⟨q2, e2, c2⟩ := p_num (h := h) (E := rExpr T h k) (R := R) (q := SS.token q1 T.2.2.2.2.2 (T.2.2.2.1 (a + 1)) (T.2.2.2.2.1 (a + 1))) hf k2 (by omega) hl hv hv9
  have s2 := s_sum e2 (by show is2 42 47 (T.2.2.1 (a + 3)) = false; rw [k3]; decide) (by show is2 43 45 (T.2.2.1 (a + 3)) = false; rw [k3]; decide)
  obtain ⟨q3, e3, c3⟩ := s_test (R := R) (q2 := SS.code (SS.code q (nI (10000 + h))) (nI v)) hf s1 k1 ⟨q2, by rw [e_take (by omega)]; exact s2, c2.trans (core_code _ ((core_token _ _ _ _).trans c1))⟩
  exact ⟨q3, s_expr (s_not0 e3 (by show ¬ T.2.2.1 a = nI 135; rw [k0]; decide)) k3, c3⟩
theorem x_2 {a v w : Nat} {q : SS} (hf : R.2.1 = 0) (h8 : h < 8) (ha : a + 6 < T.2.1) (k0 : T.2.2.1 a = nI 136) (k1 : T.2.2.1 (a + 1) = nI 61) (k2 : T.2.2.1 (a + 2) = nI 141) (k3 : T.2.2.1 (a + 3) = nI 2) (k4 : T.2.2.1 (a + 4) = nI 43) (k5 : T.2.2.1 (a + 5) = nI 2) (k6 : T.2.2.1 (a + 6) = nI 59) (hl : T.2.2.2.2.1 (a + 3) - T.2.2.2.1 (a + 3) ≤ 4) (hv : nv T.2.2.2.2.2 (T.2.2.2.1 (a + 3)) (T.2.2.2.2.1 (a + 3) - T.2.2.2.1 (a + 3)) = nI v) (hv7 : v ≤ 7) (hl2 : T.2.2.2.2.1 (a + 5) - T.2.2.2.1 (a + 5) ≤ 4) (hw : nv T.2.2.2.2.2 (T.2.2.2.1 (a + 5)) (T.2.2.2.2.1 (a + 5) - T.2.2.2.1 (a + 5)) = nI w) (hw9 : w ≤ 9999) : ∃ q', rExpr T h (k + 1) (adv R a q) = adv R (a + 6) q' ∧ core q' = core (cds [10000 + h, 10000 + v, w, 20004, 20009] q) := by
  obtain ⟨q1, e1, c1⟩ := p_here (E := rExpr T h k) (q := q) hf k0 (by omega) h8
  have s1 := s_sum e1 (by show is2 42 47 (T.2.2.1 (a + 1)) = false; rw [k1]; decide) (by show is2 43 45 (T.2.2.1 (a + 1)) = false; rw [k1]; decide)
  obtain ⟨q2, e2, c2⟩ := p_of (h := h) (E := rExpr T h k) (R := R) (q := SS.token q1 T.2.2.2.2.2 (T.2.2.2.1 (a + 1)) (T.2.2.2.2.1 (a + 1))) hf k2 k3 (by omega) hl hv hv7
  have c2' : core q2 = core (SS.code (SS.code q (nI (10000 + h))) (nI (10000 + v))) := c2.trans (core_code _ ((core_token _ _ _ _).trans c1))
  obtain ⟨q3, e3, c3⟩ := p_num (h := h) (E := rExpr T h k) (R := R) (q := SS.token q2 T.2.2.2.2.2 (T.2.2.2.1 (a + 4)) (T.2.2.2.2.1 (a + 4))) hf k5 (by omega) hl2 hw hw9
  obtain ⟨q4, e4, c4⟩ := s_sum2 (R := R) (q2 := SS.code (SS.code (SS.code q (nI (10000 + h))) (nI (10000 + v))) (nI w)) hf e2 k4 (by omega) ⟨q3, by rw [e_take (by omega)]; exact e3, c3.trans (core_code _ ((core_token _ _ _ _).trans c2'))⟩ (Or.inl k6)
  obtain ⟨q5, e5, c5⟩ := s_test (R := R) (q2 := SS.code (SS.code (SS.code (SS.code q (nI (10000 + h))) (nI (10000 + v))) (nI w)) (nI 20004)) hf s1 k1 ⟨q4, by rw [e_take (by omega)]; exact e4, c4⟩
  exact ⟨q5, s_expr (s_not0 e5 (by show ¬ T.2.2.1 a = nI 135; rw [k0]; decide)) k6, c5⟩
theorem x_3 {a v : Nat} {q : SS} (hf : R.2.1 = 0) (h8 : h < 8) (ha : a + 5 < T.2.1) (k0 : T.2.2.1 a = nI 135) (k1 : T.2.2.1 (a + 1) = nI 136) (k2 : T.2.2.1 (a + 2) = nI 61) (k3 : T.2.2.1 (a + 3) = nI 141) (k4 : T.2.2.1 (a + 4) = nI 2) (k5 : T.2.2.1 (a + 5) = nI 59) (hl : T.2.2.2.2.1 (a + 4) - T.2.2.2.1 (a + 4) ≤ 4) (hv : nv T.2.2.2.2.2 (T.2.2.2.1 (a + 4)) (T.2.2.2.2.1 (a + 4) - T.2.2.2.1 (a + 4)) = nI v) (hv7 : v ≤ 7) : ∃ q', rExpr T h (k + 1) (adv R a q) = adv R (a + 5) q' ∧ core q' = core (cds [10000 + h, 10000 + v, 20009, 20003] q) := by
  obtain ⟨q1, e1, c1⟩ := p_here (E := rExpr T h k) (R := R) (q := SS.token q T.2.2.2.2.2 (T.2.2.2.1 a) (T.2.2.2.2.1 a)) hf k1 (by omega) h8
  have c1' : core q1 = core (SS.code q (nI (10000 + h))) := c1.trans (core_code _ (core_token _ _ _ _))
  have s1 := s_sum e1 (by show is2 42 47 (T.2.2.1 (a + 2)) = false; rw [k2]; decide) (by show is2 43 45 (T.2.2.1 (a + 2)) = false; rw [k2]; decide)
  obtain ⟨q2, e2, c2⟩ := p_of (h := h) (E := rExpr T h k) (R := R) (q := SS.token q1 T.2.2.2.2.2 (T.2.2.2.1 (a + 2)) (T.2.2.2.2.1 (a + 2))) hf k3 k4 (by omega) hl hv hv7
  have s2 := s_sum e2 (by show is2 42 47 (T.2.2.1 (a + 5)) = false; rw [k5]; decide) (by show is2 43 45 (T.2.2.1 (a + 5)) = false; rw [k5]; decide)
  obtain ⟨q3, e3, c3⟩ := s_test (R := R) (q2 := SS.code (SS.code q (nI (10000 + h))) (nI (10000 + v))) hf s1 k2 ⟨q2, by rw [e_take (by omega)]; exact s2, c2.trans (core_code _ ((core_token _ _ _ _).trans c1'))⟩
  have e4 := s_not1 (h := h) (E := rExpr T h k) (R := R) (q1 := q) (q2 := q3) (a2 := a + 5) hf k0 (by rw [e_take (by omega)]; exact e3) (by rw [e_take (by omega)]; show ¬ T.2.2.1 (a + 1) = nI 135; rw [k1]; decide)
  exact ⟨_, s_expr e4 k5, core_code _ c3⟩
end
/-- a seeded house's codes, as numbers; its line's tokens; the street behind it -/
def sdC (x : Int32) (h M : Nat) : List Nat :=
  if dv (lcg x) % 4 = 1 then [10000 + h, 1 + dv (lcg (lcg x)) % M, 20009]
  else if dv (lcg x) % 4 = 2 ∧ 0 < h then [10000 + h, 10000 + dv (lcg (lcg x)) % h, dv (lcg (lcg (lcg x))) % 4, 20004, 20009]
  else if dv (lcg x) % 4 = 3 ∧ 0 < h then [10000 + h, 10000 + dv (lcg (lcg x)) % h, 20009, 20003]
  else []
def sdK (x : Int32) (h M b : Nat) : List Tok :=
  if dv (lcg x) % 4 = 1 then [(nI 131, b, b + 5), (nI 132, b + 6, b + 10), (nI 136, b + 11, b + 15), (nI 61, b + 15, b + 16), (nI 2, b + 16, b + 16 + (dg (1 + dv (lcg (lcg x)) % M)).length), (nI 59, b + 16 + (dg (1 + dv (lcg (lcg x)) % M)).length, b + 16 + (dg (1 + dv (lcg (lcg x)) % M)).length + 1)]
  else if dv (lcg x) % 4 = 2 ∧ 0 < h then [(nI 131, b, b + 5), (nI 132, b + 6, b + 10), (nI 136, b + 11, b + 15), (nI 61, b + 15, b + 16), (nI 141, b + 16, b + 18), (nI 2, b + 19, b + 19 + (dg (dv (lcg (lcg x)) % h)).length), (nI 43, b + 19 + (dg (dv (lcg (lcg x)) % h)).length, b + 19 + (dg (dv (lcg (lcg x)) % h)).length + 1), (nI 2, b + 19 + (dg (dv (lcg (lcg x)) % h)).length + 1, b + 19 + (dg (dv (lcg (lcg x)) % h)).length + 1 + (dg (dv (lcg (lcg (lcg x))) % 4)).length), (nI 59, b + 19 + (dg (dv (lcg (lcg x)) % h)).length + 1 + (dg (dv (lcg (lcg (lcg x))) % 4)).length, b + 19 + (dg (dv (lcg (lcg x)) % h)).length + 1 + (dg (dv (lcg (lcg (lcg x))) % 4)).length + 1)]
  else if dv (lcg x) % 4 = 3 ∧ 0 < h then [(nI 131, b, b + 5), (nI 132, b + 6, b + 10), (nI 135, b + 11, b + 14), (nI 136, b + 15, b + 19), (nI 61, b + 19, b + 20), (nI 141, b + 20, b + 22), (nI 2, b + 23, b + 23 + (dg (dv (lcg (lcg x)) % h)).length), (nI 59, b + 23 + (dg (dv (lcg (lcg x)) % h)).length, b + 23 + (dg (dv (lcg (lcg x)) % h)).length + 1)]
  else [(nI 131, b, b + 5), (nI 59, b + 5, b + 6)]
def sdQ (x : Int32) (h M : Nat) (q : SS) : SS := if sdC x h M = [] then SS.house q else cds (sdC x h M) (SS.begin (SS.house q))
theorem t18 : sB.getD 18 [] = [nI 32] ++ (sB.getD 3 [] ++ ([nI 32] ++ (sB.getD 7 [] ++ [nI 61]))) := by decide
theorem t19 : sB.getD 19 [] = [nI 32] ++ (sB.getD 3 [] ++ ([nI 32] ++ (sB.getD 7 [] ++ ([nI 61] ++ (sB.getD 12 [] ++ [nI 32]))))) := by decide
theorem t20 : sB.getD 20 [] = [nI 32] ++ (sB.getD 3 [] ++ ([nI 32] ++ (sB.getD 6 [] ++ ([nI 32] ++ (sB.getD 7 [] ++ ([nI 61] ++ (sB.getD 12 [] ++ [nI 32]))))))) := by decide
/-- pieces of a text one behind the other -/
theorem at_w {X : Nat → Int32} {b : Nat} (w n : Nat) {v : List Int32} (hn : (sB.getD w []).length = n) (h : atX X b (sB.getD w [] ++ v)) : atX X b (sB.getD w []) ∧ atX X (b + n) v := ⟨atX_l h, by have := atX_r h; rw [hn] at this; exact this⟩
theorem at_1 {X : Nat → Int32} {b : Nat} {c : Int32} {v : List Int32} (h : atX X b ([c] ++ v)) : X b = c ∧ atX X (b + 1) v := ⟨atX_0 h, atX_r h⟩
theorem at_d {X : Nat → Int32} {b k : Nat} {v : List Int32} (h : atX X b (dg k ++ v)) : atX X b (dg k) ∧ atX X (b + (dg k).length) v := ⟨atX_l h, atX_r h⟩
theorem at_e {X : Nat → Int32} {b : Nat} {c : Int32} (h : atX X b [c]) : X b = c := atX_0 h
theorem lx_w {X : Nat → Int32} {len b : Nat} (w n : Nat) {c : Nat} (hw : w < 13) (hn : sN w = n) (h : atX X b (sB.getD w [])) (hl : b + n < len) (hx : X (b + n) = nI c) (hc : isL (nI c) = false) : lx X len b = (nI (129 + w), b, b + n) :: lx X len (b + n) := by
  subst hn
  exact lx_word w hw h (by omega) (Or.inr (by rw [hx]; exact hc))
theorem lx_n {X : Nat → Int32} {len b k c : Nat} (hk : k < 100) (h : atX X b (dg k)) (hl : b + (dg k).length < len) (hx : X (b + (dg k).length) = nI c) (hc : isD (nI c) = false) : lx X len b = (nI 2, b, b + (dg k).length) :: lx X len (b + (dg k).length) := lx_num hk h (by omega) (Or.inr (by rw [hx]; exact hc))
set_option maxHeartbeats 4000000 in
theorem lx_sd (X : Nat → Int32) (len : Nat) (x : Int32) (h M b : Nat) (h8 : h < 8) (hM0 : 0 < M) (hM : M ≤ 20) (hat : atX X b (sdH x h M).1) (hl : b + (sdH x h M).1.length ≤ len) : lx X len b = sdK x h M b ++ lx X len (b + (sdH x h M).1.length) := by
  have b2 : (sB.getD 2 []).length = 5 := by decide
  have b3 : (sB.getD 3 []).length = 4 := by decide
  have b6 : (sB.getD 6 []).length = 3 := by decide
  have b7 : (sB.getD 7 []).length = 4 := by decide
  have b12 : (sB.getD 12 []).length = 2 := by decide
  have a3 := Nat.mod_lt (dv (lcg (lcg (lcg x)))) (show 0 < 4 by omega)
  have a1 := Nat.mod_lt (dv (lcg (lcg x))) hM0
  unfold sdH at hat hl ⊢
  unfold sdK
  by_cases e1 : dv (lcg x) % 4 = 1
  · skip
    rw [if_pos e1] at hat hl ⊢
    rw [if_pos e1]
    dsimp only at hat hl ⊢
    have hn : (sB.getD 2 [] ++ (sB.getD 18 [] ++ ((dg (1 + dv (lcg (lcg x)) % M)) ++ [nI 59]))).length = 16 + (dg (1 + dv (lcg (lcg x)) % M)).length + 1 := by
      simp only [List.length_append, List.length_cons, List.length_nil, b2, show (sB.getD 18 []).length = 11 by decide, show (sB.getD 19 []).length = 14 by decide, show (sB.getD 20 []).length = 18 by decide]
      try omega
    rw [hn] at hl ⊢
    rw [t18] at hat
    simp only [List.append_assoc] at hat
    obtain ⟨w1, r1⟩ := at_w 2 5 (by decide) hat
    obtain ⟨x2, r2⟩ := at_1 r1
    obtain ⟨w3, r3⟩ := at_w 3 4 (by decide) r2
    obtain ⟨x4, r4⟩ := at_1 r3
    obtain ⟨w5, r5⟩ := at_w 7 4 (by decide) r4
    obtain ⟨x6, r6⟩ := at_1 r5
    obtain ⟨w7, r7⟩ := at_d r6
    have x8 := at_e r7
    rw [lx_w 2 5 (by decide) (by decide) w1 (by omega) x2 (by decide)]
    rw [lx_blank x2 (by omega)]
    rw [lx_w 3 4 (by decide) (by decide) w3 (by omega) x4 (by decide)]
    rw [lx_blank x4 (by omega)]
    rw [lx_w 7 4 (by decide) (by decide) w5 (by omega) x6 (by decide)]
    rw [lx_sign 61 (by decide) x6 (by omega)]
    rw [lx_n (by omega) w7 (by omega) x8 (by decide)]
    rw [lx_sign 59 (by decide) x8 (by omega)]
    simp only [List.cons_append, List.nil_append, Nat.add_assoc, Nat.reduceAdd]
  by_cases e2 : dv (lcg x) % 4 = 2 ∧ 0 < h
  · skip
    rw [if_neg e1, if_pos e2] at hat hl ⊢
    rw [if_neg e1, if_pos e2]
    dsimp only at hat hl ⊢
    have a2 := Nat.mod_lt (dv (lcg (lcg x))) e2.2
    have hn : (sB.getD 2 [] ++ (sB.getD 19 [] ++ ((dg (dv (lcg (lcg x)) % h)) ++ ([nI 43] ++ ((dg (dv (lcg (lcg (lcg x))) % 4)) ++ [nI 59]))))).length = 19 + (dg (dv (lcg (lcg x)) % h)).length + 1 + (dg (dv (lcg (lcg (lcg x))) % 4)).length + 1 := by
      simp only [List.length_append, List.length_cons, List.length_nil, b2, show (sB.getD 18 []).length = 11 by decide, show (sB.getD 19 []).length = 14 by decide, show (sB.getD 20 []).length = 18 by decide]
      try omega
    rw [hn] at hl ⊢
    rw [t19] at hat
    simp only [List.append_assoc] at hat
    obtain ⟨w1, r1⟩ := at_w 2 5 (by decide) hat
    obtain ⟨x2, r2⟩ := at_1 r1
    obtain ⟨w3, r3⟩ := at_w 3 4 (by decide) r2
    obtain ⟨x4, r4⟩ := at_1 r3
    obtain ⟨w5, r5⟩ := at_w 7 4 (by decide) r4
    obtain ⟨x6, r6⟩ := at_1 r5
    obtain ⟨w7, r7⟩ := at_w 12 2 (by decide) r6
    obtain ⟨x8, r8⟩ := at_1 r7
    obtain ⟨w9, r9⟩ := at_d r8
    obtain ⟨x10, r10⟩ := at_1 r9
    obtain ⟨w11, r11⟩ := at_d r10
    have x12 := at_e r11
    rw [lx_w 2 5 (by decide) (by decide) w1 (by omega) x2 (by decide)]
    rw [lx_blank x2 (by omega)]
    rw [lx_w 3 4 (by decide) (by decide) w3 (by omega) x4 (by decide)]
    rw [lx_blank x4 (by omega)]
    rw [lx_w 7 4 (by decide) (by decide) w5 (by omega) x6 (by decide)]
    rw [lx_sign 61 (by decide) x6 (by omega)]
    rw [lx_w 12 2 (by decide) (by decide) w7 (by omega) x8 (by decide)]
    rw [lx_blank x8 (by omega)]
    rw [lx_n (by omega) w9 (by omega) x10 (by decide)]
    rw [lx_sign 43 (by decide) x10 (by omega)]
    rw [lx_n (by omega) w11 (by omega) x12 (by decide)]
    rw [lx_sign 59 (by decide) x12 (by omega)]
    simp only [List.cons_append, List.nil_append, Nat.add_assoc, Nat.reduceAdd]
  by_cases e3 : dv (lcg x) % 4 = 3 ∧ 0 < h
  · skip
    rw [if_neg e1, if_neg e2, if_pos e3] at hat hl ⊢
    rw [if_neg e1, if_neg e2, if_pos e3]
    dsimp only at hat hl ⊢
    have a2 := Nat.mod_lt (dv (lcg (lcg x))) e3.2
    have hn : (sB.getD 2 [] ++ (sB.getD 20 [] ++ ((dg (dv (lcg (lcg x)) % h)) ++ [nI 59]))).length = 23 + (dg (dv (lcg (lcg x)) % h)).length + 1 := by
      simp only [List.length_append, List.length_cons, List.length_nil, b2, show (sB.getD 18 []).length = 11 by decide, show (sB.getD 19 []).length = 14 by decide, show (sB.getD 20 []).length = 18 by decide]
      try omega
    rw [hn] at hl ⊢
    rw [t20] at hat
    simp only [List.append_assoc] at hat
    obtain ⟨w1, r1⟩ := at_w 2 5 (by decide) hat
    obtain ⟨x2, r2⟩ := at_1 r1
    obtain ⟨w3, r3⟩ := at_w 3 4 (by decide) r2
    obtain ⟨x4, r4⟩ := at_1 r3
    obtain ⟨w5, r5⟩ := at_w 6 3 (by decide) r4
    obtain ⟨x6, r6⟩ := at_1 r5
    obtain ⟨w7, r7⟩ := at_w 7 4 (by decide) r6
    obtain ⟨x8, r8⟩ := at_1 r7
    obtain ⟨w9, r9⟩ := at_w 12 2 (by decide) r8
    obtain ⟨x10, r10⟩ := at_1 r9
    obtain ⟨w11, r11⟩ := at_d r10
    have x12 := at_e r11
    rw [lx_w 2 5 (by decide) (by decide) w1 (by omega) x2 (by decide)]
    rw [lx_blank x2 (by omega)]
    rw [lx_w 3 4 (by decide) (by decide) w3 (by omega) x4 (by decide)]
    rw [lx_blank x4 (by omega)]
    rw [lx_w 6 3 (by decide) (by decide) w5 (by omega) x6 (by decide)]
    rw [lx_blank x6 (by omega)]
    rw [lx_w 7 4 (by decide) (by decide) w7 (by omega) x8 (by decide)]
    rw [lx_sign 61 (by decide) x8 (by omega)]
    rw [lx_w 12 2 (by decide) (by decide) w9 (by omega) x10 (by decide)]
    rw [lx_blank x10 (by omega)]
    rw [lx_n (by omega) w11 (by omega) x12 (by decide)]
    rw [lx_sign 59 (by decide) x12 (by omega)]
    simp only [List.cons_append, List.nil_append, Nat.add_assoc, Nat.reduceAdd]
  · skip
    rw [if_neg e1, if_neg e2, if_neg e3] at hat hl ⊢
    rw [if_neg e1, if_neg e2, if_neg e3]
    dsimp only at hat hl ⊢
    have hn : (sB.getD 2 [] ++ [nI 59]).length = 6 := by
      simp only [List.length_append, List.length_cons, List.length_nil, b2, show (sB.getD 18 []).length = 11 by decide, show (sB.getD 19 []).length = 14 by decide, show (sB.getD 20 []).length = 18 by decide]
      try omega
    rw [hn] at hl ⊢
    obtain ⟨w1, r1⟩ := at_w 2 5 (by decide) hat
    have x2 := at_e r1
    rw [lx_w 2 5 (by decide) (by decide) w1 (by omega) x2 (by decide)]
    rw [lx_sign 59 (by decide) x2 (by omega)]
    simp only [List.cons_append, List.nil_append, Nat.add_assoc, Nat.reduceAdd]

