/-! THE HEAD OF A SEEDED TEXT, AND ALL OF IT -/
def hdK (M : Nat) (u : Int32) : List Tok := [(nI 129, 0, 4), (nI 2, 5, 5 + (dg M).length), (nI 59, 5 + (dg M).length, 5 + (dg M).length + 1)] ++ (if u = 0 then [] else [(nI 130, 5 + (dg M).length + 1, 5 + (dg M).length + 7), (nI 59, 5 + (dg M).length + 7, 5 + (dg M).length + 8)])
def hdQ (M : Nat) (u : Int32) (q : SS) : SS := if u = 0 then SS.smo (nI M) q else SS.sun (nI 1) (SS.smo (nI M) q)
theorem t13 : sB.getD 13 [] = sB.getD 0 [] ++ [nI 32] := by decide
theorem t14 : sB.getD 14 [] = [nI 59] ++ (sB.getD 1 [] ++ [nI 59]) := by decide
theorem t15 : sB.getD 15 [] = [nI 59] := by decide
theorem lx_hd (X : Nat → Int32) (len M : Nat) (u : Int32) (hM : M ≤ 20) (hat : atX X 0 (hdB M u)) (hl : (hdB M u).length ≤ len) : lx X len 0 = hdK M u ++ lx X len (hdB M u).length := by
  have b13 : (sB.getD 13 []).length = 5 := by decide
  have b14 : (sB.getD 14 []).length = 8 := by decide
  have b15 : (sB.getD 15 []).length = 1 := by decide
  unfold hdB at hat hl ⊢
  unfold hdK
  by_cases e : u = 0
  · rw [if_pos e] at hat hl ⊢
    rw [if_pos e]
    have hn : (sB.getD 13 [] ++ dg M ++ sB.getD 15 []).length = 5 + (dg M).length + 1 := by simp only [List.length_append, b13, b15]
    rw [hn] at hl ⊢
    rw [t13, t15] at hat
    simp only [List.append_assoc] at hat
    obtain ⟨w1, r1⟩ := at_w 0 4 (by decide) hat
    obtain ⟨x2, r2⟩ := at_1 r1
    obtain ⟨w3, r3⟩ := at_d r2
    have x4 := at_e r3
    rw [lx_w 0 4 (by decide) (by decide) w1 (by omega) x2 (by decide), lx_blank x2 (by omega), lx_n (by omega) w3 (by omega) x4 (by decide), lx_sign 59 (by decide) x4 (by omega)]
    simp only [List.cons_append, List.nil_append, List.append_nil, Nat.zero_add, Nat.add_assoc, Nat.reduceAdd]
  · rw [if_neg e] at hat hl ⊢
    rw [if_neg e]
    have hn : (sB.getD 13 [] ++ dg M ++ sB.getD 14 []).length = 5 + (dg M).length + 8 := by simp only [List.length_append, b13, b14]
    rw [hn] at hl ⊢
    rw [t13, t14] at hat
    simp only [List.append_assoc] at hat
    obtain ⟨w1, r1⟩ := at_w 0 4 (by decide) hat
    obtain ⟨x2, r2⟩ := at_1 r1
    obtain ⟨w3, r3⟩ := at_d r2
    obtain ⟨x4, r4⟩ := at_1 r3
    obtain ⟨w5, r5⟩ := at_w 1 6 (by decide) r4
    have x6 := at_e r5
    rw [lx_w 0 4 (by decide) (by decide) w1 (by omega) x2 (by decide), lx_blank x2 (by omega), lx_n (by omega) w3 (by omega) x4 (by decide), lx_sign 59 (by decide) x4 (by omega), lx_w 1 6 (by decide) (by decide) w5 (by omega) x6 (by decide), lx_sign 59 (by decide) x6 (by omega)]
    simp only [List.cons_append, List.nil_append, Nat.zero_add, Nat.add_assoc, Nat.reduceAdd]
theorem m_line {T : RT} {R : RS} {a v : Nat} {q : SS} (hf : R.2.1 = 0) (hm : R.2.2.2.1 = 0) (ha : a + 3 < T.2.1) (k0 : T.2.2.1 a = nI 129) (k1 : T.2.2.1 (a + 1) = nI 2) (k2 : T.2.2.1 (a + 2) = nI 59) (hl : T.2.2.2.2.1 (a + 1) - T.2.2.2.1 (a + 1) ≤ 4) (hv : nv T.2.2.2.2.2 (T.2.2.2.1 (a + 1)) (T.2.2.2.2.1 (a + 1) - T.2.2.2.1 (a + 1)) = nI v) (h2 : 2 ≤ v) (h20 : v ≤ 20) : rLine T (adv R a q) = adv (rMt (nI 1) R) (a + 3) (SS.smo (nI v) q) := by
  have kk : rk T (adv R a q) = nI 129 := k0
  have k2' : rk T (adv (rMt (nI 1) R) (a + 1) q) = nI 2 := k1
  have v1 : rNumV T (nI 2) (nI 20) (adv (rMt (nI 1) R) (a + 1) q) = nI v := by
    unfold rNumV
    rw [if_neg (fun z => z hf), if_neg (fun z => z k2'), if_neg (show ¬ 4 < T.2.2.2.2.1 (adv (rMt (nI 1) R) (a + 1) q).1 - T.2.2.2.1 (adv (rMt (nI 1) R) (a + 1) q).1 from (by show ¬ 4 < T.2.2.2.2.1 (a + 1) - T.2.2.2.1 (a + 1); omega))]
    show (if nv T.2.2.2.2.2 (T.2.2.2.1 (a + 1)) (T.2.2.2.2.1 (a + 1) - T.2.2.2.1 (a + 1)) < nI 2 ∨ nI 20 < nv T.2.2.2.2.2 (T.2.2.2.1 (a + 1)) (T.2.2.2.2.1 (a + 1) - T.2.2.2.1 (a + 1)) then nI 2 else nv T.2.2.2.2.2 (T.2.2.2.1 (a + 1)) (T.2.2.2.2.1 (a + 1) - T.2.2.2.1 (a + 1))) = nI v
    rw [hv, if_neg (by rw [nI_ltI (by omega) (by omega), nI_ltI (by omega) (by omega)]; omega)]
  have r1 : rNumR T (nI 2) (nI 20) (adv (rMt (nI 1) R) (a + 1) q) = adv (rMt (nI 1) R) (a + 1) q := by
    unfold rNumR
    rw [if_neg (fun z => z hf), if_neg (fun z => z k2'), if_neg (show ¬ 4 < T.2.2.2.2.1 (adv (rMt (nI 1) R) (a + 1) q).1 - T.2.2.2.1 (adv (rMt (nI 1) R) (a + 1) q).1 from (by show ¬ 4 < T.2.2.2.2.1 (a + 1) - T.2.2.2.1 (a + 1); omega))]
    show (if nv T.2.2.2.2.2 (T.2.2.2.1 (a + 1)) (T.2.2.2.2.1 (a + 1) - T.2.2.2.1 (a + 1)) < nI 2 ∨ nI 20 < nv T.2.2.2.2.2 (T.2.2.2.1 (a + 1)) (T.2.2.2.2.1 (a + 1) - T.2.2.2.1 (a + 1)) then _ else adv (rMt (nI 1) R) (a + 1) q) = _
    rw [hv, if_neg (by rw [nI_ltI (by omega) (by omega), nI_ltI (by omega) (by omega)]; omega)]
  have e1 : rMost T (adv R a q) = adv (rMt (nI 1) R) (a + 2) (SS.smo (nI v) q) := by
    unfold rMost
    rw [if_neg (fun z => z hm)]
    show rMost2 T (rNx T (adv (rMt (nI 1) R) a q)) = _
    rw [e_nx (by omega)]
    unfold rMost2
    rw [v1, r1]
    show rNx T (adv (rMt (nI 1) R) (a + 1) (SS.smo (nI v) q)) = _
    exact e_nx (by omega)
  unfold rLine
  rw [kk, if_pos rfl, e1]
  unfold rPass
  rw [if_pos (show rk T (adv (rMt (nI 1) R) (a + 2) (SS.smo (nI v) q)) = nI 59 from k2)]
  exact e_nx (by omega)
theorem u_line {T : RT} {R : RS} {a : Nat} {q : SS} (hu : q.2.2.1 = 0) (ha : a + 2 < T.2.1) (k0 : T.2.2.1 a = nI 130) (k1 : T.2.2.1 (a + 1) = nI 59) : rLine T (adv R a q) = adv R (a + 2) (SS.sun (nI 1) q) := by
  have kk : rk T (adv R a q) = nI 130 := k0
  have e1 : rUnl T (adv R a q) = adv R (a + 1) (SS.sun (nI 1) q) := by
    unfold rUnl
    rw [if_neg (fun z => z hu)]
    show rNx T (adv R a (SS.sun (nI 1) q)) = _
    exact e_nx (by omega)
  unfold rLine
  rw [kk, if_neg (by decide), if_pos rfl, e1]
  unfold rPass
  rw [if_pos (show rk T (adv R (a + 1) (SS.sun (nI 1) q)) = nI 59 from k1)]
  exact e_nx (by omega)
theorem smo_p (v : Int32) (q : SS) : (SS.smo v q).1 = q.1 ∧ (SS.smo v q).2.2.1 = q.2.2.1 := by
  obtain ⟨ho, mo, un, ri, cd, tl, lo, co, cf, ct, tx, tf, tt⟩ := q
  exact ⟨rfl, rfl⟩
theorem sun_p (v : Int32) (q : SS) : (SS.sun v q).1 = q.1 := by
  obtain ⟨ho, mo, un, ri, cd, tl, lo, co, cf, ct, tx, tf, tt⟩ := q
  rfl
theorem swK_len (M k : Nat) : ∀ (h : Nat) (x : Int32) (b : Nat), 2 * k ≤ (swK M k h x b).length := by
  induction k with
  | zero => intro h x b; omega
  | succ k ih =>
    intro h x b
    unfold swK
    have h1 := sdK_len x h M b
    have h2 := ih (h + 1) (sdH x h M).2 (b + (sdH x h M).1.length)
    rw [List.length_append]
    omega
theorem sw_read {X : Nat → Int32} {R : RS} {M H : Nat} {u x : Int32} {q : SS} (hf : R.2.1 = 0) (hm : R.2.2.2.1 = 0) (hq : q.1 = 0) (hu : q.2.2.1 = 0) (hM2 : 2 ≤ M) (hM : M ≤ 20) (hH : H ≤ 8) (hat : atX X 0 (swT M u H x)) (hl : (swT M u H x).length ≤ 500) : ∃ a q', rLines (tkT (swT M u H x).length X) (tks X (swT M u H x).length).length (adv R 0 q) = adv (rMt (nI 1) R) a q' ∧ core q' = core (swQ M H 0 x (hdQ M u q)) := by
  have hlen : (swT M u H x).length = (hdB M u).length + (swF M H 0 x).length := by unfold swT; rw [List.length_append]
  have hL : lx X (swT M u H x).length 0 = hdK M u ++ swK M H 0 x (hdB M u).length := by
    rw [lx_hd X _ M u hM (atX_l hat) (by omega), lx_sw X _ M (by omega) hM H 0 x _ (by omega) (by have := atX_r hat; rw [Nat.zero_add] at this; exact this) (by omega), lx_end (by omega), List.append_nil]
  have hT := tks_lx X (swT M u H x).length hl
  rw [hL] at hT
  obtain ⟨T0, T1, T2⟩ := tAt_of hT
  have hX : (tkT (swT M u H x).length X).2.2.2.2.2 = X := rfl
  have hN : (tks X (swT M u H x).length).length = (tkT (swT M u H x).length X).2.1 := rfl
  rw [hN, T2]
  obtain ⟨TA, TB⟩ := tAt_app T0
  rw [Nat.zero_add] at TB
  generalize tkT (swT M u H x).length X = T at *
  have hKl := swK_len M H 0 x (hdB M u).length
  rw [List.length_append] at T1 T2 ⊢
  have w1 := atX_l hat
  unfold hdB at w1
  have w2 := atX_r (atX_l w1)
  rw [show (sB.getD 13 []).length = 5 by decide, Nat.zero_add] at w2
  have l2 := dg_len M
  have v1 := nv_dg (by omega) w2
  have hat2 : atX T.2.2.2.2.2 (hdB M u).length (swF M H 0 x) := by
    rw [hX]
    have := atX_r hat
    rw [Nat.zero_add] at this
    exact this
  unfold hdK at TA
  obtain ⟨TA1, TA2⟩ := tAt_app TA
  obtain ⟨z0, z⟩ := TA1
  have t0 : T.2.2.1 0 = nI 129 := (z 0 (by simp)).1
  have t1 : T.2.2.1 1 = nI 2 ∧ T.2.2.2.1 1 = 5 ∧ T.2.2.2.2.1 1 = 5 + (dg M).length := z 1 (by simp)
  have t2 : T.2.2.1 2 = nI 59 := (z 2 (by simp)).1
  have hr : rLine T (adv R 0 q) = adv (rMt (nI 1) R) (0 + 3) (SS.smo (nI M) q) := m_line hf hm (by simp at z0; omega) t0 t1.1 t2 (by show T.2.2.2.2.1 1 - T.2.2.2.1 1 ≤ 4; rw [t1.2.1, t1.2.2]; omega) (by show nv T.2.2.2.2.2 (T.2.2.2.1 1) (T.2.2.2.2.1 1 - T.2.2.2.1 1) = nI M; rw [t1.2.1, t1.2.2, Nat.add_sub_cancel_left, hX]; exact v1) hM2 hM
  by_cases e : u = 0
  · have hk3 : (hdK M u).length = 3 := by unfold hdK; rw [if_pos e]; rfl
    rw [hk3] at TB T1 ⊢
    obtain ⟨q', e1, c1⟩ := sw_lines (R := rMt (nI 1) R) hf (by omega) hM H 0 x 3 (hdB M u).length (2 + (swK M H 0 x (hdB M u).length).length + 1) (SS.smo (nI M) q) (by omega) (by rw [(smo_p _ _).1]; exact hq) (by omega) hat2 TB T1
    refine ⟨3 + (swK M H 0 x (hdB M u).length).length, q', ?_, by unfold hdQ; rw [if_pos e]; exact c1⟩
    rw [show 3 + (swK M H 0 x (hdB M u).length).length + 1 = (2 + (swK M H 0 x (hdB M u).length).length + 1) + 1 by omega]
    unfold rLines
    rw [if_pos ⟨show ¬ T.2.2.1 0 = 0 by rw [t0]; decide, hf⟩, hr]
    exact e1
  · have hk5 : (hdK M u).length = 5 := by unfold hdK; rw [if_neg e]; rfl
    rw [hk5] at TB T1 ⊢
    rw [if_neg e] at TA2
    obtain ⟨z0', z'⟩ := TA2
    have t3 : T.2.2.1 3 = nI 130 := (z' 0 (by simp)).1
    have t4 : T.2.2.1 4 = nI 59 := (z' 1 (by simp)).1
    have hr2 : rLine T (adv (rMt (nI 1) R) 3 (SS.smo (nI M) q)) = adv (rMt (nI 1) R) (3 + 2) (SS.sun (nI 1) (SS.smo (nI M) q)) := u_line (by rw [(smo_p _ _).2]; exact hu) (by omega) t3 t4
    obtain ⟨q', e1, c1⟩ := sw_lines (R := rMt (nI 1) R) hf (by omega) hM H 0 x 5 (hdB M u).length (3 + (swK M H 0 x (hdB M u).length).length + 1) (SS.sun (nI 1) (SS.smo (nI M) q)) (by omega) (by rw [sun_p, (smo_p _ _).1]; exact hq) (by omega) hat2 TB T1
    refine ⟨5 + (swK M H 0 x (hdB M u).length).length, q', ?_, by unfold hdQ; rw [if_neg e]; exact c1⟩
    rw [show 5 + (swK M H 0 x (hdB M u).length).length + 1 = ((3 + (swK M H 0 x (hdB M u).length).length + 1) + 1) + 1 by omega]
    unfold rLines
    rw [if_pos ⟨show ¬ T.2.2.1 0 = 0 by rw [t0]; decide, hf⟩, hr]
    unfold rLines
    rw [if_pos ⟨show ¬ T.2.2.1 3 = 0 by rw [t3]; decide, hf⟩]
    rw [hr2]
    exact e1
