/-! PLANT: a seeded house's text, pure -/
def sdT (x : Int32) (h M : Nat) : List Int32 :=
  if dv (lcg x) % 4 = 1 then hereW ++ ([nI 61] ++ dg (1 + dv (lcg (lcg x)) % M))
  else if dv (lcg x) % 4 = 2 ∧ 0 < h then hereW ++ ([nI 61] ++ (ofW ++ ([nI 32] ++ (dg (dv (lcg (lcg x)) % h) ++ ([nI 43] ++ dg (dv (lcg (lcg (lcg x))) % 4))))))
  else if dv (lcg x) % 4 = 3 ∧ 0 < h then notW ++ ([nI 32] ++ (hereW ++ ([nI 61] ++ (ofW ++ ([nI 32] ++ dg (dv (lcg (lcg x)) % h))))))
  else []
def sdTs (M : Nat) (x : Int32) (h : Nat) : List Int32 := sdT (sdX x h) h M
theorem wrT_sh {X Y : Nat → Int32} : ∀ (q p p' : Nat) (la : Int32) (ap : Bool), (∀ j, j < q → X (p + j) = Y (p' + j)) → wrT X q p la ap = wrT Y q p' la ap
  | 0, _, _, _, _, _ => rfl
  | q + 1, p, p', la, ap, h => by
    have h0 : X p = Y p' := h 0 (by omega)
    have ht : ∀ j, j < q → X (p + 1 + j) = Y (p' + 1 + j) := fun j hj => by
      have := h (j + 1) (by omega)
      rw [show p + 1 + j = p + (j + 1) by omega, show p' + 1 + j = p' + (j + 1) by omega]
      exact this
    unfold wrT
    rw [h0, wrT_sh q (p + 1) (p' + 1) la true ht, wrT_sh q (p + 1) (p' + 1) (Y p') false ht]
def wrOK (L : List Int32) : Bool := decide (wrT (fun j => L.getD j 0) L.length 0 (nI 32) false = L) && (decide (L.length ≤ 16) && L.all (fun c => decide (c.toInt8.toInt32 = c)))
theorem wr_1 : ∀ v, v < 21 → wrOK (hereW ++ ([nI 61] ++ dg v)) = true := by decide +kernel
theorem wr_2 : ∀ k, k < 8 → ∀ w, w < 4 → wrOK (hereW ++ ([nI 61] ++ (ofW ++ ([nI 32] ++ (dg k ++ ([nI 43] ++ dg w)))))) = true := by decide +kernel
theorem wr_3 : ∀ k, k < 8 → wrOK (notW ++ ([nI 32] ++ (hereW ++ ([nI 61] ++ (ofW ++ ([nI 32] ++ dg k)))))) = true := by decide +kernel
theorem sdT_ok {x : Int32} {h M : Nat} (h8 : h < 8) (hM0 : 0 < M) (hM : M ≤ 20) : wrOK (sdT x h M) = true := by
  have a1 := Nat.mod_lt (dv (lcg (lcg x))) hM0
  have a3 := Nat.mod_lt (dv (lcg (lcg (lcg x)))) (show 0 < 4 by omega)
  unfold sdT
  by_cases e1 : dv (lcg x) % 4 = 1
  · rw [if_pos e1]; exact wr_1 _ (by omega)
  rw [if_neg e1]
  by_cases e2 : dv (lcg x) % 4 = 2 ∧ 0 < h
  · have a2 := Nat.mod_lt (dv (lcg (lcg x))) e2.2
    rw [if_pos e2]; exact wr_2 _ (by omega) _ (by omega)
  rw [if_neg e2]
  by_cases e3 : dv (lcg x) % 4 = 3 ∧ 0 < h
  · have a2 := Nat.mod_lt (dv (lcg (lcg x))) e3.2
    rw [if_pos e3]; exact wr_3 _ (by omega)
  rw [if_neg e3]
  decide
theorem sdT_p {x : Int32} {h M : Nat} (h8 : h < 8) (hM0 : 0 < M) (hM : M ≤ 20) : wrT (fun j => (sdT x h M).getD j 0) (sdT x h M).length 0 (nI 32) false = sdT x h M ∧ (sdT x h M).length ≤ 16 ∧ ∀ c ∈ sdT x h M, c.toInt8.toInt32 = c := by
  have h := sdT_ok (x := x) h8 hM0 hM
  unfold wrOK at h
  rw [Bool.and_eq_true, Bool.and_eq_true, decide_eq_true_eq, decide_eq_true_eq, List.all_eq_true] at h
  exact ⟨h.1, h.2.1, fun c hc => of_decide_eq_true (h.2.2 c hc)⟩
theorem wrT_sd {X : Nat → Int32} {p : Nat} {x : Int32} {h M : Nat} (h8 : h < 8) (hM0 : 0 < M) (hM : M ≤ 20) (hat : atX X p (sdT x h M)) : wrT X (sdT x h M).length p (nI 32) false = sdT x h M :=
  (wrT_sh (sdT x h M).length p 0 (nI 32) false (fun j hj => by rw [Nat.zero_add]; exact hat j hj)).trans (sdT_p h8 hM0 hM).1
theorem sdT_nil {x : Int32} {h M : Nat} (hc : sdC x h M = []) : sdT x h M = [] := by
  unfold sdC at hc
  unfold sdT
  by_cases e1 : dv (lcg x) % 4 = 1
  · rw [if_pos e1] at hc; simp at hc
  rw [if_neg e1] at hc
  rw [if_neg e1]
  by_cases e2 : dv (lcg x) % 4 = 2 ∧ 0 < h
  · rw [if_pos e2] at hc; simp at hc
  rw [if_neg e2] at hc
  rw [if_neg e2]
  by_cases e3 : dv (lcg x) % 4 = 3 ∧ 0 < h
  · rw [if_pos e3] at hc; simp at hc
  rw [if_neg e3]
/-- a house's line: its head, its text, its end -/
def hhW : List Int32 := sB.getD 2 [] ++ ([nI 32] ++ (sB.getD 3 [] ++ [nI 32]))
theorem hh_len : hhW.length = 11 := by decide
theorem sdH_t {x : Int32} {h M : Nat} (hc : sdC x h M ≠ []) : (sdH x h M).1 = hhW ++ (sdT x h M ++ [nI 59]) := by
  have t18 : sB.getD 2 [] ++ sB.getD 18 [] = hhW ++ (hereW ++ [nI 61]) := by decide
  have t19 : sB.getD 2 [] ++ sB.getD 19 [] = hhW ++ (hereW ++ ([nI 61] ++ (ofW ++ [nI 32]))) := by decide
  have t20 : sB.getD 2 [] ++ sB.getD 20 [] = hhW ++ (notW ++ ([nI 32] ++ (hereW ++ ([nI 61] ++ (ofW ++ [nI 32]))))) := by decide
  unfold sdC at hc
  unfold sdT sdH
  by_cases e1 : dv (lcg x) % 4 = 1
  · simp only [if_pos e1]
    rw [← List.append_assoc, t18]
    simp only [List.append_assoc]
  simp only [if_neg e1] at hc ⊢
  by_cases e2 : dv (lcg x) % 4 = 2 ∧ 0 < h
  · simp only [if_pos e2]
    rw [← List.append_assoc, t19]
    simp only [List.append_assoc]
  simp only [if_neg e2] at hc ⊢
  by_cases e3 : dv (lcg x) % 4 = 3 ∧ 0 < h
  · simp only [if_pos e3]
    rw [← List.append_assoc, t20]
    simp only [List.append_assoc]
  simp only [if_neg e3] at hc ⊢
  exact absurd rfl hc
/-- where a riddle's tokens lie -/
theorem sd_pos {T : RT} {x : Int32} {h M a b : Nat} (hT : tAt T a (sdK x h M b)) (hc : sdC x h M ≠ []) : T.2.2.2.1 (a + 2) = b + 11 ∧ T.2.2.2.1 (a + 2 + ((sdK x h M b).length - 3)) = b + 11 + (sdT x h M).length ∧ (∀ t, a + 2 ≤ t → t < a + 2 + ((sdK x h M b).length - 3) → tOK T t) ∧ a + (sdK x h M b).length < T.2.1 := by
  have l1 : hereW.length = 4 := rfl
  have l2 : ofW.length = 2 := rfl
  have l3 : notW.length = 3 := rfl
  obtain ⟨hT0, hT⟩ := hT
  unfold sdC at hc
  unfold sdK at hT0 hT ⊢
  unfold sdT
  by_cases e1 : dv (lcg x) % 4 = 1
  · simp only [if_pos e1] at hT0 hT ⊢
    have t2 := hT 2 (by simp)
    have t3 := hT 3 (by simp)
    have t4 := hT 4 (by simp)
    have t5 := hT 5 (by simp)
    refine ⟨t2.2.1, t5.2.1.trans ?_, fun t z1 z2 => ?_, hT0⟩
    · show b + 16 + (dg (1 + dv (lcg (lcg x)) % M)).length = _
      simp only [List.length_append, List.length_cons, List.length_nil, l1]; omega
    · simp only [List.length_cons, List.length_nil] at z2
      have : t = a + 2 ∨ t = a + 3 ∨ t = a + 4 := by omega
      rcases this with q | q | q
      · subst q; show ¬ T.2.2.1 _ = _ ∧ ¬ T.2.2.1 _ = _; rw [t2.1]; exact ⟨by show ¬ nI 136 = nI 0; decide, by show ¬ nI 136 = nI 1; decide⟩
      · subst q; show ¬ T.2.2.1 _ = _ ∧ ¬ T.2.2.1 _ = _; rw [t3.1]; exact ⟨by show ¬ nI 61 = nI 0; decide, by show ¬ nI 61 = nI 1; decide⟩
      · subst q; show ¬ T.2.2.1 _ = _ ∧ ¬ T.2.2.1 _ = _; rw [t4.1]; exact ⟨by show ¬ nI 2 = nI 0; decide, by show ¬ nI 2 = nI 1; decide⟩
  simp only [if_neg e1] at hc hT0 hT ⊢
  by_cases e2 : dv (lcg x) % 4 = 2 ∧ 0 < h
  · simp only [if_pos e2] at hT0 hT ⊢
    have t2 := hT 2 (by simp)
    have t3 := hT 3 (by simp)
    have t4 := hT 4 (by simp)
    have t5 := hT 5 (by simp)
    have t6 := hT 6 (by simp)
    have t7 := hT 7 (by simp)
    have t8 := hT 8 (by simp)
    refine ⟨t2.2.1, t8.2.1.trans ?_, fun t z1 z2 => ?_, hT0⟩
    · show b + 19 + (dg (dv (lcg (lcg x)) % h)).length + 1 + (dg (dv (lcg (lcg (lcg x))) % 4)).length = _
      simp only [List.length_append, List.length_cons, List.length_nil, l1, l2]; omega
    · simp only [List.length_cons, List.length_nil] at z2
      have : t = a + 2 ∨ t = a + 3 ∨ t = a + 4 ∨ t = a + 5 ∨ t = a + 6 ∨ t = a + 7 := by omega
      rcases this with q | q | q | q | q | q
      · subst q; show ¬ T.2.2.1 _ = _ ∧ ¬ T.2.2.1 _ = _; rw [t2.1]; exact ⟨by show ¬ nI 136 = nI 0; decide, by show ¬ nI 136 = nI 1; decide⟩
      · subst q; show ¬ T.2.2.1 _ = _ ∧ ¬ T.2.2.1 _ = _; rw [t3.1]; exact ⟨by show ¬ nI 61 = nI 0; decide, by show ¬ nI 61 = nI 1; decide⟩
      · subst q; show ¬ T.2.2.1 _ = _ ∧ ¬ T.2.2.1 _ = _; rw [t4.1]; exact ⟨by show ¬ nI 141 = nI 0; decide, by show ¬ nI 141 = nI 1; decide⟩
      · subst q; show ¬ T.2.2.1 _ = _ ∧ ¬ T.2.2.1 _ = _; rw [t5.1]; exact ⟨by show ¬ nI 2 = nI 0; decide, by show ¬ nI 2 = nI 1; decide⟩
      · subst q; show ¬ T.2.2.1 _ = _ ∧ ¬ T.2.2.1 _ = _; rw [t6.1]; exact ⟨by show ¬ nI 43 = nI 0; decide, by show ¬ nI 43 = nI 1; decide⟩
      · subst q; show ¬ T.2.2.1 _ = _ ∧ ¬ T.2.2.1 _ = _; rw [t7.1]; exact ⟨by show ¬ nI 2 = nI 0; decide, by show ¬ nI 2 = nI 1; decide⟩
  simp only [if_neg e2] at hc hT0 hT ⊢
  by_cases e3 : dv (lcg x) % 4 = 3 ∧ 0 < h
  · simp only [if_pos e3] at hT0 hT ⊢
    have t2 := hT 2 (by simp)
    have t3 := hT 3 (by simp)
    have t4 := hT 4 (by simp)
    have t5 := hT 5 (by simp)
    have t6 := hT 6 (by simp)
    have t7 := hT 7 (by simp)
    refine ⟨t2.2.1, t7.2.1.trans ?_, fun t z1 z2 => ?_, hT0⟩
    · show b + 23 + (dg (dv (lcg (lcg x)) % h)).length = _
      simp only [List.length_append, List.length_cons, List.length_nil, l1, l2, l3]; omega
    · simp only [List.length_cons, List.length_nil] at z2
      have : t = a + 2 ∨ t = a + 3 ∨ t = a + 4 ∨ t = a + 5 ∨ t = a + 6 := by omega
      rcases this with q | q | q | q | q
      · subst q; show ¬ T.2.2.1 _ = _ ∧ ¬ T.2.2.1 _ = _; rw [t2.1]; exact ⟨by show ¬ nI 135 = nI 0; decide, by show ¬ nI 135 = nI 1; decide⟩
      · subst q; show ¬ T.2.2.1 _ = _ ∧ ¬ T.2.2.1 _ = _; rw [t3.1]; exact ⟨by show ¬ nI 136 = nI 0; decide, by show ¬ nI 136 = nI 1; decide⟩
      · subst q; show ¬ T.2.2.1 _ = _ ∧ ¬ T.2.2.1 _ = _; rw [t4.1]; exact ⟨by show ¬ nI 61 = nI 0; decide, by show ¬ nI 61 = nI 1; decide⟩
      · subst q; show ¬ T.2.2.1 _ = _ ∧ ¬ T.2.2.1 _ = _; rw [t5.1]; exact ⟨by show ¬ nI 141 = nI 0; decide, by show ¬ nI 141 = nI 1; decide⟩
      · subst q; show ¬ T.2.2.1 _ = _ ∧ ¬ T.2.2.1 _ = _; rw [t6.1]; exact ⟨by show ¬ nI 2 = nI 0; decide, by show ¬ nI 2 = nI 1; decide⟩
  simp only [if_neg e3] at hc ⊢
  exact absurd rfl hc
/-- a street's record is its codes and its texts -/
def txp (q : SS) : Nat × Nat × (Nat → Int32) × (Nat → Int32) × (Nat → Int32) := match q with
  | (ho, _, _, _, _, tl, _, _, _, _, tx, tf, tt) => (ho, tl, tx, tf, tt)
theorem SS_ext {q q2 : SS} (h : core q = core q2) (g : txp q = txp q2) : q = q2 := by
  obtain ⟨ho, mo, un, ri, cd, tl, lo, co, cf, ct, tx, tf, tt⟩ := q
  obtain ⟨ho2, mo2, un2, ri2, cd2, tl2, lo2, co2, cf2, ct2, tx2, tf2, tt2⟩ := q2
  simp only [core, Prod.mk.injEq] at h
  simp only [txp, Prod.mk.injEq] at g
  obtain ⟨rfl, rfl, rfl, rfl, rfl, rfl, rfl, rfl, rfl⟩ := h
  obtain ⟨-, rfl, rfl, rfl, rfl⟩ := g
  rfl
theorem txp_code (q : SS) (c : Int32) : txp (SS.code q c) = txp q := by
  obtain ⟨ho, mo, un, ri, cd, tl, lo, co, cf, ct, tx, tf, tt⟩ := q
  simp only [SS.code]
  split <;> rfl
theorem txp_cds : ∀ (cs : List Nat) (q : SS), txp (rCds cs q) = txp q
  | [], _ => rfl
  | c :: t, q => (txp_cds t _).trans (txp_code q _)
theorem txp_token {q q2 : SS} (X : Nat → Int32) (b e : Nat) (g : txp q = txp q2) : txp (SS.token q X b e) = txp (SS.token q2 X b e) := by
  obtain ⟨ho, mo, un, ri, cd, tl, lo, co, cf, ct, tx, tf, tt⟩ := q
  obtain ⟨ho2, mo2, un2, ri2, cd2, tl2, lo2, co2, cf2, ct2, tx2, tf2, tt2⟩ := q2
  simp only [txp, Prod.mk.injEq] at g
  obtain ⟨rfl, rfl, rfl, rfl, rfl⟩ := g
  simp only [SS.token]
  split
  · rfl
  split <;> rfl
theorem txp_toks (T : RT) : ∀ (n i : Nat) {q q2 : SS}, txp q = txp q2 → txp (rToks T n i q) = txp (rToks T n i q2)
  | 0, _, _, _, g => g
  | n + 1, i, _, _, g => txp_toks T n (i + 1) (txp_token _ _ _ g)
theorem core_toks (T : RT) : ∀ (n i : Nat) (q : SS), core (rToks T n i q) = core q
  | 0, _, _ => rfl
  | n + 1, i, q => (core_toks T n (i + 1) _).trans (core_token q _ _ _)
theorem cds_rCds : ∀ (cs : List Nat) (q : SS), cds cs q = rCds cs q
  | [], _ => rfl
  | c :: t, q => cds_rCds t _
/-- an expression read, by its codes -/
theorem sd_q {T : RT} {R : RS} {h a n : Nat} {q q' : SS} {cs : List Nat} (hG : tkG T) (hf : R.2.1 = 0) (e : rExpr T h 6 (adv R a q) = adv R (a + n) q') (c : core q' = core (cds cs q)) : q' = rToks T n a (rCds cs q) := by
  have hr := expr_rel (h := h) hG 6 (adv R a q) hf
  rw [e] at hr
  by_cases z : (pExpr T h 6 a).1 = 0
  · obtain ⟨-, h2⟩ := hr.1 z
    have p1 : a + n = (pExpr T h 6 a).2.1 := congrArg (fun S : RS => S.1) h2
    have p2 : q' = rToks T ((pExpr T h 6 a).2.1 - a) a (rCds (pExpr T h 6 a).2.2 q) := congrArg (fun S : RS => S.2.2.2.2.2.2) h2
    rw [← p1, Nat.add_sub_cancel_left] at p2
    refine SS_ext ?_ ?_
    · rw [core_toks, c, cds_rCds]
    · rw [p2, txp_toks T n a (txp_cds _ q), txp_toks T n a (txp_cds cs q)]
  · obtain ⟨h1, -, h3⟩ := hr.2 z
    have h4 : (adv R (a + n) q').2.1 = nI (pExpr T h 6 a).1 := h1
    have h5 : R.2.1 = nI (pExpr T h 6 a).1 := h4
    rw [hf] at h5
    have h9 : (pExpr T h 6 a).1 < 4 := h3
    exact absurd (nI_inj (a := 0) (by omega) (by omega) h5).symm z
set_option maxHeartbeats 4000000 in
theorem sd_lineQ {T : RT} {R : RS} {a b h M : Nat} {x : Int32} {q : SS} (hf : R.2.1 = 0) (hq : q.1 = h) (h8 : h < 8) (hM0 : 0 < M) (hM : M ≤ 20) (hat : atX T.2.2.2.2.2 b (sdH x h M).1) (hT : tAt T a (sdK x h M b)) (hG : tkG T) : ∃ q', rLine T (adv R a q) = adv R (a + (sdK x h M b).length) q' ∧ (sdC x h M ≠ [] → q' = rToks T ((sdK x h M b).length - 3) (a + 2) (rCds (sdC x h M) (SS.begin (SS.house q)))) ∧ (sdC x h M = [] → q' = SS.house q) := by
  have b2 : (sB.getD 2 []).length = 5 := by decide
  have b18 : (sB.getD 18 []).length = 11 := by decide
  have b19 : (sB.getD 19 []).length = 14 := by decide
  have b20 : (sB.getD 20 []).length = 18 := by decide
  have a3 := Nat.mod_lt (dv (lcg (lcg (lcg x)))) (show 0 < 4 by omega)
  have a1 := Nat.mod_lt (dv (lcg (lcg x))) hM0
  have l1 := dg_len (1 + dv (lcg (lcg x)) % M)
  have l2 := dg_len (dv (lcg (lcg x)) % h)
  have l3 := dg_len (dv (lcg (lcg (lcg x))) % 4)
  unfold sdC
  unfold sdH at hat
  unfold sdK at hT ⊢
  by_cases e1 : dv (lcg x) % 4 = 1
  · rw [if_pos e1] at hat hT
    simp only [if_pos e1]
    have w1 := atX_l (atX_r (atX_r hat))
    rw [b2, b18, show b + 5 + 11 = b + 16 from rfl] at w1
    have v1 := nv_dg (by omega) w1
    obtain ⟨hT0, hT⟩ := hT
    have t0 : T.2.2.1 a = nI 131 ∧ True := ⟨(hT 0 (by simp)).1, trivial⟩
    have t1 : T.2.2.1 (a + 1) = nI 132 ∧ True := ⟨(hT 1 (by simp)).1, trivial⟩
    have t2 : T.2.2.1 (a + 2) = nI 136 ∧ True := ⟨(hT 2 (by simp)).1, trivial⟩
    have t3 : T.2.2.1 (a + 3) = nI 61 ∧ True := ⟨(hT 3 (by simp)).1, trivial⟩
    have t4 : T.2.2.1 (a + 4) = nI 2 ∧ T.2.2.2.1 (a + 4) = b + 16 ∧ T.2.2.2.2.1 (a + 4) = b + 16 + (dg (1 + dv (lcg (lcg x)) % M)).length := hT 4 (by simp)
    have t5 : T.2.2.1 (a + 5) = nI 59 ∧ True := ⟨(hT 5 (by simp)).1, trivial⟩
    obtain ⟨q', e, c⟩ := x_1 (T := T) (h := h) (k := 5) (R := R) (a := a + 2) (v := 1 + dv (lcg (lcg x)) % M) (q := SS.begin (SS.house q)) hf h8 (by simp at hT0; omega) t2.1 t3.1 t4.1 t5.1 (by rw [t4.2.1, t4.2.2]; show b + 16 + (dg (1 + dv (lcg (lcg x)) % M)).length - (b + 16) ≤ 4; omega) (by rw [t4.2.1, t4.2.2]; show nv _ (b + 16) (b + 16 + (dg (1 + dv (lcg (lcg x)) % M)).length - (b + 16)) = _; rw [Nat.add_sub_cancel_left]; exact v1) (by omega)
    refine ⟨q', ?_, fun _ => sd_q hG hf e c, fun z => absurd z (by simp)⟩
    have hs : rSays T q.1 (adv R (a + 1) (SS.house q)) = adv R (a + 5) q' := by rw [hq]; exact s_says hf t1.1 (by simp at hT0; omega) e
    have hL : rLine T (adv R a q) = adv R (a + 5 + 1) q' := s_line hf (by omega) t0.1 (by simp at hT0; omega) hs (by rw [t1.1]; decide) t5.1 (by simp at hT0; omega)
    exact hL
  by_cases e2 : dv (lcg x) % 4 = 2 ∧ 0 < h
  · rw [if_neg e1, if_pos e2] at hat hT
    simp only [if_neg e1, if_pos e2]
    have a2 := Nat.mod_lt (dv (lcg (lcg x))) e2.2
    have w0 := atX_r (atX_r hat)
    have w1 := atX_l w0
    have w2 := atX_l (atX_r (atX_r w0))
    rw [b2, b19, show b + 5 + 14 = b + 19 from rfl] at w1
    rw [b2, b19, show b + 5 + 14 + (dg (dv (lcg (lcg x)) % h)).length + [nI 43].length = b + 19 + (dg (dv (lcg (lcg x)) % h)).length + 1 from rfl] at w2
    have v1 := nv_dg (by omega) w1
    have v2 := nv_dg (by omega) w2
    obtain ⟨hT0, hT⟩ := hT
    have t0 : T.2.2.1 a = nI 131 ∧ True := ⟨(hT 0 (by simp)).1, trivial⟩
    have t1 : T.2.2.1 (a + 1) = nI 132 ∧ True := ⟨(hT 1 (by simp)).1, trivial⟩
    have t2 : T.2.2.1 (a + 2) = nI 136 ∧ True := ⟨(hT 2 (by simp)).1, trivial⟩
    have t3 : T.2.2.1 (a + 3) = nI 61 ∧ True := ⟨(hT 3 (by simp)).1, trivial⟩
    have t4 : T.2.2.1 (a + 4) = nI 141 ∧ True := ⟨(hT 4 (by simp)).1, trivial⟩
    have t5 : T.2.2.1 (a + 5) = nI 2 ∧ T.2.2.2.1 (a + 5) = b + 19 ∧ T.2.2.2.2.1 (a + 5) = b + 19 + (dg (dv (lcg (lcg x)) % h)).length := hT 5 (by simp)
    have t6 : T.2.2.1 (a + 6) = nI 43 ∧ True := ⟨(hT 6 (by simp)).1, trivial⟩
    have t7 : T.2.2.1 (a + 7) = nI 2 ∧ T.2.2.2.1 (a + 7) = b + 19 + (dg (dv (lcg (lcg x)) % h)).length + 1 ∧ T.2.2.2.2.1 (a + 7) = b + 19 + (dg (dv (lcg (lcg x)) % h)).length + 1 + (dg (dv (lcg (lcg (lcg x))) % 4)).length := hT 7 (by simp)
    have t8 : T.2.2.1 (a + 8) = nI 59 ∧ True := ⟨(hT 8 (by simp)).1, trivial⟩
    obtain ⟨q', e, c⟩ := x_2 (T := T) (h := h) (k := 5) (R := R) (a := a + 2) (v := dv (lcg (lcg x)) % h) (w := dv (lcg (lcg (lcg x))) % 4) (q := SS.begin (SS.house q)) hf h8 (by simp at hT0; omega) t2.1 t3.1 t4.1 t5.1 t6.1 t7.1 t8.1 (by rw [t5.2.1, t5.2.2]; show b + 19 + (dg (dv (lcg (lcg x)) % h)).length - (b + 19) ≤ 4; omega) (by rw [t5.2.1, t5.2.2]; show nv _ (b + 19) (b + 19 + (dg (dv (lcg (lcg x)) % h)).length - (b + 19)) = _; rw [Nat.add_sub_cancel_left]; exact v1) (by omega) (by rw [t7.2.1, t7.2.2]; show b + 19 + (dg (dv (lcg (lcg x)) % h)).length + 1 + (dg (dv (lcg (lcg (lcg x))) % 4)).length - (b + 19 + (dg (dv (lcg (lcg x)) % h)).length + 1) ≤ 4; omega) (by rw [t7.2.1, t7.2.2]; show nv _ (b + 19 + (dg (dv (lcg (lcg x)) % h)).length + 1) (b + 19 + (dg (dv (lcg (lcg x)) % h)).length + 1 + (dg (dv (lcg (lcg (lcg x))) % 4)).length - (b + 19 + (dg (dv (lcg (lcg x)) % h)).length + 1)) = _; rw [Nat.add_sub_cancel_left]; exact v2) (by omega)
    refine ⟨q', ?_, fun _ => sd_q hG hf e c, fun z => absurd z (by simp)⟩
    have hs : rSays T q.1 (adv R (a + 1) (SS.house q)) = adv R (a + 8) q' := by rw [hq]; exact s_says hf t1.1 (by simp at hT0; omega) e
    have hL : rLine T (adv R a q) = adv R (a + 8 + 1) q' := s_line hf (by omega) t0.1 (by simp at hT0; omega) hs (by rw [t1.1]; decide) t8.1 (by simp at hT0; omega)
    exact hL
  by_cases e3 : dv (lcg x) % 4 = 3 ∧ 0 < h
  · rw [if_neg e1, if_neg e2, if_pos e3] at hat hT
    simp only [if_neg e1, if_neg e2, if_pos e3]
    have a2 := Nat.mod_lt (dv (lcg (lcg x))) e3.2
    have w1 := atX_l (atX_r (atX_r hat))
    rw [b2, b20, show b + 5 + 18 = b + 23 from rfl] at w1
    have v1 := nv_dg (by omega) w1
    obtain ⟨hT0, hT⟩ := hT
    have t0 : T.2.2.1 a = nI 131 ∧ True := ⟨(hT 0 (by simp)).1, trivial⟩
    have t1 : T.2.2.1 (a + 1) = nI 132 ∧ True := ⟨(hT 1 (by simp)).1, trivial⟩
    have t2 : T.2.2.1 (a + 2) = nI 135 ∧ True := ⟨(hT 2 (by simp)).1, trivial⟩
    have t3 : T.2.2.1 (a + 3) = nI 136 ∧ True := ⟨(hT 3 (by simp)).1, trivial⟩
    have t4 : T.2.2.1 (a + 4) = nI 61 ∧ True := ⟨(hT 4 (by simp)).1, trivial⟩
    have t5 : T.2.2.1 (a + 5) = nI 141 ∧ True := ⟨(hT 5 (by simp)).1, trivial⟩
    have t6 : T.2.2.1 (a + 6) = nI 2 ∧ T.2.2.2.1 (a + 6) = b + 23 ∧ T.2.2.2.2.1 (a + 6) = b + 23 + (dg (dv (lcg (lcg x)) % h)).length := hT 6 (by simp)
    have t7 : T.2.2.1 (a + 7) = nI 59 ∧ True := ⟨(hT 7 (by simp)).1, trivial⟩
    obtain ⟨q', e, c⟩ := x_3 (T := T) (h := h) (k := 5) (R := R) (a := a + 2) (v := dv (lcg (lcg x)) % h) (q := SS.begin (SS.house q)) hf h8 (by simp at hT0; omega) t2.1 t3.1 t4.1 t5.1 t6.1 t7.1 (by rw [t6.2.1, t6.2.2]; show b + 23 + (dg (dv (lcg (lcg x)) % h)).length - (b + 23) ≤ 4; omega) (by rw [t6.2.1, t6.2.2]; show nv _ (b + 23) (b + 23 + (dg (dv (lcg (lcg x)) % h)).length - (b + 23)) = _; rw [Nat.add_sub_cancel_left]; exact v1) (by omega)
    refine ⟨q', ?_, fun _ => sd_q hG hf e c, fun z => absurd z (by simp)⟩
    have hs : rSays T q.1 (adv R (a + 1) (SS.house q)) = adv R (a + 7) q' := by rw [hq]; exact s_says hf t1.1 (by simp at hT0; omega) e
    have hL : rLine T (adv R a q) = adv R (a + 7 + 1) q' := s_line hf (by omega) t0.1 (by simp at hT0; omega) hs (by rw [t1.1]; decide) t7.1 (by simp at hT0; omega)
    exact hL
  · rw [if_neg e1, if_neg e2, if_neg e3] at hT
    simp only [if_neg e1, if_neg e2, if_neg e3]
    obtain ⟨hT0, hT⟩ := hT
    have t0 : T.2.2.1 a = nI 131 ∧ True := ⟨(hT 0 (by simp)).1, trivial⟩
    have t1 : T.2.2.1 (a + 1) = nI 59 ∧ True := ⟨(hT 1 (by simp)).1, trivial⟩
    refine ⟨SS.house q, ?_, fun z => absurd rfl z, fun _ => rfl⟩
    have hs : rSays T q.1 (adv R (a + 1) (SS.house q)) = adv R (a + 1) (SS.house q) := by
      unfold rSays
      rw [if_neg (fun z => by have z1 : T.2.2.1 (a + 1) = nI 132 := z.1; rw [t1.1] at z1; exact absurd z1 (by decide))]
    have hL : rLine T (adv R a q) = adv R (a + 1 + 1) (SS.house q) := s_line hf (by omega) t0.1 (by simp at hT0; omega) hs (by rw [t1.1]; decide) t1.1 (by simp at hT0; omega)
    exact hL
