/-! PLANT: the class -/
theorem csN_self {cs : Nat → List Nat} {H : Nat} {r : List Nat} (h : cs H = r) : csN cs H r = cs := funext fun x => by
  unfold csN
  split
  · rename_i e; rw [e, h]
  · rfl
theorem txN_self {tx : Nat → List Int32} {H : Nat} {w : List Int32} (h : tx H = w) : txN tx H w = tx := funext fun x => by
  unfold txN
  split
  · rename_i e; rw [e, h]
  · rfl
theorem qC.seed {cs : Nat → List Nat} {tx : Nat → List Int32} {X : Nat → Int32} {len a b h M : Nat} {x : Int32} {q q' : SS} (hl : len ≤ 500) (h8 : h < 8) (hM0 : 0 < M) (hM : M ≤ 20) (hq : qC cs tx h q) (htl : q.2.2.2.2.2.1 ≤ 2 * b) (hof : ofs cs h ≤ 5 * h) (hat : atX X b (sdH x h M).1) (hT : tAt (tkT len X) a (sdK x h M b)) (hr : sdC x h M ≠ [] → q' = rToks (tkT len X) ((sdK x h M b).length - 3) (a + 2) (rCds (sdC x h M) (SS.begin (SS.house q)))) (hn : sdC x h M = [] → q' = SS.house q) : qC (csN cs h (sdC x h M)) (txN tx h (sdT x h M)) (h + 1) q' ∧ q'.2.2.2.2.2.1 ≤ 2 * (b + (sdH x h M).1.length) ∧ q'.2.1 = q.2.1 ∧ q'.2.2.1 = q.2.2.1 := by
  obtain ⟨g1, g2, g3, g4⟩ := hq.house h8
  by_cases c : sdC x h M = []
  · rw [hn c, c, sdT_nil c]
    exact ⟨g1, by rw [g2]; omega, g3, g4⟩
  · obtain ⟨p1, p2, p3, p4⟩ := sd_pos hT c
    have ok := sdC_ok (x := x) h8 hM0 hM
    have hh := sdH_t c
    have hlen : (sdH x h M).1.length = 11 + ((sdT x h M).length + 1) := by rw [hh, List.length_append, List.length_append, hh_len]; rfl
    have hat2 : atX X (b + 11) (sdT x h M) := by
      rw [hh] at hat
      have := atX_l (atX_r hat)
      rw [hh_len] at this
      exact this
    obtain ⟨b1, b2, b3, b4⟩ := g1.begin h8 (by rw [csN_ofs h (Nat.le_refl h)]; omega) csN_s txN_s ⟨q.2.2.2.2.2.1, house_tf h8 hq.1, g2⟩
    obtain ⟨d1, d2, d3, d4⟩ := b1.cds h8 (sdC x h M) [] _ (by rw [csN_ofs h (Nat.le_refl h)]; show ofs cs h + 0 + _ ≤ 519; omega) (fun c hc => ⟨(ok.2 c hc).1, fun z1 z2 => by have := (ok.2 c hc).2 z1 z2; omega⟩)
    obtain ⟨t1, t2, t3, t4⟩ := qM.toks hl (i0 := a + 2) h8 ((sdK x h M b).length - 3) 0 (rCds (sdC x h M) (SS.begin (SS.house q))) (fun t z1 z2 => p3 t (by omega) (by omega)) (by rw [d2, b2, g2]; show _ ≤ 2 * (tkT len X).2.2.2.1 (a + 2); rw [p1]; omega) d1
    have hfin := qM.fin (r := [] ++ sdC x h M) (show ¬ [] ++ sdC x h M = [] by rw [List.nil_append]; exact c) t1
    have hall := wrT_all (X := X) (i0 := a + 2) (n := (sdK x h M b).length - 3) hl (fun t z1 z2 => p3 t z1 z2)
    rw [p1, p2, show b + 11 + (sdT x h M).length - (b + 11) = (sdT x h M).length by omega] at hall
    have e9 := hall.symm.trans (wrT_sd h8 hM0 hM hat2)
    rw [csN_N, txN_N, Nat.zero_add, e9, List.nil_append] at hfin
    rw [Nat.add_zero] at t2 t3 t4 hfin
    rw [p2] at t2
    rw [hr c]
    exact ⟨hfin, by omega, by rw [t3, d3, b3, g3], by rw [t4, d4, b4, g4]⟩
theorem sw_linesQ {X : Nat → Int32} {len : Nat} {R : RS} {M : Nat} {x0 : Int32} {T : RT} (hTe : T = tkT len X) (hl : len ≤ 500) (hG : tkG T) (hf : R.2.1 = 0) (hM0 : 0 < M) (hM : M ≤ 20) (k : Nat) : ∀ (h a b N : Nat) (q : SS), h + k ≤ 8 → k ≤ N → qC (sdCs M x0) (sdTs M x0) h q → q.2.2.2.2.2.1 ≤ 2 * b → atX X b (swF M k h (sdX x0 h)) → tAt T a (swK M k h (sdX x0 h) b) → T.2.2.1 (a + (swK M k h (sdX x0 h) b).length) = nI 0 → ∃ q', rLines T N (adv R a q) = adv R (a + (swK M k h (sdX x0 h) b).length) q' ∧ qC (sdCs M x0) (sdTs M x0) (h + k) q' ∧ q'.2.2.2.2.2.1 ≤ 2 * (b + (swF M k h (sdX x0 h)).length) ∧ q'.2.1 = q.2.1 ∧ q'.2.2.1 = q.2.2.1 := by
  induction k with
  | zero =>
    intro h a b N q _ _ hq htl _ _ hz
    unfold swK at hz ⊢
    unfold swF
    rw [List.length_nil, Nat.add_zero] at hz ⊢
    refine ⟨q, ?_, hq, htl, rfl, rfl⟩
    cases N with
    | zero => unfold rLines; rfl
    | succ N =>
      unfold rLines
      rw [if_neg (fun z => z.1 hz)]
  | succ k ih =>
    intro h a b N q hk hN hq htl hat hT hz
    unfold swF at hat ⊢
    unfold swK at hT hz ⊢
    obtain ⟨T1, T2⟩ := tAt_app hT
    have hX : T.2.2.2.2.2 = X := by rw [hTe]; rfl
    obtain ⟨q1, e1, r1, n1⟩ := sd_lineQ (R := R) (q := q) hf hq.1 (by omega) hM0 hM (by rw [hX]; exact atX_l hat) T1 hG
    have hof := ofs_le (x := x0) hM0 hM h (by omega)
    rw [hTe] at r1
    obtain ⟨c1, c2, c3, c4⟩ := qC.seed hl (by omega) hM0 hM hq htl hof (atX_l hat) (by rw [← hTe]; exact T1) r1 n1
    rw [csN_self (show sdCs M x0 h = sdC (sdX x0 h) h M from rfl), txN_self (show sdTs M x0 h = sdT (sdX x0 h) h M from rfl)] at c1
    have hx1 : (sdH (sdX x0 h) h M).2 = sdX x0 (h + 1) := sdH_2 _ _ _
    rw [hx1] at hat T2 hz ⊢
    rw [List.length_append, ← Nat.add_assoc] at hz
    obtain ⟨q2, e2, d1, d2, d3, d4⟩ := ih (h + 1) (a + (sdK (sdX x0 h) h M b).length) (b + (sdH (sdX x0 h) h M).1.length) (N - 1) q1 (by omega) (by omega) c1 c2 (atX_r hat) T2 hz
    refine ⟨q2, ?_, by rw [show h + (k + 1) = h + 1 + k by omega]; exact d1, by rw [List.length_append, ← Nat.add_assoc]; exact d2, d3.trans c3, d4.trans c4⟩
    have hK : T.2.2.1 a = nI 131 := by
      have := (T1.2 0 (by have := sdK_len (sdX x0 h) h M b; omega)).1
      rw [Nat.add_zero] at this
      rw [this]
      unfold sdK
      split
      · rfl
      split
      · rfl
      split
      · rfl
      · rfl
    obtain ⟨N, rfl⟩ : ∃ n, N = n + 1 := ⟨N - 1, by omega⟩
    rw [Nat.add_sub_cancel] at e2
    unfold rLines
    rw [if_pos ⟨show ¬ T.2.2.1 a = 0 by rw [hK]; decide, hf⟩, e1, e2, List.length_append, Nat.add_assoc]
theorem qC_0 {cs : Nat → List Nat} {tx : Nat → List Int32} {q : SS} (h1 : q.1 = 0) (h2 : q.2.2.2.2.1 = 0) (h3 : q.2.2.2.1 = nI 0) : qC cs tx 0 q := ⟨h1, h2, fun i hi => by rw [h3]; simp [show bt (nI 0) i = false from b_0 i], fun h hh => absurd hh (Nat.not_lt_zero h)⟩
theorem hdQ_tl (M : Nat) (u : Int32) (q : SS) : (hdQ M u q).2.2.2.2.2.1 = q.2.2.2.2.2.1 := by
  obtain ⟨ho, mo, un, ri, cd, tl, lo, co, cf, ct, tx, tf, tt⟩ := q
  unfold hdQ
  split <;> rfl
set_option maxHeartbeats 4000000 in
theorem sw_readQ {X : Nat → Int32} {R : RS} {M H : Nat} {u x : Int32} {q : SS} (hf : R.2.1 = 0) (hm : R.2.2.2.1 = 0) (hq : q.1 = 0) (hu : q.2.2.1 = 0) (hM2 : 2 ≤ M) (hM : M ≤ 20) (hH : H ≤ 8) (hat : atX X 0 (swT M u H x)) (hl : (swT M u H x).length ≤ 500) (h0 : qC (sdCs M x) (sdTs M x) 0 (hdQ M u q)) (htl0 : q.2.2.2.2.2.1 = 0) : ∃ a q', rLines (tkT (swT M u H x).length X) (tks X (swT M u H x).length).length (adv R 0 q) = adv (rMt (nI 1) R) a q' ∧ qC (sdCs M x) (sdTs M x) H q' ∧ q'.2.2.2.2.2.1 ≤ 1000 ∧ q'.2.1 = (hdQ M u q).2.1 ∧ q'.2.2.1 = (hdQ M u q).2.2.1 := by
  have hG := (tkA_of (X := X) hl).1
  have htl := hdQ_tl M u q
  have hlen : (swT M u H x).length = (hdB M u).length + (swF M H 0 x).length := by unfold swT; rw [List.length_append]
  have hL : lx X (swT M u H x).length 0 = hdK M u ++ swK M H 0 x (hdB M u).length := by
    rw [lx_hd X _ M u hM (atX_l hat) (by omega), lx_sw X _ M (by omega) hM H 0 x _ (by omega) (by have := atX_r hat; rw [Nat.zero_add] at this; exact this) (by omega), lx_end (by omega), List.append_nil]
  have hT := tks_lx X (swT M u H x).length hl
  rw [hL] at hT
  obtain ⟨T0, T1, T2⟩ := tAt_of hT
  have hX : (tkT (swT M u H x).length X).2.2.2.2.2 = X := rfl
  have hN : (tks X (swT M u H x).length).length = (tkT (swT M u H x).length X).2.1 := rfl
  rw [hN, T2]
  obtain ⟨TA, TB⟩ := tAt_app T0
  rw [Nat.zero_add] at TB
  obtain ⟨T, hTe⟩ : ∃ T, T = tkT (swT M u H x).length X := ⟨_, rfl⟩
  rw [← hTe] at T0 T1 T2 hX hN hG TA TB ⊢
  have hKl := swK_len M H 0 x (hdB M u).length
  rw [List.length_append] at T1 T2 ⊢
  have w1 := atX_l hat
  unfold hdB at w1
  have w2 := atX_r (atX_l w1)
  rw [show (sB.getD 13 []).length = 5 by decide, Nat.zero_add] at w2
  have l2 := dg_len M
  have v1 := nv_dg (by omega) w2
  have hat2 : atX T.2.2.2.2.2 (hdB M u).length (swF M H 0 x) := by
    rw [hX]
    have := atX_r hat
    rw [Nat.zero_add] at this
    exact this
  unfold hdK at TA
  obtain ⟨TA1, TA2⟩ := tAt_app TA
  obtain ⟨z0, z⟩ := TA1
  have t0 : T.2.2.1 0 = nI 129 := (z 0 (by simp)).1
  have t1 : T.2.2.1 1 = nI 2 ∧ T.2.2.2.1 1 = 5 ∧ T.2.2.2.2.1 1 = 5 + (dg M).length := z 1 (by simp)
  have t2 : T.2.2.1 2 = nI 59 := (z 2 (by simp)).1
  have hr : rLine T (adv R 0 q) = adv (rMt (nI 1) R) (0 + 3) (SS.smo (nI M) q) := m_line hf hm (by simp at z0; omega) t0 t1.1 t2 (by show T.2.2.2.2.1 1 - T.2.2.2.1 1 ≤ 4; rw [t1.2.1, t1.2.2]; omega) (by show nv T.2.2.2.2.2 (T.2.2.2.1 1) (T.2.2.2.2.1 1 - T.2.2.2.1 1) = nI M; rw [t1.2.1, t1.2.2, Nat.add_sub_cancel_left, hX]; exact v1) hM2 hM
  by_cases e : u = 0
  · have hk3 : (hdK M u).length = 3 := by unfold hdK; rw [if_pos e]; rfl
    rw [hk3] at TB T1 ⊢
    rw [show hdQ M u q = SS.smo (nI M) q from if_pos e] at h0 htl ⊢
    obtain ⟨q', e1, c1, c2, c3, c4⟩ := sw_linesQ (R := rMt (nI 1) R) (x0 := x) hTe hl hG hf (by omega) hM H 0 3 (hdB M u).length (2 + (swK M H 0 x (hdB M u).length).length + 1) (SS.smo (nI M) q) (by omega) (by omega) h0 (by omega) (by rw [← hX]; exact hat2) TB T1
    rw [Nat.zero_add] at c1
    refine ⟨3 + (swK M H 0 x (hdB M u).length).length, q', ?_, c1, Nat.le_trans c2 (by show 2 * ((hdB M u).length + (swF M H 0 x).length) ≤ 1000; omega), c3, c4⟩
    rw [show 3 + (swK M H 0 x (hdB M u).length).length + 1 = (2 + (swK M H 0 x (hdB M u).length).length + 1) + 1 by omega]
    unfold rLines
    rw [if_pos ⟨show ¬ T.2.2.1 0 = 0 by rw [t0]; decide, hf⟩, hr]
    exact e1
  · have hk5 : (hdK M u).length = 5 := by unfold hdK; rw [if_neg e]; rfl
    rw [hk5] at TB T1 ⊢
    rw [if_neg e] at TA2
    obtain ⟨z0', z'⟩ := TA2
    have t3 : T.2.2.1 3 = nI 130 := (z' 0 (by simp)).1
    have t4 : T.2.2.1 4 = nI 59 := (z' 1 (by simp)).1
    have hr2 : rLine T (adv (rMt (nI 1) R) 3 (SS.smo (nI M) q)) = adv (rMt (nI 1) R) (3 + 2) (SS.sun (nI 1) (SS.smo (nI M) q)) := u_line (by rw [(smo_p _ _).2]; exact hu) (by omega) t3 t4
    rw [show hdQ M u q = SS.sun (nI 1) (SS.smo (nI M) q) from if_neg e] at h0 htl ⊢
    obtain ⟨q', e1, c1, c2, c3, c4⟩ := sw_linesQ (R := rMt (nI 1) R) (x0 := x) hTe hl hG hf (by omega) hM H 0 5 (hdB M u).length (3 + (swK M H 0 x (hdB M u).length).length + 1) (SS.sun (nI 1) (SS.smo (nI M) q)) (by omega) (by omega) h0 (by omega) (by rw [← hX]; exact hat2) TB T1
    rw [Nat.zero_add] at c1
    refine ⟨5 + (swK M H 0 x (hdB M u).length).length, q', ?_, c1, Nat.le_trans c2 (by show 2 * ((hdB M u).length + (swF M H 0 x).length) ≤ 1000; omega), c3, c4⟩
    rw [show 5 + (swK M H 0 x (hdB M u).length).length + 1 = ((3 + (swK M H 0 x (hdB M u).length).length + 1) + 1) + 1 by omega]
    unfold rLines
    rw [if_pos ⟨show ¬ T.2.2.1 0 = 0 by rw [t0]; decide, hf⟩, hr]
    unfold rLines
    rw [if_pos ⟨show ¬ T.2.2.1 3 = 0 by rw [t3]; decide, hf⟩]
    rw [hr2]
    exact e1
/-- no sons, no debts, nothing muted, no acts, no letters -/
def eZ : Lf := (fun _ => 0, fun _ => 0, fun _ => false, [], [])
theorem okL_Z (H M : Nat) : okL H M eZ := ⟨fun _ _ => ⟨Nat.zero_le _, Nat.zero_le _⟩, ⟨Nat.zero_le _, fun a ha => absurd ha List.not_mem_nil⟩, ⟨Nat.zero_le _, fun a ha => absurd ha List.not_mem_nil⟩⟩
theorem cL_Z {I : mI} {l H : Nat} (hH : H ≤ 8) (h1 : ∀ h, h < 8 → I (l + 1) h = nI 0 ∧ I (l + 2) h = nI 0) (k2 : I l 2 = nI 0) (k4 : I l 4 = nI 0) (k7 : I l 7 = nI 0) : cL I l H eZ := by
  refine ⟨fun x hx => h1 x (by omega), fun i hi => ?_, ⟨k4, fun j hj => absurd hj (Nat.not_lt_zero _)⟩, k7, fun j hj => absurd hj (Nat.not_lt_zero _)⟩
  rw [k2]
  show bt (nI 0) i = (decide (i < H) && false)
  rw [Bool.and_false]
  exact b_0 i
theorem okS_sd {M H : Nat} {x : Int32} (hM2 : 2 ≤ M) (hM : M ≤ 20) (hH : H ≤ 8) : okS H M (sdCs M x) := by
  have hM0 : 0 < M := by omega
  have hof := ofs_le (x := x) hM0 hM H hH
  have h5 : 5 * H ≤ 500 := by omega
  refine ⟨⟨hM2, hM⟩, hH, Nat.le_trans hof h5, fun h hh => ?_⟩
  have h8 : h < 8 := by omega
  have hk := sd_lookS (x := x) (h := h) (M := M) h8 hM0 hM
  have ho := sd_okS (x := x) (h := h) (M := M) h8 hM0 hM
  generalize sdCs M x h = r at hk ho
  exact ⟨hk.2.2, fun c hc => ⟨(ho.2 c hc).1, fun z1 z2 => by have := (ho.2 c hc).2 z1 z2; omega⟩⟩
theorem okX_sd {M H : Nat} {x : Int32} (hM2 : 2 ≤ M) (hM : M ≤ 20) (hH : H ≤ 8) : okX H (sdCs M x) (sdTs M x) := by
  refine ⟨?_, fun h hh _ => (sdT_p (x := sdX x h) (h := h) (by omega) (by omega) hM).2.2⟩
  have : ∀ k, k ≤ 8 → txS (sdCs M x) (sdTs M x) k ≤ 40 * k := fun k => by
    induction k with
    | zero => intro _; exact Nat.le_refl _
    | succ k ih =>
      intro hk
      have h1 := ih (by omega)
      have h2 : (sdTs M x k).length ≤ 16 := (sdT_p (x := sdX x k) (h := k) (by omega) (by omega) hM).2.1
      show txS (sdCs M x) (sdTs M x) k + (12 + if sdCs M x k = [] then 0 else 6 + (sdTs M x k).length) ≤ _
      split <;> omega
  have h9 := this H hH
  omega
theorem sw_fin {Ip : mI} {s l a M H : Nat} {un : Bool} {x : Int32} {q' : SS} (hM2 : 2 ≤ M) (hM : M ≤ 20) (hH : H ≤ 8) (h1 : qC (sdCs M x) (sdTs M x) H q') (h2 : q'.2.2.2.2.2.1 ≤ 1000) (h3 : q'.2.1 = nI M) (h4 : q'.2.2.1 = bz un) : rFin (adv (rMt (nI 1) (rd0 Ip s l)) a q') H M un (sdCs M x) (sdTs M x) := by
  refine ⟨h1.1, h3, h4, okS_sd hM2 hM hH, okX_sd hM2 hM hH, h1, h2, fun j hj => ⟨0, 0, by decide, by decide, ?_, ?_⟩⟩
  · show z8 (Ip (l + 1)) j = nI 0
    exact if_pos hj
  · show z8 (Ip (l + 2)) j = nI 0
    exact if_pos hj
theorem bz_0 (un : Bool) : (if bz un = 0 then nI 0 else nI 1) = bz un := by cases un <;> rfl

set_option maxHeartbeats 4000000 in
set_option maxRecDepth 100000 in
theorem k_plant (o b s f l : Nat) (H2 : Nat) (x : Int32) {t : Nat} {T : Nat → Nat} {fp : Int32} {rr : Nat → Int32} {H M : Nat} {un : Bool} {cs : Nat → List Nat} {tx : Nat → List Int32} {e : Lf} {im : Option Lf} {wk : Option (List Nat)} {n : Nat} {kd : mK} {I : mI} {J : mJ} {P : mP} (hC : CR o b s f l n kd I J P t T fp rr H M un cs tx e im wk) (hz : okZ t T H M cs e) (hH1 : 1 ≤ H2) (hH2 : H2 ≤ 8) : Ct yX9_plant cX9_plant 3 (some .int) 63 0 0 [.ref o, .int x, .int (nI H2)] n kd I J P (pK o n kd I J P (.inl (some (.int (nI (cnR (sdCs M x) H2))))) (CX o t T fp rr H2 M un (sdCs M x) (sdTs M x) eZ none none)) := by
  obtain ⟨hX, hsc, hT, hSt, hLf, hIm, hWk, hQc, hPc⟩ := hC
  obtain ⟨okt, oks, okl⟩ := hz
  have hS := hX.S
  have hL := hX.L
  have hat := hX.at
  have hH8 : H ≤ 8 := oks.2.1
  have hM20 : 2 ≤ M ∧ M ≤ 20 := oks.1
  have hH : I b 0 = nI H := hSt.1.1
  have hMo : I b 1 = nI M := hSt.2.1
  obtain ⟨⟨x0, x1, x2⟩, -, ⟨-, -, hLk⟩, ⟨hQ, hA, hG, hW, hRd, hD, hPg⟩, ⟨p0, p3, p8, p10, p12, p13, p14, p15, p16, p17⟩, ⟨p4, p5, p6, p7⟩, -, -, -⟩ := id hX
  refine ct_of 0 (by decide +kernel) (Nat.le_of_ble_eq_true rfl) rfl ?_
  refine r_iload_n dX9_plant_0 rfl ?_
  refine r_iconst (v := nI 1) dX9_plant_1 (by decide) ?_
  refine r_icmp_lt (tgt := 11) dX9_plant_2 (by decide) (fun hz => absurd hz (show ¬ _ from (by rw [nI_ltI (by omega) (by omega)]; omega))) (fun _ => ?_)
  refine r_iload_n dX9_plant_5 rfl ?_
  refine r_bipush (v := nI 8) dX9_plant_6 (by decide) ?_
  refine r_icmp_le (tgt := 19) dX9_plant_8 (by decide) (fun _ => ?_) (fun hz => absurd (show _ from (by rw [nI_leI (by omega) (by omega)]; omega)) hz)
  refine r_aload_n dX9_plant_19 rfl ?_
  refine r_iload_n dX9_plant_20 rfl ?_
  refine r_iload_n dX9_plant_21 rfl ?_
  refine r_virt (kc2 := 0) (ks2 := 0) (c_X9_sow o b s f l M H2 x (bz un) hX hMo (by omega) hM20.2 hH2 hSt.2.2.1) lk_X9_360 mc_X9_sow dX9_plant_22 x0 (by decide) rfl rfl (Nat.le_of_ble_eq_true rfl) (by decide) (by decide) (fun _ _ _ _ _ _ h => nomatch h.1) ?_
  rintro v2 n2 kd2 I2 J2 P2 ⟨h00, rfl, rfl, rfl, rfl, I0, hI2, hfo, hlo⟩
  cases h00
  simp only [Option.toList, List.nil_append]
  obtain ⟨Ip, hIp⟩ : ∃ Z9, Z9 = pgI (o + 67) (swT M (bz un) H2 x) (dI (o + 66) (swS M H2 0 x) (va_up I o (va_up (I o) 18 (nI 0)))) := ⟨_, rfl⟩
  rw [← hIp] at hI2 hfo hlo
  have hby := byF_sw M (show 0 < M by omega) hM20.2 H2 0 x (by omega)
  have hhd := hd_len M (bz un)
  have hlen : (swT M (bz un) H2 x).length ≤ 500 := by unfold swT; rw [List.length_append]; omega
  have hat9 : atX (Ip (o + 68)) 0 (swT M (bz un) H2 x) := by rw [hIp]; exact pgI_at2 (by omega)
  have hIa : ∀ a, a ≠ o + 66 → a ≠ o + 67 → a ≠ o + 68 → Ip a = va_up I o (va_up (I o) 18 (nI 0)) a := fun a z1 z2 z3 => by rw [hIp, pgI_ne _ _ z2 (by omega), dI_ne _ _ z1]
  have hp0 := hdQ_p M (bz un) (SS.clear (ssOf Ip s))
  obtain ⟨a9, q', er, cr1, cr2, cr3, cr4⟩ := sw_readQ (X := Ip (o + 68)) (R := rd0 Ip s l) (M := M) (H := H2) (u := bz un) (x := x) (q := SS.clear (ssOf Ip s)) nI_0 nI_0 rfl nI_0 hM20.1 hM20.2 hH2 hat9 hlen (qC_0 (by rw [hp0.1]; rfl) (by rw [hp0.2.2.2.2]; rfl) (by rw [hp0.2.2.2.1]; rfl)) rfl
  have hFi : rFin (rdR Ip s l (o + 68) (swT M (bz un) H2 x).length) H2 M un (sdCs M x) (sdTs M x) := by
    rw [show rdR Ip s l (o + 68) (swT M (bz un) H2 x).length = adv (rMt (nI 1) (rd0 Ip s l)) a9 q' from er]
    exact sw_fin hM20.1 hM20.2 hH2 cr1 cr2 (cr3.trans hp0.2.1) (cr4.trans (hp0.2.2.1.trans (bz_0 un)))
  have hso : ∀ j, j < 8 → (rdR Ip s l (o + 68) (swT M (bz un) H2 x).length).2.2.2.2.1 j = nI 0 ∧ (rdR Ip s l (o + 68) (swT M (bz un) H2 x).length).2.2.2.2.2.1 j = nI 0 := fun j hj => by
    rw [show rdR Ip s l (o + 68) (swT M (bz un) H2 x).length = adv (rMt (nI 1) (rd0 Ip s l)) a9 q' from er]
    exact ⟨if_pos hj, if_pos hj⟩
  obtain ⟨R9, hR9⟩ : ∃ R9, R9 = rdR Ip s l (o + 68) (swT M (bz un) H2 x).length := ⟨_, rfl⟩
  rw [← hR9] at hI2 hFi hso
  have ho2 : ∀ a, (a < s ∨ s + 7 < a) → a ≠ l + 1 → a ≠ l + 2 → a ≠ o + 61 → I2 a = I0 a := fun a a1 a2 a3 a4 => by rw [hI2]; exact rI_o a1 a2 a3 a4
  have ho1 : ∀ a, (a < s ∨ s + 7 < a) → (a < l ∨ l + 2 < a) → (a < o + 61 ∨ o + 65 < a) → I2 a = Ip a := fun a a1 a2 a3 => by rw [ho2 a a1 (by omega) (by omega) (by omega)]; exact hfo a (by omega)
  have hX2 := kX_rdQ (x := o + 68) (y := s) (z := l) hX
  obtain ⟨⟨y0, y1, y2⟩, ⟨yS3, yS13⟩, ⟨-, -, yLk⟩, ⟨yQ, yA, yG, yW, yRd, yD, yPg⟩, ⟨t0, t3, t8, t10, t12, t13, t14, t15, t16, t17⟩, ⟨t4, t5, t6, t7⟩, hbs9, -, -⟩ := id hX2
  have ys : kd2 s = some (0, 7) := by rcases hbs9 with h | h <;> rw [h.2]; exact yS13.1; exact yS3.1
  refine r_aload_n dX9_plant_25 rfl ?_
  refine r_virt (kc2 := 0) (ks2 := 0) (c_X9_moveIn o b s f l hX2) lk_X9_121 mc_X9_moveIn dX9_plant_26 y0 (by decide) rfl rfl (Nat.le_of_ble_eq_true rfl) (by decide) (by decide) (fun _ _ _ _ _ _ h => nomatch h.1) ?_
  rintro v3 n3 kd3 I3 J3 P3 ⟨h00, rfl, rfl, rfl, m4, m8, m9, m10, m11, m12⟩
  cases h00
  simp only [Option.toList, List.nil_append]
  have i3 : ∀ a, a ≠ o → a ≠ o + 58 → I3 a = I2 a := fun a a1 a2 => by rw [m10 a a1 a2]
  have hcS : cS I3 s H2 M un (sdCs M x) (sdTs M x) := cS.cg (fun a a1 a2 => i3 a (by omega) (by omega)) (by rw [hI2]; exact hFi.cS)
  refine r_aload_n dX9_plant_29 rfl ?_
  refine r_getR dX9_plant_30 fl_X9_27 rfl y0 m4.1 ?_
  refine r_getI dX9_plant_33 fl_X9_363 rfl ys ?_
  refine r_statE (c_J6_bitCount_0f7a4 (I3 s 3)) lk_X9_366 mc_J6_bitCount_0f7a4 dX9_plant_36 (by decide) rfl rfl (Nat.le_of_ble_eq_true rfl) ?_
  rw [bc_cn hH2 hcS.1.2.1]
  refine r_iret rfl dX9_plant_39 ?_
  have i2o : I2 o = va_up (I o) 18 (nI 0) := by rw [ho1 o (by omega) (by omega) (by omega), hIa o (by omega) (by omega) (by omega), am_up_s]
  have i2a : ∀ a, a ≠ o → a ≠ o + 66 → a ≠ o + 67 → a ≠ o + 68 → (a < s ∨ s + 7 < a) → (a < l ∨ l + 2 < a) → (a < o + 61 ∨ o + 65 < a) → I2 a = I a := fun a a0 b1 b2 b3 a1 a2 a3 => by rw [ho1 a a1 a2 a3, hIa a b1 b2 b3, am_up_n _ _ a0]
  have i3o : I3 o = va_up (va_up (va_up (I2 o) 9 (nI 0)) 11 (nI 0)) 18 (nI 0) := m12
  have hX3 := hX2.mv m4 m8 m9
  refine ⟨rfl, ⟨Nat.le_refl _, by omega⟩, fun z => by rw [m9 _ (by omega), rdQ_ne (by omega)]; exact z, fun a a1 a2 => ⟨rfl, by rw [i3 a (by omega) (by omega)]; exact i2a a (by omega) (by omega) (by omega) (by omega) (by omega) (by omega) (by omega), rfl, by rw [m9 a (by omega)]; exact rdQ_ne (by omega)⟩, ?_⟩
  refine ⟨s, b, l, f, hX3, ?_, ⟨?_, fun j hj => ?_, ?_, fun j hj => by rw [i3 (o + 2) (by omega) (by omega), i2a (o + 2) (by omega) (by omega) (by omega) (by omega) (by omega) (by omega) (by omega)]; exact hT.2.2.2 j hj⟩, hcS, cL.cg (fun a a1 a2 => i3 a (by omega) (by omega)) (cL_Z hH2 ?_ ?_ ?_ ?_), ?_, ?_, Or.inl ?_, Or.inl ?_⟩
  · unfold scr2
    rw [m9 _ (by omega), show rdQ P (o + 61) (o + 68) s l (o + 56) = P (o + 56) from rdQ_ne (by omega)]
    exact hsc
  · rw [i3o, i2o]; simp (disch := decide) only [am_up_s, am_up_n]; exact hT.1
  · rw [i3 (o + 1) (by omega) (by omega), i2a (o + 1) (by omega) (by omega) (by omega) (by omega) (by omega) (by omega) (by omega)]
    exact hT.2.1 j hj
  · rw [i3o, i2o]; simp (disch := decide) only [am_up_s, am_up_n]; exact hT.2.2.1
  · intro h hh
    rw [hI2, (rI_l (by omega)).1, (rI_l (by omega)).2]
    exact hso h hh
  · rw [ho2 l (by omega) (by omega) (by omega) (by omega), hlo]; rfl
  · rw [ho2 l (by omega) (by omega) (by omega) (by omega), hlo]; rfl
  · rw [ho2 l (by omega) (by omega) (by omega) (by omega), hlo]; rfl
  · show I3 o 9 = nI 0
    rw [i3o]; simp (disch := decide) only [am_up_s, am_up_n]
  · show I3 (o + 58) 6 = nI 0
    rw [m11, am_up_s]
  · rw [i3o]; simp (disch := decide) only [am_up_s, am_up_n]
  · rw [i3o, am_up_s]

set_option maxHeartbeats 4000000 in
set_option maxRecDepth 100000 in
theorem k_plant_no (o b s f l : Nat) (x y : Int32) {t : Nat} {T : Nat → Nat} {fp : Int32} {rr : Nat → Int32} {H M : Nat} {un : Bool} {cs : Nat → List Nat} {tx : Nat → List Int32} {e : Lf} {im : Option Lf} {wk : Option (List Nat)} {n : Nat} {kd : mK} {I : mI} {J : mJ} {P : mP} (hC : CR o b s f l n kd I J P t T fp rr H M un cs tx e im wk) (hz : okZ t T H M cs e) (hy : y < nI 1 ∨ nI 8 < y) : Ct yX9_plant cX9_plant 3 (some .int) 10 1 6 [.ref o, .int x, .int y] n kd I J P (fun z n' kd' I' J' P' => z = .inr "java/lang/IllegalArgumentException" ∧ n' = n ∧ kd' = kd ∧ I' = I ∧ J' = J ∧ P' = P) := by
  obtain ⟨hX, hsc, hT, hSt, hLf, hIm, hWk, hQc, hPc⟩ := hC
  obtain ⟨okt, oks, okl⟩ := hz
  have hS := hX.S
  have hL := hX.L
  have hat := hX.at
  have hH8 : H ≤ 8 := oks.2.1
  have hM20 : 2 ≤ M ∧ M ≤ 20 := oks.1
  have hH : I b 0 = nI H := hSt.1.1
  have hMo : I b 1 = nI M := hSt.2.1
  obtain ⟨⟨x0, x1, x2⟩, -, ⟨-, -, hLk⟩, ⟨hQ, hA, hG, hW, hRd, hD, hPg⟩, ⟨p0, p3, p8, p10, p12, p13, p14, p15, p16, p17⟩, ⟨p4, p5, p6, p7⟩, -, -, -⟩ := id hX
  refine ct_of 0 (by decide +kernel) (Nat.le_of_ble_eq_true rfl) rfl ?_
  by_cases h1 : y < nI 1
  · skip
    refine r_iload_n dX9_plant_0 rfl ?_
    refine r_iconst (v := nI 1) dX9_plant_1 (by decide) ?_
    refine r_icmp_lt (tgt := 11) dX9_plant_2 (by decide) (fun _ => ?_) (fun hz => absurd (show _ from h1) hz)
    refine r_throw (cls := "java/lang/IllegalArgumentException") (names := ["java/lang/RuntimeException", "java/lang/Exception"]) dX9_plant_11 dX9_plant_14 dX9_plant_15 dX9_plant_18 (by decide +kernel) (by decide +kernel) cl_X9_110 xi_IllegalArgumentException xa_iae xb_iae (by decide) (Nat.le_of_ble_eq_true rfl) (by omega) (by omega) ?_
    exact ⟨rfl, rfl, rfl, rfl, rfl, rfl⟩
  · have h8 := hy.resolve_left h1
    refine r_iload_n dX9_plant_0 rfl ?_
    refine r_iconst (v := nI 1) dX9_plant_1 (by decide) ?_
    refine r_icmp_lt (tgt := 11) dX9_plant_2 (by decide) (fun hz => absurd hz (show ¬ _ from h1)) (fun _ => ?_)
    refine r_iload_n dX9_plant_5 rfl ?_
    refine r_bipush (v := nI 8) dX9_plant_6 (by decide) ?_
    refine r_icmp_le (tgt := 19) dX9_plant_8 (by decide) (fun hz => absurd hz (show ¬ _ from (Int32.not_le.mpr h8))) (fun _ => ?_)
    refine r_throw (cls := "java/lang/IllegalArgumentException") (names := ["java/lang/RuntimeException", "java/lang/Exception"]) dX9_plant_11 dX9_plant_14 dX9_plant_15 dX9_plant_18 (by decide +kernel) (by decide +kernel) cl_X9_110 xi_IllegalArgumentException xa_iae xb_iae (by decide) (Nat.le_of_ble_eq_true rfl) (by omega) (by omega) ?_
    exact ⟨rfl, rfl, rfl, rfl, rfl, rfl⟩

