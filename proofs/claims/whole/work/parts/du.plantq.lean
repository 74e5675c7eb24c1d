/-! PLANT: the reference -/
abbrev VT : Type := Nat × (Nat → Int32) × (Nat → Int32) × (Nat → Int32)
def tv (q : PS) : VT := match q with
  | (_, _, _, pl, _, _, _, _, _, _, _, _, tf, tt, pg) => (pl, tf, tt, pg)
def tW (c : Int32) (w : VT) : VT := (w.1 + 1, w.2.1, w.2.2.1, va_up w.2.2.2 w.1 c)
def tWs : List Int32 → VT → VT
  | [], w => w
  | c :: t, w => tWs t (tW c w)
def tS (h : Nat) (w : VT) : VT := (w.1, va_up w.2.1 h (nI w.1), w.2.2.1, w.2.2.2)
def tE (h : Nat) (w : VT) : VT := (w.1, w.2.1, va_up w.2.2.1 h (nI w.1), w.2.2.2)
def tP (h : Nat) (L : List Int32) (w : VT) : VT := tE h (tWs L (tS h w))
theorem tv_W (c : Int32) (q : PS) : tv (pW c q) = tW c (tv q) := by
  obtain ⟨it, ho, tp, pl, so, de, ri, mu, ra, lk, cd, te, tf, tt, pg⟩ := q
  simp only [pW, tv, tW]
theorem tv_D (q : PS) : tv (pD q) = tv q := by
  obtain ⟨it, ho, tp, pl, so, de, ri, mu, ra, lk, cd, te, tf, tt, pg⟩ := q
  simp only [pD, tv]
theorem tv_V (h : Nat) (q : PS) : tv (pV h q) = tv q := by
  obtain ⟨it, ho, tp, pl, so, de, ri, mu, ra, lk, cd, te, tf, tt, pg⟩ := q
  simp only [pV, tv]
theorem tv_A (a : Int32) (q : PS) : tv (pA a q) = tv q := by
  obtain ⟨it, ho, tp, pl, so, de, ri, mu, ra, lk, cd, te, tf, tt, pg⟩ := q
  simp only [pA, tv]
theorem tv_P (v : Nat) (q : PS) : tv (pP v q) = tv q := by
  obtain ⟨it, ho, tp, pl, so, de, ri, mu, ra, lk, cd, te, tf, tt, pg⟩ := q
  simp only [pP, tv]
theorem tv_E (h : Nat) (q : PS) : tv (pEnd h q) = tE h (tv q) := by
  obtain ⟨it, ho, tp, pl, so, de, ri, mu, ra, lk, cd, te, tf, tt, pg⟩ := q
  simp only [pEnd, S_tt, G_tt, G_pl, tv, tE]
theorem tv_S (h : Nat) (mk : Int32) (q : PS) : tv (pSet h mk q) = tS h (tv q) := by
  obtain ⟨it, ho, tp, pl, so, de, ri, mu, ra, lk, cd, te, tf, tt, pg⟩ := q
  simp only [pSet, S_tf, S_lk, S_ra, S_ri, G_ri, G_ra, G_lk, G_tp, G_tf, G_pl, tv, tS]
theorem tv_Z (h : Nat) (q : PS) : tv (paZ h q) = tv q := by
  obtain ⟨it, ho, tp, pl, so, de, ri, mu, ra, lk, cd, te, tf, tt, pg⟩ := q
  simp only [paZ, S_so, S_de, S_ri, S_mu, S_lk, G_so, G_de, G_ri, G_mu, G_lk, tv]
theorem tv_Ws : ∀ (bs : List Int32) (q : PS), tv (pWs bs q) = tWs bs (tv q)
  | [], q => rfl
  | c :: t, q => by
    show tv (pWs t (pW c q)) = tWs t (tW c (tv q))
    rw [tv_Ws t (pW c q), tv_W]
theorem tWs_app : ∀ (a b : List Int32) (w : VT), tWs (a ++ b) w = tWs b (tWs a w)
  | [], _, _ => rfl
  | c :: t, b, w => tWs_app t b (tW c w)
theorem tWs_1 (c : Int32) (w : VT) : tW c w = tWs [c] w := rfl
theorem tv_1 (h v : Nat) (q : PS) : tv (pl1 h v q) = tP h (hereW ++ ([nI 61] ++ dg v)) (tv q) := by
  unfold pl1 tP
  rw [tv_E, tv_A, tv_A, tv_P, tv_Ws, tv_V, tv_W, tv_Ws, tv_S, tWs_1, tWs_app, tWs_app]
theorem tv_2 (h k v : Nat) (q : PS) : tv (pl2 h k v q) = tP h (hereW ++ ([nI 61] ++ (ofW ++ ([nI 32] ++ (dg k ++ ([nI 43] ++ dg v)))))) (tv q) := by
  unfold pl2 tP
  rw [tv_E, tv_A, tv_A, tv_A, tv_P, tv_Ws, tv_W, tv_V, tv_Ws, tv_W, tv_Ws, tv_V, tv_W, tv_Ws, tv_S, tWs_1, tWs_1, tWs_1, tWs_app, tWs_app, tWs_app, tWs_app, tWs_app, tWs_app]
theorem tv_3 (h k : Nat) (q : PS) : tv (pl3 h k q) = tP h (notW ++ ([nI 32] ++ (hereW ++ ([nI 61] ++ (ofW ++ ([nI 32] ++ dg k)))))) (tv q) := by
  unfold pl3 tP
  rw [tv_E, tv_A, tv_A, tv_A, tv_V, tv_Ws, tv_W, tv_Ws, tv_V, tv_W, tv_Ws, tv_W, tv_Ws, tv_S, tWs_1, tWs_1, tWs_1, tWs_app, tWs_app, tWs_app, tWs_app, tWs_app, tWs_app]
theorem tWs_p : ∀ (L : List Int32) (w : VT), (tWs L w).1 = w.1 + L.length ∧ (tWs L w).2.1 = w.2.1 ∧ (tWs L w).2.2.1 = w.2.2.1 ∧ (∀ j, j < w.1 → (tWs L w).2.2.2 j = w.2.2.2 j) ∧ ∀ j, j < L.length → (tWs L w).2.2.2 (w.1 + j) = L.getD j 0
  | [], w => ⟨rfl, rfl, rfl, fun _ _ => rfl, fun j hj => absurd hj (Nat.not_lt_zero j)⟩
  | c :: t, w => by
    obtain ⟨h1, h2, h3, h4, h5⟩ := tWs_p t (tW c w)
    refine ⟨?_, h2, h3, fun j hj => ?_, fun j hj => ?_⟩
    · show (tWs t (tW c w)).1 = w.1 + (t.length + 1)
      rw [h1]; show w.1 + 1 + t.length = _; omega
    · show (tWs t (tW c w)).2.2.2 j = _
      rw [h4 j (by show j < w.1 + 1; omega)]
      exact am_up_n _ _ (by omega)
    · show (tWs t (tW c w)).2.2.2 (w.1 + j) = _
      cases j with
      | zero =>
        rw [h4 (w.1 + 0) (by show w.1 + 0 < w.1 + 1; omega)]
        show va_up w.2.2.2 w.1 c (w.1 + 0) = c
        rw [Nat.add_zero, am_up_s]
      | succ j =>
        have := h5 j (by simp only [List.length_cons] at hj; omega)
        rw [show w.1 + (j + 1) = w.1 + 1 + j by omega]
        rw [show (c :: t).getD (j + 1) 0 = t.getD j 0 from rfl]
        exact this
/-- texts of the houses below k -/
def rtT (cs : Nat → List Nat) (tx : Nat → List Int32) (k : Nat) (w : VT) : Prop := ∀ h, h < k → cs h ≠ [] → ∃ p, w.2.1 h = nI p ∧ w.2.2.1 h = nI (p + (tx h).length) ∧ p + (tx h).length ≤ w.1 ∧ atX w.2.2.2 p (tx h)
theorem rtT.put {cs : Nat → List Nat} {tx : Nat → List Int32} {k : Nat} {w : VT} (hq : rtT cs tx k w) : rtT cs tx (k + 1) (tP k (tx k) w) := by
  obtain ⟨e1, e2, e3, e4, e5⟩ := tWs_p (tx k) (tS k w)
  have f1 : (tP k (tx k) w).1 = w.1 + (tx k).length := e1
  have f2 : (tP k (tx k) w).2.1 = va_up w.2.1 k (nI w.1) := e2
  have f3 : (tP k (tx k) w).2.2.1 = va_up w.2.2.1 k (nI (w.1 + (tx k).length)) := by
    show va_up (tWs (tx k) (tS k w)).2.2.1 k (nI (tWs (tx k) (tS k w)).1) = _
    rw [e3, e1]
    rfl
  have f4 : (tP k (tx k) w).2.2.2 = (tWs (tx k) (tS k w)).2.2.2 := rfl
  intro h hh hc
  rw [f1, f2, f3, f4]
  by_cases c : h = k
  · subst c
    refine ⟨w.1, am_up_s _ _ _, am_up_s _ _ _, Nat.le_refl _, fun j hj => e5 j hj⟩
  · obtain ⟨p, a1, a2, a3, a4⟩ := hq h (by omega) hc
    refine ⟨p, by rw [am_up_n _ _ c]; exact a1, by rw [am_up_n _ _ c]; exact a2, by omega, fun j hj => ?_⟩
    rw [e4 (p + j) (by show p + j < w.1; omega)]
    exact a4 j hj
theorem rtT.skip {cs : Nat → List Nat} {tx : Nat → List Int32} {k : Nat} {w : VT} (hc : cs k = []) (hq : rtT cs tx k w) : rtT cs tx (k + 1) w := fun h hh hn => by
  by_cases c : h = k
  · subst c; exact absurd hc hn
  · exact hq h (by omega) hn
theorem tv_pl (q : PS) : (tv q).1 = pPl q := by
  obtain ⟨it, ho, tp, pl, so, de, ri, mu, ra, lk, cd, te, tf, tt, pg⟩ := q
  rfl
theorem rtT_step {M H k : Nat} {x : Int32} {q : PS} (hk : k < H) (hx : pIt q = sdX x k) (hq : rtT (sdCs M x) (sdTs M x) k (tv q)) : rtT (sdCs M x) (sdTs M x) (k + 1) (tv (paQ M H k q)) := by
  have hcs : sdCs M x k = sdC (pIt q) k M := by rw [hx]; rfl
  have htx : sdTs M x k = sdT (pIt q) k M := by rw [hx]; rfl
  unfold sdC at hcs
  unfold sdT at htx
  unfold paQ
  rw [if_pos hk]
  by_cases e1 : dv (lcg (pIt q)) % 4 = 1
  · rw [if_pos e1] at htx ⊢
    rw [tv_1, tv_D, tv_D, tv_Z, ← htx]
    exact hq.put
  rw [if_neg e1] at hcs htx ⊢
  by_cases e2 : dv (lcg (pIt q)) % 4 = 2 ∧ 0 < k
  · rw [if_pos e2] at htx ⊢
    rw [tv_2, tv_D, tv_D, tv_D, tv_Z, ← htx]
    exact hq.put
  rw [if_neg e2] at hcs htx ⊢
  by_cases e3 : dv (lcg (pIt q)) % 4 = 3 ∧ 0 < k
  · rw [if_pos e3] at htx ⊢
    rw [tv_3, tv_D, tv_D, tv_Z, ← htx]
    exact hq.put
  rw [if_neg e3] at hcs ⊢
  rw [tv_D, tv_Z]
  exact hq.skip hcs
theorem pt_facts {M H : Nat} {x : Int32} (k : Nat) : ∀ (h : Nat) (q : PS), h + k = 8 → (h ≤ H → pIt q = sdX x h) → rtT (sdCs M x) (sdTs M x) (min h H) (tv q) → H ≤ 8 → rtT (sdCs M x) (sdTs M x) H (tv (paL M H k h q)) := by
  induction k with
  | zero =>
    intro h q hh _ hq hH
    unfold paL
    rw [show min h H = H by omega] at hq
    exact hq
  | succ k ih =>
    intro h q hh hx hq hH
    unfold paL
    have hp := paQ_pl M H h q
    refine ih (h + 1) (paQ M H h q) (by omega) (fun z => ?_) ?_ hH
    · rw [hp.2.2, if_pos (by omega), hx (by omega), sdX]
    · by_cases e : h < H
      · rw [show min h H = h by omega] at hq
        rw [show min (h + 1) H = h + 1 by omega]
        exact rtT_step e (hx (by omega)) hq
      · rw [show min h H = H by omega] at hq
        rw [show min (h + 1) H = H by omega]
        unfold paQ
        rw [if_neg e, tv_Z]
        exact hq
def txM (cs : Nat → List Nat) (tx : Nat → List Int32) (H : Nat) (I : mI) (m : Nat) : Prop := ∀ h, h < H → cs h ≠ [] → ∃ p q, I (m + 9) h = nI p ∧ I (m + 10) h = nI (p + q) ∧ p + q ≤ 500 ∧ wrT (I (m + 8)) q p (nI 32) false = tx h
theorem tv_paT (q : PS) : (∀ j, j < (tv q).1 → G_te (paT q) j = (tv q).2.2.2 j) ∧ G_tf (paT q) = (tv q).2.1 ∧ G_tt (paT q) = (tv q).2.2.1 := by
  obtain ⟨it, ho, tp, pl, so, de, ri, mu, ra, lk, cd, te, tf, tt, pg⟩ := q
  simp only [paT, S_te, tv, G_te, G_tf, G_tt, G_pl, G_pg, and_self, and_true]
  intro j hj
  exact if_pos hj
set_option linter.constructorNameAsVariable false in
set_option maxHeartbeats 4000000 in
set_option maxRecDepth 100000 in
theorem c_plantsAllT (m M H : Nat) (x : Int32) {n : Nat} {kd : mK} {I : mI} {J : mJ} {P : mP} (hM : kM kd P m) (hMo : I m 2 = nI M) (hM0 : 0 < M) (hM20 : M ≤ 20) (hH : H ≤ 8) : Ct yX10_plantsAll cX10_plantsAll 6 (some .int) 5 0 0 [.ref m, .int x, .int (nI H)] n kd I J P (fun z n' kd' I' J' P' => paG n kd I J P m M H x z n' kd' I' J' P' ∧ txM (sdCs M x) (sdTs M x) H I' m) := by
  refine Ct.mono (c_X10_plantsAll m M H x hM hMo hM0 hM20 hH) ?_
  rintro z n' kd' I' J' P' ⟨rfl, rfl, rfl, rfl, rfl, rfl⟩
  generalize hq0 : S_pl 0 (S_tp 0 (S_ho (nI H) (S_it x (psOf I m)))) = q0
  have i0 : pIt q0 = x := by rw [← hq0]; rfl
  have t0 : pTp q0 = 0 := by rw [← hq0]; rfl
  have p0 : pPl q0 = 0 := by rw [← hq0]; rfl
  have o0 : (vw q0).1 = nI H := by rw [← hq0]; rfl
  have hst := pa_facts (x := x) hM0 hM20 hH 8 0 q0 (by omega) (by omega) (fun _ => by rw [i0, sdX]) (by rw [Nat.zero_min]; intro h hh; exact absurd hh (Nat.not_lt_zero h))
  have htt := pt_facts (M := M) (x := x) 8 0 q0 (by omega) (fun _ => by rw [i0, sdX]) (by rw [Nat.zero_min]; intro h hh; exact absurd hh (Nat.not_lt_zero h)) hH
  have hpl := (paL_pl M H 8 0 q0).1
  have hcn := paC_cn M H x 8 0 q0 (fun _ => by rw [i0, sdX]) (by omega)
  rw [Nat.zero_min] at hcn
  have hho : (vw (paT (paL M H 8 0 q0))).1 = nI H := by rw [vw_T, paL_ho, o0]
  rw [← vw_T] at hst
  obtain ⟨u3, u4, u5⟩ := tv_paT (paL M H 8 0 q0)
  rw [← tv_pl] at hpl
  generalize hq9 : paT (paL M H 8 0 q0) = q at hst hho u3 u4 u5 ⊢
  rw [vw_g] at hst hho
  refine ⟨⟨by rw [← hcn]; rfl, rfl, rfl, rfl, rfl, ⟨by rw [gI_Gho]; exact hho, fun h hh => ?_⟩, fun j a b c d => gI_O m q I ⟨a, b, c, d⟩, fun a ha => gI_NE m q I ha⟩, fun h hh hc => ?_⟩
  · rw [gI_Aso, gI_Ade, gI_Amu, gI_Ari, gI_Alk, gI_Ara, gI_Acd]
    obtain ⟨a1, a2, a3, a4, a5, a6⟩ := hst h hh
    exact ⟨a1, a2, a3, a4, a5, fun z => by obtain ⟨a, b1, b2, b3⟩ := a6 z; exact ⟨a, b1, b2⟩⟩
  · rw [gI_Atf, gI_Att, gI_Ate]
    obtain ⟨p, a1, a2, a3, a4⟩ := htt h hh hc
    refine ⟨p, (sdTs M x h).length, by rw [u4]; exact a1, by rw [u5]; exact a2, by omega, ?_⟩
    exact wrT_sd (x := sdX x h) (h := h) (by omega) hM0 hM20 (fun j hj => by rw [u3 (p + j) (by have : (sdT (sdX x h) h M).length = (sdTs M x h).length := rfl; omega)]; exact a4 j hj)
theorem rS_sd {I : mI} {m M H : Nat} {un : Bool} {x : Int32} (hM2 : 2 ≤ M) (hM : M ≤ 20) (hH : H ≤ 8) (h1 : rsM (sdCs M x) H I m) (h2 : txM (sdCs M x) (sdTs M x) H I m) (hMo : I m 2 = nI M) (hu : I m 3 = bz un) (h54 : I m 54 = -1) (h58 : I m 58 = -1) : rS I m H M un (sdCs M x) (sdTs M x) := by
  refine ⟨⟨h1.1, hMo, hu⟩, ⟨h54, h58⟩, fun h hh => ?_⟩
  obtain ⟨-, -, -, a4, a5, a6⟩ := h1.2 h hh
  have hl := lkS_lt (cs_seed (x := x) (show 0 < M by omega) hM hH) hh
  have h8 : 2 ^ H ≤ 2 ^ 8 := Nat.pow_le_pow_right (by decide) hH
  refine ⟨a4, by rw [a5, Nat.mod_eq_of_lt (show lkm 0 (sdCs M x h) < 256 by omega)], fun z => ⟨a6 z, h2 h hh z⟩⟩
theorem rL_sd {I : mI} {m H : Nat} {cs : Nat → List Nat} (h1 : rsM cs H I m) (k45 : I m 45 = nI 0) (k47 : I m 47 = nI 0) : rL I m H eZ := by
  refine ⟨fun x hx => ?_, ⟨k45, fun j hj => absurd hj (Nat.not_lt_zero _)⟩, k47, fun j hj => absurd hj (Nat.not_lt_zero _)⟩
  obtain ⟨a1, a2, a3, -⟩ := h1.2 x hx
  exact ⟨a1, a2, a3⟩

set_option maxHeartbeats 4000000 in
set_option maxRecDepth 100000 in
theorem q_plant (m : Nat) (H2 : Nat) (x : Int32) {t : Nat} {T : Nat → Nat} {fp : Int32} {rr : Nat → Int32} {H M : Nat} {un : Bool} {cs : Nat → List Nat} {tx : Nat → List Int32} {e : Lf} {im : Option Lf} {wk : Option (List Nat)} {n : Nat} {kd : mK} {I : mI} {J : mJ} {P : mP} (hC : RR m kd I P t T fp rr H M un cs tx e im wk) (hz : okZ t T H M cs e) (hH1 : 1 ≤ H2) (hH2 : H2 ≤ 8) : Ct yX10_plant cX10_plant 3 (some .int) 10 0 0 [.ref m, .int x, .int (nI H2)] n kd I J P (pQ m n kd I J P (some (.int (nI (cnR (sdCs M x) H2)))) 0 (RX m t T fp rr H2 M un (sdCs M x) (sdTs M x) eZ none none)) := by
  refine ct_of 0 (by decide +kernel) (Nat.le_of_ble_eq_true rfl) rfl ?_
  refine r_aload_n dX10_plant_0 rfl ?_
  refine r_iconst (v := nI 0) dX10_plant_1 (by decide) ?_
  refine r_putI dX10_plant_2 fl_X10_193 rfl rfl (kM_0 hC.1) ?_
  refine q_th hC (fun I hC h0 => ?_)
  have hC0 := hC
  have hz0 := hz
  obtain ⟨hM, hT, hSt, hLf, hIm, hWk⟩ := hC
  obtain ⟨okt, oks, okl⟩ := hz
  have hH8 : H ≤ 8 := oks.2.1
  have hM20 : 2 ≤ M ∧ M ≤ 20 := oks.1
  have hH : I m 1 = nI H := hSt.1.1
  have hMo : I m 2 = nI M := hSt.1.2.1
  refine r_aload_n dX10_plant_5 rfl ?_
  refine r_iload_n dX10_plant_6 rfl ?_
  refine r_iconst (v := nI 1) dX10_plant_7 (by decide) ?_
  refine r_bipush (v := nI 8) dX10_plant_8 (by decide) ?_
  refine r_statE (c_X10_within (nI H2) (nI 1) (nI 8)) lk_X10_369 mc_X10_within dX10_plant_10 (by decide) rfl rfl (Nat.le_of_ble_eq_true rfl) ?_
  rw [show (!decide (nI H2 < nI 1) && !decide (nI 8 < nI H2)) = true from wi_of hH1 hH2 (by decide)]
  refine r_iconst (v := nI 1) dX10_plant_13 (by decide) ?_
  refine r_virtE (c_X10_right m true (nI 1) hM h0 (by decide)) lk_X10_343 mc_X10_right dX10_plant_14 (kM_0 hM) (by decide) rfl rfl (Nat.le_of_ble_eq_true rfl) ?_
  rw [thM_ok]
  refine r_if_ne (tgt := 22) dX10_plant_17 (by decide) (fun _ => ?_) (fun hz => absurd hz (show ¬ _ from (by decide)))
  refine r_aload_n dX10_plant_22 rfl ?_
  refine r_iconst (v := nI 0) dX10_plant_23 (by decide) ?_
  refine r_putI dX10_plant_24 fl_X10_360 rfl rfl (kM_0 hM) ?_
  refine r_aload_n dX10_plant_27 rfl ?_
  refine r_iconst (v := nI 0) dX10_plant_28 (by decide) ?_
  refine r_putI dX10_plant_29 fl_X10_363 rfl rfl (kM_0 hM) ?_
  refine r_aload_n dX10_plant_32 rfl ?_
  refine r_iconst (v := (-1)) dX10_plant_33 (by decide) ?_
  refine r_putI dX10_plant_34 fl_X10_139 rfl rfl (kM_0 hM) ?_
  refine r_aload_n dX10_plant_37 rfl ?_
  refine r_iconst (v := nI 0) dX10_plant_38 (by decide) ?_
  refine r_putZ dX10_plant_39 fl_X10_366 rfl rfl (Or.inl rfl) (kM_0 hM) ?_
  obtain ⟨I9, hI9⟩ : ∃ Z9 : mI, Z9 = va_up (va_up (va_up (va_up I m (va_up (I m) 45 (nI 0))) m (va_up (va_up I m (va_up (I m) 45 (nI 0)) m) 47 (nI 0))) m (va_up (va_up (va_up I m (va_up (I m) 45 (nI 0))) m (va_up (va_up I m (va_up (I m) 45 (nI 0)) m) 47 (nI 0)) m) 74 (-1))) m (va_up (va_up (va_up (va_up I m (va_up (I m) 45 (nI 0))) m (va_up (va_up I m (va_up (I m) 45 (nI 0)) m) 47 (nI 0))) m (va_up (va_up (va_up I m (va_up (I m) 45 (nI 0))) m (va_up (va_up I m (va_up (I m) 45 (nI 0)) m) 47 (nI 0)) m) 74 (-1)) m) 90 (nI 0)) := ⟨_, rfl⟩
  rw [← hI9]
  have e9 : ∀ j, j ≠ 45 → j ≠ 47 → j ≠ 74 → j ≠ 90 → I9 m j = I m j := fun j j1 j2 j3 j4 => by rw [hI9, am_up_s, am_up_n _ _ j4, am_up_s, am_up_n _ _ j3, am_up_s, am_up_n _ _ j2, am_up_s, am_up_n _ _ j1]
  have g45 : I9 m 45 = nI 0 := by rw [hI9]; simp (disch := decide) only [am_up_s, am_up_n]
  have g47 : I9 m 47 = nI 0 := by rw [hI9]; simp (disch := decide) only [am_up_s, am_up_n]
  have g74 : I9 m 74 = -1 := by rw [hI9]; simp (disch := decide) only [am_up_s, am_up_n]
  have g90 : I9 m 90 = nI 0 := by rw [hI9]; simp (disch := decide) only [am_up_s, am_up_n]
  have ea9 : ∀ a, a ≠ m → I9 a = I a := fun a a1 => by rw [hI9, am_up_n _ _ a1, am_up_n _ _ a1, am_up_n _ _ a1, am_up_n _ _ a1]
  have e2 : I9 m 2 = nI M := (e9 _ (by decide) (by decide) (by decide) (by decide)).trans hMo
  clear hI9
  refine r_aload_n dX10_plant_42 rfl ?_
  refine r_iload_n dX10_plant_43 rfl ?_
  refine r_iload_n dX10_plant_44 rfl ?_
  refine r_virt (kc2 := 0) (ks2 := 0) (c_plantsAllT m M H2 x hM (I := I9) e2 (by omega) hM20.2 hH2) lk_X10_541 mc_X10_plantsAll dX10_plant_45 (kM_0 hM) (by decide) rfl rfl (Nat.le_of_ble_eq_true rfl) (by decide) (by decide) (fun _ _ _ _ _ _ h => nomatch h.1.1) ?_
  rintro v1 n1 kd1 I1 J1 P1 ⟨⟨h00, rfl, rfl, rfl, rfl, hst, hrow, hfr⟩, htx⟩
  cases h00
  simp only [Option.toList, List.cons_append, List.nil_append]
  refine r_iret rfl dX10_plant_48 ?_
  have r9 : ∀ j, j ≠ 78 → j ≠ 1 → j ≠ 30 → j ≠ 77 → j ≠ 45 → j ≠ 47 → j ≠ 74 → j ≠ 90 → I1 m j = I m j := fun j a b c d j1 j2 j3 j4 => (hrow j a b c d).trans (e9 j j1 j2 j3 j4)
  have a9 : ∀ a, (a < m ∨ m + 55 < a ∨ (m + 10 < a ∧ a ≠ m + 40)) → I1 a = I a := fun a ha => (hfr a ha).trans (ea9 a (by omega))
  refine ⟨rfl, rfl, rfl, rfl, fun a ha => ⟨a9 a (by omega), rfl⟩, (r9 0 (by decide) (by decide) (by decide) (by decide) (by decide) (by decide) (by decide) (by decide)).trans h0, hM, ⟨?_, fun j hj => ?_, ?_, fun j hj => ?_⟩, rS_sd hM20.1 hM20.2 hH2 hst htx ?_ ?_ ?_ ?_, rL_sd hst ?_ ?_, ?_, ?_⟩
  · exact (r9 15 (by decide) (by decide) (by decide) (by decide) (by decide) (by decide) (by decide) (by decide)).trans hT.1
  · rw [a9 (m + 11) (by omega)]; exact hT.2.1 j hj
  · exact (r9 17 (by decide) (by decide) (by decide) (by decide) (by decide) (by decide) (by decide) (by decide)).trans hT.2.2.1
  · rw [a9 (m + 12) (by omega)]; exact hT.2.2.2 j hj
  · exact (r9 2 (by decide) (by decide) (by decide) (by decide) (by decide) (by decide) (by decide) (by decide)).trans hMo
  · exact (r9 3 (by decide) (by decide) (by decide) (by decide) (by decide) (by decide) (by decide) (by decide)).trans hSt.1.2.2
  · exact (r9 54 (by decide) (by decide) (by decide) (by decide) (by decide) (by decide) (by decide) (by decide)).trans hSt.2.1.1
  · exact (r9 58 (by decide) (by decide) (by decide) (by decide) (by decide) (by decide) (by decide) (by decide)).trans hSt.2.1.2
  · exact (hrow 45 (by decide) (by decide) (by decide) (by decide)).trans g45
  · exact (hrow 47 (by decide) (by decide) (by decide) (by decide)).trans g47
  · exact (hrow 90 (by decide) (by decide) (by decide) (by decide)).trans g90
  · exact (hrow 74 (by decide) (by decide) (by decide) (by decide)).trans g74

set_option maxHeartbeats 4000000 in
set_option maxRecDepth 100000 in
theorem q_plant_no (m : Nat) (x y : Int32) {t : Nat} {T : Nat → Nat} {fp : Int32} {rr : Nat → Int32} {H M : Nat} {un : Bool} {cs : Nat → List Nat} {tx : Nat → List Int32} {e : Lf} {im : Option Lf} {wk : Option (List Nat)} {n : Nat} {kd : mK} {I : mI} {J : mJ} {P : mP} (hC : RR m kd I P t T fp rr H M un cs tx e im wk) (hz : okZ t T H M cs e) (hy : y < nI 1 ∨ nI 8 < y) : Ct yX10_plant cX10_plant 3 (some .int) 10 0 0 [.ref m, .int x, .int y] n kd I J P (pQ m n kd I J P (some (.int (nI 0))) 1 (RX m t T fp rr H M un cs tx e im wk)) := by
  refine ct_of 0 (by decide +kernel) (Nat.le_of_ble_eq_true rfl) rfl ?_
  refine r_aload_n dX10_plant_0 rfl ?_
  refine r_iconst (v := nI 0) dX10_plant_1 (by decide) ?_
  refine r_putI dX10_plant_2 fl_X10_193 rfl rfl (kM_0 hC.1) ?_
  refine q_th hC (fun I hC h0 => ?_)
  have hC0 := hC
  have hz0 := hz
  obtain ⟨hM, hT, hSt, hLf, hIm, hWk⟩ := hC
  obtain ⟨okt, oks, okl⟩ := hz
  have hH8 : H ≤ 8 := oks.2.1
  have hM20 : 2 ≤ M ∧ M ≤ 20 := oks.1
  have hH : I m 1 = nI H := hSt.1.1
  have hMo : I m 2 = nI M := hSt.1.2.1
  refine r_aload_n dX10_plant_5 rfl ?_
  refine r_iload_n dX10_plant_6 rfl ?_
  refine r_iconst (v := nI 1) dX10_plant_7 (by decide) ?_
  refine r_bipush (v := nI 8) dX10_plant_8 (by decide) ?_
  refine r_statE (c_X10_within (y) (nI 1) (nI 8)) lk_X10_369 mc_X10_within dX10_plant_10 (by decide) rfl rfl (Nat.le_of_ble_eq_true rfl) ?_
  rw [show (!decide (y < nI 1) && !decide (nI 8 < y)) = false from wi_no hy]
  refine r_iconst (v := nI 1) dX10_plant_13 (by decide) ?_
  refine r_virtE (c_X10_right m false (nI 1) hM h0 (by decide)) lk_X10_343 mc_X10_right dX10_plant_14 (kM_0 hM) (by decide) rfl rfl (Nat.le_of_ble_eq_true rfl) ?_
  refine r_if_ne (tgt := 22) dX10_plant_17 (by decide) (fun hz => absurd (show _ from rfl) hz) (fun _ => ?_)
  refine r_iconst (v := nI 0) dX10_plant_20 (by decide) ?_
  refine r_iret rfl dX10_plant_21 ?_
  exact pQ.th hC0 am_is.mk

