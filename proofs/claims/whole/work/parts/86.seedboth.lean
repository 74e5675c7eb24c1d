/-! A SEEDED STREET IN BOTH MEMORIES -/
def lkP (h : Nat) (cs : List Nat) : Prop := lkm 0 cs < 2 ^ (h + 1) ∧ (∀ t, t < 8 → 10000 + t ∈ cs → (lkm 0 cs).testBit t = true) ∧ (cs ≠ [] → okd cs 0)
theorem lk_1 {h v : Nat} (h8 : h < 8) (hv : v < 1000) : lkP h [10000 + h, v, 20009] := by
  have p1 : 2 ^ h < 2 ^ (h + 1) := Nat.pow_lt_pow_right (by decide) (by omega)
  have e : lkm 0 [10000 + h, v, 20009] = 0 ||| 2 ^ h := by
    simp [lkm, show 10000 + h < 20000 by omega, show ¬ 10000 ≤ v by omega]
  unfold lkP
  rw [e]
  refine ⟨Nat.or_lt_two_pow (Nat.two_pow_pos _) p1, fun t ht hm => ?_, fun _ => ?_⟩
  · simp at hm
    rw [Nat.testBit_or, Nat.testBit_two_pow, show t = h by omega]
    simp
  · simp [okd, dep1, show 10000 + h < 20003 by omega, show v < 20003 by omega]
theorem lk_2 {h k v : Nat} (h8 : h < 8) (hk : k < h) (hv : v < 1000) : lkP h [10000 + h, 10000 + k, v, 20004, 20009] := by
  have p1 : 2 ^ h < 2 ^ (h + 1) := Nat.pow_lt_pow_right (by decide) (by omega)
  have p2 : 2 ^ k < 2 ^ (h + 1) := Nat.pow_lt_pow_right (by decide) (by omega)
  have e : lkm 0 [10000 + h, 10000 + k, v, 20004, 20009] = (0 ||| 2 ^ h) ||| 2 ^ k := by
    simp [lkm, show 10000 + h < 20000 by omega, show 10000 + k < 20000 by omega, show ¬ 10000 ≤ v by omega]
  unfold lkP
  rw [e]
  refine ⟨Nat.or_lt_two_pow (Nat.or_lt_two_pow (Nat.two_pow_pos _) p1) p2, fun t ht hm => ?_, fun _ => ?_⟩
  · simp at hm
    rw [Nat.testBit_or, Nat.testBit_or, Nat.testBit_two_pow, Nat.testBit_two_pow]
    rcases (show t = h ∨ t = k by omega) with z | z <;> simp [z]
  · simp [okd, dep1, show 10000 + h < 20003 by omega, show 10000 + k < 20003 by omega, show v < 20003 by omega]
theorem lk_3 {h k : Nat} (h8 : h < 8) (hk : k < h) : lkP h [10000 + h, 10000 + k, 20009, 20003] := by
  have p1 : 2 ^ h < 2 ^ (h + 1) := Nat.pow_lt_pow_right (by decide) (by omega)
  have p2 : 2 ^ k < 2 ^ (h + 1) := Nat.pow_lt_pow_right (by decide) (by omega)
  have e : lkm 0 [10000 + h, 10000 + k, 20009, 20003] = (0 ||| 2 ^ h) ||| 2 ^ k := by
    simp [lkm, show 10000 + h < 20000 by omega, show 10000 + k < 20000 by omega]
  unfold lkP
  rw [e]
  refine ⟨Nat.or_lt_two_pow (Nat.or_lt_two_pow (Nat.two_pow_pos _) p1) p2, fun t ht hm => ?_, fun _ => ?_⟩
  · simp at hm
    rw [Nat.testBit_or, Nat.testBit_or, Nat.testBit_two_pow, Nat.testBit_two_pow]
    rcases (show t = h ∨ t = k by omega) with z | z <;> simp [z]
  · simp [okd, dep1, show 10000 + h < 20003 by omega, show 10000 + k < 20003 by omega]
theorem lk_0 {h : Nat} : lkP h [] := ⟨by simp [lkm]; exact Nat.two_pow_pos _, fun t _ hm => by simp at hm, fun z => absurd rfl z⟩
theorem sd_look {x : Int32} {h M : Nat} (h8 : h < 8) (hM0 : 0 < M) (hM : M ≤ 20) : lkP h (sdC x h M) := by
  have a1 := Nat.mod_lt (dv (lcg (lcg x))) hM0
  have a3 := Nat.mod_lt (dv (lcg (lcg (lcg x)))) (show 0 < 4 by omega)
  unfold sdC
  split
  · exact lk_1 h8 (by omega)
  split
  · rename_i e2
    have a2 := Nat.mod_lt (dv (lcg (lcg x))) e2.2
    exact lk_2 h8 a2 (by omega)
  split
  · rename_i e2
    have a2 := Nat.mod_lt (dv (lcg (lcg x))) e2.2
    exact lk_3 h8 a2
  · exact lk_0
theorem sd_lookS {x : Int32} {h M : Nat} (h8 : h < 8) (hM0 : 0 < M) (hM : M ≤ 20) : lkP h (sdCs M x h) := by
  unfold sdCs
  exact sd_look h8 hM0 hM
theorem sd_okS {x : Int32} {h M : Nat} (h8 : h < 8) (hM0 : 0 < M) (hM : M ≤ 20) : (sdCs M x h).length ≤ 5 ∧ ∀ c ∈ sdCs M x h, c < 20012 ∧ (10000 ≤ c → c < 20000 → c - 10000 < 8) := by
  unfold sdCs
  exact sdC_ok h8 hM0 hM
theorem mask_H : ∀ H, H ≤ 8 → ((nI 1 <<< (nI H &&& 31)) - nI 1).toBitVec.toNat = 2 ^ H - 1 := by decide +kernel
def csOK (cs : Nat → List Nat) (H : Nat) : Prop := ∀ h, h < H → lkP h (cs h) ∧ (cs h).length ≤ 5 ∧ ∀ c ∈ cs h, c < 20012
theorem cs_seed {M H : Nat} {x : Int32} (hM0 : 0 < M) (hM : M ≤ 20) (hH : H ≤ 8) : csOK (sdCs M x) H := fun h hh => ⟨sd_lookS (by omega) hM0 hM, (sd_okS (by omega) hM0 hM).1, fun c hc => ((sd_okS (by omega) hM0 hM).2 c hc).1⟩
theorem lkS_lt {cs : Nat → List Nat} {H h : Nat} (hc : csOK cs H) (hh : h < H) : lkm 0 (cs h) < 2 ^ H := Nat.lt_of_lt_of_le (hc h hh).1.1 (Nat.pow_le_pow_right (by decide) (by omega))
theorem ofs_leC {cs : Nat → List Nat} {H : Nat} (hc : csOK cs H) : ∀ h, h ≤ H → ofs cs h ≤ 5 * h
  | 0, _ => Nat.le_refl _
  | h + 1, hh => by
    have h1 := ofs_leC hc h (by omega)
    have l := (hc h (by omega)).2.1
    show ofs cs h + (cs h).length ≤ _
    omega
theorem look_mask {H n : Nat} (hH : H ≤ 8) (hn : n < 2 ^ H) : nI n &&& ((nI 1 <<< (nI H &&& 31)) - nI 1) = nI n := by
  have h8 : 2 ^ H ≤ 2 ^ 8 := Nat.pow_le_pow_right (by decide) hH
  rw [pk_andN (by omega) H (mask_H H hH), Nat.mod_eq_of_lt hn]
theorem cl_seed {cs : Nat → List Nat} {M H s l : Nat} {I : mI} {un : Bool} {Lt : Nat → Int32} (hc : csOK cs H) (hH : H ≤ 8) (hst : stM cs H I s) (hmo : I s 1 = nI M) (hu : decide (I s 2 = 0) = (!un)) (hl7 : I l 7 = nI 0) : clS I s l H M 0 (fun h => lkm 0 (cs h)) cs un Lt (I (l + 1)) (I (l + 2)) := by
  obtain ⟨h1, h2, h3⟩ := hst
  refine ⟨h1, hmo, hu, fun h hh => ?_, fun k hk hx => ?_, ⟨hl7, by omega⟩, fun i hi => absurd hi (Nat.not_lt_zero i), rfl, rfl⟩
  · have hlt := lkS_lt hc hh
    refine ⟨?_, hlt⟩
    rw [(h3 h hh).1, h1]
    exact look_mask hH hlt
  · rw [h2 k (by omega), Bool.and_eq_true, decide_eq_true_eq] at hx
    have hk2 := h3 k hx.1
    have hne : cs k ≠ [] := fun z => by simp [z] at hx
    have hof := ofs_leC hc k (by omega)
    have hck := hc k hx.1
    refine ⟨hx.1, ofs cs k, hk2.2.1, hk2.2.2.1, by omega, fun j hj => ?_, hck.1.2.2 hne, hck.2.2⟩
    rw [hk2.2.2.2 j hj]
    simp [List.getD, List.getElem?_eq_getElem hj]
def rsM (cs : Nat → List Nat) (H : Nat) (I : mI) (m : Nat) : Prop := I m 1 = nI H ∧ ∀ h, h < H → I (m + 1) h = nI 0 ∧ I (m + 2) h = nI 0 ∧ I (m + 4) h = nI 0 ∧ I (m + 3) h = (if cs h = [] then nI 0 else nI 1) ∧ I (m + 6) h = nI (lkm 0 (cs h)) ∧ (cs h ≠ [] → ∃ a, I (m + 5) h = nI a ∧ rcs (I (m + 7)) (cs h) a)
theorem rf_seed {cs : Nat → List Nat} {M H m : Nat} {kd : mK} {P : mP} {I : mI} {un : Bool} (hc : csOK cs H) (hH : H ≤ 8) (hk : kM kd P m) (hst : rsM cs H I m) (hmo : I m 2 = nI M) (hu : (!decide (I m 3 = 0)) = un) (hL : I m 47 = nI 0) (h54 : I m 54 = -1) (h58 : I m 58 = -1) : rfS kd P I m H M 0 (fun h => lkm 0 (cs h)) cs un (I (m + 24)) (I (m + 1)) (I (m + 2)) (fun k => !(cs k).isEmpty) := by
  obtain ⟨h1, h3⟩ := hst
  refine ⟨hk, h1, hmo, hu, ⟨hL, by omega⟩, rfl, h54, h58, rfl, rfl, fun h hh => ?_, fun k hk2 hb => ?_, fun k hk2 t ht hm => (hc k hk2).1.2.1 t (by omega) hm⟩
  · have hlt := lkS_lt hc hh
    refine ⟨?_, hlt⟩
    rw [(h3 h hh).2.2.2.2.1, h1]
    exact look_mask hH hlt
  · have hne : cs k ≠ [] := fun z => by simp [z] at hb
    exact ⟨(hc k hk2).1.2.2 hne, (h3 k hk2).2.2.2.2.2 hne⟩
theorem vw_g (q : PS) : vw q = (G_ho q, G_so q, G_de q, G_ri q, G_mu q, G_ra q, G_lk q, G_cd q, G_tp q) := by
  obtain ⟨it, ho, tp, pl, so, de, ri, mu, ra, lk, cd, te, tf, tt, pg⟩ := q
  rfl
theorem v_ho (w : VW) (a : Int32) (h v : Nat) : (vA a w).1 = w.1 ∧ (vP v w).1 = w.1 ∧ (vV h w).1 = w.1 ∧ (vS h a w).1 = w.1 ∧ (vZ h w).1 = w.1 := ⟨rfl, rfl, rfl, rfl, rfl⟩
theorem paQ_ho (M H h : Nat) (q : PS) : (vw (paQ M H h q)).1 = (vw q).1 := by
  unfold paQ
  split
  · split
    · rw [vw_1, vw_D, vw_D, vw_Z]; rfl
    split
    · rw [vw_2, vw_D, vw_D, vw_D, vw_Z]; rfl
    split
    · rw [vw_3, vw_D, vw_D, vw_Z]; rfl
    · rw [vw_D, vw_Z]; rfl
  · rw [vw_Z]; rfl
theorem paL_ho (M H k : Nat) : ∀ (h : Nat) (q : PS), (vw (paL M H k h q)).1 = (vw q).1 := by
  induction k with
  | zero => intro h q; unfold paL; rfl
  | succ k ih => intro h q; unfold paL; rw [ih, paQ_ho]
/-- how many of the houses have a riddle -/
def cnR (cs : Nat → List Nat) : Nat → Nat
  | 0 => 0
  | h + 1 => cnR cs h + (if cs h = [] then 0 else 1)
theorem paN_sd (M H h : Nat) (x : Int32) : paN H h x = if h < H then (if sdC x h M = [] then 0 else 1) else 0 := by
  unfold paN sdC
  split
  · split
    · rfl
    split
    · rfl
    split
    · rfl
    · rfl
  · rfl
theorem paC_cn (M H : Nat) (x : Int32) (k : Nat) : ∀ (h : Nat) (q : PS), (h ≤ H → pIt q = sdX x h) → H ≤ h + k → paC M H k h q + cnR (sdCs M x) (min h H) = cnR (sdCs M x) H := by
  induction k with
  | zero =>
    intro h q hx hH
    unfold paC
    rw [show min h H = H by omega, Nat.zero_add]
  | succ k ih =>
    intro h q hx hH
    unfold paC
    have hn := ih (h + 1) (paQ M H h q) (fun z => by rw [(paQ_pl M H h q).2.2, if_pos (by omega), hx (by omega), sdX]) (by omega)
    rw [paN_sd M]
    by_cases e : h < H
    · rw [if_pos e]
      rw [show min (h + 1) H = h + 1 by omega] at hn
      rw [show min h H = h by omega]
      have e2 : cnR (sdCs M x) (h + 1) = cnR (sdCs M x) h + (if sdC (pIt q) h M = [] then 0 else 1) := by
        rw [cnR]; unfold sdCs; rw [hx (by omega)]
      rw [e2] at hn
      omega
    · rw [if_neg e]
      rw [show min (h + 1) H = H by omega] at hn
      rw [show min h H = H by omega]
      omega
def paG (n : Nat) (kd : mK) (I : mI) (J : mJ) (P : mP) (m M H : Nat) (x : Int32) : am_Post := fun z n' kd' I' J' P' => z = .inl (some (.int (nI (cnR (sdCs M x) H)))) ∧ n' = n ∧ kd' = kd ∧ J' = J ∧ P' = P ∧ rsM (sdCs M x) H I' m ∧ (∀ j, j ≠ 78 → j ≠ 1 → j ≠ 30 → j ≠ 77 → I' m j = I m j) ∧ (∀ a, (a < m ∨ m + 55 < a ∨ (m + 10 < a ∧ a ≠ m + 40)) → I' a = I a)
set_option linter.constructorNameAsVariable false in
set_option maxHeartbeats 4000000 in
set_option maxRecDepth 100000 in
theorem c_plantsAllN (m M H : Nat) (x : Int32) {n : Nat} {kd : mK} {I : mI} {J : mJ} {P : mP} (hM : kM kd P m) (hMo : I m 2 = nI M) (hM0 : 0 < M) (hM20 : M ≤ 20) (hH : H ≤ 8) : Ct yX10_plantsAll cX10_plantsAll 6 (some .int) 5 0 0 [.ref m, .int x, .int (nI H)] n kd I J P (paG n kd I J P m M H x) := by
  refine Ct.mono (c_X10_plantsAll m M H x hM hMo hM0 hM20 hH) ?_
  rintro z n' kd' I' J' P' ⟨rfl, rfl, rfl, rfl, rfl, rfl⟩
  generalize hq0 : S_pl 0 (S_tp 0 (S_ho (nI H) (S_it x (psOf I m)))) = q0
  have i0 : pIt q0 = x := by rw [← hq0]; rfl
  have t0 : pTp q0 = 0 := by rw [← hq0]; rfl
  have o0 : (vw q0).1 = nI H := by rw [← hq0]; rfl
  have hst := pa_facts (x := x) hM0 hM20 hH 8 0 q0 (by omega) (by omega) (fun _ => by rw [i0, sdX]) (by rw [Nat.zero_min]; intro h hh; exact absurd hh (Nat.not_lt_zero h))
  have hcn := paC_cn M H x 8 0 q0 (fun _ => by rw [i0, sdX]) (by omega)
  rw [Nat.zero_min] at hcn
  have hho : (vw (paT (paL M H 8 0 q0))).1 = nI H := by rw [vw_T, paL_ho, o0]
  rw [← vw_T] at hst
  generalize paT (paL M H 8 0 q0) = q at hst hho
  rw [vw_g] at hst hho
  refine ⟨by rw [← hcn]; rfl, rfl, rfl, rfl, rfl, ⟨by rw [gI_Gho]; exact hho, fun h hh => ?_⟩, fun j a b c d => gI_O m q I ⟨a, b, c, d⟩, fun a ha => gI_NE m q I ha⟩
  rw [gI_Aso, gI_Ade, gI_Amu, gI_Ari, gI_Alk, gI_Ara, gI_Acd]
  obtain ⟨a1, a2, a3, a4, a5, a6⟩ := hst h hh
  exact ⟨a1, a2, a3, a4, a5, fun z => by obtain ⟨a, b1, b2, b3⟩ := a6 z; exact ⟨a, b1, b2⟩⟩

