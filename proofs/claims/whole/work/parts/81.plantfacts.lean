/-! WHAT THE REFERENCE HAS PLANTED -/
abbrev VW : Type := Int32 × (Nat → Int32) × (Nat → Int32) × (Nat → Int32) × (Nat → Int32) × (Nat → Int32) × (Nat → Int32) × (Nat → Int32) × Nat
def vw (q : PS) : VW := match q with
  | (it, ho, tp, pl, so, de, ri, mu, ra, lk, cd, te, tf, tt, pg) => (ho, so, de, ri, mu, ra, lk, cd, tp)
def vV (h : Nat) (w : VW) : VW := match w with
  | (ho, so, de, ri, mu, ra, lk, cd, tp) => (ho, so, de, ri, mu, ra, lk, va_up (va_up cd tp (nI 2)) (tp + 1) (nI (14 + h)), tp + 2)
def vA (a : Int32) (w : VW) : VW := match w with
  | (ho, so, de, ri, mu, ra, lk, cd, tp) => (ho, so, de, ri, mu, ra, lk, va_up cd tp a, tp + 1)
def vP (v : Nat) (w : VW) : VW := match w with
  | (ho, so, de, ri, mu, ra, lk, cd, tp) => (ho, so, de, ri, mu, ra, lk, va_up (va_up cd tp (nI 1)) (tp + 1) (nI v), tp + 2)
def vS (h : Nat) (mk : Int32) (w : VW) : VW := match w with
  | (ho, so, de, ri, mu, ra, lk, cd, tp) => (ho, so, de, va_up ri h (nI 1), mu, va_up ra h (nI tp), va_up lk h mk, cd, tp)
def vZ (h : Nat) (w : VW) : VW := match w with
  | (ho, so, de, ri, mu, ra, lk, cd, tp) => (ho, va_up so h (nI 0), va_up de h (nI 0), va_up ri h (nI 0), va_up mu h (nI 0), ra, va_up lk h (nI 0), cd, tp)
theorem vw_W (c : Int32) (q : PS) : vw (pW c q) = vw q := by
  obtain ⟨it, ho, tp, pl, so, de, ri, mu, ra, lk, cd, te, tf, tt, pg⟩ := q
  simp only [pW, vw]
theorem vw_D (q : PS) : vw (pD q) = vw q := by
  obtain ⟨it, ho, tp, pl, so, de, ri, mu, ra, lk, cd, te, tf, tt, pg⟩ := q
  simp only [pD, vw]
theorem vw_E (h : Nat) (q : PS) : vw (pEnd h q) = vw q := by
  obtain ⟨it, ho, tp, pl, so, de, ri, mu, ra, lk, cd, te, tf, tt, pg⟩ := q
  simp only [pEnd, S_tt, vw]
theorem vw_T (q : PS) : vw (paT q) = vw q := by
  obtain ⟨it, ho, tp, pl, so, de, ri, mu, ra, lk, cd, te, tf, tt, pg⟩ := q
  simp only [paT, S_te, vw]
theorem vw_V (h : Nat) (q : PS) : vw (pV h q) = vV h (vw q) := by
  obtain ⟨it, ho, tp, pl, so, de, ri, mu, ra, lk, cd, te, tf, tt, pg⟩ := q
  simp only [pV, vw, vV]
theorem vw_A (a : Int32) (q : PS) : vw (pA a q) = vA a (vw q) := by
  obtain ⟨it, ho, tp, pl, so, de, ri, mu, ra, lk, cd, te, tf, tt, pg⟩ := q
  simp only [pA, vw, vA]
theorem vw_P (v : Nat) (q : PS) : vw (pP v q) = vP v (vw q) := by
  obtain ⟨it, ho, tp, pl, so, de, ri, mu, ra, lk, cd, te, tf, tt, pg⟩ := q
  simp only [pP, vw, vP]
theorem vw_S (h : Nat) (mk : Int32) (q : PS) : vw (pSet h mk q) = vS h mk (vw q) := by
  obtain ⟨it, ho, tp, pl, so, de, ri, mu, ra, lk, cd, te, tf, tt, pg⟩ := q
  simp only [pSet, S_tf, S_lk, S_ra, S_ri, G_ri, G_ra, G_lk, G_tp, vw, vS]
theorem vw_Z (h : Nat) (q : PS) : vw (paZ h q) = vZ h (vw q) := by
  obtain ⟨it, ho, tp, pl, so, de, ri, mu, ra, lk, cd, te, tf, tt, pg⟩ := q
  simp only [paZ, S_so, S_de, S_ri, S_mu, S_lk, G_so, G_de, G_ri, G_mu, G_lk, vw, vZ]
theorem vw_Ws : ∀ (bs : List Int32) (q : PS), vw (pWs bs q) = vw q
  | [], q => rfl
  | c :: t, q => by
    show vw (pWs t (pW c q)) = vw q
    rw [vw_Ws t (pW c q), vw_W]
theorem vw_1 (h v : Nat) (q : PS) : vw (pl1 h v q) = vA (nI 0) (vA (nI 7) (vP v (vV h (vS h ((nI 1 <<< (nI h &&& 31)) ||| nI 0) (vw q))))) := by
  unfold pl1
  rw [vw_E, vw_A, vw_A, vw_P, vw_Ws, vw_V, vw_W, vw_Ws, vw_S]
theorem vw_2 (h k v : Nat) (q : PS) : vw (pl2 h k v q) = vA (nI 0) (vA (nI 7) (vA (nI 8) (vP v (vV k (vV h (vS h ((nI 1 <<< (nI h &&& 31)) ||| (nI 1 <<< (nI k &&& 31))) (vw q))))))) := by
  unfold pl2
  rw [vw_E, vw_A, vw_A, vw_A, vw_P, vw_Ws, vw_W, vw_V, vw_Ws, vw_W, vw_Ws, vw_V, vw_W, vw_Ws, vw_S]
theorem vw_3 (h k : Nat) (q : PS) : vw (pl3 h k q) = vA (nI 0) (vA (nI 3) (vA (nI 7) (vV k (vV h (vS h ((nI 1 <<< (nI h &&& 31)) ||| (nI 1 <<< (nI k &&& 31))) (vw q)))))) := by
  unfold pl3
  rw [vw_E, vw_A, vw_A, vw_A, vw_V, vw_Ws, vw_W, vw_Ws, vw_V, vw_W, vw_Ws, vw_W, vw_Ws, vw_S]
def rln : List Nat → Nat
  | [] => 1
  | c :: t => (if c < 20003 then 2 else 1) + rln t
theorem rln_pos : ∀ t : List Nat, 0 < rln t
  | [] => by simp [rln]
  | c :: t => by unfold rln; split <;> omega
theorem rcs_congr {A B : Nat → Int32} : ∀ (cs : List Nat) (k : Nat), (∀ j, k ≤ j → j < k + rln cs → B j = A j) → rcs A cs k → rcs B cs k
  | [], k, h, hr => ⟨hr.1, by rw [h k (Nat.le_refl k) (by simp [rln])]; exact hr.2⟩
  | c :: t, k, h, hr => by
    unfold rcs at hr ⊢
    refine ⟨hr.1, ?_⟩
    have hr := hr.2
    unfold rln at h
    by_cases e : c < 20003
    · rw [if_pos e] at hr h ⊢
      obtain ⟨w, a, h1, h2, h3, h4⟩ := hr
      have hp := rln_pos t
      exact ⟨w, a, h1, by rw [h k (by omega) (by omega)]; exact h2, by rw [h (k + 1) (by omega) (by omega)]; exact h3, rcs_congr t (k + 2) (fun j a b => h j (by omega) (by omega)) h4⟩
    · rw [if_neg e] at hr h ⊢
      have hp := rln_pos t
      exact ⟨by rw [h k (by omega) (by omega)]; exact hr.1, rcs_congr t (k + 1) (fun j a b => h j (by omega) (by omega)) hr.2⟩
def stV (cs : Nat → List Nat) (k : Nat) (w : VW) : Prop := ∀ h, h < k → w.2.1 h = nI 0 ∧ w.2.2.1 h = nI 0 ∧ w.2.2.2.2.1 h = nI 0 ∧ w.2.2.2.1 h = (if cs h = [] then nI 0 else nI 1) ∧ w.2.2.2.2.2.2.1 h = nI (lkm 0 (cs h)) ∧ (cs h ≠ [] → ∃ a, w.2.2.2.2.2.1 h = nI a ∧ rcs w.2.2.2.2.2.2.2.1 (cs h) a ∧ a + rln (cs h) ≤ w.2.2.2.2.2.2.2.2)
theorem rval_h {h : Nat} (h8 : h < 8) : rval (10000 + h) 2 (h + 14) := Or.inr ⟨rfl, Or.inr (Or.inr (Or.inr (Or.inr ⟨h, rfl, rfl, by omega⟩)))⟩
theorem rval_v {v : Nat} (hv : v < 10000) : rval v 1 v := Or.inl ⟨rfl, rfl, hv⟩
/-- what a step leaves of the houses before it -/
theorem stV_keep {cs : Nat → List Nat} {k : Nat} {w w2 : VW} (h : stV cs k w) (h1 : ∀ i, i < k → w2.2.1 i = w.2.1 i ∧ w2.2.2.1 i = w.2.2.1 i ∧ w2.2.2.2.2.1 i = w.2.2.2.2.1 i ∧ w2.2.2.2.1 i = w.2.2.2.1 i ∧ w2.2.2.2.2.2.2.1 i = w.2.2.2.2.2.2.1 i ∧ w2.2.2.2.2.2.1 i = w.2.2.2.2.2.1 i) (h2 : ∀ j, j < w.2.2.2.2.2.2.2.2 → w2.2.2.2.2.2.2.2.1 j = w.2.2.2.2.2.2.2.1 j) (h3 : w.2.2.2.2.2.2.2.2 ≤ w2.2.2.2.2.2.2.2.2) : stV cs k w2 := by
  intro i hi
  obtain ⟨a1, a2, a3, a4, a5, a6⟩ := h1 i hi
  obtain ⟨b1, b2, b3, b4, b5, b6⟩ := h i hi
  refine ⟨by rw [a1]; exact b1, by rw [a2]; exact b2, by rw [a3]; exact b3, by rw [a4]; exact b4, by rw [a5]; exact b5, fun z => ?_⟩
  obtain ⟨a, c1, c2, c3⟩ := b6 z
  exact ⟨a, by rw [a6]; exact c1, rcs_congr _ _ (fun j d1 d2 => h2 j (by omega)) c2, by omega⟩
theorem stV_one {cs : Nat → List Nat} {k : Nat} {w : VW} (h : stV cs k w) (hk : w.2.1 k = nI 0 ∧ w.2.2.1 k = nI 0 ∧ w.2.2.2.2.1 k = nI 0 ∧ w.2.2.2.1 k = (if cs k = [] then nI 0 else nI 1) ∧ w.2.2.2.2.2.2.1 k = nI (lkm 0 (cs k)) ∧ (cs k ≠ [] → ∃ a, w.2.2.2.2.2.1 k = nI a ∧ rcs w.2.2.2.2.2.2.2.1 (cs k) a ∧ a + rln (cs k) ≤ w.2.2.2.2.2.2.2.2)) : stV cs (k + 1) w := by
  intro i hi
  by_cases e : i = k
  · subst e; exact hk
  · exact h i (by omega)
theorem or_0 (d : Nat) (hd : d < 31) : (nI 1 <<< (nI d &&& 31)) ||| nI 0 = nI (0 ||| 2 ^ d) := by
  have h := or_bit 0 d hd
  rw [← h]
  apply b_ext
  intro i hi
  rw [b_or, b_or, Bool.or_comm]
theorem or_2 (d e : Nat) (hd : d < 31) (he : e < 31) : (nI 1 <<< (nI d &&& 31)) ||| (nI 1 <<< (nI e &&& 31)) = nI ((0 ||| 2 ^ d) ||| 2 ^ e) := by
  have h := or_bit (0 ||| 2 ^ d) e he
  rw [← h, ← or_0 d hd]
  apply b_ext
  intro i hi
  rw [b_or, b_or, b_or, show bt (nI 0) i = false from b_0 i, Bool.or_false]
theorem vA_p (a : Int32) (w : VW) : (vA a w).2.1 = w.2.1 ∧ (vA a w).2.2.1 = w.2.2.1 ∧ (vA a w).2.2.2.1 = w.2.2.2.1 ∧ (vA a w).2.2.2.2.1 = w.2.2.2.2.1 ∧ (vA a w).2.2.2.2.2.1 = w.2.2.2.2.2.1 ∧ (vA a w).2.2.2.2.2.2.1 = w.2.2.2.2.2.2.1 := ⟨rfl, rfl, rfl, rfl, rfl, rfl⟩
set_option maxHeartbeats 4000000 in
theorem st_1 {cs : Nat → List Nat} {k v : Nat} {w : VW} (h8 : k < 8) (hv : v < 10000) (hc : cs k = [10000 + k, v, 20009]) (ht : w.2.2.2.2.2.2.2.2 + 20 < 1300) (hq : stV cs k w) : stV cs (k + 1) (vA (nI 0) (vA (nI 7) (vP v (vV k (vS k ((nI 1 <<< (nI k &&& 31)) ||| nI 0) (vZ k w)))))) := by
  obtain ⟨ho, so, de, ri, mu, ra, lk, cd, tp⟩ := w
  dsimp only at ht
  simp only [vA, vP, vV, vS, vZ]
  refine stV_one (stV_keep hq ?_ ?_ ?_) ?_
  · intro i hi
    dsimp only
    simp (disch := omega) only [am_up_n, and_self]
  · intro j hj
    dsimp only at hj ⊢
    simp (disch := omega) only [am_up_n]
  · dsimp only; omega
  · dsimp only
    rw [hc]
    refine ⟨am_up_s _ _ _, am_up_s _ _ _, am_up_s _ _ _, by rw [am_up_s, if_neg (by simp)], ?_, fun _ => ⟨tp, am_up_s _ _ _, ?_, by simp [rln, show 10000 + k < 20003 by omega, show 10000 + k < 20000 by omega, show v < 20003 by omega, show ¬ 10000 ≤ v by omega] <;> omega⟩⟩
    · rw [am_up_s, or_0 k (by omega)]
      simp [lkm, show 10000 + k < 20003 by omega, show 10000 + k < 20000 by omega, show v < 20003 by omega, show ¬ 10000 ≤ v by omega]
    · refine ⟨by omega, ?_⟩
      rw [if_pos (by omega)]
      refine ⟨2, k + 14, rval_h h8, by simp (disch := omega) only [am_up_s, am_up_n], by simp (disch := omega) only [am_up_s, am_up_n]; rw [Nat.add_comm], by omega, ?_⟩
      rw [if_pos (by omega)]
      refine ⟨1, v, rval_v hv, by simp (disch := omega) only [am_up_s, am_up_n], by simp (disch := omega) only [am_up_s, am_up_n], by omega, ?_⟩
      rw [if_neg (by omega)]
      refine ⟨by simp (disch := omega) only [am_up_s, am_up_n]; rfl, by omega, by simp (disch := omega) only [am_up_s, am_up_n]⟩
set_option maxHeartbeats 4000000 in
theorem st_2 {cs : Nat → List Nat} {k u v : Nat} {w : VW} (h8 : k < 8) (hu : u < 8) (hv : v < 10000) (hc : cs k = [10000 + k, 10000 + u, v, 20004, 20009]) (ht : w.2.2.2.2.2.2.2.2 + 20 < 1300) (hq : stV cs k w) : stV cs (k + 1) (vA (nI 0) (vA (nI 7) (vA (nI 8) (vP v (vV u (vV k (vS k ((nI 1 <<< (nI k &&& 31)) ||| (nI 1 <<< (nI u &&& 31))) (vZ k w)))))))) := by
  obtain ⟨ho, so, de, ri, mu, ra, lk, cd, tp⟩ := w
  dsimp only at ht
  simp only [vA, vP, vV, vS, vZ]
  refine stV_one (stV_keep hq ?_ ?_ ?_) ?_
  · intro i hi
    dsimp only
    simp (disch := omega) only [am_up_n, and_self]
  · intro j hj
    dsimp only at hj ⊢
    simp (disch := omega) only [am_up_n]
  · dsimp only; omega
  · dsimp only
    rw [hc]
    refine ⟨am_up_s _ _ _, am_up_s _ _ _, am_up_s _ _ _, by rw [am_up_s, if_neg (by simp)], ?_, fun _ => ⟨tp, am_up_s _ _ _, ?_, by simp [rln, show 10000 + k < 20003 by omega, show 10000 + k < 20000 by omega, show 10000 + u < 20003 by omega, show 10000 + u < 20000 by omega, show v < 20003 by omega, show ¬ 10000 ≤ v by omega] <;> omega⟩⟩
    · rw [am_up_s, or_2 k u (by omega) (by omega)]
      simp [lkm, show 10000 + k < 20003 by omega, show 10000 + k < 20000 by omega, show 10000 + u < 20003 by omega, show 10000 + u < 20000 by omega, show v < 20003 by omega, show ¬ 10000 ≤ v by omega]
    · refine ⟨by omega, ?_⟩
      rw [if_pos (by omega)]
      refine ⟨2, k + 14, rval_h h8, by simp (disch := omega) only [am_up_s, am_up_n], by simp (disch := omega) only [am_up_s, am_up_n]; rw [Nat.add_comm], by omega, ?_⟩
      rw [if_pos (by omega)]
      refine ⟨2, u + 14, rval_h hu, by simp (disch := omega) only [am_up_s, am_up_n], by simp (disch := omega) only [am_up_s, am_up_n]; rw [Nat.add_comm], by omega, ?_⟩
      rw [if_pos (by omega)]
      refine ⟨1, v, rval_v hv, by simp (disch := omega) only [am_up_s, am_up_n], by simp (disch := omega) only [am_up_s, am_up_n], by omega, ?_⟩
      rw [if_neg (by omega)]
      refine ⟨by simp (disch := omega) only [am_up_s, am_up_n]; rfl, by omega, ?_⟩
      rw [if_neg (by omega)]
      refine ⟨by simp (disch := omega) only [am_up_s, am_up_n]; rfl, by omega, by simp (disch := omega) only [am_up_s, am_up_n]⟩
set_option maxHeartbeats 4000000 in
theorem st_3 {cs : Nat → List Nat} {k u : Nat} {w : VW} (h8 : k < 8) (hu : u < 8) (hc : cs k = [10000 + k, 10000 + u, 20009, 20003]) (ht : w.2.2.2.2.2.2.2.2 + 20 < 1300) (hq : stV cs k w) : stV cs (k + 1) (vA (nI 0) (vA (nI 3) (vA (nI 7) (vV u (vV k (vS k ((nI 1 <<< (nI k &&& 31)) ||| (nI 1 <<< (nI u &&& 31))) (vZ k w))))))) := by
  obtain ⟨ho, so, de, ri, mu, ra, lk, cd, tp⟩ := w
  dsimp only at ht
  simp only [vA, vP, vV, vS, vZ]
  refine stV_one (stV_keep hq ?_ ?_ ?_) ?_
  · intro i hi
    dsimp only
    simp (disch := omega) only [am_up_n, and_self]
  · intro j hj
    dsimp only at hj ⊢
    simp (disch := omega) only [am_up_n]
  · dsimp only; omega
  · dsimp only
    rw [hc]
    refine ⟨am_up_s _ _ _, am_up_s _ _ _, am_up_s _ _ _, by rw [am_up_s, if_neg (by simp)], ?_, fun _ => ⟨tp, am_up_s _ _ _, ?_, by simp [rln, show 10000 + k < 20003 by omega, show 10000 + k < 20000 by omega, show 10000 + u < 20003 by omega, show 10000 + u < 20000 by omega] <;> omega⟩⟩
    · rw [am_up_s, or_2 k u (by omega) (by omega)]
      simp [lkm, show 10000 + k < 20003 by omega, show 10000 + k < 20000 by omega, show 10000 + u < 20003 by omega, show 10000 + u < 20000 by omega]
    · refine ⟨by omega, ?_⟩
      rw [if_pos (by omega)]
      refine ⟨2, k + 14, rval_h h8, by simp (disch := omega) only [am_up_s, am_up_n], by simp (disch := omega) only [am_up_s, am_up_n]; rw [Nat.add_comm], by omega, ?_⟩
      rw [if_pos (by omega)]
      refine ⟨2, u + 14, rval_h hu, by simp (disch := omega) only [am_up_s, am_up_n], by simp (disch := omega) only [am_up_s, am_up_n]; rw [Nat.add_comm], by omega, ?_⟩
      rw [if_neg (by omega)]
      refine ⟨by simp (disch := omega) only [am_up_s, am_up_n]; rfl, by omega, ?_⟩
      rw [if_neg (by omega)]
      refine ⟨by simp (disch := omega) only [am_up_s, am_up_n]; rfl, by omega, by simp (disch := omega) only [am_up_s, am_up_n]⟩
theorem st_0 {cs : Nat → List Nat} {k : Nat} {w : VW} (hc : cs k = []) (hq : stV cs k w) : stV cs (k + 1) (vZ k w) := by
  obtain ⟨ho, so, de, ri, mu, ra, lk, cd, tp⟩ := w
  simp only [vZ]
  refine stV_one (stV_keep hq ?_ (fun j hj => rfl) (Nat.le_refl _)) ?_
  · intro i hi
    dsimp only
    simp (disch := omega) only [am_up_n, and_self]
  · dsimp only
    rw [hc]
    exact ⟨am_up_s _ _ _, am_up_s _ _ _, am_up_s _ _ _, by rw [am_up_s, if_pos rfl], by rw [am_up_s]; rfl, fun z => absurd rfl z⟩
theorem st_z {cs : Nat → List Nat} {H k : Nat} {w : VW} (hk : H ≤ k) (hq : stV cs H w) : stV cs H (vZ k w) := by
  obtain ⟨ho, so, de, ri, mu, ra, lk, cd, tp⟩ := w
  simp only [vZ]
  refine stV_keep hq ?_ (fun j hj => rfl) (Nat.le_refl _)
  intro i hi
  dsimp only
  simp (disch := omega) only [am_up_n, and_self]
theorem vw_tp (q : PS) : (vw q).2.2.2.2.2.2.2.2 = pTp q := by
  obtain ⟨it, ho, tp, pl, so, de, ri, mu, ra, lk, cd, te, tf, tt, pg⟩ := q
  rfl
theorem stV_step {M H k : Nat} {x : Int32} {q : PS} (hM0 : 0 < M) (hM : M ≤ 20) (hH : H ≤ 8) (hk : k < H) (hx : pIt q = sdX x k) (ht : pTp q + 20 < 1300) (hq : stV (sdCs M x) k (vw q)) : stV (sdCs M x) (k + 1) (vw (paQ M H k q)) := by
  have a1 := Nat.mod_lt (dv (lcg (lcg (pIt q)))) hM0
  have a3 := Nat.mod_lt (dv (lcg (lcg (lcg (pIt q))))) (show 0 < 4 by omega)
  have hcs : sdCs M x k = sdC (pIt q) k M := by unfold sdCs; rw [hx]
  have ht2 : (vw q).2.2.2.2.2.2.2.2 + 20 < 1300 := by rw [vw_tp]; exact ht
  unfold sdC at hcs
  unfold paQ
  rw [if_pos hk]
  by_cases e1 : dv (lcg (pIt q)) % 4 = 1
  · rw [if_pos e1] at hcs ⊢
    rw [vw_1, vw_D, vw_D, vw_Z]
    exact st_1 (by omega) (by omega) hcs ht2 hq
  rw [if_neg e1] at hcs ⊢
  by_cases e2 : dv (lcg (pIt q)) % 4 = 2 ∧ 0 < k
  · rw [if_pos e2] at hcs ⊢
    have a2 := Nat.mod_lt (dv (lcg (lcg (pIt q)))) e2.2
    rw [vw_2, vw_D, vw_D, vw_D, vw_Z]
    exact st_2 (by omega) (by omega) (by omega) hcs ht2 hq
  rw [if_neg e2] at hcs ⊢
  by_cases e3 : dv (lcg (pIt q)) % 4 = 3 ∧ 0 < k
  · rw [if_pos e3] at hcs ⊢
    have a2 := Nat.mod_lt (dv (lcg (lcg (pIt q)))) e3.2
    rw [vw_3, vw_D, vw_D, vw_Z]
    exact st_3 (by omega) (by omega) hcs ht2 hq
  rw [if_neg e3] at hcs ⊢
  rw [vw_D, vw_Z]
  exact st_0 hcs hq
theorem pa_facts {M H : Nat} {x : Int32} (hM0 : 0 < M) (hM : M ≤ 20) (hH : H ≤ 8) (k : Nat) : ∀ (h : Nat) (q : PS), h + k = 8 → pTp q ≤ 10 * h → (h ≤ H → pIt q = sdX x h) → stV (sdCs M x) (min h H) (vw q) → stV (sdCs M x) H (vw (paL M H k h q)) := by
  induction k with
  | zero =>
    intro h q hh _ _ hq
    unfold paL
    rw [show min h H = H by omega] at hq
    exact hq
  | succ k ih =>
    intro h q hh ht hx hq
    unfold paL
    have hp := paQ_pl M H h q
    refine ih (h + 1) (paQ M H h q) (by omega) (by omega) (fun z => ?_) ?_
    · rw [hp.2.2, if_pos (by omega), hx (by omega), sdX]
    · by_cases e : h < H
      · rw [show min h H = h by omega] at hq
        rw [show min (h + 1) H = h + 1 by omega]
        exact stV_step hM0 hM hH e (hx (by omega)) (by omega) hq
      · rw [show min h H = H by omega] at hq
        rw [show min (h + 1) H = H by omega]
        unfold paQ
        rw [if_neg e, vw_Z]
        exact st_z (by omega) hq
