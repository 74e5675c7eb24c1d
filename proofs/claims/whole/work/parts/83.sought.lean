/-! THE CLASS SEEKS: set up and sought, with what stays -/
theorem sk_bar {T : (Nat → Nat) → Nat → Bool} {b1 b2 : Nat → Nat → Bool} {H M E : Nat} (hb : ∀ h v, h < H → b1 h v = b2 h v) : ∀ (f h : Nat) (N : Nat → Nat) (t : Nat) (fs : List (Nat → Nat)), h ≤ H → sk T b1 H M E f h N t fs = sk T b2 H M E f h N t fs
  | 0, h, N, t, fs, _ => by unfold sk; rfl
  | f + 1, 0, N, t, fs, _ => by unfold sk; rfl
  | f + 1, h + 1, N, t, fs, hh => by
    unfold sk
    rw [sk_bar hb f h (upN N h 0) t fs (by omega), hb h (N h + 1) (by omega), sk_bar hb f (h + 1) (upN N h (N h + 1)) t fs hh, sk_bar hb f (h + 1) (upN N h (N h + 1)) (t + 1) fs hh, sk_bar hb f (h + 1) (upN N h (N h + 1)) (t + 1) (upN N h (N h + 1) :: fs) hh]
    by_cases c2 : h + 1 < H
    · rw [sk_bar hb f (h + 2) (upN N h (N h + 1)) (t + 1) fs (by omega)]
    · simp only [if_neg c2]
def noB (_ _ : Nat) : Bool := false
theorem skTop_bar {T : (Nat → Nat) → Nat → Bool} {x y : Int32} {H M E : Nat} (hH : H ≤ 8) (hx : x = -1) : skTop T (barS x y) H M E = skTop T noB H M E := by
  unfold skTop
  by_cases h0 : H = 0
  · rw [if_pos h0, if_pos h0]
  · rw [if_neg h0, if_neg h0]
    refine sk_bar (fun h v hh => ?_) 100000 1 _ 0 [] (by omega)
    unfold barS noB
    rw [hx]
    simp [nI_m1 (show h < 2 ^ 31 by omega)]
/-- a street and a life in memory, as searches need them -/
def clS (I : mI) (b l H M L : Nat) (lk : Nat → Nat) (rid : Nat → List Nat) (un : Bool) (Lt so de : Nat → Int32) : Prop := I b 0 = nI H ∧ I b 1 = nI M ∧ decide (I b 2 = 0) = (!un) ∧ lkOk I b H lk ∧ (∀ k, k < 8 → bt (I b 3) k = true → ridOk I b H rid k) ∧ (I l 7 = nI L ∧ L ≤ 10) ∧ (∀ i, i < L → I (l + 4) i = Lt (2 * i) ∧ I (l + 5) i = Lt (2 * i + 1) ∧ ∃ v, v < 32 ∧ I (l + 5) i = nI v) ∧ I (l + 1) = so ∧ I (l + 2) = de
def qFr (o b : Nat) (I I' : mI) (J J' : mJ) (P P' : mP) : Prop := (∀ a, (a < o ∨ o + 5 < a) → a ≠ b + 8 → I' a = I a) ∧ (∀ a, a ≠ o + 4 → J' a = J a) ∧ (∀ a, a ≠ o → P' a = P a) ∧ (∀ k, k ≠ 0 → k ≠ 1 → P' o k = P o k)
theorem qFr.rf {o b : Nat} {I : mI} {J : mJ} {P : mP} : qFr o b I I J J P P := ⟨fun _ _ _ => rfl, fun _ _ => rfl, fun _ _ => rfl, fun _ _ _ => rfl⟩
theorem qFr.tr {o b : Nat} {I I1 I2 : mI} {J J1 J2 : mJ} {P P1 P2 : mP} (h : qFr o b I I1 J J1 P P1) (g : qFr o b I1 I2 J1 J2 P1 P2) : qFr o b I I2 J J2 P P2 := ⟨fun a x y => (g.1 a x y).trans (h.1 a x y), fun a x => (g.2.1 a x).trans (h.2.1 a x), fun a x => (g.2.2.1 a x).trans (h.2.2.1 a x), fun k x y => (g.2.2.2 k x y).trans (h.2.2.2 k x y)⟩
theorem kQ.fr {kd : mK} {o b : Nat} {I I' : mI} {J J' : mJ} {P P' : mP} (h : qFr o b I I' J J' P P') (hQ : kQ kd P o) : kQ kd P' o := by
  unfold kQ at *
  rw [h.2.2.2 2 (by decide) (by decide), h.2.2.2 3 (by decide) (by decide), h.2.2.2 6 (by decide) (by decide), h.2.2.2 7 (by decide) (by decide), h.2.2.2 8 (by decide) (by decide)]
  exact hQ
theorem ridOk.cg {I I' : mI} {b H : Nat} {rid : Nat → List Nat} {k : Nat} (h2 : I' (b + 2) = I (b + 2)) (h3 : I' (b + 3) = I (b + 3)) (h4 : I' (b + 4) = I (b + 4)) (h : ridOk I b H rid k) : ridOk I' b H rid k := by
  unfold ridOk at *
  rw [h2, h3, h4]
  exact h
theorem clS.cg {I I' : mI} {b l H M L : Nat} {lk : Nat → Nat} {rid : Nat → List Nat} {un : Bool} {Lt so de : Nat → Int32} (hb : ∀ a, b ≤ a → a < b + 5 → I' a = I a) (hl : ∀ a, l ≤ a → a < l + 6 → I' a = I a) (h : clS I b l H M L lk rid un Lt so de) : clS I' b l H M L lk rid un Lt so de := by
  obtain ⟨h1, h2, h3, h4, h5, h6, h7, h8, h9⟩ := h
  refine ⟨by rw [hb b (by omega) (by omega)]; exact h1, by rw [hb b (by omega) (by omega)]; exact h2, by rw [hb b (by omega) (by omega)]; exact h3, ?_, fun k hk hx => ?_, by rw [hl l (by omega) (by omega)]; exact h6, ?_, by rw [hl (l + 1) (by omega) (by omega)]; exact h8, by rw [hl (l + 2) (by omega) (by omega)]; exact h9⟩
  · unfold lkOk at *
    rw [hb b (by omega) (by omega), hb (b + 1) (by omega) (by omega)]
    exact h4
  · rw [hb b (by omega) (by omega)] at hx
    exact (h5 k hk hx).cg (hb _ (by omega) (by omega)) (hb _ (by omega) (by omega)) (hb _ (by omega) (by omega))
  · rw [hl (l + 4) (by omega) (by omega), hl (l + 5) (by omega) (by omega)]
    exact h7
theorem clS.fr {o b l H M L : Nat} {I I' : mI} {J J' : mJ} {P P' : mP} {lk : Nat → Nat} {rid : Nat → List Nat} {un : Bool} {Lt so de : Nat → Int32} (hbl : b + 9 < l) (hlo : l + 5 < o) (hf : qFr o b I I' J J' P P') (h : clS I b l H M L lk rid un Lt so de) : clS I' b l H M L lk rid un Lt so de := h.cg (fun a x y => hf.1 a (by omega) (by omega)) (fun a x y => hf.1 a (by omega) (by omega))
def fF (I : mI) (l : Nat) (w : Int32) (L i : Nat) : Int32 := if w = 0 then -1 else llv (I (l + 4)) (I (l + 5)) (nI i) L
def suI (I : mI) (o l : Nat) (r w : Int32) (lk : Nat → Nat) (H L : Nat) : mI := va_up (va_up (va_up I o (va_up (I o) 4 (-1))) (o + 1) (askR r lk (fun j => if j < 8 then nI 0 else I (o + 1) j) H)) (o + 2) (alwR (fF I l w L) (I (o + 2)) H)
def suP (P : mP) (o b l : Nat) : mP := va_up P o (va_up (va_up (P o) 0 (some b)) 1 (some l))
def skG (n : Nat) (kd : mK) (I : mI) (J : mJ) (P : mP) (o b l H : Nat) (res : Nat × List (Nat → Nat) × Bool) (v : Int32) : am_Post := fun z n' kd' I' J' P' => z = .inl (some (.int v)) ∧ n' = n ∧ kd' = kd ∧ qFr o b I I' J J' P P' ∧ P' = suP P o b l ∧ I' o 9 = nI res.1 ∧ I' o 10 = v ∧ I' (o + 5) = SR H (fun j => if j < 8 then nI 0 else I (o + 5) j) res.2.1 ∧ J' (o + 4) = JR H (J (o + 4)) res.2.1
set_option maxHeartbeats 4000000 in
set_option maxRecDepth 100000 in
theorem c_setUpN (o b l H M L : Nat) (r w : Int32) (lk : Nat → Nat) (rid : Nat → List Nat) (un : Bool) (Lt so de : Nat → Int32) {n : Nat} {kd : mK} {I : mI} {J : mJ} {P : mP} (hS : kS kd P b) (hL : kL kd P l) (hQ : kQ kd P o) (hbl : b + 9 < l) (hlo : l + 5 < o) (ho9 : o < 1000000) (hH8 : H ≤ 8) (hc : clS I b l H M L lk rid un Lt so de) : Ct yX6_setUp cX6_setUp 6 none 4 0 0 [.ref o, .ref b, .ref l, .int r, .int w] n kd I J P (am_is none n kd (suI I o l r w lk H L) J (suP P o b l)) := by
  obtain ⟨h1, h2, h3, h4, h5, h6, h7, h8, h9⟩ := hc
  exact c_X6_setUp o b l H L r w lk (fF I l w L) hS hL hQ hbl hlo hH8 h1 h6.1 h6.2 h4 (fun i hi => rfl) ho9

set_option maxHeartbeats 4000000 in
set_option maxRecDepth 100000 in
theorem c_seekN (o b l H M L : Nat) (r w : Int32) (lk : Nat → Nat) (rid : Nat → List Nat) (un : Bool) (Lt so de : Nat → Int32) (E : Nat) (res : Nat × List (Nat → Nat) × Bool) {n : Nat} {kd : mK} {I : mI} {J : mJ} {P : mP} (hS : kS kd P b) (hL : kL kd P l) (hQ : kQ kd P o) (hbl : b + 9 < l) (hlo : l + 5 < o) (ho9 : o < 1000000) (hH8 : H ≤ 8) (hc : clS I b l H M L lk rid un Lt so de) (hM20 : M ≤ 20) (hE : E ≤ 1001) (hE1 : 1 ≤ E) (hr : ∀ k, k < 8 → bt r k = true → bt (I b 3) k = true) (hsk : skTop (TN un Lt L r w lk (tvN so de (nI M) H rid) H) noB H M E = some res) : Ct yX6_seek cX6_seek 5 (some .int) 6 0 0 [.ref o, .int (nI E)] n kd (suI I o l r w lk H L) J (suP P o b l) (skG n kd I J P o b l H res (skv res.2.2 res.2.1)) := by
  have hc0 := hc
  obtain ⟨h1, h2, h3, h4, h5, h6, h7, h8, h9⟩ := hc
  have uI : ∀ a, a ≠ o → a ≠ o + 1 → a ≠ o + 2 → suI I o l r w lk H L a = I a := fun a x y z => by unfold suI; rw [am_up_n _ _ z, am_up_n _ _ y, am_up_n _ _ x]
  have u1 : suI I o l r w lk H L (o + 1) = askR r lk (fun j => if j < 8 then nI 0 else I (o + 1) j) H := by unfold suI; rw [am_up_n _ _ (by omega), am_up_s]
  have u2 : suI I o l r w lk H L (o + 2) = alwR (fF I l w L) (I (o + 2)) H := by unfold suI; rw [am_up_s]
  have u0 : suI I o l r w lk H L o = va_up (I o) 4 (-1) := by unfold suI; rw [am_up_n _ _ (by omega), am_up_n _ _ (by omega), am_up_s]
  have pP : ∀ a, a ≠ o → suP P o b l a = P a := fun a x => am_up_n _ _ x
  have pO : ∀ k, k ≠ 0 → k ≠ 1 → suP P o b l o k = P o k := fun k x y => by unfold suP; rw [am_up_s, am_up_n _ _ y, am_up_n _ _ x]
  have hf0 : qFr o b I (suI I o l r w lk H L) J J P (suP P o b l) := ⟨fun a x y => uI a (by omega) (by omega) (by omega), fun _ _ => rfl, pP, pO⟩
  have hQ' := hQ.fr hf0
  have hcc := hc0.fr hbl hlo hf0
  obtain ⟨g1, g2, g3, g4, g5, g6, g7, g8, g9⟩ := hcc
  have hsk' : skTop (TS (suI I o l r w lk H L) o b l H rid) (barS (suI I o l r w lk H L o 4) (suI I o l r w lk H L o 5)) H M E = some res := by
    rw [skTop_bar hH8 (by rw [u0, am_up_s])]
    rw [← hsk]
    refine skTop_cg (fun N h hh hN => ?_)
    have ht := TS_TN (I := suI I o l r w lk H L) (o := o) (b := b) (l := l) (H := H) (L := L) (r := r) (w := w) (lk := lk) (rid := rid) (A0 := fun j => if j < 8 then nI 0 else I (o + 1) j) (B0 := I (o + 2)) (f := fF I l w L) (Lt := Lt) (un := un) hbl hlo hH8 u1 (fun j hj => if_pos hj) u2 (fun i hi => by rw [uI _ (by omega) (by omega) (by omega), uI _ (by omega) (by omega) (by omega)]; rfl) g7 g3 N h hh (by have := hN h; omega)
    rw [ht, g8, g9, g2]
  refine Ct.mono (c_X6_seek o b l H M E rid res (hS.congr (pP b (by omega))) (hL.congr (pP l (by omega))) hQ' (by unfold suP; rw [am_up_s]; rfl) (by unfold suP; rw [am_up_s]; rfl) hbl hlo hH8 g1 g2 hM20 hE (fun h hh k hk hx => ?_) hE1 hsk') ?_
  · rw [u1, askR_bit r lk _ (if_pos (show h < 8 by omega)) (by omega) H (by omega)] at hx
    simp at hx
    have := h5 k hk (hr k hk hx.2.1)
    exact this.cg (uI _ (by omega) (by omega) (by omega)) (uI _ (by omega) (by omega) (by omega)) (uI _ (by omega) (by omega) (by omega))
  · rintro z n' kd' I' J' P' ⟨Q, R, rfl, rfl, rfl, rfl, rfl, rfl⟩
    refine ⟨rfl, rfl, rfl, ⟨fun a x y => ?_, fun a x => am_up_n _ _ x, pP, pO⟩, rfl, ?_, ?_, ?_, am_up_s _ _ _⟩
    · unfold sM
      rw [am_up_n _ _ (show a ≠ o by omega), am_up_n _ _ (show a ≠ o + 5 by omega), am_up_n _ _ (show a ≠ o + 3 by omega), am_up_n _ _ y]
      exact uI a (by omega) (by omega) (by omega)
    · unfold sM
      rw [am_up_s, oR9]
    · unfold sM
      rw [am_up_s, oR10]
    · unfold sM
      rw [am_up_n _ _ (show o + 5 ≠ o by omega), am_up_s, uI (o + 5) (by omega) (by omega) (by omega)]

set_option maxHeartbeats 4000000 in
set_option maxRecDepth 100000 in
theorem c_seekAllN (o b l H M L : Nat) (r w : Int32) (lk : Nat → Nat) (rid : Nat → List Nat) (un : Bool) (Lt so de : Nat → Int32) (res : Nat × List (Nat → Nat) × Bool) {n : Nat} {kd : mK} {I : mI} {J : mJ} {P : mP} (hS : kS kd P b) (hL : kL kd P l) (hQ : kQ kd P o) (hbl : b + 9 < l) (hlo : l + 5 < o) (ho9 : o < 1000000) (hH8 : H ≤ 8) (hc : clS I b l H M L lk rid un Lt so de) (hM20 : M ≤ 20) (hr : ∀ k, k < 8 → bt r k = true → bt (I b 3) k = true) (hsk : skTop (TN un Lt L r w lk (tvN so de (nI M) H rid) H) noB H M 1001 = some res) : Ct yX6_seekAll cX6_seekAll 1 (some .int) 7 0 0 [.ref o] n kd (suI I o l r w lk H L) J (suP P o b l) (skG n kd I J P o b l H res (skA res)) := by
  have hc0 := hc
  obtain ⟨h1, h2, h3, h4, h5, h6, h7, h8, h9⟩ := hc
  have uI : ∀ a, a ≠ o → a ≠ o + 1 → a ≠ o + 2 → suI I o l r w lk H L a = I a := fun a x y z => by unfold suI; rw [am_up_n _ _ z, am_up_n _ _ y, am_up_n _ _ x]
  have u1 : suI I o l r w lk H L (o + 1) = askR r lk (fun j => if j < 8 then nI 0 else I (o + 1) j) H := by unfold suI; rw [am_up_n _ _ (by omega), am_up_s]
  have u2 : suI I o l r w lk H L (o + 2) = alwR (fF I l w L) (I (o + 2)) H := by unfold suI; rw [am_up_s]
  have u0 : suI I o l r w lk H L o = va_up (I o) 4 (-1) := by unfold suI; rw [am_up_n _ _ (by omega), am_up_n _ _ (by omega), am_up_s]
  have pP : ∀ a, a ≠ o → suP P o b l a = P a := fun a x => am_up_n _ _ x
  have pO : ∀ k, k ≠ 0 → k ≠ 1 → suP P o b l o k = P o k := fun k x y => by unfold suP; rw [am_up_s, am_up_n _ _ y, am_up_n _ _ x]
  have hf0 : qFr o b I (suI I o l r w lk H L) J J P (suP P o b l) := ⟨fun a x y => uI a (by omega) (by omega) (by omega), fun _ _ => rfl, pP, pO⟩
  have hQ' := hQ.fr hf0
  have hcc := hc0.fr hbl hlo hf0
  obtain ⟨g1, g2, g3, g4, g5, g6, g7, g8, g9⟩ := hcc
  have hsk' : skTop (TS (suI I o l r w lk H L) o b l H rid) (barS (suI I o l r w lk H L o 4) (suI I o l r w lk H L o 5)) H M 1001 = some res := by
    rw [skTop_bar hH8 (by rw [u0, am_up_s])]
    rw [← hsk]
    refine skTop_cg (fun N h hh hN => ?_)
    have ht := TS_TN (I := suI I o l r w lk H L) (o := o) (b := b) (l := l) (H := H) (L := L) (r := r) (w := w) (lk := lk) (rid := rid) (A0 := fun j => if j < 8 then nI 0 else I (o + 1) j) (B0 := I (o + 2)) (f := fF I l w L) (Lt := Lt) (un := un) hbl hlo hH8 u1 (fun j hj => if_pos hj) u2 (fun i hi => by rw [uI _ (by omega) (by omega) (by omega), uI _ (by omega) (by omega) (by omega)]; rfl) g7 g3 N h hh (by have := hN h; omega)
    rw [ht, g8, g9, g2]
  refine Ct.mono (c_X6_seekAll o b l H M rid res (hS.congr (pP b (by omega))) (hL.congr (pP l (by omega))) hQ' (by unfold suP; rw [am_up_s]; rfl) (by unfold suP; rw [am_up_s]; rfl) hbl hlo hH8 g1 g2 hM20 (fun h hh k hk hx => ?_) hsk') ?_
  · rw [u1, askR_bit r lk _ (if_pos (show h < 8 by omega)) (by omega) H (by omega)] at hx
    simp at hx
    have := h5 k hk (hr k hk hx.2.1)
    exact this.cg (uI _ (by omega) (by omega) (by omega)) (uI _ (by omega) (by omega) (by omega)) (uI _ (by omega) (by omega) (by omega))
  · rintro z n' kd' I' J' P' ⟨Q, R, rfl, rfl, rfl, rfl, rfl, rfl⟩
    refine ⟨rfl, rfl, rfl, ⟨fun a x y => ?_, fun a x => am_up_n _ _ x, pP, pO⟩, rfl, ?_, ?_, ?_, am_up_s _ _ _⟩
    · unfold sM
      rw [am_up_n _ _ (show a ≠ o by omega), am_up_n _ _ (show a ≠ o + 5 by omega), am_up_n _ _ (show a ≠ o + 3 by omega), am_up_n _ _ y]
      exact uI a (by omega) (by omega) (by omega)
    · unfold sM
      rw [am_up_s, oR9]
    · unfold sM
      rw [am_up_s, oR10]
    · unfold sM
      rw [am_up_n _ _ (show o + 5 ≠ o by omega), am_up_s, uI (o + 5) (by omega) (by omega) (by omega)]

theorem dX0_upToTwo_0 : decode cX0_upToTwo 0 = .ok (.aload_n 0, 1) := by decide +kernel
theorem dX0_upToTwo_1 : decode cX0_upToTwo 1 = .ok (.getfield 12, 3) := by decide +kernel
theorem dX0_upToTwo_4 : decode cX0_upToTwo 4 = .ok (.aload_n 1, 1) := by decide +kernel
theorem dX0_upToTwo_5 : decode cX0_upToTwo 5 = .ok (.aload_n 2, 1) := by decide +kernel
theorem dX0_upToTwo_6 : decode cX0_upToTwo 6 = .ok (.aload_n 1, 1) := by decide +kernel
theorem dX0_upToTwo_7 : decode cX0_upToTwo 7 = .ok (.aload_n 2, 1) := by decide +kernel
theorem dX0_upToTwo_8 : decode cX0_upToTwo 8 = .ok (.invokevirtual 32, 3) := by decide +kernel
theorem dX0_upToTwo_11 : decode cX0_upToTwo 11 = .ok (.iconst 1, 1) := by decide +kernel
theorem dX0_upToTwo_12 : decode cX0_upToTwo 12 = .ok (.invokevirtual 38, 3) := by decide +kernel
theorem dX0_upToTwo_15 : decode cX0_upToTwo 15 = .ok (.aload_n 0, 1) := by decide +kernel
theorem dX0_upToTwo_16 : decode cX0_upToTwo 16 = .ok (.getfield 12, 3) := by decide +kernel
theorem dX0_upToTwo_19 : decode cX0_upToTwo 19 = .ok (.iconst 2, 1) := by decide +kernel
theorem dX0_upToTwo_20 : decode cX0_upToTwo 20 = .ok (.invokevirtual 42, 3) := by decide +kernel
theorem dX0_upToTwo_23 : decode cX0_upToTwo 23 = .ok (.ireturn, 1) := by decide +kernel
set_option maxHeartbeats 4000000 in
set_option maxRecDepth 100000 in
theorem c_X0_upToTwo (a s b l H M L : Nat) (lk : Nat → Nat) (rid : Nat → List Nat) (un : Bool) (Lt so de : Nat → Int32) (res : Nat × List (Nat → Nat) × Bool) {n : Nat} {kd : mK} {I : mI} {J : mJ} {P : mP} (ha : kd a = some (0, 0)) (hs : P a 0 = some s) (has : a ≠ s) (hS : kS kd P b) (hL : kL kd P l) (hQ : kQ kd P s) (hbl : b + 9 < l) (hlo : l + 5 < s) (ho9 : s < 1000000) (hH8 : H ≤ 8) (hc : clS I b l H M L lk rid un Lt so de) (hM20 : M ≤ 20) (hsk : skTop (TN un Lt L (I b 3 &&& (I l 2 ^^^ (-1))) (nI 1) lk (tvN so de (nI M) H rid) H) noB H M 2 = some res) : Ct yX0_upToTwo cX0_upToTwo 3 (some .int) 7 0 0 [.ref a, .ref b, .ref l] n kd I J P (skG n kd I J P s b l H res (skv res.2.2 res.2.1)) := by
  have hr : ∀ k, k < 8 → bt (I b 3 &&& (I l 2 ^^^ (-1))) k = true → bt (I b 3) k = true := fun k hk hx => by rw [b_and, Bool.and_eq_true] at hx; exact hx.1
  refine ct_of 0 (by decide +kernel) (Nat.le_of_ble_eq_true rfl) rfl ?_
  refine r_aload_n dX0_upToTwo_0 rfl ?_
  refine r_getR dX0_upToTwo_1 fl_X0_12 rfl ha hs ?_
  refine r_aload_n dX0_upToTwo_4 rfl ?_
  refine r_aload_n dX0_upToTwo_5 rfl ?_
  refine r_aload_n dX0_upToTwo_6 rfl ?_
  refine r_aload_n dX0_upToTwo_7 rfl ?_
  refine r_virtE (c_X7_speaking b l hS hL) lk_X0_32 mc_X7_speaking dX0_upToTwo_8 hS.1 (by decide) rfl rfl (Nat.le_of_ble_eq_true rfl) ?_
  refine r_iconst (v := nI 1) dX0_upToTwo_11 (by decide) ?_
  refine r_virtV (c_setUpN s b l H M L (I b 3 &&& (I l 2 ^^^ (-1))) (nI 1) lk rid un Lt so de hS hL hQ hbl hlo ho9 hH8 hc) lk_X0_38 mc_X6_setUp dX0_upToTwo_12 hQ.1 (by decide) rfl rfl (Nat.le_of_ble_eq_true rfl) ?_
  refine r_aload_n dX0_upToTwo_15 rfl ?_
  refine r_getR dX0_upToTwo_16 fl_X0_12 rfl ha (by unfold suP; rw [am_up_n _ _ has]; exact hs) ?_
  refine r_iconst (v := nI 2) dX0_upToTwo_19 (by decide) ?_
  refine r_virt (c_seekN s b l H M L ((I b 3 &&& (I l 2 ^^^ (-1)))) (nI 1) lk rid un Lt so de 2 res hS hL hQ hbl hlo ho9 hH8 hc hM20 (by decide) (by decide) hr hsk) lk_X0_42 mc_X6_seek dX0_upToTwo_20 hQ.1 (by decide) rfl rfl (Nat.le_of_ble_eq_true rfl) (Nat.le_of_eq (Nat.zero_add _)) (Nat.le_of_eq (Nat.zero_add _)) (fun _ _ _ _ _ _ h => nomatch h.1) ?_
  rintro v n' kd' I' J' P' ⟨h0, hr9⟩
  cases h0
  simp only [Option.toList, List.cons_append, List.nil_append]
  refine r_iret rfl dX0_upToTwo_23 ?_
  exact ⟨rfl, hr9⟩

