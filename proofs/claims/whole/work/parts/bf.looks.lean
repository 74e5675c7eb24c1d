/-! LOOKING: the class, on any state -/
def wlD (H : Nat) (fs : List (Nat → Nat)) (h : Nat) : Nat := wl (gV (alF (nmF fs) fs.length) fs.length H 7 (0 ||| 2 ^ h)) (alF (nmF fs) fs.length h) (2 ^ fs.length - 1) fs.length 0 0 (2 ^ fs.length - 1)
/-- the first that is so -/
def fdF (q : Nat → Bool) : Nat → Nat → Int32
  | 0, _ => -1
  | k + 1, h => if q h = true then nI h else fdF q k (h + 1)
def lkF (H : Nat) (fs : List (Nat → Nat)) : Int32 := if lookV H fs = 0 then -1 else fdF (fun h => decide (1 + wlD H fs h = lookV H fs)) H 0
theorem wlD_8 (H : Nat) (fs : List (Nat → Nat)) (h : Nat) : wlD H fs h ≤ 8 := wl_8 (fun x => gV_8 _ _ _ _ _ x) _ 0 0 _ (by omega)
theorem lookV_few {H : Nat} {fs : List (Nat → Nat)} (h : fs.length < 2) : lookV H fs = 0 := gV_few _ h
theorem one_all {c : Nat} (h : 2 ≤ c) : ¬ one (2 ^ c - 1) = true := fun q => by
  unfold one at q
  have q := of_decide_eq_true q
  obtain ⟨d, rfl⟩ : ∃ d, c = d + 2 := ⟨c - 2, by omega⟩
  have h1 : ((2 ^ (d + 2) - 1) &&& (2 ^ (d + 2) - 1 - 1)).testBit 1 = true := by
    rw [Nat.testBit_and, Nat.testBit_two_pow_sub_one, show 2 ^ (d + 2) - 1 - 1 = 2 * (2 ^ (d + 1) - 1) by rw [Nat.pow_succ 2 (d + 1)]; omega, show (1 : Nat) = 0 + 1 from rfl, Nat.testBit_succ, Nat.mul_div_cancel_left _ (by decide), Nat.testBit_two_pow_sub_one]
    simp
  rw [q, Nat.zero_testBit] at h1
  exact nomatch h1
theorem lookV_gB {H : Nat} {fs : List (Nat → Nat)} (h : 2 ≤ fs.length) : lookV H fs = gB (wlD H fs) 0 H := by
  unfold lookV
  unfold gV
  rw [if_neg (one_all h)]
  rfl
theorem lookV_1 {H : Nat} {fs : List (Nat → Nat)} (h : 2 ≤ fs.length) : 1 ≤ lookV H fs := by rw [lookV_gB h]; exact gB_1 H
theorem flP.row {n n' k z : Nat} {kd kd' : mK} {I I' : mI} {J J' : mJ} {P P' : mP} {v v2 : Int32} {y : Option Value ⊕ String} {A : Nat → Int32} (h : flP n kd I J P k v y n' kd' I' J' P') (hz : P' k 3 = some z) : flP n kd I J P k v2 (.inl (some (.int v2))) n' kd' (va_up I' z A) J' P' := by
  obtain ⟨-, h1, h2, h3, h4, h5, h6, h7⟩ := h
  refine ⟨rfl, h1, h2, fun a a1 a2 => ?_, h4, h5, h6, h7⟩
  have hne : a ≠ z := by
    intro q
    subst q
    rcases h7 with q | ⟨z2, q1, q2, q3, q4⟩
    · exact a2 (q ▸ hz)
    · rw [hz] at q3
      have := Option.some.inj q3
      omega
  rw [am_up_n _ _ hne]
  exact h3 a a1 a2
theorem flP.val {n n' k : Nat} {kd kd' : mK} {I I' : mI} {J J' : mJ} {P P' : mP} {v v2 : Int32} {y : Option Value ⊕ String} (h : flP n kd I J P k v y n' kd' I' J' P') : flP n kd I J P k v2 (.inl (some (.int v2))) n' kd' I' J' P' := ⟨rfl, h.2⟩

theorem CR.lk {o b s f l n n1 t : Nat} {kd kd1 : mK} {I I1 : mI} {J J1 : mJ} {P P1 : mP} {T : Nat → Nat} {fp : Int32} {rr : Nat → Int32} {H M : Nat} {un : Bool} {cs : Nat → List Nat} {tx : Nat → List Int32} {e : Lf} {im : Option Lf} {wk : Option (List Nat)} {v : Int32} {y : Option Value ⊕ String} (hC : CR o b s f l n kd I J P t T fp rr H M un cs tx e im wk) (ho : o + 125 < n) (hf : flP n kd I J P (o + 56) v y n1 kd1 I1 J1 P1) : CR o b s f l n1 kd1 I1 J1 P1 t T fp rr H M un cs tx e im wk := by
  obtain ⟨-, ⟨n0, n2⟩, h2, h3, h4, h5, h6, h7⟩ := hf
  have hat := hC.1.at
  have hne : ∀ a, a ≤ o + 125 → P (o + 56) 3 ≠ some a := fun a ha q => by
    rcases hC.2.1 with r | ⟨z, z1, z2, z3, z4⟩
    · rw [r] at q; exact nomatch q
    · rw [z1] at q
      have := Option.some.inj q
      omega
  have hX' : kX kd1 P1 o b s f l := kX.bk (n := n) (by omega) h2 (fun a a1 _ a2 => h5 a a1 a2) (fun j _ _ => by rw [h5 _ (by omega) (by omega)]) h6 hC.1
  refine CR.qu hX' ?_ (h3 o (by omega) (hne o (by omega))) (fun a a1 a2 _ _ _ _ _ a3 _ _ => h3 a (by omega) (hne a (by omega))) (h4 _ (by omega)) hC
  rcases h7 with q | ⟨z, q1, q2, q3, q4⟩
  · rcases hC.2.1 with r | ⟨z, z1, z2, z3, z4⟩
    · exact Or.inl (q.trans r)
    · exact Or.inr ⟨z, q.trans z1, by rw [h2 z z4]; exact z2, z3, by omega⟩
  · exact Or.inr ⟨z, q3, q4, by omega, q2⟩
theorem pK.lk {o b s f l n n1 t : Nat} {kd kd1 : mK} {I I1 : mI} {J J1 : mJ} {P P1 : mP} {T : Nat → Nat} {fp : Int32} {rr : Nat → Int32} {H M : Nat} {un : Bool} {cs : Nat → List Nat} {tx : Nat → List Int32} {e : Lf} {im : Option Lf} {wk : Option (List Nat)} {n0 : Nat} {kd0 : mK} {I0 : mI} {J0 : mJ} {P0 : mP} {v : Int32} {y : Option Value ⊕ String} (h0n : n = n0) (h0k : kd = kd0) (hfr : ∀ a, (a < o ∨ o + 68 < a) → I a = I0 a ∧ J a = J0 a ∧ P a = P0 a) (h56 : P (o + 56) = P0 (o + 56)) (hC : CR o b s f l n kd I J P t T fp rr H M un cs tx e im wk) (ho : o + 125 < n) (hf : flP n kd I J P (o + 56) v y n1 kd1 I1 J1 P1) : pK o n0 kd0 I0 J0 P0 (.inl (some (.int v))) (CX o t T fp rr H M un cs tx e im wk) y n1 kd1 I1 J1 P1 := by
  have hC1 := hC.lk ho hf
  obtain ⟨q0, q1, h2, h3, h4, h5, h6, h7⟩ := hf
  subst h0n h0k
  have hne : ∀ a, a ≤ o + 125 → P (o + 56) 3 ≠ some a := fun a ha q => by
    rcases hC.2.1 with r | ⟨z, z1, z2, z3, z4⟩
    · rw [r] at q; exact nomatch q
    · rw [z1] at q
      have := Option.some.inj q
      omega
  refine ⟨q0, q1, fun q => ?_, fun a a1 a2 => ⟨h2 a (by omega), (h3 a (by omega) (hne a (by omega))).trans (hfr a (by omega)).1, (h4 a (by omega)).trans (hfr a (by omega)).2.1, (h5 a (by omega) (by omega)).trans (hfr a (by omega)).2.2⟩, b, s, f, l, hC1⟩
  rcases h7 with r | ⟨z, _, _, r, _⟩
  · rw [r, h56]; exact q
  · rw [r]; exact fun x => nomatch x
set_option maxHeartbeats 4000000 in
set_option maxRecDepth 100000 in
theorem c_looksK (k H : Nat) (fs : List (Nat → Nat)) {n : Nat} {kd : mK} {I : mI} {J : mJ} {P : mP} (hG : kG kd P k) (hz : P k 3 = none ∨ ∃ z, P k 3 = some z ∧ kd z = some (1, 10240) ∧ k ≠ z) (hn : n < 1000000) (hkn : k + 1 < n) (e0 : I k 0 = nI H) (e1 : I k 1 = nI fs.length) (hJ : ∀ h i, h < H → i < fs.length → J (k + 1) (h * 40 + i) = jN (alF (nmF fs) fs.length h i)) (hc : fs.length ≤ 40) (hH : H ≤ 8) : Ct yX3_fewestLooks cX3_fewestLooks 4 (some .int) 21 1 10240 [.ref k] n kd I J P (fun y n' kd' I' J' P' => flP n kd I J P k (nI (lookV H fs)) y n' kd' I' J' P' ∧ (2 ≤ fs.length → ∃ z, lkS k z fs.length H (nmF fs) kd' I' J' P' ∧ KI (nmF fs) fs.length H (I' z))) := by
  by_cases h2 : 2 ≤ fs.length
  · rcases hz with hz | ⟨z, hz, hkz, hne⟩
    · have k0 : va_up kd n (some (1, 10240)) k = some (0, 3) := by rw [am_up_n _ _ (by omega)]; exact hG.1
      have hS : lkS k n fs.length H (nmF fs) (va_up kd n (some (1, 10240))) (va_up I n (fun _ => 0)) (va_up J n (fun _ => 0)) (va_up P k (va_up (P k) 3 (some n))) := ⟨⟨k0, by rw [am_up_n _ _ (by omega)]; exact hG.2.1, by rw [am_up_s, am_up_n _ _ (by decide)]; exact hG.2.2⟩, by rw [am_up_s, am_up_s], by rw [am_up_s], by omega, by rw [am_up_n _ _ (by omega)]; exact e0, by rw [am_up_n _ _ (by omega)]; exact e1, by rw [am_up_n _ _ (by omega)]; exact hJ, hc, hH⟩
      have hl := fl_loop (n := n + 1) (kc := 0) (ks := 0) k n fs.length H (nmF fs) hS (by omega) (2 ^ H * 40) 0 (fun _ => 0) (by omega) (fun j hj => absurd hj (by omega))
      simp only [am_up_up] at hl
      refine ct_of 3 (by decide +kernel) (Nat.le_of_ble_eq_true rfl) rfl ?_
      refine r_aload_n dX3_fewestLooks_0 rfl ?_
      refine r_getI dX3_fewestLooks_1 fl_X3_15 rfl hG.1 ?_
      rw [e1]
      refine r_iconst (v := nI 2) dX3_fewestLooks_4 (by decide) ?_
      refine r_icmp_ge (tgt := 10) dX3_fewestLooks_5 (by decide) (fun _ => ?_) (fun hz => absurd (show _ from (by rw [nI_leI (by omega) (by omega)]; omega)) hz)
      refine r_aload_n dX3_fewestLooks_10 rfl ?_
      refine r_virt (kc2 := 0) (ks2 := 0) (c_X3_scratchRow_new k hG hz hn (by omega)) lk_X3_40 mc_X3_scratchRow dX3_fewestLooks_11 hG.1 (by decide) rfl rfl (Nat.le_of_ble_eq_true rfl) (by decide) (by decide) (fun _ _ _ _ _ _ h => nomatch h.1) (fun v n' kd' I' J' P' hx => ?_)
      obtain ⟨hv, rfl, rfl, rfl, rfl, rfl⟩ := hx
      cases hv
      refine r_astore_n dX3_fewestLooks_14 (by decide) ?_
      refine r_iconst (v := nI 1) dX3_fewestLooks_15 (by decide) ?_
      refine r_aload_n dX3_fewestLooks_16 rfl ?_
      refine r_getI dX3_fewestLooks_17 fl_X3_9 rfl k0 ?_
      rw [am_up_n _ _ (by omega), e0]
      refine r_ishl dX3_fewestLooks_20 ?_
      refine r_bipush (v := nI 40) dX3_fewestLooks_21 (by decide) ?_
      refine r_imul dX3_fewestLooks_23 ?_
      rw [(sh_40 H hH).1]
      refine r_istore_n dX3_fewestLooks_24 (by decide) ?_
      refine r_iconst (v := nI 0) dX3_fewestLooks_25 (by decide) ?_
      refine r_istore_n dX3_fewestLooks_26 (by decide) ?_
      refine RuZ.mono hl (fun y n1 kd1 I1 J1 P1 hx => ?_)
      obtain ⟨A, hA, h0, rfl, rfl, rfl, rfl, rfl⟩ := hx
      refine ⟨⟨h0, ⟨by omega, by omega⟩, fun a ha => am_up_n _ _ (by omega), fun a ha _ => am_up_n _ _ (by omega), fun a ha => am_up_n _ _ (by omega), fun a _ hk => am_up_n _ _ hk, fun j hj => by rw [am_up_s, am_up_n _ _ hj], Or.inr ⟨n, by omega, by omega, by rw [am_up_s, am_up_s], by rw [am_up_s]⟩⟩, fun _ => ⟨n, ?_, by rw [am_up_s]; exact hA⟩⟩
      obtain ⟨s1, s2, s3, s4, s5, s6, s7, s8, s9⟩ := hS
      refine ⟨s1, s2, s3, s4, ?_, ?_, s7, s8, s9⟩
      · rw [am_up_n _ _ (by omega)]; exact e0
      · rw [am_up_n _ _ (by omega)]; exact e1
    · have hS : lkS k z fs.length H (nmF fs) kd I J P := ⟨hG, hz, hkz, hne, e0, e1, hJ, hc, hH⟩
      have hl := fl_loop (n := n) (kc := 1) (ks := 10240) k z fs.length H (nmF fs) hS (by omega) (2 ^ H * 40) 0 (I z) (by omega) (fun j hj => absurd hj (by omega))
      rw [am_up_id] at hl
      refine ct_of 3 (by decide +kernel) (Nat.le_of_ble_eq_true rfl) rfl ?_
      refine r_aload_n dX3_fewestLooks_0 rfl ?_
      refine r_getI dX3_fewestLooks_1 fl_X3_15 rfl hG.1 ?_
      rw [e1]
      refine r_iconst (v := nI 2) dX3_fewestLooks_4 (by decide) ?_
      refine r_icmp_ge (tgt := 10) dX3_fewestLooks_5 (by decide) (fun _ => ?_) (fun hz => absurd (show _ from (by rw [nI_leI (by omega) (by omega)]; omega)) hz)
      refine r_aload_n dX3_fewestLooks_10 rfl ?_
      refine r_virtE (c_X3_scratchRow k z hG hz) lk_X3_40 mc_X3_scratchRow dX3_fewestLooks_11 hG.1 (by decide) rfl rfl (Nat.le_of_ble_eq_true rfl) ?_
      refine r_astore_n dX3_fewestLooks_14 (by decide) ?_
      refine r_iconst (v := nI 1) dX3_fewestLooks_15 (by decide) ?_
      refine r_aload_n dX3_fewestLooks_16 rfl ?_
      refine r_getI dX3_fewestLooks_17 fl_X3_9 rfl hG.1 ?_
      rw [e0]
      refine r_ishl dX3_fewestLooks_20 ?_
      refine r_bipush (v := nI 40) dX3_fewestLooks_21 (by decide) ?_
      refine r_imul dX3_fewestLooks_23 ?_
      rw [(sh_40 H hH).1]
      refine r_istore_n dX3_fewestLooks_24 (by decide) ?_
      refine r_iconst (v := nI 0) dX3_fewestLooks_25 (by decide) ?_
      refine r_istore_n dX3_fewestLooks_26 (by decide) ?_
      refine RuZ.mono hl (fun y n1 kd1 I1 J1 P1 hx => ?_)
      obtain ⟨A, hA, h0, rfl, rfl, rfl, rfl, rfl⟩ := hx
      refine ⟨⟨h0, ⟨by omega, by omega⟩, fun _ _ => rfl, fun a ha hq => am_up_n _ _ (fun e => hq (by rw [hz, e])), fun _ _ => rfl, fun _ _ _ => rfl, fun _ _ => rfl, Or.inl rfl⟩, fun _ => ⟨z, ⟨hG, hz, hkz, hne, ?_, ?_, hJ, hc, hH⟩, by rw [am_up_s]; exact hA⟩⟩
      · rw [am_up_n _ _ hne]; exact e0
      · rw [am_up_n _ _ hne]; exact e1
  · exact (c_looksN k H fs hG hz hn hkn e0 e1 hJ hc hH).mono (fun y n1 kd1 I1 J1 P1 hx => ⟨hx, fun q => absurd q h2⟩)

theorem dX3_firstDoor_0 : decode cX3_firstDoor 0 = .ok (.iconst 0, 1) := by decide +kernel
theorem dX3_firstDoor_1 : decode cX3_firstDoor 1 = .ok (.istore_n 2, 1) := by decide +kernel
theorem dX3_firstDoor_2 : decode cX3_firstDoor 2 = .ok (.iload_n 2, 1) := by decide +kernel
theorem dX3_firstDoor_3 : decode cX3_firstDoor 3 = .ok (.aload_n 0, 1) := by decide +kernel
theorem dX3_firstDoor_4 : decode cX3_firstDoor 4 = .ok (.getfield 9, 3) := by decide +kernel
theorem dX3_firstDoor_7 : decode cX3_firstDoor 7 = .ok (.if_icmp .ge 31, 3) := by decide +kernel
theorem dX3_firstDoor_10 : decode cX3_firstDoor 10 = .ok (.iload_n 1, 1) := by decide +kernel
theorem dX3_firstDoor_11 : decode cX3_firstDoor 11 = .ok (.ifCond .le 27, 3) := by decide +kernel
theorem dX3_firstDoor_14 : decode cX3_firstDoor 14 = .ok (.iconst 1, 1) := by decide +kernel
theorem dX3_firstDoor_15 : decode cX3_firstDoor 15 = .ok (.aload_n 0, 1) := by decide +kernel
theorem dX3_firstDoor_16 : decode cX3_firstDoor 16 = .ok (.iload_n 2, 1) := by decide +kernel
theorem dX3_firstDoor_17 : decode cX3_firstDoor 17 = .ok (.aload_n 0, 1) := by decide +kernel
theorem dX3_firstDoor_18 : decode cX3_firstDoor 18 = .ok (.invokevirtual 44, 3) := by decide +kernel
theorem dX3_firstDoor_21 : decode cX3_firstDoor 21 = .ok (.iconst 0, 1) := by decide +kernel
theorem dX3_firstDoor_22 : decode cX3_firstDoor 22 = .ok (.invokevirtual 52, 3) := by decide +kernel
theorem dX3_firstDoor_25 : decode cX3_firstDoor 25 = .ok (.iadd, 1) := by decide +kernel
theorem dX3_firstDoor_26 : decode cX3_firstDoor 26 = .ok (.iload_n 1, 1) := by decide +kernel
theorem dX3_firstDoor_27 : decode cX3_firstDoor 27 = .ok (.if_icmp .ne 5, 3) := by decide +kernel
theorem dX3_firstDoor_30 : decode cX3_firstDoor 30 = .ok (.iload_n 2, 1) := by decide +kernel
theorem dX3_firstDoor_31 : decode cX3_firstDoor 31 = .ok (.ireturn, 1) := by decide +kernel
theorem dX3_firstDoor_32 : decode cX3_firstDoor 32 = .ok (.iinc 2 1, 3) := by decide +kernel
theorem dX3_firstDoor_35 : decode cX3_firstDoor 35 = .ok (.goto (-33), 3) := by decide +kernel
theorem dX3_firstDoor_38 : decode cX3_firstDoor 38 = .ok (.iconst (-1), 1) := by decide +kernel
theorem dX3_firstDoor_39 : decode cX3_firstDoor 39 = .ok (.ireturn, 1) := by decide +kernel

set_option maxHeartbeats 4000000 in
set_option maxRecDepth 100000 in
theorem fd_loop (k z H L : Nat) (fs : List (Nat → Nat)) {n : Nat} {kd : mK} {I : mI} {J : mJ} {P : mP} (hS : lkS k z fs.length H (nmF fs) kd I J P) (hc0 : 0 < fs.length) (hL1 : 1 ≤ L) (hL8 : L ≤ 8) : ∀ (cnt h : Nat) (A : Nat → Int32), h + cnt = H → KI (nmF fs) fs.length H A → Ru yX3_firstDoor.cls cX3_firstDoor 3 (some .int) yX3_firstDoor.name 19 (fun y n' kd' I' J' P' => ∃ A' : Nat → Int32, am_is (some (.int (fdF (fun h => decide (1 + wlD H fs h = L)) cnt h))) n kd (va_up I z A') J P y n' kd' I' J' P') 0 0 2 [some (.ref k), some (.int (nI L)), some (.int (nI h))] [] n kd (va_up I z A) J P
  | 0, h, A, hh, hA => by
    obtain ⟨hG, h3, hz, hkz, e0, e1, hJ, hc, hH⟩ := id hS
    have eh : h = H := by omega
    subst eh
    refine r_iload_n dX3_firstDoor_2 rfl ?_
    refine r_aload_n dX3_firstDoor_3 rfl ?_
    refine r_getI dX3_firstDoor_4 fl_X3_9 rfl hG.1 ?_
    rw [am_up_n _ _ hkz, e0]
    refine r_icmp_ge (tgt := 38) dX3_firstDoor_7 (by decide) (fun _ => ?_) (fun hz => absurd (show _ from (by rw [nI_leI (by omega) (by omega)]; omega)) hz)
    refine r_iconst (v := (-1)) dX3_firstDoor_38 (by decide) ?_
    refine r_iret rfl dX3_firstDoor_39 ?_
    exact ⟨A, am_is.mk⟩
  | cnt + 1, h, A, hh, hA => by
    obtain ⟨hG, h3, hz, hkz, e0, e1, hJ, hc, hH⟩ := id hS
    have h8 := wlD_8 H fs h
    have hw := c_wb (n := n) k z fs.length H (nmF fs) 7 0 h 0 hS (c_FA k z fs.length H (nmF fs) hS 7) (Nat.two_pow_pos H) (by decide) (by omega) (by rw [Nat.zero_testBit]; decide) hc0 A hA
    rw [clB_0] at hw
    change Ct _ _ _ _ _ _ _ _ _ _ _ _ _ (fun y n' kd' I' J' P' => ∃ A' : Nat → Int32, KI (nmF fs) fs.length H A' ∧ am_is (some (.int (nI (wlD H fs h)))) n kd (va_up I z A') J P y n' kd' I' J' P') at hw
    by_cases c1 : 1 + wlD H fs h = L
    · rw [show fdF (fun h => decide (1 + wlD H fs h = L)) (cnt + 1) h = nI h from by unfold fdF; rw [if_pos (decide_eq_true c1)]]
      refine r_iload_n dX3_firstDoor_2 rfl ?_
      refine r_aload_n dX3_firstDoor_3 rfl ?_
      refine r_getI dX3_firstDoor_4 fl_X3_9 rfl hG.1 ?_
      rw [am_up_n _ _ hkz, e0]
      refine r_icmp_ge (tgt := 38) dX3_firstDoor_7 (by decide) (fun hz => absurd hz (show ¬ _ from (by rw [nI_leI (by omega) (by omega)]; omega))) (fun _ => ?_)
      refine r_iload_n dX3_firstDoor_10 rfl ?_
      refine r_if_le (tgt := 38) dX3_firstDoor_11 (by decide) (fun hz => absurd hz (show ¬ _ from (by rw [show (0 : Int32) = nI 0 from rfl, nI_leI (by omega) (by omega)]; omega))) (fun _ => ?_)
      refine r_iconst (v := nI 1) dX3_firstDoor_14 (by decide) ?_
      refine r_aload_n dX3_firstDoor_15 rfl ?_
      refine r_iload_n dX3_firstDoor_16 rfl ?_
      refine r_aload_n dX3_firstDoor_17 rfl ?_
      refine r_virtE (c_X3_allNumberings k fs.length hG hc (by rw [am_up_n _ _ hkz]; exact e1)) lk_X3_44 mc_X3_allNumberings dX3_firstDoor_18 hG.1 (by decide) rfl rfl (Nat.le_of_ble_eq_true rfl) ?_
      refine r_iconst (v := nI 0) dX3_firstDoor_21 (by decide) ?_
      refine r_virt (kc2 := 0) (ks2 := 0) hw lk_X3_52 mc_X3_worstBehind dX3_firstDoor_22 hG.1 (by decide) rfl rfl (Nat.le_of_ble_eq_true rfl) (by decide) (by decide) (fun _ _ _ _ _ _ hx => by obtain ⟨_, _, hx⟩ := hx; exact nomatch hx.1) (fun v n' kd' I' J' P' hx => ?_)
      obtain ⟨A2, hA2, hv, rfl, rfl, rfl, rfl, rfl⟩ := hx
      cases hv
      simp only [Option.toList, List.cons_append, List.nil_append]
      refine r_iadd dX3_firstDoor_25 ?_
      rw [nI_add]
      refine r_iload_n dX3_firstDoor_26 rfl ?_
      refine r_icmp_ne (tgt := 32) dX3_firstDoor_27 (by decide) (fun hz => absurd (show _ from (by rw [c1])) hz) (fun _ => ?_)
      refine r_iload_n dX3_firstDoor_30 rfl ?_
      refine r_iret rfl dX3_firstDoor_31 ?_
      exact ⟨A2, am_is.mk⟩
    · rw [show fdF (fun h => decide (1 + wlD H fs h = L)) (cnt + 1) h = fdF (fun h => decide (1 + wlD H fs h = L)) cnt (h + 1) from by conv => lhs; unfold fdF; rw [if_neg (by simp [c1])]]
      refine r_iload_n dX3_firstDoor_2 rfl ?_
      refine r_aload_n dX3_firstDoor_3 rfl ?_
      refine r_getI dX3_firstDoor_4 fl_X3_9 rfl hG.1 ?_
      rw [am_up_n _ _ hkz, e0]
      refine r_icmp_ge (tgt := 38) dX3_firstDoor_7 (by decide) (fun hz => absurd hz (show ¬ _ from (by rw [nI_leI (by omega) (by omega)]; omega))) (fun _ => ?_)
      refine r_iload_n dX3_firstDoor_10 rfl ?_
      refine r_if_le (tgt := 38) dX3_firstDoor_11 (by decide) (fun hz => absurd hz (show ¬ _ from (by rw [show (0 : Int32) = nI 0 from rfl, nI_leI (by omega) (by omega)]; omega))) (fun _ => ?_)
      refine r_iconst (v := nI 1) dX3_firstDoor_14 (by decide) ?_
      refine r_aload_n dX3_firstDoor_15 rfl ?_
      refine r_iload_n dX3_firstDoor_16 rfl ?_
      refine r_aload_n dX3_firstDoor_17 rfl ?_
      refine r_virtE (c_X3_allNumberings k fs.length hG hc (by rw [am_up_n _ _ hkz]; exact e1)) lk_X3_44 mc_X3_allNumberings dX3_firstDoor_18 hG.1 (by decide) rfl rfl (Nat.le_of_ble_eq_true rfl) ?_
      refine r_iconst (v := nI 0) dX3_firstDoor_21 (by decide) ?_
      refine r_virt (kc2 := 0) (ks2 := 0) hw lk_X3_52 mc_X3_worstBehind dX3_firstDoor_22 hG.1 (by decide) rfl rfl (Nat.le_of_ble_eq_true rfl) (by decide) (by decide) (fun _ _ _ _ _ _ hx => by obtain ⟨_, _, hx⟩ := hx; exact nomatch hx.1) (fun v n' kd' I' J' P' hx => ?_)
      obtain ⟨A2, hA2, hv, rfl, rfl, rfl, rfl, rfl⟩ := hx
      cases hv
      simp only [Option.toList, List.cons_append, List.nil_append]
      refine r_iadd dX3_firstDoor_25 ?_
      rw [nI_add]
      refine r_iload_n dX3_firstDoor_26 rfl ?_
      refine r_icmp_ne (tgt := 32) dX3_firstDoor_27 (by decide) (fun _ => ?_) (fun hz => absurd hz (show ¬ _ from (fun q => c1 ((nI_eq (by omega) (by omega)).mp q))))
      refine r_iinc (v := nI (h + 1)) dX3_firstDoor_32 rfl (nI_inc h) ?_
      refine r_goto (tgt := 2) dX3_firstDoor_35 (by decide) ?_
      exact fd_loop k z H L fs hS hc0 hL1 hL8 cnt (h + 1) A2 (by omega) hA2

set_option maxHeartbeats 4000000 in
set_option maxRecDepth 100000 in
theorem c_fd (k z H L : Nat) (fs : List (Nat → Nat)) {n : Nat} {kd : mK} {I : mI} {J : mJ} {P : mP} (hS : lkS k z fs.length H (nmF fs) kd I J P) (hc0 : 0 < fs.length) (hL1 : 1 ≤ L) (hL8 : L ≤ 8) (hA : KI (nmF fs) fs.length H (I z)) : Ct yX3_firstDoor cX3_firstDoor 3 (some .int) 19 0 0 [.ref k, .int (nI L)] n kd I J P (fun y n' kd' I' J' P' => ∃ A' : Nat → Int32, am_is (some (.int (fdF (fun h => decide (1 + wlD H fs h = L)) H 0))) n kd (va_up I z A') J P y n' kd' I' J' P') := by
  have hl := fd_loop (n := n) k z H L fs hS hc0 hL1 hL8 H 0 (I z) (by omega) hA
  rw [am_up_id] at hl
  refine ct_of 1 (by decide +kernel) (Nat.le_of_ble_eq_true rfl) rfl ?_
  refine r_iconst (v := nI 0) dX3_firstDoor_0 (by decide) ?_
  refine r_istore_n dX3_firstDoor_1 (by decide) ?_
  exact hl

set_option maxHeartbeats 4000000 in
set_option maxRecDepth 100000 in
theorem c_fd0 (k H : Nat) {n : Nat} {kd : mK} {I : mI} {J : mJ} {P : mP} (hG : kG kd P k) (e0 : I k 0 = nI H) (hH : H ≤ 8) : Ct yX3_firstDoor cX3_firstDoor 3 (some .int) 19 0 0 [.ref k, .int (nI 0)] n kd I J P (am_is (some (.int (-1))) n kd I J P) := by
  refine ct_of 1 (by decide +kernel) (Nat.le_of_ble_eq_true rfl) rfl ?_
  by_cases c : H = 0
  · subst c
    refine r_iconst (v := nI 0) dX3_firstDoor_0 (by decide) ?_
    refine r_istore_n dX3_firstDoor_1 (by decide) ?_
    refine r_iload_n dX3_firstDoor_2 rfl ?_
    refine r_aload_n dX3_firstDoor_3 rfl ?_
    refine r_getI dX3_firstDoor_4 fl_X3_9 rfl hG.1 ?_
    rw [e0]
    refine r_icmp_ge (tgt := 38) dX3_firstDoor_7 (by decide) (fun _ => ?_) (fun hz => absurd (show _ from (by rw [nI_leI (by omega) (by omega)]; omega)) hz)
    refine r_iconst (v := (-1)) dX3_firstDoor_38 (by decide) ?_
    refine r_iret rfl dX3_firstDoor_39 ?_
    exact am_is.mk
  · skip
    refine r_iconst (v := nI 0) dX3_firstDoor_0 (by decide) ?_
    refine r_istore_n dX3_firstDoor_1 (by decide) ?_
    refine r_iload_n dX3_firstDoor_2 rfl ?_
    refine r_aload_n dX3_firstDoor_3 rfl ?_
    refine r_getI dX3_firstDoor_4 fl_X3_9 rfl hG.1 ?_
    rw [e0]
    refine r_icmp_ge (tgt := 38) dX3_firstDoor_7 (by decide) (fun hz => absurd hz (show ¬ _ from (by rw [nI_leI (by omega) (by omega)]; omega))) (fun _ => ?_)
    refine r_iload_n dX3_firstDoor_10 rfl ?_
    refine r_if_le (tgt := 38) dX3_firstDoor_11 (by decide) (fun _ => ?_) (fun hz => absurd (show _ from (by decide)) hz)
    refine r_iconst (v := (-1)) dX3_firstDoor_38 (by decide) ?_
    refine r_iret rfl dX3_firstDoor_39 ?_
    exact am_is.mk

theorem dX9_readyToLook_0 : decode cX9_readyToLook 0 = .ok (.aload_n 0, 1) := by decide +kernel
theorem dX9_readyToLook_1 : decode cX9_readyToLook 1 = .ok (.invokevirtual 183, 3) := by decide +kernel
theorem dX9_readyToLook_4 : decode cX9_readyToLook 4 = .ok (.aload_n 0, 1) := by decide +kernel
theorem dX9_readyToLook_5 : decode cX9_readyToLook 5 = .ok (.getfield 54, 3) := by decide +kernel
theorem dX9_readyToLook_8 : decode cX9_readyToLook 8 = .ok (.getfield 186, 3) := by decide +kernel
theorem dX9_readyToLook_11 : decode cX9_readyToLook 11 = .ok (.bipush (-2), 2) := by decide +kernel
theorem dX9_readyToLook_13 : decode cX9_readyToLook 13 = .ok (.if_icmp .eq 15, 3) := by decide +kernel
theorem dX9_readyToLook_16 : decode cX9_readyToLook 16 = .ok (.aload_n 0, 1) := by decide +kernel
theorem dX9_readyToLook_17 : decode cX9_readyToLook 17 = .ok (.getfield 54, 3) := by decide +kernel
theorem dX9_readyToLook_20 : decode cX9_readyToLook 20 = .ok (.getfield 186, 3) := by decide +kernel
theorem dX9_readyToLook_23 : decode cX9_readyToLook 23 = .ok (.bipush 40, 2) := by decide +kernel
theorem dX9_readyToLook_25 : decode cX9_readyToLook 25 = .ok (.if_icmp .le 5, 3) := by decide +kernel
theorem dX9_readyToLook_28 : decode cX9_readyToLook 28 = .ok (.iconst 0, 1) := by decide +kernel
theorem dX9_readyToLook_29 : decode cX9_readyToLook 29 = .ok (.ireturn, 1) := by decide +kernel
theorem dX9_readyToLook_30 : decode cX9_readyToLook 30 = .ok (.aload_n 0, 1) := by decide +kernel
theorem dX9_readyToLook_31 : decode cX9_readyToLook 31 = .ok (.getfield 71, 3) := by decide +kernel
theorem dX9_readyToLook_34 : decode cX9_readyToLook 34 = .ok (.aload_n 0, 1) := by decide +kernel
theorem dX9_readyToLook_35 : decode cX9_readyToLook 35 = .ok (.getfield 54, 3) := by decide +kernel
theorem dX9_readyToLook_38 : decode cX9_readyToLook 38 = .ok (.aload_n 0, 1) := by decide +kernel
theorem dX9_readyToLook_39 : decode cX9_readyToLook 39 = .ok (.getfield 27, 3) := by decide +kernel
theorem dX9_readyToLook_42 : decode cX9_readyToLook 42 = .ok (.getfield 124, 3) := by decide +kernel
theorem dX9_readyToLook_45 : decode cX9_readyToLook 45 = .ok (.invokevirtual 372, 3) := by decide +kernel
theorem dX9_readyToLook_48 : decode cX9_readyToLook 48 = .ok (.iconst 1, 1) := by decide +kernel
theorem dX9_readyToLook_49 : decode cX9_readyToLook 49 = .ok (.ireturn, 1) := by decide +kernel

theorem fw_gd {H M : Nat} {un : Bool} {cs : Nat → List Nat} {e : Lf} : fwB (zN H M un cs e) = true ↔ gdN H M un cs e = true ∧ (fsN H M un cs e).length ≤ 40 := by
  unfold fwB gdN fsN
  simp only [Bool.and_eq_true, decide_eq_true_iff]
  exact ⟨fun h => ⟨⟨h.1, by omega⟩, h.2⟩, fun h => ⟨h.1.1, h.2⟩⟩
set_option maxHeartbeats 4000000 in
set_option maxRecDepth 100000 in
theorem k_ready_no (o b s f l : Nat) {t : Nat} {T : Nat → Nat} {fp : Int32} {rr : Nat → Int32} {H M : Nat} {un : Bool} {cs : Nat → List Nat} {tx : Nat → List Int32} {e : Lf} {im : Option Lf} {wk : Option (List Nat)} {n : Nat} {kd : mK} {I : mI} {J : mJ} {P : mP} (hC : CR o b s f l n kd I J P t T fp rr H M un cs tx e im wk) (hz : okZ t T H M cs e) (hw : fwB (zN H M un cs e) = false) : Ct yX9_readyToLook cX9_readyToLook 1 (some .boolean) 9 0 0 [.ref o] n kd I J P (fun z n' kd' I' J' P' => z = .inl (some (.int (nI 0))) ∧ n' = n ∧ kd' = kd ∧ (∀ a, (a < o ∨ o + 68 < a) → I' a = I a ∧ J' a = J a ∧ P' a = P a) ∧ P' (o + 56) = P (o + 56) ∧ CR o b s f l n kd I' J' P' t T fp rr H M un cs tx e im wk) := by
  have hC0 := hC
  have hz0 := hz
  obtain ⟨hX, hsc, hT, hSt, hLf, hIm, hWk, hQc, hPc⟩ := hC
  obtain ⟨okt, oks, okl⟩ := hz
  have hS := hX.S
  have hL := hX.L
  have hat := hX.at
  have hH8 : H ≤ 8 := oks.2.1
  have hM20 : 2 ≤ M ∧ M ≤ 20 := oks.1
  have hH : I b 0 = nI H := hSt.1.1
  have hMo : I b 1 = nI M := hSt.2.1
  obtain ⟨⟨x0, x1, x2⟩, -, ⟨-, -, hLk⟩, ⟨hQ, hA, hG, hW, hRd, hD, hPg⟩, ⟨p0, p3, p8, p10, p12, p13, p14, p15, p16, p17⟩, ⟨p4, p5, p6, p7⟩, -, -, -⟩ := id hX
  refine ct_of 0 (by decide +kernel) (Nat.le_of_ble_eq_true rfl) rfl ?_
  by_cases hg : gdN H M un cs e = true
  · have hl : (fsN H M un cs e).length ≤ 1000 := gd_len hg
    have h40 : 40 < (fsN H M un cs e).length := by
      apply Classical.byContradiction
      intro q
      have := fw_gd.mpr ⟨hg, show (fsN H M un cs e).length ≤ 40 by omega⟩
      rw [hw] at this
      exact nomatch this
    refine r_aload_n dX9_readyToLook_0 rfl ?_
    refine r_virt (kc2 := 0) (ks2 := 0) (k_search o b s f l hC0 hz0) lk_X9_183 mc_X9_search dX9_readyToLook_1 x0 (by decide) rfl rfl (Nat.le_of_ble_eq_true rfl) (by decide) (by decide) (fun _ _ _ _ _ _ h => nomatch h.1) ?_
    rintro v1 n1 kd1 I1 J1 P1 ⟨h00, rfl, rfl, hfr, h56, hC1, h11⟩
    cases h00
    simp only [Option.toList, List.nil_append]
    obtain ⟨f9, f10, fS, fJ⟩ := hC1.found h11 hz0
    obtain ⟨⟨y0, y1, y2⟩, -, -, ⟨hQ1, hA1, hG1, hW1, -, -, -⟩, ⟨-, -, -, r10, r12, r13, r14, -, -, -⟩, ⟨r4, r5, r6, r7⟩, -, -, -⟩ := id hC1.1
    have hH1 := hC1.H0
    have hMo1 := hC1.M0
    have hS1 := hC1.1.S
    have hL1 := hC1.1.L
    refine r_aload_n dX9_readyToLook_4 rfl ?_
    refine r_getR dX9_readyToLook_5 fl_X9_54 rfl (by assumption) (by assumption) ?_
    refine r_getI dX9_readyToLook_8 fl_X9_186 rfl hQ1.1 ?_
    rw [f10, if_pos hg]
    refine r_bipush (v := (-2)) dX9_readyToLook_11 (by decide) ?_
    refine r_icmp_eq (tgt := 28) dX9_readyToLook_13 (by decide) (fun hz => absurd hz (show ¬ _ from (nI_m2 (by omega)))) (fun _ => ?_)
    refine r_aload_n dX9_readyToLook_16 rfl ?_
    refine r_getR dX9_readyToLook_17 fl_X9_54 rfl (by assumption) (by assumption) ?_
    refine r_getI dX9_readyToLook_20 fl_X9_186 rfl hQ1.1 ?_
    rw [f10, if_pos hg]
    refine r_bipush (v := nI 40) dX9_readyToLook_23 (by decide) ?_
    refine r_icmp_le (tgt := 30) dX9_readyToLook_25 (by decide) (fun hz => absurd hz (show ¬ _ from (by rw [nI_leI (by omega) (by omega)]; omega))) (fun _ => ?_)
    refine r_iconst (v := nI 0) dX9_readyToLook_28 (by decide) ?_
    refine r_zret rfl dX9_readyToLook_29 (by first | exact Or.inl rfl | exact Or.inr rfl | assumption) ?_
    exact ⟨rfl, rfl, rfl, hfr, h56, hC1⟩
  · have hg : gdN H M un cs e = false := by cases hx : gdN H M un cs e; rfl; exact absurd hx hg
    refine r_aload_n dX9_readyToLook_0 rfl ?_
    refine r_virt (kc2 := 0) (ks2 := 0) (k_search o b s f l hC0 hz0) lk_X9_183 mc_X9_search dX9_readyToLook_1 x0 (by decide) rfl rfl (Nat.le_of_ble_eq_true rfl) (by decide) (by decide) (fun _ _ _ _ _ _ h => nomatch h.1) ?_
    rintro v1 n1 kd1 I1 J1 P1 ⟨h00, rfl, rfl, hfr, h56, hC1, h11⟩
    cases h00
    simp only [Option.toList, List.nil_append]
    obtain ⟨f9, f10, fS, fJ⟩ := hC1.found h11 hz0
    obtain ⟨⟨y0, y1, y2⟩, -, -, ⟨hQ1, hA1, hG1, hW1, -, -, -⟩, ⟨-, -, -, r10, r12, r13, r14, -, -, -⟩, ⟨r4, r5, r6, r7⟩, -, -, -⟩ := id hC1.1
    have hH1 := hC1.H0
    have hMo1 := hC1.M0
    have hS1 := hC1.1.S
    have hL1 := hC1.1.L
    refine r_aload_n dX9_readyToLook_4 rfl ?_
    refine r_getR dX9_readyToLook_5 fl_X9_54 rfl (by assumption) (by assumption) ?_
    refine r_getI dX9_readyToLook_8 fl_X9_186 rfl hQ1.1 ?_
    rw [f10, if_neg (show ¬ _ from by rw [hg]; decide)]
    refine r_bipush (v := -2) dX9_readyToLook_11 (by decide) ?_
    refine r_icmp_eq (tgt := 28) dX9_readyToLook_13 (by decide) (fun _ => ?_) (fun hz => absurd (show _ from rfl) hz)
    refine r_iconst (v := nI 0) dX9_readyToLook_28 (by decide) ?_
    refine r_zret rfl dX9_readyToLook_29 (by first | exact Or.inl rfl | exact Or.inr rfl | assumption) ?_
    exact ⟨rfl, rfl, rfl, hfr, h56, hC1⟩

set_option maxHeartbeats 4000000 in
set_option maxRecDepth 100000 in
theorem k_ready (o b s f l : Nat) {t : Nat} {T : Nat → Nat} {fp : Int32} {rr : Nat → Int32} {H M : Nat} {un : Bool} {cs : Nat → List Nat} {tx : Nat → List Int32} {e : Lf} {im : Option Lf} {wk : Option (List Nat)} {n : Nat} {kd : mK} {I : mI} {J : mJ} {P : mP} (hC : CR o b s f l n kd I J P t T fp rr H M un cs tx e im wk) (hz : okZ t T H M cs e) (hw : fwB (zN H M un cs e) = true) : Ct yX9_readyToLook cX9_readyToLook 1 (some .boolean) 9 0 0 [.ref o] n kd I J P (fun z n' kd' I' J' P' => z = .inl (some (.int (nI 1))) ∧ n' = n ∧ kd' = kd ∧ (∀ a, (a < o ∨ o + 68 < a) → I' a = I a ∧ J' a = J a ∧ P' a = P a) ∧ P' (o + 56) = P (o + 56) ∧ CR o b s f l n kd I' J' P' t T fp rr H M un cs tx e im wk ∧ I' (o + 56) 0 = nI H ∧ I' (o + 56) 1 = nI (fsN H M un cs e).length ∧ I' (o + 41) 10 = nI (fsN H M un cs e).length ∧ ∀ h i, h < H → i < (fsN H M un cs e).length → J' (o + 56 + 1) (h * 40 + i) = jN (alF (nmF (fsN H M un cs e)) (fsN H M un cs e).length h i)) := by
  have hC0 := hC
  have hz0 := hz
  obtain ⟨hX, hsc, hT, hSt, hLf, hIm, hWk, hQc, hPc⟩ := hC
  obtain ⟨okt, oks, okl⟩ := hz
  have hS := hX.S
  have hL := hX.L
  have hat := hX.at
  have hH8 : H ≤ 8 := oks.2.1
  have hM20 : 2 ≤ M ∧ M ≤ 20 := oks.1
  have hH : I b 0 = nI H := hSt.1.1
  have hMo : I b 1 = nI M := hSt.2.1
  obtain ⟨⟨x0, x1, x2⟩, -, ⟨-, -, hLk⟩, ⟨hQ, hA, hG, hW, hRd, hD, hPg⟩, ⟨p0, p3, p8, p10, p12, p13, p14, p15, p16, p17⟩, ⟨p4, p5, p6, p7⟩, -, -, -⟩ := id hX
  refine ct_of 0 (by decide +kernel) (Nat.le_of_ble_eq_true rfl) rfl ?_
  obtain ⟨hg, h40⟩ := fw_gd.mp hw
  have hrg : fRng H M (fsN H M un cs e) := (zR_rng hH8 hM20.2).2
  refine r_aload_n dX9_readyToLook_0 rfl ?_
  refine r_virt (kc2 := 0) (ks2 := 0) (k_search o b s f l hC0 hz0) lk_X9_183 mc_X9_search dX9_readyToLook_1 x0 (by decide) rfl rfl (Nat.le_of_ble_eq_true rfl) (by decide) (by decide) (fun _ _ _ _ _ _ h => nomatch h.1) ?_
  rintro v1 n1 kd1 I1 J1 P1 ⟨h00, rfl, rfl, hfr, h56, hC1, h11⟩
  cases h00
  simp only [Option.toList, List.nil_append]
  obtain ⟨f9, f10, fS, fJ⟩ := hC1.found h11 hz0
  obtain ⟨⟨y0, y1, y2⟩, -, -, ⟨hQ1, hA1, hG1, hW1, -, -, -⟩, ⟨-, -, -, r10, r12, r13, r14, -, -, -⟩, ⟨r4, r5, r6, r7⟩, -, -, -⟩ := id hC1.1
  have hH1 := hC1.H0
  have hMo1 := hC1.M0
  have hS1 := hC1.1.S
  have hL1 := hC1.1.L
  refine r_aload_n dX9_readyToLook_4 rfl ?_
  refine r_getR dX9_readyToLook_5 fl_X9_54 rfl (by assumption) (by assumption) ?_
  refine r_getI dX9_readyToLook_8 fl_X9_186 rfl hQ1.1 ?_
  rw [f10, if_pos hg]
  refine r_bipush (v := (-2)) dX9_readyToLook_11 (by decide) ?_
  refine r_icmp_eq (tgt := 28) dX9_readyToLook_13 (by decide) (fun hz => absurd hz (show ¬ _ from (nI_m2 (by omega)))) (fun _ => ?_)
  refine r_aload_n dX9_readyToLook_16 rfl ?_
  refine r_getR dX9_readyToLook_17 fl_X9_54 rfl (by assumption) (by assumption) ?_
  refine r_getI dX9_readyToLook_20 fl_X9_186 rfl hQ1.1 ?_
  rw [f10, if_pos hg]
  refine r_bipush (v := nI 40) dX9_readyToLook_23 (by decide) ?_
  refine r_icmp_le (tgt := 30) dX9_readyToLook_25 (by decide) (fun _ => ?_) (fun hz => absurd (show _ from (by rw [nI_leI (by omega) (by omega)]; omega)) hz)
  refine r_aload_n dX9_readyToLook_30 rfl ?_
  refine r_getR dX9_readyToLook_31 fl_X9_71 rfl (by assumption) (by assumption) ?_
  refine r_aload_n dX9_readyToLook_34 rfl ?_
  refine r_getR dX9_readyToLook_35 fl_X9_54 rfl (by assumption) (by assumption) ?_
  refine r_aload_n dX9_readyToLook_38 rfl ?_
  refine r_getR dX9_readyToLook_39 fl_X9_27 rfl (by assumption) (by assumption) ?_
  refine r_getI dX9_readyToLook_42 fl_X9_124 rfl hS1.1 ?_
  rw [hH1]
  refine r_virt (kc2 := 0) (ks2 := 0) (c_X3_prepare (o + 56) (o + 41) (fsN H M un cs e).length H (nmF (fsN H M un cs e)) hG1 hQ1.1 hQ1.2.2.2.2.2.2.2.2.2.1 hQ1.2.2.2.2.1 (by omega) (by omega) h40 hH8 (fun i h hi hh => (fJ hg).2 i h hi hh) (fun i h hi hh => by have := (nmF_rng hrg i h hi hh).2; omega) (by rw [f10, if_pos hg])) lk_X9_372 mc_X3_prepare dX9_readyToLook_45 hG1.1 (by decide) rfl rfl (Nat.le_of_ble_eq_true rfl) (by decide) (by decide) (fun _ _ _ _ _ _ hx => by obtain ⟨_, _, hx⟩ := hx; exact nomatch hx.1) ?_
  rintro v2 n2 kd2 I2 J2 P2 ⟨A, hA3, h02, rfl, rfl, rfl, rfl, rfl⟩
  cases h02
  simp only [Option.toList, List.nil_append]
  refine r_iconst (v := nI 1) dX9_readyToLook_48 (by decide) ?_
  refine r_zret rfl dX9_readyToLook_49 (by first | exact Or.inl rfl | exact Or.inr rfl | assumption) ?_
  refine ⟨rfl, rfl, rfl, fun a ha => ?_, h56, ?_, pI_0 _ _ _ _, pI_1 _ _ _ _, ?_, fun h i hh hi => by rw [am_up_s]; exact hA3 h i hh hi⟩
  · unfold pI
    rw [am_up_n _ _ (by omega), am_up_n _ _ (by omega)]
    exact hfr a ha
  · refine CR.qu hC1.1 hC1.2.1 (by unfold pI; rw [am_up_n _ _ (by omega)]) (fun a a1 a2 _ _ _ _ _ a3 _ _ => by unfold pI; rw [am_up_n _ _ (by omega)]) (am_up_n _ _ (by omega)) hC1
  · unfold pI
    rw [am_up_n _ _ (by omega), f10, if_pos hg]

theorem dX9_looks_0 : decode cX9_looks 0 = .ok (.aload_n 0, 1) := by decide +kernel
theorem dX9_looks_1 : decode cX9_looks 1 = .ok (.iload_n 1, 1) := by decide +kernel
theorem dX9_looks_2 : decode cX9_looks 2 = .ok (.iconst 2, 1) := by decide +kernel
theorem dX9_looks_3 : decode cX9_looks 3 = .ok (.invokevirtual 162, 3) := by decide +kernel
theorem dX9_looks_6 : decode cX9_looks 6 = .ok (.aload_n 0, 1) := by decide +kernel
theorem dX9_looks_7 : decode cX9_looks 7 = .ok (.invokevirtual 218, 3) := by decide +kernel
theorem dX9_looks_10 : decode cX9_looks 10 = .ok (.ifCond .ne 6, 3) := by decide +kernel
theorem dX9_looks_13 : decode cX9_looks 13 = .ok (.bipush (-2), 2) := by decide +kernel
theorem dX9_looks_15 : decode cX9_looks 15 = .ok (.ireturn, 1) := by decide +kernel
theorem dX9_looks_16 : decode cX9_looks 16 = .ok (.aload_n 0, 1) := by decide +kernel
theorem dX9_looks_17 : decode cX9_looks 17 = .ok (.getfield 71, 3) := by decide +kernel
theorem dX9_looks_20 : decode cX9_looks 20 = .ok (.invokevirtual 222, 3) := by decide +kernel
theorem dX9_looks_23 : decode cX9_looks 23 = .ok (.istore_n 2, 1) := by decide +kernel
theorem dX9_looks_24 : decode cX9_looks 24 = .ok (.iload_n 1, 1) := by decide +kernel
theorem dX9_looks_25 : decode cX9_looks 25 = .ok (.ifCond .ne 7, 3) := by decide +kernel
theorem dX9_looks_28 : decode cX9_looks 28 = .ok (.iload_n 2, 1) := by decide +kernel
theorem dX9_looks_29 : decode cX9_looks 29 = .ok (.goto 11, 3) := by decide +kernel
theorem dX9_looks_32 : decode cX9_looks 32 = .ok (.aload_n 0, 1) := by decide +kernel
theorem dX9_looks_33 : decode cX9_looks 33 = .ok (.getfield 71, 3) := by decide +kernel
theorem dX9_looks_36 : decode cX9_looks 36 = .ok (.iload_n 2, 1) := by decide +kernel
theorem dX9_looks_37 : decode cX9_looks 37 = .ok (.invokevirtual 226, 3) := by decide +kernel
theorem dX9_looks_40 : decode cX9_looks 40 = .ok (.ireturn, 1) := by decide +kernel

def lkA (w H : Nat) (fs : List (Nat → Nat)) : Int32 := if w = 0 then nI (lookV H fs) else lkF H fs
set_option maxHeartbeats 4000000 in
set_option maxRecDepth 100000 in
theorem k_looks_sp (o b s f l : Nat) (w : Nat) {t : Nat} {T : Nat → Nat} {fp : Int32} {rr : Nat → Int32} {H M : Nat} {un : Bool} {cs : Nat → List Nat} {tx : Nat → List Int32} {e : Lf} {im : Option Lf} {wk : Option (List Nat)} {n : Nat} {kd : mK} {I : mI} {J : mJ} {P : mP} (hC : CR o b s f l n kd I J P t T fp rr H M un cs tx e im wk) (hz : okZ t T H M cs e) (hw1 : w < 2) (hw : fwB (zN H M un cs e) = false) : Ct yX9_looks cX9_looks 3 (some .int) 22 1 10240 [.ref o, .int (nI w)] n kd I J P (pK o n kd I J P (.inl (some (.int (-2)))) (CX o t T fp rr H M un cs tx e im wk)) := by
  have hC0 := hC
  have hz0 := hz
  obtain ⟨hX, hsc, hT, hSt, hLf, hIm, hWk, hQc, hPc⟩ := hC
  obtain ⟨okt, oks, okl⟩ := hz
  have hS := hX.S
  have hL := hX.L
  have hat := hX.at
  have hH8 : H ≤ 8 := oks.2.1
  have hM20 : 2 ≤ M ∧ M ≤ 20 := oks.1
  have hH : I b 0 = nI H := hSt.1.1
  have hMo : I b 1 = nI M := hSt.2.1
  obtain ⟨⟨x0, x1, x2⟩, -, ⟨-, -, hLk⟩, ⟨hQ, hA, hG, hW, hRd, hD, hPg⟩, ⟨p0, p3, p8, p10, p12, p13, p14, p15, p16, p17⟩, ⟨p4, p5, p6, p7⟩, -, -, -⟩ := id hX
  refine ct_of 1 (by decide +kernel) (Nat.le_of_ble_eq_true rfl) rfl ?_
  refine r_aload_n dX9_looks_0 rfl ?_
  refine r_iload_n dX9_looks_1 rfl ?_
  refine r_iconst (v := nI 2) dX9_looks_2 (by decide) ?_
  refine r_virtV (m0_What o (nI w) (nI 2) ((by rcases (by omega : w = 0 ∨ w = 1) with r | r <;> rw [r] <;> decide))) lk_X9_162 mc_X9_mustBeWhat dX9_looks_3 x0 (by decide) rfl rfl (Nat.le_of_ble_eq_true rfl) ?_
  refine r_aload_n dX9_looks_6 rfl ?_
  refine r_virt (kc2 := 1) (ks2 := 10240) (k_ready_no o b s f l hC0 hz0 hw) lk_X9_218 mc_X9_readyToLook dX9_looks_7 x0 (by decide) rfl rfl (Nat.le_of_ble_eq_true rfl) (by decide) (by decide) (fun _ _ _ _ _ _ h => nomatch h.1) ?_
  rintro v1 n1 kd1 I1 J1 P1 ⟨h00, rfl, rfl, hfr, h56, hC1⟩
  cases h00
  simp only [Option.toList, List.nil_append, List.cons_append]
  refine r_if_ne (tgt := 16) dX9_looks_10 (by decide) (fun hz => absurd (show _ from rfl) hz) (fun _ => ?_)
  refine r_bipush (v := (-2)) dX9_looks_13 (by decide) ?_
  refine r_iret rfl dX9_looks_15 ?_
  exact ⟨rfl, ⟨Nat.le_refl _, Nat.le_succ _⟩, fun q => by rw [h56]; exact q, fun a a1 a2 => ⟨rfl, (hfr a (by omega)).1, (hfr a (by omega)).2.1, (hfr a (by omega)).2.2⟩, b, s, f, l, hC1⟩

set_option maxHeartbeats 4000000 in
set_option maxRecDepth 100000 in
theorem k_looks_no (o b s f l : Nat) (y : Int32) {t : Nat} {T : Nat → Nat} {fp : Int32} {rr : Nat → Int32} {H M : Nat} {un : Bool} {cs : Nat → List Nat} {tx : Nat → List Int32} {e : Lf} {im : Option Lf} {wk : Option (List Nat)} {n : Nat} {kd : mK} {I : mI} {J : mJ} {P : mP} (hC : CR o b s f l n kd I J P t T fp rr H M un cs tx e im wk) (hz : okZ t T H M cs e) (hy : (!decide (y < 0) && decide (y < nI 2)) = false) : Ct yX9_looks cX9_looks 3 (some .int) 22 1 10240 [.ref o, .int y] n kd I J P (fun z n' kd' I' J' P' => z = .inr "java/util/NoSuchElementException" ∧ n' = n ∧ kd' = kd ∧ I' = I ∧ J' = J ∧ P' = P) := by
  obtain ⟨hX, hsc, hT, hSt, hLf, hIm, hWk, hQc, hPc⟩ := hC
  obtain ⟨okt, oks, okl⟩ := hz
  have hS := hX.S
  have hL := hX.L
  have hat := hX.at
  have hH8 : H ≤ 8 := oks.2.1
  have hM20 : 2 ≤ M ∧ M ≤ 20 := oks.1
  have hH : I b 0 = nI H := hSt.1.1
  have hMo : I b 1 = nI M := hSt.2.1
  obtain ⟨⟨x0, x1, x2⟩, -, ⟨-, -, hLk⟩, ⟨hQ, hA, hG, hW, hRd, hD, hPg⟩, ⟨p0, p3, p8, p10, p12, p13, p14, p15, p16, p17⟩, ⟨p4, p5, p6, p7⟩, -, -, -⟩ := id hX
  refine ct_of 1 (by decide +kernel) (Nat.le_of_ble_eq_true rfl) rfl ?_
  refine r_aload_n dX9_looks_0 rfl ?_
  refine r_iload_n dX9_looks_1 rfl ?_
  refine r_iconst (v := nI 2) dX9_looks_2 (by decide) ?_
  have hc3 := c_X9_mustBeWhat (n := n) (kd := kd) (I := I) (J := J) (P := P) o (y) (nI 2)
  rw [hy] at hc3
  exact r_virtX hc3 lk_X9_162 mc_X9_mustBeWhat dX9_looks_3 x0 (by decide) rfl rfl (Nat.le_of_ble_eq_true rfl) (by decide) (by decide) ⟨rfl, rfl, rfl, rfl, rfl, rfl⟩

set_option maxHeartbeats 4000000 in
set_option maxRecDepth 100000 in
theorem k_looks (o b s f l : Nat) (w : Nat) {t : Nat} {T : Nat → Nat} {fp : Int32} {rr : Nat → Int32} {H M : Nat} {un : Bool} {cs : Nat → List Nat} {tx : Nat → List Int32} {e : Lf} {im : Option Lf} {wk : Option (List Nat)} {n : Nat} {kd : mK} {I : mI} {J : mJ} {P : mP} (hC : CR o b s f l n kd I J P t T fp rr H M un cs tx e im wk) (hz : okZ t T H M cs e) (ho9 : o + 125 < n) (hn9 : n < 1000000) (hw1 : w < 2) (hw : fwB (zN H M un cs e) = true) : Ct yX9_looks cX9_looks 3 (some .int) 22 1 10240 [.ref o, .int (nI w)] n kd I J P (pK o n kd I J P (.inl (some (.int (lkA w H (fsN H M un cs e))))) (CX o t T fp rr H M un cs tx e im wk)) := by
  have hC0 := hC
  have hz0 := hz
  obtain ⟨hX, hsc, hT, hSt, hLf, hIm, hWk, hQc, hPc⟩ := hC
  obtain ⟨okt, oks, okl⟩ := hz
  have hS := hX.S
  have hL := hX.L
  have hat := hX.at
  have hH8 : H ≤ 8 := oks.2.1
  have hM20 : 2 ≤ M ∧ M ≤ 20 := oks.1
  have hH : I b 0 = nI H := hSt.1.1
  have hMo : I b 1 = nI M := hSt.2.1
  obtain ⟨⟨x0, x1, x2⟩, -, ⟨-, -, hLk⟩, ⟨hQ, hA, hG, hW, hRd, hD, hPg⟩, ⟨p0, p3, p8, p10, p12, p13, p14, p15, p16, p17⟩, ⟨p4, p5, p6, p7⟩, -, -, -⟩ := id hX
  obtain ⟨hg, h40⟩ := fw_gd.mp hw
  refine ct_of 1 (by decide +kernel) (Nat.le_of_ble_eq_true rfl) rfl ?_
  refine r_aload_n dX9_looks_0 rfl ?_
  refine r_iload_n dX9_looks_1 rfl ?_
  refine r_iconst (v := nI 2) dX9_looks_2 (by decide) ?_
  refine r_virtV (m0_What o (nI w) (nI 2) ((by rcases (by omega : w = 0 ∨ w = 1) with r | r <;> rw [r] <;> decide))) lk_X9_162 mc_X9_mustBeWhat dX9_looks_3 x0 (by decide) rfl rfl (Nat.le_of_ble_eq_true rfl) ?_
  refine r_aload_n dX9_looks_6 rfl ?_
  refine r_virt (kc2 := 1) (ks2 := 10240) (k_ready o b s f l hC0 hz0 hw) lk_X9_218 mc_X9_readyToLook dX9_looks_7 x0 (by decide) rfl rfl (Nat.le_of_ble_eq_true rfl) (by decide) (by decide) (fun _ _ _ _ _ _ h => nomatch h.1) ?_
  rintro v1 n1 kd1 I1 J1 P1 ⟨h00, rfl, rfl, hfr, h56, hC1, g0, g1, g10, gJ⟩
  cases h00
  simp only [Option.toList, List.nil_append, List.cons_append]
  obtain ⟨⟨y0, y1, y2⟩, -, -, ⟨hQ1, hA1, hG1, hW1, -, -, -⟩, ⟨-, -, -, r10, r12, r13, r14, -, -, -⟩, ⟨r4, r5, r6, r7⟩, -, -, -⟩ := id hC1.1
  refine r_if_ne (tgt := 16) dX9_looks_10 (by decide) (fun _ => ?_) (fun hz => absurd hz (show ¬ _ from (by decide)))
  refine r_aload_n dX9_looks_16 rfl ?_
  refine r_getR dX9_looks_17 fl_X9_71 rfl (by assumption) (by assumption) ?_
  have hzz : P1 (o + 56) 3 = none ∨ ∃ z, P1 (o + 56) 3 = some z ∧ kd1 z = some (1, 10240) ∧ o + 56 ≠ z := by
    rcases hC1.2.1 with r | ⟨z, z1, z2, z3, z4⟩
    · exact Or.inl r
    · exact Or.inr ⟨z, z1, z2, by omega⟩
  have hck := c_looksK (n := n1) (o + 56) H (fsN H M un cs e) hG1 hzz hn9 (by omega) g0 g1 gJ h40 hH8
  refine r_virt (kc2 := 0) (ks2 := 0) hck lk_X9_222 mc_X3_fewestLooks dX9_looks_20 hG1.1 (by decide) rfl rfl (Nat.le_of_ble_eq_true rfl) (by decide) (by decide) (fun _ _ _ _ _ _ h => nomatch h.1.1) ?_
  rintro v2 n2 kd2 I2 J2 P2 ⟨hfl, hKI⟩
  cases hfl.1
  simp only [Option.toList, List.nil_append, List.cons_append]
  refine r_istore_n dX9_looks_23 (by decide) ?_
  by_cases w0 : w = 0
  · subst w0
    rw [show lkA 0 H (fsN H M un cs e) = nI (lookV H (fsN H M un cs e)) from rfl]
    refine r_iload_n dX9_looks_24 rfl ?_
    refine r_if_ne (tgt := 32) dX9_looks_25 (by decide) (fun hz => absurd (show _ from rfl) hz) (fun _ => ?_)
    refine r_iload_n dX9_looks_28 rfl ?_
    refine r_goto (tgt := 40) dX9_looks_29 (by decide) ?_
    refine r_iret rfl dX9_looks_40 ?_
    exact pK.lk rfl rfl hfr h56 hC1 ho9 hfl.val
  · have ew : w = 1 := by omega
    subst ew
    rw [show lkA 1 H (fsN H M un cs e) = lkF H (fsN H M un cs e) from rfl]
    have hC2 := hC1.lk ho9 hfl
    obtain ⟨⟨t0, -, -⟩, -, -, ⟨-, -, hG2, -, -, -, -⟩, ⟨-, -, -, -, -, t13, -, -, -, -⟩, -, -, -, -⟩ := id hC2.1
    by_cases h2 : 2 ≤ (fsN H M un cs e).length
    · obtain ⟨z, hS2, hK2⟩ := hKI h2
      have hL1 := lookV_1 (H := H) h2
      have hL8 := lookV_8 H (fsN H M un cs e)
      have hfd := c_fd (n := n2) (o + 56) z H _ _ hS2 (by omega) hL1 hL8 hK2
      rw [show lkF H (fsN H M un cs e) = fdF (fun h => decide (1 + wlD H (fsN H M un cs e) h = lookV H (fsN H M un cs e))) H 0 from by unfold lkF; rw [if_neg (by omega)]]
      refine r_iload_n dX9_looks_24 rfl ?_
      refine r_if_ne (tgt := 32) dX9_looks_25 (by decide) (fun _ => ?_) (fun hz => absurd hz (show ¬ _ from (by decide)))
      refine r_aload_n dX9_looks_32 rfl ?_
      refine r_getR dX9_looks_33 fl_X9_71 rfl (by assumption) (by assumption) ?_
      refine r_iload_n dX9_looks_36 rfl ?_
      refine r_virt (kc2 := 0) (ks2 := 0) hfd lk_X9_226 mc_X3_firstDoor dX9_looks_37 hG2.1 (by decide) rfl rfl (Nat.le_of_ble_eq_true rfl) (by decide) (by decide) (fun _ _ _ _ _ _ hx => by obtain ⟨_, hx⟩ := hx; exact nomatch hx.1) ?_
      rintro v3 n3 kd3 I3 J3 P3 ⟨A3, h03, rfl, rfl, rfl, rfl, rfl⟩
      cases h03
      simp only [Option.toList, List.nil_append, List.cons_append]
      refine r_iret rfl dX9_looks_40 ?_
      exact pK.lk rfl rfl hfr h56 hC1 ho9 (hfl.row hS2.2.1)
    · have h0 := lookV_few (H := H) (show (fsN H M un cs e).length < 2 by omega)
      have e0 : I2 (o + 56) 0 = nI H := by
        rw [hfl.2.2.2.1 (o + 56) (by omega) (fun q => by
          rcases hzz with r | ⟨z, z1, z2, z3⟩
          · rw [r] at q; exact nomatch q
          · rw [z1] at q; exact z3 (Option.some.inj q).symm)]
        exact g0
      rw [show lkF H (fsN H M un cs e) = -1 from by unfold lkF; rw [if_pos h0], h0]
      refine r_iload_n dX9_looks_24 rfl ?_
      refine r_if_ne (tgt := 32) dX9_looks_25 (by decide) (fun _ => ?_) (fun hz => absurd hz (show ¬ _ from (by decide)))
      refine r_aload_n dX9_looks_32 rfl ?_
      refine r_getR dX9_looks_33 fl_X9_71 rfl (by assumption) (by assumption) ?_
      refine r_iload_n dX9_looks_36 rfl ?_
      refine r_virtE (c_fd0 (o + 56) H hG2 e0 hH8) lk_X9_226 mc_X3_firstDoor dX9_looks_37 hG2.1 (by decide) rfl rfl (Nat.le_of_ble_eq_true rfl) ?_
      refine r_iret rfl dX9_looks_40 ?_
      exact pK.lk rfl rfl hfr h56 hC1 ho9 hfl.val

