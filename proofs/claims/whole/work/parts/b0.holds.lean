/-! HOLDS, KNOT, LIARS, on any state -/
theorem CR.qf {o b s f l n t : Nat} {kd : mK} {I I' : mI} {J J' : mJ} {P P' : mP} {T : Nat → Nat} {fp : Int32} {rr : Nat → Int32} {H M : Nat} {un : Bool} {cs : Nat → List Nat} {tx : Nat → List Int32} {e : Lf} {im : Option Lf} {wk : Option (List Nat)} {x : Nat} (hx : x = b ∨ x = s) (hf : qFr (o + 48) x I I' J J' P P') (hC : CR o b s f l n kd I J P t T fp rr H M un cs tx e im wk) : CR o b s f l n kd I' J' P' t T fp rr H M un cs tx e im wk := by
  have hat := hC.1.at
  have hX' : kX kd P' o b s f l := hC.1.gen (fun _ _ _ => rfl) (fun a _ _ _ a1 _ _ _ => hf.2.2.1 a a1) (fun k _ _ => by rw [hf.2.2.1 _ (by omega)]) hf.2.2.2 (fun k _ => by rw [hf.2.2.1 _ (by omega)]) (fun k _ => by rw [hf.2.2.1 _ (by omega)]) (fun k _ => by rw [hf.2.2.1 _ (by omega)])
  refine CR.qu (I := I) (J := J) hX' ?_ (hf.1 o (by omega) (by rcases hx with q | q <;> rw [q] <;> omega)) (fun a a1 a2 a3 a4 a5 a6 a7 a8 a9 a10 => hf.1 a (by omega) (by rcases hx with q | q <;> rw [q] <;> omega)) (hf.2.1 _ (by omega)) hC
  have hs := hC.2.1
  unfold scr2 at hs ⊢
  rw [hf.2.2.1 (o + 56) (by omega)]
  exact hs
/-- a question's end -/
theorem pK.qf {o b s f l n t : Nat} {kd : mK} {I I' : mI} {J J' : mJ} {P P' : mP} {T : Nat → Nat} {fp : Int32} {rr : Nat → Int32} {H M : Nat} {un : Bool} {cs : Nat → List Nat} {tx : Nat → List Int32} {e : Lf} {im : Option Lf} {wk : Option (List Nat)} {r : Option Value ⊕ String} {x : Nat} (hx : x = b ∨ x = s) (hf : qFr (o + 48) x I I' J J' P P') (hC : CR o b s f l n kd I J P t T fp rr H M un cs tx e im wk) : pK o n kd I J P r (CX o t T fp rr H M un cs tx e im wk) r n kd I' J' P' := by
  have hat := hC.1.at
  exact ⟨rfl, ⟨Nat.le_refl _, Nat.le_succ _⟩, fun q => by rw [hf.2.2.1 _ (by omega)]; exact q, fun a a1 a2 => ⟨rfl, hf.1 a (by omega) (by rcases hx with q | q <;> rw [q] <;> omega), hf.2.1 a (by omega), hf.2.2.1 a (by omega)⟩, b, s, f, l, hC.qf hx hf⟩
theorem CR.kn {o b s f l n t : Nat} {kd : mK} {I : mI} {J : mJ} {P : mP} {T : Nat → Nat} {fp : Int32} {rr : Nat → Int32} {H M : Nat} {un : Bool} {cs : Nat → List Nat} {tx : Nat → List Int32} {e : Lf} {im : Option Lf} {wk : Option (List Nat)} (hz : okZ t T H M cs e) (hC : CR o b s f l n kd I J P t T fp rr H M un cs tx e im wk) : knH kd I P (o + 47) (o + 48) b f H M e.2.2.2.2.length (lkO cs H) cs un (LtO e.2.2.2.2) (I (f + 1)) (I (f + 2)) := by
  have hat := hC.1.at
  have hA := hC.1.2.2.2.1.2.1
  exact ⟨⟨hA.1, hA.2.2.2.2.1, by omega⟩, hC.1.S, hC.1.L, hA.2.1, by omega, by omega, by omega, z_cl hC.2.2.2.1 hC.2.2.2.2.1 hz.2.1 hz.2.2⟩
def knO (H M : Nat) (un : Bool) (cs : Nat → List Nat) (e : Lf) : Int32 := kn2 (RK un (LtO e.2.2.2.2) e.2.2.2.2.length H M (lkO cs H) (tvO H M cs e)) (spB H cs e) 256 9 0
def klO (H M : Nat) (un : Bool) (cs : Nat → List Nat) (e : Lf) : Int32 := kl2 (RLi un (LtO e.2.2.2.2) e.2.2.2.2.length H M (lkO cs H) (tvO H M cs e) (spB H cs e)) (spB H cs e) 256 9 0
theorem RK_c {I : mI} {f H M : Nat} {un : Bool} {cs : Nat → List Nat} {e : Lf} (hL : cL I f H e) : RK un (LtO e.2.2.2.2) e.2.2.2.2.length H M (lkO cs H) (tvN (I (f + 1)) (I (f + 2)) (nI M) H cs) = RK un (LtO e.2.2.2.2) e.2.2.2.2.length H M (lkO cs H) (tvO H M cs e) := by
  funext s
  unfold RK resK
  rw [zT_c (r := nI s) (w := nI 0) hL]
  rfl
theorem RK_r {I : mI} {m H M : Nat} {un : Bool} {cs : Nat → List Nat} {e : Lf} (hL : rL I m H e) : RK un (I (m + 24)) e.2.2.2.2.length H M (lkO cs H) (tvN (I (m + 1)) (I (m + 2)) (nI M) H cs) = RK un (LtO e.2.2.2.2) e.2.2.2.2.length H M (lkO cs H) (tvO H M cs e) := by
  funext s
  unfold RK resK
  rw [zT_r (r := nI s) (w := nI 0) hL]
  rfl
theorem RL_c {I : mI} {f H M : Nat} {un : Bool} {cs : Nat → List Nat} {e : Lf} {p : Nat} (hL : cL I f H e) : RLi un (LtO e.2.2.2.2) e.2.2.2.2.length H M (lkO cs H) (tvN (I (f + 1)) (I (f + 2)) (nI M) H cs) p = RLi un (LtO e.2.2.2.2) e.2.2.2.2.length H M (lkO cs H) (tvO H M cs e) p := by
  funext s
  unfold RLi resL
  rw [zT_c (r := nI p &&& (nI s ^^^ (-1))) (w := nI 1) hL]
  rfl
theorem RL_r {I : mI} {m H M : Nat} {un : Bool} {cs : Nat → List Nat} {e : Lf} {p : Nat} (hL : rL I m H e) : RLi un (I (m + 24)) e.2.2.2.2.length H M (lkO cs H) (tvN (I (m + 1)) (I (m + 2)) (nI M) H cs) p = RLi un (LtO e.2.2.2.2) e.2.2.2.2.length H M (lkO cs H) (tvO H M cs e) p := by
  funext s
  unfold RLi resL
  rw [zT_r (r := nI p &&& (nI s ^^^ (-1))) (w := nI 1) hL]
  rfl
theorem lb31 : ∀ i, i < 32 → lb 31 i = decide (i < 5) := by decide +kernel
set_option maxHeartbeats 4000000 in
set_option maxRecDepth 100000 in
theorem k_knot (o b s f l : Nat) {t : Nat} {T : Nat → Nat} {fp : Int32} {rr : Nat → Int32} {H M : Nat} {un : Bool} {cs : Nat → List Nat} {tx : Nat → List Int32} {e : Lf} {im : Option Lf} {wk : Option (List Nat)} {n : Nat} {kd : mK} {I : mI} {J : mJ} {P : mP} (hC : CR o b s f l n kd I J P t T fp rr H M un cs tx e im wk) (hz : okZ t T H M cs e) : Ct yX9_knot cX9_knot 1 (some .int) 9 0 0 [.ref o] n kd I J P (pK o n kd I J P (.inl (some (.int (knO H M un cs e)))) (CX o t T fp rr H M un cs tx e im wk)) := by
  have hC0 := hC
  have hz0 := hz
  obtain ⟨hX, hsc, hT, hSt, hLf, hIm, hWk, hQc, hPc⟩ := hC
  obtain ⟨okt, oks, okl⟩ := hz
  have hS := hX.S
  have hL := hX.L
  have hat := hX.at
  have hH8 : H ≤ 8 := oks.2.1
  have hM20 : 2 ≤ M ∧ M ≤ 20 := oks.1
  have hH : I b 0 = nI H := hSt.1.1
  have hMo : I b 1 = nI M := hSt.2.1
  obtain ⟨⟨x0, x1, x2⟩, -, ⟨-, -, hLk⟩, ⟨hQ, hA, hG, hW, hRd, hD, hPg⟩, ⟨p0, p3, p8, p10, p12, p13, p14, p15, p16, p17⟩, ⟨p4, p5, p6, p7⟩, -, -, -⟩ := id hX
  have hc := c_X9_knot (n := n) (J := J) o b f H M e.2.2.2.2.length (spB H cs e) (lkO cs H) cs un (LtO e.2.2.2.2) (I (f + 1)) (I (f + 2)) hH8 hM20.2 (spB_lt hH8) x0 p12 p4 p6 (hC0.kn hz0) (sp_c hSt hLf)
  rw [RK_c hLf, kn_same _ (spB_lt hH8)] at hc
  refine hc.mono ?_
  rintro y n' kd' I' J' P' ⟨h0, rfl, rfl, hf⟩
  rw [h0]
  exact pK.qf (Or.inl rfl) hf hC0

set_option maxHeartbeats 4000000 in
set_option maxRecDepth 100000 in
theorem k_liars (o b s f l : Nat) {t : Nat} {T : Nat → Nat} {fp : Int32} {rr : Nat → Int32} {H M : Nat} {un : Bool} {cs : Nat → List Nat} {tx : Nat → List Int32} {e : Lf} {im : Option Lf} {wk : Option (List Nat)} {n : Nat} {kd : mK} {I : mI} {J : mJ} {P : mP} (hC : CR o b s f l n kd I J P t T fp rr H M un cs tx e im wk) (hz : okZ t T H M cs e) : Ct yX9_liars cX9_liars 1 (some .int) 9 0 0 [.ref o] n kd I J P (pK o n kd I J P (.inl (some (.int (klO H M un cs e)))) (CX o t T fp rr H M un cs tx e im wk)) := by
  have hC0 := hC
  have hz0 := hz
  obtain ⟨hX, hsc, hT, hSt, hLf, hIm, hWk, hQc, hPc⟩ := hC
  obtain ⟨okt, oks, okl⟩ := hz
  have hS := hX.S
  have hL := hX.L
  have hat := hX.at
  have hH8 : H ≤ 8 := oks.2.1
  have hM20 : 2 ≤ M ∧ M ≤ 20 := oks.1
  have hH : I b 0 = nI H := hSt.1.1
  have hMo : I b 1 = nI M := hSt.2.1
  obtain ⟨⟨x0, x1, x2⟩, -, ⟨-, -, hLk⟩, ⟨hQ, hA, hG, hW, hRd, hD, hPg⟩, ⟨p0, p3, p8, p10, p12, p13, p14, p15, p16, p17⟩, ⟨p4, p5, p6, p7⟩, -, -, -⟩ := id hX
  have hc := c_X9_liars (n := n) (J := J) o b f H M e.2.2.2.2.length (spB H cs e) (lkO cs H) cs un (LtO e.2.2.2.2) (I (f + 1)) (I (f + 2)) hH8 hM20.2 (spB_lt hH8) x0 p12 p4 p6 (hC0.kn hz0) (sp_c hSt hLf)
  rw [RL_c hLf, kl_same _ (spB_lt hH8)] at hc
  refine hc.mono ?_
  rintro y n' kd' I' J' P' ⟨h0, rfl, rfl, hf⟩
  rw [h0]
  exact pK.qf (Or.inl rfl) hf hC0

set_option maxHeartbeats 4000000 in
set_option maxRecDepth 100000 in
theorem q_knot (m : Nat) {t : Nat} {T : Nat → Nat} {fp : Int32} {rr : Nat → Int32} {H M : Nat} {un : Bool} {cs : Nat → List Nat} {tx : Nat → List Int32} {e : Lf} {im : Option Lf} {wk : Option (List Nat)} {n : Nat} {kd : mK} {I : mI} {J : mJ} {P : mP} (hC : RR m kd I P t T fp rr H M un cs tx e im wk) (hz : okZ t T H M cs e) : Ct yX10_knot cX10_knot 1 (some .int) 7 0 0 [.ref m] n kd I J P (pQ m n kd I J P (some (.int (knO H M un cs e))) 0 (RX m t T fp rr H M un cs tx e im wk)) := by
  have hC0 := hC
  obtain ⟨hM, hT, hSt, hLf, hIm, hWk⟩ := hC
  obtain ⟨okt, oks, okl⟩ := hz
  have hH8 : H ≤ 8 := oks.2.1
  have hM20 : 2 ≤ M ∧ M ≤ 20 := oks.1
  have hH : I m 1 = nI H := hSt.1.1
  have hMo : I m 2 = nI M := hSt.1.2.1
  have hc := c_X10_knot (n := n) (J := J) m H M e.2.2.2.2.length (lkO cs H) cs un (I (m + 24)) (I (m + 1)) (I (m + 2)) (fun k => !(cs k).isEmpty) (spB H cs e) (z_rf hM hSt hLf oks okl) hH8 hM20.2 (spB_lt hH8) (fun k hk hb => (sp_bit (by omega) hb).2) (sp_r hH8 hSt hLf)
  rw [RK_r hLf] at hc
  refine hc.mono ?_
  rintro y n' kd' I' J' P' ⟨h0, rfl, rfl, rfl, rfl, hf⟩
  refine ⟨h0, rfl, rfl, rfl, fun a ha => ⟨?_, rfl⟩, ?_, hC0.th.rf hf⟩
  · rw [hf.1 a (by omega) (by omega) (by omega) (by omega), am_up_n _ _ (by omega)]
  · rw [hf.2 0 (by decide) (by decide), am_up_s, am_up_s]

set_option maxHeartbeats 4000000 in
set_option maxRecDepth 100000 in
theorem q_liars (m : Nat) {t : Nat} {T : Nat → Nat} {fp : Int32} {rr : Nat → Int32} {H M : Nat} {un : Bool} {cs : Nat → List Nat} {tx : Nat → List Int32} {e : Lf} {im : Option Lf} {wk : Option (List Nat)} {n : Nat} {kd : mK} {I : mI} {J : mJ} {P : mP} (hC : RR m kd I P t T fp rr H M un cs tx e im wk) (hz : okZ t T H M cs e) : Ct yX10_liars cX10_liars 4 (some .int) 6 0 0 [.ref m] n kd I J P (pQ m n kd I J P (some (.int (klO H M un cs e))) 0 (RX m t T fp rr H M un cs tx e im wk)) := by
  have hC0 := hC
  obtain ⟨hM, hT, hSt, hLf, hIm, hWk⟩ := hC
  obtain ⟨okt, oks, okl⟩ := hz
  have hH8 : H ≤ 8 := oks.2.1
  have hM20 : 2 ≤ M ∧ M ≤ 20 := oks.1
  have hH : I m 1 = nI H := hSt.1.1
  have hMo : I m 2 = nI M := hSt.1.2.1
  have hc := c_X10_liars (n := n) (J := J) m H M e.2.2.2.2.length (lkO cs H) cs un (I (m + 24)) (I (m + 1)) (I (m + 2)) (fun k => !(cs k).isEmpty) (spB H cs e) (z_rf hM hSt hLf oks okl) hH8 hM20.2 (spB_lt hH8) (fun k hk hb => (sp_bit (by omega) hb).2) (sp_r hH8 hSt hLf)
  rw [RL_r hLf] at hc
  refine hc.mono ?_
  rintro y n' kd' I' J' P' ⟨h0, rfl, rfl, rfl, rfl, hf⟩
  refine ⟨h0, rfl, rfl, rfl, fun a ha => ⟨?_, rfl⟩, ?_, hC0.th.rf hf⟩
  · rw [hf.1 a (by omega) (by omega) (by omega) (by omega), am_up_n _ _ (by omega)]
  · rw [hf.2 0 (by decide) (by decide), am_up_s, am_up_s]

/-- the number of a house in a row that was given -/
def rwN (y : Int64) (k : Nat) : Nat := (nmI y (nI k)).toBitVec.toNat
theorem rw_lt {y : Int64} {k : Nat} : rwN y k < 32 ∧ nmI y (nI k) = nI (rwN y k) := by
  obtain ⟨j, h1, h2⟩ := pk_andE ((y >>> ((nI 5 * nI k).toInt64 &&& 63)).toInt32) (m := nI 31) 5 (by decide)
  have h3 : nmI y (nI k) = nI j := h2
  have h4 : rwN y k = j := by unfold rwN; rw [h3]; exact pk_tn (by omega)
  rw [h4]
  exact ⟨h1, h3⟩
theorem rw_r (y : Int64) (k : Nat) : ((y >>> ((nI 5 * nI k).toInt64 &&& 63)) &&& 31).toInt32 = nI (rwN y k) := by
  rw [← rw_lt.2]
  unfold nmI
  exact b_ext (fun i hi => by rw [bt_l2i _ hi, lb_and, b_and, bt_l2i _ hi, b_31 i hi, show lb 31 i = decide (i < 5) from lb31 i hi])
/-- a row is one of numbers, for so many houses -/
def rwOk (y : Int64) (M : Nat) : Nat → Bool
  | 0 => true
  | k + 1 => rwOk y M k && (decide (1 ≤ rwN y k) && decide (rwN y k ≤ M))
theorem rwOk_lt {y : Int64} {M : Nat} : ∀ {k j : Nat}, rwOk y M k = true → j < k → 1 ≤ rwN y j ∧ rwN y j ≤ M
  | 0, j, _, hj => by omega
  | k + 1, j, h, hj => by
    have h' : (rwOk y M k && (decide (1 ≤ rwN y k) && decide (rwN y k ≤ M))) = true := h
    rw [Bool.and_eq_true, Bool.and_eq_true, decide_eq_true_eq, decide_eq_true_eq] at h'
    by_cases q : j = k
    · rw [q]; exact h'.2
    · exact rwOk_lt h'.1 (by omega)
theorem rwOk_no {y : Int64} {M : Nat} : ∀ {k : Nat}, rwOk y M k = false → ∃ j, j < k ∧ rwOk y M j = true ∧ ¬ (1 ≤ rwN y j ∧ rwN y j ≤ M)
  | 0, h => by simp [rwOk] at h
  | k + 1, h => by
    by_cases q : rwOk y M k = true
    · refine ⟨k, Nat.lt_succ_self _, q, fun r => ?_⟩
      have h' : (rwOk y M k && (decide (1 ≤ rwN y k) && decide (rwN y k ≤ M))) = false := h
      rw [q, decide_eq_true r.1, decide_eq_true r.2] at h'
      exact absurd h' (by decide)
    · obtain ⟨j, a, b⟩ := rwOk_no (k := k) (by cases hx : rwOk y M k; rfl; exact absurd hx q)
      exact ⟨j, by omega, b⟩
def hoA (H M : Nat) (cs : Nat → List Nat) (e : Lf) (y : Int64) (h : Nat) : Int32 := if cs h = [] then -1 else bz (tvO H M cs e (rwN y) h)
theorem dX6_giveRow_0 : decode cX6_giveRow 0 = .ok (.iconst 0, 1) := by decide +kernel
theorem dX6_giveRow_1 : decode cX6_giveRow 1 = .ok (.istore 4, 2) := by decide +kernel
theorem dX6_giveRow_3 : decode cX6_giveRow 3 = .ok (.iload 4, 2) := by decide +kernel
theorem dX6_giveRow_5 : decode cX6_giveRow 5 = .ok (.aload_n 1, 1) := by decide +kernel
theorem dX6_giveRow_6 : decode cX6_giveRow 6 = .ok (.getfield 55, 3) := by decide +kernel
theorem dX6_giveRow_9 : decode cX6_giveRow 9 = .ok (.if_icmp .ge 47, 3) := by decide +kernel
theorem dX6_giveRow_12 : decode cX6_giveRow 12 = .ok (.lload_n 2, 1) := by decide +kernel
theorem dX6_giveRow_13 : decode cX6_giveRow 13 = .ok (.iconst 5, 1) := by decide +kernel
theorem dX6_giveRow_14 : decode cX6_giveRow 14 = .ok (.iload 4, 2) := by decide +kernel
theorem dX6_giveRow_16 : decode cX6_giveRow 16 = .ok (.imul, 1) := by decide +kernel
theorem dX6_giveRow_17 : decode cX6_giveRow 17 = .ok (.lshr, 1) := by decide +kernel
theorem dX6_giveRow_18 : decode cX6_giveRow 18 = .ok (.l2i, 1) := by decide +kernel
theorem dX6_giveRow_19 : decode cX6_giveRow 19 = .ok (.bipush 31, 2) := by decide +kernel
theorem dX6_giveRow_21 : decode cX6_giveRow 21 = .ok (.iand, 1) := by decide +kernel
theorem dX6_giveRow_22 : decode cX6_giveRow 22 = .ok (.istore 5, 2) := by decide +kernel
theorem dX6_giveRow_24 : decode cX6_giveRow 24 = .ok (.iload 5, 2) := by decide +kernel
theorem dX6_giveRow_26 : decode cX6_giveRow 26 = .ok (.iconst 1, 1) := by decide +kernel
theorem dX6_giveRow_27 : decode cX6_giveRow 27 = .ok (.if_icmp .lt 12, 3) := by decide +kernel
theorem dX6_giveRow_30 : decode cX6_giveRow 30 = .ok (.iload 5, 2) := by decide +kernel
theorem dX6_giveRow_32 : decode cX6_giveRow 32 = .ok (.aload_n 1, 1) := by decide +kernel
theorem dX6_giveRow_33 : decode cX6_giveRow 33 = .ok (.getfield 76, 3) := by decide +kernel
theorem dX6_giveRow_36 : decode cX6_giveRow 36 = .ok (.if_icmp .le 5, 3) := by decide +kernel
theorem dX6_giveRow_39 : decode cX6_giveRow 39 = .ok (.iconst 0, 1) := by decide +kernel
theorem dX6_giveRow_40 : decode cX6_giveRow 40 = .ok (.ireturn, 1) := by decide +kernel
theorem dX6_giveRow_41 : decode cX6_giveRow 41 = .ok (.aload_n 0, 1) := by decide +kernel
theorem dX6_giveRow_42 : decode cX6_giveRow 42 = .ok (.getfield 33, 3) := by decide +kernel
theorem dX6_giveRow_45 : decode cX6_giveRow 45 = .ok (.iload 4, 2) := by decide +kernel
theorem dX6_giveRow_47 : decode cX6_giveRow 47 = .ok (.iload 5, 2) := by decide +kernel
theorem dX6_giveRow_49 : decode cX6_giveRow 49 = .ok (.iastore, 1) := by decide +kernel
theorem dX6_giveRow_50 : decode cX6_giveRow 50 = .ok (.iinc 4 1, 3) := by decide +kernel
theorem dX6_giveRow_53 : decode cX6_giveRow 53 = .ok (.goto (-50), 3) := by decide +kernel
theorem dX6_giveRow_56 : decode cX6_giveRow 56 = .ok (.iconst 1, 1) := by decide +kernel
theorem dX6_giveRow_57 : decode cX6_giveRow 57 = .ok (.ireturn, 1) := by decide +kernel

/-- numbers given up to a house -/
def gvR (y : Int64) (R : Nat → Int32) (k : Nat) : Nat → Int32 := fun j => if j < k then nI (rwN y j) else R j
theorem gvR_s (y : Int64) (R : Nat → Int32) (k : Nat) : va_up (gvR y R k) k (nI (rwN y k)) = gvR y R (k + 1) := by
  funext j
  by_cases q : j = k
  · rw [q, am_up_s]; unfold gvR; rw [if_pos (by omega)]
  · rw [am_up_n _ _ q]; unfold gvR
    by_cases r : j < k
    · rw [if_pos r, if_pos (by omega)]
    · rw [if_neg r, if_neg (by omega)]
theorem gvR_0 (y : Int64) (R : Nat → Int32) : gvR y R 0 = R := by funext j; unfold gvR; rw [if_neg (by omega)]
set_option maxHeartbeats 4000000 in
set_option maxRecDepth 100000 in
theorem w_giveRow (q b H M : Nat) (y : Int64) {n : Nat} {kd : mK} {I : mI} {J : mJ} {P : mP} (hQ : kQ kd P q) (hb : kd b = some (0, 7)) (hbq : b < q) (hH : I b 0 = nI H) (hMo : I b 1 = nI M) (hH8 : H ≤ 8) (hM20 : M ≤ 20) (hr : rwOk y M H = true) : ∀ (c k : Nat) (z5 : Option Value), k + c = H → Ru yX6_giveRow.cls cX6_giveRow 6 (some .boolean) yX6_giveRow.name 1 (am_is (some (.int (nI 1))) n kd (va_up I (q + 3) (gvR y (I (q + 3)) H)) J P) 0 0 3 [some (.ref q), some (.ref b), some (.long y), none, some (.int (nI k)), z5] [] n kd (va_up I (q + 3) (gvR y (I (q + 3)) k)) J P
  | 0, k, z5, hc => by
    rw [show k = H by omega]
    refine r_iload dX6_giveRow_3 rfl ?_
    refine r_aload_n dX6_giveRow_5 rfl ?_
    refine r_getI dX6_giveRow_6 fl_X6_55 rfl hb ?_
    rw [am_up_n _ _ (show b ≠ q + 3 by omega), hH]
    refine r_icmp_ge (tgt := 56) dX6_giveRow_9 (by decide) (fun _ => ?_) (fun hz => absurd (show _ from (by rw [nI_leI (by omega) (by omega)]; omega)) hz)
    refine r_iconst (v := nI 1) dX6_giveRow_56 (by decide) ?_
    refine r_zret rfl dX6_giveRow_57 (by first | exact Or.inl rfl | exact Or.inr rfl | assumption) ?_
    exact am_is.mk
  | c + 1, k, z5, hc => by
    have g := rwOk_lt hr (show k < H by omega)
    refine r_iload dX6_giveRow_3 rfl ?_
    refine r_aload_n dX6_giveRow_5 rfl ?_
    refine r_getI dX6_giveRow_6 fl_X6_55 rfl hb ?_
    rw [am_up_n _ _ (show b ≠ q + 3 by omega), hH]
    refine r_icmp_ge (tgt := 56) dX6_giveRow_9 (by decide) (fun hz => absurd hz (show ¬ _ from (by rw [nI_leI (by omega) (by omega)]; omega))) (fun _ => ?_)
    refine r_lload_n dX6_giveRow_12 rfl ?_
    refine r_iconst (v := nI 5) dX6_giveRow_13 (by decide) ?_
    refine r_iload dX6_giveRow_14 rfl ?_
    refine r_imul dX6_giveRow_16 ?_
    refine r_lshr dX6_giveRow_17 ?_
    refine r_l2i dX6_giveRow_18 ?_
    refine r_bipush (v := nI 31) dX6_giveRow_19 (by decide) ?_
    refine r_iand dX6_giveRow_21 ?_
    rw [show (y >>> ((nI 5 * nI k).toInt64 &&& 63)).toInt32 &&& nI 31 = nI (rwN y k) from rw_lt.2]
    refine r_istore dX6_giveRow_22 (by decide) ?_
    refine r_iload dX6_giveRow_24 rfl ?_
    refine r_iconst (v := nI 1) dX6_giveRow_26 (by decide) ?_
    refine r_icmp_lt (tgt := 39) dX6_giveRow_27 (by decide) (fun hz => absurd hz (show ¬ _ from (by rw [nI_ltI (by omega) (by omega)]; omega))) (fun _ => ?_)
    refine r_iload dX6_giveRow_30 rfl ?_
    refine r_aload_n dX6_giveRow_32 rfl ?_
    refine r_getI dX6_giveRow_33 fl_X6_76 rfl hb ?_
    rw [am_up_n _ _ (show b ≠ q + 3 by omega), hMo]
    refine r_icmp_le (tgt := 41) dX6_giveRow_36 (by decide) (fun _ => ?_) (fun hz => absurd (show _ from (by rw [nI_leI (by omega) (by omega)]; omega)) hz)
    refine r_aload_n dX6_giveRow_41 rfl ?_
    refine r_getR dX6_giveRow_42 fl_X6_33 rfl hQ.1 hQ.2.2.2.2.2.2.2.2.1 ?_
    refine r_iload dX6_giveRow_45 rfl ?_
    refine r_iload dX6_giveRow_47 rfl ?_
    refine r_iast dX6_giveRow_49 hQ.2.2.2.1 (nI_in8 8 (by omega) (by decide)) (nI_clamp (by omega)) ?_
    rw [am_up_s, am_up_up, gvR_s]
    refine r_iinc (v := nI (k + 1)) dX6_giveRow_50 rfl (nI_inc k) ?_
    refine r_goto (tgt := 3) dX6_giveRow_53 (by decide) ?_
    exact w_giveRow q b H M y hQ hb hbq hH hMo hH8 hM20 hr c (k + 1) _ (by omega)

set_option maxHeartbeats 4000000 in
set_option maxRecDepth 100000 in
theorem w_giveRow_no (q b H M k0 : Nat) (y : Int64) {n : Nat} {kd : mK} {I : mI} {J : mJ} {P : mP} (hQ : kQ kd P q) (hb : kd b = some (0, 7)) (hbq : b < q) (hH : I b 0 = nI H) (hMo : I b 1 = nI M) (hH8 : H ≤ 8) (hM20 : M ≤ 20) (hk0 : k0 < H) (hr : rwOk y M k0 = true) (hn : ¬ (1 ≤ rwN y k0 ∧ rwN y k0 ≤ M)) : ∀ (c k : Nat) (z5 : Option Value), k + c = k0 → Ru yX6_giveRow.cls cX6_giveRow 6 (some .boolean) yX6_giveRow.name 1 (am_is (some (.int (nI 0))) n kd (va_up I (q + 3) (gvR y (I (q + 3)) k0)) J P) 0 0 3 [some (.ref q), some (.ref b), some (.long y), none, some (.int (nI k)), z5] [] n kd (va_up I (q + 3) (gvR y (I (q + 3)) k)) J P
  | 0, k, z5, hc => by
    rw [show k = k0 by omega]
    have g2 := (rw_lt (y := y) (k := k0)).1
    by_cases c1 : rwN y k0 < 1
    · skip
      refine r_iload dX6_giveRow_3 rfl ?_
      refine r_aload_n dX6_giveRow_5 rfl ?_
      refine r_getI dX6_giveRow_6 fl_X6_55 rfl hb ?_
      rw [am_up_n _ _ (show b ≠ q + 3 by omega), hH]
      refine r_icmp_ge (tgt := 56) dX6_giveRow_9 (by decide) (fun hz => absurd hz (show ¬ _ from (by rw [nI_leI (by omega) (by omega)]; omega))) (fun _ => ?_)
      refine r_lload_n dX6_giveRow_12 rfl ?_
      refine r_iconst (v := nI 5) dX6_giveRow_13 (by decide) ?_
      refine r_iload dX6_giveRow_14 rfl ?_
      refine r_imul dX6_giveRow_16 ?_
      refine r_lshr dX6_giveRow_17 ?_
      refine r_l2i dX6_giveRow_18 ?_
      refine r_bipush (v := nI 31) dX6_giveRow_19 (by decide) ?_
      refine r_iand dX6_giveRow_21 ?_
      rw [show (y >>> ((nI 5 * nI k0).toInt64 &&& 63)).toInt32 &&& nI 31 = nI (rwN y k0) from rw_lt.2]
      refine r_istore dX6_giveRow_22 (by decide) ?_
      refine r_iload dX6_giveRow_24 rfl ?_
      refine r_iconst (v := nI 1) dX6_giveRow_26 (by decide) ?_
      refine r_icmp_lt (tgt := 39) dX6_giveRow_27 (by decide) (fun _ => ?_) (fun hz => absurd (show _ from (by rw [nI_ltI (by omega) (by omega)]; omega)) hz)
      refine r_iconst (v := nI 0) dX6_giveRow_39 (by decide) ?_
      refine r_zret rfl dX6_giveRow_40 (by first | exact Or.inl rfl | exact Or.inr rfl | assumption) ?_
      exact am_is.mk
    · skip
      refine r_iload dX6_giveRow_3 rfl ?_
      refine r_aload_n dX6_giveRow_5 rfl ?_
      refine r_getI dX6_giveRow_6 fl_X6_55 rfl hb ?_
      rw [am_up_n _ _ (show b ≠ q + 3 by omega), hH]
      refine r_icmp_ge (tgt := 56) dX6_giveRow_9 (by decide) (fun hz => absurd hz (show ¬ _ from (by rw [nI_leI (by omega) (by omega)]; omega))) (fun _ => ?_)
      refine r_lload_n dX6_giveRow_12 rfl ?_
      refine r_iconst (v := nI 5) dX6_giveRow_13 (by decide) ?_
      refine r_iload dX6_giveRow_14 rfl ?_
      refine r_imul dX6_giveRow_16 ?_
      refine r_lshr dX6_giveRow_17 ?_
      refine r_l2i dX6_giveRow_18 ?_
      refine r_bipush (v := nI 31) dX6_giveRow_19 (by decide) ?_
      refine r_iand dX6_giveRow_21 ?_
      rw [show (y >>> ((nI 5 * nI k0).toInt64 &&& 63)).toInt32 &&& nI 31 = nI (rwN y k0) from rw_lt.2]
      refine r_istore dX6_giveRow_22 (by decide) ?_
      refine r_iload dX6_giveRow_24 rfl ?_
      refine r_iconst (v := nI 1) dX6_giveRow_26 (by decide) ?_
      refine r_icmp_lt (tgt := 39) dX6_giveRow_27 (by decide) (fun hz => absurd hz (show ¬ _ from (by rw [nI_ltI (by omega) (by omega)]; omega))) (fun _ => ?_)
      refine r_iload dX6_giveRow_30 rfl ?_
      refine r_aload_n dX6_giveRow_32 rfl ?_
      refine r_getI dX6_giveRow_33 fl_X6_76 rfl hb ?_
      rw [am_up_n _ _ (show b ≠ q + 3 by omega), hMo]
      refine r_icmp_le (tgt := 41) dX6_giveRow_36 (by decide) (fun hz => absurd hz (show ¬ _ from (by rw [nI_leI (by omega) (by omega)]; omega))) (fun _ => ?_)
      refine r_iconst (v := nI 0) dX6_giveRow_39 (by decide) ?_
      refine r_zret rfl dX6_giveRow_40 (by first | exact Or.inl rfl | exact Or.inr rfl | assumption) ?_
      exact am_is.mk
  | c + 1, k, z5, hc => by
    have g := rwOk_lt hr (show k < k0 by omega)
    refine r_iload dX6_giveRow_3 rfl ?_
    refine r_aload_n dX6_giveRow_5 rfl ?_
    refine r_getI dX6_giveRow_6 fl_X6_55 rfl hb ?_
    rw [am_up_n _ _ (show b ≠ q + 3 by omega), hH]
    refine r_icmp_ge (tgt := 56) dX6_giveRow_9 (by decide) (fun hz => absurd hz (show ¬ _ from (by rw [nI_leI (by omega) (by omega)]; omega))) (fun _ => ?_)
    refine r_lload_n dX6_giveRow_12 rfl ?_
    refine r_iconst (v := nI 5) dX6_giveRow_13 (by decide) ?_
    refine r_iload dX6_giveRow_14 rfl ?_
    refine r_imul dX6_giveRow_16 ?_
    refine r_lshr dX6_giveRow_17 ?_
    refine r_l2i dX6_giveRow_18 ?_
    refine r_bipush (v := nI 31) dX6_giveRow_19 (by decide) ?_
    refine r_iand dX6_giveRow_21 ?_
    rw [show (y >>> ((nI 5 * nI k).toInt64 &&& 63)).toInt32 &&& nI 31 = nI (rwN y k) from rw_lt.2]
    refine r_istore dX6_giveRow_22 (by decide) ?_
    refine r_iload dX6_giveRow_24 rfl ?_
    refine r_iconst (v := nI 1) dX6_giveRow_26 (by decide) ?_
    refine r_icmp_lt (tgt := 39) dX6_giveRow_27 (by decide) (fun hz => absurd hz (show ¬ _ from (by rw [nI_ltI (by omega) (by omega)]; omega))) (fun _ => ?_)
    refine r_iload dX6_giveRow_30 rfl ?_
    refine r_aload_n dX6_giveRow_32 rfl ?_
    refine r_getI dX6_giveRow_33 fl_X6_76 rfl hb ?_
    rw [am_up_n _ _ (show b ≠ q + 3 by omega), hMo]
    refine r_icmp_le (tgt := 41) dX6_giveRow_36 (by decide) (fun _ => ?_) (fun hz => absurd (show _ from (by rw [nI_leI (by omega) (by omega)]; omega)) hz)
    refine r_aload_n dX6_giveRow_41 rfl ?_
    refine r_getR dX6_giveRow_42 fl_X6_33 rfl hQ.1 hQ.2.2.2.2.2.2.2.2.1 ?_
    refine r_iload dX6_giveRow_45 rfl ?_
    refine r_iload dX6_giveRow_47 rfl ?_
    refine r_iast dX6_giveRow_49 hQ.2.2.2.1 (nI_in8 8 (by omega) (by decide)) (nI_clamp (by omega)) ?_
    rw [am_up_s, am_up_up, gvR_s]
    refine r_iinc (v := nI (k + 1)) dX6_giveRow_50 rfl (nI_inc k) ?_
    refine r_goto (tgt := 3) dX6_giveRow_53 (by decide) ?_
    exact w_giveRow_no q b H M k0 y hQ hb hbq hH hMo hH8 hM20 hk0 hr hn c (k + 1) _ (by omega)

set_option maxHeartbeats 4000000 in
set_option maxRecDepth 100000 in
theorem c_giveRow (q b H M : Nat) (y : Int64) {n : Nat} {kd : mK} {I : mI} {J : mJ} {P : mP} (hQ : kQ kd P q) (hb : kd b = some (0, 7)) (hbq : b < q) (hH : I b 0 = nI H) (hMo : I b 1 = nI M) (hH8 : H ≤ 8) (hM20 : M ≤ 20) (hr : rwOk y M H = true) : Ct yX6_giveRow cX6_giveRow 6 (some .boolean) 1 0 0 [.ref q, .ref b, .long y] n kd I J P (am_is (some (.int (nI 1))) n kd (va_up I (q + 3) (gvR y (I (q + 3)) H)) J P) := by
  refine ct_of 2 (by decide +kernel) (Nat.le_of_ble_eq_true rfl) rfl ?_
  refine r_iconst (v := nI 0) dX6_giveRow_0 (by decide) ?_
  refine r_istore dX6_giveRow_1 (by decide) ?_
  have hx := w_giveRow (n := n) (J := J) q b H M y hQ hb hbq hH hMo hH8 hM20 hr H 0 none (by omega)
  rw [gvR_0, am_up_id] at hx
  exact hx

set_option maxHeartbeats 4000000 in
set_option maxRecDepth 100000 in
theorem c_giveRow_no (q b H M k0 : Nat) (y : Int64) {n : Nat} {kd : mK} {I : mI} {J : mJ} {P : mP} (hQ : kQ kd P q) (hb : kd b = some (0, 7)) (hbq : b < q) (hH : I b 0 = nI H) (hMo : I b 1 = nI M) (hH8 : H ≤ 8) (hM20 : M ≤ 20) (hk0 : k0 < H) (hr : rwOk y M k0 = true) (hn : ¬ (1 ≤ rwN y k0 ∧ rwN y k0 ≤ M)) : Ct yX6_giveRow cX6_giveRow 6 (some .boolean) 1 0 0 [.ref q, .ref b, .long y] n kd I J P (am_is (some (.int (nI 0))) n kd (va_up I (q + 3) (gvR y (I (q + 3)) k0)) J P) := by
  refine ct_of 2 (by decide +kernel) (Nat.le_of_ble_eq_true rfl) rfl ?_
  refine r_iconst (v := nI 0) dX6_giveRow_0 (by decide) ?_
  refine r_istore dX6_giveRow_1 (by decide) ?_
  have hx := w_giveRow_no (n := n) (J := J) q b H M k0 y hQ hb hbq hH hMo hH8 hM20 hk0 hr hn k0 0 none (by omega)
  rw [gvR_0, am_up_id] at hx
  exact hx

