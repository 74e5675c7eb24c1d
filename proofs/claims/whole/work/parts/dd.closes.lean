/-! STREET: the reference's drops and closes, and what they leave -/
theorem eG.drop {m h : Nat} {T : RT} {a0 : Nat} {C0 : Nat → Int32} {sl L : Nat} {I I1 : mI} {J : mJ} {i t2 top : Nat} {out w : List Nat} {te : Nat → Bool} (hf : dFr m I I1) (hC : eC m a0 C0 I1 (out ++ (drpW L w).1) t2) (hl : t2 + (drpW L w).2.length = top + w.length) (hb : top + w.length + 4 ≤ 2 * i + sl) (hW1 : eW m I1 (drpW L w).2) (hg : eG m h T a0 C0 sl I J i out w te) : eG m h T a0 C0 sl I1 J i (out ++ (drpW L w).1) (drpW L w).2 te := by
  obtain ⟨⟨h16, h27, hgi⟩, ⟨hk, hi⟩, -, h29, hW, hwi, hD⟩ := hg
  have hlen := drpW_len L w
  refine ⟨⟨(hf.2 _ (by decide) (by decide)).trans h16, (hf.2 _ (by decide) (by decide)).trans h27, hgi.cg (hf.2 _ (by decide) (by decide)) (hf.1 _ (by omega) (by omega))⟩, ⟨hk.cg (fun j h1 h2 => hf.2 j (by omega) (by omega)) rfl, hi⟩, ⟨t2, hC, by omega⟩, ?_, hW1, by omega, ?_⟩
  · rw [lkm_ops _ _ (opOK_op hW.2.2)]
    exact (hf.2 _ (by decide) (by decide)).trans h29
  · rw [(drpW_op L w).1]
    exact hD.cg (hf.2 _ (by decide) (by decide)) (hf.1 _ (by omega) (by omega))
theorem c_dropsG (m h L i : Nat) {T : RT} {a0 : Nat} {C0 : Nat → Int32} {out w : List Nat} {te : Nat → Bool} {n : Nat} {kd : mK} {I : mI} {J : mJ} {P : mP} (hM : kM kd P m) (hT : tkA T) (hL : L ≤ 6) (hg : eG m h T a0 C0 0 I J i out w te) : Ct yX10_drops cX10_drops 2 none 3 0 0 [.ref m, .int (nI L)] n kd I J P (fun z n' kd' I' J' P' => z = .inl none ∧ n' = n ∧ kd' = kd ∧ J' = J ∧ P' = P ∧ dFr m I I' ∧ eG m h T a0 C0 0 I' J i (out ++ (drpW L w).1) (drpW L w).2 te) := by
  have hg0 := hg
  obtain ⟨⟨h16, h27, hgi⟩, ⟨hk, hi⟩, ⟨top, hC, hb⟩, h29, hW, hwi, hD⟩ := hg
  have h501 := hT.1.1.1
  refine Ct.mono (c_drops m L a0 C0 out w top hM hL hC hW (by omega) (by omega)) ?_
  rintro z n' kd' I' J' P' ⟨g1, g2, g3, g4, g5, g6, t2, g7, g8, g9⟩
  exact ⟨g1, g2, g3, g4, g5, g6, eG.drop g6 g7 g8 hb g9 hg0⟩
def teI (m d : Nat) (b : Bool) (I : mI) : mI := va_up I (m + 22) (va_up (I (m + 22)) d (bz b))
theorem teI_m {m d : Nat} {b : Bool} {I : mI} : teI m d b I m = I m := by unfold teI; rw [am_up_n _ _ (by omega)]
theorem teI_a {m d a : Nat} {b : Bool} {I : mI} (h : a ≠ m + 22) : teI m d b I a = I a := by unfold teI; rw [am_up_n _ _ h]
theorem eFr.te {m d : Nat} {b : Bool} {I : mI} {J : mJ} : eFr m I (teI m d b I) J J := ⟨fun a h1 h2 h3 h4 => teI_a h4, fun j h1 h2 h3 h4 => by rw [teI_m], fun _ _ => rfl, fun _ _ => rfl, kP.same (by rw [teI_m]) (by rw [teI_m])⟩
/-- an act more waits, tested is set, and the token behind -/
theorem eG.pushT {m h : Nat} {T : RT} {a0 : Nat} {C0 : Nat → Int32} {I I8 : mI} {J J8 : mJ} {i x : Nat} {b : Bool} {out w : List Nat} {te : Nat → Bool} (hx : 20003 ≤ x ∧ x < 20012) (hf : gFr m (teI m (opens w + 1) b (waI m w.length (opI x) I)) I8 J J8) (hk : gTk m T.2.2.2.2.2 I8 J8 (tkAt T (i + 1))) (hi : i + 1 < T.2.1) (hg : eG m h T a0 C0 0 I J i out w te) : eG m h T a0 C0 0 I8 J8 (i + 1) out (x :: w) (upT te (opens w + 1) b) := by
  obtain ⟨⟨h16, h27, hgi⟩, -, ⟨top, hC, hb⟩, h29, hW, hwi, hD⟩ := hg
  have e : ∀ j, (j < 20 ∨ 25 < j) → j ≠ 31 → I8 m j = I m j := fun j h1 h2 => (hf.2.1 j h1).trans (by rw [teI_m]; exact waI_o h2)
  have ea : ∀ a, a ≠ m → a ≠ m + 21 → a ≠ m + 22 → I8 a = I a := fun a h1 h2 h3 => (hf.1 a h1).trans ((teI_a h3).trans (waI_a h1 h2))
  refine ⟨⟨(e _ (by decide) (by decide)).trans h16, (e _ (by decide) (by decide)).trans h27, hgi.cg (e _ (by decide) (by decide)) (ea _ (by omega) (by omega) (by omega))⟩, ⟨hk, hi⟩, ⟨top, hC.cg (e _ (by decide) (by decide)) (ea _ (by omega) (by omega) (by omega)), by simp only [List.length_cons]; omega⟩, (e _ (by decide) (by decide)).trans h29, (hW.push (Or.inr hx)).cg ((hf.2.1 _ (by decide)).trans (by rw [teI_m])) ((hf.1 _ (by omega)).trans (teI_a (by omega))), by simp only [List.length_cons]; omega, ?_⟩
  rw [opens_cons (by omega)]
  obtain ⟨d1, d2, d3⟩ := hD
  refine ⟨(e _ (by decide) (by decide)).trans d1, d2, fun d hd1 hd => ?_⟩
  rw [hf.1 _ (by omega)]
  unfold teI upT
  rw [am_up_s]
  by_cases q : d = opens w + 1
  · rw [q, am_up_s, if_pos rfl]
  · rw [am_up_n _ _ q, if_neg q, waI_a (by omega) (by omega)]; exact d3 d hd1 hd
theorem dX10_closes_0 : decode cX10_closes 0 = .ok (.aload_n 0, 1) := by decide +kernel
theorem dX10_closes_1 : decode cX10_closes 1 = .ok (.iconst 0, 1) := by decide +kernel
theorem dX10_closes_2 : decode cX10_closes 2 = .ok (.invokevirtual 304, 3) := by decide +kernel
theorem dX10_closes_5 : decode cX10_closes 5 = .ok (.aload_n 0, 1) := by decide +kernel
theorem dX10_closes_6 : decode cX10_closes 6 = .ok (.dup, 1) := by decide +kernel
theorem dX10_closes_7 : decode cX10_closes 7 = .ok (.getfield 278, 3) := by decide +kernel
theorem dX10_closes_10 : decode cX10_closes 10 = .ok (.iconst 1, 1) := by decide +kernel
theorem dX10_closes_11 : decode cX10_closes 11 = .ok (.isub, 1) := by decide +kernel
theorem dX10_closes_12 : decode cX10_closes 12 = .ok (.putfield 278, 3) := by decide +kernel
theorem dX10_closes_15 : decode cX10_closes 15 = .ok (.aload_n 0, 1) := by decide +kernel
theorem dX10_closes_16 : decode cX10_closes 16 = .ok (.dup, 1) := by decide +kernel
theorem dX10_closes_17 : decode cX10_closes 17 = .ok (.getfield 290, 3) := by decide +kernel
theorem dX10_closes_20 : decode cX10_closes 20 = .ok (.iconst 1, 1) := by decide +kernel
theorem dX10_closes_21 : decode cX10_closes 21 = .ok (.isub, 1) := by decide +kernel
theorem dX10_closes_22 : decode cX10_closes 22 = .ok (.putfield 290, 3) := by decide +kernel
theorem dX10_closes_25 : decode cX10_closes 25 = .ok (.aload_n 0, 1) := by decide +kernel
theorem dX10_closes_26 : decode cX10_closes 26 = .ok (.invokevirtual 256, 3) := by decide +kernel
theorem dX10_closes_29 : decode cX10_closes 29 = .ok (.return_, 1) := by decide +kernel

set_option maxHeartbeats 4000000 in
set_option maxRecDepth 100000 in
theorem c_closesG {m h : Nat} {T : RT} {a0 : Nat} {C0 : Nat → Int32} {i : Nat} {out w : List Nat} {te : Nat → Bool} {n : Nat} {kd : mK} {I : mI} {J : mJ} {P : mP} (hM : kM kd P m) (hT : tkA T) (hi2 : i + 1 < T.2.1) (ho : 0 < opens w) (hg : eG m h T a0 C0 0 I J i out w te) : Ct yX10_closes cX10_closes 1 none 4 0 0 [.ref m] n kd I J P (fun z n' kd' I' J' P' => z = .inl none ∧ n' = n ∧ kd' = kd ∧ P' = P ∧ eFr m I I' J J' ∧ eG m h T a0 C0 0 I' J' (i + 1) (out ++ (drpW 0 w).1) (drpW 0 w).2.tail te) := by
  obtain ⟨t, ht, hot⟩ := drp0 w ho
  refine ct_of 0 (by decide +kernel) (Nat.le_of_ble_eq_true rfl) rfl ?_
  refine r_aload_n dX10_closes_0 rfl ?_
  refine r_iconst (v := nI 0) dX10_closes_1 (by decide) ?_
  refine r_virt (kc2 := 0) (ks2 := 0) (c_dropsG m h 0 i hM hT (by decide) hg) lk_X10_304 mc_X10_drops dX10_closes_2 (kM_0 hM) (by decide) rfl rfl (Nat.le_of_ble_eq_true rfl) (by decide) (by decide) (fun _ _ _ _ _ _ h => nomatch h.1) ?_
  rintro v1 n1 kd1 I1 J1 P1 ⟨h00, rfl, rfl, rfl, rfl, hf1, hg1⟩
  cases h00
  simp only [Option.toList, List.nil_append]
  rw [ht] at hg1 ⊢
  obtain ⟨⟨h16, h27, hgi⟩, ⟨hk, hi⟩, ⟨top, hC, hb⟩, h29, hW, hwi, hD⟩ := hg1
  simp only [List.length_cons] at hb hwi
  have h501 := hT.1.1.1
  refine r_aload_n dX10_closes_5 rfl ?_
  refine r_dup dX10_closes_6 rfl ?_
  refine r_getI dX10_closes_7 fl_X10_278 rfl (kM_0 hM) ?_
  rw [hW.1]
  refine r_iconst (v := nI 1) dX10_closes_10 (by decide) ?_
  refine r_isub dX10_closes_11 ?_
  rw [show nI (0 :: t).length - nI 1 = nI t.length from nI_s1 _]
  refine r_putI dX10_closes_12 fl_X10_278 rfl rfl (kM_0 hM) ?_
  refine r_aload_n dX10_closes_15 rfl ?_
  refine r_dup dX10_closes_16 rfl ?_
  refine r_getI dX10_closes_17 fl_X10_290 rfl (kM_0 hM) ?_
  rw [am_up_s, am_up_n _ _ (by decide), hD.1]
  refine r_iconst (v := nI 1) dX10_closes_20 (by decide) ?_
  refine r_isub dX10_closes_21 ?_
  rw [show nI (opens (0 :: t) + 1) - nI 1 = nI (opens t + 1) from by rw [nI_s1]; show nI (1 + opens t) = _; rw [Nat.add_comm]]
  refine r_putI dX10_closes_22 fl_X10_290 rfl rfl (kM_0 hM) ?_
  rw [am_up_s, am_up_up]
  obtain ⟨I2, hI2⟩ : ∃ X : mI, X = va_up I1 m (va_up (va_up (I1 m) 31 (nI t.length)) 32 (nI (opens t + 1))) := ⟨_, rfl⟩
  rw [← hI2]
  have e : ∀ j, j ≠ 31 → j ≠ 32 → I2 m j = I1 m j := fun j h1 h2 => by rw [hI2, am_up_s, am_up_n _ _ h2, am_up_n _ _ h1]
  have ea : ∀ a, a ≠ m → I2 a = I1 a := fun a h1 => by rw [hI2, am_up_n _ _ h1]
  have e31 : I2 m 31 = nI t.length := by rw [hI2, am_up_s, am_up_n _ _ (by decide), am_up_s]
  have e32 : I2 m 32 = nI (opens t + 1) := by rw [hI2, am_up_s, am_up_s]
  have hfr2 : eFr m I1 I2 J1 J1 := ⟨fun a h1 _ _ _ => ea a h1, fun j _ _ _ h4 => e j (by omega) (by omega), fun _ _ => rfl, fun _ _ => rfl, kP.same (e _ (by decide) (by decide)) (e _ (by decide) (by decide))⟩
  clear hI2
  have hg2 : eG m h T a0 C0 0 I2 J1 i (out ++ (drpW 0 w).1) t te := ⟨⟨(e _ (by decide) (by decide)).trans h16, (e _ (by decide) (by decide)).trans h27, hgi.cg (e _ (by decide) (by decide)) (ea _ (by omega))⟩, ⟨hk.cg (fun j h1 h2 => e j (by omega) (by omega)) rfl, hi⟩, ⟨top, hC.cg (e _ (by decide) (by decide)) (ea _ (by omega)), by omega⟩, (e _ (by decide) (by decide)).trans h29, ⟨e31, by rw [ea _ (by omega)]; exact hW.2.1.2, fun y hy => hW.2.2 y (List.mem_cons_of_mem _ hy)⟩, by omega, e32, by have := hD.2.1; have e9 : opens (0 :: t) = 1 + opens t := rfl; omega, fun d hd1 hd => by rw [ea _ (by omega)]; exact hD.2.2 d hd1 (by have e9 : opens (0 :: t) = 1 + opens t := rfl; omega)⟩
  refine r_aload_n dX10_closes_25 rfl ?_
  refine r_virt (kc2 := 0) (ks2 := 0) (c_goesT m i hM hT hg2.1.2.2 hg2.2.1.1 hi2) lk_X10_256 mc_X10_goes dX10_closes_26 (kM_0 hM) (by decide) rfl rfl (Nat.le_of_ble_eq_true rfl) (by decide) (by decide) (fun _ _ _ _ _ _ h => nomatch h.1) ?_
  rintro v8 n8 kd8 I8 J8 P8 ⟨h00, rfl, rfl, rfl, hf8, hk8⟩
  cases h00
  simp only [Option.toList, List.nil_append]
  refine r_vret rfl dX10_closes_29 ?_
  exact ⟨rfl, rfl, rfl, rfl, (hf1.e.tr hfr2).tr hf8.e, hg2.nx (by decide) hf8 hk8 hi2⟩

theorem strI_lt (x : Int32) : strI x < 7 := by
  unfold strI
  by_cases a : x = nI 5
  · rw [if_pos a]; decide
  rw [if_neg a]
  by_cases a : x = nI 4
  · rw [if_pos a]; decide
  rw [if_neg a]
  by_cases a : x = nI 3
  · rw [if_pos a]; decide
  rw [if_neg a]
  by_cases a : x = nI 6
  · rw [if_pos a]; decide
  rw [if_neg a]
  by_cases a : x = nI 7
  · rw [if_pos a]; decide
  rw [if_neg a]
  by_cases a : x = nI 8
  · rw [if_pos a]; decide
  rw [if_neg a]
  by_cases a : x = nI 9
  · rw [if_pos a]; decide
  · rw [if_neg a]; decide
set_option maxHeartbeats 4000000 in
set_option maxRecDepth 100000 in
theorem w_dropsB {m top wl n : Nat} {kd : mK} {I0 : mI} {J : mJ} {P : mP} (hM : kM kd P m) (hb9 : top + wl ≤ 1200) (hw9 : wl ≤ 600) : ∀ (c t : Nat) (I : mI), I m 31 = nI c → I m 30 = nI t → t + c = top + wl → c ≤ wl → dFr m I0 I → Ru yX10_drops.cls cX10_drops 2 none yX10_drops.name 3 ((fun z n' kd' I' J' P' => z = .inl none ∧ n' = n ∧ kd' = kd ∧ J' = J ∧ P' = P ∧ dFr m I0 I' ∧ ∃ t2, I' m 30 = nI t2 ∧ t2 ≤ top + wl)) 0 0 0 [some (.ref m), some (.int (nI 0))] [] n kd I J P
  | 0, t, I, hW, h30, hb, hl, hf => by
    refine r_aload_n dX10_drops_0 rfl ?_
    refine r_getI dX10_drops_1 fl_X10_278 rfl (kM_0 hM) ?_
    rw [hW]
    refine r_if_le (tgt := 68) dX10_drops_4 (by decide) (fun _ => ?_) (fun hz => absurd (show _ from (by decide)) hz)
    refine r_vret rfl dX10_drops_68 ?_
    exact ⟨rfl, rfl, rfl, rfl, rfl, hf, t, h30, by omega⟩
  | c + 1, t, I, hW, h30, hb, hl, hf => by
    have hgt : ¬ nI (c + 1) ≤ 0 := fun z => by
      have := (z_le (k := c + 1) (by omega)).mp z
      omega
    by_cases c0 : nI 14 ≤ I (m + 21) c
    · skip
      refine r_aload_n dX10_drops_0 rfl ?_
      refine r_getI dX10_drops_1 fl_X10_278 rfl (kM_0 hM) ?_
      rw [hW]
      refine r_if_le (tgt := 68) dX10_drops_4 (by decide) (fun hz => absurd hz (show ¬ _ from hgt)) (fun _ => ?_)
      refine r_aload_n dX10_drops_7 rfl ?_
      refine r_getR dX10_drops_8 fl_X10_77 rfl (kM_0 hM) (pM_43 hM) ?_
      refine r_aload_n dX10_drops_11 rfl ?_
      refine r_getI dX10_drops_12 fl_X10_278 rfl (kM_0 hM) ?_
      rw [hW]
      refine r_iconst (v := nI 1) dX10_drops_15 (by decide) ?_
      refine r_isub dX10_drops_16 ?_
      rw [nI_s1]
      refine r_iald dX10_drops_17 (aM_43 hM) (nI_in8 650 (by omega) (by decide)) (nI_clamp (by omega)) ?_
      refine r_statE (c_isOpen (I (m + 21) c)) lk_X10_281 mc_X10_isOpen dX10_drops_18 (by decide) rfl rfl (Nat.le_of_ble_eq_true rfl) ?_
      refine r_if_ne (tgt := 68) dX10_drops_21 (by decide) (fun _ => ?_) (fun hz => absurd hz (show ¬ _ from (by rw [decide_eq_true c0]; decide)))
      refine r_vret rfl dX10_drops_68 ?_
      exact ⟨rfl, rfl, rfl, rfl, rfl, hf, t, h30, by omega⟩
    · skip
      refine r_aload_n dX10_drops_0 rfl ?_
      refine r_getI dX10_drops_1 fl_X10_278 rfl (kM_0 hM) ?_
      rw [hW]
      refine r_if_le (tgt := 68) dX10_drops_4 (by decide) (fun hz => absurd hz (show ¬ _ from hgt)) (fun _ => ?_)
      refine r_aload_n dX10_drops_7 rfl ?_
      refine r_getR dX10_drops_8 fl_X10_77 rfl (kM_0 hM) (pM_43 hM) ?_
      refine r_aload_n dX10_drops_11 rfl ?_
      refine r_getI dX10_drops_12 fl_X10_278 rfl (kM_0 hM) ?_
      rw [hW]
      refine r_iconst (v := nI 1) dX10_drops_15 (by decide) ?_
      refine r_isub dX10_drops_16 ?_
      rw [nI_s1]
      refine r_iald dX10_drops_17 (aM_43 hM) (nI_in8 650 (by omega) (by decide)) (nI_clamp (by omega)) ?_
      refine r_statE (c_isOpen (I (m + 21) c)) lk_X10_281 mc_X10_isOpen dX10_drops_18 (by decide) rfl rfl (Nat.le_of_ble_eq_true rfl) ?_
      refine r_if_ne (tgt := 68) dX10_drops_21 (by decide) (fun hz => absurd (show _ from (by rw [decide_eq_false c0]; rfl)) hz) (fun _ => ?_)
      refine r_aload_n dX10_drops_24 rfl ?_
      refine r_getR dX10_drops_25 fl_X10_77 rfl (kM_0 hM) (pM_43 hM) ?_
      refine r_aload_n dX10_drops_28 rfl ?_
      refine r_getI dX10_drops_29 fl_X10_278 rfl (kM_0 hM) ?_
      rw [hW]
      refine r_iconst (v := nI 1) dX10_drops_32 (by decide) ?_
      refine r_isub dX10_drops_33 ?_
      rw [nI_s1]
      refine r_iald dX10_drops_34 (aM_43 hM) (nI_in8 650 (by omega) (by decide)) (nI_clamp (by omega)) ?_
      refine r_statE (c_strength (I (m + 21) c)) lk_X10_284 mc_X10_strength dX10_drops_35 (by decide) rfl rfl (Nat.le_of_ble_eq_true rfl) ?_
      refine r_iload_n dX10_drops_38 rfl ?_
      refine r_icmp_lt (tgt := 68) dX10_drops_39 (by decide) (fun hz => absurd hz (show ¬ _ from (by have := strI_lt (I (m + 21) c); rw [nI_ltI (by omega) (by omega)]; omega))) (fun _ => ?_)
      refine r_aload_n dX10_drops_42 rfl ?_
      refine r_dup dX10_drops_43 rfl ?_
      refine r_getI dX10_drops_44 fl_X10_278 rfl (kM_0 hM) ?_
      rw [hW]
      refine r_iconst (v := nI 1) dX10_drops_47 (by decide) ?_
      refine r_isub dX10_drops_48 ?_
      rw [nI_s1]
      refine r_putI dX10_drops_49 fl_X10_278 rfl rfl (kM_0 hM) ?_
      refine r_aload_n dX10_drops_52 rfl ?_
      refine r_aload_n dX10_drops_53 rfl ?_
      refine r_getR dX10_drops_54 fl_X10_77 rfl (kM_0 hM) (pM_43 hM) ?_
      refine r_aload_n dX10_drops_57 rfl ?_
      refine r_getI dX10_drops_58 fl_X10_278 rfl (kM_0 hM) ?_
      rw [am_up_s, am_up_s]
      refine r_iald dX10_drops_61 (aM_43 hM) (nI_in8 650 (by omega) (by decide)) (nI_clamp (by omega)) ?_
      rw [am_up_n _ _ (by omega)]
      refine r_virtV (c_puI m t (I (m + 21) c) hM (by rw [am_up_s, am_up_n _ _ (by decide)]; exact h30) (by omega)) lk_X10_272 mc_X10_puts dX10_drops_62 (kM_0 hM) (by decide) rfl rfl (Nat.le_of_ble_eq_true rfl) ?_
      refine r_goto (tgt := 0) dX10_drops_65 (by decide) ?_
      exact w_dropsB hM hb9 hw9 c (t + 1) _ (by rw [puI_31, am_up_s, am_up_s]) puI_30 (by omega) (by omega) (hf.tr (dFr.tr ⟨fun a h1 h2 => am_up_n _ _ h1, fun j h1 h2 => by rw [am_up_s, am_up_n _ _ h2]⟩ puI_fr))

set_option maxHeartbeats 4000000 in
set_option maxRecDepth 100000 in
theorem c_dropsB {m top wl : Nat} {n : Nat} {kd : mK} {I : mI} {J : mJ} {P : mP} (hM : kM kd P m) (hW : I m 31 = nI wl) (h30 : I m 30 = nI top) (hb9 : top + wl ≤ 1200) (hw9 : wl ≤ 600) : Ct yX10_drops cX10_drops 2 none 3 0 0 [.ref m, .int (nI 0)] n kd I J P (fun z n' kd' I' J' P' => z = .inl none ∧ n' = n ∧ kd' = kd ∧ J' = J ∧ P' = P ∧ dFr m I I' ∧ ∃ t2, I' m 30 = nI t2 ∧ t2 ≤ top + wl) := by
  refine ct_of 0 (by decide +kernel) (Nat.le_of_ble_eq_true rfl) rfl ?_
  exact w_dropsB hM hb9 hw9 wl top I hW h30 rfl (Nat.le_refl _) dFr.rf

