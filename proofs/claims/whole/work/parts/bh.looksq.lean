/-! LOOKING: the reference, on any state: looks -/
def lkFr (m : Nat) (I I' : mI) (J J' : mJ) : Prop := (∀ a, a ≠ m → a ≠ m + 25 → a ≠ m + 26 → a ≠ m + 27 → a ≠ m + 30 → a ≠ m + 31 → I' a = I a) ∧ (∀ j, j ≠ 52 → j ≠ 53 → I' m j = I m j) ∧ (∀ a, a ≠ m + 28 → a ≠ m + 29 → J' a = J a)
theorem lkFr.tw {m : Nat} {I I1 I2 : mI} {J J1 J2 : mJ} (h : lkFr m I I1 J J1) (g : twF m I1 I2 J1 J2) : lkFr m I I2 J J2 := ⟨fun a a1 a2 a3 a4 a5 a6 => (g.1 a a5 a6).trans (h.1 a a1 a2 a3 a4 a5 a6), fun j j1 j2 => by rw [g.1 m (by omega) (by omega)]; exact h.2.1 j j1 j2, fun a a1 a2 => (g.2 a a2).trans (h.2.2 a a1 a2)⟩
/-- what is known after few numberings were found -/
def fwK (m H : Nat) (fs : List (Nat → Nat)) (I' : mI) (J' : mJ) : Prop := I' m 52 = nI fs.length ∧ (∀ i h, i < fs.length → h < H → I' (m + 27) (8 * i + h) = nI (nmF fs i h)) ∧ ∀ h v, h < H → v ≤ 20 → J' (m + 28) (21 * h + v) = jN (paF (nmF fs) fs.length h v)
theorem RR.lk {m t : Nat} {kd : mK} {I I1 : mI} {J J1 : mJ} {P : mP} {T : Nat → Nat} {fp : Int32} {rr : Nat → Int32} {H M : Nat} {un : Bool} {cs : Nat → List Nat} {tx : Nat → List Int32} {e : Lf} {im : Option Lf} {wk : Option (List Nat)} (hf : lkFr m I I1 J J1) (h : RR m kd I P t T fp rr H M un cs tx e im wk) : RR m kd I1 P t T fp rr H M un cs tx e im wk := RR.qu (fun a a1 a2 a3 a4 => hf.1 a (by omega) (by omega) (by omega) (by omega) (by omega) (by omega)) (fun j q => hf.2.1 j (by omega) (by omega)) h
theorem pQ.lk {m n t : Nat} {kd : mK} {I I1 : mI} {J J1 : mJ} {P : mP} {T : Nat → Nat} {fp : Int32} {rr : Nat → Int32} {H M : Nat} {un : Bool} {cs : Nat → List Nat} {tx : Nat → List Int32} {e : Lf} {im : Option Lf} {wk : Option (List Nat)} {v : Int32} {y : Option Value ⊕ String} (hy : y = .inl (some (.int v))) (h0 : I m 0 = 0) (hf : lkFr m I I1 J J1) (h : RR m kd I P t T fp rr H M un cs tx e im wk) : pQ m n kd I J P (some (.int v)) 0 (RX m t T fp rr H M un cs tx e im wk) y n kd I1 J1 P := ⟨hy, rfl, rfl, rfl, fun a ha => ⟨hf.1 a (by omega) (by omega) (by omega) (by omega) (by omega) (by omega), hf.2.2 a (by omega) (by omega)⟩, by rw [hf.2.1 0 (by decide) (by decide)]; exact h0, h.lk hf⟩
set_option maxHeartbeats 4000000 in
set_option maxRecDepth 100000 in
theorem q_isFew (m : Nat) {t : Nat} {T : Nat → Nat} {fp : Int32} {rr : Nat → Int32} {H M : Nat} {un : Bool} {cs : Nat → List Nat} {tx : Nat → List Int32} {e : Lf} {im : Option Lf} {wk : Option (List Nat)} {n : Nat} {kd : mK} {I : mI} {J : mJ} {P : mP} (hC : RR m kd I P t T fp rr H M un cs tx e im wk) (hz : okZ t T H M cs e) : Ct yX10_isFew cX10_isFew 3 (some .boolean) 7 0 0 [.ref m] n kd I J P (fun z n' kd' I' J' P' => z = .inl (some (.int (bz (fwB (zN H M un cs e))))) ∧ n' = n ∧ kd' = kd ∧ P' = P ∧ lkFr m I I' J J' ∧ (fwB (zN H M un cs e) = true → fwK m H (fsN H M un cs e) I' J')) := by
  have hC0 := hC
  have hz0 := hz
  obtain ⟨hM, hT, hSt, hLf, hIm, hWk⟩ := hC
  obtain ⟨okt, oks, okl⟩ := hz
  have hH8 : H ≤ 8 := oks.2.1
  have hM20 : 2 ≤ M ∧ M ≤ 20 := oks.1
  have hH : I m 1 = nI H := hSt.1.1
  have hMo : I m 2 = nI M := hSt.1.2.1
  have hrg : fDif H (fsN H M un cs e) ∧ fRng H M (fsN H M un cs e) := zR_rng hH8 hM20.2
  refine ct_of 2 (by decide +kernel) (Nat.le_of_ble_eq_true rfl) rfl ?_
  refine r_aload_n dX10_isFew_0 rfl ?_
  refine r_virt (kc2 := 0) (ks2 := 0) (q_seeksAll m hC0 hz0) lk_X10_436 mc_X10_seeksAll dX10_isFew_1 (kM_0 hM) (by decide) rfl rfl (Nat.le_of_ble_eq_true rfl) (by decide) (by decide) (fun _ _ _ _ _ _ h => nomatch h.1) ?_
  rintro v1 n1 kd1 I1 J1 P1 ⟨h00, rfl, rfl, rfl, rfl, hfr, hfd⟩
  cases h00
  simp only [Option.toList, List.nil_append, List.cons_append]
  have hH1 : I1 m 1 = nI H := by rw [hfr.2 1 (by decide) (by decide)]; exact hH
  have hF : lkFr m I I1 J1 J1 := ⟨fun a a1 a2 a3 a4 _ _ => hfr.1 a a1 a2 a3 a4, hfr.2, fun _ _ _ => rfl⟩
  by_cases hg : gdN H M un cs e = true
  · obtain ⟨h52, -, h27⟩ := hfd hg
    have hl := gd_len hg
    rw [hg]
    by_cases h40 : (fsN H M un cs e).length ≤ 40
    · have hw := fw_gd.mpr ⟨hg, h40⟩
      have hl := fw_0 (n := n1) (J := J1) m (fsN H M un cs e).length H (nmF (fsN H M un cs e)) hM hH1 h52 h27 (fun i h hi hh => by have := (nmF_rng hrg.2 i h hi hh).2; omega) h40 hH8 168 0 (J1 (m + 28)) (by omega) (fun j hj => absurd hj (by omega))
      rw [am_up_id] at hl
      refine r_if_eq (tgt := 16) dX10_isFew_4 (by decide) (fun hz => absurd hz (show ¬ _ from (by decide))) (fun _ => ?_)
      refine r_aload_n dX10_isFew_7 rfl ?_
      refine r_getI dX10_isFew_8 fl_X10_413 rfl (kM_0 hM) ?_
      rw [h52]
      refine r_bipush (v := nI 40) dX10_isFew_11 (by decide) ?_
      refine r_icmp_le (tgt := 18) dX10_isFew_13 (by decide) (fun _ => ?_) (fun hz => absurd (show _ from (by rw [nI_leI (by omega) (by omega)]; omega)) hz)
      refine r_iconst (v := nI 0) dX10_isFew_18 (by decide) ?_
      refine r_istore_n dX10_isFew_19 (by decide) ?_
      refine RuZ.mono hl (fun z n2 kd2 I2 J2 P2 hx => ?_)
      obtain ⟨A, hA, h0, rfl, rfl, rfl, rfl, rfl⟩ := hx
      refine ⟨by rw [h0, hw]; rfl, rfl, rfl, rfl, ⟨hF.1, hF.2.1, fun a ha _ => am_up_n _ _ ha⟩, fun _ => ⟨h52, h27, fun h v hh hv => by rw [am_up_s]; exact hA h v hh hv⟩⟩
    · have hw : fwB (zN H M un cs e) = false := by
        cases hx : fwB (zN H M un cs e)
        · rfl
        · exact absurd (fw_gd.mp hx).2 h40
      refine r_if_eq (tgt := 16) dX10_isFew_4 (by decide) (fun hz => absurd hz (show ¬ _ from (by decide))) (fun _ => ?_)
      refine r_aload_n dX10_isFew_7 rfl ?_
      refine r_getI dX10_isFew_8 fl_X10_413 rfl (kM_0 hM) ?_
      rw [h52]
      refine r_bipush (v := nI 40) dX10_isFew_11 (by decide) ?_
      refine r_icmp_le (tgt := 18) dX10_isFew_13 (by decide) (fun hz => absurd hz (show ¬ _ from (by rw [nI_leI (by omega) (by omega)]; omega))) (fun _ => ?_)
      refine r_iconst (v := nI 0) dX10_isFew_16 (by decide) ?_
      refine r_zret rfl dX10_isFew_17 (by first | exact Or.inl rfl | exact Or.inr rfl | assumption) ?_
      exact ⟨by rw [hw]; rfl, rfl, rfl, rfl, hF, fun q => by rw [hw] at q; exact nomatch q⟩
  · have hw : fwB (zN H M un cs e) = false := by
      cases hx : fwB (zN H M un cs e)
      · rfl
      · exact absurd (fw_gd.mp hx).1 hg
    have hg : gdN H M un cs e = false := by cases hx : gdN H M un cs e; rfl; exact absurd hx hg
    rw [hg]
    refine r_if_eq (tgt := 16) dX10_isFew_4 (by decide) (fun _ => ?_) (fun hz => absurd (show _ from (by decide)) hz)
    refine r_iconst (v := nI 0) dX10_isFew_16 (by decide) ?_
    refine r_zret rfl dX10_isFew_17 (by first | exact Or.inl rfl | exact Or.inr rfl | assumption) ?_
    exact ⟨by rw [hw]; rfl, rfl, rfl, rfl, hF, fun q => by rw [hw] at q; exact nomatch q⟩

set_option maxHeartbeats 4000000 in
set_option maxRecDepth 100000 in
theorem q_fewest (m : Nat) {t : Nat} {T : Nat → Nat} {fp : Int32} {rr : Nat → Int32} {H M : Nat} {un : Bool} {cs : Nat → List Nat} {tx : Nat → List Int32} {e : Lf} {im : Option Lf} {wk : Option (List Nat)} {n : Nat} {kd : mK} {I : mI} {J : mJ} {P : mP} (hC : RR m kd I P t T fp rr H M un cs tx e im wk) (hz : okZ t T H M cs e) : Ct yX10_fewestLooks cX10_fewestLooks 4 (some .int) 8 0 0 [.ref m] n kd I J P (fun z n' kd' I' J' P' => z = .inl (some (.int (if fwB (zN H M un cs e) = true then nI (lookV H (fsN H M un cs e)) else -2))) ∧ n' = n ∧ kd' = kd ∧ P' = P ∧ lkFr m I I' J J' ∧ (fwB (zN H M un cs e) = true → fwK m H (fsN H M un cs e) I' J')) := by
  have hC0 := hC
  have hz0 := hz
  obtain ⟨hM, hT, hSt, hLf, hIm, hWk⟩ := hC
  obtain ⟨okt, oks, okl⟩ := hz
  have hH8 : H ≤ 8 := oks.2.1
  have hM20 : 2 ≤ M ∧ M ≤ 20 := oks.1
  have hH : I m 1 = nI H := hSt.1.1
  have hMo : I m 2 = nI M := hSt.1.2.1
  have hrg : fDif H (fsN H M un cs e) ∧ fRng H M (fsN H M un cs e) := zR_rng hH8 hM20.2
  refine ct_of 3 (by decide +kernel) (Nat.le_of_ble_eq_true rfl) rfl ?_
  refine r_aload_n dX10_fewestLooks_0 rfl ?_
  refine r_virt (kc2 := 0) (ks2 := 0) (q_isFew m hC0 hz0) lk_X10_462 mc_X10_isFew dX10_fewestLooks_1 (kM_0 hM) (by decide) rfl rfl (Nat.le_of_ble_eq_true rfl) (by decide) (by decide) (fun _ _ _ _ _ _ h => nomatch h.1) ?_
  rintro v1 n1 kd1 I1 J1 P1 ⟨h00, rfl, rfl, rfl, hF, hfd⟩
  cases h00
  simp only [Option.toList, List.nil_append, List.cons_append]
  have hH1 : I1 m 1 = nI H := by rw [hF.2.1 1 (by decide) (by decide)]; exact hH
  have hH2 : I1 m 2 = nI M := by rw [hF.2.1 2 (by decide) (by decide)]; exact hMo
  by_cases hw : fwB (zN H M un cs e) = true
  · obtain ⟨h52, h27, hpa⟩ := hfd hw
    rw [hw]
    have h40 := (fw_gd.mp hw).2
    have hw40 : 2 ^ (fsN H M un cs e).length - 1 < 2 ^ 40 := Nat.lt_of_lt_of_le (Nat.sub_lt (Nat.two_pow_pos _) (by decide)) (Nat.pow_le_pow_right (by decide) h40)
    by_cases hc0 : (fsN H M un cs e).length = 0
    · have e0 : (0 : Int64) = jN (2 ^ (fsN H M un cs e).length - 1) := by rw [hc0]; exact jN_0.symm
      refine r_if_ne (tgt := 10) dX10_fewestLooks_4 (by decide) (fun _ => ?_) (fun hz => absurd hz (show ¬ _ from (by decide)))
      refine r_aload_n dX10_fewestLooks_10 rfl ?_
      refine r_getI dX10_fewestLooks_11 fl_X10_413 rfl (kM_0 hM) ?_
      rw [h52]
      refine r_if_ne (tgt := 21) dX10_fewestLooks_14 (by decide) (fun hz => absurd (show _ from (by rw [hc0]; rfl)) hz) (fun _ => ?_)
      refine r_lconst (v := 0) dX10_fewestLooks_17 (by decide) ?_
      rw [e0]
      refine r_goto (tgt := 29) dX10_fewestLooks_18 (by decide) ?_
      refine r_lstore_n dX10_fewestLooks_29 (by decide) ?_
      refine r_iconst (v := nI 0) dX10_fewestLooks_30 (by decide) ?_
      refine r_istore_n dX10_fewestLooks_31 (by decide) ?_
      have hlv := lookV_nl hH8 hrg.1 hrg.2
      change nl (paF (nmF (fsN H M un cs e)) (fsN H M un cs e).length) H M (2 ^ (fsN H M un cs e).length - 1) 8 0 = lookV H (fsN H M un cs e) ∧ tl (paF (nmF (fsN H M un cs e)) (fsN H M un cs e).length) H M 8 (2 ^ (fsN H M un cs e).length - 1) = true at hlv
      have hl := rl_loop (n := n1) (J0 := J1) m H M (2 ^ (fsN H M un cs e).length - 1) (paF (nmF (fsN H M un cs e)) (fsN H M un cs e).length) hM hH1 hH2 (fun h v hh h1 h2 => hpa h v hh (by omega)) hH8 hM20.2 hw40 (fun ho => by
        apply Classical.byContradiction
        intro hz
        have e9 : H = 0 := by omega
        have h8 := hlv.2
        rw [e9] at h8
        unfold tl at h8
        rw [Bool.or_eq_true] at h8
        rw [e9] at ho
        exact h8.elim ho (fun q => nomatch q)) hlv.2 8 0 I1 J1 (by omega) twF.rf
      rw [hlv.1] at hl
      refine RuZ.mono hl (fun z n2 kd2 I2 J2 P2 hx => ?_)
      obtain ⟨h0, rfl, rfl, rfl, hg2⟩ := hx
      exact ⟨by rw [h0, if_pos rfl], rfl, rfl, rfl, hF.tw hg2, fun _ => ⟨by rw [hg2.1 m (by omega) (by omega)]; exact h52, fun i h hi hh => by rw [hg2.1 _ (by omega) (by omega)]; exact h27 i h hi hh, fun h v hh hv => by rw [hg2.2 _ (by omega)]; exact hpa h v hh hv⟩⟩
    · skip
      refine r_if_ne (tgt := 10) dX10_fewestLooks_4 (by decide) (fun _ => ?_) (fun hz => absurd hz (show ¬ _ from (by decide)))
      refine r_aload_n dX10_fewestLooks_10 rfl ?_
      refine r_getI dX10_fewestLooks_11 fl_X10_413 rfl (kM_0 hM) ?_
      rw [h52]
      refine r_if_ne (tgt := 21) dX10_fewestLooks_14 (by decide) (fun _ => ?_) (fun hz => absurd hz (show ¬ _ from (by rw [z_eq (by omega)]; exact hc0)))
      refine r_lconst (v := 1) dX10_fewestLooks_21 (by decide) ?_
      refine r_aload_n dX10_fewestLooks_22 rfl ?_
      refine r_getI dX10_fewestLooks_23 fl_X10_413 rfl (kM_0 hM) ?_
      rw [h52]
      refine r_lshl dX10_fewestLooks_26 ?_
      refine r_lconst (v := 1) dX10_fewestLooks_27 (by decide) ?_
      refine r_lsub dX10_fewestLooks_28 ?_
      rw [sh_jN _ h40]
      refine r_lstore_n dX10_fewestLooks_29 (by decide) ?_
      refine r_iconst (v := nI 0) dX10_fewestLooks_30 (by decide) ?_
      refine r_istore_n dX10_fewestLooks_31 (by decide) ?_
      have hlv := lookV_nl hH8 hrg.1 hrg.2
      change nl (paF (nmF (fsN H M un cs e)) (fsN H M un cs e).length) H M (2 ^ (fsN H M un cs e).length - 1) 8 0 = lookV H (fsN H M un cs e) ∧ tl (paF (nmF (fsN H M un cs e)) (fsN H M un cs e).length) H M 8 (2 ^ (fsN H M un cs e).length - 1) = true at hlv
      have hl := rl_loop (n := n1) (J0 := J1) m H M (2 ^ (fsN H M un cs e).length - 1) (paF (nmF (fsN H M un cs e)) (fsN H M un cs e).length) hM hH1 hH2 (fun h v hh h1 h2 => hpa h v hh (by omega)) hH8 hM20.2 hw40 (fun ho => by
        apply Classical.byContradiction
        intro hz
        have e9 : H = 0 := by omega
        have h8 := hlv.2
        rw [e9] at h8
        unfold tl at h8
        rw [Bool.or_eq_true] at h8
        rw [e9] at ho
        exact h8.elim ho (fun q => nomatch q)) hlv.2 8 0 I1 J1 (by omega) twF.rf
      rw [hlv.1] at hl
      refine RuZ.mono hl (fun z n2 kd2 I2 J2 P2 hx => ?_)
      obtain ⟨h0, rfl, rfl, rfl, hg2⟩ := hx
      exact ⟨by rw [h0, if_pos rfl], rfl, rfl, rfl, hF.tw hg2, fun _ => ⟨by rw [hg2.1 m (by omega) (by omega)]; exact h52, fun i h hi hh => by rw [hg2.1 _ (by omega) (by omega)]; exact h27 i h hi hh, fun h v hh hv => by rw [hg2.2 _ (by omega)]; exact hpa h v hh hv⟩⟩
  · have hw : fwB (zN H M un cs e) = false := by cases hx : fwB (zN H M un cs e); rfl; exact absurd hx hw
    rw [hw]
    refine r_if_ne (tgt := 10) dX10_fewestLooks_4 (by decide) (fun hz => absurd (show _ from (by decide)) hz) (fun _ => ?_)
    refine r_bipush (v := (-2)) dX10_fewestLooks_7 (by decide) ?_
    refine r_iret rfl dX10_fewestLooks_9 ?_
    exact ⟨rfl, rfl, rfl, rfl, hF, fun q => nomatch q⟩

theorem dX10_looks_0 : decode cX10_looks 0 = .ok (.aload_n 0, 1) := by decide +kernel
theorem dX10_looks_1 : decode cX10_looks 1 = .ok (.iconst 0, 1) := by decide +kernel
theorem dX10_looks_2 : decode cX10_looks 2 = .ok (.putfield 193, 3) := by decide +kernel
theorem dX10_looks_5 : decode cX10_looks 5 = .ok (.aload_n 0, 1) := by decide +kernel
theorem dX10_looks_6 : decode cX10_looks 6 = .ok (.iload_n 1, 1) := by decide +kernel
theorem dX10_looks_7 : decode cX10_looks 7 = .ok (.invokevirtual 379, 3) := by decide +kernel
theorem dX10_looks_10 : decode cX10_looks 10 = .ok (.ifCond .ne 5, 3) := by decide +kernel
theorem dX10_looks_13 : decode cX10_looks 13 = .ok (.iconst 0, 1) := by decide +kernel
theorem dX10_looks_14 : decode cX10_looks 14 = .ok (.ireturn, 1) := by decide +kernel
theorem dX10_looks_15 : decode cX10_looks 15 = .ok (.aload_n 0, 1) := by decide +kernel
theorem dX10_looks_16 : decode cX10_looks 16 = .ok (.invokevirtual 455, 3) := by decide +kernel
theorem dX10_looks_19 : decode cX10_looks 19 = .ok (.istore_n 2, 1) := by decide +kernel
theorem dX10_looks_20 : decode cX10_looks 20 = .ok (.iload_n 2, 1) := by decide +kernel
theorem dX10_looks_21 : decode cX10_looks 21 = .ok (.bipush (-2), 2) := by decide +kernel
theorem dX10_looks_23 : decode cX10_looks 23 = .ok (.if_icmp .eq 7, 3) := by decide +kernel
theorem dX10_looks_26 : decode cX10_looks 26 = .ok (.iload_n 1, 1) := by decide +kernel
theorem dX10_looks_27 : decode cX10_looks 27 = .ok (.ifCond .ne 5, 3) := by decide +kernel
theorem dX10_looks_30 : decode cX10_looks 30 = .ok (.iload_n 2, 1) := by decide +kernel
theorem dX10_looks_31 : decode cX10_looks 31 = .ok (.ireturn, 1) := by decide +kernel
theorem dX10_looks_32 : decode cX10_looks 32 = .ok (.aload_n 0, 1) := by decide +kernel
theorem dX10_looks_33 : decode cX10_looks 33 = .ok (.getfield 413, 3) := by decide +kernel
theorem dX10_looks_36 : decode cX10_looks 36 = .ok (.ifCond .ne 7, 3) := by decide +kernel
theorem dX10_looks_39 : decode cX10_looks 39 = .ok (.lconst 0, 1) := by decide +kernel
theorem dX10_looks_40 : decode cX10_looks 40 = .ok (.goto 11, 3) := by decide +kernel
theorem dX10_looks_43 : decode cX10_looks 43 = .ok (.lconst 1, 1) := by decide +kernel
theorem dX10_looks_44 : decode cX10_looks 44 = .ok (.aload_n 0, 1) := by decide +kernel
theorem dX10_looks_45 : decode cX10_looks 45 = .ok (.getfield 413, 3) := by decide +kernel
theorem dX10_looks_48 : decode cX10_looks 48 = .ok (.lshl, 1) := by decide +kernel
theorem dX10_looks_49 : decode cX10_looks 49 = .ok (.lconst 1, 1) := by decide +kernel
theorem dX10_looks_50 : decode cX10_looks 50 = .ok (.lsub, 1) := by decide +kernel
theorem dX10_looks_51 : decode cX10_looks 51 = .ok (.lstore_n 3, 1) := by decide +kernel
theorem dX10_looks_52 : decode cX10_looks 52 = .ok (.iconst 0, 1) := by decide +kernel
theorem dX10_looks_53 : decode cX10_looks 53 = .ok (.istore 5, 2) := by decide +kernel
theorem dX10_looks_55 : decode cX10_looks 55 = .ok (.iload 5, 2) := by decide +kernel
theorem dX10_looks_57 : decode cX10_looks 57 = .ok (.aload_n 0, 1) := by decide +kernel
theorem dX10_looks_58 : decode cX10_looks 58 = .ok (.getfield 350, 3) := by decide +kernel
theorem dX10_looks_61 : decode cX10_looks 61 = .ok (.if_icmp .ge 27, 3) := by decide +kernel
theorem dX10_looks_64 : decode cX10_looks 64 = .ok (.iload_n 2, 1) := by decide +kernel
theorem dX10_looks_65 : decode cX10_looks 65 = .ok (.ifCond .le 23, 3) := by decide +kernel
theorem dX10_looks_68 : decode cX10_looks 68 = .ok (.aload_n 0, 1) := by decide +kernel
theorem dX10_looks_69 : decode cX10_looks 69 = .ok (.lload_n 3, 1) := by decide +kernel
theorem dX10_looks_70 : decode cX10_looks 70 = .ok (.iload_n 2, 1) := by decide +kernel
theorem dX10_looks_71 : decode cX10_looks 71 = .ok (.iload 5, 2) := by decide +kernel
theorem dX10_looks_73 : decode cX10_looks 73 = .ok (.invokevirtual 458, 3) := by decide +kernel
theorem dX10_looks_76 : decode cX10_looks 76 = .ok (.ifCond .eq 6, 3) := by decide +kernel
theorem dX10_looks_79 : decode cX10_looks 79 = .ok (.iload 5, 2) := by decide +kernel
theorem dX10_looks_81 : decode cX10_looks 81 = .ok (.ireturn, 1) := by decide +kernel
theorem dX10_looks_82 : decode cX10_looks 82 = .ok (.iinc 5 1, 3) := by decide +kernel
theorem dX10_looks_85 : decode cX10_looks 85 = .ok (.goto (-30), 3) := by decide +kernel
theorem dX10_looks_88 : decode cX10_looks 88 = .ok (.iconst (-1), 1) := by decide +kernel
theorem dX10_looks_89 : decode cX10_looks 89 = .ok (.ireturn, 1) := by decide +kernel

set_option maxHeartbeats 4000000 in
set_option maxRecDepth 100000 in
theorem qlk_loop (m H M r w : Nat) (pa : Nat → Nat → Nat) {n : Nat} {kd : mK} {I0 : mI} {J0 : mJ} {P : mP} (hM : kM kd P m) (hI1 : I0 m 1 = nI H) (hI2 : I0 m 2 = nI M) (hPa : ∀ h v, h < H → 1 ≤ v → v ≤ M → J0 (m + 28) (21 * h + v) = jN (pa h v)) (hH : H ≤ 8) (hM20 : M ≤ 20) (hr : r + 1 ≤ 8) (hw : w < 2 ^ 40) (ho : ¬ one w = true) : ∀ (cnt h : Nat) (I : mI) (J : mJ), h + cnt = H → twF m I0 I J0 J → Ru yX10_looks.cls cX10_looks 6 (some .int) yX10_looks.name 10 (fun z n' kd' I' J' P' => z = .inl (some (.int (fdF (fun x => (List.range' 0 M).all (okf pa H M r w x)) cnt h))) ∧ n' = n ∧ kd' = kd ∧ P' = P ∧ twF m I0 I' J0 J') 0 0 55 [some (.ref m), some (.int (nI 1)), some (.int (nI (r + 1))), some (.long (jN w)), none, some (.int (nI h))] [] n kd I J P
  | 0, h, I, J, hh, hf => by
    have eh : h = H := by omega
    subst eh
    refine r_iload dX10_looks_55 rfl ?_
    refine r_aload_n dX10_looks_57 rfl ?_
    refine r_getI dX10_looks_58 fl_X10_350 rfl (kM_0 hM) ?_
    rw [hf.1 m (by omega) (by omega), hI1]
    refine r_icmp_ge (tgt := 88) dX10_looks_61 (by decide) (fun _ => ?_) (fun hz => absurd (show _ from (by rw [nI_leI (by omega) (by omega)]; omega)) hz)
    refine r_iconst (v := (-1)) dX10_looks_88 (by decide) ?_
    refine r_iret rfl dX10_looks_89 ?_
    exact ⟨rfl, rfl, rfl, rfl, hf⟩
  | cnt + 1, h, I, J, hh, hf => by
    have hc := c_X10_tellsH (n := n) (I := I) (J := J) m H M r w h pa hM (by rw [hf.1 m (by omega) (by omega)]; exact hI1) (by rw [hf.1 m (by omega) (by omega)]; exact hI2) (by rw [hf.2 _ (by omega)]; exact hPa) hH hM20 hr hw ho (by omega)
    have hf2 : ∀ (Am : Nat → Int64) (Dr Sh : Nat → Int32), twF m I0 (tDS I m Dr Sh) J0 (va_up J (m + 29) Am) := fun Am Dr Sh => hf.tr ⟨fun a h1 h2 => tDS_o _ _ _ _ h1 h2, fun a h1 => am_up_n _ _ h1⟩
    by_cases c1 : (List.range' 0 M).all (okf pa H M r w h) = true
    · rw [show fdF (fun x => (List.range' 0 M).all (okf pa H M r w x)) (cnt + 1) h = nI h from by unfold fdF; rw [if_pos c1]]
      rw [c1] at hc
      refine r_iload dX10_looks_55 rfl ?_
      refine r_aload_n dX10_looks_57 rfl ?_
      refine r_getI dX10_looks_58 fl_X10_350 rfl (kM_0 hM) ?_
      rw [hf.1 m (by omega) (by omega), hI1]
      refine r_icmp_ge (tgt := 88) dX10_looks_61 (by decide) (fun hz => absurd hz (show ¬ _ from (by rw [nI_leI (by omega) (by omega)]; omega))) (fun _ => ?_)
      refine r_iload_n dX10_looks_64 rfl ?_
      refine r_if_le (tgt := 88) dX10_looks_65 (by decide) (fun hz => absurd hz (show ¬ _ from (by rw [show (0 : Int32) = nI 0 from rfl, nI_leI (by omega) (by omega)]; omega))) (fun _ => ?_)
      refine r_aload_n dX10_looks_68 rfl ?_
      refine r_lload_n dX10_looks_69 rfl ?_
      refine r_iload_n dX10_looks_70 rfl ?_
      refine r_iload dX10_looks_71 rfl ?_
      refine r_virt (kc2 := 0) (ks2 := 0) hc lk_X10_458 mc_X10_tells dX10_looks_73 (kM_0 hM) (by decide) rfl rfl (Nat.le_of_ble_eq_true rfl) (by decide) (by decide) (fun _ _ _ _ _ _ hx => by obtain ⟨_, _, _, hx⟩ := hx; exact nomatch hx.1) (fun v n2 kd2 I2 J2 P2 hx => ?_)
      obtain ⟨Am, Dr, Sh, hv, rfl, rfl, rfl, rfl, rfl⟩ := hx
      cases hv
      simp only [Option.toList, List.nil_append, List.cons_append]
      refine r_if_eq (tgt := 82) dX10_looks_76 (by decide) (fun hz => absurd hz (show ¬ _ from (by decide))) (fun _ => ?_)
      refine r_iload dX10_looks_79 rfl ?_
      refine r_iret rfl dX10_looks_81 ?_
      exact ⟨rfl, rfl, rfl, rfl, hf2 _ _ _⟩
    · have c1 : (List.range' 0 M).all (okf pa H M r w h) = false := by cases hx : (List.range' 0 M).all (okf pa H M r w h); rfl; exact absurd hx c1
      rw [show fdF (fun x => (List.range' 0 M).all (okf pa H M r w x)) (cnt + 1) h = fdF (fun x => (List.range' 0 M).all (okf pa H M r w x)) cnt (h + 1) from by conv => lhs; unfold fdF; rw [if_neg (by rw [c1]; decide)]]
      rw [c1] at hc
      refine r_iload dX10_looks_55 rfl ?_
      refine r_aload_n dX10_looks_57 rfl ?_
      refine r_getI dX10_looks_58 fl_X10_350 rfl (kM_0 hM) ?_
      rw [hf.1 m (by omega) (by omega), hI1]
      refine r_icmp_ge (tgt := 88) dX10_looks_61 (by decide) (fun hz => absurd hz (show ¬ _ from (by rw [nI_leI (by omega) (by omega)]; omega))) (fun _ => ?_)
      refine r_iload_n dX10_looks_64 rfl ?_
      refine r_if_le (tgt := 88) dX10_looks_65 (by decide) (fun hz => absurd hz (show ¬ _ from (by rw [show (0 : Int32) = nI 0 from rfl, nI_leI (by omega) (by omega)]; omega))) (fun _ => ?_)
      refine r_aload_n dX10_looks_68 rfl ?_
      refine r_lload_n dX10_looks_69 rfl ?_
      refine r_iload_n dX10_looks_70 rfl ?_
      refine r_iload dX10_looks_71 rfl ?_
      refine r_virt (kc2 := 0) (ks2 := 0) hc lk_X10_458 mc_X10_tells dX10_looks_73 (kM_0 hM) (by decide) rfl rfl (Nat.le_of_ble_eq_true rfl) (by decide) (by decide) (fun _ _ _ _ _ _ hx => by obtain ⟨_, _, _, hx⟩ := hx; exact nomatch hx.1) (fun v n2 kd2 I2 J2 P2 hx => ?_)
      obtain ⟨Am, Dr, Sh, hv, rfl, rfl, rfl, rfl, rfl⟩ := hx
      cases hv
      simp only [Option.toList, List.nil_append, List.cons_append]
      refine r_if_eq (tgt := 82) dX10_looks_76 (by decide) (fun _ => ?_) (fun hz => absurd (show _ from (by decide)) hz)
      refine r_iinc (v := nI (h + 1)) dX10_looks_82 rfl (nI_inc h) ?_
      refine r_goto (tgt := 55) dX10_looks_85 (by decide) ?_
      exact qlk_loop m H M r w pa hM hI1 hI2 hPa hH hM20 hr hw ho cnt (h + 1) _ _ (by omega) (hf2 _ _ _)

set_option maxHeartbeats 4000000 in
set_option maxRecDepth 100000 in
theorem q_looks_sp (m : Nat) (w : Nat) {t : Nat} {T : Nat → Nat} {fp : Int32} {rr : Nat → Int32} {H M : Nat} {un : Bool} {cs : Nat → List Nat} {tx : Nat → List Int32} {e : Lf} {im : Option Lf} {wk : Option (List Nat)} {n : Nat} {kd : mK} {I : mI} {J : mJ} {P : mP} (hC : RR m kd I P t T fp rr H M un cs tx e im wk) (hz : okZ t T H M cs e) (hw1 : w < 2) (hw : fwB (zN H M un cs e) = false) : Ct yX10_looks cX10_looks 6 (some .int) 10 0 0 [.ref m, .int (nI w)] n kd I J P (pQ m n kd I J P (some (.int (-2))) 0 (RX m t T fp rr H M un cs tx e im wk)) := by
  refine ct_of 4 (by decide +kernel) (Nat.le_of_ble_eq_true rfl) rfl ?_
  refine r_aload_n dX10_looks_0 rfl ?_
  refine r_iconst (v := nI 0) dX10_looks_1 (by decide) ?_
  refine r_putI dX10_looks_2 fl_X10_193 rfl rfl (kM_0 hC.1) ?_
  refine q_th hC (fun I hC h0 => ?_)
  have hC0 := hC
  have hz0 := hz
  obtain ⟨hM, hT, hSt, hLf, hIm, hWk⟩ := hC
  obtain ⟨okt, oks, okl⟩ := hz
  have hH8 : H ≤ 8 := oks.2.1
  have hM20 : 2 ≤ M ∧ M ≤ 20 := oks.1
  have hH : I m 1 = nI H := hSt.1.1
  have hMo : I m 2 = nI M := hSt.1.2.1
  refine r_aload_n dX10_looks_5 rfl ?_
  refine r_iload_n dX10_looks_6 rfl ?_
  refine r_virtE (c_X10_isTwo m (nI w) hM h0) lk_X10_379 mc_X10_isTwo dX10_looks_7 (kM_0 hM) (by decide) rfl rfl (Nat.le_of_ble_eq_true rfl) ?_
  rw [show (decide (nI w = 0) || decide (nI w = nI 1)) = true from (by rcases (by omega : w = 0 ∨ w = 1) with r | r <;> rw [r] <;> decide), thM_ok]
  refine r_if_ne (tgt := 15) dX10_looks_10 (by decide) (fun _ => ?_) (fun hz => absurd hz (show ¬ _ from (by decide)))
  refine r_aload_n dX10_looks_15 rfl ?_
  refine r_virt (kc2 := 0) (ks2 := 0) (q_fewest m hC0 hz0) lk_X10_455 mc_X10_fewestLooks dX10_looks_16 (kM_0 hM) (by decide) rfl rfl (Nat.le_of_ble_eq_true rfl) (by decide) (by decide) (fun _ _ _ _ _ _ h => nomatch h.1) ?_
  rintro v1 n1 kd1 I1 J1 P1 ⟨h00, rfl, rfl, rfl, hF, hfd⟩
  cases h00
  simp only [Option.toList, List.nil_append, List.cons_append]
  rw [hw]
  rw [if_neg (show ¬ false = true by decide)]
  refine r_istore_n dX10_looks_19 (by decide) ?_
  refine r_iload_n dX10_looks_20 rfl ?_
  refine r_bipush (v := -2) dX10_looks_21 (by decide) ?_
  refine r_icmp_eq (tgt := 30) dX10_looks_23 (by decide) (fun _ => ?_) (fun hz => absurd (show _ from rfl) hz)
  refine r_iload_n dX10_looks_30 rfl ?_
  refine r_iret rfl dX10_looks_31 ?_
  exact pQ.lk rfl h0 hF hC0

set_option maxHeartbeats 4000000 in
set_option maxRecDepth 100000 in
theorem q_looks_no (m : Nat) (y : Int32) {t : Nat} {T : Nat → Nat} {fp : Int32} {rr : Nat → Int32} {H M : Nat} {un : Bool} {cs : Nat → List Nat} {tx : Nat → List Int32} {e : Lf} {im : Option Lf} {wk : Option (List Nat)} {n : Nat} {kd : mK} {I : mI} {J : mJ} {P : mP} (hC : RR m kd I P t T fp rr H M un cs tx e im wk) (hz : okZ t T H M cs e) (hy : (decide (y = 0) || decide (y = nI 1)) = false) : Ct yX10_looks cX10_looks 6 (some .int) 10 0 0 [.ref m, .int y] n kd I J P (pQ m n kd I J P (some (.int (nI 0))) 1 (RX m t T fp rr H M un cs tx e im wk)) := by
  refine ct_of 4 (by decide +kernel) (Nat.le_of_ble_eq_true rfl) rfl ?_
  refine r_aload_n dX10_looks_0 rfl ?_
  refine r_iconst (v := nI 0) dX10_looks_1 (by decide) ?_
  refine r_putI dX10_looks_2 fl_X10_193 rfl rfl (kM_0 hC.1) ?_
  refine q_th hC (fun I hC h0 => ?_)
  have hC0 := hC
  have hz0 := hz
  obtain ⟨hM, hT, hSt, hLf, hIm, hWk⟩ := hC
  obtain ⟨okt, oks, okl⟩ := hz
  have hH8 : H ≤ 8 := oks.2.1
  have hM20 : 2 ≤ M ∧ M ≤ 20 := oks.1
  have hH : I m 1 = nI H := hSt.1.1
  have hMo : I m 2 = nI M := hSt.1.2.1
  refine r_aload_n dX10_looks_5 rfl ?_
  refine r_iload_n dX10_looks_6 rfl ?_
  refine r_virtE (c_X10_isTwo m (y) hM h0) lk_X10_379 mc_X10_isTwo dX10_looks_7 (kM_0 hM) (by decide) rfl rfl (Nat.le_of_ble_eq_true rfl) ?_
  rw [show (decide (y = 0) || decide (y = nI 1)) = false from hy]
  refine r_if_ne (tgt := 15) dX10_looks_10 (by decide) (fun hz => absurd (show _ from rfl) hz) (fun _ => ?_)
  refine r_iconst (v := nI 0) dX10_looks_13 (by decide) ?_
  refine r_iret rfl dX10_looks_14 ?_
  exact pQ.th hC0 am_is.mk

set_option maxHeartbeats 4000000 in
set_option maxRecDepth 100000 in
theorem q_looks_0 (m : Nat) {t : Nat} {T : Nat → Nat} {fp : Int32} {rr : Nat → Int32} {H M : Nat} {un : Bool} {cs : Nat → List Nat} {tx : Nat → List Int32} {e : Lf} {im : Option Lf} {wk : Option (List Nat)} {n : Nat} {kd : mK} {I : mI} {J : mJ} {P : mP} (hC : RR m kd I P t T fp rr H M un cs tx e im wk) (hz : okZ t T H M cs e) (hw : fwB (zN H M un cs e) = true) : Ct yX10_looks cX10_looks 6 (some .int) 10 0 0 [.ref m, .int (nI 0)] n kd I J P (pQ m n kd I J P (some (.int (lkA 0 H (fsN H M un cs e)))) 0 (RX m t T fp rr H M un cs tx e im wk)) := by
  refine ct_of 4 (by decide +kernel) (Nat.le_of_ble_eq_true rfl) rfl ?_
  refine r_aload_n dX10_looks_0 rfl ?_
  refine r_iconst (v := nI 0) dX10_looks_1 (by decide) ?_
  refine r_putI dX10_looks_2 fl_X10_193 rfl rfl (kM_0 hC.1) ?_
  refine q_th hC (fun I hC h0 => ?_)
  have hC0 := hC
  have hz0 := hz
  obtain ⟨hM, hT, hSt, hLf, hIm, hWk⟩ := hC
  obtain ⟨okt, oks, okl⟩ := hz
  have hH8 : H ≤ 8 := oks.2.1
  have hM20 : 2 ≤ M ∧ M ≤ 20 := oks.1
  have hH : I m 1 = nI H := hSt.1.1
  have hMo : I m 2 = nI M := hSt.1.2.1
  have h40 := (fw_gd.mp hw).2
  have hL8 := lookV_8 H (fsN H M un cs e)
  have hrg : fDif H (fsN H M un cs e) ∧ fRng H M (fsN H M un cs e) := zR_rng hH8 hM20.2
  have hw40 : 2 ^ (fsN H M un cs e).length - 1 < 2 ^ 40 := Nat.lt_of_lt_of_le (Nat.sub_lt (Nat.two_pow_pos _) (by decide)) (Nat.pow_le_pow_right (by decide) h40)
  refine r_aload_n dX10_looks_5 rfl ?_
  refine r_iload_n dX10_looks_6 rfl ?_
  refine r_virtE (c_X10_isTwo m (nI 0) hM h0) lk_X10_379 mc_X10_isTwo dX10_looks_7 (kM_0 hM) (by decide) rfl rfl (Nat.le_of_ble_eq_true rfl) ?_
  rw [show (decide (nI 0 = 0) || decide (nI 0 = nI 1)) = true from (by decide), thM_ok]
  refine r_if_ne (tgt := 15) dX10_looks_10 (by decide) (fun _ => ?_) (fun hz => absurd hz (show ¬ _ from (by decide)))
  refine r_aload_n dX10_looks_15 rfl ?_
  refine r_virt (kc2 := 0) (ks2 := 0) (q_fewest m hC0 hz0) lk_X10_455 mc_X10_fewestLooks dX10_looks_16 (kM_0 hM) (by decide) rfl rfl (Nat.le_of_ble_eq_true rfl) (by decide) (by decide) (fun _ _ _ _ _ _ h => nomatch h.1) ?_
  rintro v1 n1 kd1 I1 J1 P1 ⟨h00, rfl, rfl, rfl, hF, hfd⟩
  cases h00
  simp only [Option.toList, List.nil_append, List.cons_append]
  rw [hw]
  rw [if_pos rfl]
  refine r_istore_n dX10_looks_19 (by decide) ?_
  refine r_iload_n dX10_looks_20 rfl ?_
  refine r_bipush (v := -2) dX10_looks_21 (by decide) ?_
  refine r_icmp_eq (tgt := 30) dX10_looks_23 (by decide) (fun hz => absurd hz (show ¬ _ from (nI_m2 (by omega)))) (fun _ => ?_)
  refine r_iload_n dX10_looks_26 rfl ?_
  refine r_if_ne (tgt := 32) dX10_looks_27 (by decide) (fun hz => absurd (show _ from rfl) hz) (fun _ => ?_)
  refine r_iload_n dX10_looks_30 rfl ?_
  refine r_iret rfl dX10_looks_31 ?_
  exact pQ.lk rfl h0 hF hC0

set_option maxHeartbeats 4000000 in
set_option maxRecDepth 100000 in
theorem q_looks_1 (m : Nat) {t : Nat} {T : Nat → Nat} {fp : Int32} {rr : Nat → Int32} {H M : Nat} {un : Bool} {cs : Nat → List Nat} {tx : Nat → List Int32} {e : Lf} {im : Option Lf} {wk : Option (List Nat)} {n : Nat} {kd : mK} {I : mI} {J : mJ} {P : mP} (hC : RR m kd I P t T fp rr H M un cs tx e im wk) (hz : okZ t T H M cs e) (hw : fwB (zN H M un cs e) = true) : Ct yX10_looks cX10_looks 6 (some .int) 10 0 0 [.ref m, .int (nI 1)] n kd I J P (pQ m n kd I J P (some (.int (lkA 1 H (fsN H M un cs e)))) 0 (RX m t T fp rr H M un cs tx e im wk)) := by
  refine ct_of 4 (by decide +kernel) (Nat.le_of_ble_eq_true rfl) rfl ?_
  refine r_aload_n dX10_looks_0 rfl ?_
  refine r_iconst (v := nI 0) dX10_looks_1 (by decide) ?_
  refine r_putI dX10_looks_2 fl_X10_193 rfl rfl (kM_0 hC.1) ?_
  refine q_th hC (fun I hC h0 => ?_)
  have hC0 := hC
  have hz0 := hz
  obtain ⟨hM, hT, hSt, hLf, hIm, hWk⟩ := hC
  obtain ⟨okt, oks, okl⟩ := hz
  have hH8 : H ≤ 8 := oks.2.1
  have hM20 : 2 ≤ M ∧ M ≤ 20 := oks.1
  have hH : I m 1 = nI H := hSt.1.1
  have hMo : I m 2 = nI M := hSt.1.2.1
  have h40 := (fw_gd.mp hw).2
  have hL8 := lookV_8 H (fsN H M un cs e)
  have hrg : fDif H (fsN H M un cs e) ∧ fRng H M (fsN H M un cs e) := zR_rng hH8 hM20.2
  have hw40 : 2 ^ (fsN H M un cs e).length - 1 < 2 ^ 40 := Nat.lt_of_lt_of_le (Nat.sub_lt (Nat.two_pow_pos _) (by decide)) (Nat.pow_le_pow_right (by decide) h40)
  by_cases h2 : 2 ≤ (fsN H M un cs e).length
  · have hL1 := lookV_1 (H := H) h2
    refine r_aload_n dX10_looks_5 rfl ?_
    refine r_iload_n dX10_looks_6 rfl ?_
    refine r_virtE (c_X10_isTwo m (nI 1) hM h0) lk_X10_379 mc_X10_isTwo dX10_looks_7 (kM_0 hM) (by decide) rfl rfl (Nat.le_of_ble_eq_true rfl) ?_
    rw [show (decide (nI 1 = 0) || decide (nI 1 = nI 1)) = true from (by decide), thM_ok]
    refine r_if_ne (tgt := 15) dX10_looks_10 (by decide) (fun _ => ?_) (fun hz => absurd hz (show ¬ _ from (by decide)))
    refine r_aload_n dX10_looks_15 rfl ?_
    refine r_virt (kc2 := 0) (ks2 := 0) (q_fewest m hC0 hz0) lk_X10_455 mc_X10_fewestLooks dX10_looks_16 (kM_0 hM) (by decide) rfl rfl (Nat.le_of_ble_eq_true rfl) (by decide) (by decide) (fun _ _ _ _ _ _ h => nomatch h.1) ?_
    rintro v1 n1 kd1 I1 J1 P1 ⟨h00, rfl, rfl, rfl, hF, hfd⟩
    cases h00
    simp only [Option.toList, List.nil_append, List.cons_append]
    rw [hw]
    rw [if_pos rfl]
    refine r_istore_n dX10_looks_19 (by decide) ?_
    refine r_iload_n dX10_looks_20 rfl ?_
    refine r_bipush (v := -2) dX10_looks_21 (by decide) ?_
    refine r_icmp_eq (tgt := 30) dX10_looks_23 (by decide) (fun hz => absurd hz (show ¬ _ from (nI_m2 (by omega)))) (fun _ => ?_)
    refine r_iload_n dX10_looks_26 rfl ?_
    refine r_if_ne (tgt := 32) dX10_looks_27 (by decide) (fun _ => ?_) (fun hz => absurd hz (show ¬ _ from (by decide)))
    refine r_aload_n dX10_looks_32 rfl ?_
    refine r_getI dX10_looks_33 fl_X10_413 rfl (kM_0 hM) ?_
    rw [(hfd hw).1]
    refine r_if_ne (tgt := 43) dX10_looks_36 (by decide) (fun _ => ?_) (fun hz => absurd hz (show ¬ _ from (by rw [z_eq (by omega)]; omega)))
    refine r_lconst (v := 1) dX10_looks_43 (by decide) ?_
    refine r_aload_n dX10_looks_44 rfl ?_
    refine r_getI dX10_looks_45 fl_X10_413 rfl (kM_0 hM) ?_
    rw [(hfd hw).1]
    refine r_lshl dX10_looks_48 ?_
    refine r_lconst (v := 1) dX10_looks_49 (by decide) ?_
    refine r_lsub dX10_looks_50 ?_
    rw [sh_jN _ h40]
    refine r_lstore_n dX10_looks_51 (by decide) ?_
    refine r_iconst (v := nI 0) dX10_looks_52 (by decide) ?_
    refine r_istore dX10_looks_53 (by decide) ?_
    obtain ⟨h52, h27, hpa⟩ := hfd hw
    have hH1 : I1 m 1 = nI H := by rw [hF.2.1 1 (by decide) (by decide)]; exact hH
    have hH2 : I1 m 2 = nI M := by rw [hF.2.1 2 (by decide) (by decide)]; exact hMo
    have hl := qlk_loop (n := n1) m H M (lookV H (fsN H M un cs e) - 1) (2 ^ (fsN H M un cs e).length - 1) (paF (nmF (fsN H M un cs e)) (fsN H M un cs e).length) hM hH1 hH2 (fun h v hh h1 h2 => hpa h v hh (by omega)) hH8 hM20.2 (by omega) hw40 (one_all h2) H 0 I1 J1 (by omega) twF.rf
    rw [show lookV H (fsN H M un cs e) - 1 + 1 = lookV H (fsN H M un cs e) by omega] at hl
    refine RuZ.mono hl (fun z n2 kd2 I2 J2 P2 hx => ?_)
    obtain ⟨hv, rfl, rfl, rfl, hg2⟩ := hx
    refine pQ.lk ?_ h0 (hF.tw hg2) hC0
    rw [hv, show lkA 1 H (fsN H M un cs e) = lkF H (fsN H M un cs e) from rfl]
    unfold lkF
    rw [if_neg (by omega)]
    rw [fdF_cg H 0 (fun x _ hx => lk_eq (r := lookV H (fsN H M un cs e) - 1) (h := x) hH8 hrg.2 h2 (by omega) (by omega))]
  · have hL0 := lookV_few (H := H) (show (fsN H M un cs e).length < 2 by omega)
    have hv : lkA 1 H (fsN H M un cs e) = -1 := by rw [show lkA 1 H (fsN H M un cs e) = lkF H (fsN H M un cs e) from rfl]; unfold lkF; rw [if_pos hL0]
    rw [hv]
    by_cases hc0 : (fsN H M un cs e).length = 0
    · by_cases hHz : H = 0
      · skip
        refine r_aload_n dX10_looks_5 rfl ?_
        refine r_iload_n dX10_looks_6 rfl ?_
        refine r_virtE (c_X10_isTwo m (nI 1) hM h0) lk_X10_379 mc_X10_isTwo dX10_looks_7 (kM_0 hM) (by decide) rfl rfl (Nat.le_of_ble_eq_true rfl) ?_
        rw [show (decide (nI 1 = 0) || decide (nI 1 = nI 1)) = true from (by decide), thM_ok]
        refine r_if_ne (tgt := 15) dX10_looks_10 (by decide) (fun _ => ?_) (fun hz => absurd hz (show ¬ _ from (by decide)))
        refine r_aload_n dX10_looks_15 rfl ?_
        refine r_virt (kc2 := 0) (ks2 := 0) (q_fewest m hC0 hz0) lk_X10_455 mc_X10_fewestLooks dX10_looks_16 (kM_0 hM) (by decide) rfl rfl (Nat.le_of_ble_eq_true rfl) (by decide) (by decide) (fun _ _ _ _ _ _ h => nomatch h.1) ?_
        rintro v1 n1 kd1 I1 J1 P1 ⟨h00, rfl, rfl, rfl, hF, hfd⟩
        cases h00
        simp only [Option.toList, List.nil_append, List.cons_append]
        rw [hw]
        rw [if_pos rfl]
        refine r_istore_n dX10_looks_19 (by decide) ?_
        refine r_iload_n dX10_looks_20 rfl ?_
        refine r_bipush (v := -2) dX10_looks_21 (by decide) ?_
        refine r_icmp_eq (tgt := 30) dX10_looks_23 (by decide) (fun hz => absurd hz (show ¬ _ from (nI_m2 (by omega)))) (fun _ => ?_)
        refine r_iload_n dX10_looks_26 rfl ?_
        refine r_if_ne (tgt := 32) dX10_looks_27 (by decide) (fun _ => ?_) (fun hz => absurd hz (show ¬ _ from (by decide)))
        refine r_aload_n dX10_looks_32 rfl ?_
        refine r_getI dX10_looks_33 fl_X10_413 rfl (kM_0 hM) ?_
        rw [(hfd hw).1]
        refine r_if_ne (tgt := 43) dX10_looks_36 (by decide) (fun hz => absurd (show _ from (by rw [hc0]; rfl)) hz) (fun _ => ?_)
        refine r_lconst (v := 0) dX10_looks_39 (by decide) ?_
        refine r_goto (tgt := 51) dX10_looks_40 (by decide) ?_
        refine r_lstore_n dX10_looks_51 (by decide) ?_
        refine r_iconst (v := nI 0) dX10_looks_52 (by decide) ?_
        refine r_istore dX10_looks_53 (by decide) ?_
        refine r_iload dX10_looks_55 rfl ?_
        refine r_aload_n dX10_looks_57 rfl ?_
        refine r_getI dX10_looks_58 fl_X10_350 rfl (kM_0 hM) ?_
        rw [hF.2.1 1 (by decide) (by decide), hH]
        refine r_icmp_ge (tgt := 88) dX10_looks_61 (by decide) (fun _ => ?_) (fun hz => absurd (show _ from (by rw [nI_leI (by omega) (by omega)]; omega)) hz)
        refine r_iconst (v := (-1)) dX10_looks_88 (by decide) ?_
        refine r_iret rfl dX10_looks_89 ?_
        exact pQ.lk rfl h0 hF hC0
      · skip
        refine r_aload_n dX10_looks_5 rfl ?_
        refine r_iload_n dX10_looks_6 rfl ?_
        refine r_virtE (c_X10_isTwo m (nI 1) hM h0) lk_X10_379 mc_X10_isTwo dX10_looks_7 (kM_0 hM) (by decide) rfl rfl (Nat.le_of_ble_eq_true rfl) ?_
        rw [show (decide (nI 1 = 0) || decide (nI 1 = nI 1)) = true from (by decide), thM_ok]
        refine r_if_ne (tgt := 15) dX10_looks_10 (by decide) (fun _ => ?_) (fun hz => absurd hz (show ¬ _ from (by decide)))
        refine r_aload_n dX10_looks_15 rfl ?_
        refine r_virt (kc2 := 0) (ks2 := 0) (q_fewest m hC0 hz0) lk_X10_455 mc_X10_fewestLooks dX10_looks_16 (kM_0 hM) (by decide) rfl rfl (Nat.le_of_ble_eq_true rfl) (by decide) (by decide) (fun _ _ _ _ _ _ h => nomatch h.1) ?_
        rintro v1 n1 kd1 I1 J1 P1 ⟨h00, rfl, rfl, rfl, hF, hfd⟩
        cases h00
        simp only [Option.toList, List.nil_append, List.cons_append]
        rw [hw]
        rw [if_pos rfl]
        refine r_istore_n dX10_looks_19 (by decide) ?_
        refine r_iload_n dX10_looks_20 rfl ?_
        refine r_bipush (v := -2) dX10_looks_21 (by decide) ?_
        refine r_icmp_eq (tgt := 30) dX10_looks_23 (by decide) (fun hz => absurd hz (show ¬ _ from (nI_m2 (by omega)))) (fun _ => ?_)
        refine r_iload_n dX10_looks_26 rfl ?_
        refine r_if_ne (tgt := 32) dX10_looks_27 (by decide) (fun _ => ?_) (fun hz => absurd hz (show ¬ _ from (by decide)))
        refine r_aload_n dX10_looks_32 rfl ?_
        refine r_getI dX10_looks_33 fl_X10_413 rfl (kM_0 hM) ?_
        rw [(hfd hw).1]
        refine r_if_ne (tgt := 43) dX10_looks_36 (by decide) (fun hz => absurd (show _ from (by rw [hc0]; rfl)) hz) (fun _ => ?_)
        refine r_lconst (v := 0) dX10_looks_39 (by decide) ?_
        refine r_goto (tgt := 51) dX10_looks_40 (by decide) ?_
        refine r_lstore_n dX10_looks_51 (by decide) ?_
        refine r_iconst (v := nI 0) dX10_looks_52 (by decide) ?_
        refine r_istore dX10_looks_53 (by decide) ?_
        refine r_iload dX10_looks_55 rfl ?_
        refine r_aload_n dX10_looks_57 rfl ?_
        refine r_getI dX10_looks_58 fl_X10_350 rfl (kM_0 hM) ?_
        rw [hF.2.1 1 (by decide) (by decide), hH]
        refine r_icmp_ge (tgt := 88) dX10_looks_61 (by decide) (fun hz => absurd hz (show ¬ _ from (by rw [nI_leI (by omega) (by omega)]; omega))) (fun _ => ?_)
        refine r_iload_n dX10_looks_64 rfl ?_
        refine r_if_le (tgt := 88) dX10_looks_65 (by decide) (fun _ => ?_) (fun hz => absurd (show _ from (by rw [hL0]; decide)) hz)
        refine r_iconst (v := (-1)) dX10_looks_88 (by decide) ?_
        refine r_iret rfl dX10_looks_89 ?_
        exact pQ.lk rfl h0 hF hC0
    · by_cases hHz : H = 0
      · skip
        refine r_aload_n dX10_looks_5 rfl ?_
        refine r_iload_n dX10_looks_6 rfl ?_
        refine r_virtE (c_X10_isTwo m (nI 1) hM h0) lk_X10_379 mc_X10_isTwo dX10_looks_7 (kM_0 hM) (by decide) rfl rfl (Nat.le_of_ble_eq_true rfl) ?_
        rw [show (decide (nI 1 = 0) || decide (nI 1 = nI 1)) = true from (by decide), thM_ok]
        refine r_if_ne (tgt := 15) dX10_looks_10 (by decide) (fun _ => ?_) (fun hz => absurd hz (show ¬ _ from (by decide)))
        refine r_aload_n dX10_looks_15 rfl ?_
        refine r_virt (kc2 := 0) (ks2 := 0) (q_fewest m hC0 hz0) lk_X10_455 mc_X10_fewestLooks dX10_looks_16 (kM_0 hM) (by decide) rfl rfl (Nat.le_of_ble_eq_true rfl) (by decide) (by decide) (fun _ _ _ _ _ _ h => nomatch h.1) ?_
        rintro v1 n1 kd1 I1 J1 P1 ⟨h00, rfl, rfl, rfl, hF, hfd⟩
        cases h00
        simp only [Option.toList, List.nil_append, List.cons_append]
        rw [hw]
        rw [if_pos rfl]
        refine r_istore_n dX10_looks_19 (by decide) ?_
        refine r_iload_n dX10_looks_20 rfl ?_
        refine r_bipush (v := -2) dX10_looks_21 (by decide) ?_
        refine r_icmp_eq (tgt := 30) dX10_looks_23 (by decide) (fun hz => absurd hz (show ¬ _ from (nI_m2 (by omega)))) (fun _ => ?_)
        refine r_iload_n dX10_looks_26 rfl ?_
        refine r_if_ne (tgt := 32) dX10_looks_27 (by decide) (fun _ => ?_) (fun hz => absurd hz (show ¬ _ from (by decide)))
        refine r_aload_n dX10_looks_32 rfl ?_
        refine r_getI dX10_looks_33 fl_X10_413 rfl (kM_0 hM) ?_
        rw [(hfd hw).1]
        refine r_if_ne (tgt := 43) dX10_looks_36 (by decide) (fun _ => ?_) (fun hz => absurd hz (show ¬ _ from (by rw [z_eq (by omega)]; omega)))
        refine r_lconst (v := 1) dX10_looks_43 (by decide) ?_
        refine r_aload_n dX10_looks_44 rfl ?_
        refine r_getI dX10_looks_45 fl_X10_413 rfl (kM_0 hM) ?_
        rw [(hfd hw).1]
        refine r_lshl dX10_looks_48 ?_
        refine r_lconst (v := 1) dX10_looks_49 (by decide) ?_
        refine r_lsub dX10_looks_50 ?_
        rw [sh_jN _ h40]
        refine r_lstore_n dX10_looks_51 (by decide) ?_
        refine r_iconst (v := nI 0) dX10_looks_52 (by decide) ?_
        refine r_istore dX10_looks_53 (by decide) ?_
        refine r_iload dX10_looks_55 rfl ?_
        refine r_aload_n dX10_looks_57 rfl ?_
        refine r_getI dX10_looks_58 fl_X10_350 rfl (kM_0 hM) ?_
        rw [hF.2.1 1 (by decide) (by decide), hH]
        refine r_icmp_ge (tgt := 88) dX10_looks_61 (by decide) (fun _ => ?_) (fun hz => absurd (show _ from (by rw [nI_leI (by omega) (by omega)]; omega)) hz)
        refine r_iconst (v := (-1)) dX10_looks_88 (by decide) ?_
        refine r_iret rfl dX10_looks_89 ?_
        exact pQ.lk rfl h0 hF hC0
      · skip
        refine r_aload_n dX10_looks_5 rfl ?_
        refine r_iload_n dX10_looks_6 rfl ?_
        refine r_virtE (c_X10_isTwo m (nI 1) hM h0) lk_X10_379 mc_X10_isTwo dX10_looks_7 (kM_0 hM) (by decide) rfl rfl (Nat.le_of_ble_eq_true rfl) ?_
        rw [show (decide (nI 1 = 0) || decide (nI 1 = nI 1)) = true from (by decide), thM_ok]
        refine r_if_ne (tgt := 15) dX10_looks_10 (by decide) (fun _ => ?_) (fun hz => absurd hz (show ¬ _ from (by decide)))
        refine r_aload_n dX10_looks_15 rfl ?_
        refine r_virt (kc2 := 0) (ks2 := 0) (q_fewest m hC0 hz0) lk_X10_455 mc_X10_fewestLooks dX10_looks_16 (kM_0 hM) (by decide) rfl rfl (Nat.le_of_ble_eq_true rfl) (by decide) (by decide) (fun _ _ _ _ _ _ h => nomatch h.1) ?_
        rintro v1 n1 kd1 I1 J1 P1 ⟨h00, rfl, rfl, rfl, hF, hfd⟩
        cases h00
        simp only [Option.toList, List.nil_append, List.cons_append]
        rw [hw]
        rw [if_pos rfl]
        refine r_istore_n dX10_looks_19 (by decide) ?_
        refine r_iload_n dX10_looks_20 rfl ?_
        refine r_bipush (v := -2) dX10_looks_21 (by decide) ?_
        refine r_icmp_eq (tgt := 30) dX10_looks_23 (by decide) (fun hz => absurd hz (show ¬ _ from (nI_m2 (by omega)))) (fun _ => ?_)
        refine r_iload_n dX10_looks_26 rfl ?_
        refine r_if_ne (tgt := 32) dX10_looks_27 (by decide) (fun _ => ?_) (fun hz => absurd hz (show ¬ _ from (by decide)))
        refine r_aload_n dX10_looks_32 rfl ?_
        refine r_getI dX10_looks_33 fl_X10_413 rfl (kM_0 hM) ?_
        rw [(hfd hw).1]
        refine r_if_ne (tgt := 43) dX10_looks_36 (by decide) (fun _ => ?_) (fun hz => absurd hz (show ¬ _ from (by rw [z_eq (by omega)]; omega)))
        refine r_lconst (v := 1) dX10_looks_43 (by decide) ?_
        refine r_aload_n dX10_looks_44 rfl ?_
        refine r_getI dX10_looks_45 fl_X10_413 rfl (kM_0 hM) ?_
        rw [(hfd hw).1]
        refine r_lshl dX10_looks_48 ?_
        refine r_lconst (v := 1) dX10_looks_49 (by decide) ?_
        refine r_lsub dX10_looks_50 ?_
        rw [sh_jN _ h40]
        refine r_lstore_n dX10_looks_51 (by decide) ?_
        refine r_iconst (v := nI 0) dX10_looks_52 (by decide) ?_
        refine r_istore dX10_looks_53 (by decide) ?_
        refine r_iload dX10_looks_55 rfl ?_
        refine r_aload_n dX10_looks_57 rfl ?_
        refine r_getI dX10_looks_58 fl_X10_350 rfl (kM_0 hM) ?_
        rw [hF.2.1 1 (by decide) (by decide), hH]
        refine r_icmp_ge (tgt := 88) dX10_looks_61 (by decide) (fun hz => absurd hz (show ¬ _ from (by rw [nI_leI (by omega) (by omega)]; omega))) (fun _ => ?_)
        refine r_iload_n dX10_looks_64 rfl ?_
        refine r_if_le (tgt := 88) dX10_looks_65 (by decide) (fun _ => ?_) (fun hz => absurd (show _ from (by rw [hL0]; decide)) hz)
        refine r_iconst (v := (-1)) dX10_looks_88 (by decide) ?_
        refine r_iret rfl dX10_looks_89 ?_
        exact pQ.lk rfl h0 hF hC0

