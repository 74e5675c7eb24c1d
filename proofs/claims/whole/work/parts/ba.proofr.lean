/-! PROOFS: the reference -/
set_option maxHeartbeats 4000000 in
theorem q_seeksB (m s h v : Nat) {t : Nat} {T : Nat → Nat} {fp : Int32} {rr : Nat → Int32} {H M : Nat} {un : Bool} {cs : Nat → List Nat} {tx : Nat → List Int32} {e : Lf} {im : Option Lf} {wk : Option (List Nat)} {n : Nat} {kd : mK} {I0 I : mI} {J : mJ} {P : mP} (hC : RR m kd I0 P t T fp rr H M un cs tx e im wk) (hz : okZ t T H M cs e) (hf : ∀ a, a ≠ m → I a = I0 a) (hj : ∀ j, j ≠ 58 → j ≠ 59 → I m j = I0 m j) (h58 : I m 58 = nI h) (h59 : I m 59 = nI v) (hh : h < 8) (hv : v ≤ M) (hr : ∀ k, k < H → bt (nI s) k = true → (!(cs k).isEmpty) = true) : Ct yX10_seeks cX10_seeks 6 (some .boolean) 5 0 0 [.ref m, .int (nI s), .int (nI 0), .int (nI 1)] n kd I J P (fun z n' kd' I' J' P' => z = .inl (some (.int (bz (!(resB un (LtO e.2.2.2.2) e.2.2.2.2.length H M (lkO cs H) (tvO H M cs e) s h v).2.2)))) ∧ n' = n ∧ kd' = kd ∧ J' = J ∧ P' = P ∧ rFr m I I' ∧ I' m 52 = nI (resB un (LtO e.2.2.2.2) e.2.2.2.2.length H M (lkO cs H) (tvO H M cs e) s h v).2.1.length) := by
  obtain ⟨hM, hT, hSt, hLf, hIm, hWk⟩ := hC
  obtain ⟨okt, oks, okl⟩ := hz
  have hH8 : H ≤ 8 := oks.2.1
  have hM20 : M ≤ 20 := oks.1.2
  have hSt' : rS I0 m H M un cs tx := hSt
  obtain ⟨h1, h2, h3, h4, h5, h6, h7, h8, h9, h10, h11, h12, h13⟩ := z_rf hM hSt hLf oks okl
  have g2 : I m 1 = nI H := (hj 1 (by decide) (by decide)).trans h2
  have g3 : I m 2 = nI M := (hj 2 (by decide) (by decide)).trans h3
  have gu : (!decide (I m 3 = 0)) = un := by rw [hj 3 (by decide) (by decide)]; exact h4
  have g54 : I m 54 = -1 := (hj 54 (by decide) (by decide)).trans h7
  have gL : I m 47 = nI e.2.2.2.2.length := (hj 47 (by decide) (by decide)).trans h5.1
  have glk : lkOkR I m H (lkO cs H) := by
    unfold lkOkR at h11 ⊢
    rw [hf (m + 6) (by omega), hj 1 (by decide) (by decide)]
    exact h11
  have hlen := resB_len (un := un) (Lt := LtO e.2.2.2.2) (L := e.2.2.2.2.length) (lk := lkO cs H) (tv := tvO H M cs e) s h v hH8 hM20
  have hsk := resB_eq (un := un) (Lt := LtO e.2.2.2.2) (L := e.2.2.2.2.length) (lk := lkO cs H) (tv := tvO H M cs e) s h v hH8 hM20
  have hsk' : skTop (TR I m H e.2.2.2.2.length (nI s) (nI 0) (lkO cs H) (tvN (I (m + 1)) (I (m + 2)) (nI M) H cs)) (barS (I m 58) (I m 59)) H M 1 = some (resB un (LtO e.2.2.2.2) e.2.2.2.2.length H M (lkO cs H) (tvO H M cs e) s h v) := by
    rw [h58, h59, ← hsk]
    congr 1
    funext N k
    rw [TR_TN, gu]
    unfold tvO
    rw [TN_w0 (Lt' := LtO e.2.2.2.2) (so' := fun h => nI (e.1 h)) (de' := fun h => nI (e.2.1 h)) (fun k hk => ⟨by rw [hf _ (by omega)]; exact (hLf.1 k hk).1, by rw [hf _ (by omega)]; exact (hLf.1 k hk).2.1⟩)]
  have hT2 := hT_ref (lk := lkO cs H) (rid := cs) (n := n) (J := J) h1 hH8 g2 (nI s) (fun k hk => by rw [g54]; exact nI_m1 (by omega)) (fun k hk hb => by rw [hf (m + 5) (by omega), hf (m + 7) (by omega)]; exact h12 k hk (hr k hk hb)) h13
  rw [g3] at hT2
  refine Ct.mono (c_X10_seeks m H M e.2.2.2.2.length 1 (nI s) (nI 0) (lkO cs H) (tvN (I (m + 1)) (I (m + 2)) (nI M) H cs) (resB un (LtO e.2.2.2.2) e.2.2.2.2.length H M (lkO cs H) (tvO H M cs e) s h v) h1 hH8 g2 g3 hM20 gL h5.2 (by decide) glk (fun k hk hx => ⟨v, hv, h59⟩) (fun N k h Pl R Nb q a b c d e => hT2 N k h Pl R Nb q a b c d e) (by decide) hsk') ?_
  rintro z n' kd' I' J' P' ⟨Pl, R, rfl, rfl, rfl, rfl, rfl, rfl⟩
  refine ⟨by rw [decide_eq_true (by omega), Bool.and_true], rfl, rfl, rfl, rfl, ⟨fun a x y z u => ?_, fun j x y => ?_⟩, ?_⟩
  · unfold xM; rw [am_up_n _ _ x, am_up_n _ _ u, am_up_n _ _ y, am_up_n _ _ z]
  · rw [xM_m, qRn _ _ _ x y]
  · rw [xM_m, qR52, cut_1 hlen]
/-- what is left of the state where numbers were barred -/
theorem RR.br {m t : Nat} {kd : mK} {I I' : mI} {P : mP} {T : Nat → Nat} {fp : Int32} {rr : Nat → Int32} {H M : Nat} {un : Bool} {cs : Nat → List Nat} {tx : Nat → List Int32} {e : Lf} {im : Option Lf} {wk : Option (List Nat)} (hf : ∀ a, a ≠ m → a ≠ m + 25 → a ≠ m + 26 → a ≠ m + 27 → I' a = I a) (hj : ∀ j, j ≠ 52 → j ≠ 53 → j ≠ 59 → I' m j = I m j) (h : RR m kd I P t T fp rr H M un cs tx e im wk) : RR m kd I' P t T fp rr H M un cs tx e im wk := RR.qu (fun a a1 a2 a3 a4 => hf a (by omega) (by omega) (by omega) (by omega)) (fun j q => hj j (by omega) (by omega) (by omega)) h

set_option maxHeartbeats 4000000 in
set_option maxRecDepth 100000 in
theorem wi_proofR (m z h : Nat) {t : Nat} {T : Nat → Nat} {fp : Int32} {rr : Nat → Int32} {H M : Nat} {un : Bool} {cs : Nat → List Nat} {tx : Nat → List Int32} {e : Lf} {im : Option Lf} {wk : Option (List Nat)} {n : Nat} {kd : mK} {J : mJ} {P : mP} {I0 : mI} (hz : okZ t T H M cs e) (hz8 : z ≤ 8) (hh : h < H) (post : am_Post) : ∀ (c t9 : Nat) (z5 : Option Value) (I : mI), t9 + c = 256 → RR m kd I P t T fp rr H M un cs tx e im wk → I m 0 = 0 → (∀ a, (a < m ∨ m + 55 < a) → I a = I0 a) → (∀ v I', kn1 (RPf un (LtO e.2.2.2.2) e.2.2.2.2.length H M (lkO cs H) (tvO H M cs e) h) (okK (spB H cs e) z) c t9 = some v → RR m kd I' P t T fp rr H M un cs tx e im wk → I' m 0 = 0 → (∀ a, (a < m ∨ m + 55 < a) → I' a = I0 a) → post (.inl (some (.int v))) n kd I' J P) → (kn1 (RPf un (LtO e.2.2.2.2) e.2.2.2.2.length H M (lkO cs H) (tvO H M cs e) h) (okK (spB H cs e) z) c t9 = none → ∀ z5 I', RR m kd I' P t T fp rr H M un cs tx e im wk → I' m 0 = 0 → (∀ a, (a < m ∨ m + 55 < a) → I' a = I0 a) → Ru yX10_proof.cls cX10_proof 6 (some .int) yX10_proof.name 10 (post) 0 0 138 [some (.ref m), some (.int (nI h)), some (.int (nI (spB H cs e))), some (.int (nI z)), some (.int (nI 256)), z5] [] n kd I' J P) → Ru yX10_proof.cls cX10_proof 6 (some .int) yX10_proof.name 10 (post) 0 0 31 [some (.ref m), some (.int (nI h)), some (.int (nI (spB H cs e))), some (.int (nI z)), some (.int (nI t9)), z5] [] n kd I J P := by
  have oks := hz.2.1
  have hH8 : H ≤ 8 := oks.2.1
  have hM20 : 2 ≤ M ∧ M ≤ 20 := oks.1
  have hp := spB_lt (cs := cs) (e := e) hH8
  intro c
  induction c with
  | zero =>
    intro t9 z5 I ht hC h0 hB h1 h2
    have ht1 : t9 = 256 := by omega
    subst ht1
    refine r_iload dX10_proof_31 rfl ?_
    refine r_sipush (v := nI 256) dX10_proof_33 (by decide) ?_
    refine r_icmp_ge (tgt := 138) dX10_proof_36 (by decide) (fun _ => ?_) (fun hz => absurd (show _ from (by rw [nI_leI (by omega) (by omega)]; omega)) hz)
    exact h2 rfl z5 I hC h0 hB
  | succ c ih =>
    intro t9 z5 I ht hC h0 hB h1 h2
    have hM := hC.1
    unfold kn1 at h1 h2
    have h8 := pc8_le t9 (by omega)
    by_cases c1 : subK (spB H cs e) t9 = true
    · have hsub := c1
      have c1' : nI t9 &&& (nI (spB H cs e) ^^^ (-1)) = 0 := of_decide_eq_true c1
      by_cases cz : pc8 t9 = z
      · have hok : okK (spB H cs e) z t9 = true := by unfold okK; rw [c1, decide_eq_true cz]; rfl
        have hl1 := resK_len (un := un) (Lt := LtO e.2.2.2.2) (L := e.2.2.2.2.length) (lk := lkO cs H) (tv := tvO H M cs e) t9 hH8 hM20.2
        have hg0 : gdR (resK un (LtO e.2.2.2.2) e.2.2.2.2.length H M (lkO cs H) (tvO H M cs e) t9) = !(resK un (LtO e.2.2.2.2) e.2.2.2.2.length H M (lkO cs H) (tvO H M cs e) t9).2.2 := gdR_2 (by omega)
        by_cases c3 : (resK un (LtO e.2.2.2.2) e.2.2.2.2.length H M (lkO cs H) (tvO H M cs e) t9).2.2 = true
        · have hg : gdR (resK un (LtO e.2.2.2.2) e.2.2.2.2.length H M (lkO cs H) (tvO H M cs e) t9) = false := by rw [hg0, c3]; rfl
          have hR : (RPf un (LtO e.2.2.2.2) e.2.2.2.2.length H M (lkO cs H) (tvO H M cs e) h) t9 = -2 := by unfold RPf; rw [if_pos c3]
          rw [if_pos ⟨hok, by rw [hR]; decide⟩, if_pos hR] at h1
          refine r_iload dX10_proof_31 rfl ?_
          refine r_sipush (v := nI 256) dX10_proof_33 (by decide) ?_
          refine r_icmp_ge (tgt := 138) dX10_proof_36 (by decide) (fun hz => absurd hz (show ¬ _ from (by rw [nI_leI (by omega) (by omega)]; omega))) (fun _ => ?_)
          refine r_iload dX10_proof_39 rfl ?_
          refine r_iload_n dX10_proof_41 rfl ?_
          refine r_iconst (v := (-1)) dX10_proof_42 (by decide) ?_
          refine r_ixor dX10_proof_43 ?_
          refine r_iand dX10_proof_44 ?_
          refine r_if_ne (tgt := 132) dX10_proof_45 (by decide) (fun hz => absurd (show _ from c1') hz) (fun _ => ?_)
          refine r_iload dX10_proof_48 rfl ?_
          refine r_statE (c_X10_bits (nI t9)) lk_X10_448 mc_X10_bits dX10_proof_50 (by decide) rfl rfl (Nat.le_of_ble_eq_true rfl) ?_
          rw [pc_21 t9 (by omega)]
          refine r_iload_n dX10_proof_53 rfl ?_
          refine r_icmp_eq (tgt := 60) dX10_proof_54 (by decide) (fun _ => ?_) (fun hz => absurd (show _ from (by rw [cz])) hz)
          refine r_aload_n dX10_proof_60 rfl ?_
          refine r_iload dX10_proof_61 rfl ?_
          refine r_iconst (v := nI 0) dX10_proof_63 (by decide) ?_
          refine r_iconst (v := nI 1) dX10_proof_64 (by decide) ?_
          refine r_virt (kc2 := 0) (ks2 := 0) (q_seeksR m (nI t9) (nI 0) 1 hC hz (by decide) (by decide) (fun k hk hb => (sp_bit (e := e) (by omega) (sub_bit hsub k (by omega) hb)).2)) lk_X10_432 mc_X10_seeks dX10_proof_65 hM.1 (by decide) rfl rfl (Nat.le_of_ble_eq_true rfl) (by decide) (by decide) (fun _ _ _ _ _ _ h => nomatch h.1) ?_
          rintro v1 n1 kd1 I1 J1 P1 ⟨h00, rfl, rfl, rfl, rfl, hfr, hfd⟩
          cases h00
          simp only [Option.toList, List.nil_append, List.cons_append]
          have hC1 := RR.rf hfr hC
          have h01 : I1 m 0 = 0 := by rw [hfr.2 0 (by decide) (by decide)]; exact h0
          have hB1 : ∀ a, (a < m ∨ m + 55 < a) → I1 a = I0 a := fun a ha => by rw [hfr.1 a (by omega) (by omega) (by omega) (by omega)]; exact hB a ha
          rw [show zR H M un cs e (nI t9) (nI 0) 1 = (resK un (LtO e.2.2.2.2) e.2.2.2.2.length H M (lkO cs H) (tvO H M cs e) t9) from rfl] at hfd ⊢
          rw [hg] at hfd ⊢
          refine r_if_ne (tgt := 74) dX10_proof_68 (by decide) (fun hz => absurd (show _ from rfl) hz) (fun _ => ?_)
          refine r_bipush (v := (-2)) dX10_proof_71 (by decide) ?_
          refine r_iret rfl dX10_proof_73 ?_
          exact h1 _ _ rfl hC1 h01 hB1
        · have c3' : (resK un (LtO e.2.2.2.2) e.2.2.2.2.length H M (lkO cs H) (tvO H M cs e) t9).2.2 = false := by simpa using c3
          have hg : gdR (resK un (LtO e.2.2.2.2) e.2.2.2.2.length H M (lkO cs H) (tvO H M cs e) t9) = true := by rw [hg0, c3']; rfl
          by_cases c4 : (resK un (LtO e.2.2.2.2) e.2.2.2.2.length H M (lkO cs H) (tvO H M cs e) t9).2.1.length = 0
          · have hR : (RPf un (LtO e.2.2.2.2) e.2.2.2.2.length H M (lkO cs H) (tvO H M cs e) h) t9 = nI 1 := by unfold RPf; rw [if_neg c3, if_pos c4]
            rw [if_neg (fun y => absurd y.2 (by rw [hR]; decide))] at h1 h2
            refine r_iload dX10_proof_31 rfl ?_
            refine r_sipush (v := nI 256) dX10_proof_33 (by decide) ?_
            refine r_icmp_ge (tgt := 138) dX10_proof_36 (by decide) (fun hz => absurd hz (show ¬ _ from (by rw [nI_leI (by omega) (by omega)]; omega))) (fun _ => ?_)
            refine r_iload dX10_proof_39 rfl ?_
            refine r_iload_n dX10_proof_41 rfl ?_
            refine r_iconst (v := (-1)) dX10_proof_42 (by decide) ?_
            refine r_ixor dX10_proof_43 ?_
            refine r_iand dX10_proof_44 ?_
            refine r_if_ne (tgt := 132) dX10_proof_45 (by decide) (fun hz => absurd (show _ from c1') hz) (fun _ => ?_)
            refine r_iload dX10_proof_48 rfl ?_
            refine r_statE (c_X10_bits (nI t9)) lk_X10_448 mc_X10_bits dX10_proof_50 (by decide) rfl rfl (Nat.le_of_ble_eq_true rfl) ?_
            rw [pc_21 t9 (by omega)]
            refine r_iload_n dX10_proof_53 rfl ?_
            refine r_icmp_eq (tgt := 60) dX10_proof_54 (by decide) (fun _ => ?_) (fun hz => absurd (show _ from (by rw [cz])) hz)
            refine r_aload_n dX10_proof_60 rfl ?_
            refine r_iload dX10_proof_61 rfl ?_
            refine r_iconst (v := nI 0) dX10_proof_63 (by decide) ?_
            refine r_iconst (v := nI 1) dX10_proof_64 (by decide) ?_
            refine r_virt (kc2 := 0) (ks2 := 0) (q_seeksR m (nI t9) (nI 0) 1 hC hz (by decide) (by decide) (fun k hk hb => (sp_bit (e := e) (by omega) (sub_bit hsub k (by omega) hb)).2)) lk_X10_432 mc_X10_seeks dX10_proof_65 hM.1 (by decide) rfl rfl (Nat.le_of_ble_eq_true rfl) (by decide) (by decide) (fun _ _ _ _ _ _ h => nomatch h.1) ?_
            rintro v1 n1 kd1 I1 J1 P1 ⟨h00, rfl, rfl, rfl, rfl, hfr, hfd⟩
            cases h00
            simp only [Option.toList, List.nil_append, List.cons_append]
            have hC1 := RR.rf hfr hC
            have h01 : I1 m 0 = 0 := by rw [hfr.2 0 (by decide) (by decide)]; exact h0
            have hB1 : ∀ a, (a < m ∨ m + 55 < a) → I1 a = I0 a := fun a ha => by rw [hfr.1 a (by omega) (by omega) (by omega) (by omega)]; exact hB a ha
            rw [show zR H M un cs e (nI t9) (nI 0) 1 = (resK un (LtO e.2.2.2.2) e.2.2.2.2.length H M (lkO cs H) (tvO H M cs e) t9) from rfl] at hfd ⊢
            rw [hg] at hfd ⊢
            refine r_if_ne (tgt := 74) dX10_proof_68 (by decide) (fun _ => ?_) (fun hz => absurd hz (show ¬ _ from (by decide)))
            refine r_aload_n dX10_proof_74 rfl ?_
            refine r_getI dX10_proof_75 fl_X10_413 rfl hM.1 ?_
            rw [(hfd rfl).1]
            refine r_if_ne (tgt := 84) dX10_proof_78 (by decide) (fun hz => absurd (show _ from (by rw [c4]; rfl)) hz) (fun _ => ?_)
            refine r_goto (tgt := 132) dX10_proof_81 (by decide) ?_
            refine r_iinc (v := nI (t9 + 1)) dX10_proof_132 rfl (nI_inc t9) ?_
            refine r_goto (tgt := 31) dX10_proof_135 (by decide) ?_
            exact ih (t9 + 1) _ I1 (by omega) hC1 h01 hB1 h1 h2
          · have hrg := resK_rng (un := un) (Lt := LtO e.2.2.2.2) (L := e.2.2.2.2.length) (lk := lkO cs H) (tv := tvO H M cs e) t9 hH8 hM20.2
            have hvM : (nmF (resK un (LtO e.2.2.2.2) e.2.2.2.2.length H M (lkO cs H) (tvO H M cs e) t9).2.1 0 h) ≤ M := by
              unfold nmF
              have hm : (resK un (LtO e.2.2.2.2) e.2.2.2.2.length H M (lkO cs H) (tvO H M cs e) t9).2.1.reverse.getD 0 (fun _ => 0) ∈ (resK un (LtO e.2.2.2.2) e.2.2.2.2.length H M (lkO cs H) (tvO H M cs e) t9).2.1 := by
                rw [List.getD_eq_getElem?_getD, List.getElem?_eq_getElem (by rw [List.length_reverse]; omega)]
                exact List.mem_reverse.mp (List.getElem_mem _)
              exact (hrg _ hm h hh).2
            have hl2 := resB_len (un := un) (Lt := LtO e.2.2.2.2) (L := e.2.2.2.2.length) (lk := lkO cs H) (tv := tvO H M cs e) t9 h (nmF (resK un (LtO e.2.2.2.2) e.2.2.2.2.length H M (lkO cs H) (tvO H M cs e) t9).2.1 0 h) hH8 hM20.2
            by_cases c5 : (resB un (LtO e.2.2.2.2) e.2.2.2.2.length H M (lkO cs H) (tvO H M cs e) t9 h (nmF (resK un (LtO e.2.2.2.2) e.2.2.2.2.length H M (lkO cs H) (tvO H M cs e) t9).2.1 0 h)).2.2 = true
            · have hR : (RPf un (LtO e.2.2.2.2) e.2.2.2.2.length H M (lkO cs H) (tvO H M cs e) h) t9 = -2 := by unfold RPf; rw [if_neg c3, if_neg c4, if_pos c5]
              rw [if_pos ⟨hok, by rw [hR]; decide⟩, if_pos hR] at h1
              refine r_iload dX10_proof_31 rfl ?_
              refine r_sipush (v := nI 256) dX10_proof_33 (by decide) ?_
              refine r_icmp_ge (tgt := 138) dX10_proof_36 (by decide) (fun hz => absurd hz (show ¬ _ from (by rw [nI_leI (by omega) (by omega)]; omega))) (fun _ => ?_)
              refine r_iload dX10_proof_39 rfl ?_
              refine r_iload_n dX10_proof_41 rfl ?_
              refine r_iconst (v := (-1)) dX10_proof_42 (by decide) ?_
              refine r_ixor dX10_proof_43 ?_
              refine r_iand dX10_proof_44 ?_
              refine r_if_ne (tgt := 132) dX10_proof_45 (by decide) (fun hz => absurd (show _ from c1') hz) (fun _ => ?_)
              refine r_iload dX10_proof_48 rfl ?_
              refine r_statE (c_X10_bits (nI t9)) lk_X10_448 mc_X10_bits dX10_proof_50 (by decide) rfl rfl (Nat.le_of_ble_eq_true rfl) ?_
              rw [pc_21 t9 (by omega)]
              refine r_iload_n dX10_proof_53 rfl ?_
              refine r_icmp_eq (tgt := 60) dX10_proof_54 (by decide) (fun _ => ?_) (fun hz => absurd (show _ from (by rw [cz])) hz)
              refine r_aload_n dX10_proof_60 rfl ?_
              refine r_iload dX10_proof_61 rfl ?_
              refine r_iconst (v := nI 0) dX10_proof_63 (by decide) ?_
              refine r_iconst (v := nI 1) dX10_proof_64 (by decide) ?_
              refine r_virt (kc2 := 0) (ks2 := 0) (q_seeksR m (nI t9) (nI 0) 1 hC hz (by decide) (by decide) (fun k hk hb => (sp_bit (e := e) (by omega) (sub_bit hsub k (by omega) hb)).2)) lk_X10_432 mc_X10_seeks dX10_proof_65 hM.1 (by decide) rfl rfl (Nat.le_of_ble_eq_true rfl) (by decide) (by decide) (fun _ _ _ _ _ _ h => nomatch h.1) ?_
              rintro v1 n1 kd1 I1 J1 P1 ⟨h00, rfl, rfl, rfl, rfl, hfr, hfd⟩
              cases h00
              simp only [Option.toList, List.nil_append, List.cons_append]
              have hC1 := RR.rf hfr hC
              have h01 : I1 m 0 = 0 := by rw [hfr.2 0 (by decide) (by decide)]; exact h0
              have hB1 : ∀ a, (a < m ∨ m + 55 < a) → I1 a = I0 a := fun a ha => by rw [hfr.1 a (by omega) (by omega) (by omega) (by omega)]; exact hB a ha
              rw [show zR H M un cs e (nI t9) (nI 0) 1 = (resK un (LtO e.2.2.2.2) e.2.2.2.2.length H M (lkO cs H) (tvO H M cs e) t9) from rfl] at hfd ⊢
              rw [hg] at hfd ⊢
              refine r_if_ne (tgt := 74) dX10_proof_68 (by decide) (fun _ => ?_) (fun hz => absurd hz (show ¬ _ from (by decide)))
              refine r_aload_n dX10_proof_74 rfl ?_
              refine r_getI dX10_proof_75 fl_X10_413 rfl hM.1 ?_
              rw [(hfd rfl).1]
              refine r_if_ne (tgt := 84) dX10_proof_78 (by decide) (fun _ => ?_) (fun hz => absurd hz (show ¬ _ from (nI_ne0 (by omega) (by omega))))
              refine r_aload_n dX10_proof_84 rfl ?_
              refine r_iload_n dX10_proof_85 rfl ?_
              refine r_putI dX10_proof_86 fl_X10_102 rfl rfl (kM_0 hM) ?_
              try simp (disch := omega) only [am_up_s, am_up_n, am_up_up]
              refine r_aload_n dX10_proof_89 rfl ?_
              refine r_aload_n dX10_proof_90 rfl ?_
              refine r_iconst (v := nI 0) dX10_proof_91 (by decide) ?_
              refine r_iload_n dX10_proof_92 rfl ?_
              refine r_virtE (c_X10_at m 0 h hM (by decide) (by omega)) lk_X10_439 mc_X10_at dX10_proof_93 hM.1 (by decide) rfl rfl (Nat.le_of_ble_eq_true rfl) ?_
              rw [am_up_n _ _ (show m + 27 ≠ m by omega), (hfd rfl).2 0 h (by omega) hh]
              refine r_putI dX10_proof_96 fl_X10_419 rfl rfl hM.1 ?_
              simp (disch := omega) only [am_up_s, am_up_n, am_up_up]
              have i2 : ∀ a, a ≠ m → (va_up I1 m (va_up (va_up (I1 m) 58 (nI h)) 59 (nI (nmF (resK un (LtO e.2.2.2.2) e.2.2.2.2.length H M (lkO cs H) (tvO H M cs e) t9).2.1 0 h)))) a = I1 a := fun a a1 => am_up_n _ _ a1
              have i2j : ∀ j, j ≠ 58 → j ≠ 59 → (va_up I1 m (va_up (va_up (I1 m) 58 (nI h)) 59 (nI (nmF (resK un (LtO e.2.2.2.2) e.2.2.2.2.length H M (lkO cs H) (tvO H M cs e) t9).2.1 0 h)))) m j = I1 m j := fun j j1 j2 => by rw [am_up_s, am_up_n _ _ j2, am_up_n _ _ j1]
              have i58 : (va_up I1 m (va_up (va_up (I1 m) 58 (nI h)) 59 (nI (nmF (resK un (LtO e.2.2.2.2) e.2.2.2.2.length H M (lkO cs H) (tvO H M cs e) t9).2.1 0 h)))) m 58 = nI h := by rw [am_up_s, am_up_n _ _ (by decide), am_up_s]
              have i59 : (va_up I1 m (va_up (va_up (I1 m) 58 (nI h)) 59 (nI (nmF (resK un (LtO e.2.2.2.2) e.2.2.2.2.length H M (lkO cs H) (tvO H M cs e) t9).2.1 0 h)))) m 59 = nI (nmF (resK un (LtO e.2.2.2.2) e.2.2.2.2.length H M (lkO cs H) (tvO H M cs e) t9).2.1 0 h) := by rw [am_up_s, am_up_s]
              generalize (va_up I1 m (va_up (va_up (I1 m) 58 (nI h)) 59 (nI (nmF (resK un (LtO e.2.2.2.2) e.2.2.2.2.length H M (lkO cs H) (tvO H M cs e) t9).2.1 0 h)))) = I2 at i2 i2j i58 i59 ⊢
              refine r_aload_n dX10_proof_99 rfl ?_
              refine r_iload dX10_proof_100 rfl ?_
              refine r_iconst (v := nI 0) dX10_proof_102 (by decide) ?_
              refine r_iconst (v := nI 1) dX10_proof_103 (by decide) ?_
              refine r_virt (kc2 := 0) (ks2 := 0) (q_seeksB m t9 h (nmF (resK un (LtO e.2.2.2.2) e.2.2.2.2.length H M (lkO cs H) (tvO H M cs e) t9).2.1 0 h) hC1 hz i2 i2j i58 i59 (by omega) hvM (fun k hk hb => (sp_bit (e := e) (by omega) (sub_bit hsub k (by omega) hb)).2)) lk_X10_432 mc_X10_seeks dX10_proof_104 hM.1 (by decide) rfl rfl (Nat.le_of_ble_eq_true rfl) (by decide) (by decide) (fun _ _ _ _ _ _ h => nomatch h.1) ?_
              rintro v3 n3 kd3 I3 J3 P3 ⟨h00, rfl, rfl, rfl, rfl, hfr3, h523⟩
              cases h00
              simp only [Option.toList, List.nil_append, List.cons_append]
              refine r_istore dX10_proof_107 (by decide) ?_
              refine r_aload_n dX10_proof_109 rfl ?_
              refine r_iconst (v := (-1)) dX10_proof_110 (by decide) ?_
              refine r_putI dX10_proof_111 fl_X10_102 rfl rfl hM.1 ?_
              have hC4 : RR m kd3 (va_up I3 m (va_up (I3 m) 58 (-1))) P3 t T fp rr H M un cs tx e im wk := RR.br (I := I1) (fun a a1 a2 a3 a4 => by rw [am_up_n _ _ a1, hfr3.1 a a1 a2 a3 a4, i2 a a1]) (fun j j1 j2 j3 => by
                rw [am_up_s]
                by_cases q : j = 58
                · rw [q, am_up_s]; exact hC1.2.2.1.2.1.2.symm
                · rw [am_up_n _ _ q, hfr3.2 j j1 j2, i2j j q j3]) hC1
              have h04 : (va_up I3 m (va_up (I3 m) 58 (-1))) m 0 = 0 := by rw [am_up_s, am_up_n _ _ (by decide), hfr3.2 0 (by decide) (by decide), i2j 0 (by decide) (by decide)]; exact h01
              have hB4 : ∀ a, (a < m ∨ m + 55 < a) → (va_up I3 m (va_up (I3 m) 58 (-1))) a = I0 a := fun a ha => by rw [am_up_n _ _ (by omega), hfr3.1 a (by omega) (by omega) (by omega) (by omega), i2 a (by omega)]; exact hB1 a ha
              have h524 : (va_up I3 m (va_up (I3 m) 58 (-1))) m 52 = nI (resB un (LtO e.2.2.2.2) e.2.2.2.2.length H M (lkO cs H) (tvO H M cs e) t9 h (nmF (resK un (LtO e.2.2.2.2) e.2.2.2.2.length H M (lkO cs H) (tvO H M cs e) t9).2.1 0 h)).2.1.length := by rw [am_up_s, am_up_n _ _ (by decide)]; exact h523
              generalize (va_up I3 m (va_up (I3 m) 58 (-1))) = I4 at hC4 h04 hB4 h524 ⊢
              refine r_iload dX10_proof_114 rfl ?_
              refine r_if_ne (tgt := 122) dX10_proof_116 (by decide) (fun hz => absurd (show _ from (by rw [c5]; rfl)) hz) (fun _ => ?_)
              refine r_bipush (v := (-2)) dX10_proof_119 (by decide) ?_
              refine r_iret rfl dX10_proof_121 ?_
              exact h1 _ _ rfl hC4 h04 hB4
            · have c5' : (resB un (LtO e.2.2.2.2) e.2.2.2.2.length H M (lkO cs H) (tvO H M cs e) t9 h (nmF (resK un (LtO e.2.2.2.2) e.2.2.2.2.length H M (lkO cs H) (tvO H M cs e) t9).2.1 0 h)).2.2 = false := by simpa using c5
              have hR : (RPf un (LtO e.2.2.2.2) e.2.2.2.2.length H M (lkO cs H) (tvO H M cs e) h) t9 = nI (resB un (LtO e.2.2.2.2) e.2.2.2.2.length H M (lkO cs H) (tvO H M cs e) t9 h (nmF (resK un (LtO e.2.2.2.2) e.2.2.2.2.length H M (lkO cs H) (tvO H M cs e) t9).2.1 0 h)).2.1.length := by unfold RPf; rw [if_neg c3, if_neg c4, if_neg c5]
              by_cases c6 : (resB un (LtO e.2.2.2.2) e.2.2.2.2.length H M (lkO cs H) (tvO H M cs e) t9 h (nmF (resK un (LtO e.2.2.2.2) e.2.2.2.2.length H M (lkO cs H) (tvO H M cs e) t9).2.1 0 h)).2.1.length = 0
              · rw [if_pos ⟨hok, by rw [hR, c6]; decide⟩, if_neg (by rw [hR, c6]; decide)] at h1
                refine r_iload dX10_proof_31 rfl ?_
                refine r_sipush (v := nI 256) dX10_proof_33 (by decide) ?_
                refine r_icmp_ge (tgt := 138) dX10_proof_36 (by decide) (fun hz => absurd hz (show ¬ _ from (by rw [nI_leI (by omega) (by omega)]; omega))) (fun _ => ?_)
                refine r_iload dX10_proof_39 rfl ?_
                refine r_iload_n dX10_proof_41 rfl ?_
                refine r_iconst (v := (-1)) dX10_proof_42 (by decide) ?_
                refine r_ixor dX10_proof_43 ?_
                refine r_iand dX10_proof_44 ?_
                refine r_if_ne (tgt := 132) dX10_proof_45 (by decide) (fun hz => absurd (show _ from c1') hz) (fun _ => ?_)
                refine r_iload dX10_proof_48 rfl ?_
                refine r_statE (c_X10_bits (nI t9)) lk_X10_448 mc_X10_bits dX10_proof_50 (by decide) rfl rfl (Nat.le_of_ble_eq_true rfl) ?_
                rw [pc_21 t9 (by omega)]
                refine r_iload_n dX10_proof_53 rfl ?_
                refine r_icmp_eq (tgt := 60) dX10_proof_54 (by decide) (fun _ => ?_) (fun hz => absurd (show _ from (by rw [cz])) hz)
                refine r_aload_n dX10_proof_60 rfl ?_
                refine r_iload dX10_proof_61 rfl ?_
                refine r_iconst (v := nI 0) dX10_proof_63 (by decide) ?_
                refine r_iconst (v := nI 1) dX10_proof_64 (by decide) ?_
                refine r_virt (kc2 := 0) (ks2 := 0) (q_seeksR m (nI t9) (nI 0) 1 hC hz (by decide) (by decide) (fun k hk hb => (sp_bit (e := e) (by omega) (sub_bit hsub k (by omega) hb)).2)) lk_X10_432 mc_X10_seeks dX10_proof_65 hM.1 (by decide) rfl rfl (Nat.le_of_ble_eq_true rfl) (by decide) (by decide) (fun _ _ _ _ _ _ h => nomatch h.1) ?_
                rintro v1 n1 kd1 I1 J1 P1 ⟨h00, rfl, rfl, rfl, rfl, hfr, hfd⟩
                cases h00
                simp only [Option.toList, List.nil_append, List.cons_append]
                have hC1 := RR.rf hfr hC
                have h01 : I1 m 0 = 0 := by rw [hfr.2 0 (by decide) (by decide)]; exact h0
                have hB1 : ∀ a, (a < m ∨ m + 55 < a) → I1 a = I0 a := fun a ha => by rw [hfr.1 a (by omega) (by omega) (by omega) (by omega)]; exact hB a ha
                rw [show zR H M un cs e (nI t9) (nI 0) 1 = (resK un (LtO e.2.2.2.2) e.2.2.2.2.length H M (lkO cs H) (tvO H M cs e) t9) from rfl] at hfd ⊢
                rw [hg] at hfd ⊢
                refine r_if_ne (tgt := 74) dX10_proof_68 (by decide) (fun _ => ?_) (fun hz => absurd hz (show ¬ _ from (by decide)))
                refine r_aload_n dX10_proof_74 rfl ?_
                refine r_getI dX10_proof_75 fl_X10_413 rfl hM.1 ?_
                rw [(hfd rfl).1]
                refine r_if_ne (tgt := 84) dX10_proof_78 (by decide) (fun _ => ?_) (fun hz => absurd hz (show ¬ _ from (nI_ne0 (by omega) (by omega))))
                refine r_aload_n dX10_proof_84 rfl ?_
                refine r_iload_n dX10_proof_85 rfl ?_
                refine r_putI dX10_proof_86 fl_X10_102 rfl rfl (kM_0 hM) ?_
                try simp (disch := omega) only [am_up_s, am_up_n, am_up_up]
                refine r_aload_n dX10_proof_89 rfl ?_
                refine r_aload_n dX10_proof_90 rfl ?_
                refine r_iconst (v := nI 0) dX10_proof_91 (by decide) ?_
                refine r_iload_n dX10_proof_92 rfl ?_
                refine r_virtE (c_X10_at m 0 h hM (by decide) (by omega)) lk_X10_439 mc_X10_at dX10_proof_93 hM.1 (by decide) rfl rfl (Nat.le_of_ble_eq_true rfl) ?_
                rw [am_up_n _ _ (show m + 27 ≠ m by omega), (hfd rfl).2 0 h (by omega) hh]
                refine r_putI dX10_proof_96 fl_X10_419 rfl rfl hM.1 ?_
                simp (disch := omega) only [am_up_s, am_up_n, am_up_up]
                have i2 : ∀ a, a ≠ m → (va_up I1 m (va_up (va_up (I1 m) 58 (nI h)) 59 (nI (nmF (resK un (LtO e.2.2.2.2) e.2.2.2.2.length H M (lkO cs H) (tvO H M cs e) t9).2.1 0 h)))) a = I1 a := fun a a1 => am_up_n _ _ a1
                have i2j : ∀ j, j ≠ 58 → j ≠ 59 → (va_up I1 m (va_up (va_up (I1 m) 58 (nI h)) 59 (nI (nmF (resK un (LtO e.2.2.2.2) e.2.2.2.2.length H M (lkO cs H) (tvO H M cs e) t9).2.1 0 h)))) m j = I1 m j := fun j j1 j2 => by rw [am_up_s, am_up_n _ _ j2, am_up_n _ _ j1]
                have i58 : (va_up I1 m (va_up (va_up (I1 m) 58 (nI h)) 59 (nI (nmF (resK un (LtO e.2.2.2.2) e.2.2.2.2.length H M (lkO cs H) (tvO H M cs e) t9).2.1 0 h)))) m 58 = nI h := by rw [am_up_s, am_up_n _ _ (by decide), am_up_s]
                have i59 : (va_up I1 m (va_up (va_up (I1 m) 58 (nI h)) 59 (nI (nmF (resK un (LtO e.2.2.2.2) e.2.2.2.2.length H M (lkO cs H) (tvO H M cs e) t9).2.1 0 h)))) m 59 = nI (nmF (resK un (LtO e.2.2.2.2) e.2.2.2.2.length H M (lkO cs H) (tvO H M cs e) t9).2.1 0 h) := by rw [am_up_s, am_up_s]
                generalize (va_up I1 m (va_up (va_up (I1 m) 58 (nI h)) 59 (nI (nmF (resK un (LtO e.2.2.2.2) e.2.2.2.2.length H M (lkO cs H) (tvO H M cs e) t9).2.1 0 h)))) = I2 at i2 i2j i58 i59 ⊢
                refine r_aload_n dX10_proof_99 rfl ?_
                refine r_iload dX10_proof_100 rfl ?_
                refine r_iconst (v := nI 0) dX10_proof_102 (by decide) ?_
                refine r_iconst (v := nI 1) dX10_proof_103 (by decide) ?_
                refine r_virt (kc2 := 0) (ks2 := 0) (q_seeksB m t9 h (nmF (resK un (LtO e.2.2.2.2) e.2.2.2.2.length H M (lkO cs H) (tvO H M cs e) t9).2.1 0 h) hC1 hz i2 i2j i58 i59 (by omega) hvM (fun k hk hb => (sp_bit (e := e) (by omega) (sub_bit hsub k (by omega) hb)).2)) lk_X10_432 mc_X10_seeks dX10_proof_104 hM.1 (by decide) rfl rfl (Nat.le_of_ble_eq_true rfl) (by decide) (by decide) (fun _ _ _ _ _ _ h => nomatch h.1) ?_
                rintro v3 n3 kd3 I3 J3 P3 ⟨h00, rfl, rfl, rfl, rfl, hfr3, h523⟩
                cases h00
                simp only [Option.toList, List.nil_append, List.cons_append]
                refine r_istore dX10_proof_107 (by decide) ?_
                refine r_aload_n dX10_proof_109 rfl ?_
                refine r_iconst (v := (-1)) dX10_proof_110 (by decide) ?_
                refine r_putI dX10_proof_111 fl_X10_102 rfl rfl hM.1 ?_
                have hC4 : RR m kd3 (va_up I3 m (va_up (I3 m) 58 (-1))) P3 t T fp rr H M un cs tx e im wk := RR.br (I := I1) (fun a a1 a2 a3 a4 => by rw [am_up_n _ _ a1, hfr3.1 a a1 a2 a3 a4, i2 a a1]) (fun j j1 j2 j3 => by
                  rw [am_up_s]
                  by_cases q : j = 58
                  · rw [q, am_up_s]; exact hC1.2.2.1.2.1.2.symm
                  · rw [am_up_n _ _ q, hfr3.2 j j1 j2, i2j j q j3]) hC1
                have h04 : (va_up I3 m (va_up (I3 m) 58 (-1))) m 0 = 0 := by rw [am_up_s, am_up_n _ _ (by decide), hfr3.2 0 (by decide) (by decide), i2j 0 (by decide) (by decide)]; exact h01
                have hB4 : ∀ a, (a < m ∨ m + 55 < a) → (va_up I3 m (va_up (I3 m) 58 (-1))) a = I0 a := fun a ha => by rw [am_up_n _ _ (by omega), hfr3.1 a (by omega) (by omega) (by omega) (by omega), i2 a (by omega)]; exact hB1 a ha
                have h524 : (va_up I3 m (va_up (I3 m) 58 (-1))) m 52 = nI (resB un (LtO e.2.2.2.2) e.2.2.2.2.length H M (lkO cs H) (tvO H M cs e) t9 h (nmF (resK un (LtO e.2.2.2.2) e.2.2.2.2.length H M (lkO cs H) (tvO H M cs e) t9).2.1 0 h)).2.1.length := by rw [am_up_s, am_up_n _ _ (by decide)]; exact h523
                generalize (va_up I3 m (va_up (I3 m) 58 (-1))) = I4 at hC4 h04 hB4 h524 ⊢
                refine r_iload dX10_proof_114 rfl ?_
                refine r_if_ne (tgt := 122) dX10_proof_116 (by decide) (fun _ => ?_) (fun hz => absurd hz (show ¬ _ from (by rw [c5']; decide)))
                refine r_aload_n dX10_proof_122 rfl ?_
                refine r_getI dX10_proof_123 fl_X10_413 rfl hM.1 ?_
                rw [h524]
                refine r_if_ne (tgt := 132) dX10_proof_126 (by decide) (fun hz => absurd (show _ from (by rw [c6]; rfl)) hz) (fun _ => ?_)
                refine r_iload dX10_proof_129 rfl ?_
                refine r_iret rfl dX10_proof_131 ?_
                exact h1 _ _ rfl hC4 h04 hB4
              · rw [if_neg (fun y => by have y2 := y.2; rw [hR, nI_ltI (by omega) (by omega)] at y2; omega)] at h1 h2
                refine r_iload dX10_proof_31 rfl ?_
                refine r_sipush (v := nI 256) dX10_proof_33 (by decide) ?_
                refine r_icmp_ge (tgt := 138) dX10_proof_36 (by decide) (fun hz => absurd hz (show ¬ _ from (by rw [nI_leI (by omega) (by omega)]; omega))) (fun _ => ?_)
                refine r_iload dX10_proof_39 rfl ?_
                refine r_iload_n dX10_proof_41 rfl ?_
                refine r_iconst (v := (-1)) dX10_proof_42 (by decide) ?_
                refine r_ixor dX10_proof_43 ?_
                refine r_iand dX10_proof_44 ?_
                refine r_if_ne (tgt := 132) dX10_proof_45 (by decide) (fun hz => absurd (show _ from c1') hz) (fun _ => ?_)
                refine r_iload dX10_proof_48 rfl ?_
                refine r_statE (c_X10_bits (nI t9)) lk_X10_448 mc_X10_bits dX10_proof_50 (by decide) rfl rfl (Nat.le_of_ble_eq_true rfl) ?_
                rw [pc_21 t9 (by omega)]
                refine r_iload_n dX10_proof_53 rfl ?_
                refine r_icmp_eq (tgt := 60) dX10_proof_54 (by decide) (fun _ => ?_) (fun hz => absurd (show _ from (by rw [cz])) hz)
                refine r_aload_n dX10_proof_60 rfl ?_
                refine r_iload dX10_proof_61 rfl ?_
                refine r_iconst (v := nI 0) dX10_proof_63 (by decide) ?_
                refine r_iconst (v := nI 1) dX10_proof_64 (by decide) ?_
                refine r_virt (kc2 := 0) (ks2 := 0) (q_seeksR m (nI t9) (nI 0) 1 hC hz (by decide) (by decide) (fun k hk hb => (sp_bit (e := e) (by omega) (sub_bit hsub k (by omega) hb)).2)) lk_X10_432 mc_X10_seeks dX10_proof_65 hM.1 (by decide) rfl rfl (Nat.le_of_ble_eq_true rfl) (by decide) (by decide) (fun _ _ _ _ _ _ h => nomatch h.1) ?_
                rintro v1 n1 kd1 I1 J1 P1 ⟨h00, rfl, rfl, rfl, rfl, hfr, hfd⟩
                cases h00
                simp only [Option.toList, List.nil_append, List.cons_append]
                have hC1 := RR.rf hfr hC
                have h01 : I1 m 0 = 0 := by rw [hfr.2 0 (by decide) (by decide)]; exact h0
                have hB1 : ∀ a, (a < m ∨ m + 55 < a) → I1 a = I0 a := fun a ha => by rw [hfr.1 a (by omega) (by omega) (by omega) (by omega)]; exact hB a ha
                rw [show zR H M un cs e (nI t9) (nI 0) 1 = (resK un (LtO e.2.2.2.2) e.2.2.2.2.length H M (lkO cs H) (tvO H M cs e) t9) from rfl] at hfd ⊢
                rw [hg] at hfd ⊢
                refine r_if_ne (tgt := 74) dX10_proof_68 (by decide) (fun _ => ?_) (fun hz => absurd hz (show ¬ _ from (by decide)))
                refine r_aload_n dX10_proof_74 rfl ?_
                refine r_getI dX10_proof_75 fl_X10_413 rfl hM.1 ?_
                rw [(hfd rfl).1]
                refine r_if_ne (tgt := 84) dX10_proof_78 (by decide) (fun _ => ?_) (fun hz => absurd hz (show ¬ _ from (nI_ne0 (by omega) (by omega))))
                refine r_aload_n dX10_proof_84 rfl ?_
                refine r_iload_n dX10_proof_85 rfl ?_
                refine r_putI dX10_proof_86 fl_X10_102 rfl rfl (kM_0 hM) ?_
                try simp (disch := omega) only [am_up_s, am_up_n, am_up_up]
                refine r_aload_n dX10_proof_89 rfl ?_
                refine r_aload_n dX10_proof_90 rfl ?_
                refine r_iconst (v := nI 0) dX10_proof_91 (by decide) ?_
                refine r_iload_n dX10_proof_92 rfl ?_
                refine r_virtE (c_X10_at m 0 h hM (by decide) (by omega)) lk_X10_439 mc_X10_at dX10_proof_93 hM.1 (by decide) rfl rfl (Nat.le_of_ble_eq_true rfl) ?_
                rw [am_up_n _ _ (show m + 27 ≠ m by omega), (hfd rfl).2 0 h (by omega) hh]
                refine r_putI dX10_proof_96 fl_X10_419 rfl rfl hM.1 ?_
                simp (disch := omega) only [am_up_s, am_up_n, am_up_up]
                have i2 : ∀ a, a ≠ m → (va_up I1 m (va_up (va_up (I1 m) 58 (nI h)) 59 (nI (nmF (resK un (LtO e.2.2.2.2) e.2.2.2.2.length H M (lkO cs H) (tvO H M cs e) t9).2.1 0 h)))) a = I1 a := fun a a1 => am_up_n _ _ a1
                have i2j : ∀ j, j ≠ 58 → j ≠ 59 → (va_up I1 m (va_up (va_up (I1 m) 58 (nI h)) 59 (nI (nmF (resK un (LtO e.2.2.2.2) e.2.2.2.2.length H M (lkO cs H) (tvO H M cs e) t9).2.1 0 h)))) m j = I1 m j := fun j j1 j2 => by rw [am_up_s, am_up_n _ _ j2, am_up_n _ _ j1]
                have i58 : (va_up I1 m (va_up (va_up (I1 m) 58 (nI h)) 59 (nI (nmF (resK un (LtO e.2.2.2.2) e.2.2.2.2.length H M (lkO cs H) (tvO H M cs e) t9).2.1 0 h)))) m 58 = nI h := by rw [am_up_s, am_up_n _ _ (by decide), am_up_s]
                have i59 : (va_up I1 m (va_up (va_up (I1 m) 58 (nI h)) 59 (nI (nmF (resK un (LtO e.2.2.2.2) e.2.2.2.2.length H M (lkO cs H) (tvO H M cs e) t9).2.1 0 h)))) m 59 = nI (nmF (resK un (LtO e.2.2.2.2) e.2.2.2.2.length H M (lkO cs H) (tvO H M cs e) t9).2.1 0 h) := by rw [am_up_s, am_up_s]
                generalize (va_up I1 m (va_up (va_up (I1 m) 58 (nI h)) 59 (nI (nmF (resK un (LtO e.2.2.2.2) e.2.2.2.2.length H M (lkO cs H) (tvO H M cs e) t9).2.1 0 h)))) = I2 at i2 i2j i58 i59 ⊢
                refine r_aload_n dX10_proof_99 rfl ?_
                refine r_iload dX10_proof_100 rfl ?_
                refine r_iconst (v := nI 0) dX10_proof_102 (by decide) ?_
                refine r_iconst (v := nI 1) dX10_proof_103 (by decide) ?_
                refine r_virt (kc2 := 0) (ks2 := 0) (q_seeksB m t9 h (nmF (resK un (LtO e.2.2.2.2) e.2.2.2.2.length H M (lkO cs H) (tvO H M cs e) t9).2.1 0 h) hC1 hz i2 i2j i58 i59 (by omega) hvM (fun k hk hb => (sp_bit (e := e) (by omega) (sub_bit hsub k (by omega) hb)).2)) lk_X10_432 mc_X10_seeks dX10_proof_104 hM.1 (by decide) rfl rfl (Nat.le_of_ble_eq_true rfl) (by decide) (by decide) (fun _ _ _ _ _ _ h => nomatch h.1) ?_
                rintro v3 n3 kd3 I3 J3 P3 ⟨h00, rfl, rfl, rfl, rfl, hfr3, h523⟩
                cases h00
                simp only [Option.toList, List.nil_append, List.cons_append]
                refine r_istore dX10_proof_107 (by decide) ?_
                refine r_aload_n dX10_proof_109 rfl ?_
                refine r_iconst (v := (-1)) dX10_proof_110 (by decide) ?_
                refine r_putI dX10_proof_111 fl_X10_102 rfl rfl hM.1 ?_
                have hC4 : RR m kd3 (va_up I3 m (va_up (I3 m) 58 (-1))) P3 t T fp rr H M un cs tx e im wk := RR.br (I := I1) (fun a a1 a2 a3 a4 => by rw [am_up_n _ _ a1, hfr3.1 a a1 a2 a3 a4, i2 a a1]) (fun j j1 j2 j3 => by
                  rw [am_up_s]
                  by_cases q : j = 58
                  · rw [q, am_up_s]; exact hC1.2.2.1.2.1.2.symm
                  · rw [am_up_n _ _ q, hfr3.2 j j1 j2, i2j j q j3]) hC1
                have h04 : (va_up I3 m (va_up (I3 m) 58 (-1))) m 0 = 0 := by rw [am_up_s, am_up_n _ _ (by decide), hfr3.2 0 (by decide) (by decide), i2j 0 (by decide) (by decide)]; exact h01
                have hB4 : ∀ a, (a < m ∨ m + 55 < a) → (va_up I3 m (va_up (I3 m) 58 (-1))) a = I0 a := fun a ha => by rw [am_up_n _ _ (by omega), hfr3.1 a (by omega) (by omega) (by omega) (by omega), i2 a (by omega)]; exact hB1 a ha
                have h524 : (va_up I3 m (va_up (I3 m) 58 (-1))) m 52 = nI (resB un (LtO e.2.2.2.2) e.2.2.2.2.length H M (lkO cs H) (tvO H M cs e) t9 h (nmF (resK un (LtO e.2.2.2.2) e.2.2.2.2.length H M (lkO cs H) (tvO H M cs e) t9).2.1 0 h)).2.1.length := by rw [am_up_s, am_up_n _ _ (by decide)]; exact h523
                generalize (va_up I3 m (va_up (I3 m) 58 (-1))) = I4 at hC4 h04 hB4 h524 ⊢
                refine r_iload dX10_proof_114 rfl ?_
                refine r_if_ne (tgt := 122) dX10_proof_116 (by decide) (fun _ => ?_) (fun hz => absurd hz (show ¬ _ from (by rw [c5']; decide)))
                refine r_aload_n dX10_proof_122 rfl ?_
                refine r_getI dX10_proof_123 fl_X10_413 rfl hM.1 ?_
                rw [h524]
                refine r_if_ne (tgt := 132) dX10_proof_126 (by decide) (fun _ => ?_) (fun hz => absurd hz (show ¬ _ from (nI_ne0 (by omega) (by omega))))
                refine r_iinc (v := nI (t9 + 1)) dX10_proof_132 rfl (nI_inc t9) ?_
                refine r_goto (tgt := 31) dX10_proof_135 (by decide) ?_
                exact ih (t9 + 1) _ I4 (by omega) hC4 h04 hB4 h1 h2
      · have hok : ¬ okK (spB H cs e) z t9 = true := by unfold okK; rw [decide_eq_false cz, Bool.and_false]; decide
        rw [if_neg (fun y => hok y.1)] at h1 h2
        refine r_iload dX10_proof_31 rfl ?_
        refine r_sipush (v := nI 256) dX10_proof_33 (by decide) ?_
        refine r_icmp_ge (tgt := 138) dX10_proof_36 (by decide) (fun hz => absurd hz (show ¬ _ from (by rw [nI_leI (by omega) (by omega)]; omega))) (fun _ => ?_)
        refine r_iload dX10_proof_39 rfl ?_
        refine r_iload_n dX10_proof_41 rfl ?_
        refine r_iconst (v := (-1)) dX10_proof_42 (by decide) ?_
        refine r_ixor dX10_proof_43 ?_
        refine r_iand dX10_proof_44 ?_
        refine r_if_ne (tgt := 132) dX10_proof_45 (by decide) (fun hz => absurd (show _ from c1') hz) (fun _ => ?_)
        refine r_iload dX10_proof_48 rfl ?_
        refine r_statE (c_X10_bits (nI t9)) lk_X10_448 mc_X10_bits dX10_proof_50 (by decide) rfl rfl (Nat.le_of_ble_eq_true rfl) ?_
        rw [pc_21 t9 (by omega)]
        refine r_iload_n dX10_proof_53 rfl ?_
        refine r_icmp_eq (tgt := 60) dX10_proof_54 (by decide) (fun hz => absurd hz (show ¬ _ from (by rw [nI_eq (by omega) (by omega)]; exact cz))) (fun _ => ?_)
        refine r_goto (tgt := 132) dX10_proof_57 (by decide) ?_
        refine r_iinc (v := nI (t9 + 1)) dX10_proof_132 rfl (nI_inc t9) ?_
        refine r_goto (tgt := 31) dX10_proof_135 (by decide) ?_
        exact ih (t9 + 1) _ I (by omega) hC h0 hB h1 h2
    · have hok : ¬ okK (spB H cs e) z t9 = true := by unfold okK; intro y; rw [Bool.and_eq_true] at y; exact c1 y.1
      rw [if_neg (fun y => hok y.1)] at h1 h2
      have c1' : ¬ nI t9 &&& (nI (spB H cs e) ^^^ (-1)) = 0 := fun y => c1 (decide_eq_true y)
      refine r_iload dX10_proof_31 rfl ?_
      refine r_sipush (v := nI 256) dX10_proof_33 (by decide) ?_
      refine r_icmp_ge (tgt := 138) dX10_proof_36 (by decide) (fun hz => absurd hz (show ¬ _ from (by rw [nI_leI (by omega) (by omega)]; omega))) (fun _ => ?_)
      refine r_iload dX10_proof_39 rfl ?_
      refine r_iload_n dX10_proof_41 rfl ?_
      refine r_iconst (v := (-1)) dX10_proof_42 (by decide) ?_
      refine r_ixor dX10_proof_43 ?_
      refine r_iand dX10_proof_44 ?_
      refine r_if_ne (tgt := 132) dX10_proof_45 (by decide) (fun _ => ?_) (fun hz => absurd hz (show ¬ _ from c1'))
      refine r_iinc (v := nI (t9 + 1)) dX10_proof_132 rfl (nI_inc t9) ?_
      refine r_goto (tgt := 31) dX10_proof_135 (by decide) ?_
      exact ih (t9 + 1) _ I (by omega) hC h0 hB h1 h2

set_option maxHeartbeats 4000000 in
set_option maxRecDepth 100000 in
theorem wo_proofR (m h : Nat) {t : Nat} {T : Nat → Nat} {fp : Int32} {rr : Nat → Int32} {H M : Nat} {un : Bool} {cs : Nat → List Nat} {tx : Nat → List Int32} {e : Lf} {im : Option Lf} {wk : Option (List Nat)} {n : Nat} {kd : mK} {J : mJ} {P : mP} {I0 : mI} (hz : okZ t T H M cs e) (hh : h < H) : ∀ (c z : Nat) (z4 z5 : Option Value) (I : mI), z + c = 9 → RR m kd I P t T fp rr H M un cs tx e im wk → I m 0 = 0 → (∀ a, (a < m ∨ m + 55 < a) → I a = I0 a) → Ru yX10_proof.cls cX10_proof 6 (some .int) yX10_proof.name 10 (pQ m n kd I0 J P (some (.int (kn2 (RPf un (LtO e.2.2.2.2) e.2.2.2.2.length H M (lkO cs H) (tvO H M cs e) h) (spB H cs e) 256 c z))) 0 (RX m t T fp rr H M un cs tx e im wk)) 0 0 22 [some (.ref m), some (.int (nI h)), some (.int (nI (spB H cs e))), some (.int (nI z)), z4, z5] [] n kd I J P := by
  intro c
  induction c with
  | zero =>
    intro z z4 z5 I hz9 hC h0 hB
    unfold kn2
    refine r_iload_n dX10_proof_22 rfl ?_
    refine r_bipush (v := nI 8) dX10_proof_23 (by decide) ?_
    refine r_icmp_gt (tgt := 144) dX10_proof_25 (by decide) (fun _ => ?_) (fun hz => absurd (show _ from (by rw [nI_ltI (by omega) (by omega)]; omega)) hz)
    refine r_iconst (v := (-1)) dX10_proof_144 (by decide) ?_
    refine r_iret rfl dX10_proof_145 ?_
    exact ⟨rfl, rfl, rfl, rfl, fun a ha => ⟨hB a ha, rfl⟩, h0, hC⟩
  | succ c ih =>
    intro z z4 z5 I hz9 hC h0 hB
    unfold kn2
    refine r_iload_n dX10_proof_22 rfl ?_
    refine r_bipush (v := nI 8) dX10_proof_23 (by decide) ?_
    refine r_icmp_gt (tgt := 144) dX10_proof_25 (by decide) (fun hz => absurd hz (show ¬ _ from (by rw [nI_ltI (by omega) (by omega)]; omega))) (fun _ => ?_)
    refine r_iconst (v := nI 0) dX10_proof_28 (by decide) ?_
    refine r_istore dX10_proof_29 (by decide) ?_
    refine wi_proofR m z h hz (by omega) hh _ 256 0 z5 I (by omega) hC h0 hB (fun v I' hv hC' h0' hB' => ?_) (fun hv z5 I' hC' h0' hB' => ?_)
    · rw [hv]
      exact ⟨rfl, rfl, rfl, rfl, fun a ha => ⟨hB' a ha, rfl⟩, h0', hC'⟩
    · rw [hv]
      refine r_iinc (v := nI (z + 1)) dX10_proof_138 rfl (nI_inc z) ?_
      refine r_goto (tgt := 22) dX10_proof_141 (by decide) ?_
      exact ih (z + 1) _ _ I' (by omega) hC' h0' hB'

set_option maxHeartbeats 4000000 in
set_option maxRecDepth 100000 in
theorem q_proof (m : Nat) (h : Nat) {t : Nat} {T : Nat → Nat} {fp : Int32} {rr : Nat → Int32} {H M : Nat} {un : Bool} {cs : Nat → List Nat} {tx : Nat → List Int32} {e : Lf} {im : Option Lf} {wk : Option (List Nat)} {n : Nat} {kd : mK} {I : mI} {J : mJ} {P : mP} (hC : RR m kd I P t T fp rr H M un cs tx e im wk) (hz : okZ t T H M cs e) (hh : h < H) : Ct yX10_proof cX10_proof 6 (some .int) 10 0 0 [.ref m, .int (nI h)] n kd I J P (pQ m n kd I J P (some (.int (prO H M un cs e h))) 0 (RX m t T fp rr H M un cs tx e im wk)) := by
  refine ct_of 4 (by decide +kernel) (Nat.le_of_ble_eq_true rfl) rfl ?_
  refine r_aload_n dX10_proof_0 rfl ?_
  refine r_iconst (v := nI 0) dX10_proof_1 (by decide) ?_
  refine r_putI dX10_proof_2 fl_X10_193 rfl rfl (kM_0 hC.1) ?_
  refine q_th hC (fun I hC h0 => ?_)
  have hC0 := hC
  have hz0 := hz
  obtain ⟨hM, hT, hSt, hLf, hIm, hWk⟩ := hC
  obtain ⟨okt, oks, okl⟩ := hz
  have hH8 : H ≤ 8 := oks.2.1
  have hM20 : 2 ≤ M ∧ M ≤ 20 := oks.1
  have hH : I m 1 = nI H := hSt.1.1
  have hMo : I m 2 = nI M := hSt.1.2.1
  refine r_aload_n dX10_proof_5 rfl ?_
  refine r_iload_n dX10_proof_6 rfl ?_
  refine r_virtE (c_X10_isHouse m (nI h) hM h0) lk_X10_373 mc_X10_isHouse dX10_proof_7 (kM_0 hM) (by decide) rfl rfl (Nat.le_of_ble_eq_true rfl) ?_
  rw [show (!decide (nI h < 0) && decide (nI h < I m 1)) = true from by rw [hH]; exact (isH_of hh (by omega)), thM_ok]
  refine r_if_ne (tgt := 15) dX10_proof_10 (by decide) (fun _ => ?_) (fun hz => absurd hz (show ¬ _ from (by decide)))
  refine r_aload_n dX10_proof_15 rfl ?_
  refine r_virtE (c_X10_speaking m H hM hSt.1.1 hH8) lk_X10_429 mc_X10_speaking dX10_proof_16 hM.1 (by decide) rfl rfl (Nat.le_of_ble_eq_true rfl) ?_
  rw [sp_r hH8 hSt hLf]
  refine r_istore_n dX10_proof_19 (by decide) ?_
  refine r_iconst (v := nI 0) dX10_proof_20 (by decide) ?_
  refine r_istore_n dX10_proof_21 (by decide) ?_
  exact wo_proofR m h hz0 hh 9 0 none none I (by omega) hC0 h0 (fun _ _ => rfl)

