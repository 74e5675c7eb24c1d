/-! LAWS TRIED on any state: the class, with one row of looking at most -/
def bkQ (n : Nat) (kd : mK) (I : mI) (J : mJ) (P : mP) (o s : Nat) (v : Int32) : am_Post := fun y n' kd' I' J' P' => bkP n kd I J P o s v y n' kd' I' J' P' ∧ n' = n
def bkR (n : Nat) (kd : mK) (I : mI) (J : mJ) (P : mP) (o s : Nat) (v : Int32) : am_Post := fun y n' kd' I' J' P' => bkP n kd I J P o s v y n' kd' I' J' P' ∧ P' (o + 56) 3 ≠ none
set_option maxHeartbeats 4000000 in
set_option maxRecDepth 100000 in
theorem c_looks0 (k H : Nat) (fs : List (Nat → Nat)) {n : Nat} {kd : mK} {I : mI} {J : mJ} {P : mP} (hG : kG kd P k) (hz : P k 3 = none ∨ ∃ z, P k 3 = some z ∧ kd z = some (1, 10240) ∧ k ≠ z) (hn : n < 1000000) (hkn : k + 1 < n) (e0 : I k 0 = nI H) (e1 : I k 1 = nI fs.length) (hJ : ∀ h i, h < H → i < fs.length → J (k + 1) (h * 40 + i) = jN (alF (nmF fs) fs.length h i)) (hc : fs.length ≤ 40) (hH : H ≤ 8) (hq : P k 3 ≠ none ∨ fs.length < 2) : Ct yX3_fewestLooks cX3_fewestLooks 4 (some .int) 21 0 0 [.ref k] n kd I J P (fun y n' kd' I' J' P' => flP n kd I J P k (nI (lookV H fs)) y n' kd' I' J' P' ∧ n' = n) := by
  by_cases h2 : 2 ≤ fs.length
  · obtain ⟨z, hzz, hkz, hne⟩ := hz.resolve_left (hq.resolve_right (by omega))
    have hS : lkS k z fs.length H (nmF fs) kd I J P := ⟨hG, hzz, hkz, hne, e0, e1, hJ, hc, hH⟩
    have hl := fl_loop (n := n) (kc := 0) (ks := 0) k z fs.length H (nmF fs) hS (by omega) (2 ^ H * 40) 0 (I z) (by omega) (fun j hj => absurd hj (by omega))
    rw [am_up_id] at hl
    refine ct_of 3 (by decide +kernel) (Nat.le_of_ble_eq_true rfl) rfl ?_
    refine r_aload_n dX3_fewestLooks_0 rfl ?_
    refine r_getI dX3_fewestLooks_1 fl_X3_15 rfl hG.1 ?_
    rw [e1]
    refine r_iconst (v := nI 2) dX3_fewestLooks_4 (by decide) ?_
    refine r_icmp_ge (tgt := 10) dX3_fewestLooks_5 (by decide) (fun _ => ?_) (fun hz => absurd (show _ from (by rw [nI_leI (by omega) (by omega)]; omega)) hz)
    refine r_aload_n dX3_fewestLooks_10 rfl ?_
    refine r_virtE (c_X3_scratchRow k z hG hzz) lk_X3_40 mc_X3_scratchRow dX3_fewestLooks_11 hG.1 (by decide) rfl rfl (Nat.le_of_ble_eq_true rfl) ?_
    refine r_astore_n dX3_fewestLooks_14 (by decide) ?_
    refine r_iconst (v := nI 1) dX3_fewestLooks_15 (by decide) ?_
    refine r_aload_n dX3_fewestLooks_16 rfl ?_
    refine r_getI dX3_fewestLooks_17 fl_X3_9 rfl hG.1 ?_
    rw [e0]
    refine r_ishl dX3_fewestLooks_20 ?_
    refine r_bipush (v := nI 40) dX3_fewestLooks_21 (by decide) ?_
    refine r_imul dX3_fewestLooks_23 ?_
    rw [(sh_40 H hH).1]
    refine r_istore_n dX3_fewestLooks_24 (by decide) ?_
    refine r_iconst (v := nI 0) dX3_fewestLooks_25 (by decide) ?_
    refine r_istore_n dX3_fewestLooks_26 (by decide) ?_
    refine RuZ.mono hl (fun y n1 kd1 I1 J1 P1 hx => ?_)
    obtain ⟨A, hA, h0, rfl, rfl, rfl, rfl, rfl⟩ := hx
    exact ⟨⟨h0, ⟨by omega, by omega⟩, fun _ _ => rfl, fun a ha hq => am_up_n _ _ (fun e => hq (by rw [hzz, e])), fun _ _ => rfl, fun _ _ _ => rfl, fun _ _ => rfl, Or.inl rfl⟩, rfl⟩
  · rw [lookV_few (H := H) (show fs.length < 2 by omega)]
    refine ct_of 3 (by decide +kernel) (Nat.le_of_ble_eq_true rfl) rfl ?_
    refine r_aload_n dX3_fewestLooks_0 rfl ?_
    refine r_getI dX3_fewestLooks_1 fl_X3_15 rfl hG.1 ?_
    rw [e1]
    refine r_iconst (v := nI 2) dX3_fewestLooks_4 (by decide) ?_
    refine r_icmp_ge (tgt := 10) dX3_fewestLooks_5 (by decide) (fun hz => absurd hz (show ¬ _ from (by rw [nI_leI (by omega) (by omega)]; omega))) (fun _ => ?_)
    refine r_iconst (v := nI 0) dX3_fewestLooks_8 (by decide) ?_
    refine r_iret rfl dX3_fewestLooks_9 ?_
    exact ⟨⟨rfl, ⟨by omega, by omega⟩, fun _ _ => rfl, fun _ _ _ => rfl, fun _ _ => rfl, fun _ _ _ => rfl, fun _ _ => rfl, Or.inl rfl⟩, rfl⟩

set_option maxHeartbeats 4000000 in
set_option maxRecDepth 100000 in
theorem c_looks1 (k H : Nat) (fs : List (Nat → Nat)) {n : Nat} {kd : mK} {I : mI} {J : mJ} {P : mP} (hG : kG kd P k) (hz : P k 3 = none) (hn : n < 1000000) (hkn : k + 1 < n) (e0 : I k 0 = nI H) (e1 : I k 1 = nI fs.length) (hJ : ∀ h i, h < H → i < fs.length → J (k + 1) (h * 40 + i) = jN (alF (nmF fs) fs.length h i)) (hc : fs.length ≤ 40) (hH : H ≤ 8) (h2 : 2 ≤ fs.length) : Ct yX3_fewestLooks cX3_fewestLooks 4 (some .int) 21 1 10240 [.ref k] n kd I J P (fun y n' kd' I' J' P' => flP n kd I J P k (nI (lookV H fs)) y n' kd' I' J' P' ∧ P' k 3 ≠ none) := by
  refine (c_fl_none k fs.length H (nmF fs) hG hz hn hkn e0 e1 hJ hc hH h2).mono (fun y n1 kd1 I1 J1 P1 hx => ?_)
  obtain ⟨A, h0, rfl, rfl, rfl, rfl, rfl⟩ := hx
  exact ⟨⟨h0, ⟨by omega, by omega⟩, fun a ha => am_up_n _ _ (by omega), fun a ha _ => am_up_n _ _ (by omega), fun a ha => am_up_n _ _ (by omega), fun a _ hk => am_up_n _ _ hk, fun j hj => by rw [am_up_s, am_up_n _ _ hj], Or.inr ⟨n, by omega, by omega, by rw [am_up_s, am_up_s], by rw [am_up_s]⟩⟩, by rw [am_up_s, am_up_s]; exact fun q => nomatch q⟩
set_option maxHeartbeats 4000000 in
set_option maxRecDepth 100000 in
theorem d_brk0 (o b s f l M H : Nat) (un : Bool) (cs : Nat → List Nat) {n : Nat} {kd : mK} {I : mI} {J : mJ} {P : mP} (hX : kX kd P o b s f l) (hc : csOK cs H) (hH8 : H ≤ 8) (hM20 : M ≤ 20) (hst : stM cs H I s) (hmo : I s 1 = nI M) (hu : decide (I s 2 = 0) = (!un)) (hl : I l 2 = nI 0 ∧ I l 7 = nI 0 ∧ ∀ j, j < 8 → I (l + 1) j = nI 0 ∧ I (l + 2) j = nI 0) (hn : o + 69 ≤ n) (hn9 : n < 999999) (hsc : scr kd P o n) : Ct yX9_breaksLaw cX9_breaksLaw 3 (some .int) 22 0 0 [.ref o, .int (nI 0)] n kd I J P (bkQ n kd I J P o s (lawB 0 H M un cs)) := by
  have hX0 := hX
  obtain ⟨⟨c0, c1, c2⟩, ⟨s3, s13⟩, ⟨l23, l29, l35⟩, ⟨q41, a47, g56, w58, r61, d66, p67⟩, ⟨e0, e3, e8, e10, e12, e13, e14, e15, e16, e17⟩, ⟨e4, e5, e6, e7⟩, hbs, hfl, ho⟩ := hX
  have kSs : kS kd P s := by rcases hbs with h | h <;> rw [h.2]; exact s13; exact s3
  have kLl : kL kd P l := by rcases hfl with h | h <;> rw [h.2]; exact l29; exact l23
  have hcl := cl_seed (l := l) (Lt := so0) hc hH8 hst hmo hu hl.2.1
  have hri := st_riB hst
  have hz : ∀ k, k < H → I (l + 1) k = nI 0 ∧ I (l + 2) k = nI 0 := fun k hk => hl.2.2 k (by omega)
  have hr : I s 3 &&& (I l 2 ^^^ (-1)) = nI (riB cs H) := by rw [hl.1, and_m1, hri]
  have hp := riB_lt (cs := cs) hH8
  have hall : (nI 1 <<< (I s 0 &&& 31)) - nI 1 = nI (2 ^ H - 1) := by rw [hst.1]; exact (by decide +kernel : ∀ H, H ≤ 8 → (nI 1 <<< (nI H &&& 31)) - nI 1 = nI (2 ^ H - 1)) H hH8
  have h2H : 2 ^ H - 1 < 256 := by have := pw8 hH8; have := Nat.two_pow_pos H; omega
  have hsk := rsT_eq (un := un) (Lt := so0) (E := 2) hH8 hM20 hr hz
  refine ct_of 1 (by decide +kernel) (Nat.le_of_ble_eq_true rfl) rfl ?_
  by_cases hcn : cnR cs H = H
  · have hlw : lawB 0 H M un cs = if (rsT un cs M H 2).2.2 then -2 else if 1 < (rsT un cs M H 2).2.1.length then nI 1 else nI 0 := by unfold lawB; rw [if_pos rfl, if_pos hcn]
    have hlen := skTop_len (by decide) hsk
    rw [hlw]
    refine r_iload_n dX9_breaksLaw_0 rfl ?_
    refine r_if_ne (tgt := 61) dX9_breaksLaw_1 (by decide) (fun hz => absurd (show _ from rfl) hz) (fun _ => ?_)
    refine r_aload_n dX9_breaksLaw_4 rfl ?_
    refine r_getR dX9_breaksLaw_5 fl_X9_31 rfl c0 e5 ?_
    refine r_getI dX9_breaksLaw_8 fl_X9_363 rfl kSs.1 ?_
    rw [hri]
    refine r_aload_n dX9_breaksLaw_11 rfl ?_
    refine r_getR dX9_breaksLaw_12 fl_X9_31 rfl c0 e5 ?_
    refine r_virtE (c_X7_allHouses s kSs) lk_X9_318 mc_X7_allHouses dX9_breaksLaw_15 kSs.1 (by decide) rfl rfl (Nat.le_of_ble_eq_true rfl) ?_
    rw [hall]
    refine r_icmp_eq (tgt := 23) dX9_breaksLaw_18 (by decide) (fun _ => ?_) (fun hz => absurd (show _ from (by rw [cn_riB.mpr hcn])) hz)
    refine r_aload_n dX9_breaksLaw_23 rfl ?_
    refine r_getR dX9_breaksLaw_24 fl_X9_64 rfl c0 e12 ?_
    refine r_aload_n dX9_breaksLaw_27 rfl ?_
    refine r_getR dX9_breaksLaw_28 fl_X9_31 rfl c0 e5 ?_
    refine r_aload_n dX9_breaksLaw_31 rfl ?_
    refine r_getR dX9_breaksLaw_32 fl_X9_41 rfl c0 e7 ?_
    refine r_virt (kc2 := 0) (ks2 := 0) (c_X0_upToTwo (o + 47) (o + 48) s l H M 0 (fun h => lkm 0 (cs h)) cs un so0 (I (l + 1)) (I (l + 2)) (rsT un cs M H 2) a47.1 a47.2.2.2.2.1 (by omega) kSs kLl a47.2.1 (by omega) (by omega) (by omega) hH8 hcl hM20 hsk) lk_X9_277 mc_X0_upToTwo dX9_breaksLaw_35 a47.1 (by decide) rfl rfl (Nat.le_of_ble_eq_true rfl) (by decide) (by decide) (fun _ _ _ _ _ _ h => nomatch h.1) ?_
    rintro v n1 kd1 I1 J1 P1 ⟨h0, rfl, rfl, hq, -, -, -, -, -⟩
    cases h0
    simp only [Option.toList, List.cons_append, List.nil_append]
    by_cases hsp : (rsT un cs M H 2).2.2 = true
    · rw [show skv (rsT un cs M H 2).2.2 (rsT un cs M H 2).2.1 = -2 from by unfold skv; rw [if_pos hsp], if_pos hsp]
      refine r_istore_n dX9_breaksLaw_38 (by decide) ?_
      refine r_iload_n dX9_breaksLaw_39 rfl ?_
      refine r_bipush (v := -2) dX9_breaksLaw_40 (by decide) ?_
      refine r_icmp_ne (tgt := 50) dX9_breaksLaw_42 (by decide) (fun hz => absurd (show _ from rfl) hz) (fun _ => ?_)
      refine r_bipush (v := -2) dX9_breaksLaw_45 (by decide) ?_
      refine r_goto (tgt := 60) dX9_breaksLaw_47 (by decide) ?_
      refine r_iret rfl dX9_breaksLaw_60 ?_
      exact ⟨bkP.q hsc hq, rfl⟩
    · rw [show skv (rsT un cs M H 2).2.2 (rsT un cs M H 2).2.1 = nI (rsT un cs M H 2).2.1.length from by unfold skv; rw [if_neg hsp], if_neg hsp]
      by_cases h1 : 1 < (rsT un cs M H 2).2.1.length
      · rw [if_pos h1]
        refine r_istore_n dX9_breaksLaw_38 (by decide) ?_
        refine r_iload_n dX9_breaksLaw_39 rfl ?_
        refine r_bipush (v := -2) dX9_breaksLaw_40 (by decide) ?_
        refine r_icmp_ne (tgt := 50) dX9_breaksLaw_42 (by decide) (fun _ => ?_) (fun hz => absurd hz (show ¬ _ from (nI_m2 (by omega))))
        refine r_iload_n dX9_breaksLaw_50 rfl ?_
        refine r_iconst (v := nI 1) dX9_breaksLaw_51 (by decide) ?_
        refine r_icmp_le (tgt := 59) dX9_breaksLaw_52 (by decide) (fun hz => absurd hz (show ¬ _ from (by rw [nI_leI (by omega) (by omega)]; omega))) (fun _ => ?_)
        refine r_iconst (v := nI 1) dX9_breaksLaw_55 (by decide) ?_
        refine r_goto (tgt := 60) dX9_breaksLaw_56 (by decide) ?_
        refine r_iret rfl dX9_breaksLaw_60 ?_
        exact ⟨bkP.q hsc hq, rfl⟩
      · rw [if_neg h1]
        refine r_istore_n dX9_breaksLaw_38 (by decide) ?_
        refine r_iload_n dX9_breaksLaw_39 rfl ?_
        refine r_bipush (v := -2) dX9_breaksLaw_40 (by decide) ?_
        refine r_icmp_ne (tgt := 50) dX9_breaksLaw_42 (by decide) (fun _ => ?_) (fun hz => absurd hz (show ¬ _ from (nI_m2 (by omega))))
        refine r_iload_n dX9_breaksLaw_50 rfl ?_
        refine r_iconst (v := nI 1) dX9_breaksLaw_51 (by decide) ?_
        refine r_icmp_le (tgt := 59) dX9_breaksLaw_52 (by decide) (fun _ => ?_) (fun hz => absurd (show _ from (by rw [nI_leI (by omega) (by omega)]; omega)) hz)
        refine r_iconst (v := nI 0) dX9_breaksLaw_59 (by decide) ?_
        refine r_iret rfl dX9_breaksLaw_60 ?_
        exact ⟨bkP.q hsc hq, rfl⟩
  · have hlw : lawB 0 H M un cs = nI 0 := by unfold lawB; rw [if_pos rfl, if_neg hcn]
    rw [hlw]
    refine r_iload_n dX9_breaksLaw_0 rfl ?_
    refine r_if_ne (tgt := 61) dX9_breaksLaw_1 (by decide) (fun hz => absurd (show _ from rfl) hz) (fun _ => ?_)
    refine r_aload_n dX9_breaksLaw_4 rfl ?_
    refine r_getR dX9_breaksLaw_5 fl_X9_31 rfl c0 e5 ?_
    refine r_getI dX9_breaksLaw_8 fl_X9_363 rfl kSs.1 ?_
    rw [hri]
    refine r_aload_n dX9_breaksLaw_11 rfl ?_
    refine r_getR dX9_breaksLaw_12 fl_X9_31 rfl c0 e5 ?_
    refine r_virtE (c_X7_allHouses s kSs) lk_X9_318 mc_X7_allHouses dX9_breaksLaw_15 kSs.1 (by decide) rfl rfl (Nat.le_of_ble_eq_true rfl) ?_
    rw [hall]
    refine r_icmp_eq (tgt := 23) dX9_breaksLaw_18 (by decide) (fun hz => absurd hz (show ¬ _ from (fun q => hcn (cn_riB.mp ((nI_eq (by omega) (by omega)).mp q))))) (fun _ => ?_)
    refine r_iconst (v := nI 0) dX9_breaksLaw_21 (by decide) ?_
    refine r_iret rfl dX9_breaksLaw_22 ?_
    exact ⟨bkP.q hsc qFr.rf, rfl⟩
set_option maxHeartbeats 4000000 in
set_option maxRecDepth 100000 in
theorem d_brk2 (o b s f l M H : Nat) (un : Bool) (cs : Nat → List Nat) {n : Nat} {kd : mK} {I : mI} {J : mJ} {P : mP} (hX : kX kd P o b s f l) (hc : csOK cs H) (hH8 : H ≤ 8) (hM20 : M ≤ 20) (hst : stM cs H I s) (hmo : I s 1 = nI M) (hu : decide (I s 2 = 0) = (!un)) (hl : I l 2 = nI 0 ∧ I l 7 = nI 0 ∧ ∀ j, j < 8 → I (l + 1) j = nI 0 ∧ I (l + 2) j = nI 0) (hn : o + 69 ≤ n) (hn9 : n < 999999) (hsc : scr kd P o n) : Ct yX9_breaksLaw cX9_breaksLaw 3 (some .int) 22 0 0 [.ref o, .int (nI 2)] n kd I J P (bkQ n kd I J P o s (lawB 2 H M un cs)) := by
  have hX0 := hX
  obtain ⟨⟨c0, c1, c2⟩, ⟨s3, s13⟩, ⟨l23, l29, l35⟩, ⟨q41, a47, g56, w58, r61, d66, p67⟩, ⟨e0, e3, e8, e10, e12, e13, e14, e15, e16, e17⟩, ⟨e4, e5, e6, e7⟩, hbs, hfl, ho⟩ := hX
  have kSs : kS kd P s := by rcases hbs with h | h <;> rw [h.2]; exact s13; exact s3
  have kLl : kL kd P l := by rcases hfl with h | h <;> rw [h.2]; exact l29; exact l23
  have hcl := cl_seed (l := l) (Lt := so0) hc hH8 hst hmo hu hl.2.1
  have hri := st_riB hst
  have hz : ∀ k, k < H → I (l + 1) k = nI 0 ∧ I (l + 2) k = nI 0 := fun k hk => hl.2.2 k (by omega)
  have hr : I s 3 &&& (I l 2 ^^^ (-1)) = nI (riB cs H) := by rw [hl.1, and_m1, hri]
  have hp := riB_lt (cs := cs) hH8
  have hkn : kn2 (RK un so0 0 H M (fun h => lkm 0 (cs h)) (tvN (I (l + 1)) (I (l + 2)) (nI M) H cs)) (riB cs H) (riB cs H + 1) (pc8 (riB cs H) + 1) 0 = (knV un cs M H) := by
    rw [RK_q hz, kn_same _ hp]
    rfl
  have hk := c_X0_smallestKnot (n := n) (J := J) (o + 47) (o + 48) s l H M 0 (riB cs H) (fun h => lkm 0 (cs h)) cs un so0 (I (l + 1)) (I (l + 2)) hH8 hM20 hp ⟨⟨a47.1, a47.2.2.2.2.1, by omega⟩, kSs, kLl, a47.2.1, by omega, by omega, by omega, hcl⟩ hr
  rw [hkn] at hk
  have hrg : (knV un cs M H) = -1 ∨ (knV un cs M H) = -2 ∨ ∃ t, t < 256 ∧ (knV un cs M H) = nI t := kn2_rng 9 0
  have hlw : lawB 2 H M un cs = if (knV un cs M H) = -2 then -2 else if (knV un cs M H) = -1 then nI 0 else if nI 2 < bcF (knV un cs M H) then nI 1 else nI 0 := by unfold lawB; rw [if_neg (by decide), if_neg (by decide)]
  rw [hlw]
  refine ct_of 1 (by decide +kernel) (Nat.le_of_ble_eq_true rfl) rfl ?_
  refine r_iload_n dX9_breaksLaw_0 rfl ?_
  refine r_if_ne (tgt := 61) dX9_breaksLaw_1 (by decide) (fun _ => ?_) (fun hz => absurd hz (show ¬ _ from (by decide)))
  refine r_iload_n dX9_breaksLaw_61 rfl ?_
  refine r_iconst (v := nI 1) dX9_breaksLaw_62 (by decide) ?_
  refine r_icmp_ne (tgt := 162) dX9_breaksLaw_63 (by decide) (fun _ => ?_) (fun hz => absurd hz (show ¬ _ from (by decide)))
  refine r_aload_n dX9_breaksLaw_162 rfl ?_
  refine r_getR dX9_breaksLaw_163 fl_X9_64 rfl c0 e12 ?_
  refine r_aload_n dX9_breaksLaw_166 rfl ?_
  refine r_getR dX9_breaksLaw_167 fl_X9_31 rfl c0 e5 ?_
  refine r_aload_n dX9_breaksLaw_170 rfl ?_
  refine r_getR dX9_breaksLaw_171 fl_X9_41 rfl c0 e7 ?_
  refine r_virt (kc2 := 0) (ks2 := 0) (hk) lk_X9_211 mc_X0_smallestKnot dX9_breaksLaw_174 a47.1 (by decide) rfl rfl (Nat.le_of_ble_eq_true rfl) (by decide) (by decide) (fun _ _ _ _ _ _ h => nomatch h.1) ?_
  rintro v n1 kd1 I1 J1 P1 ⟨h0, rfl, rfl, hq⟩
  cases h0
  simp only [Option.toList, List.cons_append, List.nil_append]
  rcases hrg with e | e | ⟨t, ht, e⟩
  · rw [e, if_neg (by decide), if_pos rfl]
    refine r_istore_n dX9_breaksLaw_177 (by decide) ?_
    refine r_iload_n dX9_breaksLaw_178 rfl ?_
    refine r_bipush (v := -2) dX9_breaksLaw_179 (by decide) ?_
    refine r_icmp_ne (tgt := 189) dX9_breaksLaw_181 (by decide) (fun _ => ?_) (fun hz => absurd hz (show ¬ _ from (by decide)))
    refine r_iload_n dX9_breaksLaw_189 rfl ?_
    refine r_iconst (v := (-1)) dX9_breaksLaw_190 (by decide) ?_
    refine r_icmp_eq (tgt := 206) dX9_breaksLaw_191 (by decide) (fun _ => ?_) (fun hz => absurd (show _ from rfl) hz)
    refine r_iconst (v := nI 0) dX9_breaksLaw_206 (by decide) ?_
    refine r_iret rfl dX9_breaksLaw_207 ?_
    exact ⟨bkP.q hsc hq, rfl⟩
  · rw [e, if_pos rfl]
    refine r_istore_n dX9_breaksLaw_177 (by decide) ?_
    refine r_iload_n dX9_breaksLaw_178 rfl ?_
    refine r_bipush (v := -2) dX9_breaksLaw_179 (by decide) ?_
    refine r_icmp_ne (tgt := 189) dX9_breaksLaw_181 (by decide) (fun hz => absurd (show _ from rfl) hz) (fun _ => ?_)
    refine r_bipush (v := -2) dX9_breaksLaw_184 (by decide) ?_
    refine r_goto (tgt := 207) dX9_breaksLaw_186 (by decide) ?_
    refine r_iret rfl dX9_breaksLaw_207 ?_
    exact ⟨bkP.q hsc hq, rfl⟩
  · rw [e, if_neg (nI_m2 (by omega)), if_neg (nI_m1 (by omega)), bc_pc t ht]
    have hb8 := pc8_le t ht
    by_cases h2 : 2 < pc8 t
    · rw [if_pos ((nI_ltI (by omega) (by omega)).mpr h2)]
      refine r_istore_n dX9_breaksLaw_177 (by decide) ?_
      refine r_iload_n dX9_breaksLaw_178 rfl ?_
      refine r_bipush (v := -2) dX9_breaksLaw_179 (by decide) ?_
      refine r_icmp_ne (tgt := 189) dX9_breaksLaw_181 (by decide) (fun _ => ?_) (fun hz => absurd hz (show ¬ _ from (nI_m2 (by omega))))
      refine r_iload_n dX9_breaksLaw_189 rfl ?_
      refine r_iconst (v := (-1)) dX9_breaksLaw_190 (by decide) ?_
      refine r_icmp_eq (tgt := 206) dX9_breaksLaw_191 (by decide) (fun hz => absurd hz (show ¬ _ from (nI_m1 (by omega)))) (fun _ => ?_)
      refine r_iload_n dX9_breaksLaw_194 rfl ?_
      refine r_statE (c_J6_bitCount_0f7a4 (nI t)) lk_X9_366 mc_J6_bitCount_0f7a4 dX9_breaksLaw_195 (by decide) rfl rfl (Nat.le_of_ble_eq_true rfl) ?_
      rw [bc_pc t ht]
      refine r_iconst (v := nI 2) dX9_breaksLaw_198 (by decide) ?_
      refine r_icmp_le (tgt := 206) dX9_breaksLaw_199 (by decide) (fun hz => absurd hz (show ¬ _ from (by rw [nI_leI (by omega) (by omega)]; omega))) (fun _ => ?_)
      refine r_iconst (v := nI 1) dX9_breaksLaw_202 (by decide) ?_
      refine r_goto (tgt := 207) dX9_breaksLaw_203 (by decide) ?_
      refine r_iret rfl dX9_breaksLaw_207 ?_
      exact ⟨bkP.q hsc hq, rfl⟩
    · rw [if_neg (fun q => h2 ((nI_ltI (by omega) (by omega)).mp q))]
      refine r_istore_n dX9_breaksLaw_177 (by decide) ?_
      refine r_iload_n dX9_breaksLaw_178 rfl ?_
      refine r_bipush (v := -2) dX9_breaksLaw_179 (by decide) ?_
      refine r_icmp_ne (tgt := 189) dX9_breaksLaw_181 (by decide) (fun _ => ?_) (fun hz => absurd hz (show ¬ _ from (nI_m2 (by omega))))
      refine r_iload_n dX9_breaksLaw_189 rfl ?_
      refine r_iconst (v := (-1)) dX9_breaksLaw_190 (by decide) ?_
      refine r_icmp_eq (tgt := 206) dX9_breaksLaw_191 (by decide) (fun hz => absurd hz (show ¬ _ from (nI_m1 (by omega)))) (fun _ => ?_)
      refine r_iload_n dX9_breaksLaw_194 rfl ?_
      refine r_statE (c_J6_bitCount_0f7a4 (nI t)) lk_X9_366 mc_J6_bitCount_0f7a4 dX9_breaksLaw_195 (by decide) rfl rfl (Nat.le_of_ble_eq_true rfl) ?_
      rw [bc_pc t ht]
      refine r_iconst (v := nI 2) dX9_breaksLaw_198 (by decide) ?_
      refine r_icmp_le (tgt := 206) dX9_breaksLaw_199 (by decide) (fun _ => ?_) (fun hz => absurd (show _ from (by rw [nI_leI (by omega) (by omega)]; omega)) hz)
      refine r_iconst (v := nI 0) dX9_breaksLaw_206 (by decide) ?_
      refine r_iret rfl dX9_breaksLaw_207 ?_
      exact ⟨bkP.q hsc hq, rfl⟩
set_option maxHeartbeats 4000000 in
set_option maxRecDepth 100000 in
theorem d_brk1 (o b s f l M H : Nat) (un : Bool) (cs : Nat → List Nat) {n : Nat} {kd : mK} {I : mI} {J : mJ} {P : mP} (hX : kX kd P o b s f l) (hc : csOK cs H) (hH8 : H ≤ 8) (hM20 : M ≤ 20) (hst : stM cs H I s) (hmo : I s 1 = nI M) (hu : decide (I s 2 = 0) = (!un)) (hl : I l 2 = nI 0 ∧ I l 7 = nI 0 ∧ ∀ j, j < 8 → I (l + 1) j = nI 0 ∧ I (l + 2) j = nI 0) (hn : o + 69 ≤ n) (hn9 : n < 999999) (hsc : scr kd P o n) (hlook : fwB (rsT un cs M H 1001) = true → P (o + 56) 3 ≠ none ∨ (rsT un cs M H 1001).2.1.length < 2) : Ct yX9_breaksLaw cX9_breaksLaw 3 (some .int) 22 0 0 [.ref o, .int (nI 1)] n kd I J P (bkQ n kd I J P o s (lawB 1 H M un cs)) := by
  have hX0 := hX
  obtain ⟨⟨c0, c1, c2⟩, ⟨s3, s13⟩, ⟨l23, l29, l35⟩, ⟨q41, a47, g56, w58, r61, d66, p67⟩, ⟨e0, e3, e8, e10, e12, e13, e14, e15, e16, e17⟩, ⟨e4, e5, e6, e7⟩, hbs, hfl, ho⟩ := hX
  have kSs : kS kd P s := by rcases hbs with h | h <;> rw [h.2]; exact s13; exact s3
  have kLl : kL kd P l := by rcases hfl with h | h <;> rw [h.2]; exact l29; exact l23
  have hcl := cl_seed (l := l) (Lt := so0) hc hH8 hst hmo hu hl.2.1
  have hri := st_riB hst
  have hz : ∀ k, k < H → I (l + 1) k = nI 0 ∧ I (l + 2) k = nI 0 := fun k hk => hl.2.2 k (by omega)
  have hr : I s 3 &&& (I l 2 ^^^ (-1)) = nI (riB cs H) := by rw [hl.1, and_m1, hri]
  have hp := riB_lt (cs := cs) hH8
  have hsk := rsT_eq (un := un) (Lt := so0) (E := 1001) (r := I s 3) hH8 hM20 hri hz
  have hdr := skTop_dif hsk
  have hlw : lawB 1 H M un cs = if fwB (rsT un cs M H 1001) = true then (if lookV H (rsT un cs M H 1001).2.1 < H then nI 0 else nI 1) else -2 := by unfold lawB; rw [if_neg (by decide), if_pos rfl]
  rw [hlw]
  refine ct_of 1 (by decide +kernel) (Nat.le_of_ble_eq_true rfl) rfl ?_
  refine r_iload_n dX9_breaksLaw_0 rfl ?_
  refine r_if_ne (tgt := 61) dX9_breaksLaw_1 (by decide) (fun _ => ?_) (fun hz => absurd hz (show ¬ _ from (by decide)))
  refine r_iload_n dX9_breaksLaw_61 rfl ?_
  refine r_iconst (v := nI 1) dX9_breaksLaw_62 (by decide) ?_
  refine r_icmp_ne (tgt := 162) dX9_breaksLaw_63 (by decide) (fun hz => absurd (show _ from rfl) hz) (fun _ => ?_)
  refine r_aload_n dX9_breaksLaw_66 rfl ?_
  refine r_getR dX9_breaksLaw_67 fl_X9_64 rfl c0 e12 ?_
  refine r_getR dX9_breaksLaw_70 fl_X9_198 rfl a47.1 a47.2.2.2.2.1 ?_
  refine r_aload_n dX9_breaksLaw_73 rfl ?_
  refine r_getR dX9_breaksLaw_74 fl_X9_31 rfl c0 e5 ?_
  refine r_aload_n dX9_breaksLaw_77 rfl ?_
  refine r_getR dX9_breaksLaw_78 fl_X9_41 rfl c0 e7 ?_
  refine r_aload_n dX9_breaksLaw_81 rfl ?_
  refine r_getR dX9_breaksLaw_82 fl_X9_31 rfl c0 e5 ?_
  refine r_getI dX9_breaksLaw_85 fl_X9_363 rfl kSs.1 ?_
  refine r_iconst (v := nI 1) dX9_breaksLaw_88 (by decide) ?_
  refine r_virtV (c_setUpN (o + 48) s l H M 0 (I s 3) (nI 1) (fun h => lkm 0 (cs h)) cs un so0 (I (l + 1)) (I (l + 2)) kSs kLl a47.2.1 (by omega) (by omega) (by omega) hH8 hcl) lk_X9_304 mc_X6_setUp dX9_breaksLaw_89 a47.2.1.1 (by decide) rfl rfl (Nat.le_of_ble_eq_true rfl) ?_
  refine r_aload_n dX9_breaksLaw_92 rfl ?_
  refine r_getR dX9_breaksLaw_93 fl_X9_64 rfl c0 (by unfold suP; rw [am_up_n _ _ (by omega)]; exact e12) ?_
  refine r_getR dX9_breaksLaw_96 fl_X9_198 rfl a47.1 (by unfold suP; rw [am_up_n _ _ (by omega)]; exact a47.2.2.2.2.1) ?_
  refine r_virt (kc2 := 0) (ks2 := 0) (c_seekAllN (o + 48) s l H M 0 (I s 3) (nI 1) (fun h => lkm 0 (cs h)) cs un so0 (I (l + 1)) (I (l + 2)) (rsT un cs M H 1001) kSs kLl a47.2.1 (by omega) (by omega) (by omega) hH8 hcl hM20 (fun _ _ h => h) hsk) lk_X9_308 mc_X6_seekAll dX9_breaksLaw_99 a47.2.1.1 (by decide) rfl rfl (Nat.le_of_ble_eq_true rfl) (by decide) (by decide) (fun _ _ _ _ _ _ h => nomatch h.1) ?_
  rintro v n1 kd1 I1 J1 P1 ⟨h0, rfl, rfl, hq, -, -, h10, -, hJ⟩
  cases h0
  simp only [Option.toList, List.cons_append, List.nil_append]
  by_cases hb : fwB (rsT un cs M H 1001) = true
  · have hb' := hb
    unfold fwB at hb'
    rw [Bool.and_eq_true, decide_eq_true_iff, Bool.not_eq_true'] at hb'
    have hA : skA (rsT un cs M H 1001) = nI (rsT un cs M H 1001).2.1.length := by unfold skA; rw [hb'.1, if_neg (by decide), if_neg (by omega)]
    rw [hA] at h10
    rw [if_pos hb, hA]
    have P0 : P1 o = P o := hq.2.2.1 o (by omega)
    have P47 : P1 (o + 47) = P (o + 47) := hq.2.2.1 (o + 47) (by omega)
    have P56 : P1 (o + 56) = P (o + 56) := hq.2.2.1 (o + 56) (by omega)
    have g56' : kG kd1 P1 (o + 56) := by unfold kG at g56 ⊢; rw [P56]; exact g56
    have hIs : I1 s 0 = nI H := by rw [hq.1 s (by omega) (by omega)]; exact hst.1
    have hpr := c_X3_prepare (n := n1) (I := I1) (J := J1) (o + 56) (o + 48) (rsT un cs M H 1001).2.1.length H (nmF (rsT un cs M H 1001).2.1) g56' a47.2.1.1 (by rw [hq.2.2.2 7 (by decide) (by decide)]; exact a47.2.1.2.2.2.2.2.2.2.2.2.1) a47.2.1.2.2.2.2.1 (by omega) (by omega) hb'.2 hH8 (fun i h hi hh => by rw [hJ]; exact pk_num hdr.2 hM20 hH8 (by omega) hi hh) (fun i h hi hh => by have := (nmF_rng hdr.2 i h hi hh).2; omega) h10
    refine r_istore_n dX9_breaksLaw_102 (by decide) ?_
    refine r_iload_n dX9_breaksLaw_103 rfl ?_
    refine r_bipush (v := -2) dX9_breaksLaw_104 (by decide) ?_
    refine r_icmp_eq (tgt := 115) dX9_breaksLaw_106 (by decide) (fun hz => absurd hz (show ¬ _ from (nI_m2 (by omega)))) (fun _ => ?_)
    refine r_iload_n dX9_breaksLaw_109 rfl ?_
    refine r_bipush (v := nI 40) dX9_breaksLaw_110 (by decide) ?_
    refine r_icmp_le (tgt := 118) dX9_breaksLaw_112 (by decide) (fun _ => ?_) (fun hz => absurd (show _ from (by rw [nI_leI (by omega) (by omega)]; omega)) hz)
    refine r_aload_n dX9_breaksLaw_118 rfl ?_
    refine r_getR dX9_breaksLaw_119 fl_X9_71 rfl c0 (by rw [P0]; exact e13) ?_
    refine r_aload_n dX9_breaksLaw_122 rfl ?_
    refine r_getR dX9_breaksLaw_123 fl_X9_64 rfl c0 (by rw [P0]; exact e12) ?_
    refine r_getR dX9_breaksLaw_126 fl_X9_198 rfl a47.1 (by rw [P47]; exact a47.2.2.2.2.1) ?_
    refine r_aload_n dX9_breaksLaw_129 rfl ?_
    refine r_getR dX9_breaksLaw_130 fl_X9_31 rfl c0 (by rw [P0]; exact e5) ?_
    refine r_getI dX9_breaksLaw_133 fl_X9_124 rfl kSs.1 ?_
    rw [hIs]
    refine r_virt (kc2 := 0) (ks2 := 0) hpr lk_X9_372 mc_X3_prepare dX9_breaksLaw_136 g56.1 (by decide) rfl rfl (Nat.le_of_ble_eq_true rfl) (by decide) (by decide) (fun _ _ _ _ _ _ hx => by obtain ⟨_, _, hx⟩ := hx; exact nomatch hx.1) ?_
    rintro v n2 kd2 I2 J2 P2 ⟨A, hA2, h0, rfl, rfl, rfl, rfl, rfl⟩
    cases h0
    simp only [Option.toList, List.nil_append]
    have hlk := c_looks0 (n := n2) (kd := kd2) (P := P2) (I := pI I1 (o + 56) H (rsT un cs M H 1001).2.1.length) (J := va_up J1 (o + 56 + 1) A) (o + 56) H (rsT un cs M H 1001).2.1 g56' (by
      rw [P56]
      rcases hsc with h | ⟨z, h1, h2, h3, h4⟩
      · exact Or.inl h
      · exact Or.inr ⟨z, h1, h2, by omega⟩) (by omega) (by omega) (pI_0 _ _ _ _) (pI_1 _ _ _ _) (fun h i hh hi => by rw [am_up_s]; exact hA2 h i hh hi) hb'.2 hH8 (by rw [P56]; exact hlook hb)
    refine r_aload_n dX9_breaksLaw_139 rfl ?_
    refine r_getR dX9_breaksLaw_140 fl_X9_71 rfl c0 (by rw [P0]; exact e13) ?_
    refine r_virt (kc2 := 0) (ks2 := 0) hlk lk_X9_222 mc_X3_fewestLooks dX9_breaksLaw_143 g56.1 (by decide) rfl rfl (Nat.le_of_ble_eq_true rfl) (by decide) (by decide) (fun _ _ _ _ _ _ hx => nomatch hx.1.1) ?_
    rintro v n3 kd3 I3 J3 P3 ⟨⟨h0, hnn, k3, i3, j3, p3, p3k, hz3⟩, hn30⟩
    cases h0
    simp only [Option.toList, List.cons_append, List.nil_append]
    have hl8 := lookV_8 H (rsT un cs M H 1001).2.1
    have pI_o : ∀ a, a ≠ o + 56 → pI I1 (o + 56) H (rsT un cs M H 1001).2.1.length a = I1 a := fun a ha => by unfold pI; rw [am_up_n _ _ ha]
    have hs3 : I3 s 0 = nI H := by
      rw [i3 s (by omega) (by
        rw [P56]
        rcases hsc with h | ⟨z, h1, h2, h3, h4⟩
        · rw [h]; exact fun q => nomatch q
        · rw [h1]; intro q; have := Option.some.inj q; omega), pI_o s (by omega)]
      exact hIs
    have hfin : ∀ v, bkP n2 kd2 I J P o s v (.inl (some (.int v))) n3 kd3 I3 J3 P3 := fun v => by
      refine ⟨rfl, hnn, ⟨k3, fun a a1 a2 a4 a5 => ?_, fun a a1 a2 => ?_, fun a a1 a2 a4 => ?_, fun k x y => ?_, fun k x => ?_⟩, ?_, ?_⟩
      · rw [i3 a a1 (by rw [P56]; exact a5), pI_o a (by omega)]
        exact hq.1 a (by omega) a4
      · rw [j3 a a1, am_up_n _ _ (by omega)]
        exact hq.2.1 a (by omega)
      · rw [p3 a a1 a4]
        exact hq.2.2.1 a a2
      · rw [p3 (o + 48) (by omega) (by omega)]
        exact hq.2.2.2 k x y
      · rw [p3k k x, P56]
      · unfold scr
        rcases hz3 with h | ⟨z, h1, h2, h3, h4⟩
        · rw [h, P56]
          rcases hsc with h | ⟨z, h1, h2, h3, h4⟩
          · exact Or.inl h
          · exact Or.inr ⟨z, h1, by rw [k3 z h4]; exact h2, h3, by omega⟩
        · exact Or.inr ⟨z, h3, h4, by omega, h2⟩
      · rcases hz3 with h | ⟨z, h1, h2, h3, h4⟩
        · exact Or.inl (by rw [h, P56])
        · exact Or.inr ⟨z, h1, h3⟩
    have P30 : P3 o = P o := by rw [p3 o (by omega) (by omega)]; exact P0
    have ks3 : kd3 s = some (0, 7) := by rw [k3 s (by omega)]; exact kSs.1
    have ko3 : kd3 o = some (0, 9) := by rw [k3 o (by omega)]; exact c0
    by_cases hlt : lookV H (rsT un cs M H 1001).2.1 < H
    · rw [if_pos hlt]
      refine r_aload_n dX9_breaksLaw_146 rfl ?_
      refine r_getR dX9_breaksLaw_147 fl_X9_31 rfl ko3 (by rw [P30]; exact e5) ?_
      refine r_getI dX9_breaksLaw_150 fl_X9_124 rfl ks3 ?_
      rw [hs3]
      refine r_icmp_ge (tgt := 160) dX9_breaksLaw_153 (by decide) (fun hz => absurd hz (show ¬ _ from (by rw [nI_leI (by omega) (by omega)]; omega))) (fun _ => ?_)
      refine r_iconst (v := nI 0) dX9_breaksLaw_156 (by decide) ?_
      refine r_goto (tgt := 161) dX9_breaksLaw_157 (by decide) ?_
      refine r_iret rfl dX9_breaksLaw_161 ?_
      exact ⟨hfin _, hn30⟩
    · rw [if_neg hlt]
      refine r_aload_n dX9_breaksLaw_146 rfl ?_
      refine r_getR dX9_breaksLaw_147 fl_X9_31 rfl ko3 (by rw [P30]; exact e5) ?_
      refine r_getI dX9_breaksLaw_150 fl_X9_124 rfl ks3 ?_
      rw [hs3]
      refine r_icmp_ge (tgt := 160) dX9_breaksLaw_153 (by decide) (fun _ => ?_) (fun hz => absurd (show _ from (by rw [nI_leI (by omega) (by omega)]; omega)) hz)
      refine r_iconst (v := nI 1) dX9_breaksLaw_160 (by decide) ?_
      refine r_iret rfl dX9_breaksLaw_161 ?_
      exact ⟨hfin _, hn30⟩
  · rw [if_neg hb]
    have hbf : ¬ (((rsT un cs M H 1001).2.2 = false) ∧ (rsT un cs M H 1001).2.1.length ≤ 40) := fun q => hb (by unfold fwB; rw [q.1, decide_eq_true q.2]; rfl)
    by_cases hA : skA (rsT un cs M H 1001) = -2
    · rw [hA]
      refine r_istore_n dX9_breaksLaw_102 (by decide) ?_
      refine r_iload_n dX9_breaksLaw_103 rfl ?_
      refine r_bipush (v := -2) dX9_breaksLaw_104 (by decide) ?_
      refine r_icmp_eq (tgt := 115) dX9_breaksLaw_106 (by decide) (fun _ => ?_) (fun hz => absurd (show _ from rfl) hz)
      refine r_bipush (v := -2) dX9_breaksLaw_115 (by decide) ?_
      refine r_iret rfl dX9_breaksLaw_117 ?_
      exact ⟨bkP.q hsc hq, rfl⟩
    · have hA2 : (rsT un cs M H 1001).2.2 = false ∧ (rsT un cs M H 1001).2.1.length ≤ 1000 ∧ skA (rsT un cs M H 1001) = nI (rsT un cs M H 1001).2.1.length := by
        unfold skA at hA ⊢
        split at hA
        · exact absurd rfl hA
        · split at hA
          · exact absurd rfl hA
          · refine ⟨by simpa using ‹¬ _ = true›, by omega, by rw [if_neg ‹_›, if_neg ‹_›]⟩
      have hA3 : ¬ (rsT un cs M H 1001).2.1.length ≤ 40 := fun q => hbf ⟨hA2.1, q⟩
      rw [hA2.2.2]
      refine r_istore_n dX9_breaksLaw_102 (by decide) ?_
      refine r_iload_n dX9_breaksLaw_103 rfl ?_
      refine r_bipush (v := -2) dX9_breaksLaw_104 (by decide) ?_
      refine r_icmp_eq (tgt := 115) dX9_breaksLaw_106 (by decide) (fun hz => absurd hz (show ¬ _ from (nI_m2 (by omega)))) (fun _ => ?_)
      refine r_iload_n dX9_breaksLaw_109 rfl ?_
      refine r_bipush (v := nI 40) dX9_breaksLaw_110 (by decide) ?_
      refine r_icmp_le (tgt := 118) dX9_breaksLaw_112 (by decide) (fun hz => absurd hz (show ¬ _ from (by rw [nI_leI (by omega) (by omega)]; omega))) (fun _ => ?_)
      refine r_bipush (v := -2) dX9_breaksLaw_115 (by decide) ?_
      refine r_iret rfl dX9_breaksLaw_117 ?_
      exact ⟨bkP.q hsc hq, rfl⟩
set_option maxHeartbeats 4000000 in
set_option maxRecDepth 100000 in
theorem e_brk1 (o b s f l M H : Nat) (un : Bool) (cs : Nat → List Nat) {n : Nat} {kd : mK} {I : mI} {J : mJ} {P : mP} (hX : kX kd P o b s f l) (hc : csOK cs H) (hH8 : H ≤ 8) (hM20 : M ≤ 20) (hst : stM cs H I s) (hmo : I s 1 = nI M) (hu : decide (I s 2 = 0) = (!un)) (hl : I l 2 = nI 0 ∧ I l 7 = nI 0 ∧ ∀ j, j < 8 → I (l + 1) j = nI 0 ∧ I (l + 2) j = nI 0) (hn : o + 69 ≤ n) (hn9 : n < 999999) (hsc : scr kd P o n) (hw1 : fwB (rsT un cs M H 1001) = true) (hnone : P (o + 56) 3 = none) (hl2 : 2 ≤ (rsT un cs M H 1001).2.1.length) : Ct yX9_breaksLaw cX9_breaksLaw 3 (some .int) 22 1 10240 [.ref o, .int (nI 1)] n kd I J P (bkR n kd I J P o s (lawB 1 H M un cs)) := by
  have hX0 := hX
  obtain ⟨⟨c0, c1, c2⟩, ⟨s3, s13⟩, ⟨l23, l29, l35⟩, ⟨q41, a47, g56, w58, r61, d66, p67⟩, ⟨e0, e3, e8, e10, e12, e13, e14, e15, e16, e17⟩, ⟨e4, e5, e6, e7⟩, hbs, hfl, ho⟩ := hX
  have kSs : kS kd P s := by rcases hbs with h | h <;> rw [h.2]; exact s13; exact s3
  have kLl : kL kd P l := by rcases hfl with h | h <;> rw [h.2]; exact l29; exact l23
  have hcl := cl_seed (l := l) (Lt := so0) hc hH8 hst hmo hu hl.2.1
  have hri := st_riB hst
  have hz : ∀ k, k < H → I (l + 1) k = nI 0 ∧ I (l + 2) k = nI 0 := fun k hk => hl.2.2 k (by omega)
  have hr : I s 3 &&& (I l 2 ^^^ (-1)) = nI (riB cs H) := by rw [hl.1, and_m1, hri]
  have hp := riB_lt (cs := cs) hH8
  have hsk := rsT_eq (un := un) (Lt := so0) (E := 1001) (r := I s 3) hH8 hM20 hri hz
  have hdr := skTop_dif hsk
  have hlw : lawB 1 H M un cs = if fwB (rsT un cs M H 1001) = true then (if lookV H (rsT un cs M H 1001).2.1 < H then nI 0 else nI 1) else -2 := by unfold lawB; rw [if_neg (by decide), if_pos rfl]
  rw [hlw]
  refine ct_of 1 (by decide +kernel) (Nat.le_of_ble_eq_true rfl) rfl ?_
  refine r_iload_n dX9_breaksLaw_0 rfl ?_
  refine r_if_ne (tgt := 61) dX9_breaksLaw_1 (by decide) (fun _ => ?_) (fun hz => absurd hz (show ¬ _ from (by decide)))
  refine r_iload_n dX9_breaksLaw_61 rfl ?_
  refine r_iconst (v := nI 1) dX9_breaksLaw_62 (by decide) ?_
  refine r_icmp_ne (tgt := 162) dX9_breaksLaw_63 (by decide) (fun hz => absurd (show _ from rfl) hz) (fun _ => ?_)
  refine r_aload_n dX9_breaksLaw_66 rfl ?_
  refine r_getR dX9_breaksLaw_67 fl_X9_64 rfl c0 e12 ?_
  refine r_getR dX9_breaksLaw_70 fl_X9_198 rfl a47.1 a47.2.2.2.2.1 ?_
  refine r_aload_n dX9_breaksLaw_73 rfl ?_
  refine r_getR dX9_breaksLaw_74 fl_X9_31 rfl c0 e5 ?_
  refine r_aload_n dX9_breaksLaw_77 rfl ?_
  refine r_getR dX9_breaksLaw_78 fl_X9_41 rfl c0 e7 ?_
  refine r_aload_n dX9_breaksLaw_81 rfl ?_
  refine r_getR dX9_breaksLaw_82 fl_X9_31 rfl c0 e5 ?_
  refine r_getI dX9_breaksLaw_85 fl_X9_363 rfl kSs.1 ?_
  refine r_iconst (v := nI 1) dX9_breaksLaw_88 (by decide) ?_
  refine r_virtV (c_setUpN (o + 48) s l H M 0 (I s 3) (nI 1) (fun h => lkm 0 (cs h)) cs un so0 (I (l + 1)) (I (l + 2)) kSs kLl a47.2.1 (by omega) (by omega) (by omega) hH8 hcl) lk_X9_304 mc_X6_setUp dX9_breaksLaw_89 a47.2.1.1 (by decide) rfl rfl (Nat.le_of_ble_eq_true rfl) ?_
  refine r_aload_n dX9_breaksLaw_92 rfl ?_
  refine r_getR dX9_breaksLaw_93 fl_X9_64 rfl c0 (by unfold suP; rw [am_up_n _ _ (by omega)]; exact e12) ?_
  refine r_getR dX9_breaksLaw_96 fl_X9_198 rfl a47.1 (by unfold suP; rw [am_up_n _ _ (by omega)]; exact a47.2.2.2.2.1) ?_
  refine r_virt (kc2 := 1) (ks2 := 10240) (c_seekAllN (o + 48) s l H M 0 (I s 3) (nI 1) (fun h => lkm 0 (cs h)) cs un so0 (I (l + 1)) (I (l + 2)) (rsT un cs M H 1001) kSs kLl a47.2.1 (by omega) (by omega) (by omega) hH8 hcl hM20 (fun _ _ h => h) hsk) lk_X9_308 mc_X6_seekAll dX9_breaksLaw_99 a47.2.1.1 (by decide) rfl rfl (Nat.le_of_ble_eq_true rfl) (by decide) (by decide) (fun _ _ _ _ _ _ h => nomatch h.1) ?_
  rintro v n1 kd1 I1 J1 P1 ⟨h0, rfl, rfl, hq, -, -, h10, -, hJ⟩
  cases h0
  simp only [Option.toList, List.cons_append, List.nil_append]
  by_cases hb : fwB (rsT un cs M H 1001) = true
  · have hb' := hb
    unfold fwB at hb'
    rw [Bool.and_eq_true, decide_eq_true_iff, Bool.not_eq_true'] at hb'
    have hA : skA (rsT un cs M H 1001) = nI (rsT un cs M H 1001).2.1.length := by unfold skA; rw [hb'.1, if_neg (by decide), if_neg (by omega)]
    rw [hA] at h10
    rw [if_pos hb, hA]
    have P0 : P1 o = P o := hq.2.2.1 o (by omega)
    have P47 : P1 (o + 47) = P (o + 47) := hq.2.2.1 (o + 47) (by omega)
    have P56 : P1 (o + 56) = P (o + 56) := hq.2.2.1 (o + 56) (by omega)
    have g56' : kG kd1 P1 (o + 56) := by unfold kG at g56 ⊢; rw [P56]; exact g56
    have hIs : I1 s 0 = nI H := by rw [hq.1 s (by omega) (by omega)]; exact hst.1
    have hpr := c_X3_prepare (n := n1) (I := I1) (J := J1) (o + 56) (o + 48) (rsT un cs M H 1001).2.1.length H (nmF (rsT un cs M H 1001).2.1) g56' a47.2.1.1 (by rw [hq.2.2.2 7 (by decide) (by decide)]; exact a47.2.1.2.2.2.2.2.2.2.2.2.1) a47.2.1.2.2.2.2.1 (by omega) (by omega) hb'.2 hH8 (fun i h hi hh => by rw [hJ]; exact pk_num hdr.2 hM20 hH8 (by omega) hi hh) (fun i h hi hh => by have := (nmF_rng hdr.2 i h hi hh).2; omega) h10
    refine r_istore_n dX9_breaksLaw_102 (by decide) ?_
    refine r_iload_n dX9_breaksLaw_103 rfl ?_
    refine r_bipush (v := -2) dX9_breaksLaw_104 (by decide) ?_
    refine r_icmp_eq (tgt := 115) dX9_breaksLaw_106 (by decide) (fun hz => absurd hz (show ¬ _ from (nI_m2 (by omega)))) (fun _ => ?_)
    refine r_iload_n dX9_breaksLaw_109 rfl ?_
    refine r_bipush (v := nI 40) dX9_breaksLaw_110 (by decide) ?_
    refine r_icmp_le (tgt := 118) dX9_breaksLaw_112 (by decide) (fun _ => ?_) (fun hz => absurd (show _ from (by rw [nI_leI (by omega) (by omega)]; omega)) hz)
    refine r_aload_n dX9_breaksLaw_118 rfl ?_
    refine r_getR dX9_breaksLaw_119 fl_X9_71 rfl c0 (by rw [P0]; exact e13) ?_
    refine r_aload_n dX9_breaksLaw_122 rfl ?_
    refine r_getR dX9_breaksLaw_123 fl_X9_64 rfl c0 (by rw [P0]; exact e12) ?_
    refine r_getR dX9_breaksLaw_126 fl_X9_198 rfl a47.1 (by rw [P47]; exact a47.2.2.2.2.1) ?_
    refine r_aload_n dX9_breaksLaw_129 rfl ?_
    refine r_getR dX9_breaksLaw_130 fl_X9_31 rfl c0 (by rw [P0]; exact e5) ?_
    refine r_getI dX9_breaksLaw_133 fl_X9_124 rfl kSs.1 ?_
    rw [hIs]
    refine r_virt (kc2 := 1) (ks2 := 10240) hpr lk_X9_372 mc_X3_prepare dX9_breaksLaw_136 g56.1 (by decide) rfl rfl (Nat.le_of_ble_eq_true rfl) (by decide) (by decide) (fun _ _ _ _ _ _ hx => by obtain ⟨_, _, hx⟩ := hx; exact nomatch hx.1) ?_
    rintro v n2 kd2 I2 J2 P2 ⟨A, hA2, h0, rfl, rfl, rfl, rfl, rfl⟩
    cases h0
    simp only [Option.toList, List.nil_append]
    have hlk := c_looks1 (n := n2) (kd := kd2) (P := P2) (I := pI I1 (o + 56) H (rsT un cs M H 1001).2.1.length) (J := va_up J1 (o + 56 + 1) A) (o + 56) H (rsT un cs M H 1001).2.1 g56' (by rw [P56]; exact hnone) (by omega) (by omega) (pI_0 _ _ _ _) (pI_1 _ _ _ _) (fun h i hh hi => by rw [am_up_s]; exact hA2 h i hh hi) hb'.2 hH8 hl2
    refine r_aload_n dX9_breaksLaw_139 rfl ?_
    refine r_getR dX9_breaksLaw_140 fl_X9_71 rfl c0 (by rw [P0]; exact e13) ?_
    refine r_virt (kc2 := 0) (ks2 := 0) hlk lk_X9_222 mc_X3_fewestLooks dX9_breaksLaw_143 g56.1 (by decide) rfl rfl (Nat.le_of_ble_eq_true rfl) (by decide) (by decide) (fun _ _ _ _ _ _ hx => nomatch hx.1.1) ?_
    rintro v n3 kd3 I3 J3 P3 ⟨⟨h0, hnn, k3, i3, j3, p3, p3k, hz3⟩, hs31⟩
    cases h0
    simp only [Option.toList, List.cons_append, List.nil_append]
    have hl8 := lookV_8 H (rsT un cs M H 1001).2.1
    have pI_o : ∀ a, a ≠ o + 56 → pI I1 (o + 56) H (rsT un cs M H 1001).2.1.length a = I1 a := fun a ha => by unfold pI; rw [am_up_n _ _ ha]
    have hs3 : I3 s 0 = nI H := by
      rw [i3 s (by omega) (by
        rw [P56]
        rcases hsc with h | ⟨z, h1, h2, h3, h4⟩
        · rw [h]; exact fun q => nomatch q
        · rw [h1]; intro q; have := Option.some.inj q; omega), pI_o s (by omega)]
      exact hIs
    have hfin : ∀ v, bkP n2 kd2 I J P o s v (.inl (some (.int v))) n3 kd3 I3 J3 P3 := fun v => by
      refine ⟨rfl, hnn, ⟨k3, fun a a1 a2 a4 a5 => ?_, fun a a1 a2 => ?_, fun a a1 a2 a4 => ?_, fun k x y => ?_, fun k x => ?_⟩, ?_, ?_⟩
      · rw [i3 a a1 (by rw [P56]; exact a5), pI_o a (by omega)]
        exact hq.1 a (by omega) a4
      · rw [j3 a a1, am_up_n _ _ (by omega)]
        exact hq.2.1 a (by omega)
      · rw [p3 a a1 a4]
        exact hq.2.2.1 a a2
      · rw [p3 (o + 48) (by omega) (by omega)]
        exact hq.2.2.2 k x y
      · rw [p3k k x, P56]
      · unfold scr
        rcases hz3 with h | ⟨z, h1, h2, h3, h4⟩
        · rw [h, P56]
          rcases hsc with h | ⟨z, h1, h2, h3, h4⟩
          · exact Or.inl h
          · exact Or.inr ⟨z, h1, by rw [k3 z h4]; exact h2, h3, by omega⟩
        · exact Or.inr ⟨z, h3, h4, by omega, h2⟩
      · rcases hz3 with h | ⟨z, h1, h2, h3, h4⟩
        · exact Or.inl (by rw [h, P56])
        · exact Or.inr ⟨z, h1, h3⟩
    have P30 : P3 o = P o := by rw [p3 o (by omega) (by omega)]; exact P0
    have ks3 : kd3 s = some (0, 7) := by rw [k3 s (by omega)]; exact kSs.1
    have ko3 : kd3 o = some (0, 9) := by rw [k3 o (by omega)]; exact c0
    by_cases hlt : lookV H (rsT un cs M H 1001).2.1 < H
    · rw [if_pos hlt]
      refine r_aload_n dX9_breaksLaw_146 rfl ?_
      refine r_getR dX9_breaksLaw_147 fl_X9_31 rfl ko3 (by rw [P30]; exact e5) ?_
      refine r_getI dX9_breaksLaw_150 fl_X9_124 rfl ks3 ?_
      rw [hs3]
      refine r_icmp_ge (tgt := 160) dX9_breaksLaw_153 (by decide) (fun hz => absurd hz (show ¬ _ from (by rw [nI_leI (by omega) (by omega)]; omega))) (fun _ => ?_)
      refine r_iconst (v := nI 0) dX9_breaksLaw_156 (by decide) ?_
      refine r_goto (tgt := 161) dX9_breaksLaw_157 (by decide) ?_
      refine r_iret rfl dX9_breaksLaw_161 ?_
      exact ⟨hfin _, hs31⟩
    · rw [if_neg hlt]
      refine r_aload_n dX9_breaksLaw_146 rfl ?_
      refine r_getR dX9_breaksLaw_147 fl_X9_31 rfl ko3 (by rw [P30]; exact e5) ?_
      refine r_getI dX9_breaksLaw_150 fl_X9_124 rfl ks3 ?_
      rw [hs3]
      refine r_icmp_ge (tgt := 160) dX9_breaksLaw_153 (by decide) (fun _ => ?_) (fun hz => absurd (show _ from (by rw [nI_leI (by omega) (by omega)]; omega)) hz)
      refine r_iconst (v := nI 1) dX9_breaksLaw_160 (by decide) ?_
      refine r_iret rfl dX9_breaksLaw_161 ?_
      exact ⟨hfin _, hs31⟩
  · rw [if_neg hb]
    have hbf : ¬ (((rsT un cs M H 1001).2.2 = false) ∧ (rsT un cs M H 1001).2.1.length ≤ 40) := fun q => hb (by unfold fwB; rw [q.1, decide_eq_true q.2]; rfl)
    by_cases hA : skA (rsT un cs M H 1001) = -2
    · rw [hA]
      refine r_istore_n dX9_breaksLaw_102 (by decide) ?_
      refine r_iload_n dX9_breaksLaw_103 rfl ?_
      refine r_bipush (v := -2) dX9_breaksLaw_104 (by decide) ?_
      refine r_icmp_eq (tgt := 115) dX9_breaksLaw_106 (by decide) (fun _ => ?_) (fun hz => absurd (show _ from rfl) hz)
      refine r_bipush (v := -2) dX9_breaksLaw_115 (by decide) ?_
      refine r_iret rfl dX9_breaksLaw_117 ?_
      exact absurd hw1 hb
    · have hA2 : (rsT un cs M H 1001).2.2 = false ∧ (rsT un cs M H 1001).2.1.length ≤ 1000 ∧ skA (rsT un cs M H 1001) = nI (rsT un cs M H 1001).2.1.length := by
        unfold skA at hA ⊢
        split at hA
        · exact absurd rfl hA
        · split at hA
          · exact absurd rfl hA
          · refine ⟨by simpa using ‹¬ _ = true›, by omega, by rw [if_neg ‹_›, if_neg ‹_›]⟩
      have hA3 : ¬ (rsT un cs M H 1001).2.1.length ≤ 40 := fun q => hbf ⟨hA2.1, q⟩
      rw [hA2.2.2]
      refine r_istore_n dX9_breaksLaw_102 (by decide) ?_
      refine r_iload_n dX9_breaksLaw_103 rfl ?_
      refine r_bipush (v := -2) dX9_breaksLaw_104 (by decide) ?_
      refine r_icmp_eq (tgt := 115) dX9_breaksLaw_106 (by decide) (fun hz => absurd hz (show ¬ _ from (nI_m2 (by omega)))) (fun _ => ?_)
      refine r_iload_n dX9_breaksLaw_109 rfl ?_
      refine r_bipush (v := nI 40) dX9_breaksLaw_110 (by decide) ?_
      refine r_icmp_le (tgt := 118) dX9_breaksLaw_112 (by decide) (fun hz => absurd hz (show ¬ _ from (by rw [nI_leI (by omega) (by omega)]; omega))) (fun _ => ?_)
      refine r_bipush (v := -2) dX9_breaksLaw_115 (by decide) ?_
      refine r_iret rfl dX9_breaksLaw_117 ?_
      exact absurd hw1 hb
set_option maxHeartbeats 4000000 in
set_option maxRecDepth 100000 in
theorem c_brkE (o b s f l M H : Nat) (un : Bool) (cs : Nat → List Nat) (law : Nat) {n : Nat} {kd : mK} {I : mI} {J : mJ} {P : mP} (hX : kX kd P o b s f l) (hc : csOK cs H) (hH8 : H ≤ 8) (hM20 : M ≤ 20) (hst : stM cs H I s) (hmo : I s 1 = nI M) (hu : decide (I s 2 = 0) = (!un)) (hl : I l 2 = nI 0 ∧ I l 7 = nI 0 ∧ ∀ j, j < 8 → I (l + 1) j = nI 0 ∧ I (l + 2) j = nI 0) (hn : o + 69 ≤ n) (hn9 : n < 999999) (hsc : scr kd P o n) (hlaw : law ≤ 2) : ∃ mc ms, (P (o + 56) 3 ≠ none → mc = 0) ∧ (mc = 0 → ms = 0) ∧ mc ≤ 1 ∧ ms ≤ 10240 ∧ Ct yX9_breaksLaw cX9_breaksLaw 3 (some .int) 22 mc ms [.ref o, .int (nI law)] n kd I J P (fun y n' kd' I' J' P' => bkP n kd I J P o s (lawB law H M un cs) y n' kd' I' J' P' ∧ n' ≤ n + mc ∧ (mc = 1 → P' (o + 56) 3 ≠ none)) := by
  rcases (by omega : law = 0 ∨ law = 1 ∨ law = 2) with e | e | e
  · subst e
    exact ⟨0, 0, fun _ => rfl, fun _ => rfl, by decide, by decide, (d_brk0 o b s f l M H un cs hX hc hH8 hM20 hst hmo hu hl hn hn9 hsc).mono (fun _ _ _ _ _ _ hx => ⟨hx.1, Nat.le_of_eq hx.2, fun q => absurd q (by decide)⟩)⟩
  · subst e
    by_cases hn0 : P (o + 56) 3 = none ∧ fwB (rsT un cs M H 1001) = true ∧ 2 ≤ (rsT un cs M H 1001).2.1.length
    · exact ⟨1, 10240, fun q => absurd hn0.1 q, fun q => absurd q (by decide), by decide, by decide, (e_brk1 o b s f l M H un cs hX hc hH8 hM20 hst hmo hu hl hn hn9 hsc hn0.2.1 hn0.1 hn0.2.2).mono (fun _ _ _ _ _ _ hx => ⟨hx.1, hx.1.2.1.2, fun _ => hx.2⟩)⟩
    · exact ⟨0, 0, fun _ => rfl, fun _ => rfl, by decide, by decide, (d_brk1 o b s f l M H un cs hX hc hH8 hM20 hst hmo hu hl hn hn9 hsc (fun hw => by
      by_cases hp : P (o + 56) 3 = none
      · right
        apply Classical.byContradiction
        exact fun q => hn0 ⟨hp, hw, by omega⟩
      · exact Or.inl hp)).mono (fun _ _ _ _ _ _ hx => ⟨hx.1, Nat.le_of_eq hx.2, fun q => absurd q (by decide)⟩)⟩
  · subst e
    exact ⟨0, 0, fun _ => rfl, fun _ => rfl, by decide, by decide, (d_brk2 o b s f l M H un cs hX hc hH8 hM20 hst hmo hu hl hn hn9 hsc).mono (fun _ _ _ _ _ _ hx => ⟨hx.1, Nat.le_of_eq hx.2, fun q => absurd q (by decide)⟩)⟩
set_option maxHeartbeats 4000000 in
set_option maxRecDepth 100000 in
theorem tq_loop (o b s f l M H law S wh : Nat) (u : Int32) {n0 : Nat} {kd0 : mK} {I0 : mI} {J0 : mJ} {P0 : mP} (hM2 : 2 ≤ M) (hM20 : M ≤ 20) (hH1 : 1 ≤ H) (hH8 : H ≤ 8) (hlaw : law ≤ 2) (hwh : wh ≤ 2) (hS : S ≤ 40) (ho : o + 69 ≤ n0) (hn0 : n0 < 900000) : ∀ (cnt i : Nat) (z9 : Option Value) (kc ks n : Nat) (kd : mK) (I : mI) (J : mJ) (P : mP), i + cnt = S → n0 ≤ n → ((P (o + 56) 3 ≠ none ∧ n ≤ n0 + 1) ∨ (n = n0 ∧ 1 ≤ kc ∧ 10240 ≤ ks)) → trI n kd I J P o b s f l M u n0 kd0 I0 J0 P0 → (i = 0 ∨ I o 18 = nI 0) → Ru yX9_tried.cls cX9_tried 10 (some .int) yX9_tried.name 63 (fun y n' kd' I' J' P' => y = .inl (some (.int (trV law H M (!decide (u = 0)) S wh))) ∧ (n0 ≤ n' ∧ n' ≤ n0 + 1) ∧ trI n' kd' I' J' P' o b s f l M u n0 kd0 I0 J0 P0 ∧ (S = 0 ∨ I' o 18 = nI 0)) kc ks 54 [some (.ref o), some (.int (nI law)), some (.int (nI S)), some (.int (nI H)), some (.int (nI wh)), some (.int (nI (brN law H M (!decide (u = 0)) i))), some (.int (leN law H M (!decide (u = 0)) i)), some (.int (nI (spN law H M (!decide (u = 0)) i))), some (.int (nI i)), z9] [] n kd I J P := by
  intro cnt
  induction cnt with
  | zero =>
    intro i z9 kc ks n kd I J P hi hn1 hn2 hT h18
    have ei : i = S := by omega
    subst ei
    refine r_iload dX9_tried_54 rfl ?_
    refine r_iload_n dX9_tried_56 rfl ?_
    refine r_icmp_ge (tgt := 117) dX9_tried_57 (by decide) (fun _ => ?_) (fun hz => absurd (show _ from (by rw [nI_leI (by omega) (by omega)]; omega)) hz)
    rcases (by omega : wh = 0 ∨ wh = 1 ∨ wh = 2) with e | e | e
    · rw [e]
      rw [show trV law H M (!decide (u = 0)) i 0 = nI (brN law H M (!decide (u = 0)) i) from rfl]
      refine r_iload dX9_tried_117 rfl ?_
      refine r_if_ne (tgt := 127) dX9_tried_119 (by decide) (fun hz => absurd (show _ from rfl) hz) (fun _ => ?_)
      refine r_iload dX9_tried_122 rfl ?_
      refine r_goto (tgt := 140) dX9_tried_124 (by decide) ?_
      refine r_iret rfl dX9_tried_140 ?_
      exact ⟨rfl, ⟨hn1, by rcases hn2 with q | q <;> omega⟩, hT, h18⟩
    · rw [e]
      rw [show trV law H M (!decide (u = 0)) i 1 = leN law H M (!decide (u = 0)) i from rfl]
      refine r_iload dX9_tried_117 rfl ?_
      refine r_if_ne (tgt := 127) dX9_tried_119 (by decide) (fun _ => ?_) (fun hz => absurd hz (show ¬ _ from (by decide)))
      refine r_iload dX9_tried_127 rfl ?_
      refine r_iconst (v := nI 1) dX9_tried_129 (by decide) ?_
      refine r_icmp_ne (tgt := 138) dX9_tried_130 (by decide) (fun hz => absurd (show _ from rfl) hz) (fun _ => ?_)
      refine r_iload dX9_tried_133 rfl ?_
      refine r_goto (tgt := 140) dX9_tried_135 (by decide) ?_
      refine r_iret rfl dX9_tried_140 ?_
      exact ⟨rfl, ⟨hn1, by rcases hn2 with q | q <;> omega⟩, hT, h18⟩
    · rw [e]
      rw [show trV law H M (!decide (u = 0)) i 2 = nI (spN law H M (!decide (u = 0)) i) from rfl]
      refine r_iload dX9_tried_117 rfl ?_
      refine r_if_ne (tgt := 127) dX9_tried_119 (by decide) (fun _ => ?_) (fun hz => absurd hz (show ¬ _ from (by decide)))
      refine r_iload dX9_tried_127 rfl ?_
      refine r_iconst (v := nI 1) dX9_tried_129 (by decide) ?_
      refine r_icmp_ne (tgt := 138) dX9_tried_130 (by decide) (fun _ => ?_) (fun hz => absurd hz (show ¬ _ from (by decide)))
      refine r_iload dX9_tried_138 rfl ?_
      refine r_iret rfl dX9_tried_140 ?_
      exact ⟨rfl, ⟨hn1, by rcases hn2 with q | q <;> omega⟩, hT, h18⟩
  | succ cnt ih =>
    intro i z9 kc ks n kd I J P hi hn1 hn2 hT h18
    have hX := hT.1
    have hX' := hX
    obtain ⟨⟨c0, -, -⟩, -, -, -, -, -, hbs, hfl, -⟩ := hX'
    refine r_iload dX9_tried_54 rfl ?_
    refine r_iload_n dX9_tried_56 rfl ?_
    refine r_icmp_ge (tgt := 117) dX9_tried_57 (by decide) (fun hz => absurd hz (show ¬ _ from (by rw [nI_leI (by omega) (by omega)]; omega))) (fun _ => ?_)
    refine r_aload_n dX9_tried_60 rfl ?_
    refine r_iload dX9_tried_61 rfl ?_
    refine r_iload_n dX9_tried_63 rfl ?_
    refine r_virt (kc2 := kc) (ks2 := ks) (c_sow o b s f l M H (nI i) u hX hT.2.1 hM2 hM20 hH8 hT.2.2.1) lk_X9_360 mc_X9_sow dX9_tried_64 c0 (by decide) rfl rfl (Nat.le_of_ble_eq_true rfl) (Nat.le_of_eq (Nat.zero_add _)) (Nat.le_of_eq (Nat.zero_add _)) (fun _ _ _ _ _ _ h => nomatch h.1) ?_
    rintro v n1 kd1 I1 J1 P1 ⟨h0, rfl, rfl, rfl, rfl, hst, hmo, hun, ⟨l2, l4, l7, l12⟩, hsf, hso⟩
    cases h0
    simp only [Option.toList, List.nil_append]
    have hP56 : rdQ P (o + 61) (o + 68) s l (o + 56) = P (o + 56) := rdQ_ne (by omega)
    have hsc1 : scr kd1 (rdQ P (o + 61) (o + 68) s l) o n1 := by unfold scr; rw [hP56]; exact hT.2.2.2.1
    have hnx : n1 ≤ n0 + 1 := by rcases hn2 with q | q <;> omega
    obtain ⟨mc, ms, hmc0, hms0, hmc1, hms1, hcb⟩ := c_brkE (n := n1) (J := J1) o b s f l M H (!decide (u = 0)) (sdCs M (nI i)) law (kX_rdQ hX) (cs_seed (by omega) hM20 hH8) hH8 hM20 hst hmo (by
      rw [hun]
      by_cases e : u = 0
      · rw [if_pos e, decide_eq_true e]; decide
      · rw [if_neg e, decide_eq_false e]; decide) ⟨l2, l7, l12⟩ (by omega) (by omega) hsc1 hlaw
    rw [show lawB law H M (!decide (u = 0)) (sdCs M (nI i)) = lwS law H M (!decide (u = 0)) i from rfl] at hcb
    rw [hP56] at hmc0
    have hkk : mc ≤ kc ∧ ms ≤ ks := by
      rcases hn2 with q | q
      · have h1 := hmc0 q.1
        have h2 := hms0 h1
        omega
      · omega
    refine r_aload_n dX9_tried_67 rfl ?_
    refine r_iload_n dX9_tried_68 rfl ?_
    refine r_virt (kc2 := kc - mc) (ks2 := ks - ms) hcb lk_X9_369 mc_X9_breaksLaw dX9_tried_69 c0 (by decide) rfl rfl (Nat.le_of_ble_eq_true rfl) (by omega) (by omega) (fun _ _ _ _ _ _ h => nomatch h.1.1) ?_
    rintro v n2 kd2 I2 J2 P2 ⟨⟨h0, ⟨hg1, hg2⟩, hbk, hsc2, hz2⟩, hnm, hmn⟩
    cases h0
    simp only [Option.toList, List.cons_append, List.nil_append]
    have hfr : ∀ a, a < n1 → (a < o + 48 ∨ o + 57 < a) → a ≠ s + 8 → P (o + 56) 3 ≠ some a → I2 a = I1 a := fun a a1 a2 a3 a4 => hbk.2.1 a a1 a2 a3 (by rw [hP56]; exact a4)
    have hX2 : kX kd2 P2 o b s f l := kX.bk (by omega) hbk.1 hbk.2.2.2.1 hbk.2.2.2.2.1 hbk.2.2.2.2.2 (kX_rdQ hT.1)
    have hsz : P (o + 56) 3 = none ∨ ∃ z, P (o + 56) 3 = some z ∧ (z < o ∨ o + 68 < z) := by
      rcases hT.2.2.2.1 with h | ⟨z, h1, h2, h3, h4⟩
      · exact Or.inl h
      · exact Or.inr ⟨z, h1, h3⟩
    have hin : ∀ a, o ≤ a → a ≤ o + 68 → P (o + 56) 3 ≠ some a := fun a a1 a2 q => by
      rcases hsz with h | ⟨z, h1, h2⟩
      · rw [h] at q; exact nomatch q
      · rw [h1] at q; have := Option.some.inj q; omega
    have hB1 : I2 b 1 = nI M ∧ I2 b 2 = u := by
      have e : I2 b = I b := by
        rw [hfr b (by omega) (by omega) (by omega) (hin b (by omega) (by omega))]
        exact hsf b (by omega) (by omega) (by omega) (by omega)
      rw [e]
      exact ⟨hT.2.1, hT.2.2.1⟩
    have hT2 : trI n2 kd2 I2 J2 P2 o b s f l M u n0 kd0 I0 J0 P0 := by
      obtain ⟨-, -, -, -, t1, t2, t3, t4, t5, t6⟩ := hT
      refine ⟨hX2, hB1.1, hB1.2, hsc2, fun a a1 => (hbk.1 a (by omega)).trans (t1 a a1), fun a a1 a2 a3 a4 a5 a6 a7 => ?_, fun j hj => ?_, fun a a1 a2 => ?_, fun a a1 a2 a3 a4 => ?_, ?_⟩
      · have hne : P (o + 56) 3 ≠ some a := by
          rcases t6 with q | ⟨z, q1, q2⟩
          · rw [q]; exact a7
          · rw [q2]; intro q; have := Option.some.inj q; omega
        rw [hfr a (by omega) a3 (by omega) hne, hsf a a2 a4 (by omega) a6]
        exact t2 a a1 a2 a3 a4 a5 a6 a7
      · rw [hfr o (by omega) (by omega) (by omega) (hin o (by omega) (by omega)), hso, am_up_n _ _ hj]
        exact t3 j hj
      · rw [hbk.2.2.1 a (by omega) a2]
        exact t4 a a1 a2
      · rw [hbk.2.2.2.1 a (by omega) a2 a3, rdQ_ne a4]
        exact t5 a a1 a2 a3 a4
      · rcases hz2 with q | ⟨z, q1, q2⟩
        · rw [q, hP56]; exact t6
        · exact Or.inr ⟨z, by omega, q2⟩
    have hn22 : ((P2 (o + 56) 3 ≠ none ∧ n2 ≤ n0 + 1) ∨ (n2 = n0 ∧ 1 ≤ (kc - mc) ∧ 10240 ≤ (ks - ms))) := by
      rcases hn2 with ⟨q1, q2⟩ | ⟨q1, q2, q3⟩
      · have h1 := hmc0 q1
        left
        refine ⟨?_, by omega⟩
        rcases hz2 with r | ⟨z, r1, r2⟩
        · rw [r, hP56]; exact q1
        · rw [r2]; exact fun x => nomatch x
      · by_cases hm1 : mc = 1
        · exact Or.inl ⟨hmn hm1, by omega⟩
        · have h1 := hms0 (by omega)
          right
          omega
    have ihn := fun z9 => ih (i + 1) z9 (kc - mc) (ks - ms) n2 kd2 I2 J2 P2 (by omega) (by omega) hn22 hT2 (Or.inr (by rw [hfr o (by omega) (by omega) (by omega) (hin o (by omega) (by omega)), hso, am_up_s]))
    unfold brN leN spN at ihn
    rcases lawB_rng law H M (!decide (u = 0)) (sdCs M (nI i)) with e | e | e
    · rw [show lwS law H M (!decide (u = 0)) i = -2 from e] at ihn ⊢
      rw [if_neg (by decide), if_neg (by decide), if_pos rfl] at ihn
      refine r_istore dX9_tried_72 (by decide) ?_
      refine r_iload dX9_tried_74 rfl ?_
      refine r_bipush (v := -2) dX9_tried_76 (by decide) ?_
      refine r_icmp_ne (tgt := 87) dX9_tried_78 (by decide) (fun hz => absurd (show _ from rfl) hz) (fun _ => ?_)
      refine r_iinc (v := nI (spN law H M (!decide (u = 0)) i + 1)) dX9_tried_81 rfl (nI_inc _) ?_
      refine r_goto (tgt := 111) dX9_tried_84 (by decide) ?_
      refine r_iinc (v := nI (i + 1)) dX9_tried_111 rfl (nI_inc i) ?_
      refine r_goto (tgt := 54) dX9_tried_114 (by decide) ?_
      exact ihn _
    · rw [show lwS law H M (!decide (u = 0)) i = nI 1 from e] at ihn ⊢
      rw [if_pos rfl, if_pos rfl, if_neg (show ¬ nI 1 = (-2 : Int32) from by decide)] at ihn
      by_cases hle : leN law H M (!decide (u = 0)) i = -1
      · rw [if_pos hle] at ihn
        rw [hle]
        refine r_istore dX9_tried_72 (by decide) ?_
        refine r_iload dX9_tried_74 rfl ?_
        refine r_bipush (v := -2) dX9_tried_76 (by decide) ?_
        refine r_icmp_ne (tgt := 87) dX9_tried_78 (by decide) (fun _ => ?_) (fun hz => absurd hz (show ¬ _ from (by decide)))
        refine r_iload dX9_tried_87 rfl ?_
        refine r_iconst (v := nI 1) dX9_tried_89 (by decide) ?_
        refine r_icmp_ne (tgt := 111) dX9_tried_90 (by decide) (fun hz => absurd (show _ from rfl) hz) (fun _ => ?_)
        refine r_iinc (v := nI (brN law H M (!decide (u = 0)) i + 1)) dX9_tried_93 rfl (nI_inc _) ?_
        refine r_iload dX9_tried_96 rfl ?_
        refine r_iconst (v := (-1)) dX9_tried_98 (by decide) ?_
        refine r_icmp_ne (tgt := 107) dX9_tried_99 (by decide) (fun hz => absurd (show _ from rfl) hz) (fun _ => ?_)
        refine r_iload dX9_tried_102 rfl ?_
        refine r_goto (tgt := 109) dX9_tried_104 (by decide) ?_
        refine r_istore dX9_tried_109 (by decide) ?_
        refine r_iinc (v := nI (i + 1)) dX9_tried_111 rfl (nI_inc i) ?_
        refine r_goto (tgt := 54) dX9_tried_114 (by decide) ?_
        exact ihn _
      · rw [if_neg hle] at ihn
        refine r_istore dX9_tried_72 (by decide) ?_
        refine r_iload dX9_tried_74 rfl ?_
        refine r_bipush (v := -2) dX9_tried_76 (by decide) ?_
        refine r_icmp_ne (tgt := 87) dX9_tried_78 (by decide) (fun _ => ?_) (fun hz => absurd hz (show ¬ _ from (by decide)))
        refine r_iload dX9_tried_87 rfl ?_
        refine r_iconst (v := nI 1) dX9_tried_89 (by decide) ?_
        refine r_icmp_ne (tgt := 111) dX9_tried_90 (by decide) (fun hz => absurd (show _ from rfl) hz) (fun _ => ?_)
        refine r_iinc (v := nI (brN law H M (!decide (u = 0)) i + 1)) dX9_tried_93 rfl (nI_inc _) ?_
        refine r_iload dX9_tried_96 rfl ?_
        refine r_iconst (v := (-1)) dX9_tried_98 (by decide) ?_
        refine r_icmp_ne (tgt := 107) dX9_tried_99 (by decide) (fun _ => ?_) (fun hz => absurd hz (show ¬ _ from hle))
        refine r_iload dX9_tried_107 rfl ?_
        refine r_istore dX9_tried_109 (by decide) ?_
        refine r_iinc (v := nI (i + 1)) dX9_tried_111 rfl (nI_inc i) ?_
        refine r_goto (tgt := 54) dX9_tried_114 (by decide) ?_
        exact ihn _
    · rw [show lwS law H M (!decide (u = 0)) i = nI 0 from e] at ihn ⊢
      rw [if_neg (by decide), if_neg (by decide), if_neg (by decide)] at ihn
      refine r_istore dX9_tried_72 (by decide) ?_
      refine r_iload dX9_tried_74 rfl ?_
      refine r_bipush (v := -2) dX9_tried_76 (by decide) ?_
      refine r_icmp_ne (tgt := 87) dX9_tried_78 (by decide) (fun _ => ?_) (fun hz => absurd hz (show ¬ _ from (by decide)))
      refine r_iload dX9_tried_87 rfl ?_
      refine r_iconst (v := nI 1) dX9_tried_89 (by decide) ?_
      refine r_icmp_ne (tgt := 111) dX9_tried_90 (by decide) (fun _ => ?_) (fun hz => absurd hz (show ¬ _ from (by decide)))
      refine r_iinc (v := nI (i + 1)) dX9_tried_111 rfl (nI_inc i) ?_
      refine r_goto (tgt := 54) dX9_tried_114 (by decide) ?_
      exact ihn _
