/-! THE LAW'S LOOP: all calls -/
theorem RuZ.room {Z : am_Z} {own : String} {cc : ByteArray} {nL : Nat} {ret : Option FieldType} {nm : String} {d kc ks kc' ks' pc : Nat} {post : am_Post} {ls : List (Option Value)} {st : List Value} {n : Nat} {kd : mK} {I : mI} {J : mJ} {P : mP} (h : RuZ Z own cc nL ret nm d post kc ks pc ls st n kd I J P) (h1 : kc ≤ kc') (h2 : ks ≤ ks') : RuZ Z own cc nL ret nm d post kc' ks' pc ls st n kd I J P := by
  intro p l e R s m args below meth c MC MS A D cA ad Qc XC free H locs cells slots lsC C r wf wl ws hl hc hs he
  exact h p l e R s m args below meth c MC MS A D cA ad Qc XC free H locs cells slots lsC C r wf wl ws hl (by omega) (by omega) he
theorem nI_subN {a b : Nat} (h : b ≤ a) : nI a - nI b = nI (a - b) := by
  have e : nI a = nI (a - b) + nI b := by rw [nI_add, Nat.sub_add_cancel h]
  rw [e, Int32.add_sub_cancel]
theorem lpG {i L : Nat} (hi : i ≤ 4000) (hL : L ≤ 3072) : nI L - nI 6 < nI i ↔ L < i + 6 := by
  by_cases c : 6 ≤ L
  · rw [show nI L - nI 6 = nI (L - 6) from nI_subN c, nI_ltI (by omega) (by omega)]
    omega
  · have h1 : nI L - nI 6 < nI 0 := (show ∀ L, L < 6 → nI L - nI 6 < nI 0 by decide +kernel) L (by omega)
    refine ⟨fun _ => by omega, fun _ => Int32.lt_of_lt_of_le h1 ((nI_leI (by decide) (by omega)).mpr (Nat.zero_le _))⟩
set_option maxHeartbeats 4000000 in
set_option maxRecDepth 100000 in
theorem law_case (o i L : Nat) {K : (Nat → ClassId) → Prop} {xs : Nat → Int32} {kc ks : Nat} {z5 z6 : Option Value} {n : Nat} {kd : mK} {I : mI} {J : mJ} {P : mP} (hZ : ∀ cA : Nat → ClassId, K cA → cA 301 = L ∧ ∀ j, nI (cA (310 + j)) = xs j) (hi : i + 6 ≤ L) (hL : L ≤ 3072) (h : stW o n kd I J P) (hn9 : n < 900000) (hk : ∀ n' kd' I' J' P' z5 z6, n ≤ n' → n' ≤ n + 1 → stW o n' kd' I' J' P' → RuL K kc ks 2132 [some (.ref 1000200), some (.ref o), some (.ref (o + 69)), some (.ref (o + 125)), some (.int (nI i)), z5, z6] [] n' kd' I' J' P') : RuL K (kc + 1) (ks + 10240) 33 [some (.ref 1000200), some (.ref o), some (.ref (o + 69)), some (.ref (o + 125)), some (.int (nI i)), z5, z6] [] n kd I J P := by
  refine r_aload_n dL_law_33 rfl ?_
  refine r_iload dL_law_34 rfl ?_
  refine r_sld hZ dL_law_36 (nI_in8 L (by omega) (by omega)) (nI_clamp (by omega)) ?_
  refine r_bipush (v := nI 63) dL_law_37 (by decide) ?_
  refine r_iand dL_law_39 ?_
  by_cases e40_0 : (xs i &&& nI 63) = nI 0
  · refine r_tabE (off := 160) (tgt := 200) e40_0 dL_law_40 (by decide) (by decide) (by decide) (by decide) ?_
    exact ld_feed o i L hZ hi hL h hn9 hk
  by_cases e40_1 : (xs i &&& nI 63) = nI 1
  · refine r_tabE (off := 233) (tgt := 273) e40_1 dL_law_40 (by decide) (by decide) (by decide) (by decide) ?_
    exact ld_street o i L hZ hi hL h hn9 hk
  by_cases e40_2 : (xs i &&& nI 63) = nI 2
  · refine r_tabE (off := 289) (tgt := 329) e40_2 dL_law_40 (by decide) (by decide) (by decide) (by decide) ?_
    exact ld_fault o i L hZ hi hL h hn9 hk
  by_cases e40_3 : (xs i &&& nI 63) = nI 3
  · refine r_tabE (off := 302) (tgt := 342) e40_3 dL_law_40 (by decide) (by decide) (by decide) (by decide) ?_
    exact ld_count o i L hZ hi hL h hn9 hk
  by_cases e40_4 : (xs i &&& nI 63) = nI 4
  · refine r_tabE (off := 358) (tgt := 398) e40_4 dL_law_40 (by decide) (by decide) (by decide) (by decide) ?_
    exact ld_house o i L hZ hi hL h hn9 hk
  by_cases e40_5 : (xs i &&& nI 63) = nI 5
  · refine r_tabE (off := 426) (tgt := 466) e40_5 dL_law_40 (by decide) (by decide) (by decide) (by decide) ?_
    exact ld_become o i L hZ hi hL h hn9 hk
  by_cases e40_6 : (xs i &&& nI 63) = nI 6
  · refine r_tabE (off := 506) (tgt := 546) e40_6 dL_law_40 (by decide) (by decide) (by decide) (by decide) ?_
    exact ld_mute o i L hZ hi hL h hn9 hk
  by_cases e40_7 : (xs i &&& nI 63) = nI 7
  · refine r_tabE (off := 597) (tgt := 637) e40_7 dL_law_40 (by decide) (by decide) (by decide) (by decide) ?_
    exact ld_undo o i L hZ hi hL h hn9 hk
  by_cases e40_8 : (xs i &&& nI 63) = nI 8
  · refine r_tabE (off := 610) (tgt := 650) e40_8 dL_law_40 (by decide) (by decide) (by decide) (by decide) ?_
    exact ld_letter o i L hZ hi hL h hn9 hk
  by_cases e40_9 : (xs i &&& nI 63) = nI 9
  · refine r_tabE (off := 678) (tgt := 718) e40_9 dL_law_40 (by decide) (by decide) (by decide) (by decide) ?_
    exact ld_unletter o i L hZ hi hL h hn9 hk
  by_cases e40_10 : (xs i &&& nI 63) = nI 10
  · refine r_tabE (off := 691) (tgt := 731) e40_10 dL_law_40 (by decide) (by decide) (by decide) (by decide) ?_
    exact ld_numberings o i L hZ hi hL h hn9 hk
  by_cases e40_11 : (xs i &&& nI 63) = nI 11
  · refine r_tabE (off := 704) (tgt := 744) e40_11 dL_law_40 (by decide) (by decide) (by decide) (by decide) ?_
    exact ld_tries o i L hZ hi hL h hn9 hk
  by_cases e40_12 : (xs i &&& nI 63) = nI 12
  · refine r_tabE (off := 717) (tgt := 757) e40_12 dL_law_40 (by decide) (by decide) (by decide) (by decide) ?_
    exact ld_number o i L hZ hi hL h hn9 hk
  by_cases e40_13 : (xs i &&& nI 63) = nI 13
  · refine r_tabE (off := 785) (tgt := 825) e40_13 dL_law_40 (by decide) (by decide) (by decide) (by decide) ?_
    exact ld_may o i L hZ hi hL h hn9 hk
  by_cases e40_14 : (xs i &&& nI 63) = nI 14
  · refine r_tabE (off := 841) (tgt := 881) e40_14 dL_law_40 (by decide) (by decide) (by decide) (by decide) ?_
    exact ld_holds o i L hZ hi hL h hn9 hk
  by_cases e40_15 : (xs i &&& nI 63) = nI 15
  · refine r_tabE (off := 941) (tgt := 981) e40_15 dL_law_40 (by decide) (by decide) (by decide) (by decide) ?_
    exact ld_knot o i L hZ hi hL h hn9 hk
  by_cases e40_16 : (xs i &&& nI 63) = nI 16
  · refine r_tabE (off := 954) (tgt := 994) e40_16 dL_law_40 (by decide) (by decide) (by decide) (by decide) ?_
    exact ld_liars o i L hZ hi hL h hn9 hk
  by_cases e40_17 : (xs i &&& nI 63) = nI 17
  · refine r_tabE (off := 967) (tgt := 1007) e40_17 dL_law_40 (by decide) (by decide) (by decide) (by decide) ?_
    exact ld_looks o i L hZ hi hL h hn9 hk
  by_cases e40_18 : (xs i &&& nI 63) = nI 18
  · refine r_tabE (off := 1023) (tgt := 1063) e40_18 dL_law_40 (by decide) (by decide) (by decide) (by decide) ?_
    exact ld_doors o i L hZ hi hL h hn9 hk
  by_cases e40_19 : (xs i &&& nI 63) = nI 19
  · refine r_tabE (off := 1036) (tgt := 1076) e40_19 dL_law_40 (by decide) (by decide) (by decide) (by decide) ?_
    exact ld_hints o i L hZ hi hL h hn9 hk
  by_cases e40_20 : (xs i &&& nI 63) = nI 20
  · refine r_tabE (off := 1092) (tgt := 1132) e40_20 dL_law_40 (by decide) (by decide) (by decide) (by decide) ?_
    exact ld_post o i L hZ hi hL h hn9 hk
  by_cases e40_21 : (xs i &&& nI 63) = nI 21
  · refine r_tabE (off := 1160) (tgt := 1200) e40_21 dL_law_40 (by decide) (by decide) (by decide) (by decide) ?_
    exact ld_feud o i L hZ hi hL h hn9 hk
  by_cases e40_22 : (xs i &&& nI 63) = nI 22
  · refine r_tabE (off := 1240) (tgt := 1280) e40_22 dL_law_40 (by decide) (by decide) (by decide) (by decide) ?_
    exact ld_years o i L hZ hi hL h hn9 hk
  by_cases e40_23 : (xs i &&& nI 63) = nI 23
  · refine r_tabE (off := 1308) (tgt := 1348) e40_23 dL_law_40 (by decide) (by decide) (by decide) (by decide) ?_
    exact ld_proof o i L hZ hi hL h hn9 hk
  by_cases e40_24 : (xs i &&& nI 63) = nI 24
  · refine r_tabE (off := 1364) (tgt := 1404) e40_24 dL_law_40 (by decide) (by decide) (by decide) (by decide) ?_
    exact ld_build o i L hZ hi hL h hn9 hk
  by_cases e40_25 : (xs i &&& nI 63) = nI 25
  · refine r_tabE (off := 1420) (tgt := 1460) e40_25 dL_law_40 (by decide) (by decide) (by decide) (by decide) ?_
    exact ld_changed o i L hZ hi hL h hn9 hk
  by_cases e40_26 : (xs i &&& nI 63) = nI 26
  · refine r_tabE (off := 1512) (tgt := 1552) e40_26 dL_law_40 (by decide) (by decide) (by decide) (by decide) ?_
    exact ld_walk o i L hZ hi hL h hn9 hk
  by_cases e40_27 : (xs i &&& nI 63) = nI 27
  · refine r_tabE (off := 1592) (tgt := 1632) e40_27 dL_law_40 (by decide) (by decide) (by decide) (by decide) ?_
    exact ld_door o i L hZ hi hL h hn9 hk
  by_cases e40_28 : (xs i &&& nI 63) = nI 28
  · refine r_tabE (off := 1648) (tgt := 1688) e40_28 dL_law_40 (by decide) (by decide) (by decide) (by decide) ?_
    exact ld_ring o i L hZ hi hL h hn9 hk
  by_cases e40_29 : (xs i &&& nI 63) = nI 29
  · refine r_tabE (off := 1716) (tgt := 1756) e40_29 dL_law_40 (by decide) (by decide) (by decide) (by decide) ?_
    exact ld_written o i L hZ hi hL h hn9 hk
  by_cases e40_30 : (xs i &&& nI 63) = nI 30
  · refine r_tabE (off := 1772) (tgt := 1812) e40_30 dL_law_40 (by decide) (by decide) (by decide) (by decide) ?_
    exact ld_left o i L hZ hi hL h hn9 hk
  by_cases e40_31 : (xs i &&& nI 63) = nI 31
  · refine r_tabE (off := 1840) (tgt := 1880) e40_31 dL_law_40 (by decide) (by decide) (by decide) (by decide) ?_
    exact ld_look o i L hZ hi hL h hn9 hk
  by_cases e40_32 : (xs i &&& nI 63) = nI 32
  · refine r_tabE (off := 1908) (tgt := 1948) e40_32 dL_law_40 (by decide) (by decide) (by decide) (by decide) ?_
    exact ld_plant o i L hZ hi hL h hn9 hk
  by_cases e40_33 : (xs i &&& nI 63) = nI 33
  · refine r_tabE (off := 1976) (tgt := 2016) e40_33 dL_law_40 (by decide) (by decide) (by decide) (by decide) ?_
    exact ld_tried o i L hZ hi hL h hn9 hk
  by_cases e40_34 : (xs i &&& nI 63) = nI 34
  · refine r_tabE (off := 2068) (tgt := 2108) e40_34 dL_law_40 (by decide) (by decide) (by decide) (by decide) ?_
    exact ld_image o i L hZ hi hL h hn9 hk
  by_cases e40_35 : (xs i &&& nI 63) = nI 35
  · refine r_tabE (off := 2079) (tgt := 2119) e40_35 dL_law_40 (by decide) (by decide) (by decide) (by decide) ?_
    exact ld_restore o i L hZ hi hL h hn9 hk
  refine r_tabOut (tgt := 2132) dL_law_40 (by have hT : ∀ v : Int32, ¬ (xs i &&& nI 63) = v → ¬ ((xs i &&& nI 63)).toInt = v.toInt := fun v h q => h (Int32.toInt_inj.mp q); have q0 := And.intro trivial trivial; have g0 := hT _ e40_0; have w0 : (nI 0).toInt = 0 := (by decide); rw [w0] at g0; have g1 := hT _ e40_1; have w1 : (nI 1).toInt = 1 := (by decide); rw [w1] at g1; have g2 := hT _ e40_2; have w2 : (nI 2).toInt = 2 := (by decide); rw [w2] at g2; have g3 := hT _ e40_3; have w3 : (nI 3).toInt = 3 := (by decide); rw [w3] at g3; have g4 := hT _ e40_4; have w4 : (nI 4).toInt = 4 := (by decide); rw [w4] at g4; have g5 := hT _ e40_5; have w5 : (nI 5).toInt = 5 := (by decide); rw [w5] at g5; have g6 := hT _ e40_6; have w6 : (nI 6).toInt = 6 := (by decide); rw [w6] at g6; have g7 := hT _ e40_7; have w7 : (nI 7).toInt = 7 := (by decide); rw [w7] at g7; have g8 := hT _ e40_8; have w8 : (nI 8).toInt = 8 := (by decide); rw [w8] at g8; have g9 := hT _ e40_9; have w9 : (nI 9).toInt = 9 := (by decide); rw [w9] at g9; have g10 := hT _ e40_10; have w10 : (nI 10).toInt = 10 := (by decide); rw [w10] at g10; have g11 := hT _ e40_11; have w11 : (nI 11).toInt = 11 := (by decide); rw [w11] at g11; have g12 := hT _ e40_12; have w12 : (nI 12).toInt = 12 := (by decide); rw [w12] at g12; have g13 := hT _ e40_13; have w13 : (nI 13).toInt = 13 := (by decide); rw [w13] at g13; have g14 := hT _ e40_14; have w14 : (nI 14).toInt = 14 := (by decide); rw [w14] at g14; have g15 := hT _ e40_15; have w15 : (nI 15).toInt = 15 := (by decide); rw [w15] at g15; have g16 := hT _ e40_16; have w16 : (nI 16).toInt = 16 := (by decide); rw [w16] at g16; have g17 := hT _ e40_17; have w17 : (nI 17).toInt = 17 := (by decide); rw [w17] at g17; have g18 := hT _ e40_18; have w18 : (nI 18).toInt = 18 := (by decide); rw [w18] at g18; have g19 := hT _ e40_19; have w19 : (nI 19).toInt = 19 := (by decide); rw [w19] at g19; have g20 := hT _ e40_20; have w20 : (nI 20).toInt = 20 := (by decide); rw [w20] at g20; have g21 := hT _ e40_21; have w21 : (nI 21).toInt = 21 := (by decide); rw [w21] at g21; have g22 := hT _ e40_22; have w22 : (nI 22).toInt = 22 := (by decide); rw [w22] at g22; have g23 := hT _ e40_23; have w23 : (nI 23).toInt = 23 := (by decide); rw [w23] at g23; have g24 := hT _ e40_24; have w24 : (nI 24).toInt = 24 := (by decide); rw [w24] at g24; have g25 := hT _ e40_25; have w25 : (nI 25).toInt = 25 := (by decide); rw [w25] at g25; have g26 := hT _ e40_26; have w26 : (nI 26).toInt = 26 := (by decide); rw [w26] at g26; have g27 := hT _ e40_27; have w27 : (nI 27).toInt = 27 := (by decide); rw [w27] at g27; have g28 := hT _ e40_28; have w28 : (nI 28).toInt = 28 := (by decide); rw [w28] at g28; have g29 := hT _ e40_29; have w29 : (nI 29).toInt = 29 := (by decide); rw [w29] at g29; have g30 := hT _ e40_30; have w30 : (nI 30).toInt = 30 := (by decide); rw [w30] at g30; have g31 := hT _ e40_31; have w31 : (nI 31).toInt = 31 := (by decide); rw [w31] at g31; have g32 := hT _ e40_32; have w32 : (nI 32).toInt = 32 := (by decide); rw [w32] at g32; have g33 := hT _ e40_33; have w33 : (nI 33).toInt = 33 := (by decide); rw [w33] at g33; have g34 := hT _ e40_34; have w34 : (nI 34).toInt = 34 := (by decide); rw [w34] at g34; have g35 := hT _ e40_35; have w35 : (nI 35).toInt = 35 := (by decide); rw [w35] at g35; omega) (by decide) ?_
  exact RuZ.room (hk _ _ _ _ _ _ _ (Nat.le_refl _) (Nat.le_succ _) h) (Nat.le_succ _) (Nat.le_add_right _ _)

set_option maxHeartbeats 4000000 in
set_option maxRecDepth 100000 in
theorem law_loop (o L : Nat) {K : (Nat → ClassId) → Prop} {xs : Nat → Int32} (hZ : ∀ cA : Nat → ClassId, K cA → cA 301 = L ∧ ∀ j, nI (cA (310 + j)) = xs j) (hL : L ≤ 3072) : ∀ (r i : Nat) (z5 z6 : Option Value) {n : Nat} {kd : mK} {I : mI} {J : mJ} {P : mP}, L < i + 6 * r + 6 → i ≤ L + 6 → stW o n kd I J P → n + r < 900000 → RuL K r (10240 * r) 23 [some (.ref 1000200), some (.ref o), some (.ref (o + 69)), some (.ref (o + 125)), some (.int (nI i)), z5, z6] [] n kd I J P
  | 0, i, z5, z6, n, kd, I, J, P, hr, hi6, h, hn9 => by
    refine r_iload dL_law_23 rfl ?_
    refine r_aload_n dL_law_25 rfl ?_
    refine r_slen hZ dL_law_26 ?_
    refine r_bipush (v := nI 6) dL_law_27 (by decide) ?_
    refine r_isub dL_law_29 ?_
    refine r_icmp_gt (tgt := 2138) dL_law_30 (by decide) (fun _ => ?_) (fun hz => absurd (show _ from ((lpG (by omega) hL).mpr (by omega))) hz)
    refine r_iconst (v := nI 1) dL_law_2138 (by decide) ?_
    refine r_zret rfl dL_law_2139 (by first | exact Or.inl rfl | exact Or.inr rfl | assumption) ?_
    exact rfl
  | r + 1, i, z5, z6, n, kd, I, J, P, hr, hi6, h, hn9 => by
    by_cases c : L < i + 6
    · skip
      refine r_iload dL_law_23 rfl ?_
      refine r_aload_n dL_law_25 rfl ?_
      refine r_slen hZ dL_law_26 ?_
      refine r_bipush (v := nI 6) dL_law_27 (by decide) ?_
      refine r_isub dL_law_29 ?_
      refine r_icmp_gt (tgt := 2138) dL_law_30 (by decide) (fun _ => ?_) (fun hz => absurd (show _ from ((lpG (by omega) hL).mpr c)) hz)
      refine r_iconst (v := nI 1) dL_law_2138 (by decide) ?_
      refine r_zret rfl dL_law_2139 (by first | exact Or.inl rfl | exact Or.inr rfl | assumption) ?_
      exact rfl
    · skip
      refine r_iload dL_law_23 rfl ?_
      refine r_aload_n dL_law_25 rfl ?_
      refine r_slen hZ dL_law_26 ?_
      refine r_bipush (v := nI 6) dL_law_27 (by decide) ?_
      refine r_isub dL_law_29 ?_
      refine r_icmp_gt (tgt := 2138) dL_law_30 (by decide) (fun hz => absurd hz (show ¬ _ from (fun z => c ((lpG (by omega) hL).mp z)))) (fun _ => ?_)
      rw [show 10240 * (r + 1) = 10240 * r + 10240 from Nat.mul_succ _ _]
      refine law_case o i L hZ (by omega) hL h (by omega) (fun n' kd' I' J' P' z5 z6 m1 m2 hS => ?_)
      refine r_iinc (v := nI (i + 6)) dL_law_2132 rfl (show nI i + Int32.ofInt 6 = nI (i + 6) from nI_add i 6) ?_
      refine r_goto (tgt := 23) dL_law_2135 (by decide) ?_
      exact law_loop o L hZ hL r (i + 6) z5 z6 (by omega) (by omega) hS (by omega)

