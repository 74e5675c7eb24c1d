/-! KNOT AND LIARS: the reference -/
theorem dX10_liars_0 : decode cX10_liars 0 = .ok (.aload_n 0, 1) := by decide +kernel
theorem dX10_liars_1 : decode cX10_liars 1 = .ok (.iconst 0, 1) := by decide +kernel
theorem dX10_liars_2 : decode cX10_liars 2 = .ok (.putfield 193, 3) := by decide +kernel
theorem dX10_liars_5 : decode cX10_liars 5 = .ok (.aload_n 0, 1) := by decide +kernel
theorem dX10_liars_6 : decode cX10_liars 6 = .ok (.invokevirtual 429, 3) := by decide +kernel
theorem dX10_liars_9 : decode cX10_liars 9 = .ok (.istore_n 1, 1) := by decide +kernel
theorem dX10_liars_10 : decode cX10_liars 10 = .ok (.iconst 0, 1) := by decide +kernel
theorem dX10_liars_11 : decode cX10_liars 11 = .ok (.istore_n 2, 1) := by decide +kernel
theorem dX10_liars_12 : decode cX10_liars 12 = .ok (.iload_n 2, 1) := by decide +kernel
theorem dX10_liars_13 : decode cX10_liars 13 = .ok (.bipush 8, 2) := by decide +kernel
theorem dX10_liars_15 : decode cX10_liars 15 = .ok (.if_icmp .gt 70, 3) := by decide +kernel
theorem dX10_liars_18 : decode cX10_liars 18 = .ok (.iconst 0, 1) := by decide +kernel
theorem dX10_liars_19 : decode cX10_liars 19 = .ok (.istore_n 3, 1) := by decide +kernel
theorem dX10_liars_20 : decode cX10_liars 20 = .ok (.iload_n 3, 1) := by decide +kernel
theorem dX10_liars_21 : decode cX10_liars 21 = .ok (.sipush 256, 3) := by decide +kernel
theorem dX10_liars_24 : decode cX10_liars 24 = .ok (.if_icmp .ge 55, 3) := by decide +kernel
theorem dX10_liars_27 : decode cX10_liars 27 = .ok (.iload_n 3, 1) := by decide +kernel
theorem dX10_liars_28 : decode cX10_liars 28 = .ok (.iload_n 1, 1) := by decide +kernel
theorem dX10_liars_29 : decode cX10_liars 29 = .ok (.iconst (-1), 1) := by decide +kernel
theorem dX10_liars_30 : decode cX10_liars 30 = .ok (.ixor, 1) := by decide +kernel
theorem dX10_liars_31 : decode cX10_liars 31 = .ok (.iand, 1) := by decide +kernel
theorem dX10_liars_32 : decode cX10_liars 32 = .ok (.ifCond .ne 41, 3) := by decide +kernel
theorem dX10_liars_35 : decode cX10_liars 35 = .ok (.iload_n 3, 1) := by decide +kernel
theorem dX10_liars_36 : decode cX10_liars 36 = .ok (.invokestatic 448, 3) := by decide +kernel
theorem dX10_liars_39 : decode cX10_liars 39 = .ok (.iload_n 2, 1) := by decide +kernel
theorem dX10_liars_40 : decode cX10_liars 40 = .ok (.if_icmp .eq 6, 3) := by decide +kernel
theorem dX10_liars_43 : decode cX10_liars 43 = .ok (.goto 30, 3) := by decide +kernel
theorem dX10_liars_46 : decode cX10_liars 46 = .ok (.aload_n 0, 1) := by decide +kernel
theorem dX10_liars_47 : decode cX10_liars 47 = .ok (.iload_n 1, 1) := by decide +kernel
theorem dX10_liars_48 : decode cX10_liars 48 = .ok (.iload_n 3, 1) := by decide +kernel
theorem dX10_liars_49 : decode cX10_liars 49 = .ok (.iconst (-1), 1) := by decide +kernel
theorem dX10_liars_50 : decode cX10_liars 50 = .ok (.ixor, 1) := by decide +kernel
theorem dX10_liars_51 : decode cX10_liars 51 = .ok (.iand, 1) := by decide +kernel
theorem dX10_liars_52 : decode cX10_liars 52 = .ok (.iconst 1, 1) := by decide +kernel
theorem dX10_liars_53 : decode cX10_liars 53 = .ok (.iconst 2, 1) := by decide +kernel
theorem dX10_liars_54 : decode cX10_liars 54 = .ok (.invokevirtual 432, 3) := by decide +kernel
theorem dX10_liars_57 : decode cX10_liars 57 = .ok (.ifCond .ne 6, 3) := by decide +kernel
theorem dX10_liars_60 : decode cX10_liars 60 = .ok (.bipush (-2), 2) := by decide +kernel
theorem dX10_liars_62 : decode cX10_liars 62 = .ok (.ireturn, 1) := by decide +kernel
theorem dX10_liars_63 : decode cX10_liars 63 = .ok (.aload_n 0, 1) := by decide +kernel
theorem dX10_liars_64 : decode cX10_liars 64 = .ok (.getfield 413, 3) := by decide +kernel
theorem dX10_liars_67 : decode cX10_liars 67 = .ok (.iconst 1, 1) := by decide +kernel
theorem dX10_liars_68 : decode cX10_liars 68 = .ok (.if_icmp .ne 5, 3) := by decide +kernel
theorem dX10_liars_71 : decode cX10_liars 71 = .ok (.iload_n 3, 1) := by decide +kernel
theorem dX10_liars_72 : decode cX10_liars 72 = .ok (.ireturn, 1) := by decide +kernel
theorem dX10_liars_73 : decode cX10_liars 73 = .ok (.iinc 3 1, 3) := by decide +kernel
theorem dX10_liars_76 : decode cX10_liars 76 = .ok (.goto (-56), 3) := by decide +kernel
theorem dX10_liars_79 : decode cX10_liars 79 = .ok (.iinc 2 1, 3) := by decide +kernel
theorem dX10_liars_82 : decode cX10_liars 82 = .ok (.goto (-70), 3) := by decide +kernel
theorem dX10_liars_85 : decode cX10_liars 85 = .ok (.iconst (-1), 1) := by decide +kernel
theorem dX10_liars_86 : decode cX10_liars 86 = .ok (.ireturn, 1) := by decide +kernel

theorem cut_2 {fs : List (Nat → Nat)} (h : fs.length ≤ 2) : (cutF fs).length = fs.length := by unfold cutF; rw [if_pos (by omega)]
set_option maxHeartbeats 4000000 in
set_option maxRecDepth 100000 in
theorem wi_X10_liars (m H M L : Nat) (lk : Nat → Nat) (rid : Nat → List Nat) (un : Bool) (Lt so de : Nat → Int32) (rb : Nat → Bool) (p z : Nat) {n : Nat} {kd : mK} {J : mJ} {P : mP} (hH8 : H ≤ 8) (hM20 : M ≤ 20) (hp : p < 256) (hz : z ≤ 8) (hrb : ∀ k, k < H → bt (nI p) k = true → rb k = true) (post : am_Post) : ∀ (c t : Nat) (I : mI), t + c = 256 → rfS kd P I m H M L lk rid un Lt so de rb → (∀ v I', kl1 (RLi un Lt L H M lk (tvN so de (nI M) H rid) p) (okK p z) c t = some v → rFr m I I' → post (.inl (some (.int v))) n kd I' J P) → (kl1 (RLi un Lt L H M lk (tvN so de (nI M) H rid) p) (okK p z) c t = none → ∀ I', rFr m I I' → Ru yX10_liars.cls cX10_liars 4 (some .int) yX10_liars.name 6 (post) 0 0 79 [some (.ref m), some (.int (nI p)), some (.int (nI z)), some (.int (nI 256))] [] n kd I' J P) → Ru yX10_liars.cls cX10_liars 4 (some .int) yX10_liars.name 6 (post) 0 0 20 [some (.ref m), some (.int (nI p)), some (.int (nI z)), some (.int (nI t))] [] n kd I J P := by
  intro c
  induction c with
  | zero =>
    intro t I ht hk h1 h2
    have ht1 : t = 256 := by omega
    subst ht1
    refine r_iload_n dX10_liars_20 rfl ?_
    refine r_sipush (v := nI 256) dX10_liars_21 (by decide) ?_
    refine r_icmp_ge (tgt := 79) dX10_liars_24 (by decide) (fun _ => ?_) (fun hz => absurd (show _ from (by rw [nI_leI (by omega) (by omega)]; omega)) hz)
    exact h2 rfl I rFr.rf
  | succ c ih =>
    intro t I ht hk h1 h2
    unfold kl1 at h1 h2
    have h8 := pc8_le t (by omega)
    by_cases c1 : subK p t = true
    · have c1' : nI t &&& (nI p ^^^ (-1)) = 0 := of_decide_eq_true c1
      by_cases cz : pc8 t = z
      · have hok : okK p z t = true := by unfold okK; rw [c1, decide_eq_true cz]; rfl
        by_cases c3 : (resL un Lt L H M lk (tvN so de (nI M) H rid) p t).2.2 = true
        · have hR : (RLi un Lt L H M lk (tvN so de (nI M) H rid) p) t = -2 := by unfold RLi skv; rw [if_pos c3]
          rw [if_pos ⟨hok, Or.inr hR⟩, if_pos hR] at h1
          refine r_iload_n dX10_liars_20 rfl ?_
          refine r_sipush (v := nI 256) dX10_liars_21 (by decide) ?_
          refine r_icmp_ge (tgt := 79) dX10_liars_24 (by decide) (fun hz => absurd hz (show ¬ _ from (by rw [nI_leI (by omega) (by omega)]; omega))) (fun _ => ?_)
          refine r_iload_n dX10_liars_27 rfl ?_
          refine r_iload_n dX10_liars_28 rfl ?_
          refine r_iconst (v := (-1)) dX10_liars_29 (by decide) ?_
          refine r_ixor dX10_liars_30 ?_
          refine r_iand dX10_liars_31 ?_
          refine r_if_ne (tgt := 73) dX10_liars_32 (by decide) (fun hz => absurd (show _ from c1') hz) (fun _ => ?_)
          refine r_iload_n dX10_liars_35 rfl ?_
          refine r_statE (c_X10_bits (nI t)) lk_X10_448 mc_X10_bits dX10_liars_36 (by decide) rfl rfl (Nat.le_of_ble_eq_true rfl) ?_
          rw [pc_21 t (by omega)]
          refine r_iload_n dX10_liars_39 rfl ?_
          refine r_icmp_eq (tgt := 46) dX10_liars_40 (by decide) (fun _ => ?_) (fun hz => absurd (show _ from by rw [cz]) hz)
          refine r_aload_n dX10_liars_46 rfl ?_
          refine r_iload_n dX10_liars_47 rfl ?_
          refine r_iload_n dX10_liars_48 rfl ?_
          refine r_iconst (v := (-1)) dX10_liars_49 (by decide) ?_
          refine r_ixor dX10_liars_50 ?_
          refine r_iand dX10_liars_51 ?_
          refine r_iconst (v := nI 1) dX10_liars_52 (by decide) ?_
          refine r_iconst (v := nI 2) dX10_liars_53 (by decide) ?_
          have hk2 := resL_eq (un := un) (Lt := Lt) (L := L) (H := H) (M := M) (lk := lk) (tv := tvN so de (nI M) H rid) p t hH8 hM20
          have hlen : (resL un Lt L H M lk (tvN so de (nI M) H rid) p t).2.1.length ≤ 2 := skTop_len (by decide) hk2
          refine r_virt (c_seeksN m H M L lk rid un Lt so de rb (nI p &&& (nI t ^^^ (-1))) (nI 1) 2 _ hk hH8 hM20 (by decide) (by decide) (fun k hk3 hx => hrb k hk3 (by rw [b_and, Bool.and_eq_true] at hx; exact hx.1)) hk2) lk_X10_432 mc_X10_seeks dX10_liars_54 hk.1.1 (by decide) rfl rfl (Nat.le_of_ble_eq_true rfl) (Nat.le_of_eq (Nat.zero_add _)) (Nat.le_of_eq (Nat.zero_add _)) (fun _ _ _ _ _ _ h => nomatch h.1) ?_
          rintro v n' kd' I' J' P' ⟨h0, rfl, rfl, rfl, rfl, hfr2, e52, -⟩
          cases h0
          simp only [Option.toList, List.cons_append, List.nil_append]
          rw [cut_2 hlen] at e52
          refine r_if_ne (tgt := 63) dX10_liars_57 (by decide) (fun hz => absurd (show _ from by rw [c3]; rfl) hz) (fun _ => ?_)
          refine r_bipush (v := (-2)) dX10_liars_60 (by decide) ?_
          refine r_iret rfl dX10_liars_62 ?_
          exact h1 _ _ rfl hfr2
        · have c3' : (resL un Lt L H M lk (tvN so de (nI M) H rid) p t).2.2 = false := by simpa using c3
          have hR : (RLi un Lt L H M lk (tvN so de (nI M) H rid) p) t = nI (resL un Lt L H M lk (tvN so de (nI M) H rid) p t).2.1.length := by unfold RLi skv; rw [if_neg c3]
          have hlen9 : (resL un Lt L H M lk (tvN so de (nI M) H rid) p t).2.1.length ≤ 2 := skTop_len (by decide) (resL_eq (un := un) (Lt := Lt) (L := L) (H := H) (M := M) (lk := lk) (tv := tvN so de (nI M) H rid) p t hH8 hM20)
          have hb1 : bz (!(resL un Lt L H M lk (tvN so de (nI M) H rid) p t).2.2 && decide ((resL un Lt L H M lk (tvN so de (nI M) H rid) p t).2.1.length ≤ 1000)) = nI 1 := by rw [c3', decide_eq_true (by omega)]; rfl
          have hm2 : ¬ (RLi un Lt L H M lk (tvN so de (nI M) H rid) p) t = -2 := by rw [hR]; rcases (show (resL un Lt L H M lk (tvN so de (nI M) H rid) p t).2.1.length = 0 ∨ (resL un Lt L H M lk (tvN so de (nI M) H rid) p t).2.1.length = 1 ∨ (resL un Lt L H M lk (tvN so de (nI M) H rid) p t).2.1.length = 2 by omega) with w | w | w <;> rw [w] <;> decide
          by_cases c4 : (resL un Lt L H M lk (tvN so de (nI M) H rid) p t).2.1.length = 1
          · rw [if_pos ⟨hok, Or.inl (by rw [hR, c4])⟩, if_neg hm2] at h1
            refine r_iload_n dX10_liars_20 rfl ?_
            refine r_sipush (v := nI 256) dX10_liars_21 (by decide) ?_
            refine r_icmp_ge (tgt := 79) dX10_liars_24 (by decide) (fun hz => absurd hz (show ¬ _ from (by rw [nI_leI (by omega) (by omega)]; omega))) (fun _ => ?_)
            refine r_iload_n dX10_liars_27 rfl ?_
            refine r_iload_n dX10_liars_28 rfl ?_
            refine r_iconst (v := (-1)) dX10_liars_29 (by decide) ?_
            refine r_ixor dX10_liars_30 ?_
            refine r_iand dX10_liars_31 ?_
            refine r_if_ne (tgt := 73) dX10_liars_32 (by decide) (fun hz => absurd (show _ from c1') hz) (fun _ => ?_)
            refine r_iload_n dX10_liars_35 rfl ?_
            refine r_statE (c_X10_bits (nI t)) lk_X10_448 mc_X10_bits dX10_liars_36 (by decide) rfl rfl (Nat.le_of_ble_eq_true rfl) ?_
            rw [pc_21 t (by omega)]
            refine r_iload_n dX10_liars_39 rfl ?_
            refine r_icmp_eq (tgt := 46) dX10_liars_40 (by decide) (fun _ => ?_) (fun hz => absurd (show _ from by rw [cz]) hz)
            refine r_aload_n dX10_liars_46 rfl ?_
            refine r_iload_n dX10_liars_47 rfl ?_
            refine r_iload_n dX10_liars_48 rfl ?_
            refine r_iconst (v := (-1)) dX10_liars_49 (by decide) ?_
            refine r_ixor dX10_liars_50 ?_
            refine r_iand dX10_liars_51 ?_
            refine r_iconst (v := nI 1) dX10_liars_52 (by decide) ?_
            refine r_iconst (v := nI 2) dX10_liars_53 (by decide) ?_
            have hk2 := resL_eq (un := un) (Lt := Lt) (L := L) (H := H) (M := M) (lk := lk) (tv := tvN so de (nI M) H rid) p t hH8 hM20
            have hlen : (resL un Lt L H M lk (tvN so de (nI M) H rid) p t).2.1.length ≤ 2 := skTop_len (by decide) hk2
            refine r_virt (c_seeksN m H M L lk rid un Lt so de rb (nI p &&& (nI t ^^^ (-1))) (nI 1) 2 _ hk hH8 hM20 (by decide) (by decide) (fun k hk3 hx => hrb k hk3 (by rw [b_and, Bool.and_eq_true] at hx; exact hx.1)) hk2) lk_X10_432 mc_X10_seeks dX10_liars_54 hk.1.1 (by decide) rfl rfl (Nat.le_of_ble_eq_true rfl) (Nat.le_of_eq (Nat.zero_add _)) (Nat.le_of_eq (Nat.zero_add _)) (fun _ _ _ _ _ _ h => nomatch h.1) ?_
            rintro v n' kd' I' J' P' ⟨h0, rfl, rfl, rfl, rfl, hfr2, e52, -⟩
            cases h0
            simp only [Option.toList, List.cons_append, List.nil_append]
            rw [cut_2 hlen] at e52
            refine r_if_ne (tgt := 63) dX10_liars_57 (by decide) (fun _ => ?_) (fun hz => absurd hz (show ¬ _ from by rw [hb1]; decide))
            refine r_aload_n dX10_liars_63 rfl ?_
            refine r_getI dX10_liars_64 fl_X10_413 rfl hk.1.1 ?_
            rw [e52]
            refine r_iconst (v := nI 1) dX10_liars_67 (by decide) ?_
            refine r_icmp_ne (tgt := 73) dX10_liars_68 (by decide) (fun hz => absurd (show _ from by rw [c4]) hz) (fun _ => ?_)
            refine r_iload_n dX10_liars_71 rfl ?_
            refine r_iret rfl dX10_liars_72 ?_
            exact h1 _ _ rfl hfr2
          · have hn1 : ¬ (RLi un Lt L H M lk (tvN so de (nI M) H rid) p) t = nI 1 := by rw [hR, nI_eq (by omega) (by omega)]; exact c4
            rw [if_neg (fun y => y.2.elim hn1 hm2)] at h1 h2
            refine r_iload_n dX10_liars_20 rfl ?_
            refine r_sipush (v := nI 256) dX10_liars_21 (by decide) ?_
            refine r_icmp_ge (tgt := 79) dX10_liars_24 (by decide) (fun hz => absurd hz (show ¬ _ from (by rw [nI_leI (by omega) (by omega)]; omega))) (fun _ => ?_)
            refine r_iload_n dX10_liars_27 rfl ?_
            refine r_iload_n dX10_liars_28 rfl ?_
            refine r_iconst (v := (-1)) dX10_liars_29 (by decide) ?_
            refine r_ixor dX10_liars_30 ?_
            refine r_iand dX10_liars_31 ?_
            refine r_if_ne (tgt := 73) dX10_liars_32 (by decide) (fun hz => absurd (show _ from c1') hz) (fun _ => ?_)
            refine r_iload_n dX10_liars_35 rfl ?_
            refine r_statE (c_X10_bits (nI t)) lk_X10_448 mc_X10_bits dX10_liars_36 (by decide) rfl rfl (Nat.le_of_ble_eq_true rfl) ?_
            rw [pc_21 t (by omega)]
            refine r_iload_n dX10_liars_39 rfl ?_
            refine r_icmp_eq (tgt := 46) dX10_liars_40 (by decide) (fun _ => ?_) (fun hz => absurd (show _ from by rw [cz]) hz)
            refine r_aload_n dX10_liars_46 rfl ?_
            refine r_iload_n dX10_liars_47 rfl ?_
            refine r_iload_n dX10_liars_48 rfl ?_
            refine r_iconst (v := (-1)) dX10_liars_49 (by decide) ?_
            refine r_ixor dX10_liars_50 ?_
            refine r_iand dX10_liars_51 ?_
            refine r_iconst (v := nI 1) dX10_liars_52 (by decide) ?_
            refine r_iconst (v := nI 2) dX10_liars_53 (by decide) ?_
            have hk2 := resL_eq (un := un) (Lt := Lt) (L := L) (H := H) (M := M) (lk := lk) (tv := tvN so de (nI M) H rid) p t hH8 hM20
            have hlen : (resL un Lt L H M lk (tvN so de (nI M) H rid) p t).2.1.length ≤ 2 := skTop_len (by decide) hk2
            refine r_virt (c_seeksN m H M L lk rid un Lt so de rb (nI p &&& (nI t ^^^ (-1))) (nI 1) 2 _ hk hH8 hM20 (by decide) (by decide) (fun k hk3 hx => hrb k hk3 (by rw [b_and, Bool.and_eq_true] at hx; exact hx.1)) hk2) lk_X10_432 mc_X10_seeks dX10_liars_54 hk.1.1 (by decide) rfl rfl (Nat.le_of_ble_eq_true rfl) (Nat.le_of_eq (Nat.zero_add _)) (Nat.le_of_eq (Nat.zero_add _)) (fun _ _ _ _ _ _ h => nomatch h.1) ?_
            rintro v n' kd' I' J' P' ⟨h0, rfl, rfl, rfl, rfl, hfr2, e52, -⟩
            cases h0
            simp only [Option.toList, List.cons_append, List.nil_append]
            rw [cut_2 hlen] at e52
            refine r_if_ne (tgt := 63) dX10_liars_57 (by decide) (fun _ => ?_) (fun hz => absurd hz (show ¬ _ from by rw [hb1]; decide))
            refine r_aload_n dX10_liars_63 rfl ?_
            refine r_getI dX10_liars_64 fl_X10_413 rfl hk.1.1 ?_
            rw [e52]
            refine r_iconst (v := nI 1) dX10_liars_67 (by decide) ?_
            refine r_icmp_ne (tgt := 73) dX10_liars_68 (by decide) (fun _ => ?_) (fun hz => absurd hz (show ¬ _ from by rw [nI_eq (by omega) (by omega)]; exact c4))
            refine r_iinc (v := nI (t + 1)) dX10_liars_73 rfl (nI_inc t) ?_
            refine r_goto (tgt := 20) dX10_liars_76 (by decide) ?_
            exact ih (t + 1) I' (by omega) (hk.fr hfr2) (fun v I2 hv hf => h1 v I2 hv (hfr2.tr hf)) (fun hv I2 hf => h2 hv I2 (hfr2.tr hf))
      · have hok : ¬ okK p z t = true := by unfold okK; rw [decide_eq_false cz, Bool.and_false]; decide
        rw [if_neg (fun y => hok y.1)] at h1 h2
        refine r_iload_n dX10_liars_20 rfl ?_
        refine r_sipush (v := nI 256) dX10_liars_21 (by decide) ?_
        refine r_icmp_ge (tgt := 79) dX10_liars_24 (by decide) (fun hz => absurd hz (show ¬ _ from (by rw [nI_leI (by omega) (by omega)]; omega))) (fun _ => ?_)
        refine r_iload_n dX10_liars_27 rfl ?_
        refine r_iload_n dX10_liars_28 rfl ?_
        refine r_iconst (v := (-1)) dX10_liars_29 (by decide) ?_
        refine r_ixor dX10_liars_30 ?_
        refine r_iand dX10_liars_31 ?_
        refine r_if_ne (tgt := 73) dX10_liars_32 (by decide) (fun hz => absurd (show _ from c1') hz) (fun _ => ?_)
        refine r_iload_n dX10_liars_35 rfl ?_
        refine r_statE (c_X10_bits (nI t)) lk_X10_448 mc_X10_bits dX10_liars_36 (by decide) rfl rfl (Nat.le_of_ble_eq_true rfl) ?_
        rw [pc_21 t (by omega)]
        refine r_iload_n dX10_liars_39 rfl ?_
        refine r_icmp_eq (tgt := 46) dX10_liars_40 (by decide) (fun hz => absurd hz (show ¬ _ from by rw [nI_eq (by omega) (by omega)]; exact cz)) (fun _ => ?_)
        refine r_goto (tgt := 73) dX10_liars_43 (by decide) ?_
        refine r_iinc (v := nI (t + 1)) dX10_liars_73 rfl (nI_inc t) ?_
        refine r_goto (tgt := 20) dX10_liars_76 (by decide) ?_
        exact ih (t + 1) I (by omega) hk h1 h2
    · have hok : ¬ okK p z t = true := by unfold okK; intro y; rw [Bool.and_eq_true] at y; exact c1 y.1
      rw [if_neg (fun y => hok y.1)] at h1 h2
      have c1' : ¬ nI t &&& (nI p ^^^ (-1)) = 0 := fun y => c1 (decide_eq_true y)
      refine r_iload_n dX10_liars_20 rfl ?_
      refine r_sipush (v := nI 256) dX10_liars_21 (by decide) ?_
      refine r_icmp_ge (tgt := 79) dX10_liars_24 (by decide) (fun hz => absurd hz (show ¬ _ from (by rw [nI_leI (by omega) (by omega)]; omega))) (fun _ => ?_)
      refine r_iload_n dX10_liars_27 rfl ?_
      refine r_iload_n dX10_liars_28 rfl ?_
      refine r_iconst (v := (-1)) dX10_liars_29 (by decide) ?_
      refine r_ixor dX10_liars_30 ?_
      refine r_iand dX10_liars_31 ?_
      refine r_if_ne (tgt := 73) dX10_liars_32 (by decide) (fun _ => ?_) (fun hz => absurd hz (show ¬ _ from c1'))
      refine r_iinc (v := nI (t + 1)) dX10_liars_73 rfl (nI_inc t) ?_
      refine r_goto (tgt := 20) dX10_liars_76 (by decide) ?_
      exact ih (t + 1) I (by omega) hk h1 h2

set_option maxHeartbeats 4000000 in
set_option maxRecDepth 100000 in
theorem wo_X10_liars (m H M L : Nat) (lk : Nat → Nat) (rid : Nat → List Nat) (un : Bool) (Lt so de : Nat → Int32) (rb : Nat → Bool) (p : Nat) {n : Nat} {kd : mK} {J : mJ} {P : mP} (hH8 : H ≤ 8) (hM20 : M ≤ 20) (hp : p < 256) (hrb : ∀ k, k < H → bt (nI p) k = true → rb k = true) : ∀ (c z : Nat) (z3 : Option Value) (I : mI), z + c = 9 → rfS kd P I m H M L lk rid un Lt so de rb → Ru yX10_liars.cls cX10_liars 4 (some .int) yX10_liars.name 6 (fun y n' kd' I' J' P' => y = .inl (some (.int (kl2 (RLi un Lt L H M lk (tvN so de (nI M) H rid) p) p 256 c z))) ∧ n' = n ∧ kd' = kd ∧ J' = J ∧ P' = P ∧ rFr m I I') 0 0 12 [some (.ref m), some (.int (nI p)), some (.int (nI z)), z3] [] n kd I J P := by
  intro c
  induction c with
  | zero =>
    intro z z3 I hz hk
    unfold kl2
    refine r_iload_n dX10_liars_12 rfl ?_
    refine r_bipush (v := nI 8) dX10_liars_13 (by decide) ?_
    refine r_icmp_gt (tgt := 85) dX10_liars_15 (by decide) (fun _ => ?_) (fun hz => absurd (show _ from (by rw [nI_ltI (by omega) (by omega)]; omega)) hz)
    refine r_iconst (v := (-1)) dX10_liars_85 (by decide) ?_
    refine r_iret rfl dX10_liars_86 ?_
    exact ⟨rfl, rfl, rfl, rfl, rfl, rFr.rf⟩
  | succ c ih =>
    intro z z3 I hz hk
    unfold kl2
    refine r_iload_n dX10_liars_12 rfl ?_
    refine r_bipush (v := nI 8) dX10_liars_13 (by decide) ?_
    refine r_icmp_gt (tgt := 85) dX10_liars_15 (by decide) (fun hz => absurd hz (show ¬ _ from (by rw [nI_ltI (by omega) (by omega)]; omega))) (fun _ => ?_)
    refine r_iconst (v := nI 0) dX10_liars_18 (by decide) ?_
    refine r_istore_n dX10_liars_19 (by decide) ?_
    refine wi_X10_liars m H M L lk rid un Lt so de rb p z hH8 hM20 hp (by omega) hrb _ 256 0 I (by omega) hk (fun v I' hv hf => ?_) (fun hv I' hf => ?_)
    · rw [hv]
      exact ⟨rfl, rfl, rfl, rfl, rfl, hf⟩
    · rw [hv]
      have hn := ih (z + 1) (some (.int (nI 256))) I' (by omega) (hk.fr hf)
      refine r_iinc (v := nI (z + 1)) dX10_liars_79 rfl (nI_inc z) ?_
      refine r_goto (tgt := 12) dX10_liars_82 (by decide) ?_
      exact RuZ.mono hn (fun y n' kd' I2 J2 P2 h => ⟨h.1, h.2.1, h.2.2.1, h.2.2.2.1, h.2.2.2.2.1, hf.tr h.2.2.2.2.2⟩)

set_option maxHeartbeats 4000000 in
set_option maxRecDepth 100000 in
theorem c_X10_liars (m H M L : Nat) (lk : Nat → Nat) (rid : Nat → List Nat) (un : Bool) (Lt so de : Nat → Int32) (rb : Nat → Bool) (p : Nat) {n : Nat} {kd : mK} {I : mI} {J : mJ} {P : mP} (hk : rfS kd P I m H M L lk rid un Lt so de rb) (hH8 : H ≤ 8) (hM20 : M ≤ 20) (hp : p < 256) (hrb : ∀ k, k < H → bt (nI p) k = true → rb k = true) (hsp : spR (I (m + 3)) (I (m + 4)) H = nI p) : Ct yX10_liars cX10_liars 4 (some .int) 6 0 0 [.ref m] n kd I J P (fun y n' kd' I' J' P' => y = .inl (some (.int (kl2 (RLi un Lt L H M lk (tvN so de (nI M) H rid) p) p 256 9 0))) ∧ n' = n ∧ kd' = kd ∧ J' = J ∧ P' = P ∧ rFr m (va_up I m (va_up (I m) 0 (nI 0))) I') := by
  refine ct_of 3 (by decide +kernel) (Nat.le_of_ble_eq_true rfl) rfl ?_
  refine r_aload_n dX10_liars_0 rfl ?_
  refine r_iconst (v := nI 0) dX10_liars_1 (by decide) ?_
  refine r_putI dX10_liars_2 fl_X10_193 rfl rfl hk.1.1 ?_
  refine r_aload_n dX10_liars_5 rfl ?_
  refine r_virtE (c_X10_speaking m H hk.1 (hk.th (x := nI 0)).2.1 hH8) lk_X10_429 mc_X10_speaking dX10_liars_6 hk.1.1 (by decide) rfl rfl (Nat.le_of_ble_eq_true rfl) ?_
  rw [show spR ((va_up I m (va_up (I m) 0 (nI 0))) (m + 3)) ((va_up I m (va_up (I m) 0 (nI 0))) (m + 4)) H = nI p by rw [am_up_n _ _ (show m + 3 ≠ m by omega), am_up_n _ _ (show m + 4 ≠ m by omega)]; exact hsp]
  refine r_istore_n dX10_liars_9 (by decide) ?_
  refine r_iconst (v := nI 0) dX10_liars_10 (by decide) ?_
  refine r_istore_n dX10_liars_11 (by decide) ?_
  exact wo_X10_liars m H M L lk rid un Lt so de rb p hH8 hM20 hp hrb 9 0 none _ (by omega) hk.th

theorem dX10_knot_0 : decode cX10_knot 0 = .ok (.aload_n 0, 1) := by decide +kernel
theorem dX10_knot_1 : decode cX10_knot 1 = .ok (.iconst 0, 1) := by decide +kernel
theorem dX10_knot_2 : decode cX10_knot 2 = .ok (.putfield 193, 3) := by decide +kernel
theorem dX10_knot_5 : decode cX10_knot 5 = .ok (.aload_n 0, 1) := by decide +kernel
theorem dX10_knot_6 : decode cX10_knot 6 = .ok (.invokevirtual 445, 3) := by decide +kernel
theorem dX10_knot_9 : decode cX10_knot 9 = .ok (.ireturn, 1) := by decide +kernel
set_option maxHeartbeats 4000000 in
set_option maxRecDepth 100000 in
theorem c_X10_knot (m H M L : Nat) (lk : Nat → Nat) (rid : Nat → List Nat) (un : Bool) (Lt so de : Nat → Int32) (rb : Nat → Bool) (p : Nat) {n : Nat} {kd : mK} {I : mI} {J : mJ} {P : mP} (hk : rfS kd P I m H M L lk rid un Lt so de rb) (hH8 : H ≤ 8) (hM20 : M ≤ 20) (hp : p < 256) (hrb : ∀ k, k < H → bt (nI p) k = true → rb k = true) (hsp : spR (I (m + 3)) (I (m + 4)) H = nI p) : Ct yX10_knot cX10_knot 1 (some .int) 7 0 0 [.ref m] n kd I J P (fun y n' kd' I' J' P' => y = .inl (some (.int (kn2 (RK un Lt L H M lk (tvN so de (nI M) H rid)) p 256 9 0))) ∧ n' = n ∧ kd' = kd ∧ J' = J ∧ P' = P ∧ rFr m (va_up I m (va_up (I m) 0 (nI 0))) I') := by
  refine ct_of 0 (by decide +kernel) (Nat.le_of_ble_eq_true rfl) rfl ?_
  refine r_aload_n dX10_knot_0 rfl ?_
  refine r_iconst (v := nI 0) dX10_knot_1 (by decide) ?_
  refine r_putI dX10_knot_2 fl_X10_193 rfl rfl hk.1.1 ?_
  refine r_aload_n dX10_knot_5 rfl ?_
  refine r_virt (c_X10_smallestKnot m H M L lk rid un Lt so de rb p hk.th hH8 hM20 hp hrb (by rw [am_up_n _ _ (show m + 3 ≠ m by omega), am_up_n _ _ (show m + 4 ≠ m by omega)]; exact hsp)) lk_X10_445 mc_X10_smallestKnot dX10_knot_6 hk.1.1 (by decide) rfl rfl (Nat.le_of_ble_eq_true rfl) (Nat.le_of_eq (Nat.zero_add _)) (Nat.le_of_eq (Nat.zero_add _)) (fun _ _ _ _ _ _ h => nomatch h.1) ?_
  rintro v n1 kd1 I1 J1 P1 ⟨h0, hx⟩
  cases h0
  simp only [Option.toList, List.cons_append, List.nil_append]
  refine r_iret rfl dX10_knot_9 ?_
  exact ⟨rfl, hx⟩

theorem kl1_ext (R : Nat → Int32) (ok : Nat → Bool) (d : Nat) : ∀ (c s : Nat), (∀ j, s + c ≤ j → j < s + c + d → ok j = false) → kl1 R ok (c + d) s = kl1 R ok c s
  | 0, s, h => by
    rw [Nat.zero_add]
    induction d generalizing s with
    | zero => rfl
    | succ d ih =>
      show kl1 R ok (d + 1) s = none
      unfold kl1
      rw [if_neg (fun y => by have := h s (by omega) (by omega); rw [this] at y; exact absurd y.1 (by decide))]
      exact ih (s + 1) (fun j x y => h j (by omega) (by omega))
  | c + 1, s, h => by
    rw [show c + 1 + d = (c + d) + 1 by omega]
    unfold kl1
    rw [kl1_ext R ok d c (s + 1) (fun j x y => h j (by omega) (by omega))]
theorem kl1_none (R : Nat → Int32) (ok : Nat → Bool) : ∀ (c s : Nat), (∀ j, s ≤ j → j < s + c → ok j = false) → kl1 R ok c s = none
  | 0, s, _ => rfl
  | c + 1, s, h => by
    unfold kl1
    rw [if_neg (fun y => by have := h s (by omega) (by omega); rw [this] at y; exact absurd y.1 (by decide))]
    exact kl1_none R ok c (s + 1) (fun j x y => h j (by omega) (by omega))
theorem kl2_none (R : Nat → Int32) (p cnt : Nat) : ∀ (c z : Nat), (∀ y, z ≤ y → y < z + c → kl1 R (okK p y) cnt 0 = none) → kl2 R p cnt c z = -1
  | 0, z, _ => rfl
  | c + 1, z, h => by
    unfold kl2
    rw [h z (by omega) (by omega)]
    exact kl2_none R p cnt c (z + 1) (fun y a b => h y (by omega) (by omega))
theorem kl2_split (R : Nat → Int32) (p c1 c2 d : Nat) : ∀ (c z : Nat), (∀ y, z ≤ y → y < z + c → kl1 R (okK p y) c1 0 = kl1 R (okK p y) c2 0) → (∀ y, z + c ≤ y → y < z + c + d → kl1 R (okK p y) c2 0 = none) → kl2 R p c1 c z = kl2 R p c2 (c + d) z
  | 0, z, _, h2 => by
    rw [Nat.zero_add, kl2_none R p c2 d z (fun y a b => h2 y (by omega) (by omega))]
    rfl
  | c + 1, z, h1, h2 => by
    rw [show c + 1 + d = (c + d) + 1 by omega]
    unfold kl2
    rw [h1 z (by omega) (by omega), kl2_split R p c1 c2 d c (z + 1) (fun y a b => h1 y (by omega) (by omega)) (fun y a b => h2 y (by omega) (by omega))]
/-- class and reference find the same liars -/
theorem kl_same (R : Nat → Int32) {p : Nat} (hp : p < 256) : kl2 R p (p + 1) (pc8 p + 1) 0 = kl2 R p 256 9 0 := by
  have h8 := pc8_le p hp
  have h := kl2_split R p (p + 1) 256 (8 - pc8 p) (pc8 p + 1) 0 (fun y _ _ => ?_) (fun y a b => ?_)
  · rw [h, show pc8 p + 1 + (8 - pc8 p) = 9 by omega]
  · rw [show (256 : Nat) = p + 1 + (255 - p) by omega]
    refine (kl1_ext R (okK p y) (255 - p) (p + 1) 0 (fun j c d => ?_)).symm
    unfold okK
    cases e : subK p j with
    | false => rfl
    | true => have := (sub_le p hp j (by omega) e).1; omega
  · refine kl1_none R (okK p y) 256 0 (fun j _ d => ?_)
    unfold okK
    cases e : subK p j with
    | false => rfl
    | true =>
      have := (sub_le p hp j (by omega) e).2
      rw [decide_eq_false (by omega)]; rfl
