/-! KNOT AND LIARS: both sides -/
def kl1 (R : Nat → Int32) (ok : Nat → Bool) : Nat → Nat → Option Int32
  | 0, _ => none
  | c + 1, s => if ok s = true ∧ (R s = nI 1 ∨ R s = -2) then some (if R s = -2 then -2 else nI s) else kl1 R ok c (s + 1)
def kl2 (R : Nat → Int32) (p cnt : Nat) : Nat → Nat → Int32
  | 0, _ => -1
  | c + 1, z => match kl1 R (okK p z) cnt 0 with
    | some v => v
    | none => kl2 R p cnt c (z + 1)
def resL (un : Bool) (Lt : Nat → Int32) (L H M : Nat) (lk : Nat → Nat) (tv : (Nat → Nat) → Nat → Bool) (p s : Nat) : Nat × List (Nat → Nat) × Bool := (skTop (TN un Lt L (nI p &&& (nI s ^^^ (-1))) (nI 1) lk tv H) noB H M 2).getD (0, [], false)
def RLi (un : Bool) (Lt : Nat → Int32) (L H M : Nat) (lk : Nat → Nat) (tv : (Nat → Nat) → Nat → Bool) (p s : Nat) : Int32 := skv (resL un Lt L H M lk tv p s).2.2 (resL un Lt L H M lk tv p s).2.1
theorem resL_eq {un : Bool} {Lt : Nat → Int32} {L H M : Nat} {lk : Nat → Nat} {tv : (Nat → Nat) → Nat → Bool} (p s : Nat) (hH : H ≤ 8) (hM : M ≤ 20) : skTop (TN un Lt L (nI p &&& (nI s ^^^ (-1))) (nI 1) lk tv H) noB H M 2 = some (resL un Lt L H M lk tv p s) := by
  obtain ⟨res, h⟩ := skTop_ex (TN un Lt L (nI p &&& (nI s ^^^ (-1))) (nI 1) lk tv H) 2 hH hM
  unfold resL
  rw [h]
  rfl
theorem dX0_fewestLiars_0 : decode cX0_fewestLiars 0 = .ok (.aload_n 1, 1) := by decide +kernel
theorem dX0_fewestLiars_1 : decode cX0_fewestLiars 1 = .ok (.aload_n 2, 1) := by decide +kernel
theorem dX0_fewestLiars_2 : decode cX0_fewestLiars 2 = .ok (.invokevirtual 32, 3) := by decide +kernel
theorem dX0_fewestLiars_5 : decode cX0_fewestLiars 5 = .ok (.istore_n 3, 1) := by decide +kernel
theorem dX0_fewestLiars_6 : decode cX0_fewestLiars 6 = .ok (.iconst 0, 1) := by decide +kernel
theorem dX0_fewestLiars_7 : decode cX0_fewestLiars 7 = .ok (.istore 4, 2) := by decide +kernel
theorem dX0_fewestLiars_9 : decode cX0_fewestLiars 9 = .ok (.iload 4, 2) := by decide +kernel
theorem dX0_fewestLiars_11 : decode cX0_fewestLiars 11 = .ok (.iload_n 3, 1) := by decide +kernel
theorem dX0_fewestLiars_12 : decode cX0_fewestLiars 12 = .ok (.invokestatic 46, 3) := by decide +kernel
theorem dX0_fewestLiars_15 : decode cX0_fewestLiars 15 = .ok (.if_icmp .gt 89, 3) := by decide +kernel
theorem dX0_fewestLiars_18 : decode cX0_fewestLiars 18 = .ok (.iconst 0, 1) := by decide +kernel
theorem dX0_fewestLiars_19 : decode cX0_fewestLiars 19 = .ok (.istore 5, 2) := by decide +kernel
theorem dX0_fewestLiars_21 : decode cX0_fewestLiars 21 = .ok (.iload 5, 2) := by decide +kernel
theorem dX0_fewestLiars_23 : decode cX0_fewestLiars 23 = .ok (.iload_n 3, 1) := by decide +kernel
theorem dX0_fewestLiars_24 : decode cX0_fewestLiars 24 = .ok (.if_icmp .gt 74, 3) := by decide +kernel
theorem dX0_fewestLiars_27 : decode cX0_fewestLiars 27 = .ok (.iload 5, 2) := by decide +kernel
theorem dX0_fewestLiars_29 : decode cX0_fewestLiars 29 = .ok (.iload 4, 2) := by decide +kernel
theorem dX0_fewestLiars_31 : decode cX0_fewestLiars 31 = .ok (.iload_n 3, 1) := by decide +kernel
theorem dX0_fewestLiars_32 : decode cX0_fewestLiars 32 = .ok (.invokestatic 51, 3) := by decide +kernel
theorem dX0_fewestLiars_35 : decode cX0_fewestLiars 35 = .ok (.ifCond .eq 57, 3) := by decide +kernel
theorem dX0_fewestLiars_38 : decode cX0_fewestLiars 38 = .ok (.aload_n 0, 1) := by decide +kernel
theorem dX0_fewestLiars_39 : decode cX0_fewestLiars 39 = .ok (.getfield 12, 3) := by decide +kernel
theorem dX0_fewestLiars_42 : decode cX0_fewestLiars 42 = .ok (.aload_n 1, 1) := by decide +kernel
theorem dX0_fewestLiars_43 : decode cX0_fewestLiars 43 = .ok (.aload_n 2, 1) := by decide +kernel
theorem dX0_fewestLiars_44 : decode cX0_fewestLiars 44 = .ok (.iload_n 3, 1) := by decide +kernel
theorem dX0_fewestLiars_45 : decode cX0_fewestLiars 45 = .ok (.iload 5, 2) := by decide +kernel
theorem dX0_fewestLiars_47 : decode cX0_fewestLiars 47 = .ok (.iconst (-1), 1) := by decide +kernel
theorem dX0_fewestLiars_48 : decode cX0_fewestLiars 48 = .ok (.ixor, 1) := by decide +kernel
theorem dX0_fewestLiars_49 : decode cX0_fewestLiars 49 = .ok (.iand, 1) := by decide +kernel
theorem dX0_fewestLiars_50 : decode cX0_fewestLiars 50 = .ok (.iconst 1, 1) := by decide +kernel
theorem dX0_fewestLiars_51 : decode cX0_fewestLiars 51 = .ok (.invokevirtual 38, 3) := by decide +kernel
theorem dX0_fewestLiars_54 : decode cX0_fewestLiars 54 = .ok (.aload_n 0, 1) := by decide +kernel
theorem dX0_fewestLiars_55 : decode cX0_fewestLiars 55 = .ok (.getfield 12, 3) := by decide +kernel
theorem dX0_fewestLiars_58 : decode cX0_fewestLiars 58 = .ok (.iconst 2, 1) := by decide +kernel
theorem dX0_fewestLiars_59 : decode cX0_fewestLiars 59 = .ok (.invokevirtual 42, 3) := by decide +kernel
theorem dX0_fewestLiars_62 : decode cX0_fewestLiars 62 = .ok (.istore 6, 2) := by decide +kernel
theorem dX0_fewestLiars_64 : decode cX0_fewestLiars 64 = .ok (.iload 6, 2) := by decide +kernel
theorem dX0_fewestLiars_66 : decode cX0_fewestLiars 66 = .ok (.iconst 1, 1) := by decide +kernel
theorem dX0_fewestLiars_67 : decode cX0_fewestLiars 67 = .ok (.if_icmp .eq 10, 3) := by decide +kernel
theorem dX0_fewestLiars_70 : decode cX0_fewestLiars 70 = .ok (.iload 6, 2) := by decide +kernel
theorem dX0_fewestLiars_72 : decode cX0_fewestLiars 72 = .ok (.bipush (-2), 2) := by decide +kernel
theorem dX0_fewestLiars_74 : decode cX0_fewestLiars 74 = .ok (.if_icmp .ne 18, 3) := by decide +kernel
theorem dX0_fewestLiars_77 : decode cX0_fewestLiars 77 = .ok (.iload 6, 2) := by decide +kernel
theorem dX0_fewestLiars_79 : decode cX0_fewestLiars 79 = .ok (.bipush (-2), 2) := by decide +kernel
theorem dX0_fewestLiars_81 : decode cX0_fewestLiars 81 = .ok (.if_icmp .ne 8, 3) := by decide +kernel
theorem dX0_fewestLiars_84 : decode cX0_fewestLiars 84 = .ok (.bipush (-2), 2) := by decide +kernel
theorem dX0_fewestLiars_86 : decode cX0_fewestLiars 86 = .ok (.goto 5, 3) := by decide +kernel
theorem dX0_fewestLiars_89 : decode cX0_fewestLiars 89 = .ok (.iload 5, 2) := by decide +kernel
theorem dX0_fewestLiars_91 : decode cX0_fewestLiars 91 = .ok (.ireturn, 1) := by decide +kernel
theorem dX0_fewestLiars_92 : decode cX0_fewestLiars 92 = .ok (.iinc 5 1, 3) := by decide +kernel
theorem dX0_fewestLiars_95 : decode cX0_fewestLiars 95 = .ok (.goto (-74), 3) := by decide +kernel
theorem dX0_fewestLiars_98 : decode cX0_fewestLiars 98 = .ok (.iinc 4 1, 3) := by decide +kernel
theorem dX0_fewestLiars_101 : decode cX0_fewestLiars 101 = .ok (.goto (-92), 3) := by decide +kernel
theorem dX0_fewestLiars_104 : decode cX0_fewestLiars 104 = .ok (.iconst (-1), 1) := by decide +kernel
theorem dX0_fewestLiars_105 : decode cX0_fewestLiars 105 = .ok (.ireturn, 1) := by decide +kernel

set_option maxHeartbeats 4000000 in
set_option maxRecDepth 100000 in
theorem wi_X0_fewestLiars (a s b l H M L p : Nat) (lk : Nat → Nat) (rid : Nat → List Nat) (un : Bool) (Lt so de : Nat → Int32) (z : Nat) {n : Nat} {kd : mK} (hH8 : H ≤ 8) (hM20 : M ≤ 20) (hp : p < 256) (hz : z ≤ 8) (post : am_Post) : ∀ (c t : Nat) (z6 : Option Value) (I : mI) (J : mJ) (P : mP), t + c = p + 1 → knH kd I P a s b l H M L lk rid un Lt so de → (∀ k, k < 8 → bt (nI p) k = true → bt (I b 3) k = true) → (∀ v I' J' P', kl1 (RLi un Lt L H M lk (tvN so de (nI M) H rid) p) (okK p z) c t = some v → qFr s b I I' J J' P P' → post (.inl (some (.int v))) n kd I' J' P') → (kl1 (RLi un Lt L H M lk (tvN so de (nI M) H rid) p) (okK p z) c t = none → ∀ z6 I' J' P', qFr s b I I' J J' P P' → Ru yX0_fewestLiars.cls cX0_fewestLiars 7 (some .int) yX0_fewestLiars.name 8 (post) 0 0 98 [some (.ref a), some (.ref b), some (.ref l), some (.int (nI p)), some (.int (nI z)), some (.int (nI (p + 1))), z6] [] n kd I' J' P') → Ru yX0_fewestLiars.cls cX0_fewestLiars 7 (some .int) yX0_fewestLiars.name 8 (post) 0 0 21 [some (.ref a), some (.ref b), some (.ref l), some (.int (nI p)), some (.int (nI z)), some (.int (nI t)), z6] [] n kd I J P := by
  intro c
  induction c with
  | zero =>
    intro t z6 I J P ht hk hpb h1 h2
    have ht1 : t = p + 1 := by omega
    subst ht1
    refine r_iload dX0_fewestLiars_21 rfl ?_
    refine r_iload_n dX0_fewestLiars_23 rfl ?_
    refine r_icmp_gt (tgt := 98) dX0_fewestLiars_24 (by decide) (fun _ => ?_) (fun hz => absurd (show _ from (by rw [nI_ltI (by omega) (by omega)]; omega)) hz)
    exact h2 rfl z6 I J P qFr.rf
  | succ c ih =>
    intro t z6 I J P ht hk hpb h1 h2
    have hk' := hk
    obtain ⟨⟨k0, k1, k9⟩, k2, k3, k4, k5, k6, k7, k8⟩ := hk
    unfold kl1 at h1 h2
    by_cases c1 : okK p z t = true
    · by_cases c3 : (RLi un Lt L H M lk (tvN so de (nI M) H rid) p) t = -2
      · rw [if_pos ⟨c1, Or.inr c3⟩, if_pos c3] at h1
        refine r_iload dX0_fewestLiars_21 rfl ?_
        refine r_iload_n dX0_fewestLiars_23 rfl ?_
        refine r_icmp_gt (tgt := 98) dX0_fewestLiars_24 (by decide) (fun hz => absurd hz (show ¬ _ from (by rw [nI_ltI (by omega) (by omega)]; omega))) (fun _ => ?_)
        refine r_iload dX0_fewestLiars_27 rfl ?_
        refine r_iload dX0_fewestLiars_29 rfl ?_
        refine r_iload_n dX0_fewestLiars_31 rfl ?_
        refine r_statE (c_X0_isSubset p z t (by omega) (by omega)) lk_X0_51 mc_X0_isSubset dX0_fewestLiars_32 (by decide) rfl rfl (Nat.le_of_ble_eq_true rfl) ?_
        refine r_if_eq (tgt := 92) dX0_fewestLiars_35 (by decide) (fun hz => absurd hz (show ¬ _ from by rw [c1]; decide)) (fun _ => ?_)
        refine r_aload_n dX0_fewestLiars_38 rfl ?_
        refine r_getR dX0_fewestLiars_39 fl_X0_12 rfl k0 k1 ?_
        refine r_aload_n dX0_fewestLiars_42 rfl ?_
        refine r_aload_n dX0_fewestLiars_43 rfl ?_
        refine r_iload_n dX0_fewestLiars_44 rfl ?_
        refine r_iload dX0_fewestLiars_45 rfl ?_
        refine r_iconst (v := (-1)) dX0_fewestLiars_47 (by decide) ?_
        refine r_ixor dX0_fewestLiars_48 ?_
        refine r_iand dX0_fewestLiars_49 ?_
        refine r_iconst (v := nI 1) dX0_fewestLiars_50 (by decide) ?_
        refine r_virtV (c_setUpN s b l H M L (nI p &&& (nI t ^^^ (-1))) (nI 1) lk rid un Lt so de k2 k3 k4 k5 k6 k7 hH8 k8) lk_X0_38 mc_X6_setUp dX0_fewestLiars_51 k4.1 (by decide) rfl rfl (Nat.le_of_ble_eq_true rfl) ?_
        refine r_aload_n dX0_fewestLiars_54 rfl ?_
        refine r_getR dX0_fewestLiars_55 fl_X0_12 rfl k0 (by unfold suP; rw [am_up_n _ _ k9]; exact k1) ?_
        refine r_iconst (v := nI 2) dX0_fewestLiars_58 (by decide) ?_
        have hk2 := resL_eq (un := un) (Lt := Lt) (L := L) (H := H) (M := M) (lk := lk) (tv := tvN so de (nI M) H rid) p t hH8 hM20
        refine r_virt (c_seekN s b l H M L (nI p &&& (nI t ^^^ (-1))) (nI 1) lk rid un Lt so de 2 _ k2 k3 k4 k5 k6 k7 hH8 k8 hM20 (by decide) (by decide) (fun k hk hx => hpb k hk (by rw [b_and, Bool.and_eq_true] at hx; exact hx.1)) hk2) lk_X0_42 mc_X6_seek dX0_fewestLiars_59 k4.1 (by decide) rfl rfl (Nat.le_of_ble_eq_true rfl) (Nat.le_of_eq (Nat.zero_add _)) (Nat.le_of_eq (Nat.zero_add _)) (fun _ _ _ _ _ _ h => nomatch h.1) ?_
        rintro v n' kd' I' J' P' ⟨h0, rfl, rfl, hfr2, -⟩
        cases h0
        simp only [Option.toList, List.cons_append, List.nil_append]
        change RuZ _ _ _ _ _ _ _ _ _ _ _ _ (.int ((RLi un Lt L H M lk (tvN so de (nI M) H rid) p) t) :: []) _ _ _ _ _
        refine r_istore dX0_fewestLiars_62 (by decide) ?_
        refine r_iload dX0_fewestLiars_64 rfl ?_
        refine r_iconst (v := nI 1) dX0_fewestLiars_66 (by decide) ?_
        refine r_icmp_eq (tgt := 77) dX0_fewestLiars_67 (by decide) (fun hz => absurd hz (show ¬ _ from by rw [c3]; decide)) (fun _ => ?_)
        refine r_iload dX0_fewestLiars_70 rfl ?_
        refine r_bipush (v := (-2)) dX0_fewestLiars_72 (by decide) ?_
        refine r_icmp_ne (tgt := 92) dX0_fewestLiars_74 (by decide) (fun hz => absurd (show _ from c3) hz) (fun _ => ?_)
        refine r_iload dX0_fewestLiars_77 rfl ?_
        refine r_bipush (v := (-2)) dX0_fewestLiars_79 (by decide) ?_
        refine r_icmp_ne (tgt := 89) dX0_fewestLiars_81 (by decide) (fun hz => absurd (show _ from c3) hz) (fun _ => ?_)
        refine r_bipush (v := (-2)) dX0_fewestLiars_84 (by decide) ?_
        refine r_goto (tgt := 91) dX0_fewestLiars_86 (by decide) ?_
        refine r_iret rfl dX0_fewestLiars_91 ?_
        exact h1 _ _ _ _ rfl hfr2
      · by_cases c2 : (RLi un Lt L H M lk (tvN so de (nI M) H rid) p) t = nI 1
        · rw [if_pos ⟨c1, Or.inl c2⟩, if_neg c3] at h1
          refine r_iload dX0_fewestLiars_21 rfl ?_
          refine r_iload_n dX0_fewestLiars_23 rfl ?_
          refine r_icmp_gt (tgt := 98) dX0_fewestLiars_24 (by decide) (fun hz => absurd hz (show ¬ _ from (by rw [nI_ltI (by omega) (by omega)]; omega))) (fun _ => ?_)
          refine r_iload dX0_fewestLiars_27 rfl ?_
          refine r_iload dX0_fewestLiars_29 rfl ?_
          refine r_iload_n dX0_fewestLiars_31 rfl ?_
          refine r_statE (c_X0_isSubset p z t (by omega) (by omega)) lk_X0_51 mc_X0_isSubset dX0_fewestLiars_32 (by decide) rfl rfl (Nat.le_of_ble_eq_true rfl) ?_
          refine r_if_eq (tgt := 92) dX0_fewestLiars_35 (by decide) (fun hz => absurd hz (show ¬ _ from by rw [c1]; decide)) (fun _ => ?_)
          refine r_aload_n dX0_fewestLiars_38 rfl ?_
          refine r_getR dX0_fewestLiars_39 fl_X0_12 rfl k0 k1 ?_
          refine r_aload_n dX0_fewestLiars_42 rfl ?_
          refine r_aload_n dX0_fewestLiars_43 rfl ?_
          refine r_iload_n dX0_fewestLiars_44 rfl ?_
          refine r_iload dX0_fewestLiars_45 rfl ?_
          refine r_iconst (v := (-1)) dX0_fewestLiars_47 (by decide) ?_
          refine r_ixor dX0_fewestLiars_48 ?_
          refine r_iand dX0_fewestLiars_49 ?_
          refine r_iconst (v := nI 1) dX0_fewestLiars_50 (by decide) ?_
          refine r_virtV (c_setUpN s b l H M L (nI p &&& (nI t ^^^ (-1))) (nI 1) lk rid un Lt so de k2 k3 k4 k5 k6 k7 hH8 k8) lk_X0_38 mc_X6_setUp dX0_fewestLiars_51 k4.1 (by decide) rfl rfl (Nat.le_of_ble_eq_true rfl) ?_
          refine r_aload_n dX0_fewestLiars_54 rfl ?_
          refine r_getR dX0_fewestLiars_55 fl_X0_12 rfl k0 (by unfold suP; rw [am_up_n _ _ k9]; exact k1) ?_
          refine r_iconst (v := nI 2) dX0_fewestLiars_58 (by decide) ?_
          have hk2 := resL_eq (un := un) (Lt := Lt) (L := L) (H := H) (M := M) (lk := lk) (tv := tvN so de (nI M) H rid) p t hH8 hM20
          refine r_virt (c_seekN s b l H M L (nI p &&& (nI t ^^^ (-1))) (nI 1) lk rid un Lt so de 2 _ k2 k3 k4 k5 k6 k7 hH8 k8 hM20 (by decide) (by decide) (fun k hk hx => hpb k hk (by rw [b_and, Bool.and_eq_true] at hx; exact hx.1)) hk2) lk_X0_42 mc_X6_seek dX0_fewestLiars_59 k4.1 (by decide) rfl rfl (Nat.le_of_ble_eq_true rfl) (Nat.le_of_eq (Nat.zero_add _)) (Nat.le_of_eq (Nat.zero_add _)) (fun _ _ _ _ _ _ h => nomatch h.1) ?_
          rintro v n' kd' I' J' P' ⟨h0, rfl, rfl, hfr2, -⟩
          cases h0
          simp only [Option.toList, List.cons_append, List.nil_append]
          change RuZ _ _ _ _ _ _ _ _ _ _ _ _ (.int ((RLi un Lt L H M lk (tvN so de (nI M) H rid) p) t) :: []) _ _ _ _ _
          refine r_istore dX0_fewestLiars_62 (by decide) ?_
          refine r_iload dX0_fewestLiars_64 rfl ?_
          refine r_iconst (v := nI 1) dX0_fewestLiars_66 (by decide) ?_
          refine r_icmp_eq (tgt := 77) dX0_fewestLiars_67 (by decide) (fun _ => ?_) (fun hz => absurd (show _ from c2) hz)
          refine r_iload dX0_fewestLiars_77 rfl ?_
          refine r_bipush (v := (-2)) dX0_fewestLiars_79 (by decide) ?_
          refine r_icmp_ne (tgt := 89) dX0_fewestLiars_81 (by decide) (fun _ => ?_) (fun hz => absurd hz (show ¬ _ from c3))
          refine r_iload dX0_fewestLiars_89 rfl ?_
          refine r_iret rfl dX0_fewestLiars_91 ?_
          exact h1 _ _ _ _ rfl hfr2
        · rw [if_neg (fun y => y.2.elim c2 c3)] at h1 h2
          refine r_iload dX0_fewestLiars_21 rfl ?_
          refine r_iload_n dX0_fewestLiars_23 rfl ?_
          refine r_icmp_gt (tgt := 98) dX0_fewestLiars_24 (by decide) (fun hz => absurd hz (show ¬ _ from (by rw [nI_ltI (by omega) (by omega)]; omega))) (fun _ => ?_)
          refine r_iload dX0_fewestLiars_27 rfl ?_
          refine r_iload dX0_fewestLiars_29 rfl ?_
          refine r_iload_n dX0_fewestLiars_31 rfl ?_
          refine r_statE (c_X0_isSubset p z t (by omega) (by omega)) lk_X0_51 mc_X0_isSubset dX0_fewestLiars_32 (by decide) rfl rfl (Nat.le_of_ble_eq_true rfl) ?_
          refine r_if_eq (tgt := 92) dX0_fewestLiars_35 (by decide) (fun hz => absurd hz (show ¬ _ from by rw [c1]; decide)) (fun _ => ?_)
          refine r_aload_n dX0_fewestLiars_38 rfl ?_
          refine r_getR dX0_fewestLiars_39 fl_X0_12 rfl k0 k1 ?_
          refine r_aload_n dX0_fewestLiars_42 rfl ?_
          refine r_aload_n dX0_fewestLiars_43 rfl ?_
          refine r_iload_n dX0_fewestLiars_44 rfl ?_
          refine r_iload dX0_fewestLiars_45 rfl ?_
          refine r_iconst (v := (-1)) dX0_fewestLiars_47 (by decide) ?_
          refine r_ixor dX0_fewestLiars_48 ?_
          refine r_iand dX0_fewestLiars_49 ?_
          refine r_iconst (v := nI 1) dX0_fewestLiars_50 (by decide) ?_
          refine r_virtV (c_setUpN s b l H M L (nI p &&& (nI t ^^^ (-1))) (nI 1) lk rid un Lt so de k2 k3 k4 k5 k6 k7 hH8 k8) lk_X0_38 mc_X6_setUp dX0_fewestLiars_51 k4.1 (by decide) rfl rfl (Nat.le_of_ble_eq_true rfl) ?_
          refine r_aload_n dX0_fewestLiars_54 rfl ?_
          refine r_getR dX0_fewestLiars_55 fl_X0_12 rfl k0 (by unfold suP; rw [am_up_n _ _ k9]; exact k1) ?_
          refine r_iconst (v := nI 2) dX0_fewestLiars_58 (by decide) ?_
          have hk2 := resL_eq (un := un) (Lt := Lt) (L := L) (H := H) (M := M) (lk := lk) (tv := tvN so de (nI M) H rid) p t hH8 hM20
          refine r_virt (c_seekN s b l H M L (nI p &&& (nI t ^^^ (-1))) (nI 1) lk rid un Lt so de 2 _ k2 k3 k4 k5 k6 k7 hH8 k8 hM20 (by decide) (by decide) (fun k hk hx => hpb k hk (by rw [b_and, Bool.and_eq_true] at hx; exact hx.1)) hk2) lk_X0_42 mc_X6_seek dX0_fewestLiars_59 k4.1 (by decide) rfl rfl (Nat.le_of_ble_eq_true rfl) (Nat.le_of_eq (Nat.zero_add _)) (Nat.le_of_eq (Nat.zero_add _)) (fun _ _ _ _ _ _ h => nomatch h.1) ?_
          rintro v n' kd' I' J' P' ⟨h0, rfl, rfl, hfr2, -⟩
          cases h0
          simp only [Option.toList, List.cons_append, List.nil_append]
          change RuZ _ _ _ _ _ _ _ _ _ _ _ _ (.int ((RLi un Lt L H M lk (tvN so de (nI M) H rid) p) t) :: []) _ _ _ _ _
          refine r_istore dX0_fewestLiars_62 (by decide) ?_
          refine r_iload dX0_fewestLiars_64 rfl ?_
          refine r_iconst (v := nI 1) dX0_fewestLiars_66 (by decide) ?_
          refine r_icmp_eq (tgt := 77) dX0_fewestLiars_67 (by decide) (fun hz => absurd hz (show ¬ _ from c2)) (fun _ => ?_)
          refine r_iload dX0_fewestLiars_70 rfl ?_
          refine r_bipush (v := (-2)) dX0_fewestLiars_72 (by decide) ?_
          refine r_icmp_ne (tgt := 92) dX0_fewestLiars_74 (by decide) (fun _ => ?_) (fun hz => absurd hz (show ¬ _ from c3))
          refine r_iinc (v := nI (t + 1)) dX0_fewestLiars_92 rfl (nI_inc t) ?_
          refine r_goto (tgt := 21) dX0_fewestLiars_95 (by decide) ?_
          exact ih (t + 1) _ I' J' P' (by omega) (hk'.fr hfr2) (fun k hk hx => by rw [hfr2.1 b (by omega) (by omega)]; exact hpb k hk hx) (fun v I2 J2 P2 hv hf => h1 v I2 J2 P2 hv (hfr2.tr hf)) (fun hv z6 I2 J2 P2 hf => h2 hv z6 I2 J2 P2 (hfr2.tr hf))
    · rw [if_neg (fun y => c1 y.1)] at h1 h2
      have c1' : okK p z t = false := by simpa using c1
      refine r_iload dX0_fewestLiars_21 rfl ?_
      refine r_iload_n dX0_fewestLiars_23 rfl ?_
      refine r_icmp_gt (tgt := 98) dX0_fewestLiars_24 (by decide) (fun hz => absurd hz (show ¬ _ from (by rw [nI_ltI (by omega) (by omega)]; omega))) (fun _ => ?_)
      refine r_iload dX0_fewestLiars_27 rfl ?_
      refine r_iload dX0_fewestLiars_29 rfl ?_
      refine r_iload_n dX0_fewestLiars_31 rfl ?_
      refine r_statE (c_X0_isSubset p z t (by omega) (by omega)) lk_X0_51 mc_X0_isSubset dX0_fewestLiars_32 (by decide) rfl rfl (Nat.le_of_ble_eq_true rfl) ?_
      refine r_if_eq (tgt := 92) dX0_fewestLiars_35 (by decide) (fun _ => ?_) (fun hz => absurd (show _ from by rw [c1']; rfl) hz)
      refine r_iinc (v := nI (t + 1)) dX0_fewestLiars_92 rfl (nI_inc t) ?_
      refine r_goto (tgt := 21) dX0_fewestLiars_95 (by decide) ?_
      exact ih (t + 1) z6 I J P (by omega) hk' hpb h1 h2

set_option maxHeartbeats 4000000 in
set_option maxRecDepth 100000 in
theorem wo_X0_fewestLiars (a s b l H M L p : Nat) (lk : Nat → Nat) (rid : Nat → List Nat) (un : Bool) (Lt so de : Nat → Int32) {n : Nat} {kd : mK} (hH8 : H ≤ 8) (hM20 : M ≤ 20) (hp : p < 256) : ∀ (c z : Nat) (z5 z6 : Option Value) (I : mI) (J : mJ) (P : mP), z + c = pc8 p + 1 → knH kd I P a s b l H M L lk rid un Lt so de → (∀ k, k < 8 → bt (nI p) k = true → bt (I b 3) k = true) → Ru yX0_fewestLiars.cls cX0_fewestLiars 7 (some .int) yX0_fewestLiars.name 8 (fun y n' kd' I' J' P' => y = .inl (some (.int (kl2 (RLi un Lt L H M lk (tvN so de (nI M) H rid) p) p (p + 1) c z))) ∧ n' = n ∧ kd' = kd ∧ qFr s b I I' J J' P P') 0 0 9 [some (.ref a), some (.ref b), some (.ref l), some (.int (nI p)), some (.int (nI z)), z5, z6] [] n kd I J P := by
  have h8 := pc8_le p hp
  intro c
  induction c with
  | zero =>
    intro z z5 z6 I J P hz hk hpb
    unfold kl2
    refine r_iload dX0_fewestLiars_9 rfl ?_
    refine r_iload_n dX0_fewestLiars_11 rfl ?_
    refine r_statE (c_J6_bitCount_0f7a4 (nI p)) lk_X0_46 mc_J6_bitCount_0f7a4 dX0_fewestLiars_12 (by decide) rfl rfl (Nat.le_of_ble_eq_true rfl) ?_
    rw [bc_pc p hp]
    refine r_icmp_gt (tgt := 104) dX0_fewestLiars_15 (by decide) (fun _ => ?_) (fun hz => absurd (show _ from (by rw [nI_ltI (by omega) (by omega)]; omega)) hz)
    refine r_iconst (v := (-1)) dX0_fewestLiars_104 (by decide) ?_
    refine r_iret rfl dX0_fewestLiars_105 ?_
    exact ⟨rfl, rfl, rfl, qFr.rf⟩
  | succ c ih =>
    intro z z5 z6 I J P hz hk hpb
    unfold kl2
    refine r_iload dX0_fewestLiars_9 rfl ?_
    refine r_iload_n dX0_fewestLiars_11 rfl ?_
    refine r_statE (c_J6_bitCount_0f7a4 (nI p)) lk_X0_46 mc_J6_bitCount_0f7a4 dX0_fewestLiars_12 (by decide) rfl rfl (Nat.le_of_ble_eq_true rfl) ?_
    rw [bc_pc p hp]
    refine r_icmp_gt (tgt := 104) dX0_fewestLiars_15 (by decide) (fun hz => absurd hz (show ¬ _ from (by rw [nI_ltI (by omega) (by omega)]; omega))) (fun _ => ?_)
    refine r_iconst (v := nI 0) dX0_fewestLiars_18 (by decide) ?_
    refine r_istore dX0_fewestLiars_19 (by decide) ?_
    refine wi_X0_fewestLiars a s b l H M L p lk rid un Lt so de z hH8 hM20 hp (by omega) _ (p + 1) 0 z6 I J P (by omega) hk hpb (fun v I' J' P' hv hf => ?_) (fun hv z6 I' J' P' hf => ?_)
    · rw [hv]
      exact ⟨rfl, rfl, rfl, hf⟩
    · rw [hv]
      have hn := ih (z + 1) (some (.int (nI (p + 1)))) z6 I' J' P' (by omega) (hk.fr hf) (fun k hk2 hx => by rw [hf.1 b (by have := hk.2.2.2.2.1; have := hk.2.2.2.2.2.1; omega) (by omega)]; exact hpb k hk2 hx)
      refine r_iinc (v := nI (z + 1)) dX0_fewestLiars_98 rfl (nI_inc z) ?_
      refine r_goto (tgt := 9) dX0_fewestLiars_101 (by decide) ?_
      exact RuZ.mono hn (fun y n' kd' I2 J2 P2 h => ⟨h.1, h.2.1, h.2.2.1, hf.tr h.2.2.2⟩)

set_option maxHeartbeats 4000000 in
set_option maxRecDepth 100000 in
theorem c_X0_fewestLiars (a s b l H M L p : Nat) (lk : Nat → Nat) (rid : Nat → List Nat) (un : Bool) (Lt so de : Nat → Int32) {n : Nat} {kd : mK} {I : mI} {J : mJ} {P : mP} (hH8 : H ≤ 8) (hM20 : M ≤ 20) (hp : p < 256) (hk : knH kd I P a s b l H M L lk rid un Lt so de) (hsp : I b 3 &&& (I l 2 ^^^ (-1)) = nI p) : Ct yX0_fewestLiars cX0_fewestLiars 7 (some .int) 8 0 0 [.ref a, .ref b, .ref l] n kd I J P (fun y n' kd' I' J' P' => y = .inl (some (.int (kl2 (RLi un Lt L H M lk (tvN so de (nI M) H rid) p) p (p + 1) (pc8 p + 1) 0))) ∧ n' = n ∧ kd' = kd ∧ qFr s b I I' J J' P P') := by
  have hk' := hk
  obtain ⟨⟨k0, k1, k9⟩, k2, k3, k4, k5, k6, k7, k8⟩ := hk
  refine ct_of 4 (by decide +kernel) (Nat.le_of_ble_eq_true rfl) rfl ?_
  refine r_aload_n dX0_fewestLiars_0 rfl ?_
  refine r_aload_n dX0_fewestLiars_1 rfl ?_
  refine r_virtE (c_X7_speaking b l k2 k3) lk_X0_32 mc_X7_speaking dX0_fewestLiars_2 k2.1 (by decide) rfl rfl (Nat.le_of_ble_eq_true rfl) ?_
  rw [hsp]
  refine r_istore_n dX0_fewestLiars_5 (by decide) ?_
  refine r_iconst (v := nI 0) dX0_fewestLiars_6 (by decide) ?_
  refine r_istore dX0_fewestLiars_7 (by decide) ?_
  exact wo_X0_fewestLiars a s b l H M L p lk rid un Lt so de hH8 hM20 hp (pc8 p + 1) 0 none none I J P (by omega) hk' (fun k hk hx => by rw [← hsp, b_and, Bool.and_eq_true] at hx; exact hx.1)

theorem dX9_knot_0 : decode cX9_knot 0 = .ok (.aload_n 0, 1) := by decide +kernel
theorem dX9_knot_1 : decode cX9_knot 1 = .ok (.getfield 64, 3) := by decide +kernel
theorem dX9_knot_4 : decode cX9_knot 4 = .ok (.aload_n 0, 1) := by decide +kernel
theorem dX9_knot_5 : decode cX9_knot 5 = .ok (.getfield 27, 3) := by decide +kernel
theorem dX9_knot_8 : decode cX9_knot 8 = .ok (.aload_n 0, 1) := by decide +kernel
theorem dX9_knot_9 : decode cX9_knot 9 = .ok (.getfield 37, 3) := by decide +kernel
theorem dX9_knot_12 : decode cX9_knot 12 = .ok (.invokevirtual 211, 3) := by decide +kernel
theorem dX9_knot_15 : decode cX9_knot 15 = .ok (.ireturn, 1) := by decide +kernel
set_option maxHeartbeats 4000000 in
set_option maxRecDepth 100000 in
theorem c_X9_knot (o b f H M L p : Nat) (lk : Nat → Nat) (rid : Nat → List Nat) (un : Bool) (Lt so de : Nat → Int32) {n : Nat} {kd : mK} {I : mI} {J : mJ} {P : mP} (hH8 : H ≤ 8) (hM20 : M ≤ 20) (hp : p < 256) (c0 : kd o = some (0, 9)) (e12 : P o 12 = some (o + 47)) (e4 : P o 4 = some b) (e6 : P o 6 = some f) (hk : knH kd I P (o + 47) (o + 48) b f H M L lk rid un Lt so de) (hsp : I b 3 &&& (I f 2 ^^^ (-1)) = nI p) : Ct yX9_knot cX9_knot 1 (some .int) 9 0 0 [.ref o] n kd I J P (fun y n' kd' I' J' P' => y = .inl (some (.int (kn2 (RK un Lt L H M lk (tvN so de (nI M) H rid)) p (p + 1) (pc8 p + 1) 0))) ∧ n' = n ∧ kd' = kd ∧ qFr (o + 48) b I I' J J' P P') := by
  refine ct_of 0 (by decide +kernel) (Nat.le_of_ble_eq_true rfl) rfl ?_
  refine r_aload_n dX9_knot_0 rfl ?_
  refine r_getR dX9_knot_1 fl_X9_64 rfl c0 e12 ?_
  refine r_aload_n dX9_knot_4 rfl ?_
  refine r_getR dX9_knot_5 fl_X9_27 rfl c0 e4 ?_
  refine r_aload_n dX9_knot_8 rfl ?_
  refine r_getR dX9_knot_9 fl_X9_37 rfl c0 e6 ?_
  refine r_virt (c_X0_smallestKnot (o + 47) (o + 48) b f H M L p lk rid un Lt so de hH8 hM20 hp hk hsp) lk_X9_211 mc_X0_smallestKnot dX9_knot_12 hk.1.1 (by decide) rfl rfl (Nat.le_of_ble_eq_true rfl) (Nat.le_of_eq (Nat.zero_add _)) (Nat.le_of_eq (Nat.zero_add _)) (fun _ _ _ _ _ _ h => nomatch h.1) ?_
  rintro v n1 kd1 I1 J1 P1 ⟨h0, hx⟩
  cases h0
  simp only [Option.toList, List.cons_append, List.nil_append]
  refine r_iret rfl dX9_knot_15 ?_
  exact ⟨rfl, hx⟩

theorem dX9_liars_0 : decode cX9_liars 0 = .ok (.aload_n 0, 1) := by decide +kernel
theorem dX9_liars_1 : decode cX9_liars 1 = .ok (.getfield 64, 3) := by decide +kernel
theorem dX9_liars_4 : decode cX9_liars 4 = .ok (.aload_n 0, 1) := by decide +kernel
theorem dX9_liars_5 : decode cX9_liars 5 = .ok (.getfield 27, 3) := by decide +kernel
theorem dX9_liars_8 : decode cX9_liars 8 = .ok (.aload_n 0, 1) := by decide +kernel
theorem dX9_liars_9 : decode cX9_liars 9 = .ok (.getfield 37, 3) := by decide +kernel
theorem dX9_liars_12 : decode cX9_liars 12 = .ok (.invokevirtual 215, 3) := by decide +kernel
theorem dX9_liars_15 : decode cX9_liars 15 = .ok (.ireturn, 1) := by decide +kernel
set_option maxHeartbeats 4000000 in
set_option maxRecDepth 100000 in
theorem c_X9_liars (o b f H M L p : Nat) (lk : Nat → Nat) (rid : Nat → List Nat) (un : Bool) (Lt so de : Nat → Int32) {n : Nat} {kd : mK} {I : mI} {J : mJ} {P : mP} (hH8 : H ≤ 8) (hM20 : M ≤ 20) (hp : p < 256) (c0 : kd o = some (0, 9)) (e12 : P o 12 = some (o + 47)) (e4 : P o 4 = some b) (e6 : P o 6 = some f) (hk : knH kd I P (o + 47) (o + 48) b f H M L lk rid un Lt so de) (hsp : I b 3 &&& (I f 2 ^^^ (-1)) = nI p) : Ct yX9_liars cX9_liars 1 (some .int) 9 0 0 [.ref o] n kd I J P (fun y n' kd' I' J' P' => y = .inl (some (.int (kl2 (RLi un Lt L H M lk (tvN so de (nI M) H rid) p) p (p + 1) (pc8 p + 1) 0))) ∧ n' = n ∧ kd' = kd ∧ qFr (o + 48) b I I' J J' P P') := by
  refine ct_of 0 (by decide +kernel) (Nat.le_of_ble_eq_true rfl) rfl ?_
  refine r_aload_n dX9_liars_0 rfl ?_
  refine r_getR dX9_liars_1 fl_X9_64 rfl c0 e12 ?_
  refine r_aload_n dX9_liars_4 rfl ?_
  refine r_getR dX9_liars_5 fl_X9_27 rfl c0 e4 ?_
  refine r_aload_n dX9_liars_8 rfl ?_
  refine r_getR dX9_liars_9 fl_X9_37 rfl c0 e6 ?_
  refine r_virt (c_X0_fewestLiars (o + 47) (o + 48) b f H M L p lk rid un Lt so de hH8 hM20 hp hk hsp) lk_X9_215 mc_X0_fewestLiars dX9_liars_12 hk.1.1 (by decide) rfl rfl (Nat.le_of_ble_eq_true rfl) (Nat.le_of_eq (Nat.zero_add _)) (Nat.le_of_eq (Nat.zero_add _)) (fun _ _ _ _ _ _ h => nomatch h.1) ?_
  rintro v n1 kd1 I1 J1 P1 ⟨h0, hx⟩
  cases h0
  simp only [Option.toList, List.cons_append, List.nil_append]
  refine r_iret rfl dX9_liars_15 ?_
  exact ⟨rfl, hx⟩

