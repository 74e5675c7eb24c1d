/-! KNOTS: the class -/
def pcF (v : Int32) : Nat → Nat
  | 0 => 0
  | j + 1 => pcF v j + (if bt v j then 1 else 0)
def pc8 (k : Nat) : Nat := pcF (nI k) 8
theorem bc_pc : ∀ k, k < 256 → bcF (nI k) = nI (pc8 k) := by decide +kernel
theorem pc_21 : ∀ k, k < 256 → pcF (nI k) 21 = pc8 k := by decide +kernel
theorem pc8_le : ∀ k, k < 256 → pc8 k ≤ 8 := by decide +kernel
def subK (p s : Nat) : Bool := decide (nI s &&& (nI p ^^^ (-1)) = 0)
def okK (p z s : Nat) : Bool := subK p s && decide (pc8 s = z)
def kn1 (R : Nat → Int32) (ok : Nat → Bool) : Nat → Nat → Option Int32
  | 0, _ => none
  | c + 1, s => if ok s = true ∧ R s < nI 1 then some (if R s = -2 then -2 else nI s) else kn1 R ok c (s + 1)
def kn2 (R : Nat → Int32) (p cnt : Nat) : Nat → Nat → Int32
  | 0, _ => -1
  | c + 1, z => match kn1 R (okK p z) cnt 0 with
    | some v => v
    | none => kn2 R p cnt c (z + 1)
def resK (un : Bool) (Lt : Nat → Int32) (L H M : Nat) (lk : Nat → Nat) (tv : (Nat → Nat) → Nat → Bool) (s : Nat) : Nat × List (Nat → Nat) × Bool := (skTop (TN un Lt L (nI s) (nI 0) lk tv H) noB H M 1).getD (0, [], false)
def RK (un : Bool) (Lt : Nat → Int32) (L H M : Nat) (lk : Nat → Nat) (tv : (Nat → Nat) → Nat → Bool) (s : Nat) : Int32 := skv (resK un Lt L H M lk tv s).2.2 (resK un Lt L H M lk tv s).2.1
theorem skTop_ex (T : (Nat → Nat) → Nat → Bool) {H M : Nat} (E : Nat) (hH : H ≤ 8) (hM : M ≤ 20) : ∃ res, skTop T noB H M E = some res := by
  obtain ⟨res, h⟩ := skTop_total T (-1) 0 E hH hM
  exact ⟨res, by rw [← skTop_bar (x := -1) (y := 0) hH rfl]; exact h⟩
theorem resK_eq {un : Bool} {Lt : Nat → Int32} {L H M : Nat} {lk : Nat → Nat} {tv : (Nat → Nat) → Nat → Bool} (s : Nat) (hH : H ≤ 8) (hM : M ≤ 20) : skTop (TN un Lt L (nI s) (nI 0) lk tv H) noB H M 1 = some (resK un Lt L H M lk tv s) := by
  obtain ⟨res, h⟩ := skTop_ex (TN un Lt L (nI s) (nI 0) lk tv H) 1 hH hM
  unfold resK
  rw [h]
  rfl
def knH (kd : mK) (I : mI) (P : mP) (a s b l H M L : Nat) (lk : Nat → Nat) (rid : Nat → List Nat) (un : Bool) (Lt so de : Nat → Int32) : Prop := (kd a = some (0, 0) ∧ P a 0 = some s ∧ a ≠ s) ∧ kS kd P b ∧ kL kd P l ∧ kQ kd P s ∧ b + 9 < l ∧ l + 5 < s ∧ s < 1000000 ∧ clS I b l H M L lk rid un Lt so de
theorem knH.fr {kd : mK} {I I' : mI} {J J' : mJ} {P P' : mP} {a s b l H M L : Nat} {lk : Nat → Nat} {rid : Nat → List Nat} {un : Bool} {Lt so de : Nat → Int32} (hf : qFr s b I I' J J' P P') (h : knH kd I P a s b l H M L lk rid un Lt so de) : knH kd I' P' a s b l H M L lk rid un Lt so de := by
  obtain ⟨⟨h1, h2, h3⟩, h4, h5, h6, h7, h8, h9, h10⟩ := h
  exact ⟨⟨h1, by rw [hf.2.2.1 a h3]; exact h2, h3⟩, h4.congr (hf.2.2.1 b (by omega)), h5.congr (hf.2.2.1 l (by omega)), h6.fr hf, h7, h8, h9, h10.fr h7 h8 hf⟩
theorem dX0_isSubset_0 : decode cX0_isSubset 0 = .ok (.iload_n 0, 1) := by decide +kernel
theorem dX0_isSubset_1 : decode cX0_isSubset 1 = .ok (.iload_n 2, 1) := by decide +kernel
theorem dX0_isSubset_2 : decode cX0_isSubset 2 = .ok (.iconst (-1), 1) := by decide +kernel
theorem dX0_isSubset_3 : decode cX0_isSubset 3 = .ok (.ixor, 1) := by decide +kernel
theorem dX0_isSubset_4 : decode cX0_isSubset 4 = .ok (.iand, 1) := by decide +kernel
theorem dX0_isSubset_5 : decode cX0_isSubset 5 = .ok (.ifCond .ne 15, 3) := by decide +kernel
theorem dX0_isSubset_8 : decode cX0_isSubset 8 = .ok (.iload_n 0, 1) := by decide +kernel
theorem dX0_isSubset_9 : decode cX0_isSubset 9 = .ok (.invokestatic 46, 3) := by decide +kernel
theorem dX0_isSubset_12 : decode cX0_isSubset 12 = .ok (.iload_n 1, 1) := by decide +kernel
theorem dX0_isSubset_13 : decode cX0_isSubset 13 = .ok (.if_icmp .ne 7, 3) := by decide +kernel
theorem dX0_isSubset_16 : decode cX0_isSubset 16 = .ok (.iconst 1, 1) := by decide +kernel
theorem dX0_isSubset_17 : decode cX0_isSubset 17 = .ok (.goto 4, 3) := by decide +kernel
theorem dX0_isSubset_20 : decode cX0_isSubset 20 = .ok (.iconst 0, 1) := by decide +kernel
theorem dX0_isSubset_21 : decode cX0_isSubset 21 = .ok (.ireturn, 1) := by decide +kernel
set_option maxHeartbeats 4000000 in
set_option maxRecDepth 100000 in
theorem c_X0_isSubset (p z s : Nat) {n : Nat} {kd : mK} {I : mI} {J : mJ} {P : mP} (hs : s < 256) (hz : z < 2 ^ 31) : Ct yX0_isSubset cX0_isSubset 3 (some .boolean) 2 0 0 [.int (nI s), .int (nI z), .int (nI p)] n kd I J P (am_is (some (.int (bz (okK p z s)))) n kd I J P) := by
  refine ct_of 0 (by decide +kernel) (Nat.le_of_ble_eq_true rfl) rfl ?_
  have h8 := pc8_le s hs
  unfold okK subK
  by_cases c1 : nI s &&& (nI p ^^^ (-1)) = 0
  · by_cases c2 : pc8 s = z
    · rw [show (decide (nI s &&& (nI p ^^^ (-1)) = 0) && decide (pc8 s = z)) = true by rw [decide_eq_true c1, decide_eq_true c2]; rfl]
      refine r_iload_n dX0_isSubset_0 rfl ?_
      refine r_iload_n dX0_isSubset_1 rfl ?_
      refine r_iconst (v := (-1)) dX0_isSubset_2 (by decide) ?_
      refine r_ixor dX0_isSubset_3 ?_
      refine r_iand dX0_isSubset_4 ?_
      refine r_if_ne (tgt := 20) dX0_isSubset_5 (by decide) (fun hz => absurd (show _ from c1) hz) (fun _ => ?_)
      refine r_iload_n dX0_isSubset_8 rfl ?_
      refine r_statE (c_J6_bitCount_0f7a4 (nI s)) lk_X0_46 mc_J6_bitCount_0f7a4 dX0_isSubset_9 (by decide) rfl rfl (Nat.le_of_ble_eq_true rfl) ?_
      rw [bc_pc s hs]
      refine r_iload_n dX0_isSubset_12 rfl ?_
      refine r_icmp_ne (tgt := 20) dX0_isSubset_13 (by decide) (fun hz => absurd (show _ from by rw [c2]) hz) (fun _ => ?_)
      refine r_iconst (v := nI 1) dX0_isSubset_16 (by decide) ?_
      refine r_goto (tgt := 21) dX0_isSubset_17 (by decide) ?_
      refine r_zret rfl dX0_isSubset_21 (by first | exact Or.inl rfl | exact Or.inr rfl | assumption) ?_
      exact am_is.mk
    · rw [show (decide (nI s &&& (nI p ^^^ (-1)) = 0) && decide (pc8 s = z)) = false by rw [decide_eq_false c2, Bool.and_false]]
      refine r_iload_n dX0_isSubset_0 rfl ?_
      refine r_iload_n dX0_isSubset_1 rfl ?_
      refine r_iconst (v := (-1)) dX0_isSubset_2 (by decide) ?_
      refine r_ixor dX0_isSubset_3 ?_
      refine r_iand dX0_isSubset_4 ?_
      refine r_if_ne (tgt := 20) dX0_isSubset_5 (by decide) (fun hz => absurd (show _ from c1) hz) (fun _ => ?_)
      refine r_iload_n dX0_isSubset_8 rfl ?_
      refine r_statE (c_J6_bitCount_0f7a4 (nI s)) lk_X0_46 mc_J6_bitCount_0f7a4 dX0_isSubset_9 (by decide) rfl rfl (Nat.le_of_ble_eq_true rfl) ?_
      rw [bc_pc s hs]
      refine r_iload_n dX0_isSubset_12 rfl ?_
      refine r_icmp_ne (tgt := 20) dX0_isSubset_13 (by decide) (fun _ => ?_) (fun hz => absurd hz (show ¬ _ from by rw [nI_eq (by omega) (by omega)]; exact c2))
      refine r_iconst (v := nI 0) dX0_isSubset_20 (by decide) ?_
      refine r_zret rfl dX0_isSubset_21 (by first | exact Or.inl rfl | exact Or.inr rfl | assumption) ?_
      exact am_is.mk
  · rw [show (decide (nI s &&& (nI p ^^^ (-1)) = 0) && decide (pc8 s = z)) = false by rw [decide_eq_false c1]; rfl]
    refine r_iload_n dX0_isSubset_0 rfl ?_
    refine r_iload_n dX0_isSubset_1 rfl ?_
    refine r_iconst (v := (-1)) dX0_isSubset_2 (by decide) ?_
    refine r_ixor dX0_isSubset_3 ?_
    refine r_iand dX0_isSubset_4 ?_
    refine r_if_ne (tgt := 20) dX0_isSubset_5 (by decide) (fun _ => ?_) (fun hz => absurd hz (show ¬ _ from c1))
    refine r_iconst (v := nI 0) dX0_isSubset_20 (by decide) ?_
    refine r_zret rfl dX0_isSubset_21 (by first | exact Or.inl rfl | exact Or.inr rfl | assumption) ?_
    exact am_is.mk

theorem dX0_smallestKnot_0 : decode cX0_smallestKnot 0 = .ok (.aload_n 1, 1) := by decide +kernel
theorem dX0_smallestKnot_1 : decode cX0_smallestKnot 1 = .ok (.aload_n 2, 1) := by decide +kernel
theorem dX0_smallestKnot_2 : decode cX0_smallestKnot 2 = .ok (.invokevirtual 32, 3) := by decide +kernel
theorem dX0_smallestKnot_5 : decode cX0_smallestKnot 5 = .ok (.istore_n 3, 1) := by decide +kernel
theorem dX0_smallestKnot_6 : decode cX0_smallestKnot 6 = .ok (.iconst 0, 1) := by decide +kernel
theorem dX0_smallestKnot_7 : decode cX0_smallestKnot 7 = .ok (.istore 4, 2) := by decide +kernel
theorem dX0_smallestKnot_9 : decode cX0_smallestKnot 9 = .ok (.iload 4, 2) := by decide +kernel
theorem dX0_smallestKnot_11 : decode cX0_smallestKnot 11 = .ok (.iload_n 3, 1) := by decide +kernel
theorem dX0_smallestKnot_12 : decode cX0_smallestKnot 12 = .ok (.invokestatic 46, 3) := by decide +kernel
theorem dX0_smallestKnot_15 : decode cX0_smallestKnot 15 = .ok (.if_icmp .gt 78, 3) := by decide +kernel
theorem dX0_smallestKnot_18 : decode cX0_smallestKnot 18 = .ok (.iconst 0, 1) := by decide +kernel
theorem dX0_smallestKnot_19 : decode cX0_smallestKnot 19 = .ok (.istore 5, 2) := by decide +kernel
theorem dX0_smallestKnot_21 : decode cX0_smallestKnot 21 = .ok (.iload 5, 2) := by decide +kernel
theorem dX0_smallestKnot_23 : decode cX0_smallestKnot 23 = .ok (.iload_n 3, 1) := by decide +kernel
theorem dX0_smallestKnot_24 : decode cX0_smallestKnot 24 = .ok (.if_icmp .gt 63, 3) := by decide +kernel
theorem dX0_smallestKnot_27 : decode cX0_smallestKnot 27 = .ok (.iload 5, 2) := by decide +kernel
theorem dX0_smallestKnot_29 : decode cX0_smallestKnot 29 = .ok (.iload 4, 2) := by decide +kernel
theorem dX0_smallestKnot_31 : decode cX0_smallestKnot 31 = .ok (.iload_n 3, 1) := by decide +kernel
theorem dX0_smallestKnot_32 : decode cX0_smallestKnot 32 = .ok (.invokestatic 51, 3) := by decide +kernel
theorem dX0_smallestKnot_35 : decode cX0_smallestKnot 35 = .ok (.ifCond .eq 46, 3) := by decide +kernel
theorem dX0_smallestKnot_38 : decode cX0_smallestKnot 38 = .ok (.aload_n 0, 1) := by decide +kernel
theorem dX0_smallestKnot_39 : decode cX0_smallestKnot 39 = .ok (.getfield 12, 3) := by decide +kernel
theorem dX0_smallestKnot_42 : decode cX0_smallestKnot 42 = .ok (.aload_n 1, 1) := by decide +kernel
theorem dX0_smallestKnot_43 : decode cX0_smallestKnot 43 = .ok (.aload_n 2, 1) := by decide +kernel
theorem dX0_smallestKnot_44 : decode cX0_smallestKnot 44 = .ok (.iload 5, 2) := by decide +kernel
theorem dX0_smallestKnot_46 : decode cX0_smallestKnot 46 = .ok (.iconst 0, 1) := by decide +kernel
theorem dX0_smallestKnot_47 : decode cX0_smallestKnot 47 = .ok (.invokevirtual 38, 3) := by decide +kernel
theorem dX0_smallestKnot_50 : decode cX0_smallestKnot 50 = .ok (.aload_n 0, 1) := by decide +kernel
theorem dX0_smallestKnot_51 : decode cX0_smallestKnot 51 = .ok (.getfield 12, 3) := by decide +kernel
theorem dX0_smallestKnot_54 : decode cX0_smallestKnot 54 = .ok (.iconst 1, 1) := by decide +kernel
theorem dX0_smallestKnot_55 : decode cX0_smallestKnot 55 = .ok (.invokevirtual 42, 3) := by decide +kernel
theorem dX0_smallestKnot_58 : decode cX0_smallestKnot 58 = .ok (.istore 6, 2) := by decide +kernel
theorem dX0_smallestKnot_60 : decode cX0_smallestKnot 60 = .ok (.iload 6, 2) := by decide +kernel
theorem dX0_smallestKnot_62 : decode cX0_smallestKnot 62 = .ok (.iconst 1, 1) := by decide +kernel
theorem dX0_smallestKnot_63 : decode cX0_smallestKnot 63 = .ok (.if_icmp .ge 18, 3) := by decide +kernel
theorem dX0_smallestKnot_66 : decode cX0_smallestKnot 66 = .ok (.iload 6, 2) := by decide +kernel
theorem dX0_smallestKnot_68 : decode cX0_smallestKnot 68 = .ok (.bipush (-2), 2) := by decide +kernel
theorem dX0_smallestKnot_70 : decode cX0_smallestKnot 70 = .ok (.if_icmp .ne 8, 3) := by decide +kernel
theorem dX0_smallestKnot_73 : decode cX0_smallestKnot 73 = .ok (.bipush (-2), 2) := by decide +kernel
theorem dX0_smallestKnot_75 : decode cX0_smallestKnot 75 = .ok (.goto 5, 3) := by decide +kernel
theorem dX0_smallestKnot_78 : decode cX0_smallestKnot 78 = .ok (.iload 5, 2) := by decide +kernel
theorem dX0_smallestKnot_80 : decode cX0_smallestKnot 80 = .ok (.ireturn, 1) := by decide +kernel
theorem dX0_smallestKnot_81 : decode cX0_smallestKnot 81 = .ok (.iinc 5 1, 3) := by decide +kernel
theorem dX0_smallestKnot_84 : decode cX0_smallestKnot 84 = .ok (.goto (-63), 3) := by decide +kernel
theorem dX0_smallestKnot_87 : decode cX0_smallestKnot 87 = .ok (.iinc 4 1, 3) := by decide +kernel
theorem dX0_smallestKnot_90 : decode cX0_smallestKnot 90 = .ok (.goto (-81), 3) := by decide +kernel
theorem dX0_smallestKnot_93 : decode cX0_smallestKnot 93 = .ok (.iconst (-1), 1) := by decide +kernel
theorem dX0_smallestKnot_94 : decode cX0_smallestKnot 94 = .ok (.ireturn, 1) := by decide +kernel

theorem sub_bit {p s : Nat} (h : subK p s = true) (k : Nat) (hk : k < 8) (hx : bt (nI s) k = true) : bt (nI p) k = true := by
  unfold subK at h
  have h1 := of_decide_eq_true h
  have h2 : bt (nI s &&& (nI p ^^^ (-1))) k = false := by rw [h1]; exact b_0 k
  rw [b_and, b_xor, hx, b_m1 k (by omega)] at h2
  cases e : bt (nI p) k
  · rw [e] at h2; simp at h2
  · rfl
set_option maxHeartbeats 4000000 in
set_option maxRecDepth 100000 in
theorem wi_X0_smallestKnot (a s b l H M L p : Nat) (lk : Nat → Nat) (rid : Nat → List Nat) (un : Bool) (Lt so de : Nat → Int32) (z : Nat) {n : Nat} {kd : mK} (hH8 : H ≤ 8) (hM20 : M ≤ 20) (hp : p < 256) (hz : z ≤ 8) (post : am_Post) : ∀ (c t : Nat) (z6 : Option Value) (I : mI) (J : mJ) (P : mP), t + c = p + 1 → knH kd I P a s b l H M L lk rid un Lt so de → (∀ k, k < 8 → bt (nI p) k = true → bt (I b 3) k = true) → (∀ v I' J' P', kn1 (RK un Lt L H M lk (tvN so de (nI M) H rid)) (okK p z) c t = some v → qFr s b I I' J J' P P' → post (.inl (some (.int v))) n kd I' J' P') → (kn1 (RK un Lt L H M lk (tvN so de (nI M) H rid)) (okK p z) c t = none → ∀ z6 I' J' P', qFr s b I I' J J' P P' → Ru yX0_smallestKnot.cls cX0_smallestKnot 7 (some .int) yX0_smallestKnot.name 8 (post) 0 0 87 [some (.ref a), some (.ref b), some (.ref l), some (.int (nI p)), some (.int (nI z)), some (.int (nI (p + 1))), z6] [] n kd I' J' P') → Ru yX0_smallestKnot.cls cX0_smallestKnot 7 (some .int) yX0_smallestKnot.name 8 (post) 0 0 21 [some (.ref a), some (.ref b), some (.ref l), some (.int (nI p)), some (.int (nI z)), some (.int (nI t)), z6] [] n kd I J P := by
  intro c
  induction c with
  | zero =>
    intro t z6 I J P ht hk hpb h1 h2
    have ht1 : t = p + 1 := by omega
    subst ht1
    refine r_iload dX0_smallestKnot_21 rfl ?_
    refine r_iload_n dX0_smallestKnot_23 rfl ?_
    refine r_icmp_gt (tgt := 87) dX0_smallestKnot_24 (by decide) (fun _ => ?_) (fun hz => absurd (show _ from (by rw [nI_ltI (by omega) (by omega)]; omega)) hz)
    exact h2 rfl z6 I J P qFr.rf
  | succ c ih =>
    intro t z6 I J P ht hk hpb h1 h2
    have hk' := hk
    obtain ⟨⟨k0, k1, k9⟩, k2, k3, k4, k5, k6, k7, k8⟩ := hk
    unfold kn1 at h1 h2
    by_cases c1 : okK p z t = true
    · have hsub : subK p t = true := by unfold okK at c1; rw [Bool.and_eq_true] at c1; exact c1.1
      by_cases c2 : (RK un Lt L H M lk (tvN so de (nI M) H rid)) t < nI 1
      · rw [if_pos ⟨c1, c2⟩] at h1
        by_cases c3 : (RK un Lt L H M lk (tvN so de (nI M) H rid)) t = -2
        · rw [if_pos c3] at h1
          refine r_iload dX0_smallestKnot_21 rfl ?_
          refine r_iload_n dX0_smallestKnot_23 rfl ?_
          refine r_icmp_gt (tgt := 87) dX0_smallestKnot_24 (by decide) (fun hz => absurd hz (show ¬ _ from (by rw [nI_ltI (by omega) (by omega)]; omega))) (fun _ => ?_)
          refine r_iload dX0_smallestKnot_27 rfl ?_
          refine r_iload dX0_smallestKnot_29 rfl ?_
          refine r_iload_n dX0_smallestKnot_31 rfl ?_
          refine r_statE (c_X0_isSubset p z t (by omega) (by omega)) lk_X0_51 mc_X0_isSubset dX0_smallestKnot_32 (by decide) rfl rfl (Nat.le_of_ble_eq_true rfl) ?_
          refine r_if_eq (tgt := 81) dX0_smallestKnot_35 (by decide) (fun hz => absurd hz (show ¬ _ from by rw [c1]; decide)) (fun _ => ?_)
          refine r_aload_n dX0_smallestKnot_38 rfl ?_
          refine r_getR dX0_smallestKnot_39 fl_X0_12 rfl k0 k1 ?_
          refine r_aload_n dX0_smallestKnot_42 rfl ?_
          refine r_aload_n dX0_smallestKnot_43 rfl ?_
          refine r_iload dX0_smallestKnot_44 rfl ?_
          refine r_iconst (v := nI 0) dX0_smallestKnot_46 (by decide) ?_
          refine r_virtV (c_setUpN s b l H M L (nI t) (nI 0) lk rid un Lt so de k2 k3 k4 k5 k6 k7 hH8 k8) lk_X0_38 mc_X6_setUp dX0_smallestKnot_47 k4.1 (by decide) rfl rfl (Nat.le_of_ble_eq_true rfl) ?_
          refine r_aload_n dX0_smallestKnot_50 rfl ?_
          refine r_getR dX0_smallestKnot_51 fl_X0_12 rfl k0 (by unfold suP; rw [am_up_n _ _ k9]; exact k1) ?_
          refine r_iconst (v := nI 1) dX0_smallestKnot_54 (by decide) ?_
          have hk2 := resK_eq (un := un) (Lt := Lt) (L := L) (H := H) (M := M) (lk := lk) (tv := tvN so de (nI M) H rid) t hH8 hM20
          refine r_virt (c_seekN s b l H M L (nI t) (nI 0) lk rid un Lt so de 1 _ k2 k3 k4 k5 k6 k7 hH8 k8 hM20 (by decide) (by decide) (fun k hk hx => hpb k hk (sub_bit hsub k hk hx)) hk2) lk_X0_42 mc_X6_seek dX0_smallestKnot_55 k4.1 (by decide) rfl rfl (Nat.le_of_ble_eq_true rfl) (Nat.le_of_eq (Nat.zero_add _)) (Nat.le_of_eq (Nat.zero_add _)) (fun _ _ _ _ _ _ h => nomatch h.1) ?_
          rintro v n' kd' I' J' P' ⟨h0, rfl, rfl, hfr2, -⟩
          cases h0
          simp only [Option.toList, List.cons_append, List.nil_append]
          change RuZ _ _ _ _ _ _ _ _ _ _ _ _ (.int ((RK un Lt L H M lk (tvN so de (nI M) H rid)) t) :: []) _ _ _ _ _
          refine r_istore dX0_smallestKnot_58 (by decide) ?_
          refine r_iload dX0_smallestKnot_60 rfl ?_
          refine r_iconst (v := nI 1) dX0_smallestKnot_62 (by decide) ?_
          refine r_icmp_ge (tgt := 81) dX0_smallestKnot_63 (by decide) (fun hz => absurd hz (show ¬ _ from Int32.not_le.mpr c2)) (fun _ => ?_)
          refine r_iload dX0_smallestKnot_66 rfl ?_
          refine r_bipush (v := (-2)) dX0_smallestKnot_68 (by decide) ?_
          refine r_icmp_ne (tgt := 78) dX0_smallestKnot_70 (by decide) (fun hz => absurd (show _ from c3) hz) (fun _ => ?_)
          refine r_bipush (v := (-2)) dX0_smallestKnot_73 (by decide) ?_
          refine r_goto (tgt := 80) dX0_smallestKnot_75 (by decide) ?_
          refine r_iret rfl dX0_smallestKnot_80 ?_
          exact h1 _ _ _ _ rfl hfr2
        · rw [if_neg c3] at h1
          refine r_iload dX0_smallestKnot_21 rfl ?_
          refine r_iload_n dX0_smallestKnot_23 rfl ?_
          refine r_icmp_gt (tgt := 87) dX0_smallestKnot_24 (by decide) (fun hz => absurd hz (show ¬ _ from (by rw [nI_ltI (by omega) (by omega)]; omega))) (fun _ => ?_)
          refine r_iload dX0_smallestKnot_27 rfl ?_
          refine r_iload dX0_smallestKnot_29 rfl ?_
          refine r_iload_n dX0_smallestKnot_31 rfl ?_
          refine r_statE (c_X0_isSubset p z t (by omega) (by omega)) lk_X0_51 mc_X0_isSubset dX0_smallestKnot_32 (by decide) rfl rfl (Nat.le_of_ble_eq_true rfl) ?_
          refine r_if_eq (tgt := 81) dX0_smallestKnot_35 (by decide) (fun hz => absurd hz (show ¬ _ from by rw [c1]; decide)) (fun _ => ?_)
          refine r_aload_n dX0_smallestKnot_38 rfl ?_
          refine r_getR dX0_smallestKnot_39 fl_X0_12 rfl k0 k1 ?_
          refine r_aload_n dX0_smallestKnot_42 rfl ?_
          refine r_aload_n dX0_smallestKnot_43 rfl ?_
          refine r_iload dX0_smallestKnot_44 rfl ?_
          refine r_iconst (v := nI 0) dX0_smallestKnot_46 (by decide) ?_
          refine r_virtV (c_setUpN s b l H M L (nI t) (nI 0) lk rid un Lt so de k2 k3 k4 k5 k6 k7 hH8 k8) lk_X0_38 mc_X6_setUp dX0_smallestKnot_47 k4.1 (by decide) rfl rfl (Nat.le_of_ble_eq_true rfl) ?_
          refine r_aload_n dX0_smallestKnot_50 rfl ?_
          refine r_getR dX0_smallestKnot_51 fl_X0_12 rfl k0 (by unfold suP; rw [am_up_n _ _ k9]; exact k1) ?_
          refine r_iconst (v := nI 1) dX0_smallestKnot_54 (by decide) ?_
          have hk2 := resK_eq (un := un) (Lt := Lt) (L := L) (H := H) (M := M) (lk := lk) (tv := tvN so de (nI M) H rid) t hH8 hM20
          refine r_virt (c_seekN s b l H M L (nI t) (nI 0) lk rid un Lt so de 1 _ k2 k3 k4 k5 k6 k7 hH8 k8 hM20 (by decide) (by decide) (fun k hk hx => hpb k hk (sub_bit hsub k hk hx)) hk2) lk_X0_42 mc_X6_seek dX0_smallestKnot_55 k4.1 (by decide) rfl rfl (Nat.le_of_ble_eq_true rfl) (Nat.le_of_eq (Nat.zero_add _)) (Nat.le_of_eq (Nat.zero_add _)) (fun _ _ _ _ _ _ h => nomatch h.1) ?_
          rintro v n' kd' I' J' P' ⟨h0, rfl, rfl, hfr2, -⟩
          cases h0
          simp only [Option.toList, List.cons_append, List.nil_append]
          change RuZ _ _ _ _ _ _ _ _ _ _ _ _ (.int ((RK un Lt L H M lk (tvN so de (nI M) H rid)) t) :: []) _ _ _ _ _
          refine r_istore dX0_smallestKnot_58 (by decide) ?_
          refine r_iload dX0_smallestKnot_60 rfl ?_
          refine r_iconst (v := nI 1) dX0_smallestKnot_62 (by decide) ?_
          refine r_icmp_ge (tgt := 81) dX0_smallestKnot_63 (by decide) (fun hz => absurd hz (show ¬ _ from Int32.not_le.mpr c2)) (fun _ => ?_)
          refine r_iload dX0_smallestKnot_66 rfl ?_
          refine r_bipush (v := (-2)) dX0_smallestKnot_68 (by decide) ?_
          refine r_icmp_ne (tgt := 78) dX0_smallestKnot_70 (by decide) (fun _ => ?_) (fun hz => absurd hz (show ¬ _ from c3))
          refine r_iload dX0_smallestKnot_78 rfl ?_
          refine r_iret rfl dX0_smallestKnot_80 ?_
          exact h1 _ _ _ _ rfl hfr2
      · rw [if_neg (fun y => c2 y.2)] at h1 h2
        refine r_iload dX0_smallestKnot_21 rfl ?_
        refine r_iload_n dX0_smallestKnot_23 rfl ?_
        refine r_icmp_gt (tgt := 87) dX0_smallestKnot_24 (by decide) (fun hz => absurd hz (show ¬ _ from (by rw [nI_ltI (by omega) (by omega)]; omega))) (fun _ => ?_)
        refine r_iload dX0_smallestKnot_27 rfl ?_
        refine r_iload dX0_smallestKnot_29 rfl ?_
        refine r_iload_n dX0_smallestKnot_31 rfl ?_
        refine r_statE (c_X0_isSubset p z t (by omega) (by omega)) lk_X0_51 mc_X0_isSubset dX0_smallestKnot_32 (by decide) rfl rfl (Nat.le_of_ble_eq_true rfl) ?_
        refine r_if_eq (tgt := 81) dX0_smallestKnot_35 (by decide) (fun hz => absurd hz (show ¬ _ from by rw [c1]; decide)) (fun _ => ?_)
        refine r_aload_n dX0_smallestKnot_38 rfl ?_
        refine r_getR dX0_smallestKnot_39 fl_X0_12 rfl k0 k1 ?_
        refine r_aload_n dX0_smallestKnot_42 rfl ?_
        refine r_aload_n dX0_smallestKnot_43 rfl ?_
        refine r_iload dX0_smallestKnot_44 rfl ?_
        refine r_iconst (v := nI 0) dX0_smallestKnot_46 (by decide) ?_
        refine r_virtV (c_setUpN s b l H M L (nI t) (nI 0) lk rid un Lt so de k2 k3 k4 k5 k6 k7 hH8 k8) lk_X0_38 mc_X6_setUp dX0_smallestKnot_47 k4.1 (by decide) rfl rfl (Nat.le_of_ble_eq_true rfl) ?_
        refine r_aload_n dX0_smallestKnot_50 rfl ?_
        refine r_getR dX0_smallestKnot_51 fl_X0_12 rfl k0 (by unfold suP; rw [am_up_n _ _ k9]; exact k1) ?_
        refine r_iconst (v := nI 1) dX0_smallestKnot_54 (by decide) ?_
        have hk2 := resK_eq (un := un) (Lt := Lt) (L := L) (H := H) (M := M) (lk := lk) (tv := tvN so de (nI M) H rid) t hH8 hM20
        refine r_virt (c_seekN s b l H M L (nI t) (nI 0) lk rid un Lt so de 1 _ k2 k3 k4 k5 k6 k7 hH8 k8 hM20 (by decide) (by decide) (fun k hk hx => hpb k hk (sub_bit hsub k hk hx)) hk2) lk_X0_42 mc_X6_seek dX0_smallestKnot_55 k4.1 (by decide) rfl rfl (Nat.le_of_ble_eq_true rfl) (Nat.le_of_eq (Nat.zero_add _)) (Nat.le_of_eq (Nat.zero_add _)) (fun _ _ _ _ _ _ h => nomatch h.1) ?_
        rintro v n' kd' I' J' P' ⟨h0, rfl, rfl, hfr2, -⟩
        cases h0
        simp only [Option.toList, List.cons_append, List.nil_append]
        change RuZ _ _ _ _ _ _ _ _ _ _ _ _ (.int ((RK un Lt L H M lk (tvN so de (nI M) H rid)) t) :: []) _ _ _ _ _
        refine r_istore dX0_smallestKnot_58 (by decide) ?_
        refine r_iload dX0_smallestKnot_60 rfl ?_
        refine r_iconst (v := nI 1) dX0_smallestKnot_62 (by decide) ?_
        refine r_icmp_ge (tgt := 81) dX0_smallestKnot_63 (by decide) (fun _ => ?_) (fun hz => absurd (show _ from Int32.not_lt.mp c2) hz)
        refine r_iinc (v := nI (t + 1)) dX0_smallestKnot_81 rfl (nI_inc t) ?_
        refine r_goto (tgt := 21) dX0_smallestKnot_84 (by decide) ?_
        exact ih (t + 1) _ I' J' P' (by omega) (hk'.fr hfr2) (fun k hk hx => by rw [hfr2.1 b (by omega) (by omega)]; exact hpb k hk hx) (fun v I2 J2 P2 hv hf => h1 v I2 J2 P2 hv (hfr2.tr hf)) (fun hv z6 I2 J2 P2 hf => h2 hv z6 I2 J2 P2 (hfr2.tr hf))
    · rw [if_neg (fun y => c1 y.1)] at h1 h2
      have c1' : okK p z t = false := by simpa using c1
      refine r_iload dX0_smallestKnot_21 rfl ?_
      refine r_iload_n dX0_smallestKnot_23 rfl ?_
      refine r_icmp_gt (tgt := 87) dX0_smallestKnot_24 (by decide) (fun hz => absurd hz (show ¬ _ from (by rw [nI_ltI (by omega) (by omega)]; omega))) (fun _ => ?_)
      refine r_iload dX0_smallestKnot_27 rfl ?_
      refine r_iload dX0_smallestKnot_29 rfl ?_
      refine r_iload_n dX0_smallestKnot_31 rfl ?_
      refine r_statE (c_X0_isSubset p z t (by omega) (by omega)) lk_X0_51 mc_X0_isSubset dX0_smallestKnot_32 (by decide) rfl rfl (Nat.le_of_ble_eq_true rfl) ?_
      refine r_if_eq (tgt := 81) dX0_smallestKnot_35 (by decide) (fun _ => ?_) (fun hz => absurd (show _ from by rw [c1']; rfl) hz)
      refine r_iinc (v := nI (t + 1)) dX0_smallestKnot_81 rfl (nI_inc t) ?_
      refine r_goto (tgt := 21) dX0_smallestKnot_84 (by decide) ?_
      exact ih (t + 1) z6 I J P (by omega) hk' hpb h1 h2

set_option maxHeartbeats 4000000 in
set_option maxRecDepth 100000 in
theorem wo_X0_smallestKnot (a s b l H M L p : Nat) (lk : Nat → Nat) (rid : Nat → List Nat) (un : Bool) (Lt so de : Nat → Int32) {n : Nat} {kd : mK} (hH8 : H ≤ 8) (hM20 : M ≤ 20) (hp : p < 256) : ∀ (c z : Nat) (z5 z6 : Option Value) (I : mI) (J : mJ) (P : mP), z + c = pc8 p + 1 → knH kd I P a s b l H M L lk rid un Lt so de → (∀ k, k < 8 → bt (nI p) k = true → bt (I b 3) k = true) → Ru yX0_smallestKnot.cls cX0_smallestKnot 7 (some .int) yX0_smallestKnot.name 8 (fun y n' kd' I' J' P' => y = .inl (some (.int (kn2 (RK un Lt L H M lk (tvN so de (nI M) H rid)) p (p + 1) c z))) ∧ n' = n ∧ kd' = kd ∧ qFr s b I I' J J' P P') 0 0 9 [some (.ref a), some (.ref b), some (.ref l), some (.int (nI p)), some (.int (nI z)), z5, z6] [] n kd I J P := by
  have h8 := pc8_le p hp
  intro c
  induction c with
  | zero =>
    intro z z5 z6 I J P hz hk hpb
    unfold kn2
    refine r_iload dX0_smallestKnot_9 rfl ?_
    refine r_iload_n dX0_smallestKnot_11 rfl ?_
    refine r_statE (c_J6_bitCount_0f7a4 (nI p)) lk_X0_46 mc_J6_bitCount_0f7a4 dX0_smallestKnot_12 (by decide) rfl rfl (Nat.le_of_ble_eq_true rfl) ?_
    rw [bc_pc p hp]
    refine r_icmp_gt (tgt := 93) dX0_smallestKnot_15 (by decide) (fun _ => ?_) (fun hz => absurd (show _ from (by rw [nI_ltI (by omega) (by omega)]; omega)) hz)
    refine r_iconst (v := (-1)) dX0_smallestKnot_93 (by decide) ?_
    refine r_iret rfl dX0_smallestKnot_94 ?_
    exact ⟨rfl, rfl, rfl, qFr.rf⟩
  | succ c ih =>
    intro z z5 z6 I J P hz hk hpb
    unfold kn2
    refine r_iload dX0_smallestKnot_9 rfl ?_
    refine r_iload_n dX0_smallestKnot_11 rfl ?_
    refine r_statE (c_J6_bitCount_0f7a4 (nI p)) lk_X0_46 mc_J6_bitCount_0f7a4 dX0_smallestKnot_12 (by decide) rfl rfl (Nat.le_of_ble_eq_true rfl) ?_
    rw [bc_pc p hp]
    refine r_icmp_gt (tgt := 93) dX0_smallestKnot_15 (by decide) (fun hz => absurd hz (show ¬ _ from (by rw [nI_ltI (by omega) (by omega)]; omega))) (fun _ => ?_)
    refine r_iconst (v := nI 0) dX0_smallestKnot_18 (by decide) ?_
    refine r_istore dX0_smallestKnot_19 (by decide) ?_
    refine wi_X0_smallestKnot a s b l H M L p lk rid un Lt so de z hH8 hM20 hp (by omega) _ (p + 1) 0 z6 I J P (by omega) hk hpb (fun v I' J' P' hv hf => ?_) (fun hv z6 I' J' P' hf => ?_)
    · rw [hv]
      exact ⟨rfl, rfl, rfl, hf⟩
    · rw [hv]
      have hn := ih (z + 1) (some (.int (nI (p + 1)))) z6 I' J' P' (by omega) (hk.fr hf) (fun k hk2 hx => by rw [hf.1 b (by have := hk.2.2.2.2.1; have := hk.2.2.2.2.2.1; omega) (by omega)]; exact hpb k hk2 hx)
      refine r_iinc (v := nI (z + 1)) dX0_smallestKnot_87 rfl (nI_inc z) ?_
      refine r_goto (tgt := 9) dX0_smallestKnot_90 (by decide) ?_
      exact RuZ.mono hn (fun y n' kd' I2 J2 P2 h => ⟨h.1, h.2.1, h.2.2.1, hf.tr h.2.2.2⟩)

set_option maxHeartbeats 4000000 in
set_option maxRecDepth 100000 in
theorem c_X0_smallestKnot (a s b l H M L p : Nat) (lk : Nat → Nat) (rid : Nat → List Nat) (un : Bool) (Lt so de : Nat → Int32) {n : Nat} {kd : mK} {I : mI} {J : mJ} {P : mP} (hH8 : H ≤ 8) (hM20 : M ≤ 20) (hp : p < 256) (hk : knH kd I P a s b l H M L lk rid un Lt so de) (hsp : I b 3 &&& (I l 2 ^^^ (-1)) = nI p) : Ct yX0_smallestKnot cX0_smallestKnot 7 (some .int) 8 0 0 [.ref a, .ref b, .ref l] n kd I J P (fun y n' kd' I' J' P' => y = .inl (some (.int (kn2 (RK un Lt L H M lk (tvN so de (nI M) H rid)) p (p + 1) (pc8 p + 1) 0))) ∧ n' = n ∧ kd' = kd ∧ qFr s b I I' J J' P P') := by
  have hk' := hk
  obtain ⟨⟨k0, k1, k9⟩, k2, k3, k4, k5, k6, k7, k8⟩ := hk
  refine ct_of 4 (by decide +kernel) (Nat.le_of_ble_eq_true rfl) rfl ?_
  refine r_aload_n dX0_smallestKnot_0 rfl ?_
  refine r_aload_n dX0_smallestKnot_1 rfl ?_
  refine r_virtE (c_X7_speaking b l k2 k3) lk_X0_32 mc_X7_speaking dX0_smallestKnot_2 k2.1 (by decide) rfl rfl (Nat.le_of_ble_eq_true rfl) ?_
  rw [hsp]
  refine r_istore_n dX0_smallestKnot_5 (by decide) ?_
  refine r_iconst (v := nI 0) dX0_smallestKnot_6 (by decide) ?_
  refine r_istore dX0_smallestKnot_7 (by decide) ?_
  exact wo_X0_smallestKnot a s b l H M L p lk rid un Lt so de hH8 hM20 hp (pc8 p + 1) 0 none none I J P (by omega) hk' (fun k hk hx => by rw [← hsp, b_and, Bool.and_eq_true] at hx; exact hx.1)

