/-! BUILD: the reference's new riddle, and a search with it -/
def frD (I : mI) (m H : Nat) (q : List Nat) : Prop := (∃ c, c < 10000 ∧ q = nr1 H c ∧ I m 55 = nI 0 ∧ I m 57 = nI c) ∨ ∃ k c a, k < H ∧ c < 10000 ∧ q = nr2 H k c a ∧ I m 56 = nI k ∧ I m 57 = nI c ∧ ((a = 20004 ∧ I m 55 = nI 1) ∨ (a = 20006 ∧ I m 55 = nI 2))
theorem lastI_1 (x : Int32) : lastI [x] = x := rfl
theorem nI_tf {p : Prop} [Decidable p] : (!decide ((if p then nI 1 else nI 0) = 0)) = decide p := by
  by_cases q : p
  · rw [if_pos q, decide_eq_true q]; rfl
  · rw [if_neg q, decide_eq_false q]; rfl
theorem tvN_1 {so de : Nat → Int32} {mo : Int32} {H c : Nat} {cs : Nat → List Nat} {N : Nat → Nat} (hH : H < 8) (hc : c < 10000) (hq : cs H = nr1 H c) : tvN so de mo (H + 1) cs N H = decide (nI (N H) = nI c) := by
  unfold tvN
  rw [hq]
  show (!decide (lastI (evs _ [10000 + H, c, 20009] []) = 0)) = _
  have e1 : ∀ f st, ev1 f (10000 + H) st = f (10000 + H) :: st := fun f st => by unfold ev1; rw [if_pos (by omega), if_neg (by omega)]
  have e2 : ∀ f st, ev1 f c st = nI c :: st := fun f st => by unfold ev1; rw [if_pos (by omega), if_pos hc]
  have e3 : ∀ f x y st, ev1 f 20009 (y :: x :: st) = (if x = y then nI 1 else nI 0) :: st := fun f x y st => rfl
  unfold evs evs evs evs
  rw [e1, e2, e3, lastI_1, nI_tf]
  unfold opN
  rw [if_pos (by omega), if_pos (by omega), show 10000 + H - 10000 = H by omega]
theorem tvN_2 {so de : Nat → Int32} {mo : Int32} {H k c : Nat} {cs : Nat → List Nat} {N : Nat → Nat} (hH : H < 8) (hk : k < H) (hc : c < 10000) (hq : cs H = nr2 H k c 20004) : tvN so de mo (H + 1) cs N H = decide (nI (N H) = nI (N k) + nI c) := by
  unfold tvN
  rw [hq]
  show (!decide (lastI (evs _ [10000 + H, 10000 + k, c, 20004, 20009] []) = 0)) = _
  have e1 : ∀ f x st, x < 8 → ev1 f (10000 + x) st = f (10000 + x) :: st := fun f x st hx => by unfold ev1; rw [if_pos (by omega), if_neg (by omega)]
  have e2 : ∀ f st, ev1 f c st = nI c :: st := fun f st => by unfold ev1; rw [if_pos (by omega), if_pos hc]
  have e3 : ∀ f x y st, ev1 f 20009 (y :: x :: st) = (if x = y then nI 1 else nI 0) :: st := fun f x y st => rfl
  have e4 : ∀ f x y st, ev1 f 20004 (y :: x :: st) = (x + y) :: st := fun f x y st => rfl
  unfold evs evs evs evs evs evs
  rw [e1 _ _ _ hH, e1 _ _ _ (by omega), e2, e4, e3, lastI_1, nI_tf]
  unfold opN
  rw [if_pos (by omega), if_pos (by omega), show 10000 + H - 10000 = H by omega, if_pos (by omega), if_pos (by omega), show 10000 + k - 10000 = k by omega]
theorem tvN_3 {so de : Nat → Int32} {mo : Int32} {H k c : Nat} {cs : Nat → List Nat} {N : Nat → Nat} (hH : H < 8) (hk : k < H) (hc : c < 10000) (hq : cs H = nr2 H k c 20006) : tvN so de mo (H + 1) cs N H = decide (nI (N H) = nI (N k) * nI c) := by
  unfold tvN
  rw [hq]
  show (!decide (lastI (evs _ [10000 + H, 10000 + k, c, 20006, 20009] []) = 0)) = _
  have e1 : ∀ f x st, x < 8 → ev1 f (10000 + x) st = f (10000 + x) :: st := fun f x st hx => by unfold ev1; rw [if_pos (by omega), if_neg (by omega)]
  have e2 : ∀ f st, ev1 f c st = nI c :: st := fun f st => by unfold ev1; rw [if_pos (by omega), if_pos hc]
  have e3 : ∀ f x y st, ev1 f 20009 (y :: x :: st) = (if x = y then nI 1 else nI 0) :: st := fun f x y st => rfl
  have e4 : ∀ f x y st, ev1 f 20006 (y :: x :: st) = (x * y) :: st := fun f x y st => rfl
  unfold evs evs evs evs evs evs
  rw [e1 _ _ _ hH, e1 _ _ _ (by omega), e2, e4, e3, lastI_1, nI_tf]
  unfold opN
  rw [if_pos (by omega), if_pos (by omega), show 10000 + H - 10000 = H by omega, if_pos (by omega), if_pos (by omega), show 10000 + k - 10000 = k by omega]
theorem am_sc.mk2 {v : Option Value} {id n : Nat} {kd : mK} {I : mI} {J : mJ} {P : mP} : am_sc v id n kd I J P (.inl v) n kd I J P := ⟨I id, rfl, rfl, rfl, by rw [am_up_id], rfl, rfl⟩

set_option maxHeartbeats 4000000 in
set_option maxRecDepth 100000 in
theorem c_trueF (m H : Nat) (q : List Nat) (cs : Nat → List Nat) (so de : Nat → Int32) (mo : Int32) (N : Nat → Nat) {n : Nat} {kd : mK} {I : mI} {J : mJ} {P : mP} (hM : kM kd P m) (hH7 : H < 8) (h54 : I m 54 = nI H) (hR : ∀ j, j ≤ H → I (m + 25) j = nI (N j)) (hcs : cs H = q) (hF : frD I m H q) : Ct yX10_isTrue cX10_isTrue 5 (some .boolean) 2 0 0 [.ref m, .int (nI H)] n kd I J P (am_sc (some (.int (bz (tvN so de mo (H + 1) cs N H)))) (m + 26) n kd I J P) := by
  refine ct_of 3 (by decide +kernel) (Nat.le_of_ble_eq_true rfl) rfl ?_
  rcases hF with ⟨c, hc, rfl, hk5, hk7⟩ | ⟨k, c, a, hk, hc, rfl, hk6, hk7, ⟨rfl, hk5⟩ | ⟨rfl, hk5⟩⟩
  · rw [tvN_1 hH7 hc hcs]
    by_cases q : nI (N H) = nI c
    · skip
      refine r_iload_n dX10_isTrue_0 rfl ?_
      refine r_aload_n dX10_isTrue_1 rfl ?_
      refine r_getI dX10_isTrue_2 fl_X10_99 rfl (kM_0 hM) ?_
      rw [h54]
      refine r_icmp_ne (tgt := 76) dX10_isTrue_5 (by decide) (fun hz => absurd (show _ from rfl) hz) (fun _ => ?_)
      refine r_aload_n dX10_isTrue_8 rfl ?_
      refine r_getR dX10_isTrue_9 fl_X10_90 rfl (kM_0 hM) (pM_49 hM) ?_
      refine r_iload_n dX10_isTrue_12 rfl ?_
      refine r_iald dX10_isTrue_13 (aM_49 hM) (nI_in8 8 (by omega) (by decide)) (nI_clamp (by omega)) ?_
      rw [hR H (Nat.le_refl H)]
      refine r_aload_n dX10_isTrue_14 rfl ?_
      refine r_getI dX10_isTrue_15 fl_X10_393 rfl (kM_0 hM) ?_
      rw [hk5]
      refine r_if_ne (tgt := 28) dX10_isTrue_18 (by decide) (fun hz => absurd (show _ from rfl) hz) (fun _ => ?_)
      refine r_aload_n dX10_isTrue_21 rfl ?_
      refine r_getI dX10_isTrue_22 fl_X10_396 rfl (kM_0 hM) ?_
      rw [hk7]
      refine r_goto (tgt := 67) dX10_isTrue_25 (by decide) ?_
      refine r_icmp_ne (tgt := 74) dX10_isTrue_67 (by decide) (fun hz => absurd (show _ from q) hz) (fun _ => ?_)
      refine r_iconst (v := nI 1) dX10_isTrue_70 (by decide) ?_
      refine r_goto (tgt := 75) dX10_isTrue_71 (by decide) ?_
      refine r_zret rfl dX10_isTrue_75 (by first | exact Or.inl rfl | exact Or.inr rfl | assumption) ?_
      rw [decide_eq_true q]
      exact am_sc.mk2
    · skip
      refine r_iload_n dX10_isTrue_0 rfl ?_
      refine r_aload_n dX10_isTrue_1 rfl ?_
      refine r_getI dX10_isTrue_2 fl_X10_99 rfl (kM_0 hM) ?_
      rw [h54]
      refine r_icmp_ne (tgt := 76) dX10_isTrue_5 (by decide) (fun hz => absurd (show _ from rfl) hz) (fun _ => ?_)
      refine r_aload_n dX10_isTrue_8 rfl ?_
      refine r_getR dX10_isTrue_9 fl_X10_90 rfl (kM_0 hM) (pM_49 hM) ?_
      refine r_iload_n dX10_isTrue_12 rfl ?_
      refine r_iald dX10_isTrue_13 (aM_49 hM) (nI_in8 8 (by omega) (by decide)) (nI_clamp (by omega)) ?_
      rw [hR H (Nat.le_refl H)]
      refine r_aload_n dX10_isTrue_14 rfl ?_
      refine r_getI dX10_isTrue_15 fl_X10_393 rfl (kM_0 hM) ?_
      rw [hk5]
      refine r_if_ne (tgt := 28) dX10_isTrue_18 (by decide) (fun hz => absurd (show _ from rfl) hz) (fun _ => ?_)
      refine r_aload_n dX10_isTrue_21 rfl ?_
      refine r_getI dX10_isTrue_22 fl_X10_396 rfl (kM_0 hM) ?_
      rw [hk7]
      refine r_goto (tgt := 67) dX10_isTrue_25 (by decide) ?_
      refine r_icmp_ne (tgt := 74) dX10_isTrue_67 (by decide) (fun _ => ?_) (fun hz => absurd hz (show ¬ _ from q))
      refine r_iconst (v := nI 0) dX10_isTrue_74 (by decide) ?_
      refine r_zret rfl dX10_isTrue_75 (by first | exact Or.inl rfl | exact Or.inr rfl | assumption) ?_
      rw [decide_eq_false q]
      exact am_sc.mk2
  · rw [tvN_2 hH7 hk hc hcs]
    by_cases q : nI (N H) = nI (N k) + nI c
    · skip
      refine r_iload_n dX10_isTrue_0 rfl ?_
      refine r_aload_n dX10_isTrue_1 rfl ?_
      refine r_getI dX10_isTrue_2 fl_X10_99 rfl (kM_0 hM) ?_
      rw [h54]
      refine r_icmp_ne (tgt := 76) dX10_isTrue_5 (by decide) (fun hz => absurd (show _ from rfl) hz) (fun _ => ?_)
      refine r_aload_n dX10_isTrue_8 rfl ?_
      refine r_getR dX10_isTrue_9 fl_X10_90 rfl (kM_0 hM) (pM_49 hM) ?_
      refine r_iload_n dX10_isTrue_12 rfl ?_
      refine r_iald dX10_isTrue_13 (aM_49 hM) (nI_in8 8 (by omega) (by decide)) (nI_clamp (by omega)) ?_
      rw [hR H (Nat.le_refl H)]
      refine r_aload_n dX10_isTrue_14 rfl ?_
      refine r_getI dX10_isTrue_15 fl_X10_393 rfl (kM_0 hM) ?_
      rw [hk5]
      refine r_if_ne (tgt := 28) dX10_isTrue_18 (by decide) (fun _ => ?_) (fun hz => absurd hz (show ¬ _ from (by decide)))
      refine r_aload_n dX10_isTrue_28 rfl ?_
      refine r_getI dX10_isTrue_29 fl_X10_393 rfl (kM_0 hM) ?_
      rw [hk5]
      refine r_iconst (v := nI 1) dX10_isTrue_32 (by decide) ?_
      refine r_icmp_ne (tgt := 53) dX10_isTrue_33 (by decide) (fun hz => absurd (show _ from rfl) hz) (fun _ => ?_)
      refine r_aload_n dX10_isTrue_36 rfl ?_
      refine r_getR dX10_isTrue_37 fl_X10_90 rfl (kM_0 hM) (pM_49 hM) ?_
      refine r_aload_n dX10_isTrue_40 rfl ?_
      refine r_getI dX10_isTrue_41 fl_X10_399 rfl (kM_0 hM) ?_
      rw [hk6]
      refine r_iald dX10_isTrue_44 (aM_49 hM) (nI_in8 8 (by omega) (by decide)) (nI_clamp (by omega)) ?_
      rw [hR k (by omega)]
      refine r_aload_n dX10_isTrue_45 rfl ?_
      refine r_getI dX10_isTrue_46 fl_X10_396 rfl (kM_0 hM) ?_
      rw [hk7]
      refine r_iadd dX10_isTrue_49 ?_
      refine r_goto (tgt := 67) dX10_isTrue_50 (by decide) ?_
      refine r_icmp_ne (tgt := 74) dX10_isTrue_67 (by decide) (fun hz => absurd (show _ from q) hz) (fun _ => ?_)
      refine r_iconst (v := nI 1) dX10_isTrue_70 (by decide) ?_
      refine r_goto (tgt := 75) dX10_isTrue_71 (by decide) ?_
      refine r_zret rfl dX10_isTrue_75 (by first | exact Or.inl rfl | exact Or.inr rfl | assumption) ?_
      rw [decide_eq_true q]
      exact am_sc.mk2
    · skip
      refine r_iload_n dX10_isTrue_0 rfl ?_
      refine r_aload_n dX10_isTrue_1 rfl ?_
      refine r_getI dX10_isTrue_2 fl_X10_99 rfl (kM_0 hM) ?_
      rw [h54]
      refine r_icmp_ne (tgt := 76) dX10_isTrue_5 (by decide) (fun hz => absurd (show _ from rfl) hz) (fun _ => ?_)
      refine r_aload_n dX10_isTrue_8 rfl ?_
      refine r_getR dX10_isTrue_9 fl_X10_90 rfl (kM_0 hM) (pM_49 hM) ?_
      refine r_iload_n dX10_isTrue_12 rfl ?_
      refine r_iald dX10_isTrue_13 (aM_49 hM) (nI_in8 8 (by omega) (by decide)) (nI_clamp (by omega)) ?_
      rw [hR H (Nat.le_refl H)]
      refine r_aload_n dX10_isTrue_14 rfl ?_
      refine r_getI dX10_isTrue_15 fl_X10_393 rfl (kM_0 hM) ?_
      rw [hk5]
      refine r_if_ne (tgt := 28) dX10_isTrue_18 (by decide) (fun _ => ?_) (fun hz => absurd hz (show ¬ _ from (by decide)))
      refine r_aload_n dX10_isTrue_28 rfl ?_
      refine r_getI dX10_isTrue_29 fl_X10_393 rfl (kM_0 hM) ?_
      rw [hk5]
      refine r_iconst (v := nI 1) dX10_isTrue_32 (by decide) ?_
      refine r_icmp_ne (tgt := 53) dX10_isTrue_33 (by decide) (fun hz => absurd (show _ from rfl) hz) (fun _ => ?_)
      refine r_aload_n dX10_isTrue_36 rfl ?_
      refine r_getR dX10_isTrue_37 fl_X10_90 rfl (kM_0 hM) (pM_49 hM) ?_
      refine r_aload_n dX10_isTrue_40 rfl ?_
      refine r_getI dX10_isTrue_41 fl_X10_399 rfl (kM_0 hM) ?_
      rw [hk6]
      refine r_iald dX10_isTrue_44 (aM_49 hM) (nI_in8 8 (by omega) (by decide)) (nI_clamp (by omega)) ?_
      rw [hR k (by omega)]
      refine r_aload_n dX10_isTrue_45 rfl ?_
      refine r_getI dX10_isTrue_46 fl_X10_396 rfl (kM_0 hM) ?_
      rw [hk7]
      refine r_iadd dX10_isTrue_49 ?_
      refine r_goto (tgt := 67) dX10_isTrue_50 (by decide) ?_
      refine r_icmp_ne (tgt := 74) dX10_isTrue_67 (by decide) (fun _ => ?_) (fun hz => absurd hz (show ¬ _ from q))
      refine r_iconst (v := nI 0) dX10_isTrue_74 (by decide) ?_
      refine r_zret rfl dX10_isTrue_75 (by first | exact Or.inl rfl | exact Or.inr rfl | assumption) ?_
      rw [decide_eq_false q]
      exact am_sc.mk2
  · rw [tvN_3 hH7 hk hc hcs]
    by_cases q : nI (N H) = nI (N k) * nI c
    · skip
      refine r_iload_n dX10_isTrue_0 rfl ?_
      refine r_aload_n dX10_isTrue_1 rfl ?_
      refine r_getI dX10_isTrue_2 fl_X10_99 rfl (kM_0 hM) ?_
      rw [h54]
      refine r_icmp_ne (tgt := 76) dX10_isTrue_5 (by decide) (fun hz => absurd (show _ from rfl) hz) (fun _ => ?_)
      refine r_aload_n dX10_isTrue_8 rfl ?_
      refine r_getR dX10_isTrue_9 fl_X10_90 rfl (kM_0 hM) (pM_49 hM) ?_
      refine r_iload_n dX10_isTrue_12 rfl ?_
      refine r_iald dX10_isTrue_13 (aM_49 hM) (nI_in8 8 (by omega) (by decide)) (nI_clamp (by omega)) ?_
      rw [hR H (Nat.le_refl H)]
      refine r_aload_n dX10_isTrue_14 rfl ?_
      refine r_getI dX10_isTrue_15 fl_X10_393 rfl (kM_0 hM) ?_
      rw [hk5]
      refine r_if_ne (tgt := 28) dX10_isTrue_18 (by decide) (fun _ => ?_) (fun hz => absurd hz (show ¬ _ from (by decide)))
      refine r_aload_n dX10_isTrue_28 rfl ?_
      refine r_getI dX10_isTrue_29 fl_X10_393 rfl (kM_0 hM) ?_
      rw [hk5]
      refine r_iconst (v := nI 1) dX10_isTrue_32 (by decide) ?_
      refine r_icmp_ne (tgt := 53) dX10_isTrue_33 (by decide) (fun _ => ?_) (fun hz => absurd hz (show ¬ _ from (by decide)))
      refine r_aload_n dX10_isTrue_53 rfl ?_
      refine r_getI dX10_isTrue_54 fl_X10_396 rfl (kM_0 hM) ?_
      rw [hk7]
      refine r_aload_n dX10_isTrue_57 rfl ?_
      refine r_getR dX10_isTrue_58 fl_X10_90 rfl (kM_0 hM) (pM_49 hM) ?_
      refine r_aload_n dX10_isTrue_61 rfl ?_
      refine r_getI dX10_isTrue_62 fl_X10_399 rfl (kM_0 hM) ?_
      rw [hk6]
      refine r_iald dX10_isTrue_65 (aM_49 hM) (nI_in8 8 (by omega) (by decide)) (nI_clamp (by omega)) ?_
      rw [hR k (by omega)]
      refine r_imul dX10_isTrue_66 ?_
      rw [Int32.mul_comm (nI c) (nI (N k))]
      refine r_icmp_ne (tgt := 74) dX10_isTrue_67 (by decide) (fun hz => absurd (show _ from q) hz) (fun _ => ?_)
      refine r_iconst (v := nI 1) dX10_isTrue_70 (by decide) ?_
      refine r_goto (tgt := 75) dX10_isTrue_71 (by decide) ?_
      refine r_zret rfl dX10_isTrue_75 (by first | exact Or.inl rfl | exact Or.inr rfl | assumption) ?_
      rw [decide_eq_true q]
      exact am_sc.mk2
    · skip
      refine r_iload_n dX10_isTrue_0 rfl ?_
      refine r_aload_n dX10_isTrue_1 rfl ?_
      refine r_getI dX10_isTrue_2 fl_X10_99 rfl (kM_0 hM) ?_
      rw [h54]
      refine r_icmp_ne (tgt := 76) dX10_isTrue_5 (by decide) (fun hz => absurd (show _ from rfl) hz) (fun _ => ?_)
      refine r_aload_n dX10_isTrue_8 rfl ?_
      refine r_getR dX10_isTrue_9 fl_X10_90 rfl (kM_0 hM) (pM_49 hM) ?_
      refine r_iload_n dX10_isTrue_12 rfl ?_
      refine r_iald dX10_isTrue_13 (aM_49 hM) (nI_in8 8 (by omega) (by decide)) (nI_clamp (by omega)) ?_
      rw [hR H (Nat.le_refl H)]
      refine r_aload_n dX10_isTrue_14 rfl ?_
      refine r_getI dX10_isTrue_15 fl_X10_393 rfl (kM_0 hM) ?_
      rw [hk5]
      refine r_if_ne (tgt := 28) dX10_isTrue_18 (by decide) (fun _ => ?_) (fun hz => absurd hz (show ¬ _ from (by decide)))
      refine r_aload_n dX10_isTrue_28 rfl ?_
      refine r_getI dX10_isTrue_29 fl_X10_393 rfl (kM_0 hM) ?_
      rw [hk5]
      refine r_iconst (v := nI 1) dX10_isTrue_32 (by decide) ?_
      refine r_icmp_ne (tgt := 53) dX10_isTrue_33 (by decide) (fun _ => ?_) (fun hz => absurd hz (show ¬ _ from (by decide)))
      refine r_aload_n dX10_isTrue_53 rfl ?_
      refine r_getI dX10_isTrue_54 fl_X10_396 rfl (kM_0 hM) ?_
      rw [hk7]
      refine r_aload_n dX10_isTrue_57 rfl ?_
      refine r_getR dX10_isTrue_58 fl_X10_90 rfl (kM_0 hM) (pM_49 hM) ?_
      refine r_aload_n dX10_isTrue_61 rfl ?_
      refine r_getI dX10_isTrue_62 fl_X10_399 rfl (kM_0 hM) ?_
      rw [hk6]
      refine r_iald dX10_isTrue_65 (aM_49 hM) (nI_in8 8 (by omega) (by decide)) (nI_clamp (by omega)) ?_
      rw [hR k (by omega)]
      refine r_imul dX10_isTrue_66 ?_
      rw [Int32.mul_comm (nI c) (nI (N k))]
      refine r_icmp_ne (tgt := 74) dX10_isTrue_67 (by decide) (fun _ => ?_) (fun hz => absurd hz (show ¬ _ from q))
      refine r_iconst (v := nI 0) dX10_isTrue_74 (by decide) ?_
      refine r_zret rfl dX10_isTrue_75 (by first | exact Or.inl rfl | exact Or.inr rfl | assumption) ?_
      rw [decide_eq_false q]
      exact am_sc.mk2

/-- the reference's state as new riddles are tried -/
def rbS (I0 I : mI) (m H : Nat) : Prop := (∀ a, a ≠ m → a ≠ m + 3 → a ≠ m + 4 → a ≠ m + 6 → a ≠ m + 25 → a ≠ m + 26 → a ≠ m + 27 → I a = I0 a) ∧ (∀ j, j < H → I (m + 3) j = I0 (m + 3) j ∧ I (m + 4) j = I0 (m + 4) j ∧ I (m + 6) j = I0 (m + 6) j) ∧ (∀ j, j ≠ 1 → (j < 52 ∨ 57 < j) → j ≠ 66 → j ≠ 67 → I m j = I0 m j) ∧ (I m 1 = nI (H + 1) ∧ I m 54 = nI H) ∧ I (m + 3) H = nI 0 ∧ I (m + 4) H = nI 0
theorem rbS.rf {I0 I I' : mI} {m H : Nat} (hf : rFr m I I') (h : rbS I0 I m H) : rbS I0 I' m H := by
  obtain ⟨h1, h2, h3, ⟨h4, h5⟩, h6, h7⟩ := h
  have e : ∀ a, a ≠ m → a ≠ m + 25 → a ≠ m + 26 → a ≠ m + 27 → I' a = I a := hf.1
  refine ⟨fun a a1 a2 a3 a4 a5 a6 a7 => (e a a1 a5 a6 a7).trans (h1 a a1 a2 a3 a4 a5 a6 a7), fun j hj => ?_, fun j j1 j2 j3 j4 => (hf.2 j (by omega) (by omega)).trans (h3 j j1 j2 j3 j4), ⟨(hf.2 1 (by decide) (by decide)).trans h4, (hf.2 54 (by decide) (by decide)).trans h5⟩, ?_, ?_⟩
  · rw [e (m + 3) (by omega) (by omega) (by omega) (by omega), e (m + 4) (by omega) (by omega) (by omega) (by omega), e (m + 6) (by omega) (by omega) (by omega) (by omega)]
    exact h2 j hj
  · rw [e (m + 3) (by omega) (by omega) (by omega) (by omega)]; exact h6
  · rw [e (m + 4) (by omega) (by omega) (by omega) (by omega)]; exact h7
/-- fields that may change -/
theorem rbS.m {I0 I : mI} {m H j : Nat} {x : Int32} (hj : j = 52 ∨ j = 53 ∨ j = 55 ∨ j = 56 ∨ j = 57 ∨ j = 66 ∨ j = 67) (h : rbS I0 I m H) : rbS I0 (va_up I m (va_up (I m) j x)) m H := by
  obtain ⟨h1, h2, h3, ⟨h4, h5⟩, h6, h7⟩ := h
  refine ⟨fun a a1 a2 a3 a4 a5 a6 a7 => (am_up_n _ _ a1).trans (h1 a a1 a2 a3 a4 a5 a6 a7), fun i hi => ?_, fun i j1 j2 j3 j4 => ?_, ⟨?_, ?_⟩, ?_, ?_⟩
  · rw [am_up_n _ _ (by omega), am_up_n _ _ (by omega), am_up_n _ _ (by omega)]
    exact h2 i hi
  · rw [am_up_s, am_up_n _ _ (by omega)]; exact h3 i j1 j2 j3 j4
  · rw [am_up_s, am_up_n _ _ (by omega)]; exact h4
  · rw [am_up_s, am_up_n _ _ (by omega)]; exact h5
  · rw [am_up_n _ _ (by omega)]; exact h6
  · rw [am_up_n _ _ (by omega)]; exact h7
theorem rbS.lk {I0 I : mI} {m H : Nat} {x : Int32} (h : rbS I0 I m H) : rbS I0 (va_up I (m + 6) (va_up (I (m + 6)) H x)) m H := by
  obtain ⟨h1, h2, h3, ⟨h4, h5⟩, h6, h7⟩ := h
  refine ⟨fun a a1 a2 a3 a4 a5 a6 a7 => (am_up_n _ _ a4).trans (h1 a a1 a2 a3 a4 a5 a6 a7), fun i hi => ?_, fun i j1 j2 j3 j4 => ?_, ⟨?_, ?_⟩, ?_, ?_⟩
  · rw [am_up_n _ _ (by omega), am_up_n _ _ (by omega), am_up_s, am_up_n _ _ (by omega)]
    exact h2 i hi
  · rw [am_up_n _ _ (by omega)]; exact h3 i j1 j2 j3 j4
  · rw [am_up_n _ _ (by omega)]; exact h4
  · rw [am_up_n _ _ (by omega)]; exact h5
  · rw [am_up_n _ _ (by omega)]; exact h6
  · rw [am_up_n _ _ (by omega)]; exact h7
theorem lkm_2 {H k c a : Nat} (hH : H < 8) (hk : k < H) (hc : c < 10000) (ha : a = 20004 ∨ a = 20006) : lkm 0 (nr2 H k c a) = 2 ^ H ||| 2 ^ k := by
  show lkm 0 (((([] ++ [10000 + H]) ++ [10000 + k]) ++ [c]) ++ [a] ++ [20009]) = _
  rw [lkm_app, lkm_app, lkm_app, lkm_app, lkm_app, if_neg (by omega), if_neg (by omega), if_neg (by omega), if_pos (by omega), if_pos (by omega), show lkm 0 [] = 0 from rfl, Nat.zero_or, show 10000 + H - 10000 = H by omega, show 10000 + k - 10000 = k by omega]
theorem lkm_1 {H c : Nat} (hH : H < 8) (hc : c < 10000) : lkm 0 (nr1 H c) = 2 ^ H := by
  show lkm 0 ((([] ++ [10000 + H]) ++ [c]) ++ [20009]) = _
  rw [lkm_app, lkm_app, lkm_app, if_neg (by omega), if_neg (by omega), if_pos (by omega), show lkm 0 [] = 0 from rfl, Nat.zero_or, show 10000 + H - 10000 = H by omega]
theorem frD.lt {I : mI} {m H : Nat} {q : List Nat} (hH : H < 8) (h : frD I m H q) : lkm 0 q < 2 ^ (H + 1) ∧ (∀ c ∈ q, ¬ (c = 20000 ∨ c = 20001)) ∧ (lkm 0 q).testBit H = true ∧ (q ≠ [] ∧ okd q 0 ∧ ∀ c ∈ q, c < 20012 ∧ (10000 ≤ c → c < 20000 → c < 10009)) := by
  have e : (2 : Nat) ^ H < 2 ^ (H + 1) := Nat.pow_lt_pow_right (by decide) (by omega)
  rcases h with ⟨c, hc, rfl, -, -⟩ | ⟨k, c, a, hk, hc, rfl, -, -, ha⟩
  · rw [lkm_1 hH hc, Nat.testBit_two_pow, decide_eq_true rfl]
    exact ⟨e, nr1_no (by omega) hc, rfl, (fun z => by simp [nr1] at z), (nr1_ok (by omega) hc).1, (nr1_ok (by omega) hc).2⟩
  · have ha2 : a = 20004 ∨ a = 20006 := ha.imp And.left And.left
    rw [lkm_2 hH hk hc ha2, Nat.testBit_or, Nat.testBit_two_pow, decide_eq_true rfl, Bool.true_or]
    exact ⟨Nat.or_lt_two_pow e (Nat.pow_lt_pow_right (by decide) (by omega)), nr2_no (by omega) (by omega) hc ha2, rfl, (fun z => by simp [nr2] at z), (nr2_ok (by omega) (by omega) hc ha2).1, (nr2_ok (by omega) (by omega) hc ha2).2⟩
theorem awS_top {z H : Nat} (h : z.testBit H = true) (hl : z < 2 ^ (H + 1)) : awS z H = H := by
  have hz : z ≠ 0 := fun q => by rw [q, Nat.zero_testBit] at h; exact absurd h (by decide)
  unfold awS
  rw [if_neg hz]
  have h1 := (bit_log h).1
  have h2 := (Nat.log2_lt hz).mpr hl
  omega
theorem bR_r {I : mI} {m H M : Nat} {un : Bool} {cs : Nat → List Nat} {e : Lf} {r : List Nat} (hH8 : H < 8) (hM20 : M ≤ 20) (hr : ∀ c ∈ r, ¬ (c = 20000 ∨ c = 20001)) (hL : rL I m H e) : skTop (TN un (I (m + 24)) e.2.2.2.2.length (nI (spB H cs e ||| 2 ^ H)) (nI 1) (lkO (csN cs H r) (H + 1)) (tvN (I (m + 1)) (I (m + 2)) (nI M) (H + 1) (csN cs H r)) (H + 1)) noB (H + 1) M 2 = some (bR H M un cs e r) := by
  rw [show TN un (I (m + 24)) e.2.2.2.2.length (nI (spB H cs e ||| 2 ^ H)) (nI 1) (lkO (csN cs H r) (H + 1)) (tvN (I (m + 1)) (I (m + 2)) (nI M) (H + 1) (csN cs H r)) (H + 1) = zT (H + 1) M un (csN cs H r) e (nI (spB H cs e ||| 2 ^ H)) (nI 1) from by
    unfold zT tvO
    refine TN_new (LtR hL) (fun k hk => ?_)
    by_cases q : k = H
    · right
      rw [q, csN_s]
      exact hr
    · exact Or.inl ⟨(hL.1 k (by omega)).1, (hL.1 k (by omega)).2.1⟩]
  exact zR_eq (by omega) hM20
theorem rbS.sp {I0 I : mI} {m H : Nat} {A : Int32} (hb : rbS I0 I m H) (hA : spR (I0 (m + 3)) (I0 (m + 4)) H = A) : spR (I (m + 3)) (I (m + 4)) (H + 1) = A := by
  have key : ∀ i, i ≤ H → spR (I (m + 3)) (I (m + 4)) i = spR (I0 (m + 3)) (I0 (m + 4)) i := by
    intro i
    induction i with
    | zero => intro _; rfl
    | succ i ih =>
      intro hi
      show spR _ _ i ||| _ = spR _ _ i ||| _
      have h := hb.2.1 i (by omega)
      rw [ih (by omega), h.1, h.2.1]
  show spR (I (m + 3)) (I (m + 4)) H ||| (if I (m + 3) H = nI 1 then _ else nI 0) = A
  rw [hb.2.2.2.2.1, if_neg (show ¬ nI 0 = nI 1 by decide), key H (Nat.le_refl H), hA]
  refine b_ext (fun i hi => ?_)
  rw [b_or, bt_nI 0 hi, Nat.zero_testBit, Bool.or_false]
