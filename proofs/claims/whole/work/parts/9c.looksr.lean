/-! LOOKING AT DOORS: the fewest looks of the reference -/
def paF (nm : Nat → Nat → Nat) (c h v : Nat) : Nat := alB (fun j => decide (nm j h = v)) c
theorem paF_O (nm : Nat → Nat → Nat) (c H M : Nat) : paO nm c H M (paF nm c) := fun h _ v j _ _ => by unfold paF; rw [alB_bit]; simp
theorem paF_s (nm : Nat → Nat → Nat) (c h v : Nat) : paF nm (c + 1) h v = if nm c h = v then paF nm c h v ||| 2 ^ c else paF nm c h v := by
  unfold paF
  rw [show alB (fun j => decide (nm j h = v)) (c + 1) = if decide (nm c h = v) = true then alB (fun j => decide (nm j h = v)) c ||| 2 ^ c else alB (fun j => decide (nm j h = v)) c from rfl]
  by_cases e : nm c h = v
  · rw [if_pos e, if_pos (decide_eq_true e)]
  · rw [if_neg e, if_neg (by simp [e])]
theorem dX10_isFew_0 : decode cX10_isFew 0 = .ok (.aload_n 0, 1) := by decide +kernel
theorem dX10_isFew_1 : decode cX10_isFew 1 = .ok (.invokevirtual 436, 3) := by decide +kernel
theorem dX10_isFew_4 : decode cX10_isFew 4 = .ok (.ifCond .eq 12, 3) := by decide +kernel
theorem dX10_isFew_7 : decode cX10_isFew 7 = .ok (.aload_n 0, 1) := by decide +kernel
theorem dX10_isFew_8 : decode cX10_isFew 8 = .ok (.getfield 413, 3) := by decide +kernel
theorem dX10_isFew_11 : decode cX10_isFew 11 = .ok (.bipush 40, 2) := by decide +kernel
theorem dX10_isFew_13 : decode cX10_isFew 13 = .ok (.if_icmp .le 5, 3) := by decide +kernel
theorem dX10_isFew_16 : decode cX10_isFew 16 = .ok (.iconst 0, 1) := by decide +kernel
theorem dX10_isFew_17 : decode cX10_isFew 17 = .ok (.ireturn, 1) := by decide +kernel
theorem dX10_isFew_18 : decode cX10_isFew 18 = .ok (.iconst 0, 1) := by decide +kernel
theorem dX10_isFew_19 : decode cX10_isFew 19 = .ok (.istore_n 1, 1) := by decide +kernel
theorem dX10_isFew_20 : decode cX10_isFew 20 = .ok (.iload_n 1, 1) := by decide +kernel
theorem dX10_isFew_21 : decode cX10_isFew 21 = .ok (.sipush 168, 3) := by decide +kernel
theorem dX10_isFew_24 : decode cX10_isFew 24 = .ok (.if_icmp .ge 16, 3) := by decide +kernel
theorem dX10_isFew_27 : decode cX10_isFew 27 = .ok (.aload_n 0, 1) := by decide +kernel
theorem dX10_isFew_28 : decode cX10_isFew 28 = .ok (.getfield 105, 3) := by decide +kernel
theorem dX10_isFew_31 : decode cX10_isFew 31 = .ok (.iload_n 1, 1) := by decide +kernel
theorem dX10_isFew_32 : decode cX10_isFew 32 = .ok (.lconst 0, 1) := by decide +kernel
theorem dX10_isFew_33 : decode cX10_isFew 33 = .ok (.lastore, 1) := by decide +kernel
theorem dX10_isFew_34 : decode cX10_isFew 34 = .ok (.iinc 1 1, 3) := by decide +kernel
theorem dX10_isFew_37 : decode cX10_isFew 37 = .ok (.goto (-17), 3) := by decide +kernel
theorem dX10_isFew_40 : decode cX10_isFew 40 = .ok (.iconst 0, 1) := by decide +kernel
theorem dX10_isFew_41 : decode cX10_isFew 41 = .ok (.istore_n 1, 1) := by decide +kernel
theorem dX10_isFew_42 : decode cX10_isFew 42 = .ok (.iload_n 1, 1) := by decide +kernel
theorem dX10_isFew_43 : decode cX10_isFew 43 = .ok (.aload_n 0, 1) := by decide +kernel
theorem dX10_isFew_44 : decode cX10_isFew 44 = .ok (.getfield 413, 3) := by decide +kernel
theorem dX10_isFew_47 : decode cX10_isFew 47 = .ok (.if_icmp .ge 47, 3) := by decide +kernel
theorem dX10_isFew_50 : decode cX10_isFew 50 = .ok (.iconst 0, 1) := by decide +kernel
theorem dX10_isFew_51 : decode cX10_isFew 51 = .ok (.istore_n 2, 1) := by decide +kernel
theorem dX10_isFew_52 : decode cX10_isFew 52 = .ok (.iload_n 2, 1) := by decide +kernel
theorem dX10_isFew_53 : decode cX10_isFew 53 = .ok (.aload_n 0, 1) := by decide +kernel
theorem dX10_isFew_54 : decode cX10_isFew 54 = .ok (.getfield 350, 3) := by decide +kernel
theorem dX10_isFew_57 : decode cX10_isFew 57 = .ok (.if_icmp .ge 31, 3) := by decide +kernel
theorem dX10_isFew_60 : decode cX10_isFew 60 = .ok (.aload_n 0, 1) := by decide +kernel
theorem dX10_isFew_61 : decode cX10_isFew 61 = .ok (.getfield 105, 3) := by decide +kernel
theorem dX10_isFew_64 : decode cX10_isFew 64 = .ok (.bipush 21, 2) := by decide +kernel
theorem dX10_isFew_66 : decode cX10_isFew 66 = .ok (.iload_n 2, 1) := by decide +kernel
theorem dX10_isFew_67 : decode cX10_isFew 67 = .ok (.imul, 1) := by decide +kernel
theorem dX10_isFew_68 : decode cX10_isFew 68 = .ok (.aload_n 0, 1) := by decide +kernel
theorem dX10_isFew_69 : decode cX10_isFew 69 = .ok (.iload_n 1, 1) := by decide +kernel
theorem dX10_isFew_70 : decode cX10_isFew 70 = .ok (.iload_n 2, 1) := by decide +kernel
theorem dX10_isFew_71 : decode cX10_isFew 71 = .ok (.invokevirtual 439, 3) := by decide +kernel
theorem dX10_isFew_74 : decode cX10_isFew 74 = .ok (.iadd, 1) := by decide +kernel
theorem dX10_isFew_75 : decode cX10_isFew 75 = .ok (.dup2, 1) := by decide +kernel
theorem dX10_isFew_76 : decode cX10_isFew 76 = .ok (.laload, 1) := by decide +kernel
theorem dX10_isFew_77 : decode cX10_isFew 77 = .ok (.lconst 1, 1) := by decide +kernel
theorem dX10_isFew_78 : decode cX10_isFew 78 = .ok (.iload_n 1, 1) := by decide +kernel
theorem dX10_isFew_79 : decode cX10_isFew 79 = .ok (.lshl, 1) := by decide +kernel
theorem dX10_isFew_80 : decode cX10_isFew 80 = .ok (.lor, 1) := by decide +kernel
theorem dX10_isFew_81 : decode cX10_isFew 81 = .ok (.lastore, 1) := by decide +kernel
theorem dX10_isFew_82 : decode cX10_isFew 82 = .ok (.iinc 2 1, 3) := by decide +kernel
theorem dX10_isFew_85 : decode cX10_isFew 85 = .ok (.goto (-33), 3) := by decide +kernel
theorem dX10_isFew_88 : decode cX10_isFew 88 = .ok (.iinc 1 1, 3) := by decide +kernel
theorem dX10_isFew_91 : decode cX10_isFew 91 = .ok (.goto (-49), 3) := by decide +kernel
theorem dX10_isFew_94 : decode cX10_isFew 94 = .ok (.iconst 1, 1) := by decide +kernel
theorem dX10_isFew_95 : decode cX10_isFew 95 = .ok (.ireturn, 1) := by decide +kernel

set_option maxHeartbeats 4000000 in
set_option maxRecDepth 100000 in
theorem fw_h (m c H : Nat) (nm : Nat → Nat → Nat) (i : Nat) {n : Nat} {kd : mK} {I : mI} {J : mJ} {P : mP} {post : am_Post} (hM : kM kd P m) (hI1 : I m 1 = nI H) (hI52 : I m 52 = nI c) (hN : ∀ i h, i < c → h < H → I (m + 27) (8 * i + h) = nI (nm i h)) (hb : ∀ i h, i < c → h < H → nm i h ≤ 20) (hc : c ≤ 40) (hH : H ≤ 8) (hi : i < c) : ∀ (cnt h : Nat) (A : Nat → Int64), h + cnt = H → (∀ A' : Nat → Int64, (∀ x v, x < h → A' (21 * x + v) = A (21 * x + v) ∨ 20 < v) → (∀ x v, h ≤ x → x < H → v ≤ 20 → A' (21 * x + v) = if nm i x = v then A (21 * x + v) ||| jN (2 ^ i) else A (21 * x + v)) → Ru yX10_isFew.cls cX10_isFew 3 (some .boolean) yX10_isFew.name 7 (post) 0 0 88 [some (.ref m), some (.int (nI i)), some (.int (nI H))] [] n kd I (va_up J (m + 28) A') P) → Ru yX10_isFew.cls cX10_isFew 3 (some .boolean) yX10_isFew.name 7 (post) 0 0 52 [some (.ref m), some (.int (nI i)), some (.int (nI h))] [] n kd I (va_up J (m + 28) A) P := by
  intro cnt
  induction cnt with
  | zero =>
    intro h A he hk
    have eh : h = H := by omega
    rw [← eh] at hk
    rw [← eh] at hI1
    refine r_iload_n dX10_isFew_52 rfl ?_
    refine r_aload_n dX10_isFew_53 rfl ?_
    refine r_getI dX10_isFew_54 fl_X10_350 rfl (kM_0 hM) ?_
    rw [hI1]
    refine r_icmp_ge (tgt := 88) dX10_isFew_57 (by decide) (fun _ => ?_) (fun hz => absurd (show _ from (by rw [nI_leI (by omega) (by omega)]; omega)) hz)
    exact hk A (fun x v _ => Or.inl rfl) (fun x v h1 h2 => absurd h2 (by omega))
  | succ cnt ih =>
    intro h A he hk
    have hb1 := hb i h hi (by omega)
    refine r_iload_n dX10_isFew_52 rfl ?_
    refine r_aload_n dX10_isFew_53 rfl ?_
    refine r_getI dX10_isFew_54 fl_X10_350 rfl (kM_0 hM) ?_
    rw [hI1]
    refine r_icmp_ge (tgt := 88) dX10_isFew_57 (by decide) (fun hz => absurd hz (show ¬ _ from (by rw [nI_leI (by omega) (by omega)]; omega))) (fun _ => ?_)
    refine r_aload_n dX10_isFew_60 rfl ?_
    refine r_getR dX10_isFew_61 fl_X10_105 rfl (kM_0 hM) (pM_60 hM) ?_
    refine r_bipush (v := nI 21) dX10_isFew_64 (by decide) ?_
    refine r_iload_n dX10_isFew_66 rfl ?_
    refine r_imul dX10_isFew_67 ?_
    rw [pk_mul]
    refine r_aload_n dX10_isFew_68 rfl ?_
    refine r_iload_n dX10_isFew_69 rfl ?_
    refine r_iload_n dX10_isFew_70 rfl ?_
    refine r_virtE (c_X10_at m i h hM (by omega) (by omega)) lk_X10_439 mc_X10_at dX10_isFew_71 (kM_0 hM) (by decide) rfl rfl (Nat.le_of_ble_eq_true rfl) ?_
    rw [hN i h hi (by omega)]
    refine r_iadd dX10_isFew_74 ?_
    rw [nI_add]
    refine r_dup2 dX10_isFew_75 rfl rfl ?_
    refine r_lald dX10_isFew_76 (aM_60 hM) (nI_in8 168 (by omega) (by decide)) (nI_clamp (by omega)) ?_
    rw [am_up_s]
    refine r_lconst (v := 1) dX10_isFew_77 (by decide) ?_
    refine r_iload_n dX10_isFew_78 rfl ?_
    refine r_lshl dX10_isFew_79 ?_
    rw [jN_sh1 i (by omega)]
    refine r_lor dX10_isFew_80 ?_
    refine r_last dX10_isFew_81 (aM_60 hM) (nI_in8 168 (by omega) (by decide)) (nI_clamp (by omega)) ?_
    rw [am_up_s, am_up_up]
    refine r_iinc (v := nI (h + 1)) dX10_isFew_82 rfl (nI_inc h) ?_
    refine r_goto (tgt := 52) dX10_isFew_85 (by decide) ?_
    refine ih (h + 1) _ (by omega) (fun A' h1 h2 => hk A' (fun x v hx => ?_) (fun x v hx1 hx2 hv => ?_))
    · rcases Nat.lt_or_ge 20 v with q | q
      · exact Or.inr q
      · rcases h1 x v (by omega) with r | r
        · rw [r, am_up_n _ _ (by omega)]; exact Or.inl rfl
        · exact Or.inr r
    · rcases Nat.lt_or_ge h x with q | q
      · rw [h2 x v (by omega) hx2 hv, am_up_n _ _ (by omega)]
      · have ex : x = h := by omega
        subst ex
        rcases h1 x v (by omega) with r | r
        · rw [r]
          by_cases e : nm i x = v
          · rw [if_pos e, e, am_up_s]
          · rw [if_neg e, am_up_n _ _ (by omega)]
        · omega

set_option maxHeartbeats 4000000 in
set_option maxRecDepth 100000 in
theorem fw_i (m c H : Nat) (nm : Nat → Nat → Nat) {n : Nat} {kd : mK} {I : mI} {J : mJ} {P : mP} (hM : kM kd P m) (hI1 : I m 1 = nI H) (hI52 : I m 52 = nI c) (hN : ∀ i h, i < c → h < H → I (m + 27) (8 * i + h) = nI (nm i h)) (hb : ∀ i h, i < c → h < H → nm i h ≤ 20) (hc : c ≤ 40) (hH : H ≤ 8) : ∀ (cnt i : Nat) (z2 : Option Value) (A : Nat → Int64), i + cnt = c → (∀ h v, h < H → v ≤ 20 → A (21 * h + v) = jN (paF nm i h v)) → Ru yX10_isFew.cls cX10_isFew 3 (some .boolean) yX10_isFew.name 7 (fun y n' kd' I' J' P' => ∃ A : Nat → Int64, (∀ h v, h < H → v ≤ 20 → A (21 * h + v) = jN (paF nm c h v)) ∧ am_is (some (.int (nI 1))) n kd I (va_up J (m + 28) A) P y n' kd' I' J' P') 0 0 42 [some (.ref m), some (.int (nI i)), z2] [] n kd I (va_up J (m + 28) A) P := by
  intro cnt
  induction cnt with
  | zero =>
    intro i z2 A he hA
    have eh : i = c := by omega
    subst eh
    refine r_iload_n dX10_isFew_42 rfl ?_
    refine r_aload_n dX10_isFew_43 rfl ?_
    refine r_getI dX10_isFew_44 fl_X10_413 rfl (kM_0 hM) ?_
    rw [hI52]
    refine r_icmp_ge (tgt := 94) dX10_isFew_47 (by decide) (fun _ => ?_) (fun hz => absurd (show _ from (by rw [nI_leI (by omega) (by omega)]; omega)) hz)
    refine r_iconst (v := nI 1) dX10_isFew_94 (by decide) ?_
    refine r_zret rfl dX10_isFew_95 (by first | exact Or.inl rfl | exact Or.inr rfl | assumption) ?_
    exact ⟨A, hA, am_is.mk⟩
  | succ cnt ih =>
    intro i z2 A he hA
    refine r_iload_n dX10_isFew_42 rfl ?_
    refine r_aload_n dX10_isFew_43 rfl ?_
    refine r_getI dX10_isFew_44 fl_X10_413 rfl (kM_0 hM) ?_
    rw [hI52]
    refine r_icmp_ge (tgt := 94) dX10_isFew_47 (by decide) (fun hz => absurd hz (show ¬ _ from (by rw [nI_leI (by omega) (by omega)]; omega))) (fun _ => ?_)
    refine r_iconst (v := nI 0) dX10_isFew_50 (by decide) ?_
    refine r_istore_n dX10_isFew_51 (by decide) ?_
    refine fw_h m c H nm i hM hI1 hI52 hN hb hc hH (by omega) H 0 A (by omega) (fun A' h1 h2 => ?_)
    refine r_iinc (v := nI (i + 1)) dX10_isFew_88 rfl (nI_inc i) ?_
    refine r_goto (tgt := 42) dX10_isFew_91 (by decide) ?_
    refine ih (i + 1) _ A' (by omega) (fun h v hh hv => ?_)
    rw [h2 h v (Nat.zero_le h) hh hv, hA h v hh hv, jN_or, paF_s]
    by_cases e : nm i h = v
    · rw [if_pos e, if_pos e]
    · rw [if_neg e, if_neg e]

set_option maxHeartbeats 4000000 in
set_option maxRecDepth 100000 in
theorem fw_0 (m c H : Nat) (nm : Nat → Nat → Nat) {n : Nat} {kd : mK} {I : mI} {J : mJ} {P : mP} (hM : kM kd P m) (hI1 : I m 1 = nI H) (hI52 : I m 52 = nI c) (hN : ∀ i h, i < c → h < H → I (m + 27) (8 * i + h) = nI (nm i h)) (hb : ∀ i h, i < c → h < H → nm i h ≤ 20) (hc : c ≤ 40) (hH : H ≤ 8) : ∀ (cnt i : Nat) (A : Nat → Int64), i + cnt = 168 → (∀ j, j < i → A j = 0) → Ru yX10_isFew.cls cX10_isFew 3 (some .boolean) yX10_isFew.name 7 (fun y n' kd' I' J' P' => ∃ A : Nat → Int64, (∀ h v, h < H → v ≤ 20 → A (21 * h + v) = jN (paF nm c h v)) ∧ am_is (some (.int (nI 1))) n kd I (va_up J (m + 28) A) P y n' kd' I' J' P') 0 0 20 [some (.ref m), some (.int (nI i)), none] [] n kd I (va_up J (m + 28) A) P := by
  intro cnt
  induction cnt with
  | zero =>
    intro i A he hA
    have eh : i = 168 := by omega
    subst eh
    refine r_iload_n dX10_isFew_20 rfl ?_
    refine r_sipush (v := nI 168) dX10_isFew_21 (by decide) ?_
    refine r_icmp_ge (tgt := 40) dX10_isFew_24 (by decide) (fun _ => ?_) (fun hz => absurd (show _ from (by rw [nI_leI (by omega) (by omega)]; omega)) hz)
    refine r_iconst (v := nI 0) dX10_isFew_40 (by decide) ?_
    refine r_istore_n dX10_isFew_41 (by decide) ?_
    refine fw_i m c H nm hM hI1 hI52 hN hb hc hH c 0 none A (by omega) (fun h v hh hv => ?_)
    rw [hA _ (by omega)]
    exact jN_0.symm
  | succ cnt ih =>
    intro i A he hA
    refine r_iload_n dX10_isFew_20 rfl ?_
    refine r_sipush (v := nI 168) dX10_isFew_21 (by decide) ?_
    refine r_icmp_ge (tgt := 40) dX10_isFew_24 (by decide) (fun hz => absurd hz (show ¬ _ from (by rw [nI_leI (by omega) (by omega)]; omega))) (fun _ => ?_)
    refine r_aload_n dX10_isFew_27 rfl ?_
    refine r_getR dX10_isFew_28 fl_X10_105 rfl (kM_0 hM) (pM_60 hM) ?_
    refine r_iload_n dX10_isFew_31 rfl ?_
    refine r_lconst (v := 0) dX10_isFew_32 (by decide) ?_
    refine r_last dX10_isFew_33 (aM_60 hM) (nI_in8 168 (by omega) (by decide)) (nI_clamp (by omega)) ?_
    rw [am_up_s, am_up_up]
    refine r_iinc (v := nI (i + 1)) dX10_isFew_34 rfl (nI_inc i) ?_
    refine r_goto (tgt := 20) dX10_isFew_37 (by decide) ?_
    exact ih (i + 1) _ (by omega) (fun j hj => by
      by_cases e : j = i
      · rw [e, am_up_s]
      · rw [am_up_n _ _ e, hA j (by omega)])

def fwB (res : Nat × List (Nat → Nat) × Bool) : Bool := !res.2.2 && decide (res.2.1.length ≤ 40)
def fwG (n : Nat) (kd : mK) (I : mI) (J : mJ) (P : mP) (m H : Nat) (res : Nat × List (Nat → Nat) × Bool) : am_Post := fun z n' kd' I' J' P' => z = .inl (some (.int (bz (fwB res)))) ∧ n' = n ∧ kd' = kd ∧ P' = P ∧ rFr m I I' ∧ (fwB res = true → I' m 52 = nI res.2.1.length) ∧ (∀ a, a ≠ m + 28 → J' a = J a) ∧ (fwB res = true → ∀ h v, h < H → v ≤ 20 → J' (m + 28) (21 * h + v) = jN (paF (nmF res.2.1) res.2.1.length h v))
set_option maxHeartbeats 4000000 in
set_option maxRecDepth 100000 in
theorem c_X10_isFew (m H M L : Nat) (lk : Nat → Nat) (rid : Nat → List Nat) (un : Bool) (Lt so de : Nat → Int32) (rb : Nat → Bool) (res : Nat × List (Nat → Nat) × Bool) {n : Nat} {kd : mK} {I : mI} {J : mJ} {P : mP} (hR : rfS kd P I m H M L lk rid un Lt so de rb) (hH8 : H ≤ 8) (hM20 : M ≤ 20) (hr : ∀ k, k < H → bt (spR (I (m + 3)) (I (m + 4)) H) k = true → rb k = true) (hsk : skTop (TN un Lt L (spR (I (m + 3)) (I (m + 4)) H) (nI 1) lk (tvN so de (nI M) H rid) H) noB H M 1001 = some res) : Ct yX10_isFew cX10_isFew 3 (some .boolean) 7 0 0 [.ref m] n kd I J P (fwG n kd I J P m H res) := by
  refine ct_of 2 (by decide +kernel) (Nat.le_of_ble_eq_true rfl) rfl ?_
  have hdr := skTop_dif hsk
  have hM := hR.1
  refine r_aload_n dX10_isFew_0 rfl ?_
  refine r_virt (c_X10_seeksAll m H M L lk rid un Lt so de rb res hR hH8 hM20 hr hsk) lk_X10_436 mc_X10_seeksAll dX10_isFew_1 hR.1.1 (by decide) rfl rfl (Nat.le_of_ble_eq_true rfl) (Nat.le_of_eq (Nat.zero_add _)) (Nat.le_of_eq (Nat.zero_add _)) (fun _ _ _ _ _ _ h => nomatch h.1) ?_
  rintro v n1 kd1 I1 J1 P1 ⟨h0, rfl, rfl, rfl, rfl, hf, h52, h53, h27⟩
  cases h0
  simp only [Option.toList, List.cons_append, List.nil_append]
  have hH1 : I1 m 1 = nI H := by rw [hf.2 1 (by decide) (by decide)]; exact hR.2.1
  by_cases hb : (!res.2.2 && decide (res.2.1.length ≤ 1000)) = true
  · have hb' := hb
    rw [Bool.and_eq_true, decide_eq_true_iff] at hb'
    have hcut : cutF res.2.1 = res.2.1 := by unfold cutF; rw [if_pos hb'.2]
    rw [hcut] at h52 h27
    rw [hb]
    by_cases h40 : res.2.1.length ≤ 40
    · have hB : fwB res = true := by unfold fwB; rw [hb'.1, decide_eq_true h40]; rfl
      have hl := fw_0 (n := n1) (J := J1) m res.2.1.length H (nmF res.2.1) hM hH1 h52 (fun i h hi hh => by rw [h27]; exact NR_at hH8 res.2.1 i h hi hh) (fun i h hi hh => by have := (nmF_rng hdr.2 i h hi hh).2; omega) h40 hH8 168 0 (J1 (m + 28)) (by omega) (fun j hj => absurd hj (by omega))
      rw [am_up_id] at hl
      refine r_if_eq (tgt := 16) dX10_isFew_4 (by decide) (fun hz => absurd hz (show ¬ _ from (by decide))) (fun _ => ?_)
      refine r_aload_n dX10_isFew_7 rfl ?_
      refine r_getI dX10_isFew_8 fl_X10_413 rfl (kM_0 hM) ?_
      rw [h52]
      refine r_bipush (v := nI 40) dX10_isFew_11 (by decide) ?_
      refine r_icmp_le (tgt := 18) dX10_isFew_13 (by decide) (fun _ => ?_) (fun hz => absurd (show _ from (by rw [nI_leI (by omega) (by omega)]; omega)) hz)
      refine r_iconst (v := nI 0) dX10_isFew_18 (by decide) ?_
      refine r_istore_n dX10_isFew_19 (by decide) ?_
      refine RuZ.mono hl (fun z n2 kd2 I2 J2 P2 hx => ?_)
      obtain ⟨A, hA, h0, rfl, rfl, rfl, rfl, rfl⟩ := hx
      refine ⟨by rw [h0, hB]; rfl, rfl, rfl, rfl, hf, fun _ => h52, fun a ha => am_up_n _ _ ha, fun _ h v hh hv => by rw [am_up_s]; exact hA h v hh hv⟩
    · have hB : fwB res = false := by unfold fwB; rw [decide_eq_false h40, Bool.and_false]
      refine r_if_eq (tgt := 16) dX10_isFew_4 (by decide) (fun hz => absurd hz (show ¬ _ from (by decide))) (fun _ => ?_)
      refine r_aload_n dX10_isFew_7 rfl ?_
      refine r_getI dX10_isFew_8 fl_X10_413 rfl (kM_0 hM) ?_
      rw [h52]
      refine r_bipush (v := nI 40) dX10_isFew_11 (by decide) ?_
      refine r_icmp_le (tgt := 18) dX10_isFew_13 (by decide) (fun hz => absurd hz (show ¬ _ from (by rw [nI_leI (by omega) (by omega)]; omega))) (fun _ => ?_)
      refine r_iconst (v := nI 0) dX10_isFew_16 (by decide) ?_
      refine r_zret rfl dX10_isFew_17 (by first | exact Or.inl rfl | exact Or.inr rfl | assumption) ?_
      exact ⟨by rw [hB]; rfl, rfl, rfl, rfl, hf, fun q => by rw [hB] at q; exact (nomatch q), fun _ _ => rfl, fun q => by rw [hB] at q; exact nomatch q⟩
  · have hB : fwB res = false := by
      cases hx : fwB res
      · rfl
      · unfold fwB at hx
        rw [Bool.and_eq_true, decide_eq_true_iff] at hx
        exact absurd (by rw [hx.1, decide_eq_true (by omega)]; rfl) hb
    simp only [Bool.not_eq_true] at hb
    rw [hb]
    refine r_if_eq (tgt := 16) dX10_isFew_4 (by decide) (fun _ => ?_) (fun hz => absurd (show _ from (by decide)) hz)
    refine r_iconst (v := nI 0) dX10_isFew_16 (by decide) ?_
    refine r_zret rfl dX10_isFew_17 (by first | exact Or.inl rfl | exact Or.inr rfl | assumption) ?_
    exact ⟨by rw [hB]; rfl, rfl, rfl, rfl, hf, fun q => by rw [hB] at q; exact (nomatch q), fun _ _ => rfl, fun q => by rw [hB] at q; exact nomatch q⟩

theorem dX10_fewestLooks_0 : decode cX10_fewestLooks 0 = .ok (.aload_n 0, 1) := by decide +kernel
theorem dX10_fewestLooks_1 : decode cX10_fewestLooks 1 = .ok (.invokevirtual 462, 3) := by decide +kernel
theorem dX10_fewestLooks_4 : decode cX10_fewestLooks 4 = .ok (.ifCond .ne 6, 3) := by decide +kernel
theorem dX10_fewestLooks_7 : decode cX10_fewestLooks 7 = .ok (.bipush (-2), 2) := by decide +kernel
theorem dX10_fewestLooks_9 : decode cX10_fewestLooks 9 = .ok (.ireturn, 1) := by decide +kernel
theorem dX10_fewestLooks_10 : decode cX10_fewestLooks 10 = .ok (.aload_n 0, 1) := by decide +kernel
theorem dX10_fewestLooks_11 : decode cX10_fewestLooks 11 = .ok (.getfield 413, 3) := by decide +kernel
theorem dX10_fewestLooks_14 : decode cX10_fewestLooks 14 = .ok (.ifCond .ne 7, 3) := by decide +kernel
theorem dX10_fewestLooks_17 : decode cX10_fewestLooks 17 = .ok (.lconst 0, 1) := by decide +kernel
theorem dX10_fewestLooks_18 : decode cX10_fewestLooks 18 = .ok (.goto 11, 3) := by decide +kernel
theorem dX10_fewestLooks_21 : decode cX10_fewestLooks 21 = .ok (.lconst 1, 1) := by decide +kernel
theorem dX10_fewestLooks_22 : decode cX10_fewestLooks 22 = .ok (.aload_n 0, 1) := by decide +kernel
theorem dX10_fewestLooks_23 : decode cX10_fewestLooks 23 = .ok (.getfield 413, 3) := by decide +kernel
theorem dX10_fewestLooks_26 : decode cX10_fewestLooks 26 = .ok (.lshl, 1) := by decide +kernel
theorem dX10_fewestLooks_27 : decode cX10_fewestLooks 27 = .ok (.lconst 1, 1) := by decide +kernel
theorem dX10_fewestLooks_28 : decode cX10_fewestLooks 28 = .ok (.lsub, 1) := by decide +kernel
theorem dX10_fewestLooks_29 : decode cX10_fewestLooks 29 = .ok (.lstore_n 1, 1) := by decide +kernel
theorem dX10_fewestLooks_30 : decode cX10_fewestLooks 30 = .ok (.iconst 0, 1) := by decide +kernel
theorem dX10_fewestLooks_31 : decode cX10_fewestLooks 31 = .ok (.istore_n 3, 1) := by decide +kernel
theorem dX10_fewestLooks_32 : decode cX10_fewestLooks 32 = .ok (.aload_n 0, 1) := by decide +kernel
theorem dX10_fewestLooks_33 : decode cX10_fewestLooks 33 = .ok (.lload_n 1, 1) := by decide +kernel
theorem dX10_fewestLooks_34 : decode cX10_fewestLooks 34 = .ok (.iload_n 3, 1) := by decide +kernel
theorem dX10_fewestLooks_35 : decode cX10_fewestLooks 35 = .ok (.iconst (-1), 1) := by decide +kernel
theorem dX10_fewestLooks_36 : decode cX10_fewestLooks 36 = .ok (.invokevirtual 458, 3) := by decide +kernel
theorem dX10_fewestLooks_39 : decode cX10_fewestLooks 39 = .ok (.ifCond .ne 9, 3) := by decide +kernel
theorem dX10_fewestLooks_42 : decode cX10_fewestLooks 42 = .ok (.iinc 3 1, 3) := by decide +kernel
theorem dX10_fewestLooks_45 : decode cX10_fewestLooks 45 = .ok (.goto (-13), 3) := by decide +kernel
theorem dX10_fewestLooks_48 : decode cX10_fewestLooks 48 = .ok (.iload_n 3, 1) := by decide +kernel
theorem dX10_fewestLooks_49 : decode cX10_fewestLooks 49 = .ok (.ireturn, 1) := by decide +kernel

def twF (m : Nat) (I I' : mI) (J J' : mJ) : Prop := (∀ a, a ≠ m + 30 → a ≠ m + 31 → I' a = I a) ∧ (∀ a, a ≠ m + 29 → J' a = J a)
theorem twF.rf {m : Nat} {I : mI} {J : mJ} : twF m I I J J := ⟨fun _ _ _ => rfl, fun _ _ => rfl⟩
theorem twF.tr {m : Nat} {I I1 I2 : mI} {J J1 J2 : mJ} (h : twF m I I1 J J1) (g : twF m I1 I2 J1 J2) : twF m I I2 J J2 := ⟨fun a x y => (g.1 a x y).trans (h.1 a x y), fun a x => (g.2 a x).trans (h.2 a x)⟩
set_option maxHeartbeats 4000000 in
set_option maxRecDepth 100000 in
theorem rl_loop (m H M w : Nat) (pa : Nat → Nat → Nat) {n : Nat} {kd : mK} {I0 : mI} {J0 : mJ} {P : mP} (hM : kM kd P m) (hI1 : I0 m 1 = nI H) (hI2 : I0 m 2 = nI M) (hPa : ∀ h v, h < H → 1 ≤ v → v ≤ M → J0 (m + 28) (21 * h + v) = jN (pa h v)) (hH : H ≤ 8) (hM20 : M ≤ 20) (hw : w < 2 ^ 40) (hH1 : ¬ one w = true → 1 ≤ H) (h8 : tl pa H M 8 w = true) : ∀ (cnt k : Nat) (I : mI) (J : mJ), k + cnt = 8 → twF m I0 I J0 J → Ru yX10_fewestLooks.cls cX10_fewestLooks 4 (some .int) yX10_fewestLooks.name 8 (fun z n' kd' I' J' P' => z = .inl (some (.int (nI (nl pa H M w cnt k)))) ∧ n' = n ∧ kd' = kd ∧ P' = P ∧ twF m I I' J J') 0 0 32 [some (.ref m), some (.long (jN w)), none, some (.int (nI k))] [] n kd I J P := by
  intro cnt
  induction cnt with
  | zero =>
    intro k I J hk hf
    have hc := c_X10_tells (n := n) (I := I) (J := J) m H M k w pa hM (by rw [hf.1 m (by omega) (by omega)]; exact hI1) (by rw [hf.1 m (by omega) (by omega)]; exact hI2) (by rw [hf.2 _ (by omega)]; exact hPa) hH hM20 (by omega) hw hH1
    have ek : k = 8 := by omega
    rw [ek, h8] at hc
    subst ek
    refine r_aload_n dX10_fewestLooks_32 rfl ?_
    refine r_lload_n dX10_fewestLooks_33 rfl ?_
    refine r_iload_n dX10_fewestLooks_34 rfl ?_
    refine r_iconst (v := (-1)) dX10_fewestLooks_35 (by decide) ?_
    refine r_virt hc lk_X10_458 mc_X10_tells dX10_fewestLooks_36 hM.1 (by decide) rfl rfl (Nat.le_of_ble_eq_true rfl) (Nat.le_of_eq (Nat.zero_add _)) (Nat.le_of_eq (Nat.zero_add _)) (fun _ _ _ _ _ _ hx => by obtain ⟨_, _, _, hx⟩ := hx; exact nomatch hx.1) (fun v n2 kd2 I2 J2 P2 hx => ?_)
    obtain ⟨Am, Dr, Sh, hv, rfl, rfl, rfl, rfl, rfl⟩ := hx
    cases hv
    refine r_if_ne (tgt := 48) dX10_fewestLooks_39 (by decide) (fun _ => ?_) (fun hz => absurd hz (show ¬ _ from (by decide)))
    refine r_iload_n dX10_fewestLooks_48 rfl ?_
    refine r_iret rfl dX10_fewestLooks_49 ?_
    exact ⟨rfl, rfl, rfl, rfl, fun a h1 h2 => tDS_o _ _ _ _ h1 h2, fun a h1 => am_up_n _ _ h1⟩
  | succ cnt ih =>
    intro k I J hk hf
    have hc := c_X10_tells (n := n) (I := I) (J := J) m H M k w pa hM (by rw [hf.1 m (by omega) (by omega)]; exact hI1) (by rw [hf.1 m (by omega) (by omega)]; exact hI2) (by rw [hf.2 _ (by omega)]; exact hPa) hH hM20 (by omega) hw hH1
    unfold nl
    by_cases ht : tl pa H M k w = true
    · rw [ht] at hc
      rw [if_pos ht]
      refine r_aload_n dX10_fewestLooks_32 rfl ?_
      refine r_lload_n dX10_fewestLooks_33 rfl ?_
      refine r_iload_n dX10_fewestLooks_34 rfl ?_
      refine r_iconst (v := (-1)) dX10_fewestLooks_35 (by decide) ?_
      refine r_virt hc lk_X10_458 mc_X10_tells dX10_fewestLooks_36 hM.1 (by decide) rfl rfl (Nat.le_of_ble_eq_true rfl) (Nat.le_of_eq (Nat.zero_add _)) (Nat.le_of_eq (Nat.zero_add _)) (fun _ _ _ _ _ _ hx => by obtain ⟨_, _, _, hx⟩ := hx; exact nomatch hx.1) (fun v n2 kd2 I2 J2 P2 hx => ?_)
      obtain ⟨Am, Dr, Sh, hv, rfl, rfl, rfl, rfl, rfl⟩ := hx
      cases hv
      refine r_if_ne (tgt := 48) dX10_fewestLooks_39 (by decide) (fun _ => ?_) (fun hz => absurd hz (show ¬ _ from (by decide)))
      refine r_iload_n dX10_fewestLooks_48 rfl ?_
      refine r_iret rfl dX10_fewestLooks_49 ?_
      exact ⟨rfl, rfl, rfl, rfl, fun a h1 h2 => tDS_o _ _ _ _ h1 h2, fun a h1 => am_up_n _ _ h1⟩
    · rw [if_neg ht]
      rw [show tl pa H M k w = false by simpa using ht] at hc
      refine r_aload_n dX10_fewestLooks_32 rfl ?_
      refine r_lload_n dX10_fewestLooks_33 rfl ?_
      refine r_iload_n dX10_fewestLooks_34 rfl ?_
      refine r_iconst (v := (-1)) dX10_fewestLooks_35 (by decide) ?_
      refine r_virt hc lk_X10_458 mc_X10_tells dX10_fewestLooks_36 hM.1 (by decide) rfl rfl (Nat.le_of_ble_eq_true rfl) (Nat.le_of_eq (Nat.zero_add _)) (Nat.le_of_eq (Nat.zero_add _)) (fun _ _ _ _ _ _ hx => by obtain ⟨_, _, _, hx⟩ := hx; exact nomatch hx.1) (fun v n2 kd2 I2 J2 P2 hx => ?_)
      obtain ⟨Am, Dr, Sh, hv, rfl, rfl, rfl, rfl, rfl⟩ := hx
      cases hv
      refine r_if_ne (tgt := 48) dX10_fewestLooks_39 (by decide) (fun hz => absurd (show _ from (by decide)) hz) (fun _ => ?_)
      refine r_iinc (v := nI (k + 1)) dX10_fewestLooks_42 rfl (nI_inc k) ?_
      refine r_goto (tgt := 32) dX10_fewestLooks_45 (by decide) ?_
      have hf2 : twF m I (tDS I m Dr Sh) J (va_up J (m + 29) Am) := ⟨fun a h1 h2 => tDS_o _ _ _ _ h1 h2, fun a h1 => am_up_n _ _ h1⟩
      refine RuZ.mono (ih (k + 1) _ _ (by omega) (hf.tr hf2)) (fun z n2 kd2 I2 J2 P2 hx => ?_)
      exact ⟨hx.1, hx.2.1, hx.2.2.1, hx.2.2.2.1, hf2.tr hx.2.2.2.2⟩

/-- the fewest looks that tell which of the found numberings holds -/
def lookV (H : Nat) (fs : List (Nat → Nat)) : Nat := gV (alF (nmF fs) fs.length) fs.length H 8 0 (2 ^ fs.length - 1)
theorem lookV_8 (H : Nat) (fs : List (Nat → Nat)) : lookV H fs ≤ 8 := gV_8 _ _ _ _ _ _
theorem lookV_nl {H M : Nat} {fs : List (Nat → Nat)} (hH : H ≤ 8) (hd : fDif H fs) (hr : fRng H M fs) : nl (paF (nmF fs) fs.length) H M (2 ^ fs.length - 1) 8 0 = lookV H fs ∧ tl (paF (nmF fs) fs.length) H M 8 (2 ^ fs.length - 1) = true := by
  have hw : ∀ j, (2 ^ fs.length - 1).testBit j = true → j < fs.length := fun j hj => by rw [Nat.testBit_two_pow_sub_one, decide_eq_true_iff] at hj; exact hj
  refine ⟨nl_gV hH (alF_O _ _ _) (paF_O _ _ _ _) (fun i h hi hh => nmF_rng hr i h hi hh) hw, ?_⟩
  exact tl_all hH (paF_O _ _ _ _) (fun i j hi hj hij => nmF_dif hd i j hi hj hij) 8 0 _ (by decide) (by decide) (fun i j h _ hD => by rw [Nat.zero_testBit] at hD; exact nomatch hD) hw
def flG (n : Nat) (kd : mK) (I : mI) (J : mJ) (P : mP) (m H : Nat) (res : Nat × List (Nat → Nat) × Bool) : am_Post := fun z n' kd' I' J' P' => z = .inl (some (.int (if fwB res = true then nI (lookV H res.2.1) else -2))) ∧ n' = n ∧ kd' = kd ∧ P' = P ∧ (∀ a, a ≠ m → a ≠ m + 25 → a ≠ m + 26 → a ≠ m + 27 → a ≠ m + 30 → a ≠ m + 31 → I' a = I a) ∧ (∀ j, j ≠ 52 → j ≠ 53 → I' m j = I m j) ∧ (∀ a, a ≠ m + 28 → a ≠ m + 29 → J' a = J a)
set_option maxHeartbeats 4000000 in
set_option maxRecDepth 100000 in
theorem c_X10_fewestLooks (m H M L : Nat) (lk : Nat → Nat) (rid : Nat → List Nat) (un : Bool) (Lt so de : Nat → Int32) (rb : Nat → Bool) (res : Nat × List (Nat → Nat) × Bool) {n : Nat} {kd : mK} {I : mI} {J : mJ} {P : mP} (hR : rfS kd P I m H M L lk rid un Lt so de rb) (hH8 : H ≤ 8) (hM20 : M ≤ 20) (hr : ∀ k, k < H → bt (spR (I (m + 3)) (I (m + 4)) H) k = true → rb k = true) (hsk : skTop (TN un Lt L (spR (I (m + 3)) (I (m + 4)) H) (nI 1) lk (tvN so de (nI M) H rid) H) noB H M 1001 = some res) : Ct yX10_fewestLooks cX10_fewestLooks 4 (some .int) 8 0 0 [.ref m] n kd I J P (flG n kd I J P m H res) := by
  refine ct_of 3 (by decide +kernel) (Nat.le_of_ble_eq_true rfl) rfl ?_
  have hdr := skTop_dif hsk
  have hM := hR.1
  refine r_aload_n dX10_fewestLooks_0 rfl ?_
  refine r_virt (c_X10_isFew m H M L lk rid un Lt so de rb res hR hH8 hM20 hr hsk) lk_X10_462 mc_X10_isFew dX10_fewestLooks_1 hR.1.1 (by decide) rfl rfl (Nat.le_of_ble_eq_true rfl) (Nat.le_of_eq (Nat.zero_add _)) (Nat.le_of_eq (Nat.zero_add _)) (fun _ _ _ _ _ _ h => nomatch h.1) ?_
  rintro v n1 kd1 I1 J1 P1 ⟨h0, rfl, rfl, rfl, hf, h52, hj, hpa⟩
  cases h0
  simp only [Option.toList, List.cons_append, List.nil_append]
  have hH1 : I1 m 1 = nI H := by rw [hf.2 1 (by decide) (by decide)]; exact hR.2.1
  have hH2 : I1 m 2 = nI M := by rw [hf.2 2 (by decide) (by decide)]; exact hR.2.2.1
  by_cases hB : fwB res = true
  · rw [hB]
    have h52 := h52 hB
    have h40 : res.2.1.length ≤ 40 := by unfold fwB at hB; rw [Bool.and_eq_true, decide_eq_true_iff] at hB; exact hB.2
    have hw40 : 2 ^ res.2.1.length - 1 < 2 ^ 40 := Nat.lt_of_lt_of_le (Nat.sub_lt (Nat.two_pow_pos _) (by decide)) (Nat.pow_le_pow_right (by decide) h40)
    by_cases hc0 : res.2.1.length = 0
    · have e0 : (0 : Int64) = jN (2 ^ res.2.1.length - 1) := by rw [hc0]; exact jN_0.symm
      refine r_if_ne (tgt := 10) dX10_fewestLooks_4 (by decide) (fun _ => ?_) (fun hz => absurd hz (show ¬ _ from (by decide)))
      refine r_aload_n dX10_fewestLooks_10 rfl ?_
      refine r_getI dX10_fewestLooks_11 fl_X10_413 rfl (kM_0 hM) ?_
      rw [h52]
      refine r_if_ne (tgt := 21) dX10_fewestLooks_14 (by decide) (fun hz => absurd (show _ from (by rw [hc0]; rfl)) hz) (fun _ => ?_)
      refine r_lconst (v := 0) dX10_fewestLooks_17 (by decide) ?_
      rw [e0]
      refine r_goto (tgt := 29) dX10_fewestLooks_18 (by decide) ?_
      refine r_lstore_n dX10_fewestLooks_29 (by decide) ?_
      refine r_iconst (v := nI 0) dX10_fewestLooks_30 (by decide) ?_
      refine r_istore_n dX10_fewestLooks_31 (by decide) ?_
      have hlv := lookV_nl hH8 hdr.1 hdr.2
      have hl := rl_loop (n := n1) (J0 := J1) m H M (2 ^ res.2.1.length - 1) (paF (nmF res.2.1) res.2.1.length) hM hH1 hH2 (fun h v hh h1 h2 => hpa hB h v hh (by omega)) hH8 hM20 hw40 (fun ho => by
        apply Classical.byContradiction
        intro hz
        have e : H = 0 := by omega
        have h8 := hlv.2
        rw [e] at h8
        unfold tl at h8
        rw [Bool.or_eq_true] at h8
        exact h8.elim ho (fun q => nomatch q)) hlv.2 8 0 I1 J1 (by omega) twF.rf
      rw [hlv.1] at hl
      refine RuZ.mono hl (fun z n2 kd2 I2 J2 P2 hx => ?_)
      obtain ⟨h0, rfl, rfl, rfl, hg⟩ := hx
      refine ⟨by rw [h0, if_pos hB], rfl, rfl, rfl, fun a a1 a2 a3 a4 a5 a6 => (hg.1 a a5 a6).trans (hf.1 a a1 a2 a3 a4), fun j j1 j2 => ?_, fun a a1 a2 => (hg.2 a a2).trans (hj a a1)⟩
      rw [hg.1 m (by omega) (by omega)]
      exact hf.2 j j1 j2
    · skip
      refine r_if_ne (tgt := 10) dX10_fewestLooks_4 (by decide) (fun _ => ?_) (fun hz => absurd hz (show ¬ _ from (by decide)))
      refine r_aload_n dX10_fewestLooks_10 rfl ?_
      refine r_getI dX10_fewestLooks_11 fl_X10_413 rfl (kM_0 hM) ?_
      rw [h52]
      refine r_if_ne (tgt := 21) dX10_fewestLooks_14 (by decide) (fun _ => ?_) (fun hz => absurd hz (show ¬ _ from (by rw [z_eq (by omega)]; exact hc0)))
      refine r_lconst (v := 1) dX10_fewestLooks_21 (by decide) ?_
      refine r_aload_n dX10_fewestLooks_22 rfl ?_
      refine r_getI dX10_fewestLooks_23 fl_X10_413 rfl (kM_0 hM) ?_
      rw [h52]
      refine r_lshl dX10_fewestLooks_26 ?_
      refine r_lconst (v := 1) dX10_fewestLooks_27 (by decide) ?_
      refine r_lsub dX10_fewestLooks_28 ?_
      rw [sh_jN _ h40]
      refine r_lstore_n dX10_fewestLooks_29 (by decide) ?_
      refine r_iconst (v := nI 0) dX10_fewestLooks_30 (by decide) ?_
      refine r_istore_n dX10_fewestLooks_31 (by decide) ?_
      have hlv := lookV_nl hH8 hdr.1 hdr.2
      have hl := rl_loop (n := n1) (J0 := J1) m H M (2 ^ res.2.1.length - 1) (paF (nmF res.2.1) res.2.1.length) hM hH1 hH2 (fun h v hh h1 h2 => hpa hB h v hh (by omega)) hH8 hM20 hw40 (fun ho => by
        apply Classical.byContradiction
        intro hz
        have e : H = 0 := by omega
        have h8 := hlv.2
        rw [e] at h8
        unfold tl at h8
        rw [Bool.or_eq_true] at h8
        exact h8.elim ho (fun q => nomatch q)) hlv.2 8 0 I1 J1 (by omega) twF.rf
      rw [hlv.1] at hl
      refine RuZ.mono hl (fun z n2 kd2 I2 J2 P2 hx => ?_)
      obtain ⟨h0, rfl, rfl, rfl, hg⟩ := hx
      refine ⟨by rw [h0, if_pos hB], rfl, rfl, rfl, fun a a1 a2 a3 a4 a5 a6 => (hg.1 a a5 a6).trans (hf.1 a a1 a2 a3 a4), fun j j1 j2 => ?_, fun a a1 a2 => (hg.2 a a2).trans (hj a a1)⟩
      rw [hg.1 m (by omega) (by omega)]
      exact hf.2 j j1 j2
  · simp only [Bool.not_eq_true] at hB
    rw [hB]
    refine r_if_ne (tgt := 10) dX10_fewestLooks_4 (by decide) (fun hz => absurd (show _ from (by decide)) hz) (fun _ => ?_)
    refine r_bipush (v := (-2)) dX10_fewestLooks_7 (by decide) ?_
    refine r_iret rfl dX10_fewestLooks_9 ?_
    exact ⟨by rw [hB]; rfl, rfl, rfl, rfl, fun a a1 a2 a3 a4 _ _ => hf.1 a a1 a2 a3 a4, hf.2, fun a a1 _ => hj a a1⟩

