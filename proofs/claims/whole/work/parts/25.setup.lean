/-! SEARCH: its picture; a search set up -/
def kQ (kd : mK) (P : mP) (o : Nat) : Prop := kd o = some (0, 6) ∧ kd (o + 1) = some (1, 8) ∧ kd (o + 2) = some (1, 8) ∧ kd (o + 3) = some (1, 8) ∧ kd (o + 4) = some (4, 1000) ∧ kd (o + 5) = some (1, 8) ∧ P o 2 = some (o + 1) ∧ P o 3 = some (o + 2) ∧ P o 6 = some (o + 3) ∧ P o 7 = some (o + 4) ∧ P o 8 = some (o + 5)
theorem kS.up {kd : mK} {P : mP} {b : Nat} (h : kS kd P b) {o : Nat} {r : Nat → Option Nat} (ho : b ≠ o) : kS kd (va_up P o r) b := by unfold kS at h ⊢; rw [am_up_n P r ho]; exact h
theorem kL.up {kd : mK} {P : mP} {b : Nat} (h : kL kd P b) {o : Nat} {r : Nat → Option Nat} (ho : b ≠ o) : kL kd (va_up P o r) b := by unfold kL at h ⊢; rw [am_up_n P r ho]; exact h
theorem kQ.up {kd : mK} {P : mP} {b : Nat} (h : kQ kd P b) {o : Nat} {r : Nat → Option Nat} (ho : b ≠ o) : kQ kd (va_up P o r) b := by unfold kQ at h ⊢; rw [am_up_n P r ho]; exact h
theorem am_up_cm {α : Type} (F : Nat → α) {a b : Nat} (x y : α) (h : a ≠ b) : va_up (va_up F a x) b y = va_up (va_up F b y) a x := by
  funext c
  by_cases h1 : c = a
  · subst h1; rw [am_up_n _ _ h, am_up_s, am_up_s]
  · by_cases h2 : c = b
    · subst h2; rw [am_up_s, am_up_n _ _ h1, am_up_s]
    · rw [am_up_n _ _ h2, am_up_n _ _ h1, am_up_n _ _ h1, am_up_n _ _ h2]
/-- riddles asked with each house, as bits -/
def askR (r : Int32) (lk : Nat → Nat) (A0 : Nat → Int32) : Nat → Nat → Int32
  | 0 => A0
  | i + 1 => if bt r i then va_up (askR r lk A0 i) (awS (lk i) i) (askR r lk A0 i (awS (lk i) i) ||| (nI 1 <<< (nI i &&& 31))) else askR r lk A0 i
def alwR (f : Nat → Int32) (B0 : Nat → Int32) : Nat → Nat → Int32
  | 0 => B0
  | i + 1 => va_up (alwR f B0 i) i (f i)
/-- what the looks of each house's riddle are, by the memory -/
def lkOk (I : mI) (b H : Nat) (lk : Nat → Nat) : Prop := ∀ h, h < H → I (b + 1) h &&& ((nI 1 <<< (I b 0 &&& 31)) - nI 1) = nI (lk h) ∧ lk h < 2 ^ H
theorem dX6_bar_0 : decode cX6_bar 0 = .ok (.aload_n 0, 1) := by decide +kernel
theorem dX6_bar_1 : decode cX6_bar 1 = .ok (.iload_n 1, 1) := by decide +kernel
theorem dX6_bar_2 : decode cX6_bar 2 = .ok (.putfield 26, 3) := by decide +kernel
theorem dX6_bar_5 : decode cX6_bar 5 = .ok (.aload_n 0, 1) := by decide +kernel
theorem dX6_bar_6 : decode cX6_bar 6 = .ok (.iload_n 2, 1) := by decide +kernel
theorem dX6_bar_7 : decode cX6_bar 7 = .ok (.putfield 30, 3) := by decide +kernel
theorem dX6_bar_10 : decode cX6_bar 10 = .ok (.return_, 1) := by decide +kernel
set_option maxHeartbeats 4000000 in
set_option maxRecDepth 100000 in
theorem c_X6_bar (o : Nat) (x y : Int32) {n : Nat} {kd : mK} {I : mI} {J : mJ} {P : mP} (hQ : kQ kd P o) : Ct yX6_bar cX6_bar 3 none 1 0 0 [.ref o, .int x, .int y] n kd I J P (am_is none n kd (va_up I o (va_up (va_up (I o) 4 x) 5 y)) J P) := by
  obtain ⟨t0, t1, t2, t3, t4, t5, u2, u3, u6, u7, u8⟩ := hQ
  refine ct_of 0 (by decide +kernel) (Nat.le_of_ble_eq_true rfl) rfl ?_
  refine r_aload_n dX6_bar_0 rfl ?_
  refine r_iload_n dX6_bar_1 rfl ?_
  refine r_putI dX6_bar_2 fl_X6_26 rfl rfl (by assumption) ?_
  refine r_aload_n dX6_bar_5 rfl ?_
  refine r_iload_n dX6_bar_6 rfl ?_
  refine r_putI dX6_bar_7 fl_X6_30 rfl rfl (by assumption) ?_
  refine r_vret rfl dX6_bar_10 ?_
  rw [am_up_s I, am_up_up I]
  exact am_is.mk

theorem dX6_setUp_0 : decode cX6_setUp 0 = .ok (.aload_n 0, 1) := by decide +kernel
theorem dX6_setUp_1 : decode cX6_setUp 1 = .ok (.aload_n 1, 1) := by decide +kernel
theorem dX6_setUp_2 : decode cX6_setUp 2 = .ok (.putfield 9, 3) := by decide +kernel
theorem dX6_setUp_5 : decode cX6_setUp 5 = .ok (.aload_n 0, 1) := by decide +kernel
theorem dX6_setUp_6 : decode cX6_setUp 6 = .ok (.aload_n 2, 1) := by decide +kernel
theorem dX6_setUp_7 : decode cX6_setUp 7 = .ok (.putfield 15, 3) := by decide +kernel
theorem dX6_setUp_10 : decode cX6_setUp 10 = .ok (.aload_n 0, 1) := by decide +kernel
theorem dX6_setUp_11 : decode cX6_setUp 11 = .ok (.iconst (-1), 1) := by decide +kernel
theorem dX6_setUp_12 : decode cX6_setUp 12 = .ok (.putfield 26, 3) := by decide +kernel
theorem dX6_setUp_15 : decode cX6_setUp 15 = .ok (.aload_n 0, 1) := by decide +kernel
theorem dX6_setUp_16 : decode cX6_setUp 16 = .ok (.getfield 19, 3) := by decide +kernel
theorem dX6_setUp_19 : decode cX6_setUp 19 = .ok (.iconst 0, 1) := by decide +kernel
theorem dX6_setUp_20 : decode cX6_setUp 20 = .ok (.invokestatic 49, 3) := by decide +kernel
theorem dX6_setUp_23 : decode cX6_setUp 23 = .ok (.iconst 0, 1) := by decide +kernel
theorem dX6_setUp_24 : decode cX6_setUp 24 = .ok (.istore 5, 2) := by decide +kernel
theorem dX6_setUp_26 : decode cX6_setUp 26 = .ok (.iload 5, 2) := by decide +kernel
theorem dX6_setUp_28 : decode cX6_setUp 28 = .ok (.aload_n 1, 1) := by decide +kernel
theorem dX6_setUp_29 : decode cX6_setUp 29 = .ok (.getfield 55, 3) := by decide +kernel
theorem dX6_setUp_32 : decode cX6_setUp 32 = .ok (.if_icmp .ge 58, 3) := by decide +kernel
theorem dX6_setUp_35 : decode cX6_setUp 35 = .ok (.iload_n 3, 1) := by decide +kernel
theorem dX6_setUp_36 : decode cX6_setUp 36 = .ok (.iload 5, 2) := by decide +kernel
theorem dX6_setUp_38 : decode cX6_setUp 38 = .ok (.ishr, 1) := by decide +kernel
theorem dX6_setUp_39 : decode cX6_setUp 39 = .ok (.iconst 1, 1) := by decide +kernel
theorem dX6_setUp_40 : decode cX6_setUp 40 = .ok (.iand, 1) := by decide +kernel
theorem dX6_setUp_41 : decode cX6_setUp 41 = .ok (.ifCond .eq 21, 3) := by decide +kernel
theorem dX6_setUp_44 : decode cX6_setUp 44 = .ok (.aload_n 0, 1) := by decide +kernel
theorem dX6_setUp_45 : decode cX6_setUp 45 = .ok (.getfield 19, 3) := by decide +kernel
theorem dX6_setUp_48 : decode cX6_setUp 48 = .ok (.aload_n 1, 1) := by decide +kernel
theorem dX6_setUp_49 : decode cX6_setUp 49 = .ok (.iload 5, 2) := by decide +kernel
theorem dX6_setUp_51 : decode cX6_setUp 51 = .ok (.invokevirtual 60, 3) := by decide +kernel
theorem dX6_setUp_54 : decode cX6_setUp 54 = .ok (.dup2, 1) := by decide +kernel
theorem dX6_setUp_55 : decode cX6_setUp 55 = .ok (.iaload, 1) := by decide +kernel
theorem dX6_setUp_56 : decode cX6_setUp 56 = .ok (.iconst 1, 1) := by decide +kernel
theorem dX6_setUp_57 : decode cX6_setUp 57 = .ok (.iload 5, 2) := by decide +kernel
theorem dX6_setUp_59 : decode cX6_setUp 59 = .ok (.ishl, 1) := by decide +kernel
theorem dX6_setUp_60 : decode cX6_setUp 60 = .ok (.ior, 1) := by decide +kernel
theorem dX6_setUp_61 : decode cX6_setUp 61 = .ok (.iastore, 1) := by decide +kernel
theorem dX6_setUp_62 : decode cX6_setUp 62 = .ok (.aload_n 0, 1) := by decide +kernel
theorem dX6_setUp_63 : decode cX6_setUp 63 = .ok (.getfield 23, 3) := by decide +kernel
theorem dX6_setUp_66 : decode cX6_setUp 66 = .ok (.iload 5, 2) := by decide +kernel
theorem dX6_setUp_68 : decode cX6_setUp 68 = .ok (.iload 4, 2) := by decide +kernel
theorem dX6_setUp_70 : decode cX6_setUp 70 = .ok (.ifCond .eq 12, 3) := by decide +kernel
theorem dX6_setUp_73 : decode cX6_setUp 73 = .ok (.aload_n 2, 1) := by decide +kernel
theorem dX6_setUp_74 : decode cX6_setUp 74 = .ok (.iload 5, 2) := by decide +kernel
theorem dX6_setUp_76 : decode cX6_setUp 76 = .ok (.invokevirtual 64, 3) := by decide +kernel
theorem dX6_setUp_79 : decode cX6_setUp 79 = .ok (.goto 4, 3) := by decide +kernel
theorem dX6_setUp_82 : decode cX6_setUp 82 = .ok (.iconst (-1), 1) := by decide +kernel
theorem dX6_setUp_83 : decode cX6_setUp 83 = .ok (.iastore, 1) := by decide +kernel
theorem dX6_setUp_84 : decode cX6_setUp 84 = .ok (.iinc 5 1, 3) := by decide +kernel
theorem dX6_setUp_87 : decode cX6_setUp 87 = .ok (.goto (-61), 3) := by decide +kernel
theorem dX6_setUp_90 : decode cX6_setUp 90 = .ok (.return_, 1) := by decide +kernel

set_option maxHeartbeats 4000000 in
set_option maxRecDepth 100000 in
theorem w_X6_setUp (o b l H L : Nat) (r w : Int32) (lk : Nat → Nat) (f A0 B0 : Nat → Int32) {n : Nat} {kd : mK} {I : mI} {J : mJ} {P : mP} (hS : kS kd P b) (hL : kL kd P l) (hQ : kQ kd P o) (hbl : b + 9 < l) (hlo : l + 5 < o) (hH8 : H ≤ 8) (hH : I b 0 = nI H) (hLe : I l 7 = nI L) (hL10 : L ≤ 10) (hlk : lkOk I b H lk) (hf : ∀ i, i < H → f i = if w = 0 then -1 else llv (I (l + 4)) (I (l + 5)) (nI i) L) : ∀ (k i : Nat), i + k = H → Ru yX6_setUp.cls cX6_setUp 6 none yX6_setUp.name 4 (am_is none n kd (va_up (va_up I (o + 1) (askR r lk A0 H)) (o + 2) (alwR f B0 H)) J P) 0 0 26 [some (.ref o), some (.ref b), some (.ref l), some (.int r), some (.int w), some (.int (nI i))] [] n kd (va_up (va_up I (o + 1) (askR r lk A0 i)) (o + 2) (alwR f B0 i)) J P := by
  have hS0 := hS
  obtain ⟨s0, s1, s2, s3, s4, s5, s6, s7, s8, s9, p4, p5, p7, p8, p9, p11, p12, p13, p14⟩ := hS
  have hL0 := hL
  obtain ⟨l0, l1, l2, l3, l4, l5, q0, q1, q3, q5, q6⟩ := hL
  obtain ⟨t0, t1, t2, t3, t4, t5, u2, u3, u6, u7, u8⟩ := hQ
  intro k
  induction k with
  | zero =>
    intro i hi
    have hi : i = H := by omega
    subst hi
    refine r_iload dX6_setUp_26 rfl ?_
    refine r_aload_n dX6_setUp_28 rfl ?_
    refine r_getI dX6_setUp_29 fl_X6_55 rfl s0 ?_
    rw [am_up_n _ _ (by omega : b ≠ o + 2), am_up_n _ _ (by omega : b ≠ o + 1), hH]
    refine r_icmp_ge (tgt := 90) dX6_setUp_32 (by decide) (fun _ => ?_) (fun hz => absurd (show _ from (by rw [nI_leI (by omega) (by omega)]; omega)) hz)
    refine r_vret rfl dX6_setUp_90 ?_
    exact am_is.mk
  | succ k ih =>
    intro i hi
    have hm : (if nI i < (va_up (va_up I (o + 1) (askR r lk A0 i)) (o + 2) (alwR f B0 i)) b 0 then (va_up (va_up I (o + 1) (askR r lk A0 i)) (o + 2) (alwR f B0 i)) (b + 1) i &&& ((nI 1 <<< ((va_up (va_up I (o + 1) (askR r lk A0 i)) (o + 2) (alwR f B0 i)) b 0 &&& 31)) - nI 1) else nI 0) = nI (lk i) := by
      have h1 : (va_up (va_up I (o + 1) (askR r lk A0 i)) (o + 2) (alwR f B0 i)) b = I b := by rw [am_up_n _ _ (by omega : b ≠ o + 2), am_up_n _ _ (by omega : b ≠ o + 1)]
      have h2 : (va_up (va_up I (o + 1) (askR r lk A0 i)) (o + 2) (alwR f B0 i)) (b + 1) = I (b + 1) := by rw [am_up_n _ _ (by omega : b + 1 ≠ o + 2), am_up_n _ _ (by omega : b + 1 ≠ o + 1)]
      rw [h1, h2, if_pos (by rw [hH, nI_ltI (by omega) (by omega)]; omega)]
      exact (hlk i (by omega)).1
    have haw : awS (lk i) i < 8 := by
      unfold awS
      split
      · omega
      · rename_i h0
        have h1 := (hlk i (by omega)).2
        have h2 : 2 ^ H ≤ 2 ^ 8 := Nat.pow_le_pow_right (by omega) hH8
        exact (Nat.log2_lt h0).mpr (by omega)
    by_cases hb : bt r i = true
    · by_cases hw : w = 0
      · skip
        refine r_iload dX6_setUp_26 rfl ?_
        refine r_aload_n dX6_setUp_28 rfl ?_
        refine r_getI dX6_setUp_29 fl_X6_55 rfl s0 ?_
        rw [am_up_n _ _ (by omega : b ≠ o + 2), am_up_n _ _ (by omega : b ≠ o + 1), hH]
        refine r_icmp_ge (tgt := 90) dX6_setUp_32 (by decide) (fun hz => absurd hz (show ¬ _ from (by rw [nI_leI (by omega) (by omega)]; omega))) (fun _ => ?_)
        refine r_iload_n dX6_setUp_35 rfl ?_
        refine r_iload dX6_setUp_36 rfl ?_
        refine r_ishr dX6_setUp_38 ?_
        refine r_iconst (v := nI 1) dX6_setUp_39 (by decide) ?_
        refine r_iand dX6_setUp_40 ?_
        refine r_if_eq (tgt := 62) dX6_setUp_41 (by decide) (fun hz => absurd hz (show ¬ _ from (by rw [b_ask0 r (by omega)]; simp [hb]))) (fun _ => ?_)
        refine r_aload_n dX6_setUp_44 rfl ?_
        refine r_getR dX6_setUp_45 fl_X6_19 rfl (by assumption) (by assumption) ?_
        refine r_aload_n dX6_setUp_48 rfl ?_
        refine r_iload dX6_setUp_49 rfl ?_
        refine r_virtE (c_X7_askedWith b i (lk i) hS0 (by omega) hm (by have := (hlk i (by omega)).2; have : 2 ^ H ≤ 2 ^ 8 := Nat.pow_le_pow_right (by omega) hH8; omega)) lk_X6_60 mc_X7_askedWith dX6_setUp_51 s0 (by decide) rfl rfl (Nat.le_of_ble_eq_true rfl) ?_
        refine r_dup2 dX6_setUp_54 rfl rfl ?_
        refine r_iald dX6_setUp_55 t1 (nI_in8 8 haw (by decide)) (nI_clamp (by omega)) ?_
        rw [am_up_n _ _ (by omega : o + 1 ≠ o + 2), am_up_s I]
        refine r_iconst (v := nI 1) dX6_setUp_56 (by decide) ?_
        refine r_iload dX6_setUp_57 rfl ?_
        refine r_ishl dX6_setUp_59 ?_
        refine r_ior dX6_setUp_60 ?_
        refine r_iast dX6_setUp_61 t1 (nI_in8 8 haw (by decide)) (nI_clamp (by omega)) ?_
        rw [am_up_n _ _ (by omega : o + 1 ≠ o + 2), am_up_s I, ← am_up_cm _ _ _ (by omega : o + 1 ≠ o + 2), am_up_up I]
        refine r_aload_n dX6_setUp_62 rfl ?_
        refine r_getR dX6_setUp_63 fl_X6_23 rfl (by assumption) (by assumption) ?_
        refine r_iload dX6_setUp_66 rfl ?_
        refine r_iload dX6_setUp_68 rfl ?_
        refine r_if_eq (tgt := 82) dX6_setUp_70 (by decide) (fun _ => ?_) (fun hz => absurd (show _ from hw) hz)
        refine r_iconst (v := (-1)) dX6_setUp_82 (by decide) ?_
        refine r_iast dX6_setUp_83 t2 (nI_in8 8 (by omega) (by decide)) (nI_clamp (by omega)) ?_
        rw [am_up_s, am_up_up]
        refine r_iinc (v := nI (i + 1)) dX6_setUp_84 rfl (nI_inc i) ?_
        refine r_goto (tgt := 26) dX6_setUp_87 (by decide) ?_
        have hgo := ih (i + 1) (by omega)
        rw [askR, if_pos hb, alwR, hf i (by omega), if_pos hw] at hgo
        exact hgo
      · skip
        refine r_iload dX6_setUp_26 rfl ?_
        refine r_aload_n dX6_setUp_28 rfl ?_
        refine r_getI dX6_setUp_29 fl_X6_55 rfl s0 ?_
        rw [am_up_n _ _ (by omega : b ≠ o + 2), am_up_n _ _ (by omega : b ≠ o + 1), hH]
        refine r_icmp_ge (tgt := 90) dX6_setUp_32 (by decide) (fun hz => absurd hz (show ¬ _ from (by rw [nI_leI (by omega) (by omega)]; omega))) (fun _ => ?_)
        refine r_iload_n dX6_setUp_35 rfl ?_
        refine r_iload dX6_setUp_36 rfl ?_
        refine r_ishr dX6_setUp_38 ?_
        refine r_iconst (v := nI 1) dX6_setUp_39 (by decide) ?_
        refine r_iand dX6_setUp_40 ?_
        refine r_if_eq (tgt := 62) dX6_setUp_41 (by decide) (fun hz => absurd hz (show ¬ _ from (by rw [b_ask0 r (by omega)]; simp [hb]))) (fun _ => ?_)
        refine r_aload_n dX6_setUp_44 rfl ?_
        refine r_getR dX6_setUp_45 fl_X6_19 rfl (by assumption) (by assumption) ?_
        refine r_aload_n dX6_setUp_48 rfl ?_
        refine r_iload dX6_setUp_49 rfl ?_
        refine r_virtE (c_X7_askedWith b i (lk i) hS0 (by omega) hm (by have := (hlk i (by omega)).2; have : 2 ^ H ≤ 2 ^ 8 := Nat.pow_le_pow_right (by omega) hH8; omega)) lk_X6_60 mc_X7_askedWith dX6_setUp_51 s0 (by decide) rfl rfl (Nat.le_of_ble_eq_true rfl) ?_
        refine r_dup2 dX6_setUp_54 rfl rfl ?_
        refine r_iald dX6_setUp_55 t1 (nI_in8 8 haw (by decide)) (nI_clamp (by omega)) ?_
        rw [am_up_n _ _ (by omega : o + 1 ≠ o + 2), am_up_s I]
        refine r_iconst (v := nI 1) dX6_setUp_56 (by decide) ?_
        refine r_iload dX6_setUp_57 rfl ?_
        refine r_ishl dX6_setUp_59 ?_
        refine r_ior dX6_setUp_60 ?_
        refine r_iast dX6_setUp_61 t1 (nI_in8 8 haw (by decide)) (nI_clamp (by omega)) ?_
        rw [am_up_n _ _ (by omega : o + 1 ≠ o + 2), am_up_s I, ← am_up_cm _ _ _ (by omega : o + 1 ≠ o + 2), am_up_up I]
        refine r_aload_n dX6_setUp_62 rfl ?_
        refine r_getR dX6_setUp_63 fl_X6_23 rfl (by assumption) (by assumption) ?_
        refine r_iload dX6_setUp_66 rfl ?_
        refine r_iload dX6_setUp_68 rfl ?_
        refine r_if_eq (tgt := 82) dX6_setUp_70 (by decide) (fun hz => absurd hz (show ¬ _ from hw)) (fun _ => ?_)
        refine r_aload_n dX6_setUp_73 rfl ?_
        refine r_iload dX6_setUp_74 rfl ?_
        refine r_virtE (c_X2_lettersLeave l L (nI i) hL0 (by rw [am_up_n _ _ (by omega : l ≠ o + 2), am_up_n _ _ (by omega : l ≠ o + 1)]; exact hLe) hL10) lk_X6_64 mc_X2_lettersLeave dX6_setUp_76 l0 (by decide) rfl rfl (Nat.le_of_ble_eq_true rfl) ?_
        rw [am_up_n _ _ (by omega : l + 4 ≠ o + 2), am_up_n _ _ (by omega : l + 4 ≠ o + 1), am_up_n _ _ (by omega : l + 5 ≠ o + 2), am_up_n _ _ (by omega : l + 5 ≠ o + 1)]
        refine r_goto (tgt := 83) dX6_setUp_79 (by decide) ?_
        refine r_iast dX6_setUp_83 t2 (nI_in8 8 (by omega) (by decide)) (nI_clamp (by omega)) ?_
        rw [am_up_s, am_up_up]
        refine r_iinc (v := nI (i + 1)) dX6_setUp_84 rfl (nI_inc i) ?_
        refine r_goto (tgt := 26) dX6_setUp_87 (by decide) ?_
        have hgo := ih (i + 1) (by omega)
        rw [askR, if_pos hb, alwR, hf i (by omega), if_neg hw] at hgo
        exact hgo
    · by_cases hw : w = 0
      · skip
        refine r_iload dX6_setUp_26 rfl ?_
        refine r_aload_n dX6_setUp_28 rfl ?_
        refine r_getI dX6_setUp_29 fl_X6_55 rfl s0 ?_
        rw [am_up_n _ _ (by omega : b ≠ o + 2), am_up_n _ _ (by omega : b ≠ o + 1), hH]
        refine r_icmp_ge (tgt := 90) dX6_setUp_32 (by decide) (fun hz => absurd hz (show ¬ _ from (by rw [nI_leI (by omega) (by omega)]; omega))) (fun _ => ?_)
        refine r_iload_n dX6_setUp_35 rfl ?_
        refine r_iload dX6_setUp_36 rfl ?_
        refine r_ishr dX6_setUp_38 ?_
        refine r_iconst (v := nI 1) dX6_setUp_39 (by decide) ?_
        refine r_iand dX6_setUp_40 ?_
        refine r_if_eq (tgt := 62) dX6_setUp_41 (by decide) (fun _ => ?_) (fun hz => absurd (show _ from (by rw [b_ask0 r (by omega)]; simp [hb])) hz)
        refine r_aload_n dX6_setUp_62 rfl ?_
        refine r_getR dX6_setUp_63 fl_X6_23 rfl (by assumption) (by assumption) ?_
        refine r_iload dX6_setUp_66 rfl ?_
        refine r_iload dX6_setUp_68 rfl ?_
        refine r_if_eq (tgt := 82) dX6_setUp_70 (by decide) (fun _ => ?_) (fun hz => absurd (show _ from hw) hz)
        refine r_iconst (v := (-1)) dX6_setUp_82 (by decide) ?_
        refine r_iast dX6_setUp_83 t2 (nI_in8 8 (by omega) (by decide)) (nI_clamp (by omega)) ?_
        rw [am_up_s, am_up_up]
        refine r_iinc (v := nI (i + 1)) dX6_setUp_84 rfl (nI_inc i) ?_
        refine r_goto (tgt := 26) dX6_setUp_87 (by decide) ?_
        have hgo := ih (i + 1) (by omega)
        rw [askR, if_neg hb, alwR, hf i (by omega), if_pos hw] at hgo
        exact hgo
      · skip
        refine r_iload dX6_setUp_26 rfl ?_
        refine r_aload_n dX6_setUp_28 rfl ?_
        refine r_getI dX6_setUp_29 fl_X6_55 rfl s0 ?_
        rw [am_up_n _ _ (by omega : b ≠ o + 2), am_up_n _ _ (by omega : b ≠ o + 1), hH]
        refine r_icmp_ge (tgt := 90) dX6_setUp_32 (by decide) (fun hz => absurd hz (show ¬ _ from (by rw [nI_leI (by omega) (by omega)]; omega))) (fun _ => ?_)
        refine r_iload_n dX6_setUp_35 rfl ?_
        refine r_iload dX6_setUp_36 rfl ?_
        refine r_ishr dX6_setUp_38 ?_
        refine r_iconst (v := nI 1) dX6_setUp_39 (by decide) ?_
        refine r_iand dX6_setUp_40 ?_
        refine r_if_eq (tgt := 62) dX6_setUp_41 (by decide) (fun _ => ?_) (fun hz => absurd (show _ from (by rw [b_ask0 r (by omega)]; simp [hb])) hz)
        refine r_aload_n dX6_setUp_62 rfl ?_
        refine r_getR dX6_setUp_63 fl_X6_23 rfl (by assumption) (by assumption) ?_
        refine r_iload dX6_setUp_66 rfl ?_
        refine r_iload dX6_setUp_68 rfl ?_
        refine r_if_eq (tgt := 82) dX6_setUp_70 (by decide) (fun hz => absurd hz (show ¬ _ from hw)) (fun _ => ?_)
        refine r_aload_n dX6_setUp_73 rfl ?_
        refine r_iload dX6_setUp_74 rfl ?_
        refine r_virtE (c_X2_lettersLeave l L (nI i) hL0 (by rw [am_up_n _ _ (by omega : l ≠ o + 2), am_up_n _ _ (by omega : l ≠ o + 1)]; exact hLe) hL10) lk_X6_64 mc_X2_lettersLeave dX6_setUp_76 l0 (by decide) rfl rfl (Nat.le_of_ble_eq_true rfl) ?_
        rw [am_up_n _ _ (by omega : l + 4 ≠ o + 2), am_up_n _ _ (by omega : l + 4 ≠ o + 1), am_up_n _ _ (by omega : l + 5 ≠ o + 2), am_up_n _ _ (by omega : l + 5 ≠ o + 1)]
        refine r_goto (tgt := 83) dX6_setUp_79 (by decide) ?_
        refine r_iast dX6_setUp_83 t2 (nI_in8 8 (by omega) (by decide)) (nI_clamp (by omega)) ?_
        rw [am_up_s, am_up_up]
        refine r_iinc (v := nI (i + 1)) dX6_setUp_84 rfl (nI_inc i) ?_
        refine r_goto (tgt := 26) dX6_setUp_87 (by decide) ?_
        have hgo := ih (i + 1) (by omega)
        rw [askR, if_neg hb, alwR, hf i (by omega), if_neg hw] at hgo
        exact hgo

set_option maxHeartbeats 4000000 in
set_option maxRecDepth 100000 in
theorem c_X6_setUp (o b l H L : Nat) (r w : Int32) (lk : Nat → Nat) (f : Nat → Int32) {n : Nat} {kd : mK} {I : mI} {J : mJ} {P : mP} (hS : kS kd P b) (hL : kL kd P l) (hQ : kQ kd P o) (hbl : b + 9 < l) (hlo : l + 5 < o) (hH8 : H ≤ 8) (hH : I b 0 = nI H) (hLe : I l 7 = nI L) (hL10 : L ≤ 10) (hlk : lkOk I b H lk) (hf : ∀ i, i < H → f i = if w = 0 then -1 else llv (I (l + 4)) (I (l + 5)) (nI i) L) (ho : o < 1000000) : Ct yX6_setUp cX6_setUp 6 none 4 0 0 [.ref o, .ref b, .ref l, .int r, .int w] n kd I J P (am_is none n kd (va_up (va_up (va_up I o (va_up (I o) 4 (-1))) (o + 1) (askR r lk (fun j => if j < 8 then nI 0 else I (o + 1) j) H)) (o + 2) (alwR f (I (o + 2)) H)) J (va_up P o (va_up (va_up (P o) 0 (some b)) 1 (some l)))) := by
  have hQ0 := hQ
  obtain ⟨t0, t1, t2, t3, t4, t5, u2, u3, u6, u7, u8⟩ := hQ
  have hQ1 : kQ kd (va_up P o (va_up (va_up (P o) 0 (some b)) 1 (some l))) o := by
    refine ⟨t0, t1, t2, t3, t4, t5, ?_, ?_, ?_, ?_, ?_⟩ <;> rw [am_up_s P, am_up_n _ _ (by decide), am_up_n _ _ (by decide)] <;> assumption
  refine ct_of 1 (by decide +kernel) (Nat.le_of_ble_eq_true rfl) rfl ?_
  refine r_aload_n dX6_setUp_0 rfl ?_
  refine r_aload_n dX6_setUp_1 rfl ?_
  refine r_putR dX6_setUp_2 fl_X6_9 (Or.inl rfl) rfl t0 (by omega) ?_
  refine r_aload_n dX6_setUp_5 rfl ?_
  refine r_aload_n dX6_setUp_6 rfl ?_
  refine r_putR dX6_setUp_7 fl_X6_15 (Or.inl rfl) rfl t0 (by omega) ?_
  rw [am_up_s P, am_up_up P]
  refine r_aload_n dX6_setUp_10 rfl ?_
  refine r_iconst (v := (-1)) dX6_setUp_11 (by decide) ?_
  refine r_putI dX6_setUp_12 fl_X6_26 rfl rfl (by assumption) ?_
  refine r_aload_n dX6_setUp_15 rfl ?_
  refine r_getR dX6_setUp_16 fl_X6_19 rfl t0 (b := o + 1) (by rw [am_up_s P, am_up_n _ _ (by decide : (2 : Nat) ≠ 1), am_up_n _ _ (by decide : (2 : Nat) ≠ 0)]; exact u2) ?_
  refine r_iconst (v := nI 0) dX6_setUp_19 (by decide) ?_
  refine r_statV (c_J7_fill_53178 (o + 1) 8 (nI 0) t1 (by decide)) lk_X6_49 mc_J7_fill_53178 dX6_setUp_20 (by decide) rfl rfl (Nat.le_of_ble_eq_true rfl) ?_
  rw [am_up_n I _ (by omega : o + 1 ≠ o)]
  refine r_iconst (v := nI 0) dX6_setUp_23 (by decide) ?_
  refine r_istore dX6_setUp_24 (by decide) ?_
  have hw := w_X6_setUp (n := n) (kd := kd) (I := (va_up I o (va_up (I o) 4 (-1)))) (J := J) (P := (va_up P o (va_up (va_up (P o) 0 (some b)) 1 (some l)))) o b l H L r w lk f (fun j => if j < 8 then nI 0 else I (o + 1) j) (I (o + 2)) (hS.up (by omega)) (hL.up (by omega)) hQ1 hbl hlo hH8 (by rw [am_up_n I _ (by omega : b ≠ o)]; exact hH) (by rw [am_up_n I _ (by omega : l ≠ o)]; exact hLe) hL10 (by intro h hh; rw [am_up_n I _ (by omega : b + 1 ≠ o), am_up_n I _ (by omega : b ≠ o)]; exact hlk h hh) (by intro i hi; rw [am_up_n I _ (by omega : l + 4 ≠ o), am_up_n I _ (by omega : l + 5 ≠ o)]; exact hf i hi) H 0 (by omega)
  rw [askR, alwR, show va_up (va_up (va_up I o (va_up (I o) 4 (-1))) (o + 1) (fun j => if j < 8 then nI 0 else I (o + 1) j)) (o + 2) (I (o + 2)) = va_up (va_up I o (va_up (I o) 4 (-1))) (o + 1) (fun j => if j < 8 then nI 0 else I (o + 1) j) from by conv => lhs; rw [show I (o + 2) = (va_up (va_up I o (va_up (I o) 4 (-1))) (o + 1) (fun j => if j < 8 then nI 0 else I (o + 1) j)) (o + 2) from by rw [am_up_n _ _ (by omega : o + 2 ≠ o + 1), am_up_n I _ (by omega : o + 2 ≠ o)], am_up_id]] at hw
  exact hw

