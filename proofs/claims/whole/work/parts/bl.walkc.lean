/-! WALKS: the class -/
theorem sh1_10 : ∀ h, h ≤ 10 → nI 1 <<< (nI h &&& 31) = nI (2 ^ h) := by decide +kernel
theorem pw10 {c : Nat} (h : c ≤ 10) : 2 ^ c ≤ 1024 := show 2 ^ c ≤ 2 ^ 10 from Nat.pow_le_pow_right (by decide) h
def wkS (kd : mK) (I : mI) (P : mP) (k z c cr : Nat) (g : Nat → Nat) : Prop := kW kd P k ∧ P k 3 = some z ∧ kd z = some (1, 10240) ∧ (z ≠ k ∧ z ≠ k + 1 ∧ z ≠ k + 2) ∧ I k 1 = nI c ∧ I k 2 = nI cr ∧ (∀ j, j < c → I (k + 1) j = nI (g j)) ∧ c ≤ 10 ∧ cr ≤ 9 ∧ ∀ j, j < c → g j ≤ 20
/-- the table is right for all sets above D -/
def KT (g : Nat → Nat) (cr c D : Nat) (A : Nat → Int32) : Prop := ∀ E x, E < 2 ^ c → D < E → x < c → E.testBit x = true → A (E * 10 + x) = nI (Lw g cr c (g x) E)
theorem KT.wk {g : Nat → Nat} {cr c D D' : Nat} {A : Nat → Int32} (h : KT g cr c D A) (hd : D ≤ D') : KT g cr c D' A := fun E x a b => h E x a (by omega)
def gM : Nat → Int32
  | 0 => -1
  | t + 1 => nI t
theorem gM_d (t : Nat) : nI t + Int32.ofInt (-1) = gM t := by
  cases t with
  | zero => decide
  | succ t => exact nI_dec t
theorem dX8_far_0 : decode cX8_far 0 = .ok (.iload_n 1, 1) := by decide +kernel
theorem dX8_far_1 : decode cX8_far 1 = .ok (.iconst 1, 1) := by decide +kernel
theorem dX8_far_2 : decode cX8_far 2 = .ok (.iadd, 1) := by decide +kernel
theorem dX8_far_3 : decode cX8_far 3 = .ok (.iconst 2, 1) := by decide +kernel
theorem dX8_far_4 : decode cX8_far 4 = .ok (.idiv, 1) := by decide +kernel
theorem dX8_far_5 : decode cX8_far 5 = .ok (.iload_n 2, 1) := by decide +kernel
theorem dX8_far_6 : decode cX8_far 6 = .ok (.iconst 1, 1) := by decide +kernel
theorem dX8_far_7 : decode cX8_far 7 = .ok (.iadd, 1) := by decide +kernel
theorem dX8_far_8 : decode cX8_far 8 = .ok (.iconst 2, 1) := by decide +kernel
theorem dX8_far_9 : decode cX8_far 9 = .ok (.idiv, 1) := by decide +kernel
theorem dX8_far_10 : decode cX8_far 10 = .ok (.isub, 1) := by decide +kernel
theorem dX8_far_11 : decode cX8_far 11 = .ok (.invokestatic 62, 3) := by decide +kernel
theorem dX8_far_14 : decode cX8_far 14 = .ok (.iload_n 1, 1) := by decide +kernel
theorem dX8_far_15 : decode cX8_far 15 = .ok (.iload_n 2, 1) := by decide +kernel
theorem dX8_far_16 : decode cX8_far 16 = .ok (.isub, 1) := by decide +kernel
theorem dX8_far_17 : decode cX8_far 17 = .ok (.iconst 2, 1) := by decide +kernel
theorem dX8_far_18 : decode cX8_far 18 = .ok (.irem, 1) := by decide +kernel
theorem dX8_far_19 : decode cX8_far 19 = .ok (.ifCond .eq 10, 3) := by decide +kernel
theorem dX8_far_22 : decode cX8_far 22 = .ok (.aload_n 0, 1) := by decide +kernel
theorem dX8_far_23 : decode cX8_far 23 = .ok (.getfield 19, 3) := by decide +kernel
theorem dX8_far_26 : decode cX8_far 26 = .ok (.goto 4, 3) := by decide +kernel
theorem dX8_far_29 : decode cX8_far 29 = .ok (.iconst 0, 1) := by decide +kernel
theorem dX8_far_30 : decode cX8_far 30 = .ok (.iadd, 1) := by decide +kernel
theorem dX8_far_31 : decode cX8_far 31 = .ok (.ireturn, 1) := by decide +kernel

set_option maxHeartbeats 4000000 in
set_option maxRecDepth 100000 in
theorem c_far (k cr v w : Nat) {n : Nat} {kd : mK} {I : mI} {J : mJ} {P : mP} (w0 : kd k = some (0, 8)) (e2 : I k 2 = nI cr) (hv : v ≤ 20) (hw : w ≤ 20) : Ct yX8_far cX8_far 3 (some .int) 1 0 0 [.ref k, .int (nI v), .int (nI w)] n kd I J P (am_is (some (.int (nI (faN cr v w)))) n kd I J P) := by
  refine ct_of 0 (by decide +kernel) (Nat.le_of_ble_eq_true rfl) rfl ?_
  by_cases q : v % 2 = w % 2
  · rw [show faN cr v w = dst ((v + 1) / 2) ((w + 1) / 2) + 0 from by unfold faN; rw [if_pos q]]
    refine r_iload_n dX8_far_0 rfl ?_
    refine r_iconst (v := nI 1) dX8_far_1 (by decide) ?_
    refine r_iadd dX8_far_2 ?_
    rw [nI_add]
    refine r_iconst (v := nI 2) dX8_far_3 (by decide) ?_
    refine r_idiv dX8_far_4 (by decide) ?_
    rw [pk_div (by omega) (by omega) (by omega)]
    refine r_iload_n dX8_far_5 rfl ?_
    refine r_iconst (v := nI 1) dX8_far_6 (by decide) ?_
    refine r_iadd dX8_far_7 ?_
    rw [nI_add]
    refine r_iconst (v := nI 2) dX8_far_8 (by decide) ?_
    refine r_idiv dX8_far_9 (by decide) ?_
    rw [pk_div (by omega) (by omega) (by omega)]
    refine r_isub dX8_far_10 ?_
    refine r_mabs dX8_far_11 mm_X8_62 (by omega) (Nat.le_of_ble_eq_true rfl) ?_
    rw [ab_nI (by omega) (by omega)]
    refine r_iload_n dX8_far_14 rfl ?_
    refine r_iload_n dX8_far_15 rfl ?_
    refine r_isub dX8_far_16 ?_
    refine r_iconst (v := nI 2) dX8_far_17 (by decide) ?_
    refine r_irem dX8_far_18 (by decide) ?_
    refine r_if_eq (tgt := 29) dX8_far_19 (by decide) (fun _ => ?_) (fun hz => absurd (show _ from ((far_rm v hv w hw).mpr q)) hz)
    refine r_iconst (v := nI 0) dX8_far_29 (by decide) ?_
    refine r_iadd dX8_far_30 ?_
    rw [nI_add]
    refine r_iret rfl dX8_far_31 ?_
    exact am_is.mk
  · rw [show faN cr v w = dst ((v + 1) / 2) ((w + 1) / 2) + cr from by unfold faN; rw [if_neg q]]
    refine r_iload_n dX8_far_0 rfl ?_
    refine r_iconst (v := nI 1) dX8_far_1 (by decide) ?_
    refine r_iadd dX8_far_2 ?_
    rw [nI_add]
    refine r_iconst (v := nI 2) dX8_far_3 (by decide) ?_
    refine r_idiv dX8_far_4 (by decide) ?_
    rw [pk_div (by omega) (by omega) (by omega)]
    refine r_iload_n dX8_far_5 rfl ?_
    refine r_iconst (v := nI 1) dX8_far_6 (by decide) ?_
    refine r_iadd dX8_far_7 ?_
    rw [nI_add]
    refine r_iconst (v := nI 2) dX8_far_8 (by decide) ?_
    refine r_idiv dX8_far_9 (by decide) ?_
    rw [pk_div (by omega) (by omega) (by omega)]
    refine r_isub dX8_far_10 ?_
    refine r_mabs dX8_far_11 mm_X8_62 (by omega) (Nat.le_of_ble_eq_true rfl) ?_
    rw [ab_nI (by omega) (by omega)]
    refine r_iload_n dX8_far_14 rfl ?_
    refine r_iload_n dX8_far_15 rfl ?_
    refine r_isub dX8_far_16 ?_
    refine r_iconst (v := nI 2) dX8_far_17 (by decide) ?_
    refine r_irem dX8_far_18 (by decide) ?_
    refine r_if_eq (tgt := 29) dX8_far_19 (by decide) (fun hz => absurd hz (show ¬ _ from (fun h => q ((far_rm v hv w hw).mp h)))) (fun _ => ?_)
    refine r_aload_n dX8_far_22 rfl ?_
    refine r_getI dX8_far_23 fl_X8_19 rfl w0 ?_
    rw [e2]
    refine r_goto (tgt := 30) dX8_far_26 (by decide) ?_
    refine r_iadd dX8_far_30 ?_
    rw [nI_add]
    refine r_iret rfl dX8_far_31 ?_
    exact am_is.mk

theorem dX8_lengthBy_0 : decode cX8_lengthBy 0 = .ok (.aload_n 0, 1) := by decide +kernel
theorem dX8_lengthBy_1 : decode cX8_lengthBy 1 = .ok (.iload_n 2, 1) := by decide +kernel
theorem dX8_lengthBy_2 : decode cX8_lengthBy 2 = .ok (.aload_n 0, 1) := by decide +kernel
theorem dX8_lengthBy_3 : decode cX8_lengthBy 3 = .ok (.getfield 9, 3) := by decide +kernel
theorem dX8_lengthBy_6 : decode cX8_lengthBy 6 = .ok (.iload_n 1, 1) := by decide +kernel
theorem dX8_lengthBy_7 : decode cX8_lengthBy 7 = .ok (.iaload, 1) := by decide +kernel
theorem dX8_lengthBy_8 : decode cX8_lengthBy 8 = .ok (.invokevirtual 59, 3) := by decide +kernel
theorem dX8_lengthBy_11 : decode cX8_lengthBy 11 = .ok (.aload_n 0, 1) := by decide +kernel
theorem dX8_lengthBy_12 : decode cX8_lengthBy 12 = .ok (.getfield 22, 3) := by decide +kernel
theorem dX8_lengthBy_15 : decode cX8_lengthBy 15 = .ok (.iload_n 3, 1) := by decide +kernel
theorem dX8_lengthBy_16 : decode cX8_lengthBy 16 = .ok (.iconst 1, 1) := by decide +kernel
theorem dX8_lengthBy_17 : decode cX8_lengthBy 17 = .ok (.iload_n 1, 1) := by decide +kernel
theorem dX8_lengthBy_18 : decode cX8_lengthBy 18 = .ok (.ishl, 1) := by decide +kernel
theorem dX8_lengthBy_19 : decode cX8_lengthBy 19 = .ok (.ior, 1) := by decide +kernel
theorem dX8_lengthBy_20 : decode cX8_lengthBy 20 = .ok (.bipush 10, 2) := by decide +kernel
theorem dX8_lengthBy_22 : decode cX8_lengthBy 22 = .ok (.imul, 1) := by decide +kernel
theorem dX8_lengthBy_23 : decode cX8_lengthBy 23 = .ok (.iload_n 1, 1) := by decide +kernel
theorem dX8_lengthBy_24 : decode cX8_lengthBy 24 = .ok (.iadd, 1) := by decide +kernel
theorem dX8_lengthBy_25 : decode cX8_lengthBy 25 = .ok (.iaload, 1) := by decide +kernel
theorem dX8_lengthBy_26 : decode cX8_lengthBy 26 = .ok (.iadd, 1) := by decide +kernel
theorem dX8_lengthBy_27 : decode cX8_lengthBy 27 = .ok (.ireturn, 1) := by decide +kernel

set_option maxHeartbeats 4000000 in
set_option maxRecDepth 100000 in
theorem c_len (k z c cr : Nat) (g : Nat → Nat) (v D x : Nat) {n : Nat} {kd : mK} {I : mI} {J : mJ} {P : mP} (hS : wkS kd I P k z c cr g) (hT : KT g cr c D (I z)) (hv : v ≤ 20) (hD : D < 2 ^ c) (hx : x < c) (hb : ¬ D.testBit x = true) : Ct yX8_lengthBy cX8_lengthBy 4 (some .int) 2 0 0 [.ref k, .int (nI x), .int (nI v), .int (nI D)] n kd I J P (am_is (some (.int (nI (wW g cr c v D x)))) n kd I J P) := by
  obtain ⟨hW, h3, hz, ⟨hz0, hz1, hz2⟩, e1, e2, hg, hc, hcr, hg20⟩ := id hS
  obtain ⟨w0, w1, w2, v0, v4⟩ := id hW
  have p10 := pw10 hc
  have ho := or_gt hD hx hb
  refine ct_of 0 (by decide +kernel) (Nat.le_of_ble_eq_true rfl) rfl ?_
  refine r_aload_n dX8_lengthBy_0 rfl ?_
  refine r_iload_n dX8_lengthBy_1 rfl ?_
  refine r_aload_n dX8_lengthBy_2 rfl ?_
  refine r_getR dX8_lengthBy_3 fl_X8_9 rfl w0 v0 ?_
  refine r_iload_n dX8_lengthBy_6 rfl ?_
  refine r_iald dX8_lengthBy_7 w1 (nI_in8 10 (by omega) (by decide)) (nI_clamp (by omega)) ?_
  rw [hg x hx]
  refine r_virtE (c_far k cr v (g x) w0 e2 hv (hg20 x hx)) lk_X8_59 mc_X8_far dX8_lengthBy_8 w0 (by decide) rfl rfl (Nat.le_of_ble_eq_true rfl) ?_
  refine r_aload_n dX8_lengthBy_11 rfl ?_
  refine r_getR dX8_lengthBy_12 fl_X8_22 rfl w0 h3 ?_
  refine r_iload_n dX8_lengthBy_15 rfl ?_
  refine r_iconst (v := nI 1) dX8_lengthBy_16 (by decide) ?_
  refine r_iload_n dX8_lengthBy_17 rfl ?_
  refine r_ishl dX8_lengthBy_18 ?_
  rw [sh1_10 x (by omega)]
  refine r_ior dX8_lengthBy_19 ?_
  rw [or_nI]
  refine r_bipush (v := nI 10) dX8_lengthBy_20 (by decide) ?_
  refine r_imul dX8_lengthBy_22 ?_
  rw [pk_mul]
  refine r_iload_n dX8_lengthBy_23 rfl ?_
  refine r_iadd dX8_lengthBy_24 ?_
  rw [nI_add]
  refine r_iald dX8_lengthBy_25 hz (nI_in8 10240 (by omega) (by decide)) (nI_clamp (by omega)) ?_
  rw [hT (D ||| 2 ^ x) x ho.2 ho.1 hx (by rw [Nat.testBit_or, Nat.testBit_two_pow]; simp)]
  refine r_iadd dX8_lengthBy_26 ?_
  rw [nI_add]
  refine r_iret rfl dX8_lengthBy_27 ?_
  exact am_is.mk

theorem dX8_shortestFrom_0 : decode cX8_shortestFrom 0 = .ok (.iload_n 2, 1) := by decide +kernel
theorem dX8_shortestFrom_1 : decode cX8_shortestFrom 1 = .ok (.iconst 1, 1) := by decide +kernel
theorem dX8_shortestFrom_2 : decode cX8_shortestFrom 2 = .ok (.aload_n 0, 1) := by decide +kernel
theorem dX8_shortestFrom_3 : decode cX8_shortestFrom 3 = .ok (.getfield 15, 3) := by decide +kernel
theorem dX8_shortestFrom_6 : decode cX8_shortestFrom 6 = .ok (.ishl, 1) := by decide +kernel
theorem dX8_shortestFrom_7 : decode cX8_shortestFrom 7 = .ok (.iconst 1, 1) := by decide +kernel
theorem dX8_shortestFrom_8 : decode cX8_shortestFrom 8 = .ok (.isub, 1) := by decide +kernel
theorem dX8_shortestFrom_9 : decode cX8_shortestFrom 9 = .ok (.if_icmp .ne 5, 3) := by decide +kernel
theorem dX8_shortestFrom_12 : decode cX8_shortestFrom 12 = .ok (.iconst 0, 1) := by decide +kernel
theorem dX8_shortestFrom_13 : decode cX8_shortestFrom 13 = .ok (.ireturn, 1) := by decide +kernel
theorem dX8_shortestFrom_14 : decode cX8_shortestFrom 14 = .ok (.ldc 49, 2) := by decide +kernel
theorem dX8_shortestFrom_16 : decode cX8_shortestFrom 16 = .ok (.istore_n 3, 1) := by decide +kernel
theorem dX8_shortestFrom_17 : decode cX8_shortestFrom 17 = .ok (.iconst 0, 1) := by decide +kernel
theorem dX8_shortestFrom_18 : decode cX8_shortestFrom 18 = .ok (.istore 4, 2) := by decide +kernel
theorem dX8_shortestFrom_20 : decode cX8_shortestFrom 20 = .ok (.iload 4, 2) := by decide +kernel
theorem dX8_shortestFrom_22 : decode cX8_shortestFrom 22 = .ok (.aload_n 0, 1) := by decide +kernel
theorem dX8_shortestFrom_23 : decode cX8_shortestFrom 23 = .ok (.getfield 15, 3) := by decide +kernel
theorem dX8_shortestFrom_26 : decode cX8_shortestFrom 26 = .ok (.if_icmp .ge 31, 3) := by decide +kernel
theorem dX8_shortestFrom_29 : decode cX8_shortestFrom 29 = .ok (.iload_n 2, 1) := by decide +kernel
theorem dX8_shortestFrom_30 : decode cX8_shortestFrom 30 = .ok (.iload 4, 2) := by decide +kernel
theorem dX8_shortestFrom_32 : decode cX8_shortestFrom 32 = .ok (.ishr, 1) := by decide +kernel
theorem dX8_shortestFrom_33 : decode cX8_shortestFrom 33 = .ok (.iconst 1, 1) := by decide +kernel
theorem dX8_shortestFrom_34 : decode cX8_shortestFrom 34 = .ok (.iand, 1) := by decide +kernel
theorem dX8_shortestFrom_35 : decode cX8_shortestFrom 35 = .ok (.ifCond .ne 16, 3) := by decide +kernel
theorem dX8_shortestFrom_38 : decode cX8_shortestFrom 38 = .ok (.iload_n 3, 1) := by decide +kernel
theorem dX8_shortestFrom_39 : decode cX8_shortestFrom 39 = .ok (.aload_n 0, 1) := by decide +kernel
theorem dX8_shortestFrom_40 : decode cX8_shortestFrom 40 = .ok (.iload 4, 2) := by decide +kernel
theorem dX8_shortestFrom_42 : decode cX8_shortestFrom 42 = .ok (.iload_n 1, 1) := by decide +kernel
theorem dX8_shortestFrom_43 : decode cX8_shortestFrom 43 = .ok (.iload_n 2, 1) := by decide +kernel
theorem dX8_shortestFrom_44 : decode cX8_shortestFrom 44 = .ok (.invokevirtual 50, 3) := by decide +kernel
theorem dX8_shortestFrom_47 : decode cX8_shortestFrom 47 = .ok (.invokestatic 54, 3) := by decide +kernel
theorem dX8_shortestFrom_50 : decode cX8_shortestFrom 50 = .ok (.istore_n 3, 1) := by decide +kernel
theorem dX8_shortestFrom_51 : decode cX8_shortestFrom 51 = .ok (.iinc 4 1, 3) := by decide +kernel
theorem dX8_shortestFrom_54 : decode cX8_shortestFrom 54 = .ok (.goto (-34), 3) := by decide +kernel
theorem dX8_shortestFrom_57 : decode cX8_shortestFrom 57 = .ok (.iload_n 3, 1) := by decide +kernel
theorem dX8_shortestFrom_58 : decode cX8_shortestFrom 58 = .ok (.ireturn, 1) := by decide +kernel

set_option maxHeartbeats 4000000 in
set_option maxRecDepth 100000 in
theorem sf_loop (k z c cr : Nat) (g : Nat → Nat) (v D : Nat) {n : Nat} {kd : mK} {I : mI} {J : mJ} {P : mP} (hS : wkS kd I P k z c cr g) (hT : KT g cr c D (I z)) (hv : v ≤ 20) (hD : D < 2 ^ c) : ∀ (cnt x : Nat), x + cnt = c → Ru yX8_shortestFrom.cls cX8_shortestFrom 5 (some .int) yX8_shortestFrom.name 3 (am_is (some (.int (nI (mnW (wW g cr c v D) D c)))) n kd I J P) 0 0 20 [some (.ref k), some (.int (nI v)), some (.int (nI D)), some (.int (nI (mnW (wW g cr c v D) D x))), some (.int (nI x))] [] n kd I J P
  | 0, x, hh => by
    obtain ⟨hW, h3, hz, ⟨hz0, hz1, hz2⟩, e1, e2, hg, hc, hcr, hg20⟩ := id hS
    obtain ⟨w0, w1, w2, v0, v4⟩ := id hW
    have ex : x = c := by omega
    rw [ex]
    refine r_iload dX8_shortestFrom_20 rfl ?_
    refine r_aload_n dX8_shortestFrom_22 rfl ?_
    refine r_getI dX8_shortestFrom_23 fl_X8_15 rfl w0 ?_
    rw [e1]
    refine r_icmp_ge (tgt := 57) dX8_shortestFrom_26 (by decide) (fun _ => ?_) (fun hz => absurd (show _ from (by rw [nI_leI (by omega) (by omega)]; omega)) hz)
    refine r_iload_n dX8_shortestFrom_57 rfl ?_
    refine r_iret rfl dX8_shortestFrom_58 ?_
    exact am_is.mk
  | cnt + 1, x, hh => by
    obtain ⟨hW, h3, hz, ⟨hz0, hz1, hz2⟩, e1, e2, hg, hc, hcr, hg20⟩ := id hS
    obtain ⟨w0, w1, w2, v0, v4⟩ := id hW
    have hn := sf_loop (n := n) (J := J) k z c cr g v D hS hT hv hD cnt (x + 1) (by omega)
    have ht := mnW_top (W := wW g cr c v D) (D := D) x
    have hl := wW_le (k := x) hg20 hcr hc hv hD (by omega)
    rw [show mnW (wW g cr c v D) D (x + 1) = if D.testBit x = true then mnW (wW g cr c v D) D x else min (mnW (wW g cr c v D) D x) (wW g cr c v D x) from rfl] at hn
    by_cases q : D.testBit x = true
    · rw [if_pos q] at hn
      refine r_iload dX8_shortestFrom_20 rfl ?_
      refine r_aload_n dX8_shortestFrom_22 rfl ?_
      refine r_getI dX8_shortestFrom_23 fl_X8_15 rfl w0 ?_
      rw [e1]
      refine r_icmp_ge (tgt := 57) dX8_shortestFrom_26 (by decide) (fun hz => absurd hz (show ¬ _ from (by rw [nI_leI (by omega) (by omega)]; omega))) (fun _ => ?_)
      refine r_iload_n dX8_shortestFrom_29 rfl ?_
      refine r_iload dX8_shortestFrom_30 rfl ?_
      refine r_ishr dX8_shortestFrom_32 ?_
      refine r_iconst (v := nI 1) dX8_shortestFrom_33 (by decide) ?_
      refine r_iand dX8_shortestFrom_34 ?_
      rw [b_ask _ (by omega), bt_nI _ (by omega)]
      rw [if_pos q]
      refine r_if_ne (tgt := 51) dX8_shortestFrom_35 (by decide) (fun _ => ?_) (fun hz => absurd hz (show ¬ _ from (by decide)))
      refine r_iinc (v := nI (x + 1)) dX8_shortestFrom_51 rfl (nI_inc x) ?_
      refine r_goto (tgt := 20) dX8_shortestFrom_54 (by decide) ?_
      exact hn
    · rw [if_neg q] at hn
      refine r_iload dX8_shortestFrom_20 rfl ?_
      refine r_aload_n dX8_shortestFrom_22 rfl ?_
      refine r_getI dX8_shortestFrom_23 fl_X8_15 rfl w0 ?_
      rw [e1]
      refine r_icmp_ge (tgt := 57) dX8_shortestFrom_26 (by decide) (fun hz => absurd hz (show ¬ _ from (by rw [nI_leI (by omega) (by omega)]; omega))) (fun _ => ?_)
      refine r_iload_n dX8_shortestFrom_29 rfl ?_
      refine r_iload dX8_shortestFrom_30 rfl ?_
      refine r_ishr dX8_shortestFrom_32 ?_
      refine r_iconst (v := nI 1) dX8_shortestFrom_33 (by decide) ?_
      refine r_iand dX8_shortestFrom_34 ?_
      rw [b_ask _ (by omega), bt_nI _ (by omega)]
      rw [if_neg q]
      refine r_if_ne (tgt := 51) dX8_shortestFrom_35 (by decide) (fun hz => absurd (show _ from rfl) hz) (fun _ => ?_)
      refine r_iload_n dX8_shortestFrom_38 rfl ?_
      refine r_aload_n dX8_shortestFrom_39 rfl ?_
      refine r_iload dX8_shortestFrom_40 rfl ?_
      refine r_iload_n dX8_shortestFrom_42 rfl ?_
      refine r_iload_n dX8_shortestFrom_43 rfl ?_
      refine r_virtE (c_len k z c cr g v D x hS hT hv hD (by omega) q) lk_X8_50 mc_X8_lengthBy dX8_shortestFrom_44 w0 (by decide) rfl rfl (Nat.le_of_ble_eq_true rfl) ?_
      refine r_mmin dX8_shortestFrom_47 mm_X8_54 (by decide) (Nat.le_of_ble_eq_true rfl) ?_
      rw [mn_nI (by omega) (by omega)]
      refine r_istore_n dX8_shortestFrom_50 (by decide) ?_
      refine r_iinc (v := nI (x + 1)) dX8_shortestFrom_51 rfl (nI_inc x) ?_
      refine r_goto (tgt := 20) dX8_shortestFrom_54 (by decide) ?_
      exact hn

set_option maxHeartbeats 4000000 in
set_option maxRecDepth 100000 in
theorem c_sf (k z c cr : Nat) (g : Nat → Nat) (v D : Nat) {n : Nat} {kd : mK} {I : mI} {J : mJ} {P : mP} (hS : wkS kd I P k z c cr g) (hT : KT g cr c D (I z)) (hv : v ≤ 20) (hD : D < 2 ^ c) : Ct yX8_shortestFrom cX8_shortestFrom 5 (some .int) 3 0 0 [.ref k, .int (nI v), .int (nI D)] n kd I J P (am_is (some (.int (nI (Lw g cr c v D)))) n kd I J P) := by
  obtain ⟨hW, h3, hz, ⟨hz0, hz1, hz2⟩, e1, e2, hg, hc, hcr, hg20⟩ := id hS
  obtain ⟨w0, w1, w2, v0, v4⟩ := id hW
  have p10 := pw10 hc
  refine ct_of 2 (by decide +kernel) (Nat.le_of_ble_eq_true rfl) rfl ?_
  by_cases q : D = 2 ^ c - 1
  · rw [show Lw g cr c v D = 0 from by rw [q]; exact Lw_full]
    refine r_iload_n dX8_shortestFrom_0 rfl ?_
    refine r_iconst (v := nI 1) dX8_shortestFrom_1 (by decide) ?_
    refine r_aload_n dX8_shortestFrom_2 rfl ?_
    refine r_getI dX8_shortestFrom_3 fl_X8_15 rfl w0 ?_
    rw [e1]
    refine r_ishl dX8_shortestFrom_6 ?_
    rw [sh1_10 c hc]
    refine r_iconst (v := nI 1) dX8_shortestFrom_7 (by decide) ?_
    refine r_isub dX8_shortestFrom_8 ?_
    rw [pk_sub (Nat.two_pow_pos c)]
    refine r_icmp_ne (tgt := 14) dX8_shortestFrom_9 (by decide) (fun hz => absurd (show _ from (by rw [q])) hz) (fun _ => ?_)
    refine r_iconst (v := nI 0) dX8_shortestFrom_12 (by decide) ?_
    refine r_iret rfl dX8_shortestFrom_13 ?_
    exact am_is.mk
  · rw [Lw_eq hD q]
    refine r_iload_n dX8_shortestFrom_0 rfl ?_
    refine r_iconst (v := nI 1) dX8_shortestFrom_1 (by decide) ?_
    refine r_aload_n dX8_shortestFrom_2 rfl ?_
    refine r_getI dX8_shortestFrom_3 fl_X8_15 rfl w0 ?_
    rw [e1]
    refine r_ishl dX8_shortestFrom_6 ?_
    rw [sh1_10 c hc]
    refine r_iconst (v := nI 1) dX8_shortestFrom_7 (by decide) ?_
    refine r_isub dX8_shortestFrom_8 ?_
    rw [pk_sub (Nat.two_pow_pos c)]
    refine r_icmp_ne (tgt := 14) dX8_shortestFrom_9 (by decide) (fun _ => ?_) (fun hz => absurd hz (show ¬ _ from (fun h => q ((nI_eq (by omega) (by omega)).mp h))))
    refine r_ldc (v := 2147483647) dX8_shortestFrom_14 ic_X8_49 ?_
    rw [show (2147483647 : Int32) = nI 2147483647 from by decide]
    refine r_istore_n dX8_shortestFrom_16 (by decide) ?_
    refine r_iconst (v := nI 0) dX8_shortestFrom_17 (by decide) ?_
    refine r_istore dX8_shortestFrom_18 (by decide) ?_
    exact sf_loop k z c cr g v D hS hT hv hD c 0 (by omega)

theorem dX8_walkTo_0 : decode cX8_walkTo 0 = .ok (.iload_n 1, 1) := by decide +kernel
theorem dX8_walkTo_1 : decode cX8_walkTo 1 = .ok (.invokestatic 35, 3) := by decide +kernel
theorem dX8_walkTo_4 : decode cX8_walkTo 4 = .ok (.bipush 10, 2) := by decide +kernel
theorem dX8_walkTo_6 : decode cX8_walkTo 6 = .ok (.if_icmp .gt 12, 3) := by decide +kernel
theorem dX8_walkTo_9 : decode cX8_walkTo 9 = .ok (.aload 4, 2) := by decide +kernel
theorem dX8_walkTo_11 : decode cX8_walkTo 11 = .ok (.arraylength, 1) := by decide +kernel
theorem dX8_walkTo_12 : decode cX8_walkTo 12 = .ok (.sipush 10240, 3) := by decide +kernel
theorem dX8_walkTo_15 : decode cX8_walkTo 15 = .ok (.if_icmp .ge 6, 3) := by decide +kernel
theorem dX8_walkTo_18 : decode cX8_walkTo 18 = .ok (.bipush (-2), 2) := by decide +kernel
theorem dX8_walkTo_20 : decode cX8_walkTo 20 = .ok (.ireturn, 1) := by decide +kernel
theorem dX8_walkTo_21 : decode cX8_walkTo 21 = .ok (.aload_n 0, 1) := by decide +kernel
theorem dX8_walkTo_22 : decode cX8_walkTo 22 = .ok (.aload 4, 2) := by decide +kernel
theorem dX8_walkTo_24 : decode cX8_walkTo 24 = .ok (.putfield 22, 3) := by decide +kernel
theorem dX8_walkTo_27 : decode cX8_walkTo 27 = .ok (.aload_n 0, 1) := by decide +kernel
theorem dX8_walkTo_28 : decode cX8_walkTo 28 = .ok (.iconst 0, 1) := by decide +kernel
theorem dX8_walkTo_29 : decode cX8_walkTo 29 = .ok (.putfield 15, 3) := by decide +kernel
theorem dX8_walkTo_32 : decode cX8_walkTo 32 = .ok (.iconst 1, 1) := by decide +kernel
theorem dX8_walkTo_33 : decode cX8_walkTo 33 = .ok (.istore 5, 2) := by decide +kernel
theorem dX8_walkTo_35 : decode cX8_walkTo 35 = .ok (.iload 5, 2) := by decide +kernel
theorem dX8_walkTo_37 : decode cX8_walkTo 37 = .ok (.bipush 31, 2) := by decide +kernel
theorem dX8_walkTo_39 : decode cX8_walkTo 39 = .ok (.if_icmp .ge 48, 3) := by decide +kernel
theorem dX8_walkTo_42 : decode cX8_walkTo 42 = .ok (.aload_n 0, 1) := by decide +kernel
theorem dX8_walkTo_43 : decode cX8_walkTo 43 = .ok (.getfield 15, 3) := by decide +kernel
theorem dX8_walkTo_46 : decode cX8_walkTo 46 = .ok (.bipush 10, 2) := by decide +kernel
theorem dX8_walkTo_48 : decode cX8_walkTo 48 = .ok (.if_icmp .ge 39, 3) := by decide +kernel
theorem dX8_walkTo_51 : decode cX8_walkTo 51 = .ok (.iload_n 1, 1) := by decide +kernel
theorem dX8_walkTo_52 : decode cX8_walkTo 52 = .ok (.iload 5, 2) := by decide +kernel
theorem dX8_walkTo_54 : decode cX8_walkTo 54 = .ok (.ishr, 1) := by decide +kernel
theorem dX8_walkTo_55 : decode cX8_walkTo 55 = .ok (.iconst 1, 1) := by decide +kernel
theorem dX8_walkTo_56 : decode cX8_walkTo 56 = .ok (.iand, 1) := by decide +kernel
theorem dX8_walkTo_57 : decode cX8_walkTo 57 = .ok (.ifCond .eq 24, 3) := by decide +kernel
theorem dX8_walkTo_60 : decode cX8_walkTo 60 = .ok (.aload_n 0, 1) := by decide +kernel
theorem dX8_walkTo_61 : decode cX8_walkTo 61 = .ok (.getfield 9, 3) := by decide +kernel
theorem dX8_walkTo_64 : decode cX8_walkTo 64 = .ok (.aload_n 0, 1) := by decide +kernel
theorem dX8_walkTo_65 : decode cX8_walkTo 65 = .ok (.getfield 15, 3) := by decide +kernel
theorem dX8_walkTo_68 : decode cX8_walkTo 68 = .ok (.iload 5, 2) := by decide +kernel
theorem dX8_walkTo_70 : decode cX8_walkTo 70 = .ok (.iastore, 1) := by decide +kernel
theorem dX8_walkTo_71 : decode cX8_walkTo 71 = .ok (.aload_n 0, 1) := by decide +kernel
theorem dX8_walkTo_72 : decode cX8_walkTo 72 = .ok (.dup, 1) := by decide +kernel
theorem dX8_walkTo_73 : decode cX8_walkTo 73 = .ok (.getfield 15, 3) := by decide +kernel
theorem dX8_walkTo_76 : decode cX8_walkTo 76 = .ok (.iconst 1, 1) := by decide +kernel
theorem dX8_walkTo_77 : decode cX8_walkTo 77 = .ok (.iadd, 1) := by decide +kernel
theorem dX8_walkTo_78 : decode cX8_walkTo 78 = .ok (.putfield 15, 3) := by decide +kernel
theorem dX8_walkTo_81 : decode cX8_walkTo 81 = .ok (.iinc 5 1, 3) := by decide +kernel
theorem dX8_walkTo_84 : decode cX8_walkTo 84 = .ok (.goto (-49), 3) := by decide +kernel
theorem dX8_walkTo_87 : decode cX8_walkTo 87 = .ok (.aload_n 0, 1) := by decide +kernel
theorem dX8_walkTo_88 : decode cX8_walkTo 88 = .ok (.iload_n 3, 1) := by decide +kernel
theorem dX8_walkTo_89 : decode cX8_walkTo 89 = .ok (.putfield 19, 3) := by decide +kernel
theorem dX8_walkTo_92 : decode cX8_walkTo 92 = .ok (.iconst 1, 1) := by decide +kernel
theorem dX8_walkTo_93 : decode cX8_walkTo 93 = .ok (.aload_n 0, 1) := by decide +kernel
theorem dX8_walkTo_94 : decode cX8_walkTo 94 = .ok (.getfield 15, 3) := by decide +kernel
theorem dX8_walkTo_97 : decode cX8_walkTo 97 = .ok (.ishl, 1) := by decide +kernel
theorem dX8_walkTo_98 : decode cX8_walkTo 98 = .ok (.iconst 1, 1) := by decide +kernel
theorem dX8_walkTo_99 : decode cX8_walkTo 99 = .ok (.isub, 1) := by decide +kernel
theorem dX8_walkTo_100 : decode cX8_walkTo 100 = .ok (.istore 5, 2) := by decide +kernel
theorem dX8_walkTo_102 : decode cX8_walkTo 102 = .ok (.iload 5, 2) := by decide +kernel
theorem dX8_walkTo_104 : decode cX8_walkTo 104 = .ok (.ifCond .le 63, 3) := by decide +kernel
theorem dX8_walkTo_107 : decode cX8_walkTo 107 = .ok (.iconst 0, 1) := by decide +kernel
theorem dX8_walkTo_108 : decode cX8_walkTo 108 = .ok (.istore 6, 2) := by decide +kernel
theorem dX8_walkTo_110 : decode cX8_walkTo 110 = .ok (.iload 6, 2) := by decide +kernel
theorem dX8_walkTo_112 : decode cX8_walkTo 112 = .ok (.aload_n 0, 1) := by decide +kernel
theorem dX8_walkTo_113 : decode cX8_walkTo 113 = .ok (.getfield 15, 3) := by decide +kernel
theorem dX8_walkTo_116 : decode cX8_walkTo 116 = .ok (.if_icmp .ge 45, 3) := by decide +kernel
theorem dX8_walkTo_119 : decode cX8_walkTo 119 = .ok (.iload 5, 2) := by decide +kernel
theorem dX8_walkTo_121 : decode cX8_walkTo 121 = .ok (.iload 6, 2) := by decide +kernel
theorem dX8_walkTo_123 : decode cX8_walkTo 123 = .ok (.ishr, 1) := by decide +kernel
theorem dX8_walkTo_124 : decode cX8_walkTo 124 = .ok (.iconst 1, 1) := by decide +kernel
theorem dX8_walkTo_125 : decode cX8_walkTo 125 = .ok (.iand, 1) := by decide +kernel
theorem dX8_walkTo_126 : decode cX8_walkTo 126 = .ok (.ifCond .eq 29, 3) := by decide +kernel
theorem dX8_walkTo_129 : decode cX8_walkTo 129 = .ok (.aload_n 0, 1) := by decide +kernel
theorem dX8_walkTo_130 : decode cX8_walkTo 130 = .ok (.getfield 22, 3) := by decide +kernel
theorem dX8_walkTo_133 : decode cX8_walkTo 133 = .ok (.iload 5, 2) := by decide +kernel
theorem dX8_walkTo_135 : decode cX8_walkTo 135 = .ok (.bipush 10, 2) := by decide +kernel
theorem dX8_walkTo_137 : decode cX8_walkTo 137 = .ok (.imul, 1) := by decide +kernel
theorem dX8_walkTo_138 : decode cX8_walkTo 138 = .ok (.iload 6, 2) := by decide +kernel
theorem dX8_walkTo_140 : decode cX8_walkTo 140 = .ok (.iadd, 1) := by decide +kernel
theorem dX8_walkTo_141 : decode cX8_walkTo 141 = .ok (.aload_n 0, 1) := by decide +kernel
theorem dX8_walkTo_142 : decode cX8_walkTo 142 = .ok (.aload_n 0, 1) := by decide +kernel
theorem dX8_walkTo_143 : decode cX8_walkTo 143 = .ok (.getfield 9, 3) := by decide +kernel
theorem dX8_walkTo_146 : decode cX8_walkTo 146 = .ok (.iload 6, 2) := by decide +kernel
theorem dX8_walkTo_148 : decode cX8_walkTo 148 = .ok (.iaload, 1) := by decide +kernel
theorem dX8_walkTo_149 : decode cX8_walkTo 149 = .ok (.iload 5, 2) := by decide +kernel
theorem dX8_walkTo_151 : decode cX8_walkTo 151 = .ok (.invokevirtual 41, 3) := by decide +kernel
theorem dX8_walkTo_154 : decode cX8_walkTo 154 = .ok (.iastore, 1) := by decide +kernel
theorem dX8_walkTo_155 : decode cX8_walkTo 155 = .ok (.iinc 6 1, 3) := by decide +kernel
theorem dX8_walkTo_158 : decode cX8_walkTo 158 = .ok (.goto (-48), 3) := by decide +kernel
theorem dX8_walkTo_161 : decode cX8_walkTo 161 = .ok (.iinc 5 (-1), 3) := by decide +kernel
theorem dX8_walkTo_164 : decode cX8_walkTo 164 = .ok (.goto (-62), 3) := by decide +kernel
theorem dX8_walkTo_167 : decode cX8_walkTo 167 = .ok (.aload_n 0, 1) := by decide +kernel
theorem dX8_walkTo_168 : decode cX8_walkTo 168 = .ok (.iload_n 2, 1) := by decide +kernel
theorem dX8_walkTo_169 : decode cX8_walkTo 169 = .ok (.invokevirtual 45, 3) := by decide +kernel
theorem dX8_walkTo_172 : decode cX8_walkTo 172 = .ok (.aload_n 0, 1) := by decide +kernel
theorem dX8_walkTo_173 : decode cX8_walkTo 173 = .ok (.iload_n 2, 1) := by decide +kernel
theorem dX8_walkTo_174 : decode cX8_walkTo 174 = .ok (.iconst 0, 1) := by decide +kernel
theorem dX8_walkTo_175 : decode cX8_walkTo 175 = .ok (.invokevirtual 41, 3) := by decide +kernel
theorem dX8_walkTo_178 : decode cX8_walkTo 178 = .ok (.ireturn, 1) := by decide +kernel

theorem wkS.up {kd : mK} {I : mI} {P : mP} {k z c cr : Nat} {g : Nat → Nat} (h : wkS kd I P k z c cr g) (A : Nat → Int32) : wkS kd (va_up I z A) P k z c cr g := by
  obtain ⟨hW, h3, hz, ⟨hz0, hz1, hz2⟩, e1, e2, hg, hc, hcr, hg20⟩ := h
  refine ⟨hW, h3, hz, ⟨hz0, hz1, hz2⟩, ?_, ?_, fun j hj => ?_, hc, hcr, hg20⟩
  · rw [am_up_n _ _ (Ne.symm hz0)]; exact e1
  · rw [am_up_n _ _ (Ne.symm hz0)]; exact e2
  · rw [am_up_n _ _ (Ne.symm hz1)]; exact hg j hj
set_option maxHeartbeats 4000000 in
set_option maxRecDepth 100000 in
theorem tb_in (k z c cr : Nat) (g : Nat → Nat) (w p D : Nat) {post : am_Post} {n : Nat} {kd : mK} {I : mI} {J : mJ} {P : mP} (hS : wkS kd I P k z c cr g) (hD : D < 2 ^ c) : ∀ (cnt x : Nat) (A : Nat → Int32), x + cnt = c → KT g cr c D A → (∀ y, y < x → D.testBit y = true → A (D * 10 + y) = nI (Lw g cr c (g y) D)) → (∀ (z6 : Option Value) (A : Nat → Int32), KT g cr c (D - 1) A → Ru yX8_walkTo.cls cX8_walkTo 7 (some .int) yX8_walkTo.name 6 (post) 0 0 161 [some (.ref k), some (.int (nI w)), some (.int (nI p)), some (.int (nI cr)), some (.ref z), some (.int (nI D)), z6] [] n kd (va_up I z A) J P) → Ru yX8_walkTo.cls cX8_walkTo 7 (some .int) yX8_walkTo.name 6 (post) 0 0 110 [some (.ref k), some (.int (nI w)), some (.int (nI p)), some (.int (nI cr)), some (.ref z), some (.int (nI D)), some (.int (nI x))] [] n kd (va_up I z A) J P
  | 0, x, A, hh, hT, hA, hK => by
    obtain ⟨hW, h3, hz, ⟨hz0, hz1, hz2⟩, e1, e2, hg, hc, hcr, hg20⟩ := id hS
    obtain ⟨w0, w1, w2, v0, v4⟩ := id hW
    have p10 := pw10 hc
    have ex : x = c := by omega
    refine r_iload dX8_walkTo_110 rfl ?_
    refine r_aload_n dX8_walkTo_112 rfl ?_
    refine r_getI dX8_walkTo_113 fl_X8_15 rfl w0 ?_
    rw [am_up_n _ _ (Ne.symm hz0), e1]
    refine r_icmp_ge (tgt := 161) dX8_walkTo_116 (by decide) (fun _ => ?_) (fun hz => absurd (show _ from (by rw [nI_leI (by omega) (by omega)]; omega)) hz)
    refine hK _ A (fun E y a b c1 d => ?_)
    by_cases q : E = D
    · rw [q]; rw [q] at d; exact hA y (by omega) d
    · exact hT E y a (by omega) c1 d
  | cnt + 1, x, A, hh, hT, hA, hK => by
    obtain ⟨hW, h3, hz, ⟨hz0, hz1, hz2⟩, e1, e2, hg, hc, hcr, hg20⟩ := id hS
    obtain ⟨w0, w1, w2, v0, v4⟩ := id hW
    have p10 := pw10 hc
    by_cases q : D.testBit x = true
    · skip
      refine r_iload dX8_walkTo_110 rfl ?_
      refine r_aload_n dX8_walkTo_112 rfl ?_
      refine r_getI dX8_walkTo_113 fl_X8_15 rfl w0 ?_
      rw [am_up_n _ _ (Ne.symm hz0), e1]
      refine r_icmp_ge (tgt := 161) dX8_walkTo_116 (by decide) (fun hz => absurd hz (show ¬ _ from (by rw [nI_leI (by omega) (by omega)]; omega))) (fun _ => ?_)
      refine r_iload dX8_walkTo_119 rfl ?_
      refine r_iload dX8_walkTo_121 rfl ?_
      refine r_ishr dX8_walkTo_123 ?_
      refine r_iconst (v := nI 1) dX8_walkTo_124 (by decide) ?_
      refine r_iand dX8_walkTo_125 ?_
      rw [b_ask _ (by omega), bt_nI _ (by omega)]
      rw [if_pos q]
      refine r_if_eq (tgt := 155) dX8_walkTo_126 (by decide) (fun hz => absurd hz (show ¬ _ from (by decide))) (fun _ => ?_)
      refine r_aload_n dX8_walkTo_129 rfl ?_
      refine r_getR dX8_walkTo_130 fl_X8_22 rfl w0 h3 ?_
      refine r_iload dX8_walkTo_133 rfl ?_
      refine r_bipush (v := nI 10) dX8_walkTo_135 (by decide) ?_
      refine r_imul dX8_walkTo_137 ?_
      rw [pk_mul]
      refine r_iload dX8_walkTo_138 rfl ?_
      refine r_iadd dX8_walkTo_140 ?_
      rw [nI_add]
      refine r_aload_n dX8_walkTo_141 rfl ?_
      refine r_aload_n dX8_walkTo_142 rfl ?_
      refine r_getR dX8_walkTo_143 fl_X8_9 rfl w0 v0 ?_
      refine r_iload dX8_walkTo_146 rfl ?_
      refine r_iald dX8_walkTo_148 w1 (nI_in8 10 (by omega) (by decide)) (nI_clamp (by omega)) ?_
      rw [am_up_n _ _ (Ne.symm hz1), hg x (by omega)]
      refine r_iload dX8_walkTo_149 rfl ?_
      refine r_virtE (c_sf k z c cr g (g x) D (hS.up A) (by rw [am_up_s]; exact hT) (hg20 x (by omega)) hD) lk_X8_41 mc_X8_shortestFrom dX8_walkTo_151 w0 (by decide) rfl rfl (Nat.le_of_ble_eq_true rfl) ?_
      refine r_iast dX8_walkTo_154 hz (nI_in8 10240 (by omega) (by decide)) (nI_clamp (by omega)) ?_
      rw [am_up_s, am_up_up]
      refine r_iinc (v := nI (x + 1)) dX8_walkTo_155 rfl (nI_inc x) ?_
      refine r_goto (tgt := 110) dX8_walkTo_158 (by decide) ?_
      refine tb_in k z c cr g w p D hS hD cnt (x + 1) _ (by omega) (fun E y a b c1 d => ?_) (fun y hy d => ?_) hK
      · rw [am_up_n _ _ (by omega)]; exact hT E y a b c1 d
      · by_cases e : y = x
        · rw [e, am_up_s]
        · rw [am_up_n _ _ (by omega)]; exact hA y (by omega) d
    · skip
      refine r_iload dX8_walkTo_110 rfl ?_
      refine r_aload_n dX8_walkTo_112 rfl ?_
      refine r_getI dX8_walkTo_113 fl_X8_15 rfl w0 ?_
      rw [am_up_n _ _ (Ne.symm hz0), e1]
      refine r_icmp_ge (tgt := 161) dX8_walkTo_116 (by decide) (fun hz => absurd hz (show ¬ _ from (by rw [nI_leI (by omega) (by omega)]; omega))) (fun _ => ?_)
      refine r_iload dX8_walkTo_119 rfl ?_
      refine r_iload dX8_walkTo_121 rfl ?_
      refine r_ishr dX8_walkTo_123 ?_
      refine r_iconst (v := nI 1) dX8_walkTo_124 (by decide) ?_
      refine r_iand dX8_walkTo_125 ?_
      rw [b_ask _ (by omega), bt_nI _ (by omega)]
      rw [if_neg q]
      refine r_if_eq (tgt := 155) dX8_walkTo_126 (by decide) (fun _ => ?_) (fun hz => absurd (show _ from rfl) hz)
      refine r_iinc (v := nI (x + 1)) dX8_walkTo_155 rfl (nI_inc x) ?_
      refine r_goto (tgt := 110) dX8_walkTo_158 (by decide) ?_
      refine tb_in k z c cr g w p D hS hD cnt (x + 1) _ (by omega) hT (fun y hy d => ?_) hK
      by_cases e : y = x
      · rw [e] at d; exact absurd d q
      · exact hA y (by omega) d

set_option maxHeartbeats 4000000 in
set_option maxRecDepth 100000 in
theorem tb_out (k z c cr : Nat) (g : Nat → Nat) (w p : Nat) {post : am_Post} {n : Nat} {kd : mK} {I : mI} {J : mJ} {P : mP} (hS : wkS kd I P k z c cr g) : ∀ (D : Nat) (z6 : Option Value) (A : Nat → Int32), D < 2 ^ c → KT g cr c D A → (∀ (z6 : Option Value) (A : Nat → Int32), KT g cr c 0 A → Ru yX8_walkTo.cls cX8_walkTo 7 (some .int) yX8_walkTo.name 6 (post) 0 0 167 [some (.ref k), some (.int (nI w)), some (.int (nI p)), some (.int (nI cr)), some (.ref z), some (.int (nI 0)), z6] [] n kd (va_up I z A) J P) → Ru yX8_walkTo.cls cX8_walkTo 7 (some .int) yX8_walkTo.name 6 (post) 0 0 102 [some (.ref k), some (.int (nI w)), some (.int (nI p)), some (.int (nI cr)), some (.ref z), some (.int (nI D)), z6] [] n kd (va_up I z A) J P
  | 0, z6, A, hD, hT, hK => by
    refine r_iload dX8_walkTo_102 rfl ?_
    refine r_if_le (tgt := 167) dX8_walkTo_104 (by decide) (fun _ => ?_) (fun hz => absurd (show _ from (by decide)) hz)
    exact hK _ A hT
  | D + 1, z6, A, hD, hT, hK => by
    have p10 := pw10 hS.2.2.2.2.2.2.2.1
    refine r_iload dX8_walkTo_102 rfl ?_
    refine r_if_le (tgt := 167) dX8_walkTo_104 (by decide) (fun hz => absurd hz (show ¬ _ from (by rw [show (0 : Int32) = nI 0 from rfl, nI_leI (by omega) (by omega)]; omega))) (fun _ => ?_)
    refine r_iconst (v := nI 0) dX8_walkTo_107 (by decide) ?_
    refine r_istore dX8_walkTo_108 (by decide) ?_
    refine tb_in k z c cr g w p (D + 1) hS hD c 0 A (by omega) hT (fun y hy => absurd hy (Nat.not_lt_zero _)) (fun z6 A hA => ?_)
    refine r_iinc (v := nI D) dX8_walkTo_161 rfl (nI_dec D) ?_
    refine r_goto (tgt := 102) dX8_walkTo_164 (by decide) ?_
    exact tb_out k z c cr g w p hS D z6 A (by omega) hA hK

theorem dX8_keepRow_0 : decode cX8_keepRow 0 = .ok (.iconst 0, 1) := by decide +kernel
theorem dX8_keepRow_1 : decode cX8_keepRow 1 = .ok (.istore_n 2, 1) := by decide +kernel
theorem dX8_keepRow_2 : decode cX8_keepRow 2 = .ok (.iload_n 1, 1) := by decide +kernel
theorem dX8_keepRow_3 : decode cX8_keepRow 3 = .ok (.istore_n 3, 1) := by decide +kernel
theorem dX8_keepRow_4 : decode cX8_keepRow 4 = .ok (.iconst 0, 1) := by decide +kernel
theorem dX8_keepRow_5 : decode cX8_keepRow 5 = .ok (.istore 4, 2) := by decide +kernel
theorem dX8_keepRow_7 : decode cX8_keepRow 7 = .ok (.iload 4, 2) := by decide +kernel
theorem dX8_keepRow_9 : decode cX8_keepRow 9 = .ok (.aload_n 0, 1) := by decide +kernel
theorem dX8_keepRow_10 : decode cX8_keepRow 10 = .ok (.getfield 15, 3) := by decide +kernel
theorem dX8_keepRow_13 : decode cX8_keepRow 13 = .ok (.if_icmp .ge 88, 3) := by decide +kernel
theorem dX8_keepRow_16 : decode cX8_keepRow 16 = .ok (.aload_n 0, 1) := by decide +kernel
theorem dX8_keepRow_17 : decode cX8_keepRow 17 = .ok (.iload_n 3, 1) := by decide +kernel
theorem dX8_keepRow_18 : decode cX8_keepRow 18 = .ok (.iload_n 2, 1) := by decide +kernel
theorem dX8_keepRow_19 : decode cX8_keepRow 19 = .ok (.invokevirtual 41, 3) := by decide +kernel
theorem dX8_keepRow_22 : decode cX8_keepRow 22 = .ok (.istore 5, 2) := by decide +kernel
theorem dX8_keepRow_24 : decode cX8_keepRow 24 = .ok (.iconst 0, 1) := by decide +kernel
theorem dX8_keepRow_25 : decode cX8_keepRow 25 = .ok (.istore 6, 2) := by decide +kernel
theorem dX8_keepRow_27 : decode cX8_keepRow 27 = .ok (.aload_n 0, 1) := by decide +kernel
theorem dX8_keepRow_28 : decode cX8_keepRow 28 = .ok (.getfield 15, 3) := by decide +kernel
theorem dX8_keepRow_31 : decode cX8_keepRow 31 = .ok (.iconst 1, 1) := by decide +kernel
theorem dX8_keepRow_32 : decode cX8_keepRow 32 = .ok (.isub, 1) := by decide +kernel
theorem dX8_keepRow_33 : decode cX8_keepRow 33 = .ok (.istore 7, 2) := by decide +kernel
theorem dX8_keepRow_35 : decode cX8_keepRow 35 = .ok (.iload 7, 2) := by decide +kernel
theorem dX8_keepRow_37 : decode cX8_keepRow 37 = .ok (.ifCond .lt 35, 3) := by decide +kernel
theorem dX8_keepRow_40 : decode cX8_keepRow 40 = .ok (.iload_n 2, 1) := by decide +kernel
theorem dX8_keepRow_41 : decode cX8_keepRow 41 = .ok (.iload 7, 2) := by decide +kernel
theorem dX8_keepRow_43 : decode cX8_keepRow 43 = .ok (.ishr, 1) := by decide +kernel
theorem dX8_keepRow_44 : decode cX8_keepRow 44 = .ok (.iconst 1, 1) := by decide +kernel
theorem dX8_keepRow_45 : decode cX8_keepRow 45 = .ok (.iand, 1) := by decide +kernel
theorem dX8_keepRow_46 : decode cX8_keepRow 46 = .ok (.ifCond .ne 20, 3) := by decide +kernel
theorem dX8_keepRow_49 : decode cX8_keepRow 49 = .ok (.aload_n 0, 1) := by decide +kernel
theorem dX8_keepRow_50 : decode cX8_keepRow 50 = .ok (.iload 7, 2) := by decide +kernel
theorem dX8_keepRow_52 : decode cX8_keepRow 52 = .ok (.iload_n 3, 1) := by decide +kernel
theorem dX8_keepRow_53 : decode cX8_keepRow 53 = .ok (.iload_n 2, 1) := by decide +kernel
theorem dX8_keepRow_54 : decode cX8_keepRow 54 = .ok (.invokevirtual 50, 3) := by decide +kernel
theorem dX8_keepRow_57 : decode cX8_keepRow 57 = .ok (.iload 5, 2) := by decide +kernel
theorem dX8_keepRow_59 : decode cX8_keepRow 59 = .ok (.if_icmp .ne 7, 3) := by decide +kernel
theorem dX8_keepRow_62 : decode cX8_keepRow 62 = .ok (.iload 7, 2) := by decide +kernel
theorem dX8_keepRow_64 : decode cX8_keepRow 64 = .ok (.istore 6, 2) := by decide +kernel
theorem dX8_keepRow_66 : decode cX8_keepRow 66 = .ok (.iinc 7 (-1), 3) := by decide +kernel
theorem dX8_keepRow_69 : decode cX8_keepRow 69 = .ok (.goto (-34), 3) := by decide +kernel
theorem dX8_keepRow_72 : decode cX8_keepRow 72 = .ok (.iload_n 2, 1) := by decide +kernel
theorem dX8_keepRow_73 : decode cX8_keepRow 73 = .ok (.iconst 1, 1) := by decide +kernel
theorem dX8_keepRow_74 : decode cX8_keepRow 74 = .ok (.iload 6, 2) := by decide +kernel
theorem dX8_keepRow_76 : decode cX8_keepRow 76 = .ok (.ishl, 1) := by decide +kernel
theorem dX8_keepRow_77 : decode cX8_keepRow 77 = .ok (.ior, 1) := by decide +kernel
theorem dX8_keepRow_78 : decode cX8_keepRow 78 = .ok (.istore_n 2, 1) := by decide +kernel
theorem dX8_keepRow_79 : decode cX8_keepRow 79 = .ok (.aload_n 0, 1) := by decide +kernel
theorem dX8_keepRow_80 : decode cX8_keepRow 80 = .ok (.getfield 9, 3) := by decide +kernel
theorem dX8_keepRow_83 : decode cX8_keepRow 83 = .ok (.iload 6, 2) := by decide +kernel
theorem dX8_keepRow_85 : decode cX8_keepRow 85 = .ok (.iaload, 1) := by decide +kernel
theorem dX8_keepRow_86 : decode cX8_keepRow 86 = .ok (.istore_n 3, 1) := by decide +kernel
theorem dX8_keepRow_87 : decode cX8_keepRow 87 = .ok (.aload_n 0, 1) := by decide +kernel
theorem dX8_keepRow_88 : decode cX8_keepRow 88 = .ok (.getfield 25, 3) := by decide +kernel
theorem dX8_keepRow_91 : decode cX8_keepRow 91 = .ok (.iload 4, 2) := by decide +kernel
theorem dX8_keepRow_93 : decode cX8_keepRow 93 = .ok (.iload_n 3, 1) := by decide +kernel
theorem dX8_keepRow_94 : decode cX8_keepRow 94 = .ok (.iastore, 1) := by decide +kernel
theorem dX8_keepRow_95 : decode cX8_keepRow 95 = .ok (.iinc 4 1, 3) := by decide +kernel
theorem dX8_keepRow_98 : decode cX8_keepRow 98 = .ok (.goto (-91), 3) := by decide +kernel
theorem dX8_keepRow_101 : decode cX8_keepRow 101 = .ok (.aload_n 0, 1) := by decide +kernel
theorem dX8_keepRow_102 : decode cX8_keepRow 102 = .ok (.aload_n 0, 1) := by decide +kernel
theorem dX8_keepRow_103 : decode cX8_keepRow 103 = .ok (.getfield 15, 3) := by decide +kernel
theorem dX8_keepRow_106 : decode cX8_keepRow 106 = .ok (.putfield 28, 3) := by decide +kernel
theorem dX8_keepRow_109 : decode cX8_keepRow 109 = .ok (.aload_n 0, 1) := by decide +kernel
theorem dX8_keepRow_110 : decode cX8_keepRow 110 = .ok (.iconst 1, 1) := by decide +kernel
theorem dX8_keepRow_111 : decode cX8_keepRow 111 = .ok (.putfield 31, 3) := by decide +kernel
theorem dX8_keepRow_114 : decode cX8_keepRow 114 = .ok (.return_, 1) := by decide +kernel

theorem wkS.row {kd : mK} {I : mI} {P : mP} {k z c cr : Nat} {g : Nat → Nat} (h : wkS kd I P k z c cr g) (R : Nat → Int32) : wkS kd (va_up I (k + 2) R) P k z c cr g := by
  obtain ⟨hW, h3, hz, ⟨hz0, hz1, hz2⟩, e1, e2, hg, hc, hcr, hg20⟩ := h
  refine ⟨hW, h3, hz, ⟨hz0, hz1, hz2⟩, ?_, ?_, fun j hj => ?_, hc, hcr, hg20⟩
  · rw [am_up_n _ _ (by omega)]; exact e1
  · rw [am_up_n _ _ (by omega)]; exact e2
  · rw [am_up_n _ _ (by omega)]; exact hg j hj
set_option maxHeartbeats 4000000 in
set_option maxRecDepth 100000 in
theorem kr_in (k z c cr : Nat) (g : Nat → Nat) (p D v i : Nat) {post : am_Post} (S : Nat) (R : Nat → Int32) {n : Nat} {kd : mK} {I : mI} {J : mJ} {P : mP} (hS : wkS kd I P k z c cr g) (hT : KT g cr c 0 (I z)) (hv : v ≤ 20) (hD : D < 2 ^ c) (hSm : S < 2 ^ 31) : ∀ (t nx : Nat), t ≤ c → nx < 2 ^ 31 → (∀ z7, Ru yX8_keepRow.cls cX8_keepRow 8 none yX8_keepRow.name 4 (post) 0 0 72 [some (.ref k), some (.int (nI p)), some (.int (nI D)), some (.int (nI v)), some (.int (nI i)), some (.int (nI S)), some (.int (nI (nxW (wW g cr c v D) D S t nx))), z7] [] n kd (va_up I (k + 2) R) J P) → Ru yX8_keepRow.cls cX8_keepRow 8 none yX8_keepRow.name 4 (post) 0 0 35 [some (.ref k), some (.int (nI p)), some (.int (nI D)), some (.int (nI v)), some (.int (nI i)), some (.int (nI S)), some (.int (nI nx)), some (.int (gM t))] [] n kd (va_up I (k + 2) R) J P
  | 0, nx, ht, hn, hK => by
    refine r_iload dX8_keepRow_35 rfl ?_
    refine r_if_lt (tgt := 72) dX8_keepRow_37 (by decide) (fun _ => ?_) (fun hz => absurd (show _ from (by decide)) hz)
    exact hK _
  | t + 1, nx, ht, hn, hK => by
    obtain ⟨hW, h3, hz, ⟨hz0, hz1, hz2⟩, e1, e2, hg, hc, hcr, hg20⟩ := id hS
    obtain ⟨w0, w1, w2, v0, v4⟩ := id hW
    have hSr := hS.row R
    have hTr : KT g cr c D (va_up I (k + 2) R z) := by rw [am_up_n _ _ (by omega)]; exact hT.wk (Nat.zero_le D)
    have hl := wW_le (k := t) hg20 hcr hc hv hD (by omega)
    change Ru _ _ _ _ _ _ _ _ _ _ [_, _, _, _, _, _, _, some (.int (nI t))] _ _ _ _ _ _
    by_cases q : D.testBit t = true
    · rw [show nxW (wW g cr c v D) D S (t + 1) nx = nxW (wW g cr c v D) D S t nx from by conv => lhs; unfold nxW; rw [if_neg (by rw [q]; exact fun x => nomatch x.1)]] at hK
      refine r_iload dX8_keepRow_35 rfl ?_
      refine r_if_lt (tgt := 72) dX8_keepRow_37 (by decide) (fun hz => absurd hz (show ¬ _ from (z_nlt (by omega)))) (fun _ => ?_)
      refine r_iload_n dX8_keepRow_40 rfl ?_
      refine r_iload dX8_keepRow_41 rfl ?_
      refine r_ishr dX8_keepRow_43 ?_
      refine r_iconst (v := nI 1) dX8_keepRow_44 (by decide) ?_
      refine r_iand dX8_keepRow_45 ?_
      rw [b_ask _ (by omega), bt_nI _ (by omega)]
      rw [if_pos q]
      refine r_if_ne (tgt := 66) dX8_keepRow_46 (by decide) (fun _ => ?_) (fun hz => absurd hz (show ¬ _ from (by decide)))
      refine r_iinc (v := gM t) dX8_keepRow_66 rfl (gM_d t) ?_
      refine r_goto (tgt := 35) dX8_keepRow_69 (by decide) ?_
      exact kr_in k z c cr g p D v i S R hS hT hv hD hSm t nx (by omega) hn hK
    · by_cases q2 : wW g cr c v D t = S
      · rw [show nxW (wW g cr c v D) D S (t + 1) nx = nxW (wW g cr c v D) D S t t from by conv => lhs; unfold nxW; rw [if_pos ⟨by simpa using q, q2⟩]] at hK
        refine r_iload dX8_keepRow_35 rfl ?_
        refine r_if_lt (tgt := 72) dX8_keepRow_37 (by decide) (fun hz => absurd hz (show ¬ _ from (z_nlt (by omega)))) (fun _ => ?_)
        refine r_iload_n dX8_keepRow_40 rfl ?_
        refine r_iload dX8_keepRow_41 rfl ?_
        refine r_ishr dX8_keepRow_43 ?_
        refine r_iconst (v := nI 1) dX8_keepRow_44 (by decide) ?_
        refine r_iand dX8_keepRow_45 ?_
        rw [b_ask _ (by omega), bt_nI _ (by omega)]
        rw [if_neg q]
        refine r_if_ne (tgt := 66) dX8_keepRow_46 (by decide) (fun hz => absurd (show _ from rfl) hz) (fun _ => ?_)
        refine r_aload_n dX8_keepRow_49 rfl ?_
        refine r_iload dX8_keepRow_50 rfl ?_
        refine r_iload_n dX8_keepRow_52 rfl ?_
        refine r_iload_n dX8_keepRow_53 rfl ?_
        refine r_virtE (c_len k z c cr g v D t hSr hTr hv hD (by omega) q) lk_X8_50 mc_X8_lengthBy dX8_keepRow_54 w0 (by decide) rfl rfl (Nat.le_of_ble_eq_true rfl) ?_
        refine r_iload dX8_keepRow_57 rfl ?_
        refine r_icmp_ne (tgt := 66) dX8_keepRow_59 (by decide) (fun hz => absurd (show _ from (by rw [q2])) hz) (fun _ => ?_)
        refine r_iload dX8_keepRow_62 rfl ?_
        refine r_istore dX8_keepRow_64 (by decide) ?_
        refine r_iinc (v := gM t) dX8_keepRow_66 rfl (gM_d t) ?_
        refine r_goto (tgt := 35) dX8_keepRow_69 (by decide) ?_
        exact kr_in k z c cr g p D v i S R hS hT hv hD hSm t t (by omega) (by omega) hK
      · rw [show nxW (wW g cr c v D) D S (t + 1) nx = nxW (wW g cr c v D) D S t nx from by conv => lhs; unfold nxW; rw [if_neg (fun x => q2 x.2)]] at hK
        refine r_iload dX8_keepRow_35 rfl ?_
        refine r_if_lt (tgt := 72) dX8_keepRow_37 (by decide) (fun hz => absurd hz (show ¬ _ from (z_nlt (by omega)))) (fun _ => ?_)
        refine r_iload_n dX8_keepRow_40 rfl ?_
        refine r_iload dX8_keepRow_41 rfl ?_
        refine r_ishr dX8_keepRow_43 ?_
        refine r_iconst (v := nI 1) dX8_keepRow_44 (by decide) ?_
        refine r_iand dX8_keepRow_45 ?_
        rw [b_ask _ (by omega), bt_nI _ (by omega)]
        rw [if_neg q]
        refine r_if_ne (tgt := 66) dX8_keepRow_46 (by decide) (fun hz => absurd (show _ from rfl) hz) (fun _ => ?_)
        refine r_aload_n dX8_keepRow_49 rfl ?_
        refine r_iload dX8_keepRow_50 rfl ?_
        refine r_iload_n dX8_keepRow_52 rfl ?_
        refine r_iload_n dX8_keepRow_53 rfl ?_
        refine r_virtE (c_len k z c cr g v D t hSr hTr hv hD (by omega) q) lk_X8_50 mc_X8_lengthBy dX8_keepRow_54 w0 (by decide) rfl rfl (Nat.le_of_ble_eq_true rfl) ?_
        refine r_iload dX8_keepRow_57 rfl ?_
        refine r_icmp_ne (tgt := 66) dX8_keepRow_59 (by decide) (fun _ => ?_) (fun hz => absurd hz (show ¬ _ from (fun h => q2 ((nI_eq (by omega) (by omega)).mp h))))
        refine r_iinc (v := gM t) dX8_keepRow_66 rfl (gM_d t) ?_
        refine r_goto (tgt := 35) dX8_keepRow_69 (by decide) ?_
        exact kr_in k z c cr g p D v i S R hS hT hv hD hSm t nx (by omega) hn hK

set_option maxHeartbeats 4000000 in
set_option maxRecDepth 100000 in
theorem kr_loop (k z c cr : Nat) (g : Nat → Nat) (p : Nat) (Ls : List Nat) {n : Nat} {kd : mK} {I : mI} {J : mJ} {P : mP} (hS : wkS kd I P k z c cr g) (hT : KT g cr c 0 (I z)) (hLl : Ls.length = c) : ∀ (cnt i D v : Nat) (z5 z6 z7 : Option Value) (R : Nat → Int32), i + cnt = c → D < 2 ^ c → cnB D c = i → v ≤ 20 → Ls.drop i = wkL g cr c cnt v D → (∀ j, j < i → R j = nI (Ls.getD j 0)) → Ru yX8_keepRow.cls cX8_keepRow 8 none yX8_keepRow.name 4 (fun y n' kd' I' J' P' => ∃ R : Nat → Int32, (∀ j, j < Ls.length → R j = nI (Ls.getD j 0)) ∧ am_is none n kd (va_up (va_up I (k + 2) R) k (va_up (va_up (I k) 5 (nI c)) 6 (nI 1))) J P y n' kd' I' J' P') 0 0 7 [some (.ref k), some (.int (nI p)), some (.int (nI D)), some (.int (nI v)), some (.int (nI i)), z5, z6, z7] [] n kd (va_up I (k + 2) R) J P
  | 0, i, D, v, z5, z6, z7, R, hh, hD, hcn, hv, hdr, hR => by
    obtain ⟨hW, h3, hz, ⟨hz0, hz1, hz2⟩, e1, e2, hg, hc, hcr, hg20⟩ := id hS
    obtain ⟨w0, w1, w2, v0, v4⟩ := id hW
    have ei : i = c := by omega
    rw [ei]
    refine r_iload dX8_keepRow_7 rfl ?_
    refine r_aload_n dX8_keepRow_9 rfl ?_
    refine r_getI dX8_keepRow_10 fl_X8_15 rfl w0 ?_
    rw [am_up_n _ _ (by omega), e1]
    refine r_icmp_ge (tgt := 101) dX8_keepRow_13 (by decide) (fun _ => ?_) (fun hz => absurd (show _ from (by rw [nI_leI (by omega) (by omega)]; omega)) hz)
    refine r_aload_n dX8_keepRow_101 rfl ?_
    refine r_aload_n dX8_keepRow_102 rfl ?_
    refine r_getI dX8_keepRow_103 fl_X8_15 rfl w0 ?_
    rw [am_up_n _ _ (by omega), e1]
    refine r_putI dX8_keepRow_106 fl_X8_28 rfl rfl w0 ?_
    refine r_aload_n dX8_keepRow_109 rfl ?_
    refine r_iconst (v := nI 1) dX8_keepRow_110 (by decide) ?_
    refine r_putZ dX8_keepRow_111 fl_X8_31 rfl rfl (Or.inr rfl) w0 ?_
    refine r_vret rfl dX8_keepRow_114 ?_
    exact ⟨R, fun j hj => hR j (by omega), by rw [am_up_up, am_up_s, am_up_n _ _ (by omega)]; exact am_is.mk⟩
  | cnt + 1, i, D, v, z5, z6, z7, R, hh, hD, hcn, hv, hdr, hR => by
    obtain ⟨hW, h3, hz, ⟨hz0, hz1, hz2⟩, e1, e2, hg, hc, hcr, hg20⟩ := id hS
    obtain ⟨w0, w1, w2, v0, v4⟩ := id hW
    have p10 := pw10 hc
    have hnf : ¬ D = 2 ^ c - 1 := fun h => by rw [h, cnB_1] at hcn; omega
    obtain ⟨x, hx⟩ := bs_ex (W := wW g cr c v D) hD hnf
    obtain ⟨hb1, hb2, -⟩ := bsK_some c hx
    have hTr : KT g cr c D (va_up I (k + 2) R z) := by rw [am_up_n _ _ (by omega)]; exact hT.wk (Nat.zero_le D)
    have hwx := wW_le (k := x) hg20 hcr hc hv hD hb1
    have hdr2 : Ls.drop i = g x :: wkL g cr c cnt (g x) (D ||| 2 ^ x) := by
      rw [hdr]
      conv => lhs; unfold wkL
      rw [hx]
    have hLi : Ls.getD i 0 = g x := by
      have : (Ls.drop i)[0]? = some (g x) := by rw [hdr2]; rfl
      rw [List.getElem?_drop] at this
      rw [List.getD_eq_getElem?_getD, show i = i + 0 by omega, this]
      rfl
    have hdr3 : Ls.drop (i + 1) = wkL g cr c cnt (g x) (D ||| 2 ^ x) := by
      rw [← List.tail_drop, hdr2]
      rfl
    refine r_iload dX8_keepRow_7 rfl ?_
    refine r_aload_n dX8_keepRow_9 rfl ?_
    refine r_getI dX8_keepRow_10 fl_X8_15 rfl w0 ?_
    rw [am_up_n _ _ (by omega), e1]
    refine r_icmp_ge (tgt := 101) dX8_keepRow_13 (by decide) (fun hz => absurd hz (show ¬ _ from (by rw [nI_leI (by omega) (by omega)]; omega))) (fun _ => ?_)
    refine r_aload_n dX8_keepRow_16 rfl ?_
    refine r_iload_n dX8_keepRow_17 rfl ?_
    refine r_iload_n dX8_keepRow_18 rfl ?_
    refine r_virtE (c_sf k z c cr g v D (hS.row R) hTr hv hD) lk_X8_41 mc_X8_shortestFrom dX8_keepRow_19 w0 (by decide) rfl rfl (Nat.le_of_ble_eq_true rfl) ?_
    rw [Lw_eq hD hnf, mn_bs hx (by have := wW_le (k := x) hg20 hcr hc hv hD hb1; omega)]
    refine r_istore dX8_keepRow_22 (by decide) ?_
    refine r_iconst (v := nI 0) dX8_keepRow_24 (by decide) ?_
    refine r_istore dX8_keepRow_25 (by decide) ?_
    refine r_aload_n dX8_keepRow_27 rfl ?_
    refine r_getI dX8_keepRow_28 fl_X8_15 rfl w0 ?_
    rw [am_up_n _ _ (by omega), e1]
    refine r_iconst (v := nI 1) dX8_keepRow_31 (by decide) ?_
    refine r_isub dX8_keepRow_32 ?_
    rw [pk_sub (by omega), show nI (c - 1) = gM c from by cases c with | zero => omega | succ c => rfl]
    refine r_istore dX8_keepRow_33 (by decide) ?_
    refine kr_in k z c cr g p D v i _ R hS hT hv hD (by omega) c 0 (Nat.le_refl c) (by decide) (fun z7 => ?_)
    rw [nx_bs hx]
    refine r_iload_n dX8_keepRow_72 rfl ?_
    refine r_iconst (v := nI 1) dX8_keepRow_73 (by decide) ?_
    refine r_iload dX8_keepRow_74 rfl ?_
    refine r_ishl dX8_keepRow_76 ?_
    rw [sh1_10 x (by omega)]
    refine r_ior dX8_keepRow_77 ?_
    rw [or_nI]
    refine r_istore_n dX8_keepRow_78 (by decide) ?_
    refine r_aload_n dX8_keepRow_79 rfl ?_
    refine r_getR dX8_keepRow_80 fl_X8_9 rfl w0 v0 ?_
    refine r_iload dX8_keepRow_83 rfl ?_
    refine r_iald dX8_keepRow_85 w1 (nI_in8 10 (by omega) (by decide)) (nI_clamp (by omega)) ?_
    rw [am_up_n _ _ (by omega), hg x hb1]
    refine r_istore_n dX8_keepRow_86 (by decide) ?_
    refine r_aload_n dX8_keepRow_87 rfl ?_
    refine r_getR dX8_keepRow_88 fl_X8_25 rfl w0 v4 ?_
    refine r_iload dX8_keepRow_91 rfl ?_
    refine r_iload_n dX8_keepRow_93 rfl ?_
    refine r_iast dX8_keepRow_94 w2 (nI_in8 10 (by omega) (by decide)) (nI_clamp (by omega)) ?_
    rw [am_up_s, am_up_up]
    refine r_iinc (v := nI (i + 1)) dX8_keepRow_95 rfl (nI_inc i) ?_
    refine r_goto (tgt := 7) dX8_keepRow_98 (by decide) ?_
    refine kr_loop k z c cr g p Ls hS hT hLl cnt (i + 1) (D ||| 2 ^ x) (g x) _ _ _ _ (by omega) (or_gt hD hb1 hb2).2 (by rw [cnB_or hb2 c hb1, hcn]) (hg20 x hb1) hdr3 (fun j hj => ?_)
    by_cases e : j = i
    · rw [e, am_up_s, hLi]
    · rw [am_up_n _ _ e]; exact hR j (by omega)

set_option maxHeartbeats 4000000 in
set_option maxRecDepth 100000 in
theorem c_keepRow (k z c cr : Nat) (g : Nat → Nat) (p : Nat) {n : Nat} {kd : mK} {I : mI} {J : mJ} {P : mP} (hS : wkS kd I P k z c cr g) (hT : KT g cr c 0 (I z)) (hp : p ≤ 20) : Ct yX8_keepRow cX8_keepRow 8 none 4 0 0 [.ref k, .int (nI p)] n kd I J P (fun y n' kd' I' J' P' => ∃ R : Nat → Int32, (∀ j, j < c → R j = nI ((wkL g cr c c p 0).getD j 0)) ∧ am_is none n kd (va_up (va_up I (k + 2) R) k (va_up (va_up (I k) 5 (nI c)) 6 (nI 1))) J P y n' kd' I' J' P') := by
  have hl := kr_loop (n := n) (J := J) k z c cr g p (wkL g cr c c p 0) hS hT (wkL_len c p 0 (Nat.two_pow_pos c) (by rw [cnB_0]; omega)) c 0 0 p none none none (I (k + 2)) (by omega) (Nat.two_pow_pos c) (cnB_0 c) hp rfl (fun j hj => absurd hj (Nat.not_lt_zero _))
  rw [am_up_id, wkL_len c p 0 (Nat.two_pow_pos c) (by rw [cnB_0]; omega)] at hl
  refine ct_of 6 (by decide +kernel) (Nat.le_of_ble_eq_true rfl) rfl ?_
  refine r_iconst (v := nI 0) dX8_keepRow_0 (by decide) ?_
  refine r_istore_n dX8_keepRow_1 (by decide) ?_
  refine r_iload_n dX8_keepRow_2 rfl ?_
  refine r_istore_n dX8_keepRow_3 (by decide) ?_
  refine r_iconst (v := nI 0) dX8_keepRow_4 (by decide) ?_
  refine r_istore dX8_keepRow_5 (by decide) ?_
  exact hl

