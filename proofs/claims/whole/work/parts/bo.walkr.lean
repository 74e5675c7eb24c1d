/-! WALKS: the reference -/
def KR (g : Nat → Nat) (cr c D : Nat) (A : Nat → Int32) : Prop := ∀ E x, E < 2 ^ c → D < E → x < c → A (10 * E + x) = nI (Lw g cr c (g x) E)
theorem KR.wk {g : Nat → Nat} {cr c D D' : Nat} {A : Nat → Int32} (h : KR g cr c D A) (hd : D ≤ D') : KR g cr c D' A := fun E x a b => h E x a (by omega)
def rkS (kd : mK) (I : mI) (P : mP) (m c cr : Nat) (g : Nat → Nat) : Prop := kM kd P m ∧ I m 73 = nI c ∧ (∀ j, j < c → I (m + 36) j = nI (g j)) ∧ c ≤ 10 ∧ cr ≤ 9 ∧ ∀ j, j < c → g j ≤ 20
theorem rkS.up {kd : mK} {I : mI} {P : mP} {m c cr a : Nat} {g : Nat → Nat} {A : Nat → Int32} (ha : a = m + 37 ∨ a = m + 38) (h : rkS kd I P m c cr g) : rkS kd (va_up I a A) P m c cr g := by
  obtain ⟨hM, h73, hg, hc, hcr, hg20⟩ := h
  exact ⟨hM, by rw [am_up_n _ _ (by omega)]; exact h73, fun j hj => by rw [am_up_n _ _ (by omega)]; exact hg j hj, hc, hcr, hg20⟩
def lsK (W : Nat → Nat) : Option Nat → Nat
  | none => 0
  | some x => W x
theorem dX10_far_0 : decode cX10_far 0 = .ok (.iload_n 0, 1) := by decide +kernel
theorem dX10_far_1 : decode cX10_far 1 = .ok (.iconst 1, 1) := by decide +kernel
theorem dX10_far_2 : decode cX10_far 2 = .ok (.iadd, 1) := by decide +kernel
theorem dX10_far_3 : decode cX10_far 3 = .ok (.iconst 2, 1) := by decide +kernel
theorem dX10_far_4 : decode cX10_far 4 = .ok (.idiv, 1) := by decide +kernel
theorem dX10_far_5 : decode cX10_far 5 = .ok (.istore_n 3, 1) := by decide +kernel
theorem dX10_far_6 : decode cX10_far 6 = .ok (.iload_n 1, 1) := by decide +kernel
theorem dX10_far_7 : decode cX10_far 7 = .ok (.iconst 1, 1) := by decide +kernel
theorem dX10_far_8 : decode cX10_far 8 = .ok (.iadd, 1) := by decide +kernel
theorem dX10_far_9 : decode cX10_far 9 = .ok (.iconst 2, 1) := by decide +kernel
theorem dX10_far_10 : decode cX10_far 10 = .ok (.idiv, 1) := by decide +kernel
theorem dX10_far_11 : decode cX10_far 11 = .ok (.istore 4, 2) := by decide +kernel
theorem dX10_far_13 : decode cX10_far 13 = .ok (.iload_n 3, 1) := by decide +kernel
theorem dX10_far_14 : decode cX10_far 14 = .ok (.iload 4, 2) := by decide +kernel
theorem dX10_far_16 : decode cX10_far 16 = .ok (.if_icmp .ge 10, 3) := by decide +kernel
theorem dX10_far_19 : decode cX10_far 19 = .ok (.iload 4, 2) := by decide +kernel
theorem dX10_far_21 : decode cX10_far 21 = .ok (.iload_n 3, 1) := by decide +kernel
theorem dX10_far_22 : decode cX10_far 22 = .ok (.isub, 1) := by decide +kernel
theorem dX10_far_23 : decode cX10_far 23 = .ok (.goto 7, 3) := by decide +kernel
theorem dX10_far_26 : decode cX10_far 26 = .ok (.iload_n 3, 1) := by decide +kernel
theorem dX10_far_27 : decode cX10_far 27 = .ok (.iload 4, 2) := by decide +kernel
theorem dX10_far_29 : decode cX10_far 29 = .ok (.isub, 1) := by decide +kernel
theorem dX10_far_30 : decode cX10_far 30 = .ok (.iload_n 0, 1) := by decide +kernel
theorem dX10_far_31 : decode cX10_far 31 = .ok (.iconst 2, 1) := by decide +kernel
theorem dX10_far_32 : decode cX10_far 32 = .ok (.irem, 1) := by decide +kernel
theorem dX10_far_33 : decode cX10_far 33 = .ok (.iload_n 1, 1) := by decide +kernel
theorem dX10_far_34 : decode cX10_far 34 = .ok (.iconst 2, 1) := by decide +kernel
theorem dX10_far_35 : decode cX10_far 35 = .ok (.irem, 1) := by decide +kernel
theorem dX10_far_36 : decode cX10_far 36 = .ok (.if_icmp .ne 7, 3) := by decide +kernel
theorem dX10_far_39 : decode cX10_far 39 = .ok (.iconst 0, 1) := by decide +kernel
theorem dX10_far_40 : decode cX10_far 40 = .ok (.goto 4, 3) := by decide +kernel
theorem dX10_far_43 : decode cX10_far 43 = .ok (.iload_n 2, 1) := by decide +kernel
theorem dX10_far_44 : decode cX10_far 44 = .ok (.iadd, 1) := by decide +kernel
theorem dX10_far_45 : decode cX10_far 45 = .ok (.ireturn, 1) := by decide +kernel

set_option maxHeartbeats 4000000 in
set_option maxRecDepth 100000 in
theorem c_rfar (v w cr : Nat) {n : Nat} {kd : mK} {I : mI} {J : mJ} {P : mP} (hv : v ≤ 20) (hw : w ≤ 20) : Ct yX10_far cX10_far 5 (some .int) 1 0 0 [.int (nI v), .int (nI w), .int (nI cr)] n kd I J P (am_is (some (.int (nI (faN cr v w)))) n kd I J P) := by
  refine ct_of 2 (by decide +kernel) (Nat.le_of_ble_eq_true rfl) rfl ?_
  by_cases c1 : (v + 1) / 2 < (w + 1) / 2
  · have hd : dst ((v + 1) / 2) ((w + 1) / 2) = (w + 1) / 2 - (v + 1) / 2 := by unfold dst; rw [if_pos c1]
    by_cases q : v % 2 = w % 2
    · rw [show faN cr v w = ((w + 1) / 2 - (v + 1) / 2) + 0 from by unfold faN; rw [if_pos q, hd]]
      refine r_iload_n dX10_far_0 rfl ?_
      refine r_iconst (v := nI 1) dX10_far_1 (by decide) ?_
      refine r_iadd dX10_far_2 ?_
      rw [nI_add]
      refine r_iconst (v := nI 2) dX10_far_3 (by decide) ?_
      refine r_idiv dX10_far_4 (by decide) ?_
      rw [pk_div (by omega) (by omega) (by omega)]
      refine r_istore_n dX10_far_5 (by decide) ?_
      refine r_iload_n dX10_far_6 rfl ?_
      refine r_iconst (v := nI 1) dX10_far_7 (by decide) ?_
      refine r_iadd dX10_far_8 ?_
      rw [nI_add]
      refine r_iconst (v := nI 2) dX10_far_9 (by decide) ?_
      refine r_idiv dX10_far_10 (by decide) ?_
      rw [pk_div (by omega) (by omega) (by omega)]
      refine r_istore dX10_far_11 (by decide) ?_
      refine r_iload_n dX10_far_13 rfl ?_
      refine r_iload dX10_far_14 rfl ?_
      refine r_icmp_ge (tgt := 26) dX10_far_16 (by decide) (fun hz => absurd hz (show ¬ _ from (by rw [nI_leI (by omega) (by omega)]; omega))) (fun _ => ?_)
      refine r_iload dX10_far_19 rfl ?_
      refine r_iload_n dX10_far_21 rfl ?_
      refine r_isub dX10_far_22 ?_
      rw [pk_sub (by omega)]
      refine r_goto (tgt := 30) dX10_far_23 (by decide) ?_
      refine r_iload_n dX10_far_30 rfl ?_
      refine r_iconst (v := nI 2) dX10_far_31 (by decide) ?_
      refine r_irem dX10_far_32 (by decide) ?_
      rw [pk_rem (by omega) (by omega) (by omega)]
      refine r_iload_n dX10_far_33 rfl ?_
      refine r_iconst (v := nI 2) dX10_far_34 (by decide) ?_
      refine r_irem dX10_far_35 (by decide) ?_
      rw [pk_rem (by omega) (by omega) (by omega)]
      refine r_icmp_ne (tgt := 43) dX10_far_36 (by decide) (fun hz => absurd (show _ from (by rw [q])) hz) (fun _ => ?_)
      refine r_iconst (v := nI 0) dX10_far_39 (by decide) ?_
      refine r_goto (tgt := 44) dX10_far_40 (by decide) ?_
      refine r_iadd dX10_far_44 ?_
      rw [nI_add]
      refine r_iret rfl dX10_far_45 ?_
      exact am_is.mk
    · rw [show faN cr v w = ((w + 1) / 2 - (v + 1) / 2) + cr from by unfold faN; rw [if_neg q, hd]]
      refine r_iload_n dX10_far_0 rfl ?_
      refine r_iconst (v := nI 1) dX10_far_1 (by decide) ?_
      refine r_iadd dX10_far_2 ?_
      rw [nI_add]
      refine r_iconst (v := nI 2) dX10_far_3 (by decide) ?_
      refine r_idiv dX10_far_4 (by decide) ?_
      rw [pk_div (by omega) (by omega) (by omega)]
      refine r_istore_n dX10_far_5 (by decide) ?_
      refine r_iload_n dX10_far_6 rfl ?_
      refine r_iconst (v := nI 1) dX10_far_7 (by decide) ?_
      refine r_iadd dX10_far_8 ?_
      rw [nI_add]
      refine r_iconst (v := nI 2) dX10_far_9 (by decide) ?_
      refine r_idiv dX10_far_10 (by decide) ?_
      rw [pk_div (by omega) (by omega) (by omega)]
      refine r_istore dX10_far_11 (by decide) ?_
      refine r_iload_n dX10_far_13 rfl ?_
      refine r_iload dX10_far_14 rfl ?_
      refine r_icmp_ge (tgt := 26) dX10_far_16 (by decide) (fun hz => absurd hz (show ¬ _ from (by rw [nI_leI (by omega) (by omega)]; omega))) (fun _ => ?_)
      refine r_iload dX10_far_19 rfl ?_
      refine r_iload_n dX10_far_21 rfl ?_
      refine r_isub dX10_far_22 ?_
      rw [pk_sub (by omega)]
      refine r_goto (tgt := 30) dX10_far_23 (by decide) ?_
      refine r_iload_n dX10_far_30 rfl ?_
      refine r_iconst (v := nI 2) dX10_far_31 (by decide) ?_
      refine r_irem dX10_far_32 (by decide) ?_
      rw [pk_rem (by omega) (by omega) (by omega)]
      refine r_iload_n dX10_far_33 rfl ?_
      refine r_iconst (v := nI 2) dX10_far_34 (by decide) ?_
      refine r_irem dX10_far_35 (by decide) ?_
      rw [pk_rem (by omega) (by omega) (by omega)]
      refine r_icmp_ne (tgt := 43) dX10_far_36 (by decide) (fun _ => ?_) (fun hz => absurd hz (show ¬ _ from (fun h => q ((nI_eq (by omega) (by omega)).mp h))))
      refine r_iload_n dX10_far_43 rfl ?_
      refine r_iadd dX10_far_44 ?_
      rw [nI_add]
      refine r_iret rfl dX10_far_45 ?_
      exact am_is.mk
  · have hd : dst ((v + 1) / 2) ((w + 1) / 2) = (v + 1) / 2 - (w + 1) / 2 := by unfold dst; rw [if_neg c1]
    by_cases q : v % 2 = w % 2
    · rw [show faN cr v w = ((v + 1) / 2 - (w + 1) / 2) + 0 from by unfold faN; rw [if_pos q, hd]]
      refine r_iload_n dX10_far_0 rfl ?_
      refine r_iconst (v := nI 1) dX10_far_1 (by decide) ?_
      refine r_iadd dX10_far_2 ?_
      rw [nI_add]
      refine r_iconst (v := nI 2) dX10_far_3 (by decide) ?_
      refine r_idiv dX10_far_4 (by decide) ?_
      rw [pk_div (by omega) (by omega) (by omega)]
      refine r_istore_n dX10_far_5 (by decide) ?_
      refine r_iload_n dX10_far_6 rfl ?_
      refine r_iconst (v := nI 1) dX10_far_7 (by decide) ?_
      refine r_iadd dX10_far_8 ?_
      rw [nI_add]
      refine r_iconst (v := nI 2) dX10_far_9 (by decide) ?_
      refine r_idiv dX10_far_10 (by decide) ?_
      rw [pk_div (by omega) (by omega) (by omega)]
      refine r_istore dX10_far_11 (by decide) ?_
      refine r_iload_n dX10_far_13 rfl ?_
      refine r_iload dX10_far_14 rfl ?_
      refine r_icmp_ge (tgt := 26) dX10_far_16 (by decide) (fun _ => ?_) (fun hz => absurd (show _ from (by rw [nI_leI (by omega) (by omega)]; omega)) hz)
      refine r_iload_n dX10_far_26 rfl ?_
      refine r_iload dX10_far_27 rfl ?_
      refine r_isub dX10_far_29 ?_
      rw [pk_sub (by omega)]
      refine r_iload_n dX10_far_30 rfl ?_
      refine r_iconst (v := nI 2) dX10_far_31 (by decide) ?_
      refine r_irem dX10_far_32 (by decide) ?_
      rw [pk_rem (by omega) (by omega) (by omega)]
      refine r_iload_n dX10_far_33 rfl ?_
      refine r_iconst (v := nI 2) dX10_far_34 (by decide) ?_
      refine r_irem dX10_far_35 (by decide) ?_
      rw [pk_rem (by omega) (by omega) (by omega)]
      refine r_icmp_ne (tgt := 43) dX10_far_36 (by decide) (fun hz => absurd (show _ from (by rw [q])) hz) (fun _ => ?_)
      refine r_iconst (v := nI 0) dX10_far_39 (by decide) ?_
      refine r_goto (tgt := 44) dX10_far_40 (by decide) ?_
      refine r_iadd dX10_far_44 ?_
      rw [nI_add]
      refine r_iret rfl dX10_far_45 ?_
      exact am_is.mk
    · rw [show faN cr v w = ((v + 1) / 2 - (w + 1) / 2) + cr from by unfold faN; rw [if_neg q, hd]]
      refine r_iload_n dX10_far_0 rfl ?_
      refine r_iconst (v := nI 1) dX10_far_1 (by decide) ?_
      refine r_iadd dX10_far_2 ?_
      rw [nI_add]
      refine r_iconst (v := nI 2) dX10_far_3 (by decide) ?_
      refine r_idiv dX10_far_4 (by decide) ?_
      rw [pk_div (by omega) (by omega) (by omega)]
      refine r_istore_n dX10_far_5 (by decide) ?_
      refine r_iload_n dX10_far_6 rfl ?_
      refine r_iconst (v := nI 1) dX10_far_7 (by decide) ?_
      refine r_iadd dX10_far_8 ?_
      rw [nI_add]
      refine r_iconst (v := nI 2) dX10_far_9 (by decide) ?_
      refine r_idiv dX10_far_10 (by decide) ?_
      rw [pk_div (by omega) (by omega) (by omega)]
      refine r_istore dX10_far_11 (by decide) ?_
      refine r_iload_n dX10_far_13 rfl ?_
      refine r_iload dX10_far_14 rfl ?_
      refine r_icmp_ge (tgt := 26) dX10_far_16 (by decide) (fun _ => ?_) (fun hz => absurd (show _ from (by rw [nI_leI (by omega) (by omega)]; omega)) hz)
      refine r_iload_n dX10_far_26 rfl ?_
      refine r_iload dX10_far_27 rfl ?_
      refine r_isub dX10_far_29 ?_
      rw [pk_sub (by omega)]
      refine r_iload_n dX10_far_30 rfl ?_
      refine r_iconst (v := nI 2) dX10_far_31 (by decide) ?_
      refine r_irem dX10_far_32 (by decide) ?_
      rw [pk_rem (by omega) (by omega) (by omega)]
      refine r_iload_n dX10_far_33 rfl ?_
      refine r_iconst (v := nI 2) dX10_far_34 (by decide) ?_
      refine r_irem dX10_far_35 (by decide) ?_
      rw [pk_rem (by omega) (by omega) (by omega)]
      refine r_icmp_ne (tgt := 43) dX10_far_36 (by decide) (fun _ => ?_) (fun hz => absurd hz (show ¬ _ from (fun h => q ((nI_eq (by omega) (by omega)).mp h))))
      refine r_iload_n dX10_far_43 rfl ?_
      refine r_iadd dX10_far_44 ?_
      rw [nI_add]
      refine r_iret rfl dX10_far_45 ?_
      exact am_is.mk

theorem dX10_best_0 : decode cX10_best 0 = .ok (.iconst (-1), 1) := by decide +kernel
theorem dX10_best_1 : decode cX10_best 1 = .ok (.istore 4, 2) := by decide +kernel
theorem dX10_best_3 : decode cX10_best 3 = .ok (.iconst 0, 1) := by decide +kernel
theorem dX10_best_4 : decode cX10_best 4 = .ok (.istore 5, 2) := by decide +kernel
theorem dX10_best_6 : decode cX10_best 6 = .ok (.iconst 0, 1) := by decide +kernel
theorem dX10_best_7 : decode cX10_best 7 = .ok (.istore 6, 2) := by decide +kernel
theorem dX10_best_9 : decode cX10_best 9 = .ok (.iload 6, 2) := by decide +kernel
theorem dX10_best_11 : decode cX10_best 11 = .ok (.aload_n 0, 1) := by decide +kernel
theorem dX10_best_12 : decode cX10_best 12 = .ok (.getfield 487, 3) := by decide +kernel
theorem dX10_best_15 : decode cX10_best 15 = .ok (.if_icmp .ge 78, 3) := by decide +kernel
theorem dX10_best_18 : decode cX10_best 18 = .ok (.iload_n 2, 1) := by decide +kernel
theorem dX10_best_19 : decode cX10_best 19 = .ok (.iload 6, 2) := by decide +kernel
theorem dX10_best_21 : decode cX10_best 21 = .ok (.ishr, 1) := by decide +kernel
theorem dX10_best_22 : decode cX10_best 22 = .ok (.iconst 1, 1) := by decide +kernel
theorem dX10_best_23 : decode cX10_best 23 = .ok (.iand, 1) := by decide +kernel
theorem dX10_best_24 : decode cX10_best 24 = .ok (.iconst 1, 1) := by decide +kernel
theorem dX10_best_25 : decode cX10_best 25 = .ok (.if_icmp .ne 6, 3) := by decide +kernel
theorem dX10_best_28 : decode cX10_best 28 = .ok (.goto 59, 3) := by decide +kernel
theorem dX10_best_31 : decode cX10_best 31 = .ok (.iload_n 1, 1) := by decide +kernel
theorem dX10_best_32 : decode cX10_best 32 = .ok (.aload_n 0, 1) := by decide +kernel
theorem dX10_best_33 : decode cX10_best 33 = .ok (.getfield 130, 3) := by decide +kernel
theorem dX10_best_36 : decode cX10_best 36 = .ok (.iload 6, 2) := by decide +kernel
theorem dX10_best_38 : decode cX10_best 38 = .ok (.iaload, 1) := by decide +kernel
theorem dX10_best_39 : decode cX10_best 39 = .ok (.iload_n 3, 1) := by decide +kernel
theorem dX10_best_40 : decode cX10_best 40 = .ok (.invokestatic 490, 3) := by decide +kernel
theorem dX10_best_43 : decode cX10_best 43 = .ok (.aload_n 0, 1) := by decide +kernel
theorem dX10_best_44 : decode cX10_best 44 = .ok (.getfield 136, 3) := by decide +kernel
theorem dX10_best_47 : decode cX10_best 47 = .ok (.bipush 10, 2) := by decide +kernel
theorem dX10_best_49 : decode cX10_best 49 = .ok (.iload_n 2, 1) := by decide +kernel
theorem dX10_best_50 : decode cX10_best 50 = .ok (.iconst 1, 1) := by decide +kernel
theorem dX10_best_51 : decode cX10_best 51 = .ok (.iload 6, 2) := by decide +kernel
theorem dX10_best_53 : decode cX10_best 53 = .ok (.ishl, 1) := by decide +kernel
theorem dX10_best_54 : decode cX10_best 54 = .ok (.ior, 1) := by decide +kernel
theorem dX10_best_55 : decode cX10_best 55 = .ok (.imul, 1) := by decide +kernel
theorem dX10_best_56 : decode cX10_best 56 = .ok (.iload 6, 2) := by decide +kernel
theorem dX10_best_58 : decode cX10_best 58 = .ok (.iadd, 1) := by decide +kernel
theorem dX10_best_59 : decode cX10_best 59 = .ok (.iaload, 1) := by decide +kernel
theorem dX10_best_60 : decode cX10_best 60 = .ok (.iadd, 1) := by decide +kernel
theorem dX10_best_61 : decode cX10_best 61 = .ok (.istore 7, 2) := by decide +kernel
theorem dX10_best_63 : decode cX10_best 63 = .ok (.iload 4, 2) := by decide +kernel
theorem dX10_best_65 : decode cX10_best 65 = .ok (.iconst (-1), 1) := by decide +kernel
theorem dX10_best_66 : decode cX10_best 66 = .ok (.if_icmp .eq 13, 3) := by decide +kernel
theorem dX10_best_69 : decode cX10_best 69 = .ok (.iload 7, 2) := by decide +kernel
theorem dX10_best_71 : decode cX10_best 71 = .ok (.iload 5, 2) := by decide +kernel
theorem dX10_best_73 : decode cX10_best 73 = .ok (.if_icmp .lt 6, 3) := by decide +kernel
theorem dX10_best_76 : decode cX10_best 76 = .ok (.goto 11, 3) := by decide +kernel
theorem dX10_best_79 : decode cX10_best 79 = .ok (.iload 6, 2) := by decide +kernel
theorem dX10_best_81 : decode cX10_best 81 = .ok (.istore 4, 2) := by decide +kernel
theorem dX10_best_83 : decode cX10_best 83 = .ok (.iload 7, 2) := by decide +kernel
theorem dX10_best_85 : decode cX10_best 85 = .ok (.istore 5, 2) := by decide +kernel
theorem dX10_best_87 : decode cX10_best 87 = .ok (.iinc 6 1, 3) := by decide +kernel
theorem dX10_best_90 : decode cX10_best 90 = .ok (.goto (-81), 3) := by decide +kernel
theorem dX10_best_93 : decode cX10_best 93 = .ok (.iload 4, 2) := by decide +kernel
theorem dX10_best_95 : decode cX10_best 95 = .ok (.ireturn, 1) := by decide +kernel

set_option maxHeartbeats 4000000 in
set_option maxRecDepth 100000 in
theorem be_loop (m c cr : Nat) (g : Nat → Nat) (v D : Nat) {n : Nat} {kd : mK} {I : mI} {J : mJ} {P : mP} (hS : rkS kd I P m c cr g) (hT : KR g cr c D (I (m + 38))) (hv : v ≤ 20) (hD : D < 2 ^ c) : ∀ (cnt x : Nat) (z7 : Option Value), x + cnt = c → Ru yX10_best.cls cX10_best 8 (some .int) yX10_best.name 2 (am_is (some (.int (oI (bsK (wW g cr c v D) D c)))) n kd I J P) 0 0 9 [some (.ref m), some (.int (nI v)), some (.int (nI D)), some (.int (nI cr)), some (.int (oI (bsK (wW g cr c v D) D x))), some (.int (nI (lsK (wW g cr c v D) (bsK (wW g cr c v D) D x)))), some (.int (nI x)), z7] [] n kd I J P
  | 0, x, z7, hh => by
    obtain ⟨hM, h73, hg, hc, hcr, hg20⟩ := id hS
    have p10 := pw10 hc
    have ex : x = c := by omega
    rw [ex]
    refine r_iload dX10_best_9 rfl ?_
    refine r_aload_n dX10_best_11 rfl ?_
    refine r_getI dX10_best_12 fl_X10_487 rfl (kM_0 hM) ?_
    rw [h73]
    refine r_icmp_ge (tgt := 93) dX10_best_15 (by decide) (fun _ => ?_) (fun hz => absurd (show _ from (by rw [nI_leI (by omega) (by omega)]; omega)) hz)
    refine r_iload dX10_best_93 rfl ?_
    refine r_iret rfl dX10_best_95 ?_
    exact am_is.mk
  | cnt + 1, x, z7, hh => by
    obtain ⟨hM, h73, hg, hc, hcr, hg20⟩ := id hS
    have p10 := pw10 hc
    have hn := fun z7 => be_loop (n := n) (J := J) m c cr g v D hS hT hv hD cnt (x + 1) z7 (by omega)
    have hl := wW_le (k := x) hg20 hcr hc hv hD (by omega)
    rw [show bsK (wW g cr c v D) D (x + 1) = if D.testBit x = true then bsK (wW g cr c v D) D x else match bsK (wW g cr c v D) D x with
      | none => some x
      | some y => if (wW g cr c v D) x < (wW g cr c v D) y then some x else some y from rfl] at hn
    by_cases q : D.testBit x = true
    · rw [if_pos q] at hn
      refine r_iload dX10_best_9 rfl ?_
      refine r_aload_n dX10_best_11 rfl ?_
      refine r_getI dX10_best_12 fl_X10_487 rfl (kM_0 hM) ?_
      rw [h73]
      refine r_icmp_ge (tgt := 93) dX10_best_15 (by decide) (fun hz => absurd hz (show ¬ _ from (by rw [nI_leI (by omega) (by omega)]; omega))) (fun _ => ?_)
      refine r_iload_n dX10_best_18 rfl ?_
      refine r_iload dX10_best_19 rfl ?_
      refine r_ishr dX10_best_21 ?_
      refine r_iconst (v := nI 1) dX10_best_22 (by decide) ?_
      refine r_iand dX10_best_23 ?_
      rw [b_ask _ (by omega), bt_nI _ (by omega)]
      rw [if_pos q]
      refine r_iconst (v := nI 1) dX10_best_24 (by decide) ?_
      refine r_icmp_ne (tgt := 31) dX10_best_25 (by decide) (fun hz => absurd (show _ from rfl) hz) (fun _ => ?_)
      refine r_goto (tgt := 87) dX10_best_28 (by decide) ?_
      refine r_iinc (v := nI (x + 1)) dX10_best_87 rfl (nI_inc x) ?_
      refine r_goto (tgt := 9) dX10_best_90 (by decide) ?_
      exact hn _
    · rw [if_neg q] at hn
      have ho := or_gt hD (show x < c by omega) q
      cases hb : bsK (wW g cr c v D) D x with
      | none =>
        rw [hb] at hn
        refine r_iload dX10_best_9 rfl ?_
        refine r_aload_n dX10_best_11 rfl ?_
        refine r_getI dX10_best_12 fl_X10_487 rfl (kM_0 hM) ?_
        rw [h73]
        refine r_icmp_ge (tgt := 93) dX10_best_15 (by decide) (fun hz => absurd hz (show ¬ _ from (by rw [nI_leI (by omega) (by omega)]; omega))) (fun _ => ?_)
        refine r_iload_n dX10_best_18 rfl ?_
        refine r_iload dX10_best_19 rfl ?_
        refine r_ishr dX10_best_21 ?_
        refine r_iconst (v := nI 1) dX10_best_22 (by decide) ?_
        refine r_iand dX10_best_23 ?_
        rw [b_ask _ (by omega), bt_nI _ (by omega)]
        rw [if_neg q]
        refine r_iconst (v := nI 1) dX10_best_24 (by decide) ?_
        refine r_icmp_ne (tgt := 31) dX10_best_25 (by decide) (fun _ => ?_) (fun hz => absurd hz (show ¬ _ from (by decide)))
        refine r_iload_n dX10_best_31 rfl ?_
        refine r_aload_n dX10_best_32 rfl ?_
        refine r_getR dX10_best_33 fl_X10_130 rfl (kM_0 hM) (pM_70 hM) ?_
        refine r_iload dX10_best_36 rfl ?_
        refine r_iald dX10_best_38 (aM_70 hM) (nI_in8 10 (by omega) (by decide)) (nI_clamp (by omega)) ?_
        rw [hg x (by omega)]
        refine r_iload_n dX10_best_39 rfl ?_
        refine r_statE (c_rfar v (g x) cr hv (hg20 x (by omega))) lk_X10_490 mc_X10_far dX10_best_40 (by decide) rfl rfl (Nat.le_of_ble_eq_true rfl) ?_
        refine r_aload_n dX10_best_43 rfl ?_
        refine r_getR dX10_best_44 fl_X10_136 rfl (kM_0 hM) (pM_72 hM) ?_
        refine r_bipush (v := nI 10) dX10_best_47 (by decide) ?_
        refine r_iload_n dX10_best_49 rfl ?_
        refine r_iconst (v := nI 1) dX10_best_50 (by decide) ?_
        refine r_iload dX10_best_51 rfl ?_
        refine r_ishl dX10_best_53 ?_
        rw [sh1_10 x (by omega)]
        refine r_ior dX10_best_54 ?_
        rw [or_nI]
        refine r_imul dX10_best_55 ?_
        rw [pk_mul]
        refine r_iload dX10_best_56 rfl ?_
        refine r_iadd dX10_best_58 ?_
        rw [nI_add]
        refine r_iald dX10_best_59 (aM_72 hM) (nI_in8 10240 (by omega) (by decide)) (nI_clamp (by omega)) ?_
        rw [hT (D ||| 2 ^ x) x ho.2 ho.1 (by omega)]
        refine r_iadd dX10_best_60 ?_
        rw [nI_add]
        change Ru _ _ _ _ _ _ _ _ _ _ _ [.int (nI (wW g cr c v D x))] _ _ _ _ _
        refine r_istore dX10_best_61 (by decide) ?_
        refine r_iload dX10_best_63 rfl ?_
        refine r_iconst (v := (-1)) dX10_best_65 (by decide) ?_
        refine r_icmp_eq (tgt := 79) dX10_best_66 (by decide) (fun _ => ?_) (fun hz => absurd (show _ from rfl) hz)
        refine r_iload dX10_best_79 rfl ?_
        refine r_istore dX10_best_81 (by decide) ?_
        refine r_iload dX10_best_83 rfl ?_
        refine r_istore dX10_best_85 (by decide) ?_
        refine r_iinc (v := nI (x + 1)) dX10_best_87 rfl (nI_inc x) ?_
        refine r_goto (tgt := 9) dX10_best_90 (by decide) ?_
        exact hn _
      | some y =>
        have hy := (bsK_some x hb).1
        have hly := wW_le (k := y) hg20 hcr hc hv hD (by omega)
        rw [hb] at hn
        change ∀ z7, _ at hn
        by_cases q2 : (wW g cr c v D) x < (wW g cr c v D) y
        · simp only [if_pos q2] at hn
          refine r_iload dX10_best_9 rfl ?_
          refine r_aload_n dX10_best_11 rfl ?_
          refine r_getI dX10_best_12 fl_X10_487 rfl (kM_0 hM) ?_
          rw [h73]
          refine r_icmp_ge (tgt := 93) dX10_best_15 (by decide) (fun hz => absurd hz (show ¬ _ from (by rw [nI_leI (by omega) (by omega)]; omega))) (fun _ => ?_)
          refine r_iload_n dX10_best_18 rfl ?_
          refine r_iload dX10_best_19 rfl ?_
          refine r_ishr dX10_best_21 ?_
          refine r_iconst (v := nI 1) dX10_best_22 (by decide) ?_
          refine r_iand dX10_best_23 ?_
          rw [b_ask _ (by omega), bt_nI _ (by omega)]
          rw [if_neg q]
          refine r_iconst (v := nI 1) dX10_best_24 (by decide) ?_
          refine r_icmp_ne (tgt := 31) dX10_best_25 (by decide) (fun _ => ?_) (fun hz => absurd hz (show ¬ _ from (by decide)))
          refine r_iload_n dX10_best_31 rfl ?_
          refine r_aload_n dX10_best_32 rfl ?_
          refine r_getR dX10_best_33 fl_X10_130 rfl (kM_0 hM) (pM_70 hM) ?_
          refine r_iload dX10_best_36 rfl ?_
          refine r_iald dX10_best_38 (aM_70 hM) (nI_in8 10 (by omega) (by decide)) (nI_clamp (by omega)) ?_
          rw [hg x (by omega)]
          refine r_iload_n dX10_best_39 rfl ?_
          refine r_statE (c_rfar v (g x) cr hv (hg20 x (by omega))) lk_X10_490 mc_X10_far dX10_best_40 (by decide) rfl rfl (Nat.le_of_ble_eq_true rfl) ?_
          refine r_aload_n dX10_best_43 rfl ?_
          refine r_getR dX10_best_44 fl_X10_136 rfl (kM_0 hM) (pM_72 hM) ?_
          refine r_bipush (v := nI 10) dX10_best_47 (by decide) ?_
          refine r_iload_n dX10_best_49 rfl ?_
          refine r_iconst (v := nI 1) dX10_best_50 (by decide) ?_
          refine r_iload dX10_best_51 rfl ?_
          refine r_ishl dX10_best_53 ?_
          rw [sh1_10 x (by omega)]
          refine r_ior dX10_best_54 ?_
          rw [or_nI]
          refine r_imul dX10_best_55 ?_
          rw [pk_mul]
          refine r_iload dX10_best_56 rfl ?_
          refine r_iadd dX10_best_58 ?_
          rw [nI_add]
          refine r_iald dX10_best_59 (aM_72 hM) (nI_in8 10240 (by omega) (by decide)) (nI_clamp (by omega)) ?_
          rw [hT (D ||| 2 ^ x) x ho.2 ho.1 (by omega)]
          refine r_iadd dX10_best_60 ?_
          rw [nI_add]
          change Ru _ _ _ _ _ _ _ _ _ _ _ [.int (nI (wW g cr c v D x))] _ _ _ _ _
          refine r_istore dX10_best_61 (by decide) ?_
          refine r_iload dX10_best_63 rfl ?_
          refine r_iconst (v := (-1)) dX10_best_65 (by decide) ?_
          refine r_icmp_eq (tgt := 79) dX10_best_66 (by decide) (fun hz => absurd hz (show ¬ _ from (nI_m1 (by omega)))) (fun _ => ?_)
          refine r_iload dX10_best_69 rfl ?_
          refine r_iload dX10_best_71 rfl ?_
          refine r_icmp_lt (tgt := 79) dX10_best_73 (by decide) (fun _ => ?_) (fun hz => absurd (show _ from ((nI_ltI (by omega) (by omega)).mpr q2)) hz)
          refine r_iload dX10_best_79 rfl ?_
          refine r_istore dX10_best_81 (by decide) ?_
          refine r_iload dX10_best_83 rfl ?_
          refine r_istore dX10_best_85 (by decide) ?_
          refine r_iinc (v := nI (x + 1)) dX10_best_87 rfl (nI_inc x) ?_
          refine r_goto (tgt := 9) dX10_best_90 (by decide) ?_
          exact hn _
        · simp only [if_neg q2] at hn
          refine r_iload dX10_best_9 rfl ?_
          refine r_aload_n dX10_best_11 rfl ?_
          refine r_getI dX10_best_12 fl_X10_487 rfl (kM_0 hM) ?_
          rw [h73]
          refine r_icmp_ge (tgt := 93) dX10_best_15 (by decide) (fun hz => absurd hz (show ¬ _ from (by rw [nI_leI (by omega) (by omega)]; omega))) (fun _ => ?_)
          refine r_iload_n dX10_best_18 rfl ?_
          refine r_iload dX10_best_19 rfl ?_
          refine r_ishr dX10_best_21 ?_
          refine r_iconst (v := nI 1) dX10_best_22 (by decide) ?_
          refine r_iand dX10_best_23 ?_
          rw [b_ask _ (by omega), bt_nI _ (by omega)]
          rw [if_neg q]
          refine r_iconst (v := nI 1) dX10_best_24 (by decide) ?_
          refine r_icmp_ne (tgt := 31) dX10_best_25 (by decide) (fun _ => ?_) (fun hz => absurd hz (show ¬ _ from (by decide)))
          refine r_iload_n dX10_best_31 rfl ?_
          refine r_aload_n dX10_best_32 rfl ?_
          refine r_getR dX10_best_33 fl_X10_130 rfl (kM_0 hM) (pM_70 hM) ?_
          refine r_iload dX10_best_36 rfl ?_
          refine r_iald dX10_best_38 (aM_70 hM) (nI_in8 10 (by omega) (by decide)) (nI_clamp (by omega)) ?_
          rw [hg x (by omega)]
          refine r_iload_n dX10_best_39 rfl ?_
          refine r_statE (c_rfar v (g x) cr hv (hg20 x (by omega))) lk_X10_490 mc_X10_far dX10_best_40 (by decide) rfl rfl (Nat.le_of_ble_eq_true rfl) ?_
          refine r_aload_n dX10_best_43 rfl ?_
          refine r_getR dX10_best_44 fl_X10_136 rfl (kM_0 hM) (pM_72 hM) ?_
          refine r_bipush (v := nI 10) dX10_best_47 (by decide) ?_
          refine r_iload_n dX10_best_49 rfl ?_
          refine r_iconst (v := nI 1) dX10_best_50 (by decide) ?_
          refine r_iload dX10_best_51 rfl ?_
          refine r_ishl dX10_best_53 ?_
          rw [sh1_10 x (by omega)]
          refine r_ior dX10_best_54 ?_
          rw [or_nI]
          refine r_imul dX10_best_55 ?_
          rw [pk_mul]
          refine r_iload dX10_best_56 rfl ?_
          refine r_iadd dX10_best_58 ?_
          rw [nI_add]
          refine r_iald dX10_best_59 (aM_72 hM) (nI_in8 10240 (by omega) (by decide)) (nI_clamp (by omega)) ?_
          rw [hT (D ||| 2 ^ x) x ho.2 ho.1 (by omega)]
          refine r_iadd dX10_best_60 ?_
          rw [nI_add]
          change Ru _ _ _ _ _ _ _ _ _ _ _ [.int (nI (wW g cr c v D x))] _ _ _ _ _
          refine r_istore dX10_best_61 (by decide) ?_
          refine r_iload dX10_best_63 rfl ?_
          refine r_iconst (v := (-1)) dX10_best_65 (by decide) ?_
          refine r_icmp_eq (tgt := 79) dX10_best_66 (by decide) (fun hz => absurd hz (show ¬ _ from (nI_m1 (by omega)))) (fun _ => ?_)
          refine r_iload dX10_best_69 rfl ?_
          refine r_iload dX10_best_71 rfl ?_
          refine r_icmp_lt (tgt := 79) dX10_best_73 (by decide) (fun hz => absurd hz (show ¬ _ from (fun h => q2 ((nI_ltI (by omega) (by omega)).mp h)))) (fun _ => ?_)
          refine r_goto (tgt := 87) dX10_best_76 (by decide) ?_
          refine r_iinc (v := nI (x + 1)) dX10_best_87 rfl (nI_inc x) ?_
          refine r_goto (tgt := 9) dX10_best_90 (by decide) ?_
          exact hn _

set_option maxHeartbeats 4000000 in
set_option maxRecDepth 100000 in
theorem c_best (m c cr : Nat) (g : Nat → Nat) (v D : Nat) {n : Nat} {kd : mK} {I : mI} {J : mJ} {P : mP} (hS : rkS kd I P m c cr g) (hT : KR g cr c D (I (m + 38))) (hv : v ≤ 20) (hD : D < 2 ^ c) : Ct yX10_best cX10_best 8 (some .int) 2 0 0 [.ref m, .int (nI v), .int (nI D), .int (nI cr)] n kd I J P (am_is (some (.int (oI (bsK (wW g cr c v D) D c)))) n kd I J P) := by
  refine ct_of 4 (by decide +kernel) (Nat.le_of_ble_eq_true rfl) rfl ?_
  refine r_iconst (v := (-1)) dX10_best_0 (by decide) ?_
  refine r_istore dX10_best_1 (by decide) ?_
  refine r_iconst (v := nI 0) dX10_best_3 (by decide) ?_
  refine r_istore dX10_best_4 (by decide) ?_
  refine r_iconst (v := nI 0) dX10_best_6 (by decide) ?_
  refine r_istore dX10_best_7 (by decide) ?_
  exact be_loop m c cr g v D hS hT hv hD c 0 _ (by omega)

theorem dX10_walk_0 : decode cX10_walk 0 = .ok (.aload_n 0, 1) := by decide +kernel
theorem dX10_walk_1 : decode cX10_walk 1 = .ok (.iconst 0, 1) := by decide +kernel
theorem dX10_walk_2 : decode cX10_walk 2 = .ok (.putfield 193, 3) := by decide +kernel
theorem dX10_walk_5 : decode cX10_walk 5 = .ok (.aload_n 0, 1) := by decide +kernel
theorem dX10_walk_6 : decode cX10_walk 6 = .ok (.iload_n 1, 1) := by decide +kernel
theorem dX10_walk_7 : decode cX10_walk 7 = .ok (.ifCond .lt 39, 3) := by decide +kernel
theorem dX10_walk_10 : decode cX10_walk 10 = .ok (.iload_n 1, 1) := by decide +kernel
theorem dX10_walk_11 : decode cX10_walk 11 = .ok (.iconst 1, 1) := by decide +kernel
theorem dX10_walk_12 : decode cX10_walk 12 = .ok (.aload_n 0, 1) := by decide +kernel
theorem dX10_walk_13 : decode cX10_walk 13 = .ok (.getfield 350, 3) := by decide +kernel
theorem dX10_walk_16 : decode cX10_walk 16 = .ok (.ishl, 1) := by decide +kernel
theorem dX10_walk_17 : decode cX10_walk 17 = .ok (.if_icmp .ge 29, 3) := by decide +kernel
theorem dX10_walk_20 : decode cX10_walk 20 = .ok (.iload_n 2, 1) := by decide +kernel
theorem dX10_walk_21 : decode cX10_walk 21 = .ok (.iconst 1, 1) := by decide +kernel
theorem dX10_walk_22 : decode cX10_walk 22 = .ok (.aload_n 0, 1) := by decide +kernel
theorem dX10_walk_23 : decode cX10_walk 23 = .ok (.getfield 7, 3) := by decide +kernel
theorem dX10_walk_26 : decode cX10_walk 26 = .ok (.invokestatic 369, 3) := by decide +kernel
theorem dX10_walk_29 : decode cX10_walk 29 = .ok (.ifCond .eq 17, 3) := by decide +kernel
theorem dX10_walk_32 : decode cX10_walk 32 = .ok (.iload_n 3, 1) := by decide +kernel
theorem dX10_walk_33 : decode cX10_walk 33 = .ok (.iconst 0, 1) := by decide +kernel
theorem dX10_walk_34 : decode cX10_walk 34 = .ok (.bipush 9, 2) := by decide +kernel
theorem dX10_walk_36 : decode cX10_walk 36 = .ok (.invokestatic 369, 3) := by decide +kernel
theorem dX10_walk_39 : decode cX10_walk 39 = .ok (.ifCond .eq 7, 3) := by decide +kernel
theorem dX10_walk_42 : decode cX10_walk 42 = .ok (.iconst 1, 1) := by decide +kernel
theorem dX10_walk_43 : decode cX10_walk 43 = .ok (.goto 4, 3) := by decide +kernel
theorem dX10_walk_46 : decode cX10_walk 46 = .ok (.iconst 0, 1) := by decide +kernel
theorem dX10_walk_47 : decode cX10_walk 47 = .ok (.iconst 1, 1) := by decide +kernel
theorem dX10_walk_48 : decode cX10_walk 48 = .ok (.invokevirtual 343, 3) := by decide +kernel
theorem dX10_walk_51 : decode cX10_walk 51 = .ok (.ifCond .ne 5, 3) := by decide +kernel
theorem dX10_walk_54 : decode cX10_walk 54 = .ok (.iconst 0, 1) := by decide +kernel
theorem dX10_walk_55 : decode cX10_walk 55 = .ok (.ireturn, 1) := by decide +kernel
theorem dX10_walk_56 : decode cX10_walk 56 = .ok (.aload_n 0, 1) := by decide +kernel
theorem dX10_walk_57 : decode cX10_walk 57 = .ok (.invokevirtual 436, 3) := by decide +kernel
theorem dX10_walk_60 : decode cX10_walk 60 = .ok (.ifCond .ne 6, 3) := by decide +kernel
theorem dX10_walk_63 : decode cX10_walk 63 = .ok (.bipush (-2), 2) := by decide +kernel
theorem dX10_walk_65 : decode cX10_walk 65 = .ok (.ireturn, 1) := by decide +kernel
theorem dX10_walk_66 : decode cX10_walk 66 = .ok (.iconst 0, 1) := by decide +kernel
theorem dX10_walk_67 : decode cX10_walk 67 = .ok (.istore 4, 2) := by decide +kernel
theorem dX10_walk_69 : decode cX10_walk 69 = .ok (.iconst 0, 1) := by decide +kernel
theorem dX10_walk_70 : decode cX10_walk 70 = .ok (.istore 5, 2) := by decide +kernel
theorem dX10_walk_72 : decode cX10_walk 72 = .ok (.iload 5, 2) := by decide +kernel
theorem dX10_walk_74 : decode cX10_walk 74 = .ok (.aload_n 0, 1) := by decide +kernel
theorem dX10_walk_75 : decode cX10_walk 75 = .ok (.getfield 350, 3) := by decide +kernel
theorem dX10_walk_78 : decode cX10_walk 78 = .ok (.if_icmp .ge 34, 3) := by decide +kernel
theorem dX10_walk_81 : decode cX10_walk 81 = .ok (.iload 4, 2) := by decide +kernel
theorem dX10_walk_83 : decode cX10_walk 83 = .ok (.iload_n 1, 1) := by decide +kernel
theorem dX10_walk_84 : decode cX10_walk 84 = .ok (.iload 5, 2) := by decide +kernel
theorem dX10_walk_86 : decode cX10_walk 86 = .ok (.ishr, 1) := by decide +kernel
theorem dX10_walk_87 : decode cX10_walk 87 = .ok (.iconst 1, 1) := by decide +kernel
theorem dX10_walk_88 : decode cX10_walk 88 = .ok (.iand, 1) := by decide +kernel
theorem dX10_walk_89 : decode cX10_walk 89 = .ok (.iconst 1, 1) := by decide +kernel
theorem dX10_walk_90 : decode cX10_walk 90 = .ok (.if_icmp .ne 12, 3) := by decide +kernel
theorem dX10_walk_93 : decode cX10_walk 93 = .ok (.aload_n 0, 1) := by decide +kernel
theorem dX10_walk_94 : decode cX10_walk 94 = .ok (.iload 5, 2) := by decide +kernel
theorem dX10_walk_96 : decode cX10_walk 96 = .ok (.invokevirtual 442, 3) := by decide +kernel
theorem dX10_walk_99 : decode cX10_walk 99 = .ok (.goto 4, 3) := by decide +kernel
theorem dX10_walk_102 : decode cX10_walk 102 = .ok (.iconst 0, 1) := by decide +kernel
theorem dX10_walk_103 : decode cX10_walk 103 = .ok (.ior, 1) := by decide +kernel
theorem dX10_walk_104 : decode cX10_walk 104 = .ok (.istore 4, 2) := by decide +kernel
theorem dX10_walk_106 : decode cX10_walk 106 = .ok (.iinc 5 1, 3) := by decide +kernel
theorem dX10_walk_109 : decode cX10_walk 109 = .ok (.goto (-37), 3) := by decide +kernel
theorem dX10_walk_112 : decode cX10_walk 112 = .ok (.iload 4, 2) := by decide +kernel
theorem dX10_walk_114 : decode cX10_walk 114 = .ok (.invokestatic 448, 3) := by decide +kernel
theorem dX10_walk_117 : decode cX10_walk 117 = .ok (.bipush 10, 2) := by decide +kernel
theorem dX10_walk_119 : decode cX10_walk 119 = .ok (.if_icmp .le 6, 3) := by decide +kernel
theorem dX10_walk_122 : decode cX10_walk 122 = .ok (.bipush (-2), 2) := by decide +kernel
theorem dX10_walk_124 : decode cX10_walk 124 = .ok (.ireturn, 1) := by decide +kernel
theorem dX10_walk_125 : decode cX10_walk 125 = .ok (.aload_n 0, 1) := by decide +kernel
theorem dX10_walk_126 : decode cX10_walk 126 = .ok (.iconst 0, 1) := by decide +kernel
theorem dX10_walk_127 : decode cX10_walk 127 = .ok (.putfield 487, 3) := by decide +kernel
theorem dX10_walk_130 : decode cX10_walk 130 = .ok (.iconst 1, 1) := by decide +kernel
theorem dX10_walk_131 : decode cX10_walk 131 = .ok (.istore 5, 2) := by decide +kernel
theorem dX10_walk_133 : decode cX10_walk 133 = .ok (.iload 5, 2) := by decide +kernel
theorem dX10_walk_135 : decode cX10_walk 135 = .ok (.aload_n 0, 1) := by decide +kernel
theorem dX10_walk_136 : decode cX10_walk 136 = .ok (.getfield 7, 3) := by decide +kernel
theorem dX10_walk_139 : decode cX10_walk 139 = .ok (.if_icmp .gt 43, 3) := by decide +kernel
theorem dX10_walk_142 : decode cX10_walk 142 = .ok (.iload 4, 2) := by decide +kernel
theorem dX10_walk_144 : decode cX10_walk 144 = .ok (.iload 5, 2) := by decide +kernel
theorem dX10_walk_146 : decode cX10_walk 146 = .ok (.ishr, 1) := by decide +kernel
theorem dX10_walk_147 : decode cX10_walk 147 = .ok (.iconst 1, 1) := by decide +kernel
theorem dX10_walk_148 : decode cX10_walk 148 = .ok (.iand, 1) := by decide +kernel
theorem dX10_walk_149 : decode cX10_walk 149 = .ok (.ifCond .ne 6, 3) := by decide +kernel
theorem dX10_walk_152 : decode cX10_walk 152 = .ok (.goto 24, 3) := by decide +kernel
theorem dX10_walk_155 : decode cX10_walk 155 = .ok (.aload_n 0, 1) := by decide +kernel
theorem dX10_walk_156 : decode cX10_walk 156 = .ok (.getfield 130, 3) := by decide +kernel
theorem dX10_walk_159 : decode cX10_walk 159 = .ok (.aload_n 0, 1) := by decide +kernel
theorem dX10_walk_160 : decode cX10_walk 160 = .ok (.getfield 487, 3) := by decide +kernel
theorem dX10_walk_163 : decode cX10_walk 163 = .ok (.iload 5, 2) := by decide +kernel
theorem dX10_walk_165 : decode cX10_walk 165 = .ok (.iastore, 1) := by decide +kernel
theorem dX10_walk_166 : decode cX10_walk 166 = .ok (.aload_n 0, 1) := by decide +kernel
theorem dX10_walk_167 : decode cX10_walk 167 = .ok (.dup, 1) := by decide +kernel
theorem dX10_walk_168 : decode cX10_walk 168 = .ok (.getfield 487, 3) := by decide +kernel
theorem dX10_walk_171 : decode cX10_walk 171 = .ok (.iconst 1, 1) := by decide +kernel
theorem dX10_walk_172 : decode cX10_walk 172 = .ok (.iadd, 1) := by decide +kernel
theorem dX10_walk_173 : decode cX10_walk 173 = .ok (.putfield 487, 3) := by decide +kernel
theorem dX10_walk_176 : decode cX10_walk 176 = .ok (.iinc 5 1, 3) := by decide +kernel
theorem dX10_walk_179 : decode cX10_walk 179 = .ok (.goto (-46), 3) := by decide +kernel
theorem dX10_walk_182 : decode cX10_walk 182 = .ok (.iconst 1, 1) := by decide +kernel
theorem dX10_walk_183 : decode cX10_walk 183 = .ok (.aload_n 0, 1) := by decide +kernel
theorem dX10_walk_184 : decode cX10_walk 184 = .ok (.getfield 487, 3) := by decide +kernel
theorem dX10_walk_187 : decode cX10_walk 187 = .ok (.ishl, 1) := by decide +kernel
theorem dX10_walk_188 : decode cX10_walk 188 = .ok (.iconst 1, 1) := by decide +kernel
theorem dX10_walk_189 : decode cX10_walk 189 = .ok (.isub, 1) := by decide +kernel
theorem dX10_walk_190 : decode cX10_walk 190 = .ok (.istore 5, 2) := by decide +kernel
theorem dX10_walk_192 : decode cX10_walk 192 = .ok (.iload 5, 2) := by decide +kernel
theorem dX10_walk_194 : decode cX10_walk 194 = .ok (.ifCond .le 103, 3) := by decide +kernel
theorem dX10_walk_197 : decode cX10_walk 197 = .ok (.iconst 0, 1) := by decide +kernel
theorem dX10_walk_198 : decode cX10_walk 198 = .ok (.istore 6, 2) := by decide +kernel
theorem dX10_walk_200 : decode cX10_walk 200 = .ok (.iload 6, 2) := by decide +kernel
theorem dX10_walk_202 : decode cX10_walk 202 = .ok (.aload_n 0, 1) := by decide +kernel
theorem dX10_walk_203 : decode cX10_walk 203 = .ok (.getfield 487, 3) := by decide +kernel
theorem dX10_walk_206 : decode cX10_walk 206 = .ok (.if_icmp .ge 85, 3) := by decide +kernel
theorem dX10_walk_209 : decode cX10_walk 209 = .ok (.aload_n 0, 1) := by decide +kernel
theorem dX10_walk_210 : decode cX10_walk 210 = .ok (.aload_n 0, 1) := by decide +kernel
theorem dX10_walk_211 : decode cX10_walk 211 = .ok (.getfield 130, 3) := by decide +kernel
theorem dX10_walk_214 : decode cX10_walk 214 = .ok (.iload 6, 2) := by decide +kernel
theorem dX10_walk_216 : decode cX10_walk 216 = .ok (.iaload, 1) := by decide +kernel
theorem dX10_walk_217 : decode cX10_walk 217 = .ok (.iload 5, 2) := by decide +kernel
theorem dX10_walk_219 : decode cX10_walk 219 = .ok (.iload_n 3, 1) := by decide +kernel
theorem dX10_walk_220 : decode cX10_walk 220 = .ok (.invokevirtual 493, 3) := by decide +kernel
theorem dX10_walk_223 : decode cX10_walk 223 = .ok (.istore 7, 2) := by decide +kernel
theorem dX10_walk_225 : decode cX10_walk 225 = .ok (.aload_n 0, 1) := by decide +kernel
theorem dX10_walk_226 : decode cX10_walk 226 = .ok (.getfield 136, 3) := by decide +kernel
theorem dX10_walk_229 : decode cX10_walk 229 = .ok (.bipush 10, 2) := by decide +kernel
theorem dX10_walk_231 : decode cX10_walk 231 = .ok (.iload 5, 2) := by decide +kernel
theorem dX10_walk_233 : decode cX10_walk 233 = .ok (.imul, 1) := by decide +kernel
theorem dX10_walk_234 : decode cX10_walk 234 = .ok (.iload 6, 2) := by decide +kernel
theorem dX10_walk_236 : decode cX10_walk 236 = .ok (.iadd, 1) := by decide +kernel
theorem dX10_walk_237 : decode cX10_walk 237 = .ok (.iload 7, 2) := by decide +kernel
theorem dX10_walk_239 : decode cX10_walk 239 = .ok (.iconst (-1), 1) := by decide +kernel
theorem dX10_walk_240 : decode cX10_walk 240 = .ok (.if_icmp .ne 7, 3) := by decide +kernel
theorem dX10_walk_243 : decode cX10_walk 243 = .ok (.iconst 0, 1) := by decide +kernel
theorem dX10_walk_244 : decode cX10_walk 244 = .ok (.goto 40, 3) := by decide +kernel
theorem dX10_walk_247 : decode cX10_walk 247 = .ok (.aload_n 0, 1) := by decide +kernel
theorem dX10_walk_248 : decode cX10_walk 248 = .ok (.getfield 130, 3) := by decide +kernel
theorem dX10_walk_251 : decode cX10_walk 251 = .ok (.iload 6, 2) := by decide +kernel
theorem dX10_walk_253 : decode cX10_walk 253 = .ok (.iaload, 1) := by decide +kernel
theorem dX10_walk_254 : decode cX10_walk 254 = .ok (.aload_n 0, 1) := by decide +kernel
theorem dX10_walk_255 : decode cX10_walk 255 = .ok (.getfield 130, 3) := by decide +kernel
theorem dX10_walk_258 : decode cX10_walk 258 = .ok (.iload 7, 2) := by decide +kernel
theorem dX10_walk_260 : decode cX10_walk 260 = .ok (.iaload, 1) := by decide +kernel
theorem dX10_walk_261 : decode cX10_walk 261 = .ok (.iload_n 3, 1) := by decide +kernel
theorem dX10_walk_262 : decode cX10_walk 262 = .ok (.invokestatic 490, 3) := by decide +kernel
theorem dX10_walk_265 : decode cX10_walk 265 = .ok (.aload_n 0, 1) := by decide +kernel
theorem dX10_walk_266 : decode cX10_walk 266 = .ok (.getfield 136, 3) := by decide +kernel
theorem dX10_walk_269 : decode cX10_walk 269 = .ok (.bipush 10, 2) := by decide +kernel
theorem dX10_walk_271 : decode cX10_walk 271 = .ok (.iload 5, 2) := by decide +kernel
theorem dX10_walk_273 : decode cX10_walk 273 = .ok (.iconst 1, 1) := by decide +kernel
theorem dX10_walk_274 : decode cX10_walk 274 = .ok (.iload 7, 2) := by decide +kernel
theorem dX10_walk_276 : decode cX10_walk 276 = .ok (.ishl, 1) := by decide +kernel
theorem dX10_walk_277 : decode cX10_walk 277 = .ok (.ior, 1) := by decide +kernel
theorem dX10_walk_278 : decode cX10_walk 278 = .ok (.imul, 1) := by decide +kernel
theorem dX10_walk_279 : decode cX10_walk 279 = .ok (.iload 7, 2) := by decide +kernel
theorem dX10_walk_281 : decode cX10_walk 281 = .ok (.iadd, 1) := by decide +kernel
theorem dX10_walk_282 : decode cX10_walk 282 = .ok (.iaload, 1) := by decide +kernel
theorem dX10_walk_283 : decode cX10_walk 283 = .ok (.iadd, 1) := by decide +kernel
theorem dX10_walk_284 : decode cX10_walk 284 = .ok (.iastore, 1) := by decide +kernel
theorem dX10_walk_285 : decode cX10_walk 285 = .ok (.iinc 6 1, 3) := by decide +kernel
theorem dX10_walk_288 : decode cX10_walk 288 = .ok (.goto (-88), 3) := by decide +kernel
theorem dX10_walk_291 : decode cX10_walk 291 = .ok (.iinc 5 (-1), 3) := by decide +kernel
theorem dX10_walk_294 : decode cX10_walk 294 = .ok (.goto (-102), 3) := by decide +kernel
theorem dX10_walk_297 : decode cX10_walk 297 = .ok (.iload_n 2, 1) := by decide +kernel
theorem dX10_walk_298 : decode cX10_walk 298 = .ok (.istore 5, 2) := by decide +kernel
theorem dX10_walk_300 : decode cX10_walk 300 = .ok (.iconst 0, 1) := by decide +kernel
theorem dX10_walk_301 : decode cX10_walk 301 = .ok (.istore 6, 2) := by decide +kernel
theorem dX10_walk_303 : decode cX10_walk 303 = .ok (.iconst 0, 1) := by decide +kernel
theorem dX10_walk_304 : decode cX10_walk 304 = .ok (.istore 7, 2) := by decide +kernel
theorem dX10_walk_306 : decode cX10_walk 306 = .ok (.iconst 0, 1) := by decide +kernel
theorem dX10_walk_307 : decode cX10_walk 307 = .ok (.istore 8, 2) := by decide +kernel
theorem dX10_walk_309 : decode cX10_walk 309 = .ok (.iload 8, 2) := by decide +kernel
theorem dX10_walk_311 : decode cX10_walk 311 = .ok (.aload_n 0, 1) := by decide +kernel
theorem dX10_walk_312 : decode cX10_walk 312 = .ok (.getfield 487, 3) := by decide +kernel
theorem dX10_walk_315 : decode cX10_walk 315 = .ok (.if_icmp .ge 65, 3) := by decide +kernel
theorem dX10_walk_318 : decode cX10_walk 318 = .ok (.aload_n 0, 1) := by decide +kernel
theorem dX10_walk_319 : decode cX10_walk 319 = .ok (.iload 5, 2) := by decide +kernel
theorem dX10_walk_321 : decode cX10_walk 321 = .ok (.iload 6, 2) := by decide +kernel
theorem dX10_walk_323 : decode cX10_walk 323 = .ok (.iload_n 3, 1) := by decide +kernel
theorem dX10_walk_324 : decode cX10_walk 324 = .ok (.invokevirtual 493, 3) := by decide +kernel
theorem dX10_walk_327 : decode cX10_walk 327 = .ok (.istore 9, 2) := by decide +kernel
theorem dX10_walk_329 : decode cX10_walk 329 = .ok (.iload 7, 2) := by decide +kernel
theorem dX10_walk_331 : decode cX10_walk 331 = .ok (.iload 5, 2) := by decide +kernel
theorem dX10_walk_333 : decode cX10_walk 333 = .ok (.aload_n 0, 1) := by decide +kernel
theorem dX10_walk_334 : decode cX10_walk 334 = .ok (.getfield 130, 3) := by decide +kernel
theorem dX10_walk_337 : decode cX10_walk 337 = .ok (.iload 9, 2) := by decide +kernel
theorem dX10_walk_339 : decode cX10_walk 339 = .ok (.iaload, 1) := by decide +kernel
theorem dX10_walk_340 : decode cX10_walk 340 = .ok (.iload_n 3, 1) := by decide +kernel
theorem dX10_walk_341 : decode cX10_walk 341 = .ok (.invokestatic 490, 3) := by decide +kernel
theorem dX10_walk_344 : decode cX10_walk 344 = .ok (.iadd, 1) := by decide +kernel
theorem dX10_walk_345 : decode cX10_walk 345 = .ok (.istore 7, 2) := by decide +kernel
theorem dX10_walk_347 : decode cX10_walk 347 = .ok (.aload_n 0, 1) := by decide +kernel
theorem dX10_walk_348 : decode cX10_walk 348 = .ok (.getfield 130, 3) := by decide +kernel
theorem dX10_walk_351 : decode cX10_walk 351 = .ok (.iload 9, 2) := by decide +kernel
theorem dX10_walk_353 : decode cX10_walk 353 = .ok (.iaload, 1) := by decide +kernel
theorem dX10_walk_354 : decode cX10_walk 354 = .ok (.istore 5, 2) := by decide +kernel
theorem dX10_walk_356 : decode cX10_walk 356 = .ok (.iload 6, 2) := by decide +kernel
theorem dX10_walk_358 : decode cX10_walk 358 = .ok (.iconst 1, 1) := by decide +kernel
theorem dX10_walk_359 : decode cX10_walk 359 = .ok (.iload 9, 2) := by decide +kernel
theorem dX10_walk_361 : decode cX10_walk 361 = .ok (.ishl, 1) := by decide +kernel
theorem dX10_walk_362 : decode cX10_walk 362 = .ok (.ior, 1) := by decide +kernel
theorem dX10_walk_363 : decode cX10_walk 363 = .ok (.istore 6, 2) := by decide +kernel
theorem dX10_walk_365 : decode cX10_walk 365 = .ok (.aload_n 0, 1) := by decide +kernel
theorem dX10_walk_366 : decode cX10_walk 366 = .ok (.getfield 133, 3) := by decide +kernel
theorem dX10_walk_369 : decode cX10_walk 369 = .ok (.iload 8, 2) := by decide +kernel
theorem dX10_walk_371 : decode cX10_walk 371 = .ok (.iload 5, 2) := by decide +kernel
theorem dX10_walk_373 : decode cX10_walk 373 = .ok (.iastore, 1) := by decide +kernel
theorem dX10_walk_374 : decode cX10_walk 374 = .ok (.iinc 8 1, 3) := by decide +kernel
theorem dX10_walk_377 : decode cX10_walk 377 = .ok (.goto (-68), 3) := by decide +kernel
theorem dX10_walk_380 : decode cX10_walk 380 = .ok (.aload_n 0, 1) := by decide +kernel
theorem dX10_walk_381 : decode cX10_walk 381 = .ok (.aload_n 0, 1) := by decide +kernel
theorem dX10_walk_382 : decode cX10_walk 382 = .ok (.getfield 487, 3) := by decide +kernel
theorem dX10_walk_385 : decode cX10_walk 385 = .ok (.putfield 139, 3) := by decide +kernel
theorem dX10_walk_388 : decode cX10_walk 388 = .ok (.iload 7, 2) := by decide +kernel
theorem dX10_walk_390 : decode cX10_walk 390 = .ok (.ireturn, 1) := by decide +kernel

set_option maxHeartbeats 4000000 in
set_option maxRecDepth 100000 in
theorem rt_in (m c cr : Nat) (g : Nat → Nat) (S p w D : Nat) {post : am_Post} {n : Nat} {kd : mK} {I : mI} {J : mJ} {P : mP} (hS : rkS kd I P m c cr g) (hD : D < 2 ^ c) : ∀ (cnt x : Nat) (A : Nat → Int32) (z7 : Option Value), x + cnt = c → KR g cr c D A → (∀ y, y < x → A (10 * D + y) = nI (Lw g cr c (g y) D)) → (∀ (z6 z7 : Option Value) (A : Nat → Int32), KR g cr c (D - 1) A → Ru yX10_walk.cls cX10_walk 10 (some .int) yX10_walk.name 10 (post) 0 0 291 [some (.ref m), some (.int (nI S)), some (.int (nI p)), some (.int (nI cr)), some (.int (nI w)), some (.int (nI D)), z6, z7, none, none] [] n kd (va_up I (m + 38) A) J P) → Ru yX10_walk.cls cX10_walk 10 (some .int) yX10_walk.name 10 (post) 0 0 200 [some (.ref m), some (.int (nI S)), some (.int (nI p)), some (.int (nI cr)), some (.int (nI w)), some (.int (nI D)), some (.int (nI x)), z7, none, none] [] n kd (va_up I (m + 38) A) J P
  | 0, x, A, z7, hh, hT, hA, hK => by
    obtain ⟨hM, h73, hg, hc, hcr, hg20⟩ := id hS
    have p10 := pw10 hc
    have ex : x = c := by omega
    refine r_iload dX10_walk_200 rfl ?_
    refine r_aload_n dX10_walk_202 rfl ?_
    refine r_getI dX10_walk_203 fl_X10_487 rfl (kM_0 hM) ?_
    rw [am_up_n _ _ (by omega), h73]
    refine r_icmp_ge (tgt := 291) dX10_walk_206 (by decide) (fun _ => ?_) (fun hz => absurd (show _ from (by rw [nI_leI (by omega) (by omega)]; omega)) hz)
    refine hK _ _ A (fun E y a b c1 => ?_)
    by_cases q : E = D
    · rw [q]; exact hA y (by omega)
    · exact hT E y a (by omega) c1
  | cnt + 1, x, A, z7, hh, hT, hA, hK => by
    obtain ⟨hM, h73, hg, hc, hcr, hg20⟩ := id hS
    have p10 := pw10 hc
    by_cases q : D = 2 ^ c - 1
    · have hb : bsK (wW g cr c (g x) D) D c = none := by rw [q]; exact bs_no
      have hL0 : Lw g cr c (g x) D = 0 := by rw [q]; exact Lw_full
      refine r_iload dX10_walk_200 rfl ?_
      refine r_aload_n dX10_walk_202 rfl ?_
      refine r_getI dX10_walk_203 fl_X10_487 rfl (kM_0 hM) ?_
      rw [am_up_n _ _ (by omega), h73]
      refine r_icmp_ge (tgt := 291) dX10_walk_206 (by decide) (fun hz => absurd hz (show ¬ _ from (by rw [nI_leI (by omega) (by omega)]; omega))) (fun _ => ?_)
      refine r_aload_n dX10_walk_209 rfl ?_
      refine r_aload_n dX10_walk_210 rfl ?_
      refine r_getR dX10_walk_211 fl_X10_130 rfl (kM_0 hM) (pM_70 hM) ?_
      refine r_iload dX10_walk_214 rfl ?_
      refine r_iald dX10_walk_216 (aM_70 hM) (nI_in8 10 (by omega) (by decide)) (nI_clamp (by omega)) ?_
      rw [am_up_n _ _ (by omega), hg x (by omega)]
      refine r_iload dX10_walk_217 rfl ?_
      refine r_iload_n dX10_walk_219 rfl ?_
      refine r_virtE (c_best m c cr g (g x) D (hS.up (A := A) (Or.inr rfl)) (by rw [am_up_s]; exact hT) (hg20 x (by omega)) hD) lk_X10_493 mc_X10_best dX10_walk_220 (kM_0 hM) (by decide) rfl rfl (Nat.le_of_ble_eq_true rfl) ?_
      rw [hb]
      refine r_istore dX10_walk_223 (by decide) ?_
      refine r_aload_n dX10_walk_225 rfl ?_
      refine r_getR dX10_walk_226 fl_X10_136 rfl (kM_0 hM) (pM_72 hM) ?_
      refine r_bipush (v := nI 10) dX10_walk_229 (by decide) ?_
      refine r_iload dX10_walk_231 rfl ?_
      refine r_imul dX10_walk_233 ?_
      rw [pk_mul]
      refine r_iload dX10_walk_234 rfl ?_
      refine r_iadd dX10_walk_236 ?_
      rw [nI_add]
      refine r_iload dX10_walk_237 rfl ?_
      refine r_iconst (v := (-1)) dX10_walk_239 (by decide) ?_
      refine r_icmp_ne (tgt := 247) dX10_walk_240 (by decide) (fun hz => absurd (show _ from rfl) hz) (fun _ => ?_)
      refine r_iconst (v := nI 0) dX10_walk_243 (by decide) ?_
      refine r_goto (tgt := 284) dX10_walk_244 (by decide) ?_
      refine r_iast dX10_walk_284 (aM_72 hM) (nI_in8 10240 (by omega) (by decide)) (nI_clamp (by omega)) ?_
      rw [am_up_s, am_up_up]
      refine r_iinc (v := nI (x + 1)) dX10_walk_285 rfl (nI_inc x) ?_
      refine r_goto (tgt := 200) dX10_walk_288 (by decide) ?_
      refine rt_in m c cr g S p w D hS hD cnt (x + 1) _ _ (by omega) (fun E y a b c1 => ?_) (fun y hy => ?_) hK
      · rw [am_up_n _ _ (by omega)]; exact hT E y a b c1
      · by_cases ey : y = x
        · rw [ey, am_up_s, hL0]
        · rw [am_up_n _ _ (by omega)]; exact hA y (by omega)
    · obtain ⟨y, hb⟩ := bs_ex (W := wW g cr c (g x) D) hD q
      obtain ⟨hy1, hy2, -⟩ := bsK_some c hb
      have ho := or_gt hD hy1 hy2
      have hwy := wW_le (k := y) hg20 hcr hc (hg20 x (by omega)) hD hy1
      have hLw := Lw_eq (g := g) (cr := cr) (v := g x) hD q
      have hmn := mn_bs hb (by omega)
      refine r_iload dX10_walk_200 rfl ?_
      refine r_aload_n dX10_walk_202 rfl ?_
      refine r_getI dX10_walk_203 fl_X10_487 rfl (kM_0 hM) ?_
      rw [am_up_n _ _ (by omega), h73]
      refine r_icmp_ge (tgt := 291) dX10_walk_206 (by decide) (fun hz => absurd hz (show ¬ _ from (by rw [nI_leI (by omega) (by omega)]; omega))) (fun _ => ?_)
      refine r_aload_n dX10_walk_209 rfl ?_
      refine r_aload_n dX10_walk_210 rfl ?_
      refine r_getR dX10_walk_211 fl_X10_130 rfl (kM_0 hM) (pM_70 hM) ?_
      refine r_iload dX10_walk_214 rfl ?_
      refine r_iald dX10_walk_216 (aM_70 hM) (nI_in8 10 (by omega) (by decide)) (nI_clamp (by omega)) ?_
      rw [am_up_n _ _ (by omega), hg x (by omega)]
      refine r_iload dX10_walk_217 rfl ?_
      refine r_iload_n dX10_walk_219 rfl ?_
      refine r_virtE (c_best m c cr g (g x) D (hS.up (A := A) (Or.inr rfl)) (by rw [am_up_s]; exact hT) (hg20 x (by omega)) hD) lk_X10_493 mc_X10_best dX10_walk_220 (kM_0 hM) (by decide) rfl rfl (Nat.le_of_ble_eq_true rfl) ?_
      rw [hb]
      change Ru _ _ _ _ _ _ _ _ _ _ _ [.int (nI y)] _ _ _ _ _
      refine r_istore dX10_walk_223 (by decide) ?_
      refine r_aload_n dX10_walk_225 rfl ?_
      refine r_getR dX10_walk_226 fl_X10_136 rfl (kM_0 hM) (pM_72 hM) ?_
      refine r_bipush (v := nI 10) dX10_walk_229 (by decide) ?_
      refine r_iload dX10_walk_231 rfl ?_
      refine r_imul dX10_walk_233 ?_
      rw [pk_mul]
      refine r_iload dX10_walk_234 rfl ?_
      refine r_iadd dX10_walk_236 ?_
      rw [nI_add]
      refine r_iload dX10_walk_237 rfl ?_
      refine r_iconst (v := (-1)) dX10_walk_239 (by decide) ?_
      refine r_icmp_ne (tgt := 247) dX10_walk_240 (by decide) (fun _ => ?_) (fun hz => absurd hz (show ¬ _ from (nI_m1 (by omega))))
      refine r_aload_n dX10_walk_247 rfl ?_
      refine r_getR dX10_walk_248 fl_X10_130 rfl (kM_0 hM) (pM_70 hM) ?_
      refine r_iload dX10_walk_251 rfl ?_
      refine r_iald dX10_walk_253 (aM_70 hM) (nI_in8 10 (by omega) (by decide)) (nI_clamp (by omega)) ?_
      rw [am_up_n _ _ (by omega), hg x (by omega)]
      refine r_aload_n dX10_walk_254 rfl ?_
      refine r_getR dX10_walk_255 fl_X10_130 rfl (kM_0 hM) (pM_70 hM) ?_
      refine r_iload dX10_walk_258 rfl ?_
      refine r_iald dX10_walk_260 (aM_70 hM) (nI_in8 10 (by omega) (by decide)) (nI_clamp (by omega)) ?_
      rw [am_up_n _ _ (by omega), hg y (by omega)]
      refine r_iload_n dX10_walk_261 rfl ?_
      refine r_statE (c_rfar (g x) (g y) cr (hg20 x (by omega)) (hg20 y (by omega))) lk_X10_490 mc_X10_far dX10_walk_262 (by decide) rfl rfl (Nat.le_of_ble_eq_true rfl) ?_
      refine r_aload_n dX10_walk_265 rfl ?_
      refine r_getR dX10_walk_266 fl_X10_136 rfl (kM_0 hM) (pM_72 hM) ?_
      refine r_bipush (v := nI 10) dX10_walk_269 (by decide) ?_
      refine r_iload dX10_walk_271 rfl ?_
      refine r_iconst (v := nI 1) dX10_walk_273 (by decide) ?_
      refine r_iload dX10_walk_274 rfl ?_
      refine r_ishl dX10_walk_276 ?_
      rw [sh1_10 y (by omega)]
      refine r_ior dX10_walk_277 ?_
      rw [or_nI]
      refine r_imul dX10_walk_278 ?_
      rw [pk_mul]
      refine r_iload dX10_walk_279 rfl ?_
      refine r_iadd dX10_walk_281 ?_
      rw [nI_add]
      refine r_iald dX10_walk_282 (aM_72 hM) (nI_in8 10240 (by omega) (by decide)) (nI_clamp (by omega)) ?_
      rw [am_up_s, hT (D ||| 2 ^ y) y ho.2 ho.1 (by omega)]
      refine r_iadd dX10_walk_283 ?_
      rw [nI_add, show faN cr (g x) (g y) + Lw g cr c (g y) (D ||| 2 ^ y) = Lw g cr c (g x) D from (hLw.trans hmn).symm]
      refine r_iast dX10_walk_284 (aM_72 hM) (nI_in8 10240 (by omega) (by decide)) (nI_clamp (by omega)) ?_
      rw [am_up_s, am_up_up]
      refine r_iinc (v := nI (x + 1)) dX10_walk_285 rfl (nI_inc x) ?_
      refine r_goto (tgt := 200) dX10_walk_288 (by decide) ?_
      refine rt_in m c cr g S p w D hS hD cnt (x + 1) _ _ (by omega) (fun E y a b c1 => ?_) (fun y hy => ?_) hK
      · rw [am_up_n _ _ (by omega)]; exact hT E y a b c1
      · by_cases ey : y = x
        · rw [ey, am_up_s]
        · rw [am_up_n _ _ (by omega)]; exact hA y (by omega)

set_option maxHeartbeats 4000000 in
set_option maxRecDepth 100000 in
theorem rt_out (m c cr : Nat) (g : Nat → Nat) (S p w : Nat) {post : am_Post} {n : Nat} {kd : mK} {I : mI} {J : mJ} {P : mP} (hS : rkS kd I P m c cr g) : ∀ (D : Nat) (z6 z7 : Option Value) (A : Nat → Int32), D < 2 ^ c → KR g cr c D A → (∀ (z6 z7 : Option Value) (A : Nat → Int32), KR g cr c 0 A → Ru yX10_walk.cls cX10_walk 10 (some .int) yX10_walk.name 10 (post) 0 0 297 [some (.ref m), some (.int (nI S)), some (.int (nI p)), some (.int (nI cr)), some (.int (nI w)), some (.int (nI 0)), z6, z7, none, none] [] n kd (va_up I (m + 38) A) J P) → Ru yX10_walk.cls cX10_walk 10 (some .int) yX10_walk.name 10 (post) 0 0 192 [some (.ref m), some (.int (nI S)), some (.int (nI p)), some (.int (nI cr)), some (.int (nI w)), some (.int (nI D)), z6, z7, none, none] [] n kd (va_up I (m + 38) A) J P
  | 0, z6, z7, A, hD, hT, hK => by
    refine r_iload dX10_walk_192 rfl ?_
    refine r_if_le (tgt := 297) dX10_walk_194 (by decide) (fun _ => ?_) (fun hz => absurd (show _ from (by decide)) hz)
    exact hK _ _ A hT
  | D + 1, z6, z7, A, hD, hT, hK => by
    have p10 := pw10 hS.2.2.2.1
    refine r_iload dX10_walk_192 rfl ?_
    refine r_if_le (tgt := 297) dX10_walk_194 (by decide) (fun hz => absurd hz (show ¬ _ from (by rw [show (0 : Int32) = nI 0 from rfl, nI_leI (by omega) (by omega)]; omega))) (fun _ => ?_)
    refine r_iconst (v := nI 0) dX10_walk_197 (by decide) ?_
    refine r_istore dX10_walk_198 (by decide) ?_
    refine rt_in m c cr g S p w (D + 1) hS hD c 0 A _ (by omega) hT (fun y hy => absurd hy (Nat.not_lt_zero _)) (fun z6 z7 A hA => ?_)
    refine r_iinc (v := nI D) dX10_walk_291 rfl (nI_dec D) ?_
    refine r_goto (tgt := 192) dX10_walk_294 (by decide) ?_
    exact rt_out m c cr g S p w hS D z6 z7 A (by omega) hA hK

set_option maxHeartbeats 4000000 in
set_option maxRecDepth 100000 in
theorem rr_loop (m c cr : Nat) (g : Nat → Nat) (S p w : Nat) (Ls : List Nat) {n : Nat} {kd : mK} {I : mI} {J : mJ} {P : mP} (hS : rkS kd I P m c cr g) (hT : KR g cr c 0 (I (m + 38))) (hLl : Ls.length = c) : ∀ (cnt i D v u : Nat) (z9 : Option Value) (R : Nat → Int32), i + cnt = c → D < 2 ^ c → cnB D c = i → v ≤ 20 → u + Lw g cr c v D = Lw g cr c p 0 → Ls.drop i = wkL g cr c cnt v D → (∀ j, j < i → R j = nI (Ls.getD j 0)) → Ru yX10_walk.cls cX10_walk 10 (some .int) yX10_walk.name 10 (fun y n' kd' I' J' P' => ∃ R : Nat → Int32, (∀ j, j < Ls.length → R j = nI (Ls.getD j 0)) ∧ am_is (some (.int (nI (Lw g cr c p 0)))) n kd (va_up (va_up I (m + 37) R) m (va_up (I m) 74 (nI c))) J P y n' kd' I' J' P') 0 0 309 [some (.ref m), some (.int (nI S)), some (.int (nI p)), some (.int (nI cr)), some (.int (nI w)), some (.int (nI v)), some (.int (nI D)), some (.int (nI u)), some (.int (nI i)), z9] [] n kd (va_up I (m + 37) R) J P
  | 0, i, D, v, u, z9, R, hh, hD, hcn, hv, hu, hdr, hR => by
    obtain ⟨hM, h73, hg, hc, hcr, hg20⟩ := id hS
    have p10 := pw10 hc
    have ei : i = c := by omega
    have hDf : D = 2 ^ c - 1 := cnB_full hD (by omega)
    have hu2 : u = Lw g cr c p 0 := by rw [← hu, hDf, Lw_full]; rfl
    rw [ei, hu2]
    refine r_iload dX10_walk_309 rfl ?_
    refine r_aload_n dX10_walk_311 rfl ?_
    refine r_getI dX10_walk_312 fl_X10_487 rfl (kM_0 hM) ?_
    rw [am_up_n _ _ (by omega), h73]
    refine r_icmp_ge (tgt := 380) dX10_walk_315 (by decide) (fun _ => ?_) (fun hz => absurd (show _ from (by rw [nI_leI (by omega) (by omega)]; omega)) hz)
    refine r_aload_n dX10_walk_380 rfl ?_
    refine r_aload_n dX10_walk_381 rfl ?_
    refine r_getI dX10_walk_382 fl_X10_487 rfl (kM_0 hM) ?_
    rw [am_up_n _ _ (by omega), h73]
    refine r_putI dX10_walk_385 fl_X10_139 rfl rfl (kM_0 hM) ?_
    rw [am_up_n _ _ (by omega)]
    refine r_iload dX10_walk_388 rfl ?_
    refine r_iret rfl dX10_walk_390 ?_
    exact ⟨R, fun j hj => hR j (by omega), am_is.mk⟩
  | cnt + 1, i, D, v, u, z9, R, hh, hD, hcn, hv, hu, hdr, hR => by
    obtain ⟨hM, h73, hg, hc, hcr, hg20⟩ := id hS
    have p10 := pw10 hc
    have hnf : ¬ D = 2 ^ c - 1 := fun h => by rw [h, cnB_1] at hcn; omega
    obtain ⟨x, hx⟩ := bs_ex (W := wW g cr c v D) hD hnf
    obtain ⟨hb1, hb2, -⟩ := bsK_some c hx
    have hTr : KR g cr c D (va_up I (m + 37) R (m + 38)) := by rw [am_up_n _ _ (by omega)]; exact hT.wk (Nat.zero_le D)
    have hwx := wW_le (k := x) hg20 hcr hc hv hD hb1
    have hdr2 : Ls.drop i = g x :: wkL g cr c cnt (g x) (D ||| 2 ^ x) := by
      rw [hdr]
      conv => lhs; unfold wkL
      rw [hx]
    have hLi : Ls.getD i 0 = g x := by
      have : (Ls.drop i)[0]? = some (g x) := by rw [hdr2]; rfl
      rw [List.getElem?_drop] at this
      rw [List.getD_eq_getElem?_getD, show i = i + 0 by omega, this]
      rfl
    have hdr3 : Ls.drop (i + 1) = wkL g cr c cnt (g x) (D ||| 2 ^ x) := by
      rw [← List.tail_drop, hdr2]
      rfl
    have hst : Lw g cr c v D = faN cr v (g x) + Lw g cr c (g x) (D ||| 2 ^ x) := (Lw_eq hD hnf).trans (mn_bs hx (by omega))
    refine r_iload dX10_walk_309 rfl ?_
    refine r_aload_n dX10_walk_311 rfl ?_
    refine r_getI dX10_walk_312 fl_X10_487 rfl (kM_0 hM) ?_
    rw [am_up_n _ _ (by omega), h73]
    refine r_icmp_ge (tgt := 380) dX10_walk_315 (by decide) (fun hz => absurd hz (show ¬ _ from (by rw [nI_leI (by omega) (by omega)]; omega))) (fun _ => ?_)
    refine r_aload_n dX10_walk_318 rfl ?_
    refine r_iload dX10_walk_319 rfl ?_
    refine r_iload dX10_walk_321 rfl ?_
    refine r_iload_n dX10_walk_323 rfl ?_
    refine r_virtE (c_best m c cr g v D (hS.up (A := R) (Or.inl rfl)) hTr hv hD) lk_X10_493 mc_X10_best dX10_walk_324 (kM_0 hM) (by decide) rfl rfl (Nat.le_of_ble_eq_true rfl) ?_
    rw [hx]
    change Ru _ _ _ _ _ _ _ _ _ _ _ [.int (nI x)] _ _ _ _ _
    refine r_istore dX10_walk_327 (by decide) ?_
    refine r_iload dX10_walk_329 rfl ?_
    refine r_iload dX10_walk_331 rfl ?_
    refine r_aload_n dX10_walk_333 rfl ?_
    refine r_getR dX10_walk_334 fl_X10_130 rfl (kM_0 hM) (pM_70 hM) ?_
    refine r_iload dX10_walk_337 rfl ?_
    refine r_iald dX10_walk_339 (aM_70 hM) (nI_in8 10 (by omega) (by decide)) (nI_clamp (by omega)) ?_
    rw [am_up_n _ _ (by omega), hg x hb1]
    refine r_iload_n dX10_walk_340 rfl ?_
    refine r_statE (c_rfar v (g x) cr hv (hg20 x hb1)) lk_X10_490 mc_X10_far dX10_walk_341 (by decide) rfl rfl (Nat.le_of_ble_eq_true rfl) ?_
    refine r_iadd dX10_walk_344 ?_
    rw [nI_add]
    refine r_istore dX10_walk_345 (by decide) ?_
    refine r_aload_n dX10_walk_347 rfl ?_
    refine r_getR dX10_walk_348 fl_X10_130 rfl (kM_0 hM) (pM_70 hM) ?_
    refine r_iload dX10_walk_351 rfl ?_
    refine r_iald dX10_walk_353 (aM_70 hM) (nI_in8 10 (by omega) (by decide)) (nI_clamp (by omega)) ?_
    rw [am_up_n _ _ (by omega), hg x hb1]
    refine r_istore dX10_walk_354 (by decide) ?_
    refine r_iload dX10_walk_356 rfl ?_
    refine r_iconst (v := nI 1) dX10_walk_358 (by decide) ?_
    refine r_iload dX10_walk_359 rfl ?_
    refine r_ishl dX10_walk_361 ?_
    rw [sh1_10 x (by omega)]
    refine r_ior dX10_walk_362 ?_
    rw [or_nI]
    refine r_istore dX10_walk_363 (by decide) ?_
    refine r_aload_n dX10_walk_365 rfl ?_
    refine r_getR dX10_walk_366 fl_X10_133 rfl (kM_0 hM) (pM_71 hM) ?_
    refine r_iload dX10_walk_369 rfl ?_
    refine r_iload dX10_walk_371 rfl ?_
    refine r_iast dX10_walk_373 (aM_71 hM) (nI_in8 10 (by omega) (by decide)) (nI_clamp (by omega)) ?_
    rw [am_up_s, am_up_up]
    refine r_iinc (v := nI (i + 1)) dX10_walk_374 rfl (nI_inc i) ?_
    refine r_goto (tgt := 309) dX10_walk_377 (by decide) ?_
    refine rr_loop m c cr g S p w Ls hS hT hLl cnt (i + 1) (D ||| 2 ^ x) (g x) _ _ _ (by omega) (or_gt hD hb1 hb2).2 (by rw [cnB_or hb2 c hb1, hcn]) (hg20 x hb1) (by rw [Nat.add_assoc, ← hst]; exact hu) hdr3 (fun j hj => ?_)
    by_cases ej : j = i
    · rw [ej, am_up_s, hLi]
    · rw [am_up_n _ _ ej]; exact hR j (by omega)

