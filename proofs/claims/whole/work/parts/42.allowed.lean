/-! THE REFERENCE: with which house a riddle can be asked; is a number allowed -/
theorem b_nI (m : Nat) {i : Nat} (hi : i < 32) : bt (nI m) i = m.testBit i := by
  show (BitVec.ofNat 32 m).getLsbD i = m.testBit i
  rw [BitVec.getLsbD_ofNat]; simp [hi]
/-- the highest bit below i, or 0 -/
def hib (mk : Nat) : Nat → Nat
  | 0 => 0
  | i + 1 => if mk.testBit i then i else hib mk i
theorem hib_log : ∀ (H : Nat) {z : Nat}, z ≠ 0 → z < 2 ^ H → hib z H = Nat.log2 z
  | 0, z, h0, h => absurd (by simpa using h) h0
  | i + 1, z, h0, h => by
    rw [hib]
    by_cases hb : z < 2 ^ i
    · rw [Nat.testBit_lt_two_pow hb, if_neg (by decide)]
      exact hib_log i h0 hb
    · have hl : Nat.log2 z = i := by
        have h1 : Nat.log2 z < i + 1 := (Nat.log2_lt h0).mpr h
        have h2 : ¬ Nat.log2 z < i := fun q => hb ((Nat.log2_lt h0).mp q)
        omega
      have ht : z.testBit i = true := by
        rw [Nat.testBit_eq_decide_div_mod_eq]
        have : z / 2 ^ i = 1 := by
          apply Nat.div_eq_of_lt_le
          · rw [Nat.one_mul]; exact Nat.not_lt.mp hb
          · rw [Nat.pow_succ] at h; omega
        rw [this]; rfl
      rw [ht, if_pos rfl, hl]
/-- what the looks of each house's riddle are, by the reference's memory -/
def lkOkR (I : mI) (m H : Nat) (lk : Nat → Nat) : Prop := ∀ h, h < H → I (m + 6) h &&& ((nI 1 <<< (I m 1 &&& 31)) - nI 1) = nI (lk h) ∧ lk h < 2 ^ H
theorem dX10_askedAt_0 : decode cX10_askedAt 0 = .ok (.aload_n 0, 1) := by decide +kernel
theorem dX10_askedAt_1 : decode cX10_askedAt 1 = .ok (.iload_n 1, 1) := by decide +kernel
theorem dX10_askedAt_2 : decode cX10_askedAt 2 = .ok (.invokevirtual 376, 3) := by decide +kernel
theorem dX10_askedAt_5 : decode cX10_askedAt 5 = .ok (.ifCond .ne 5, 3) := by decide +kernel
theorem dX10_askedAt_8 : decode cX10_askedAt 8 = .ok (.iload_n 1, 1) := by decide +kernel
theorem dX10_askedAt_9 : decode cX10_askedAt 9 = .ok (.ireturn, 1) := by decide +kernel
theorem dX10_askedAt_10 : decode cX10_askedAt 10 = .ok (.iconst 0, 1) := by decide +kernel
theorem dX10_askedAt_11 : decode cX10_askedAt 11 = .ok (.istore_n 2, 1) := by decide +kernel
theorem dX10_askedAt_12 : decode cX10_askedAt 12 = .ok (.iconst 0, 1) := by decide +kernel
theorem dX10_askedAt_13 : decode cX10_askedAt 13 = .ok (.istore_n 3, 1) := by decide +kernel
theorem dX10_askedAt_14 : decode cX10_askedAt 14 = .ok (.iload_n 3, 1) := by decide +kernel
theorem dX10_askedAt_15 : decode cX10_askedAt 15 = .ok (.aload_n 0, 1) := by decide +kernel
theorem dX10_askedAt_16 : decode cX10_askedAt 16 = .ok (.getfield 350, 3) := by decide +kernel
theorem dX10_askedAt_19 : decode cX10_askedAt 19 = .ok (.if_icmp .ge 24, 3) := by decide +kernel
theorem dX10_askedAt_22 : decode cX10_askedAt 22 = .ok (.aload_n 0, 1) := by decide +kernel
theorem dX10_askedAt_23 : decode cX10_askedAt 23 = .ok (.iload_n 1, 1) := by decide +kernel
theorem dX10_askedAt_24 : decode cX10_askedAt 24 = .ok (.invokevirtual 376, 3) := by decide +kernel
theorem dX10_askedAt_27 : decode cX10_askedAt 27 = .ok (.iload_n 3, 1) := by decide +kernel
theorem dX10_askedAt_28 : decode cX10_askedAt 28 = .ok (.ishr, 1) := by decide +kernel
theorem dX10_askedAt_29 : decode cX10_askedAt 29 = .ok (.iconst 1, 1) := by decide +kernel
theorem dX10_askedAt_30 : decode cX10_askedAt 30 = .ok (.iand, 1) := by decide +kernel
theorem dX10_askedAt_31 : decode cX10_askedAt 31 = .ok (.iconst 1, 1) := by decide +kernel
theorem dX10_askedAt_32 : decode cX10_askedAt 32 = .ok (.if_icmp .ne 5, 3) := by decide +kernel
theorem dX10_askedAt_35 : decode cX10_askedAt 35 = .ok (.iload_n 3, 1) := by decide +kernel
theorem dX10_askedAt_36 : decode cX10_askedAt 36 = .ok (.istore_n 2, 1) := by decide +kernel
theorem dX10_askedAt_37 : decode cX10_askedAt 37 = .ok (.iinc 3 1, 3) := by decide +kernel
theorem dX10_askedAt_40 : decode cX10_askedAt 40 = .ok (.goto (-26), 3) := by decide +kernel
theorem dX10_askedAt_43 : decode cX10_askedAt 43 = .ok (.iload_n 2, 1) := by decide +kernel
theorem dX10_askedAt_44 : decode cX10_askedAt 44 = .ok (.ireturn, 1) := by decide +kernel

set_option maxHeartbeats 4000000 in
set_option maxRecDepth 100000 in
theorem w_X10_askedAt (m h H mk : Nat) {n : Nat} {kd : mK} {I : mI} {J : mJ} {P : mP} (hM : kM kd P m) (hh : h < H) (hH8 : H ≤ 8) (hH : I m 1 = nI H) (hlk : I (m + 6) h &&& ((nI 1 <<< (I m 1 &&& 31)) - nI 1) = nI mk) (hmk : mk < 2 ^ H) : ∀ (c i : Nat), i + c = H → Ru yX10_askedAt.cls cX10_askedAt 4 (some .int) yX10_askedAt.name 2 (am_is (some (.int (nI (hib mk H)))) n kd I J P) 0 0 14 [some (.ref m), some (.int (nI h)), some (.int (nI (hib mk i))), some (.int (nI i))] [] n kd I J P := by
  intro c
  induction c with
  | zero =>
    intro i hi
    have hi : i = H := by omega
    subst hi
    refine r_iload_n dX10_askedAt_14 rfl ?_
    refine r_aload_n dX10_askedAt_15 rfl ?_
    refine r_getI dX10_askedAt_16 fl_X10_350 rfl (kM_0 hM) ?_
    rw [hH]
    refine r_icmp_ge (tgt := 43) dX10_askedAt_19 (by decide) (fun _ => ?_) (fun hz => absurd (show _ from (by rw [nI_leI (by omega) (by omega)]; omega)) hz)
    refine r_iload_n dX10_askedAt_43 rfl ?_
    refine r_iret rfl dX10_askedAt_44 ?_
    exact am_is.mk
  | succ c ih =>
    intro i hi
    cases hb : mk.testBit i with
    | true =>
      refine r_iload_n dX10_askedAt_14 rfl ?_
      refine r_aload_n dX10_askedAt_15 rfl ?_
      refine r_getI dX10_askedAt_16 fl_X10_350 rfl (kM_0 hM) ?_
      rw [hH]
      refine r_icmp_ge (tgt := 43) dX10_askedAt_19 (by decide) (fun hz => absurd hz (show ¬ _ from (by rw [nI_leI (by omega) (by omega)]; omega))) (fun _ => ?_)
      refine r_aload_n dX10_askedAt_22 rfl ?_
      refine r_iload_n dX10_askedAt_23 rfl ?_
      refine r_virtE (c_X10_looksOf m h hM (by omega)) lk_X10_376 mc_X10_looksOf dX10_askedAt_24 (kM_0 hM) (by decide) rfl rfl (Nat.le_of_ble_eq_true rfl) ?_
      rw [hlk]
      refine r_iload_n dX10_askedAt_27 rfl ?_
      refine r_ishr dX10_askedAt_28 ?_
      refine r_iconst (v := nI 1) dX10_askedAt_29 (by decide) ?_
      refine r_iand dX10_askedAt_30 ?_
      rw [b_ask _ (by omega : i < 32), b_nI mk (by omega : i < 32)]
      rw [hb, if_pos rfl]
      refine r_iconst (v := nI 1) dX10_askedAt_31 (by decide) ?_
      refine r_icmp_ne (tgt := 37) dX10_askedAt_32 (by decide) (fun hz => absurd (show _ from rfl) hz) (fun _ => ?_)
      refine r_iload_n dX10_askedAt_35 rfl ?_
      refine r_istore_n dX10_askedAt_36 (by decide) ?_
      refine r_iinc (v := nI (i + 1)) dX10_askedAt_37 rfl (nI_inc i) ?_
      refine r_goto (tgt := 14) dX10_askedAt_40 (by decide) ?_
      have hgo := ih (i + 1) (by omega)
      rw [hib, hb, if_pos rfl] at hgo
      exact hgo
    | false =>
      refine r_iload_n dX10_askedAt_14 rfl ?_
      refine r_aload_n dX10_askedAt_15 rfl ?_
      refine r_getI dX10_askedAt_16 fl_X10_350 rfl (kM_0 hM) ?_
      rw [hH]
      refine r_icmp_ge (tgt := 43) dX10_askedAt_19 (by decide) (fun hz => absurd hz (show ¬ _ from (by rw [nI_leI (by omega) (by omega)]; omega))) (fun _ => ?_)
      refine r_aload_n dX10_askedAt_22 rfl ?_
      refine r_iload_n dX10_askedAt_23 rfl ?_
      refine r_virtE (c_X10_looksOf m h hM (by omega)) lk_X10_376 mc_X10_looksOf dX10_askedAt_24 (kM_0 hM) (by decide) rfl rfl (Nat.le_of_ble_eq_true rfl) ?_
      rw [hlk]
      refine r_iload_n dX10_askedAt_27 rfl ?_
      refine r_ishr dX10_askedAt_28 ?_
      refine r_iconst (v := nI 1) dX10_askedAt_29 (by decide) ?_
      refine r_iand dX10_askedAt_30 ?_
      rw [b_ask _ (by omega : i < 32), b_nI mk (by omega : i < 32)]
      rw [hb, if_neg (by decide)]
      refine r_iconst (v := nI 1) dX10_askedAt_31 (by decide) ?_
      refine r_icmp_ne (tgt := 37) dX10_askedAt_32 (by decide) (fun _ => ?_) (fun hz => absurd hz (show ¬ _ from (by decide)))
      refine r_iinc (v := nI (i + 1)) dX10_askedAt_37 rfl (nI_inc i) ?_
      refine r_goto (tgt := 14) dX10_askedAt_40 (by decide) ?_
      have hgo := ih (i + 1) (by omega)
      rw [hib, hb, if_neg (by decide)] at hgo
      exact hgo

set_option maxHeartbeats 4000000 in
set_option maxRecDepth 100000 in
theorem c_X10_askedAt (m h H mk : Nat) {n : Nat} {kd : mK} {I : mI} {J : mJ} {P : mP} (hM : kM kd P m) (hh : h < H) (hH8 : H ≤ 8) (hH : I m 1 = nI H) (hlk : I (m + 6) h &&& ((nI 1 <<< (I m 1 &&& 31)) - nI 1) = nI mk) (hmk : mk < 2 ^ H) : Ct yX10_askedAt cX10_askedAt 4 (some .int) 2 0 0 [.ref m, .int (nI h)] n kd I J P (am_is (some (.int (nI (awS mk h)))) n kd I J P) := by
  refine ct_of 2 (by decide +kernel) (Nat.le_of_ble_eq_true rfl) rfl ?_
  by_cases h0 : mk = 0
  · skip
    refine r_aload_n dX10_askedAt_0 rfl ?_
    refine r_iload_n dX10_askedAt_1 rfl ?_
    refine r_virtE (c_X10_looksOf m h hM (by omega)) lk_X10_376 mc_X10_looksOf dX10_askedAt_2 (kM_0 hM) (by decide) rfl rfl (Nat.le_of_ble_eq_true rfl) ?_
    rw [hlk]
    refine r_if_ne (tgt := 10) dX10_askedAt_5 (by decide) (fun hz => absurd (show _ from (by rw [h0]; rfl)) hz) (fun _ => ?_)
    refine r_iload_n dX10_askedAt_8 rfl ?_
    refine r_iret rfl dX10_askedAt_9 ?_
    exact ⟨by rw [awS, if_pos h0], rfl, rfl, rfl, rfl, rfl⟩
  · skip
    refine r_aload_n dX10_askedAt_0 rfl ?_
    refine r_iload_n dX10_askedAt_1 rfl ?_
    refine r_virtE (c_X10_looksOf m h hM (by omega)) lk_X10_376 mc_X10_looksOf dX10_askedAt_2 (kM_0 hM) (by decide) rfl rfl (Nat.le_of_ble_eq_true rfl) ?_
    rw [hlk]
    refine r_if_ne (tgt := 10) dX10_askedAt_5 (by decide) (fun _ => ?_) (fun hz => absurd hz (show ¬ _ from (by rw [z_eq (by have : 2 ^ H ≤ 2 ^ 8 := Nat.pow_le_pow_right (by omega) hH8; omega)]; exact h0)))
    refine r_iconst (v := nI 0) dX10_askedAt_10 (by decide) ?_
    refine r_istore_n dX10_askedAt_11 (by decide) ?_
    refine r_iconst (v := nI 0) dX10_askedAt_12 (by decide) ?_
    refine r_istore_n dX10_askedAt_13 (by decide) ?_
    have hw := w_X10_askedAt (n := n) (kd := kd) (I := I) (J := J) (P := P) m h H mk hM hh hH8 hH hlk hmk H 0 (by omega)
    rw [awS, if_neg h0, ← hib_log H h0 hmk]
    exact hw

def ltl (Lt : Nat → Int32) (hh v : Int32) : Nat → Nat → Bool
  | 0, _ => true
  | c + 1, k => (!decide (Lt (2 * k) = hh) || decide (Lt (2 * k + 1) = v)) && ltl Lt hh v c (k + 1)
def rlR (r : Int32) (aw : Nat → Nat) (h : Nat) (tv : Nat → Bool) : Nat → Nat → Bool
  | 0, _ => true
  | c + 1, k => (!(bt r k && decide (aw k = h)) || tv k) && rlR r aw h tv c (k + 1)
def alS (I : mI) (m H L : Nat) (r w : Int32) (lk : Nat → Nat) (tv : Nat → Bool) (h : Nat) : Bool := (decide (w = 0) || ltl (I (m + 24)) (nI h) (I (m + 25) h) L 0) && ((decide (I m 3 = 0) || unl (I (m + 25)) (I (m + 25) h) h 0) && rlR r (fun k => awS (lk k) k) h tv H 0)
theorem dX10_isAllowed_0 : decode cX10_isAllowed 0 = .ok (.iconst 0, 1) := by decide +kernel
theorem dX10_isAllowed_1 : decode cX10_isAllowed 1 = .ok (.istore 4, 2) := by decide +kernel
theorem dX10_isAllowed_3 : decode cX10_isAllowed 3 = .ok (.iload 4, 2) := by decide +kernel
theorem dX10_isAllowed_5 : decode cX10_isAllowed 5 = .ok (.aload_n 0, 1) := by decide +kernel
theorem dX10_isAllowed_6 : decode cX10_isAllowed 6 = .ok (.getfield 363, 3) := by decide +kernel
theorem dX10_isAllowed_9 : decode cX10_isAllowed 9 = .ok (.if_icmp .ge 48, 3) := by decide +kernel
theorem dX10_isAllowed_12 : decode cX10_isAllowed 12 = .ok (.iload_n 3, 1) := by decide +kernel
theorem dX10_isAllowed_13 : decode cX10_isAllowed 13 = .ok (.ifCond .eq 44, 3) := by decide +kernel
theorem dX10_isAllowed_16 : decode cX10_isAllowed 16 = .ok (.aload_n 0, 1) := by decide +kernel
theorem dX10_isAllowed_17 : decode cX10_isAllowed 17 = .ok (.getfield 87, 3) := by decide +kernel
theorem dX10_isAllowed_20 : decode cX10_isAllowed 20 = .ok (.iconst 2, 1) := by decide +kernel
theorem dX10_isAllowed_21 : decode cX10_isAllowed 21 = .ok (.iload 4, 2) := by decide +kernel
theorem dX10_isAllowed_23 : decode cX10_isAllowed 23 = .ok (.imul, 1) := by decide +kernel
theorem dX10_isAllowed_24 : decode cX10_isAllowed 24 = .ok (.iaload, 1) := by decide +kernel
theorem dX10_isAllowed_25 : decode cX10_isAllowed 25 = .ok (.iload_n 1, 1) := by decide +kernel
theorem dX10_isAllowed_26 : decode cX10_isAllowed 26 = .ok (.if_icmp .ne 25, 3) := by decide +kernel
theorem dX10_isAllowed_29 : decode cX10_isAllowed 29 = .ok (.aload_n 0, 1) := by decide +kernel
theorem dX10_isAllowed_30 : decode cX10_isAllowed 30 = .ok (.getfield 87, 3) := by decide +kernel
theorem dX10_isAllowed_33 : decode cX10_isAllowed 33 = .ok (.iconst 2, 1) := by decide +kernel
theorem dX10_isAllowed_34 : decode cX10_isAllowed 34 = .ok (.iload 4, 2) := by decide +kernel
theorem dX10_isAllowed_36 : decode cX10_isAllowed 36 = .ok (.imul, 1) := by decide +kernel
theorem dX10_isAllowed_37 : decode cX10_isAllowed 37 = .ok (.iconst 1, 1) := by decide +kernel
theorem dX10_isAllowed_38 : decode cX10_isAllowed 38 = .ok (.iadd, 1) := by decide +kernel
theorem dX10_isAllowed_39 : decode cX10_isAllowed 39 = .ok (.iaload, 1) := by decide +kernel
theorem dX10_isAllowed_40 : decode cX10_isAllowed 40 = .ok (.aload_n 0, 1) := by decide +kernel
theorem dX10_isAllowed_41 : decode cX10_isAllowed 41 = .ok (.getfield 90, 3) := by decide +kernel
theorem dX10_isAllowed_44 : decode cX10_isAllowed 44 = .ok (.iload_n 1, 1) := by decide +kernel
theorem dX10_isAllowed_45 : decode cX10_isAllowed 45 = .ok (.iaload, 1) := by decide +kernel
theorem dX10_isAllowed_46 : decode cX10_isAllowed 46 = .ok (.if_icmp .eq 5, 3) := by decide +kernel
theorem dX10_isAllowed_49 : decode cX10_isAllowed 49 = .ok (.iconst 0, 1) := by decide +kernel
theorem dX10_isAllowed_50 : decode cX10_isAllowed 50 = .ok (.ireturn, 1) := by decide +kernel
theorem dX10_isAllowed_51 : decode cX10_isAllowed 51 = .ok (.iinc 4 1, 3) := by decide +kernel
theorem dX10_isAllowed_54 : decode cX10_isAllowed 54 = .ok (.goto (-51), 3) := by decide +kernel
theorem dX10_isAllowed_57 : decode cX10_isAllowed 57 = .ok (.iconst 0, 1) := by decide +kernel
theorem dX10_isAllowed_58 : decode cX10_isAllowed 58 = .ok (.istore 4, 2) := by decide +kernel
theorem dX10_isAllowed_60 : decode cX10_isAllowed 60 = .ok (.iload 4, 2) := by decide +kernel
theorem dX10_isAllowed_62 : decode cX10_isAllowed 62 = .ok (.iload_n 1, 1) := by decide +kernel
theorem dX10_isAllowed_63 : decode cX10_isAllowed 63 = .ok (.if_icmp .ge 34, 3) := by decide +kernel
theorem dX10_isAllowed_66 : decode cX10_isAllowed 66 = .ok (.aload_n 0, 1) := by decide +kernel
theorem dX10_isAllowed_67 : decode cX10_isAllowed 67 = .ok (.getfield 353, 3) := by decide +kernel
theorem dX10_isAllowed_70 : decode cX10_isAllowed 70 = .ok (.ifCond .eq 27, 3) := by decide +kernel
theorem dX10_isAllowed_73 : decode cX10_isAllowed 73 = .ok (.aload_n 0, 1) := by decide +kernel
theorem dX10_isAllowed_74 : decode cX10_isAllowed 74 = .ok (.getfield 90, 3) := by decide +kernel
theorem dX10_isAllowed_77 : decode cX10_isAllowed 77 = .ok (.iload 4, 2) := by decide +kernel
theorem dX10_isAllowed_79 : decode cX10_isAllowed 79 = .ok (.iaload, 1) := by decide +kernel
theorem dX10_isAllowed_80 : decode cX10_isAllowed 80 = .ok (.aload_n 0, 1) := by decide +kernel
theorem dX10_isAllowed_81 : decode cX10_isAllowed 81 = .ok (.getfield 90, 3) := by decide +kernel
theorem dX10_isAllowed_84 : decode cX10_isAllowed 84 = .ok (.iload_n 1, 1) := by decide +kernel
theorem dX10_isAllowed_85 : decode cX10_isAllowed 85 = .ok (.iaload, 1) := by decide +kernel
theorem dX10_isAllowed_86 : decode cX10_isAllowed 86 = .ok (.if_icmp .ne 5, 3) := by decide +kernel
theorem dX10_isAllowed_89 : decode cX10_isAllowed 89 = .ok (.iconst 0, 1) := by decide +kernel
theorem dX10_isAllowed_90 : decode cX10_isAllowed 90 = .ok (.ireturn, 1) := by decide +kernel
theorem dX10_isAllowed_91 : decode cX10_isAllowed 91 = .ok (.iinc 4 1, 3) := by decide +kernel
theorem dX10_isAllowed_94 : decode cX10_isAllowed 94 = .ok (.goto (-34), 3) := by decide +kernel
theorem dX10_isAllowed_97 : decode cX10_isAllowed 97 = .ok (.iconst 0, 1) := by decide +kernel
theorem dX10_isAllowed_98 : decode cX10_isAllowed 98 = .ok (.istore 4, 2) := by decide +kernel
theorem dX10_isAllowed_100 : decode cX10_isAllowed 100 = .ok (.iload 4, 2) := by decide +kernel
theorem dX10_isAllowed_102 : decode cX10_isAllowed 102 = .ok (.aload_n 0, 1) := by decide +kernel
theorem dX10_isAllowed_103 : decode cX10_isAllowed 103 = .ok (.getfield 350, 3) := by decide +kernel
theorem dX10_isAllowed_106 : decode cX10_isAllowed 106 = .ok (.if_icmp .ge 40, 3) := by decide +kernel
theorem dX10_isAllowed_109 : decode cX10_isAllowed 109 = .ok (.iload_n 2, 1) := by decide +kernel
theorem dX10_isAllowed_110 : decode cX10_isAllowed 110 = .ok (.iload 4, 2) := by decide +kernel
theorem dX10_isAllowed_112 : decode cX10_isAllowed 112 = .ok (.ishr, 1) := by decide +kernel
theorem dX10_isAllowed_113 : decode cX10_isAllowed 113 = .ok (.iconst 1, 1) := by decide +kernel
theorem dX10_isAllowed_114 : decode cX10_isAllowed 114 = .ok (.iand, 1) := by decide +kernel
theorem dX10_isAllowed_115 : decode cX10_isAllowed 115 = .ok (.iconst 1, 1) := by decide +kernel
theorem dX10_isAllowed_116 : decode cX10_isAllowed 116 = .ok (.if_icmp .ne 24, 3) := by decide +kernel
theorem dX10_isAllowed_119 : decode cX10_isAllowed 119 = .ok (.aload_n 0, 1) := by decide +kernel
theorem dX10_isAllowed_120 : decode cX10_isAllowed 120 = .ok (.iload 4, 2) := by decide +kernel
theorem dX10_isAllowed_122 : decode cX10_isAllowed 122 = .ok (.invokevirtual 426, 3) := by decide +kernel
theorem dX10_isAllowed_125 : decode cX10_isAllowed 125 = .ok (.iload_n 1, 1) := by decide +kernel
theorem dX10_isAllowed_126 : decode cX10_isAllowed 126 = .ok (.if_icmp .ne 14, 3) := by decide +kernel
theorem dX10_isAllowed_129 : decode cX10_isAllowed 129 = .ok (.aload_n 0, 1) := by decide +kernel
theorem dX10_isAllowed_130 : decode cX10_isAllowed 130 = .ok (.iload 4, 2) := by decide +kernel
theorem dX10_isAllowed_132 : decode cX10_isAllowed 132 = .ok (.invokevirtual 410, 3) := by decide +kernel
theorem dX10_isAllowed_135 : decode cX10_isAllowed 135 = .ok (.ifCond .ne 5, 3) := by decide +kernel
theorem dX10_isAllowed_138 : decode cX10_isAllowed 138 = .ok (.iconst 0, 1) := by decide +kernel
theorem dX10_isAllowed_139 : decode cX10_isAllowed 139 = .ok (.ireturn, 1) := by decide +kernel
theorem dX10_isAllowed_140 : decode cX10_isAllowed 140 = .ok (.iinc 4 1, 3) := by decide +kernel
theorem dX10_isAllowed_143 : decode cX10_isAllowed 143 = .ok (.goto (-43), 3) := by decide +kernel
theorem dX10_isAllowed_146 : decode cX10_isAllowed 146 = .ok (.iconst 1, 1) := by decide +kernel
theorem dX10_isAllowed_147 : decode cX10_isAllowed 147 = .ok (.ireturn, 1) := by decide +kernel

set_option maxHeartbeats 4000000 in
set_option maxRecDepth 100000 in
theorem w_X10_isAllowed3 (m H L h : Nat) (r w : Int32) (lk : Nat → Nat) (tv : Nat → Bool) {n : Nat} {kd : mK} {I : mI} {J : mJ} {P : mP} (hM : kM kd P m) (hh : h < H) (hH8 : H ≤ 8) (hH : I m 1 = nI H) (hL : I m 47 = nI L) (hL10 : L ≤ 10) (hlk : lkOkR I m H lk) (hT : ∀ k (R : Nat → Int32), k < H → bt r k = true → awS (lk k) k = h → Ct yX10_isTrue cX10_isTrue 5 (some .boolean) 2 0 0 [.ref m, .int (nI k)] n kd (va_up I (m + 26) R) J P (am_sc (some (.int (bz (tv k)))) (m + 26) n kd (va_up I (m + 26) R) J P)) : ∀ (c : Nat) {R : Nat → Int32} (k : Nat), k + c = H → Ru yX10_isAllowed.cls cX10_isAllowed 5 (some .boolean) yX10_isAllowed.name 3 (am_sc (some (.int (bz (rlR r (fun k => awS (lk k) k) h tv c k)))) (m + 26) n kd I J P) 0 0 100 [some (.ref m), some (.int (nI h)), some (.int r), some (.int w), some (.int (nI k))] [] n kd (va_up I (m + 26) R) J P := by
  intro c
  induction c with
  | zero =>
    intro R k hk
    have hk : k = H := by omega
    subst hk
    refine r_iload dX10_isAllowed_100 rfl ?_
    refine r_aload_n dX10_isAllowed_102 rfl ?_
    refine r_getI dX10_isAllowed_103 fl_X10_350 rfl (kM_0 hM) ?_
    rw [am_up_n I R (by omega : m ≠ m + 26), hH]
    refine r_icmp_ge (tgt := 146) dX10_isAllowed_106 (by decide) (fun _ => ?_) (fun hz => absurd (show _ from (by rw [nI_leI (by omega) (by omega)]; omega)) hz)
    refine r_iconst (v := nI 1) dX10_isAllowed_146 (by decide) ?_
    refine r_zret rfl dX10_isAllowed_147 (by first | exact Or.inl rfl | exact Or.inr rfl | assumption) ?_
    exact ⟨R, rfl, rfl, rfl, rfl, rfl, rfl⟩
  | succ c ih =>
    intro R k hk
    cases hb : bt r k with
    | false =>
      refine r_iload dX10_isAllowed_100 rfl ?_
      refine r_aload_n dX10_isAllowed_102 rfl ?_
      refine r_getI dX10_isAllowed_103 fl_X10_350 rfl (kM_0 hM) ?_
      rw [am_up_n I R (by omega : m ≠ m + 26), hH]
      refine r_icmp_ge (tgt := 146) dX10_isAllowed_106 (by decide) (fun hz => absurd hz (show ¬ _ from (by rw [nI_leI (by omega) (by omega)]; omega))) (fun _ => ?_)
      refine r_iload_n dX10_isAllowed_109 rfl ?_
      refine r_iload dX10_isAllowed_110 rfl ?_
      refine r_ishr dX10_isAllowed_112 ?_
      refine r_iconst (v := nI 1) dX10_isAllowed_113 (by decide) ?_
      refine r_iand dX10_isAllowed_114 ?_
      rw [b_ask _ (by omega : k < 32)]
      rw [hb, if_neg (by decide)]
      refine r_iconst (v := nI 1) dX10_isAllowed_115 (by decide) ?_
      refine r_icmp_ne (tgt := 140) dX10_isAllowed_116 (by decide) (fun _ => ?_) (fun hz => absurd hz (show ¬ _ from (by decide)))
      refine r_iinc (v := nI (k + 1)) dX10_isAllowed_140 rfl (nI_inc k) ?_
      refine r_goto (tgt := 100) dX10_isAllowed_143 (by decide) ?_
      have hgo := ih (R := R) (k + 1) (by omega)
      rw [rlR, hb]
      exact hgo
    | true =>
      have haw : awS (lk k) k < 8 := (by have h1 := (hlk k (by omega)).2; have h2 : 2 ^ H ≤ 2 ^ 8 := Nat.pow_le_pow_right (by omega) hH8; unfold awS; split; omega; rename_i q; have := (Nat.log2_lt (k := 8) q).mpr (by omega); omega)
      by_cases ha : awS (lk k) k = h
      · cases ht : tv k with
        | false =>
          refine r_iload dX10_isAllowed_100 rfl ?_
          refine r_aload_n dX10_isAllowed_102 rfl ?_
          refine r_getI dX10_isAllowed_103 fl_X10_350 rfl (kM_0 hM) ?_
          rw [am_up_n I R (by omega : m ≠ m + 26), hH]
          refine r_icmp_ge (tgt := 146) dX10_isAllowed_106 (by decide) (fun hz => absurd hz (show ¬ _ from (by rw [nI_leI (by omega) (by omega)]; omega))) (fun _ => ?_)
          refine r_iload_n dX10_isAllowed_109 rfl ?_
          refine r_iload dX10_isAllowed_110 rfl ?_
          refine r_ishr dX10_isAllowed_112 ?_
          refine r_iconst (v := nI 1) dX10_isAllowed_113 (by decide) ?_
          refine r_iand dX10_isAllowed_114 ?_
          rw [b_ask _ (by omega : k < 32)]
          rw [hb, if_pos rfl]
          refine r_iconst (v := nI 1) dX10_isAllowed_115 (by decide) ?_
          refine r_icmp_ne (tgt := 140) dX10_isAllowed_116 (by decide) (fun hz => absurd (show _ from rfl) hz) (fun _ => ?_)
          refine r_aload_n dX10_isAllowed_119 rfl ?_
          refine r_iload dX10_isAllowed_120 rfl ?_
          refine r_virtE (c_X10_askedAt m k H (lk k) hM (by omega) hH8 (by rw [am_up_n I R (by omega : m ≠ m + 26)]; exact hH) (by rw [am_up_n I R (by omega : m + 6 ≠ m + 26), am_up_n I R (by omega : m ≠ m + 26)]; exact (hlk k (by omega)).1) (hlk k (by omega)).2) lk_X10_426 mc_X10_askedAt dX10_isAllowed_122 (kM_0 hM) (by decide) rfl rfl (Nat.le_of_ble_eq_true rfl) ?_
          refine r_iload_n dX10_isAllowed_125 rfl ?_
          refine r_icmp_ne (tgt := 140) dX10_isAllowed_126 (by decide) (fun hz => absurd (show _ from (by rw [ha])) hz) (fun _ => ?_)
          refine r_aload_n dX10_isAllowed_129 rfl ?_
          refine r_iload dX10_isAllowed_130 rfl ?_
          refine r_virtS (hT k R (by omega) hb ha) lk_X10_410 mc_X10_isTrue dX10_isAllowed_132 (kM_0 hM) (by decide) rfl rfl (Nat.le_of_ble_eq_true rfl) (fun R2 => ?_)
          rw [am_up_up I]
          rw [ht]
          refine r_if_ne (tgt := 140) dX10_isAllowed_135 (by decide) (fun hz => absurd (show _ from rfl) hz) (fun _ => ?_)
          refine r_iconst (v := nI 0) dX10_isAllowed_138 (by decide) ?_
          refine r_zret rfl dX10_isAllowed_139 (by first | exact Or.inl rfl | exact Or.inr rfl | assumption) ?_
          exact ⟨R2, by rw [rlR, hb, decide_eq_true ha, ht]; rfl, rfl, rfl, rfl, rfl, rfl⟩
        | true =>
          refine r_iload dX10_isAllowed_100 rfl ?_
          refine r_aload_n dX10_isAllowed_102 rfl ?_
          refine r_getI dX10_isAllowed_103 fl_X10_350 rfl (kM_0 hM) ?_
          rw [am_up_n I R (by omega : m ≠ m + 26), hH]
          refine r_icmp_ge (tgt := 146) dX10_isAllowed_106 (by decide) (fun hz => absurd hz (show ¬ _ from (by rw [nI_leI (by omega) (by omega)]; omega))) (fun _ => ?_)
          refine r_iload_n dX10_isAllowed_109 rfl ?_
          refine r_iload dX10_isAllowed_110 rfl ?_
          refine r_ishr dX10_isAllowed_112 ?_
          refine r_iconst (v := nI 1) dX10_isAllowed_113 (by decide) ?_
          refine r_iand dX10_isAllowed_114 ?_
          rw [b_ask _ (by omega : k < 32)]
          rw [hb, if_pos rfl]
          refine r_iconst (v := nI 1) dX10_isAllowed_115 (by decide) ?_
          refine r_icmp_ne (tgt := 140) dX10_isAllowed_116 (by decide) (fun hz => absurd (show _ from rfl) hz) (fun _ => ?_)
          refine r_aload_n dX10_isAllowed_119 rfl ?_
          refine r_iload dX10_isAllowed_120 rfl ?_
          refine r_virtE (c_X10_askedAt m k H (lk k) hM (by omega) hH8 (by rw [am_up_n I R (by omega : m ≠ m + 26)]; exact hH) (by rw [am_up_n I R (by omega : m + 6 ≠ m + 26), am_up_n I R (by omega : m ≠ m + 26)]; exact (hlk k (by omega)).1) (hlk k (by omega)).2) lk_X10_426 mc_X10_askedAt dX10_isAllowed_122 (kM_0 hM) (by decide) rfl rfl (Nat.le_of_ble_eq_true rfl) ?_
          refine r_iload_n dX10_isAllowed_125 rfl ?_
          refine r_icmp_ne (tgt := 140) dX10_isAllowed_126 (by decide) (fun hz => absurd (show _ from (by rw [ha])) hz) (fun _ => ?_)
          refine r_aload_n dX10_isAllowed_129 rfl ?_
          refine r_iload dX10_isAllowed_130 rfl ?_
          refine r_virtS (hT k R (by omega) hb ha) lk_X10_410 mc_X10_isTrue dX10_isAllowed_132 (kM_0 hM) (by decide) rfl rfl (Nat.le_of_ble_eq_true rfl) (fun R2 => ?_)
          rw [am_up_up I]
          rw [ht]
          refine r_if_ne (tgt := 140) dX10_isAllowed_135 (by decide) (fun _ => ?_) (fun hz => absurd hz (show ¬ _ from (by decide)))
          refine r_iinc (v := nI (k + 1)) dX10_isAllowed_140 rfl (nI_inc k) ?_
          refine r_goto (tgt := 100) dX10_isAllowed_143 (by decide) ?_
          have hgo := ih (R := R2) (k + 1) (by omega)
          rw [rlR, hb, decide_eq_true ha, ht]
          exact hgo
      · skip
        refine r_iload dX10_isAllowed_100 rfl ?_
        refine r_aload_n dX10_isAllowed_102 rfl ?_
        refine r_getI dX10_isAllowed_103 fl_X10_350 rfl (kM_0 hM) ?_
        rw [am_up_n I R (by omega : m ≠ m + 26), hH]
        refine r_icmp_ge (tgt := 146) dX10_isAllowed_106 (by decide) (fun hz => absurd hz (show ¬ _ from (by rw [nI_leI (by omega) (by omega)]; omega))) (fun _ => ?_)
        refine r_iload_n dX10_isAllowed_109 rfl ?_
        refine r_iload dX10_isAllowed_110 rfl ?_
        refine r_ishr dX10_isAllowed_112 ?_
        refine r_iconst (v := nI 1) dX10_isAllowed_113 (by decide) ?_
        refine r_iand dX10_isAllowed_114 ?_
        rw [b_ask _ (by omega : k < 32)]
        rw [hb, if_pos rfl]
        refine r_iconst (v := nI 1) dX10_isAllowed_115 (by decide) ?_
        refine r_icmp_ne (tgt := 140) dX10_isAllowed_116 (by decide) (fun hz => absurd (show _ from rfl) hz) (fun _ => ?_)
        refine r_aload_n dX10_isAllowed_119 rfl ?_
        refine r_iload dX10_isAllowed_120 rfl ?_
        refine r_virtE (c_X10_askedAt m k H (lk k) hM (by omega) hH8 (by rw [am_up_n I R (by omega : m ≠ m + 26)]; exact hH) (by rw [am_up_n I R (by omega : m + 6 ≠ m + 26), am_up_n I R (by omega : m ≠ m + 26)]; exact (hlk k (by omega)).1) (hlk k (by omega)).2) lk_X10_426 mc_X10_askedAt dX10_isAllowed_122 (kM_0 hM) (by decide) rfl rfl (Nat.le_of_ble_eq_true rfl) ?_
        refine r_iload_n dX10_isAllowed_125 rfl ?_
        refine r_icmp_ne (tgt := 140) dX10_isAllowed_126 (by decide) (fun _ => ?_) (fun hz => absurd hz (show ¬ _ from (by rw [nI_eq (by omega) (by omega)]; exact ha)))
        refine r_iinc (v := nI (k + 1)) dX10_isAllowed_140 rfl (nI_inc k) ?_
        refine r_goto (tgt := 100) dX10_isAllowed_143 (by decide) ?_
        have hgo := ih (R := R) (k + 1) (by omega)
        rw [rlR, hb, decide_eq_false ha]
        exact hgo

set_option maxHeartbeats 4000000 in
set_option maxRecDepth 100000 in
theorem w_X10_isAllowed2 (m H L h : Nat) (r w : Int32) (lk : Nat → Nat) (tv : Nat → Bool) {n : Nat} {kd : mK} {I : mI} {J : mJ} {P : mP} (hM : kM kd P m) (hh : h < H) (hH8 : H ≤ 8) (hH : I m 1 = nI H) (hL : I m 47 = nI L) (hL10 : L ≤ 10) (hlk : lkOkR I m H lk) (hT : ∀ k (R : Nat → Int32), k < H → bt r k = true → awS (lk k) k = h → Ct yX10_isTrue cX10_isTrue 5 (some .boolean) 2 0 0 [.ref m, .int (nI k)] n kd (va_up I (m + 26) R) J P (am_sc (some (.int (bz (tv k)))) (m + 26) n kd (va_up I (m + 26) R) J P)) (hu : ¬ I m 3 = 0) : ∀ (c k : Nat), k + c = h → Ru yX10_isAllowed.cls cX10_isAllowed 5 (some .boolean) yX10_isAllowed.name 3 (am_sc (some (.int (bz (unl (I (m + 25)) (I (m + 25) h) c k && rlR r (fun k => awS (lk k) k) h tv H 0)))) (m + 26) n kd I J P) 0 0 60 [some (.ref m), some (.int (nI h)), some (.int r), some (.int w), some (.int (nI k))] [] n kd I J P := by
  intro c
  induction c with
  | zero =>
    intro k hk
    have hk : k = h := by omega
    subst hk
    refine r_iload dX10_isAllowed_60 rfl ?_
    refine r_iload_n dX10_isAllowed_62 rfl ?_
    refine r_icmp_ge (tgt := 97) dX10_isAllowed_63 (by decide) (fun _ => ?_) (fun hz => absurd (show _ from (by rw [nI_leI (by omega) (by omega)]; omega)) hz)
    refine r_iconst (v := nI 0) dX10_isAllowed_97 (by decide) ?_
    refine r_istore dX10_isAllowed_98 (by decide) ?_
    have hw := w_X10_isAllowed3 (n := n) (kd := kd) (I := I) (J := J) (P := P) m H L k r w lk tv hM hh hH8 hH hL hL10 hlk hT H (R := I (m + 26)) 0 (by omega)
    rw [am_up_id] at hw
    exact hw
  | succ c ih =>
    intro k hk
    by_cases hx : I (m + 25) k = I (m + 25) h
    · skip
      refine r_iload dX10_isAllowed_60 rfl ?_
      refine r_iload_n dX10_isAllowed_62 rfl ?_
      refine r_icmp_ge (tgt := 97) dX10_isAllowed_63 (by decide) (fun hz => absurd hz (show ¬ _ from (by rw [nI_leI (by omega) (by omega)]; omega))) (fun _ => ?_)
      refine r_aload_n dX10_isAllowed_66 rfl ?_
      refine r_getI dX10_isAllowed_67 fl_X10_353 rfl (kM_0 hM) ?_
      try simp (disch := omega) only [am_up_s, am_up_n, am_up_up]
      refine r_if_eq (tgt := 97) dX10_isAllowed_70 (by decide) (fun hz => absurd hz (show ¬ _ from hu)) (fun _ => ?_)
      refine r_aload_n dX10_isAllowed_73 rfl ?_
      refine r_getR dX10_isAllowed_74 fl_X10_90 rfl (kM_0 hM) (pM_49 hM) ?_
      refine r_iload dX10_isAllowed_77 rfl ?_
      refine r_iald dX10_isAllowed_79 (aM_49 hM) (nI_in8 8 (by omega) (by decide)) (nI_clamp (by omega)) ?_
      try simp (disch := omega) only [am_up_s, am_up_n, am_up_up]
      refine r_aload_n dX10_isAllowed_80 rfl ?_
      refine r_getR dX10_isAllowed_81 fl_X10_90 rfl (kM_0 hM) (pM_49 hM) ?_
      refine r_iload_n dX10_isAllowed_84 rfl ?_
      refine r_iald dX10_isAllowed_85 (aM_49 hM) (nI_in8 8 (by omega) (by decide)) (nI_clamp (by omega)) ?_
      try simp (disch := omega) only [am_up_s, am_up_n, am_up_up]
      refine r_icmp_ne (tgt := 91) dX10_isAllowed_86 (by decide) (fun hz => absurd (show _ from hx) hz) (fun _ => ?_)
      refine r_iconst (v := nI 0) dX10_isAllowed_89 (by decide) ?_
      refine r_zret rfl dX10_isAllowed_90 (by first | exact Or.inl rfl | exact Or.inr rfl | assumption) ?_
      exact ⟨I (m + 26), by rw [unl, decide_eq_true hx]; rfl, rfl, rfl, (am_up_id _ _).symm, rfl, rfl⟩
    · skip
      refine r_iload dX10_isAllowed_60 rfl ?_
      refine r_iload_n dX10_isAllowed_62 rfl ?_
      refine r_icmp_ge (tgt := 97) dX10_isAllowed_63 (by decide) (fun hz => absurd hz (show ¬ _ from (by rw [nI_leI (by omega) (by omega)]; omega))) (fun _ => ?_)
      refine r_aload_n dX10_isAllowed_66 rfl ?_
      refine r_getI dX10_isAllowed_67 fl_X10_353 rfl (kM_0 hM) ?_
      try simp (disch := omega) only [am_up_s, am_up_n, am_up_up]
      refine r_if_eq (tgt := 97) dX10_isAllowed_70 (by decide) (fun hz => absurd hz (show ¬ _ from hu)) (fun _ => ?_)
      refine r_aload_n dX10_isAllowed_73 rfl ?_
      refine r_getR dX10_isAllowed_74 fl_X10_90 rfl (kM_0 hM) (pM_49 hM) ?_
      refine r_iload dX10_isAllowed_77 rfl ?_
      refine r_iald dX10_isAllowed_79 (aM_49 hM) (nI_in8 8 (by omega) (by decide)) (nI_clamp (by omega)) ?_
      try simp (disch := omega) only [am_up_s, am_up_n, am_up_up]
      refine r_aload_n dX10_isAllowed_80 rfl ?_
      refine r_getR dX10_isAllowed_81 fl_X10_90 rfl (kM_0 hM) (pM_49 hM) ?_
      refine r_iload_n dX10_isAllowed_84 rfl ?_
      refine r_iald dX10_isAllowed_85 (aM_49 hM) (nI_in8 8 (by omega) (by decide)) (nI_clamp (by omega)) ?_
      try simp (disch := omega) only [am_up_s, am_up_n, am_up_up]
      refine r_icmp_ne (tgt := 91) dX10_isAllowed_86 (by decide) (fun _ => ?_) (fun hz => absurd hz (show ¬ _ from hx))
      refine r_iinc (v := nI (k + 1)) dX10_isAllowed_91 rfl (nI_inc k) ?_
      refine r_goto (tgt := 60) dX10_isAllowed_94 (by decide) ?_
      have hgo := ih (k + 1) (by omega)
      rw [unl, decide_eq_false hx]
      exact hgo

set_option maxHeartbeats 4000000 in
set_option maxRecDepth 100000 in
theorem w_X10_isAllowed57 (m H L h : Nat) (r w : Int32) (lk : Nat → Nat) (tv : Nat → Bool) {n : Nat} {kd : mK} {I : mI} {J : mJ} {P : mP} (hM : kM kd P m) (hh : h < H) (hH8 : H ≤ 8) (hH : I m 1 = nI H) (hL : I m 47 = nI L) (hL10 : L ≤ 10) (hlk : lkOkR I m H lk) (hT : ∀ k (R : Nat → Int32), k < H → bt r k = true → awS (lk k) k = h → Ct yX10_isTrue cX10_isTrue 5 (some .boolean) 2 0 0 [.ref m, .int (nI k)] n kd (va_up I (m + 26) R) J P (am_sc (some (.int (bz (tv k)))) (m + 26) n kd (va_up I (m + 26) R) J P)) : ∀ (x : Int32), Ru yX10_isAllowed.cls cX10_isAllowed 5 (some .boolean) yX10_isAllowed.name 3 (am_sc (some (.int (bz ((decide (I m 3 = 0) || unl (I (m + 25)) (I (m + 25) h) h 0) && rlR r (fun k => awS (lk k) k) h tv H 0)))) (m + 26) n kd I J P) 0 0 57 [some (.ref m), some (.int (nI h)), some (.int r), some (.int w), some (.int x)] [] n kd I J P := by
  intro x
  by_cases hu : I m 3 = 0
  · by_cases hz0 : h = 0
    · skip
      refine r_iconst (v := nI 0) dX10_isAllowed_57 (by decide) ?_
      refine r_istore dX10_isAllowed_58 (by decide) ?_
      refine r_iload dX10_isAllowed_60 rfl ?_
      refine r_iload_n dX10_isAllowed_62 rfl ?_
      refine r_icmp_ge (tgt := 97) dX10_isAllowed_63 (by decide) (fun _ => ?_) (fun hz => absurd (show _ from (by rw [nI_leI (by omega) (by omega)]; omega)) hz)
      refine r_iconst (v := nI 0) dX10_isAllowed_97 (by decide) ?_
      refine r_istore dX10_isAllowed_98 (by decide) ?_
      have hw := w_X10_isAllowed3 (n := n) (kd := kd) (I := I) (J := J) (P := P) m H L h r w lk tv hM hh hH8 hH hL hL10 hlk hT H (R := I (m + 26)) 0 (by omega)
      rw [am_up_id] at hw
      rw [decide_eq_true hu]
      exact hw
    · skip
      refine r_iconst (v := nI 0) dX10_isAllowed_57 (by decide) ?_
      refine r_istore dX10_isAllowed_58 (by decide) ?_
      refine r_iload dX10_isAllowed_60 rfl ?_
      refine r_iload_n dX10_isAllowed_62 rfl ?_
      refine r_icmp_ge (tgt := 97) dX10_isAllowed_63 (by decide) (fun hz => absurd hz (show ¬ _ from (by rw [nI_leI (by omega) (by omega)]; omega))) (fun _ => ?_)
      refine r_aload_n dX10_isAllowed_66 rfl ?_
      refine r_getI dX10_isAllowed_67 fl_X10_353 rfl (kM_0 hM) ?_
      try simp (disch := omega) only [am_up_s, am_up_n, am_up_up]
      refine r_if_eq (tgt := 97) dX10_isAllowed_70 (by decide) (fun _ => ?_) (fun hz => absurd (show _ from hu) hz)
      refine r_iconst (v := nI 0) dX10_isAllowed_97 (by decide) ?_
      refine r_istore dX10_isAllowed_98 (by decide) ?_
      have hw := w_X10_isAllowed3 (n := n) (kd := kd) (I := I) (J := J) (P := P) m H L h r w lk tv hM hh hH8 hH hL hL10 hlk hT H (R := I (m + 26)) 0 (by omega)
      rw [am_up_id] at hw
      rw [decide_eq_true hu]
      exact hw
  · skip
    refine r_iconst (v := nI 0) dX10_isAllowed_57 (by decide) ?_
    refine r_istore dX10_isAllowed_58 (by decide) ?_
    have hw := w_X10_isAllowed2 (n := n) (kd := kd) (I := I) (J := J) (P := P) m H L h r w lk tv hM hh hH8 hH hL hL10 hlk hT hu h 0 (by omega)
    rw [decide_eq_false hu]
    exact hw

set_option maxHeartbeats 4000000 in
set_option maxRecDepth 100000 in
theorem w_X10_isAllowed1 (m H L h : Nat) (r w : Int32) (lk : Nat → Nat) (tv : Nat → Bool) {n : Nat} {kd : mK} {I : mI} {J : mJ} {P : mP} (hM : kM kd P m) (hh : h < H) (hH8 : H ≤ 8) (hH : I m 1 = nI H) (hL : I m 47 = nI L) (hL10 : L ≤ 10) (hlk : lkOkR I m H lk) (hT : ∀ k (R : Nat → Int32), k < H → bt r k = true → awS (lk k) k = h → Ct yX10_isTrue cX10_isTrue 5 (some .boolean) 2 0 0 [.ref m, .int (nI k)] n kd (va_up I (m + 26) R) J P (am_sc (some (.int (bz (tv k)))) (m + 26) n kd (va_up I (m + 26) R) J P)) (hw0 : ¬ w = 0) : ∀ (c k : Nat), k + c = L → Ru yX10_isAllowed.cls cX10_isAllowed 5 (some .boolean) yX10_isAllowed.name 3 (am_sc (some (.int (bz (ltl (I (m + 24)) (nI h) (I (m + 25) h) c k && ((decide (I m 3 = 0) || unl (I (m + 25)) (I (m + 25) h) h 0) && rlR r (fun k => awS (lk k) k) h tv H 0))))) (m + 26) n kd I J P) 0 0 3 [some (.ref m), some (.int (nI h)), some (.int r), some (.int w), some (.int (nI k))] [] n kd I J P := by
  intro c
  induction c with
  | zero =>
    intro k hk
    have hk : k = L := by omega
    subst hk
    refine r_iload dX10_isAllowed_3 rfl ?_
    refine r_aload_n dX10_isAllowed_5 rfl ?_
    refine r_getI dX10_isAllowed_6 fl_X10_363 rfl (kM_0 hM) ?_
    rw [hL]
    refine r_icmp_ge (tgt := 57) dX10_isAllowed_9 (by decide) (fun _ => ?_) (fun hz => absurd (show _ from (by rw [nI_leI (by omega) (by omega)]; omega)) hz)
    have hw := w_X10_isAllowed57 (n := n) (kd := kd) (I := I) (J := J) (P := P) m H k h r w lk tv hM hh hH8 hH hL hL10 hlk hT (nI k)
    exact hw
  | succ c ih =>
    intro k hk
    by_cases hx : I (m + 24) (2 * k) = nI h
    · by_cases hy : I (m + 24) (2 * k + 1) = I (m + 25) h
      · skip
        refine r_iload dX10_isAllowed_3 rfl ?_
        refine r_aload_n dX10_isAllowed_5 rfl ?_
        refine r_getI dX10_isAllowed_6 fl_X10_363 rfl (kM_0 hM) ?_
        rw [hL]
        refine r_icmp_ge (tgt := 57) dX10_isAllowed_9 (by decide) (fun hz => absurd hz (show ¬ _ from (by rw [nI_leI (by omega) (by omega)]; omega))) (fun _ => ?_)
        refine r_iload_n dX10_isAllowed_12 rfl ?_
        refine r_if_eq (tgt := 57) dX10_isAllowed_13 (by decide) (fun hz => absurd hz (show ¬ _ from hw0)) (fun _ => ?_)
        refine r_aload_n dX10_isAllowed_16 rfl ?_
        refine r_getR dX10_isAllowed_17 fl_X10_87 rfl (kM_0 hM) (pM_48 hM) ?_
        refine r_iconst (v := nI 2) dX10_isAllowed_20 (by decide) ?_
        refine r_iload dX10_isAllowed_21 rfl ?_
        refine r_imul dX10_isAllowed_23 ?_
        rw [pk_mul]
        refine r_iald dX10_isAllowed_24 (aM_48 hM) (nI_in8 20 (by omega) (by decide)) (nI_clamp (by omega)) ?_
        try simp (disch := omega) only [am_up_s, am_up_n, am_up_up]
        refine r_iload_n dX10_isAllowed_25 rfl ?_
        refine r_icmp_ne (tgt := 51) dX10_isAllowed_26 (by decide) (fun hz => absurd (show _ from hx) hz) (fun _ => ?_)
        refine r_aload_n dX10_isAllowed_29 rfl ?_
        refine r_getR dX10_isAllowed_30 fl_X10_87 rfl (kM_0 hM) (pM_48 hM) ?_
        refine r_iconst (v := nI 2) dX10_isAllowed_33 (by decide) ?_
        refine r_iload dX10_isAllowed_34 rfl ?_
        refine r_imul dX10_isAllowed_36 ?_
        rw [pk_mul]
        refine r_iconst (v := nI 1) dX10_isAllowed_37 (by decide) ?_
        refine r_iadd dX10_isAllowed_38 ?_
        rw [nI_add (2 * k) 1]
        refine r_iald dX10_isAllowed_39 (aM_48 hM) (nI_in8 20 (by omega) (by decide)) (nI_clamp (by omega)) ?_
        try simp (disch := omega) only [am_up_s, am_up_n, am_up_up]
        refine r_aload_n dX10_isAllowed_40 rfl ?_
        refine r_getR dX10_isAllowed_41 fl_X10_90 rfl (kM_0 hM) (pM_49 hM) ?_
        refine r_iload_n dX10_isAllowed_44 rfl ?_
        refine r_iald dX10_isAllowed_45 (aM_49 hM) (nI_in8 8 (by omega) (by decide)) (nI_clamp (by omega)) ?_
        try simp (disch := omega) only [am_up_s, am_up_n, am_up_up]
        refine r_icmp_eq (tgt := 51) dX10_isAllowed_46 (by decide) (fun _ => ?_) (fun hz => absurd (show _ from hy) hz)
        refine r_iinc (v := nI (k + 1)) dX10_isAllowed_51 rfl (nI_inc k) ?_
        refine r_goto (tgt := 3) dX10_isAllowed_54 (by decide) ?_
        have hgo := ih (k + 1) (by omega)
        rw [ltl, decide_eq_true hx, decide_eq_true hy]
        exact hgo
      · skip
        refine r_iload dX10_isAllowed_3 rfl ?_
        refine r_aload_n dX10_isAllowed_5 rfl ?_
        refine r_getI dX10_isAllowed_6 fl_X10_363 rfl (kM_0 hM) ?_
        rw [hL]
        refine r_icmp_ge (tgt := 57) dX10_isAllowed_9 (by decide) (fun hz => absurd hz (show ¬ _ from (by rw [nI_leI (by omega) (by omega)]; omega))) (fun _ => ?_)
        refine r_iload_n dX10_isAllowed_12 rfl ?_
        refine r_if_eq (tgt := 57) dX10_isAllowed_13 (by decide) (fun hz => absurd hz (show ¬ _ from hw0)) (fun _ => ?_)
        refine r_aload_n dX10_isAllowed_16 rfl ?_
        refine r_getR dX10_isAllowed_17 fl_X10_87 rfl (kM_0 hM) (pM_48 hM) ?_
        refine r_iconst (v := nI 2) dX10_isAllowed_20 (by decide) ?_
        refine r_iload dX10_isAllowed_21 rfl ?_
        refine r_imul dX10_isAllowed_23 ?_
        rw [pk_mul]
        refine r_iald dX10_isAllowed_24 (aM_48 hM) (nI_in8 20 (by omega) (by decide)) (nI_clamp (by omega)) ?_
        try simp (disch := omega) only [am_up_s, am_up_n, am_up_up]
        refine r_iload_n dX10_isAllowed_25 rfl ?_
        refine r_icmp_ne (tgt := 51) dX10_isAllowed_26 (by decide) (fun hz => absurd (show _ from hx) hz) (fun _ => ?_)
        refine r_aload_n dX10_isAllowed_29 rfl ?_
        refine r_getR dX10_isAllowed_30 fl_X10_87 rfl (kM_0 hM) (pM_48 hM) ?_
        refine r_iconst (v := nI 2) dX10_isAllowed_33 (by decide) ?_
        refine r_iload dX10_isAllowed_34 rfl ?_
        refine r_imul dX10_isAllowed_36 ?_
        rw [pk_mul]
        refine r_iconst (v := nI 1) dX10_isAllowed_37 (by decide) ?_
        refine r_iadd dX10_isAllowed_38 ?_
        rw [nI_add (2 * k) 1]
        refine r_iald dX10_isAllowed_39 (aM_48 hM) (nI_in8 20 (by omega) (by decide)) (nI_clamp (by omega)) ?_
        try simp (disch := omega) only [am_up_s, am_up_n, am_up_up]
        refine r_aload_n dX10_isAllowed_40 rfl ?_
        refine r_getR dX10_isAllowed_41 fl_X10_90 rfl (kM_0 hM) (pM_49 hM) ?_
        refine r_iload_n dX10_isAllowed_44 rfl ?_
        refine r_iald dX10_isAllowed_45 (aM_49 hM) (nI_in8 8 (by omega) (by decide)) (nI_clamp (by omega)) ?_
        try simp (disch := omega) only [am_up_s, am_up_n, am_up_up]
        refine r_icmp_eq (tgt := 51) dX10_isAllowed_46 (by decide) (fun hz => absurd hz (show ¬ _ from hy)) (fun _ => ?_)
        refine r_iconst (v := nI 0) dX10_isAllowed_49 (by decide) ?_
        refine r_zret rfl dX10_isAllowed_50 (by first | exact Or.inl rfl | exact Or.inr rfl | assumption) ?_
        exact ⟨I (m + 26), by rw [ltl, decide_eq_true hx, decide_eq_false hy]; rfl, rfl, rfl, (am_up_id _ _).symm, rfl, rfl⟩
    · skip
      refine r_iload dX10_isAllowed_3 rfl ?_
      refine r_aload_n dX10_isAllowed_5 rfl ?_
      refine r_getI dX10_isAllowed_6 fl_X10_363 rfl (kM_0 hM) ?_
      rw [hL]
      refine r_icmp_ge (tgt := 57) dX10_isAllowed_9 (by decide) (fun hz => absurd hz (show ¬ _ from (by rw [nI_leI (by omega) (by omega)]; omega))) (fun _ => ?_)
      refine r_iload_n dX10_isAllowed_12 rfl ?_
      refine r_if_eq (tgt := 57) dX10_isAllowed_13 (by decide) (fun hz => absurd hz (show ¬ _ from hw0)) (fun _ => ?_)
      refine r_aload_n dX10_isAllowed_16 rfl ?_
      refine r_getR dX10_isAllowed_17 fl_X10_87 rfl (kM_0 hM) (pM_48 hM) ?_
      refine r_iconst (v := nI 2) dX10_isAllowed_20 (by decide) ?_
      refine r_iload dX10_isAllowed_21 rfl ?_
      refine r_imul dX10_isAllowed_23 ?_
      rw [pk_mul]
      refine r_iald dX10_isAllowed_24 (aM_48 hM) (nI_in8 20 (by omega) (by decide)) (nI_clamp (by omega)) ?_
      try simp (disch := omega) only [am_up_s, am_up_n, am_up_up]
      refine r_iload_n dX10_isAllowed_25 rfl ?_
      refine r_icmp_ne (tgt := 51) dX10_isAllowed_26 (by decide) (fun _ => ?_) (fun hz => absurd hz (show ¬ _ from hx))
      refine r_iinc (v := nI (k + 1)) dX10_isAllowed_51 rfl (nI_inc k) ?_
      refine r_goto (tgt := 3) dX10_isAllowed_54 (by decide) ?_
      have hgo := ih (k + 1) (by omega)
      rw [ltl, decide_eq_false hx]
      exact hgo

set_option maxHeartbeats 4000000 in
set_option maxRecDepth 100000 in
theorem c_X10_isAllowed (m H L h : Nat) (r w : Int32) (lk : Nat → Nat) (tv : Nat → Bool) {n : Nat} {kd : mK} {I : mI} {J : mJ} {P : mP} (hM : kM kd P m) (hh : h < H) (hH8 : H ≤ 8) (hH : I m 1 = nI H) (hL : I m 47 = nI L) (hL10 : L ≤ 10) (hlk : lkOkR I m H lk) (hT : ∀ k (R : Nat → Int32), k < H → bt r k = true → awS (lk k) k = h → Ct yX10_isTrue cX10_isTrue 5 (some .boolean) 2 0 0 [.ref m, .int (nI k)] n kd (va_up I (m + 26) R) J P (am_sc (some (.int (bz (tv k)))) (m + 26) n kd (va_up I (m + 26) R) J P)) : Ct yX10_isAllowed cX10_isAllowed 5 (some .boolean) 3 0 0 [.ref m, .int (nI h), .int r, .int w] n kd I J P (am_sc (some (.int (bz (alS I m H L r w lk tv h)))) (m + 26) n kd I J P) := by
  refine ct_of 1 (by decide +kernel) (Nat.le_of_ble_eq_true rfl) rfl ?_
  by_cases hw0 : w = 0
  · by_cases hz0 : L = 0
    · skip
      refine r_iconst (v := nI 0) dX10_isAllowed_0 (by decide) ?_
      refine r_istore dX10_isAllowed_1 (by decide) ?_
      refine r_iload dX10_isAllowed_3 rfl ?_
      refine r_aload_n dX10_isAllowed_5 rfl ?_
      refine r_getI dX10_isAllowed_6 fl_X10_363 rfl (kM_0 hM) ?_
      rw [hL]
      refine r_icmp_ge (tgt := 57) dX10_isAllowed_9 (by decide) (fun _ => ?_) (fun hz => absurd (show _ from (by rw [nI_leI (by omega) (by omega)]; omega)) hz)
      have hw := w_X10_isAllowed57 (n := n) (kd := kd) (I := I) (J := J) (P := P) m H L h r w lk tv hM hh hH8 hH hL hL10 hlk hT (nI 0)
      rw [alS, decide_eq_true hw0]
      exact hw
    · skip
      refine r_iconst (v := nI 0) dX10_isAllowed_0 (by decide) ?_
      refine r_istore dX10_isAllowed_1 (by decide) ?_
      refine r_iload dX10_isAllowed_3 rfl ?_
      refine r_aload_n dX10_isAllowed_5 rfl ?_
      refine r_getI dX10_isAllowed_6 fl_X10_363 rfl (kM_0 hM) ?_
      rw [hL]
      refine r_icmp_ge (tgt := 57) dX10_isAllowed_9 (by decide) (fun hz => absurd hz (show ¬ _ from (by rw [nI_leI (by omega) (by omega)]; omega))) (fun _ => ?_)
      refine r_iload_n dX10_isAllowed_12 rfl ?_
      refine r_if_eq (tgt := 57) dX10_isAllowed_13 (by decide) (fun _ => ?_) (fun hz => absurd (show _ from hw0) hz)
      have hw := w_X10_isAllowed57 (n := n) (kd := kd) (I := I) (J := J) (P := P) m H L h r w lk tv hM hh hH8 hH hL hL10 hlk hT (nI 0)
      rw [alS, decide_eq_true hw0]
      exact hw
  · skip
    refine r_iconst (v := nI 0) dX10_isAllowed_0 (by decide) ?_
    refine r_istore dX10_isAllowed_1 (by decide) ?_
    have hw := w_X10_isAllowed1 (n := n) (kd := kd) (I := I) (J := J) (P := P) m H L h r w lk tv hM hh hH8 hH hL hL10 hlk hT hw0 L 0 (by omega)
    rw [alS, decide_eq_false hw0]
    exact hw

