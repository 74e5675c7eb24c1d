/-! A NUMBERING KEPT -/
section Rules
variable {own : String} {cc : ByteArray} {nL : Nat} {ret : Option FieldType} {nm : String} {d kc ks pc : Nat} {post : am_Post} {ls : List (Option Value)} {st stk : List Value} {n : Nat} {kd : mK} {I : mI} {J : mJ} {P : mP}
variable {y : MethodName} {cc2 : ByteArray} {nL2 : Nat} {ret2 : Option FieldType} {d2 idx ci np b n2 id : Nat} {As : List Value} {kd2 : mK} {I2 : mI} {J2 : mJ} {P2 : mP}
theorem r_virtS {v : Value} (hC : Ct y cc2 nL2 ret2 d2 0 0 (.ref b :: As) n kd I J P (am_sc (some v) id n2 kd2 I2 J2 P2)) (hL : Lv own idx y ci np) (hM : Mc y cc2 nL2 ret2) (hd : decode cc pc = .ok (.invokevirtual idx, 3)) (hk : kd b = some (0, ci)) (hdd : d2 < d) (hAs : As.length = np) (hst : stk = As.reverse ++ .ref b :: st) (hw : (st.map fun v => v.category).sum ≤ 8) (k : ∀ R : Nat → Int32, Ru own cc nL ret nm d post kc ks (pc + 3) ls (v :: st) n2 kd2 (va_up I2 id R) J2 P2) : Ru own cc nL ret nm d post kc ks pc ls stk n kd I J P :=
  r_virt hC hL hM hd hk hdd hAs hst hw (Nat.le_of_eq (Nat.zero_add kc)) (Nat.le_of_eq (Nat.zero_add ks)) (fun _ _ _ _ _ _ h => by obtain ⟨R, h0, -⟩ := h; cases h0) (fun w n' kd' I' J' P' h => by obtain ⟨R, h0, rfl, rfl, rfl, rfl, rfl⟩ := h; cases h0; exact k R)
end Rules
def pkR (N : Nat → Int32) : Nat → Int64
  | 0 => 0
  | i + 1 => pkR N i ||| ((N i).toInt64 <<< ((nI 5 * nI i).toInt64 &&& 63))
def snR (N S0 : Nat → Int32) : Nat → Nat → Int32
  | 0 => S0
  | i + 1 => va_up (snR N S0 i) i (snR N S0 i i ||| (nI 1 <<< (N i &&& 31)))
theorem dX6_keep_0 : decode cX6_keep 0 = .ok (.lconst 0, 1) := by decide +kernel
theorem dX6_keep_1 : decode cX6_keep 1 = .ok (.lstore_n 1, 1) := by decide +kernel
theorem dX6_keep_2 : decode cX6_keep 2 = .ok (.iconst 0, 1) := by decide +kernel
theorem dX6_keep_3 : decode cX6_keep 3 = .ok (.istore_n 3, 1) := by decide +kernel
theorem dX6_keep_4 : decode cX6_keep 4 = .ok (.iload_n 3, 1) := by decide +kernel
theorem dX6_keep_5 : decode cX6_keep 5 = .ok (.aload_n 0, 1) := by decide +kernel
theorem dX6_keep_6 : decode cX6_keep 6 = .ok (.getfield 9, 3) := by decide +kernel
theorem dX6_keep_9 : decode cX6_keep 9 = .ok (.getfield 55, 3) := by decide +kernel
theorem dX6_keep_12 : decode cX6_keep 12 = .ok (.if_icmp .ge 40, 3) := by decide +kernel
theorem dX6_keep_15 : decode cX6_keep 15 = .ok (.lload_n 1, 1) := by decide +kernel
theorem dX6_keep_16 : decode cX6_keep 16 = .ok (.aload_n 0, 1) := by decide +kernel
theorem dX6_keep_17 : decode cX6_keep 17 = .ok (.getfield 33, 3) := by decide +kernel
theorem dX6_keep_20 : decode cX6_keep 20 = .ok (.iload_n 3, 1) := by decide +kernel
theorem dX6_keep_21 : decode cX6_keep 21 = .ok (.iaload, 1) := by decide +kernel
theorem dX6_keep_22 : decode cX6_keep 22 = .ok (.i2l, 1) := by decide +kernel
theorem dX6_keep_23 : decode cX6_keep 23 = .ok (.iconst 5, 1) := by decide +kernel
theorem dX6_keep_24 : decode cX6_keep 24 = .ok (.iload_n 3, 1) := by decide +kernel
theorem dX6_keep_25 : decode cX6_keep 25 = .ok (.imul, 1) := by decide +kernel
theorem dX6_keep_26 : decode cX6_keep 26 = .ok (.lshl, 1) := by decide +kernel
theorem dX6_keep_27 : decode cX6_keep 27 = .ok (.lor, 1) := by decide +kernel
theorem dX6_keep_28 : decode cX6_keep 28 = .ok (.lstore_n 1, 1) := by decide +kernel
theorem dX6_keep_29 : decode cX6_keep 29 = .ok (.aload_n 0, 1) := by decide +kernel
theorem dX6_keep_30 : decode cX6_keep 30 = .ok (.getfield 40, 3) := by decide +kernel
theorem dX6_keep_33 : decode cX6_keep 33 = .ok (.iload_n 3, 1) := by decide +kernel
theorem dX6_keep_34 : decode cX6_keep 34 = .ok (.dup2, 1) := by decide +kernel
theorem dX6_keep_35 : decode cX6_keep 35 = .ok (.iaload, 1) := by decide +kernel
theorem dX6_keep_36 : decode cX6_keep 36 = .ok (.iconst 1, 1) := by decide +kernel
theorem dX6_keep_37 : decode cX6_keep 37 = .ok (.aload_n 0, 1) := by decide +kernel
theorem dX6_keep_38 : decode cX6_keep 38 = .ok (.getfield 33, 3) := by decide +kernel
theorem dX6_keep_41 : decode cX6_keep 41 = .ok (.iload_n 3, 1) := by decide +kernel
theorem dX6_keep_42 : decode cX6_keep 42 = .ok (.iaload, 1) := by decide +kernel
theorem dX6_keep_43 : decode cX6_keep 43 = .ok (.ishl, 1) := by decide +kernel
theorem dX6_keep_44 : decode cX6_keep 44 = .ok (.ior, 1) := by decide +kernel
theorem dX6_keep_45 : decode cX6_keep 45 = .ok (.iastore, 1) := by decide +kernel
theorem dX6_keep_46 : decode cX6_keep 46 = .ok (.iinc 3 1, 3) := by decide +kernel
theorem dX6_keep_49 : decode cX6_keep 49 = .ok (.goto (-45), 3) := by decide +kernel
theorem dX6_keep_52 : decode cX6_keep 52 = .ok (.aload_n 0, 1) := by decide +kernel
theorem dX6_keep_53 : decode cX6_keep 53 = .ok (.getfield 46, 3) := by decide +kernel
theorem dX6_keep_56 : decode cX6_keep 56 = .ok (.sipush 1000, 3) := by decide +kernel
theorem dX6_keep_59 : decode cX6_keep 59 = .ok (.if_icmp .ge 13, 3) := by decide +kernel
theorem dX6_keep_62 : decode cX6_keep 62 = .ok (.aload_n 0, 1) := by decide +kernel
theorem dX6_keep_63 : decode cX6_keep 63 = .ok (.getfield 36, 3) := by decide +kernel
theorem dX6_keep_66 : decode cX6_keep 66 = .ok (.aload_n 0, 1) := by decide +kernel
theorem dX6_keep_67 : decode cX6_keep 67 = .ok (.getfield 46, 3) := by decide +kernel
theorem dX6_keep_70 : decode cX6_keep 70 = .ok (.lload_n 1, 1) := by decide +kernel
theorem dX6_keep_71 : decode cX6_keep 71 = .ok (.lastore, 1) := by decide +kernel
theorem dX6_keep_72 : decode cX6_keep 72 = .ok (.aload_n 0, 1) := by decide +kernel
theorem dX6_keep_73 : decode cX6_keep 73 = .ok (.dup, 1) := by decide +kernel
theorem dX6_keep_74 : decode cX6_keep 74 = .ok (.getfield 46, 3) := by decide +kernel
theorem dX6_keep_77 : decode cX6_keep 77 = .ok (.iconst 1, 1) := by decide +kernel
theorem dX6_keep_78 : decode cX6_keep 78 = .ok (.iadd, 1) := by decide +kernel
theorem dX6_keep_79 : decode cX6_keep 79 = .ok (.putfield 46, 3) := by decide +kernel
theorem dX6_keep_82 : decode cX6_keep 82 = .ok (.return_, 1) := by decide +kernel

set_option maxHeartbeats 4000000 in
set_option maxRecDepth 100000 in
theorem w_X6_keep (o b H F : Nat) {n : Nat} {kd : mK} {I : mI} {J : mJ} {P : mP} (hQ : kQ kd P o) (hb0 : kd b = some (0, 7)) (hpb : P o 0 = some b) (hbo : b + 9 < o) (hH8 : H ≤ 8) (hH : I b 0 = nI H) (hF : I o 10 = nI F) (hF1 : F ≤ 1000) : ∀ (k i : Nat), i + k = H → Ru yX6_keep.cls cX6_keep 4 none yX6_keep.name 1 (am_is none n kd (va_up (va_up I (o + 5) (snR (I (o + 3)) (I (o + 5)) H)) o (va_up (I o) 10 (nI (F + 1)))) (if F < 1000 then va_up J (o + 4) (va_up (J (o + 4)) F (pkR (I (o + 3)) H)) else J) P) 0 0 4 [some (.ref o), some (.long (pkR (I (o + 3)) i)), none, some (.int (nI i))] [] n kd (va_up I (o + 5) (snR (I (o + 3)) (I (o + 5)) i)) J P := by
  obtain ⟨t0, t1, t2, t3, t4, t5, u2, u3, u6, u7, u8⟩ := hQ
  intro k
  induction k with
  | zero =>
    intro i hi
    have hi : i = H := by omega
    subst hi
    by_cases hF2 : F < 1000
    · skip
      refine r_iload_n dX6_keep_4 rfl ?_
      refine r_aload_n dX6_keep_5 rfl ?_
      refine r_getR dX6_keep_6 fl_X6_9 rfl (by assumption) (by assumption) ?_
      refine r_getI dX6_keep_9 fl_X6_55 rfl hb0 ?_
      rw [am_up_n I _ (by omega : b ≠ o + 5), hH]
      refine r_icmp_ge (tgt := 52) dX6_keep_12 (by decide) (fun _ => ?_) (fun hz => absurd (show _ from (by rw [nI_leI (by omega) (by omega)]; omega)) hz)
      refine r_aload_n dX6_keep_52 rfl ?_
      refine r_getI dX6_keep_53 fl_X6_46 rfl t0 ?_
      rw [am_up_n I _ (by omega : o ≠ o + 5), hF]
      refine r_sipush (v := nI 1000) dX6_keep_56 (by decide) ?_
      refine r_icmp_ge (tgt := 72) dX6_keep_59 (by decide) (fun hz => absurd hz (show ¬ _ from (by rw [nI_leI (by omega) (by omega)]; omega))) (fun _ => ?_)
      refine r_aload_n dX6_keep_62 rfl ?_
      refine r_getR dX6_keep_63 fl_X6_36 rfl (by assumption) (by assumption) ?_
      refine r_aload_n dX6_keep_66 rfl ?_
      refine r_getI dX6_keep_67 fl_X6_46 rfl t0 ?_
      rw [am_up_n I _ (by omega : o ≠ o + 5), hF]
      refine r_lload_n dX6_keep_70 rfl ?_
      refine r_last dX6_keep_71 t4 (nI_in8 1000 hF2 (by decide)) (nI_clamp (by omega)) ?_
      refine r_aload_n dX6_keep_72 rfl ?_
      refine r_dup dX6_keep_73 rfl ?_
      refine r_getI dX6_keep_74 fl_X6_46 rfl t0 ?_
      rw [am_up_n I _ (by omega : o ≠ o + 5), hF]
      refine r_iconst (v := nI 1) dX6_keep_77 (by decide) ?_
      refine r_iadd dX6_keep_78 ?_
      refine r_putI dX6_keep_79 fl_X6_46 rfl rfl (by assumption) ?_
      refine r_vret rfl dX6_keep_82 ?_
      rw [am_up_n I _ (by omega : o ≠ o + 5)]
      rw [nI_add F 1]
      exact ⟨rfl, rfl, rfl, rfl, by rw [if_pos hF2], rfl⟩
    · skip
      refine r_iload_n dX6_keep_4 rfl ?_
      refine r_aload_n dX6_keep_5 rfl ?_
      refine r_getR dX6_keep_6 fl_X6_9 rfl (by assumption) (by assumption) ?_
      refine r_getI dX6_keep_9 fl_X6_55 rfl hb0 ?_
      rw [am_up_n I _ (by omega : b ≠ o + 5), hH]
      refine r_icmp_ge (tgt := 52) dX6_keep_12 (by decide) (fun _ => ?_) (fun hz => absurd (show _ from (by rw [nI_leI (by omega) (by omega)]; omega)) hz)
      refine r_aload_n dX6_keep_52 rfl ?_
      refine r_getI dX6_keep_53 fl_X6_46 rfl t0 ?_
      rw [am_up_n I _ (by omega : o ≠ o + 5), hF]
      refine r_sipush (v := nI 1000) dX6_keep_56 (by decide) ?_
      refine r_icmp_ge (tgt := 72) dX6_keep_59 (by decide) (fun _ => ?_) (fun hz => absurd (show _ from (by rw [nI_leI (by omega) (by omega)]; omega)) hz)
      refine r_aload_n dX6_keep_72 rfl ?_
      refine r_dup dX6_keep_73 rfl ?_
      refine r_getI dX6_keep_74 fl_X6_46 rfl t0 ?_
      rw [am_up_n I _ (by omega : o ≠ o + 5), hF]
      refine r_iconst (v := nI 1) dX6_keep_77 (by decide) ?_
      refine r_iadd dX6_keep_78 ?_
      refine r_putI dX6_keep_79 fl_X6_46 rfl rfl (by assumption) ?_
      refine r_vret rfl dX6_keep_82 ?_
      rw [am_up_n I _ (by omega : o ≠ o + 5)]
      rw [nI_add F 1]
      exact ⟨rfl, rfl, rfl, rfl, by rw [if_neg hF2], rfl⟩
  | succ k ih =>
    intro i hi
    refine r_iload_n dX6_keep_4 rfl ?_
    refine r_aload_n dX6_keep_5 rfl ?_
    refine r_getR dX6_keep_6 fl_X6_9 rfl (by assumption) (by assumption) ?_
    refine r_getI dX6_keep_9 fl_X6_55 rfl hb0 ?_
    rw [am_up_n I _ (by omega : b ≠ o + 5), hH]
    refine r_icmp_ge (tgt := 52) dX6_keep_12 (by decide) (fun hz => absurd hz (show ¬ _ from (by rw [nI_leI (by omega) (by omega)]; omega))) (fun _ => ?_)
    refine r_lload_n dX6_keep_15 rfl ?_
    refine r_aload_n dX6_keep_16 rfl ?_
    refine r_getR dX6_keep_17 fl_X6_33 rfl (by assumption) (by assumption) ?_
    refine r_iload_n dX6_keep_20 rfl ?_
    refine r_iald dX6_keep_21 t3 (nI_in8 8 (by omega) (by decide)) (nI_clamp (by omega)) ?_
    rw [am_up_n I _ (by omega : o + 3 ≠ o + 5)]
    refine r_i2l dX6_keep_22 ?_
    refine r_iconst (v := nI 5) dX6_keep_23 (by decide) ?_
    refine r_iload_n dX6_keep_24 rfl ?_
    refine r_imul dX6_keep_25 ?_
    refine r_lshl dX6_keep_26 ?_
    refine r_lor dX6_keep_27 ?_
    refine r_lstore_n dX6_keep_28 (by decide) ?_
    refine r_aload_n dX6_keep_29 rfl ?_
    refine r_getR dX6_keep_30 fl_X6_40 rfl (by assumption) (by assumption) ?_
    refine r_iload_n dX6_keep_33 rfl ?_
    refine r_dup2 dX6_keep_34 rfl rfl ?_
    refine r_iald dX6_keep_35 t5 (nI_in8 8 (by omega) (by decide)) (nI_clamp (by omega)) ?_
    rw [am_up_s I]
    refine r_iconst (v := nI 1) dX6_keep_36 (by decide) ?_
    refine r_aload_n dX6_keep_37 rfl ?_
    refine r_getR dX6_keep_38 fl_X6_33 rfl (by assumption) (by assumption) ?_
    refine r_iload_n dX6_keep_41 rfl ?_
    refine r_iald dX6_keep_42 t3 (nI_in8 8 (by omega) (by decide)) (nI_clamp (by omega)) ?_
    rw [am_up_n I _ (by omega : o + 3 ≠ o + 5)]
    refine r_ishl dX6_keep_43 ?_
    refine r_ior dX6_keep_44 ?_
    refine r_iast dX6_keep_45 t5 (nI_in8 8 (by omega) (by decide)) (nI_clamp (by omega)) ?_
    rw [am_up_s I, am_up_up I]
    refine r_iinc (v := nI (i + 1)) dX6_keep_46 rfl (nI_inc i) ?_
    refine r_goto (tgt := 4) dX6_keep_49 (by decide) ?_
    exact ih (i + 1) (by omega)

set_option maxHeartbeats 4000000 in
set_option maxRecDepth 100000 in
theorem c_X6_keep (o b H F : Nat) {n : Nat} {kd : mK} {I : mI} {J : mJ} {P : mP} (hQ : kQ kd P o) (hb0 : kd b = some (0, 7)) (hpb : P o 0 = some b) (hbo : b + 9 < o) (hH8 : H ≤ 8) (hH : I b 0 = nI H) (hF : I o 10 = nI F) (hF1 : F ≤ 1000) : Ct yX6_keep cX6_keep 4 none 1 0 0 [.ref o] n kd I J P (am_is none n kd (va_up (va_up I (o + 5) (snR (I (o + 3)) (I (o + 5)) H)) o (va_up (I o) 10 (nI (F + 1)))) (if F < 1000 then va_up J (o + 4) (va_up (J (o + 4)) F (pkR (I (o + 3)) H)) else J) P) := by
  refine ct_of 3 (by decide +kernel) (Nat.le_of_ble_eq_true rfl) rfl ?_
  refine r_lconst (v := 0) dX6_keep_0 (by decide) ?_
  refine r_lstore_n dX6_keep_1 (by decide) ?_
  refine r_iconst (v := nI 0) dX6_keep_2 (by decide) ?_
  refine r_istore_n dX6_keep_3 (by decide) ?_
  have hw := w_X6_keep (n := n) (kd := kd) (I := I) (J := J) (P := P) o b H F hQ hb0 hpb hbo hH8 hH hF hF1 H 0 (by omega)
  rw [snR, am_up_id] at hw
  exact hw

