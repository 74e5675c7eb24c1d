/-! NO HOUSE: methods that ask for one, on a street without houses; plant out of its bounds -/
theorem no_house (y : Int32) : (!decide (y < 0) && decide (y < nI 0)) = false := by
  rw [nI_0]
  cases h : decide (y < (0 : Int32)) <;> rfl
section Rules
variable {K : (Nat → ClassId) → Prop} {own : String} {cc : ByteArray} {nL : Nat} {ret : Option FieldType} {nm : String} {d kc ks pc : Nat} {post : am_Post} {ls : List (Option Value)} {st : List Value} {n : Nat} {kd : mK} {I : mI} {J : mJ} {P : mP}
theorem r_virtX {y : MethodName} {cc2 : ByteArray} {nL2 : Nat} {ret2 : Option FieldType} {d2 mc ms idx ci np b : Nat} {As stk : List Value} {E : String} {v : Option Value} (hC : Ct y cc2 nL2 ret2 d2 mc ms (.ref b :: As) n kd I J P (am_ot false E v n kd I J P)) (hL : Lv own idx y ci np) (hM : Mc y cc2 nL2 ret2) (hd : decode cc pc = .ok (.invokevirtual idx, 3)) (hk : kd b = some (0, ci)) (hdd : d2 < d) (hAs : As.length = np) (hst : stk = As.reverse ++ .ref b :: st) (hw : (st.map fun v => v.category).sum ≤ 8) (hkc : mc ≤ kc) (hks : ms ≤ ks) (hp : post (.inr E) n kd I J P) : RuZ (K, []) own cc nL ret nm d post kc ks pc ls stk n kd I J P :=
  r_virt (kc2 := 0) (ks2 := 0) hC hL hM hd hk hdd hAs hst hw (by omega) (by omega) (fun E' n' kd' I' J' P' h => by obtain ⟨h0, rfl, rfl, rfl, rfl, rfl⟩ := h; cases h0; exact hp) (fun w n' kd' I' J' P' h => by cases h.1)
end Rules
theorem dX9_house_0 : decode cX9_house 0 = .ok (.aload_n 0, 1) := by decide +kernel
theorem dX9_house_1 : decode cX9_house 1 = .ok (.iload_n 1, 1) := by decide +kernel
theorem dX9_house_2 : decode cX9_house 2 = .ok (.invokevirtual 142, 3) := by decide +kernel
theorem dX9_house_5 : decode cX9_house 5 = .ok (.iload_n 2, 1) := by decide +kernel
theorem dX9_house_6 : decode cX9_house 6 = .ok (.tableswitch 92 0 4 #[34, 44, 54, 71, 83], 34) := by decide +kernel
theorem dX9_house_40 : decode cX9_house 40 = .ok (.aload_n 0, 1) := by decide +kernel
theorem dX9_house_41 : decode cX9_house 41 = .ok (.getfield 37, 3) := by decide +kernel
theorem dX9_house_44 : decode cX9_house 44 = .ok (.getfield 145, 3) := by decide +kernel
theorem dX9_house_47 : decode cX9_house 47 = .ok (.iload_n 1, 1) := by decide +kernel
theorem dX9_house_48 : decode cX9_house 48 = .ok (.iaload, 1) := by decide +kernel
theorem dX9_house_49 : decode cX9_house 49 = .ok (.ireturn, 1) := by decide +kernel
theorem dX9_house_50 : decode cX9_house 50 = .ok (.aload_n 0, 1) := by decide +kernel
theorem dX9_house_51 : decode cX9_house 51 = .ok (.getfield 37, 3) := by decide +kernel
theorem dX9_house_54 : decode cX9_house 54 = .ok (.getfield 148, 3) := by decide +kernel
theorem dX9_house_57 : decode cX9_house 57 = .ok (.iload_n 1, 1) := by decide +kernel
theorem dX9_house_58 : decode cX9_house 58 = .ok (.iaload, 1) := by decide +kernel
theorem dX9_house_59 : decode cX9_house 59 = .ok (.ireturn, 1) := by decide +kernel
theorem dX9_house_60 : decode cX9_house 60 = .ok (.aload_n 0, 1) := by decide +kernel
theorem dX9_house_61 : decode cX9_house 61 = .ok (.getfield 27, 3) := by decide +kernel
theorem dX9_house_64 : decode cX9_house 64 = .ok (.iload_n 1, 1) := by decide +kernel
theorem dX9_house_65 : decode cX9_house 65 = .ok (.invokevirtual 151, 3) := by decide +kernel
theorem dX9_house_68 : decode cX9_house 68 = .ok (.ifCond .eq 7, 3) := by decide +kernel
theorem dX9_house_71 : decode cX9_house 71 = .ok (.iconst 1, 1) := by decide +kernel
theorem dX9_house_72 : decode cX9_house 72 = .ok (.goto 4, 3) := by decide +kernel
theorem dX9_house_75 : decode cX9_house 75 = .ok (.iconst 0, 1) := by decide +kernel
theorem dX9_house_76 : decode cX9_house 76 = .ok (.ireturn, 1) := by decide +kernel
theorem dX9_house_77 : decode cX9_house 77 = .ok (.aload_n 0, 1) := by decide +kernel
theorem dX9_house_78 : decode cX9_house 78 = .ok (.getfield 37, 3) := by decide +kernel
theorem dX9_house_81 : decode cX9_house 81 = .ok (.getfield 155, 3) := by decide +kernel
theorem dX9_house_84 : decode cX9_house 84 = .ok (.iload_n 1, 1) := by decide +kernel
theorem dX9_house_85 : decode cX9_house 85 = .ok (.ishr, 1) := by decide +kernel
theorem dX9_house_86 : decode cX9_house 86 = .ok (.iconst 1, 1) := by decide +kernel
theorem dX9_house_87 : decode cX9_house 87 = .ok (.iand, 1) := by decide +kernel
theorem dX9_house_88 : decode cX9_house 88 = .ok (.ireturn, 1) := by decide +kernel
theorem dX9_house_89 : decode cX9_house 89 = .ok (.aload_n 0, 1) := by decide +kernel
theorem dX9_house_90 : decode cX9_house 90 = .ok (.getfield 27, 3) := by decide +kernel
theorem dX9_house_93 : decode cX9_house 93 = .ok (.iload_n 1, 1) := by decide +kernel
theorem dX9_house_94 : decode cX9_house 94 = .ok (.invokevirtual 158, 3) := by decide +kernel
theorem dX9_house_97 : decode cX9_house 97 = .ok (.ireturn, 1) := by decide +kernel
theorem dX9_house_98 : decode cX9_house 98 = .ok (.new 139, 3) := by decide +kernel
theorem dX9_house_101 : decode cX9_house 101 = .ok (.dup, 1) := by decide +kernel
theorem dX9_house_102 : decode cX9_house 102 = .ok (.invokespecial 141, 3) := by decide +kernel
theorem dX9_house_105 : decode cX9_house 105 = .ok (.athrow, 1) := by decide +kernel
set_option maxHeartbeats 4000000 in
set_option maxRecDepth 100000 in
theorem n_X9_house (o b : Nat) (y1 y2 : Int32) {n : Nat} {kd : mK} {I : mI} {J : mJ} {P : mP} (ho : kd o = some (0, 9)) (hp : P o 4 = some b) (hb : kd b = some (0, 7)) (hH : I b 0 = nI 0) : Ct yX9_house cX9_house 3 (some .int) 9 1 6 [.ref o, .int y1, .int y2] n kd I J P (fun z n' kd' I' J' P' => z = .inr "java/util/NoSuchElementException" ∧ n' = n ∧ kd' = kd ∧ I' = I ∧ J' = J ∧ P' = P) := by
  have hc := c_X9_mustBeHouse (n := n) (I := I) (J := J) o b y1 ho hp hb
  rw [hH, no_house] at hc
  refine ct_of 0 (by decide +kernel) (Nat.le_of_ble_eq_true rfl) rfl ?_
  refine r_aload_n dX9_house_0 rfl ?_
  refine r_iload_n dX9_house_1 rfl ?_
  exact r_virtX hc lk_X9_142 mc_X9_mustBeHouse dX9_house_2 ho (by decide) rfl rfl (Nat.le_of_ble_eq_true rfl) (by decide) (by decide) ⟨rfl, rfl, rfl, rfl, rfl, rfl⟩

theorem dX10_house_0 : decode cX10_house 0 = .ok (.aload_n 0, 1) := by decide +kernel
theorem dX10_house_1 : decode cX10_house 1 = .ok (.iconst 0, 1) := by decide +kernel
theorem dX10_house_2 : decode cX10_house 2 = .ok (.putfield 193, 3) := by decide +kernel
theorem dX10_house_5 : decode cX10_house 5 = .ok (.aload_n 0, 1) := by decide +kernel
theorem dX10_house_6 : decode cX10_house 6 = .ok (.iload_n 1, 1) := by decide +kernel
theorem dX10_house_7 : decode cX10_house 7 = .ok (.invokevirtual 373, 3) := by decide +kernel
theorem dX10_house_10 : decode cX10_house 10 = .ok (.ifCond .eq 17, 3) := by decide +kernel
theorem dX10_house_13 : decode cX10_house 13 = .ok (.aload_n 0, 1) := by decide +kernel
theorem dX10_house_14 : decode cX10_house 14 = .ok (.iload_n 2, 1) := by decide +kernel
theorem dX10_house_15 : decode cX10_house 15 = .ok (.iconst 0, 1) := by decide +kernel
theorem dX10_house_16 : decode cX10_house 16 = .ok (.iconst 4, 1) := by decide +kernel
theorem dX10_house_17 : decode cX10_house 17 = .ok (.invokestatic 369, 3) := by decide +kernel
theorem dX10_house_20 : decode cX10_house 20 = .ok (.iconst 1, 1) := by decide +kernel
theorem dX10_house_21 : decode cX10_house 21 = .ok (.invokevirtual 343, 3) := by decide +kernel
theorem dX10_house_24 : decode cX10_house 24 = .ok (.ifCond .ne 5, 3) := by decide +kernel
theorem dX10_house_27 : decode cX10_house 27 = .ok (.iconst 0, 1) := by decide +kernel
theorem dX10_house_28 : decode cX10_house 28 = .ok (.ireturn, 1) := by decide +kernel
theorem dX10_house_29 : decode cX10_house 29 = .ok (.iload_n 2, 1) := by decide +kernel
theorem dX10_house_30 : decode cX10_house 30 = .ok (.ifCond .ne 12, 3) := by decide +kernel
theorem dX10_house_33 : decode cX10_house 33 = .ok (.aload_n 0, 1) := by decide +kernel
theorem dX10_house_34 : decode cX10_house 34 = .ok (.getfield 13, 3) := by decide +kernel
theorem dX10_house_37 : decode cX10_house 37 = .ok (.iload_n 1, 1) := by decide +kernel
theorem dX10_house_38 : decode cX10_house 38 = .ok (.iaload, 1) := by decide +kernel
theorem dX10_house_39 : decode cX10_house 39 = .ok (.goto 63, 3) := by decide +kernel
theorem dX10_house_42 : decode cX10_house 42 = .ok (.iload_n 2, 1) := by decide +kernel
theorem dX10_house_43 : decode cX10_house 43 = .ok (.iconst 1, 1) := by decide +kernel
theorem dX10_house_44 : decode cX10_house 44 = .ok (.if_icmp .ne 12, 3) := by decide +kernel
theorem dX10_house_47 : decode cX10_house 47 = .ok (.aload_n 0, 1) := by decide +kernel
theorem dX10_house_48 : decode cX10_house 48 = .ok (.getfield 17, 3) := by decide +kernel
theorem dX10_house_51 : decode cX10_house 51 = .ok (.iload_n 1, 1) := by decide +kernel
theorem dX10_house_52 : decode cX10_house 52 = .ok (.iaload, 1) := by decide +kernel
theorem dX10_house_53 : decode cX10_house 53 = .ok (.goto 49, 3) := by decide +kernel
theorem dX10_house_56 : decode cX10_house 56 = .ok (.iload_n 2, 1) := by decide +kernel
theorem dX10_house_57 : decode cX10_house 57 = .ok (.iconst 2, 1) := by decide +kernel
theorem dX10_house_58 : decode cX10_house 58 = .ok (.if_icmp .ne 12, 3) := by decide +kernel
theorem dX10_house_61 : decode cX10_house 61 = .ok (.aload_n 0, 1) := by decide +kernel
theorem dX10_house_62 : decode cX10_house 62 = .ok (.getfield 20, 3) := by decide +kernel
theorem dX10_house_65 : decode cX10_house 65 = .ok (.iload_n 1, 1) := by decide +kernel
theorem dX10_house_66 : decode cX10_house 66 = .ok (.iaload, 1) := by decide +kernel
theorem dX10_house_67 : decode cX10_house 67 = .ok (.goto 35, 3) := by decide +kernel
theorem dX10_house_70 : decode cX10_house 70 = .ok (.iload_n 2, 1) := by decide +kernel
theorem dX10_house_71 : decode cX10_house 71 = .ok (.iconst 3, 1) := by decide +kernel
theorem dX10_house_72 : decode cX10_house 72 = .ok (.if_icmp .ne 12, 3) := by decide +kernel
theorem dX10_house_75 : decode cX10_house 75 = .ok (.aload_n 0, 1) := by decide +kernel
theorem dX10_house_76 : decode cX10_house 76 = .ok (.getfield 23, 3) := by decide +kernel
theorem dX10_house_79 : decode cX10_house 79 = .ok (.iload_n 1, 1) := by decide +kernel
theorem dX10_house_80 : decode cX10_house 80 = .ok (.iaload, 1) := by decide +kernel
theorem dX10_house_81 : decode cX10_house 81 = .ok (.goto 21, 3) := by decide +kernel
theorem dX10_house_84 : decode cX10_house 84 = .ok (.aload_n 0, 1) := by decide +kernel
theorem dX10_house_85 : decode cX10_house 85 = .ok (.getfield 20, 3) := by decide +kernel
theorem dX10_house_88 : decode cX10_house 88 = .ok (.iload_n 1, 1) := by decide +kernel
theorem dX10_house_89 : decode cX10_house 89 = .ok (.iaload, 1) := by decide +kernel
theorem dX10_house_90 : decode cX10_house 90 = .ok (.ifCond .ne 7, 3) := by decide +kernel
theorem dX10_house_93 : decode cX10_house 93 = .ok (.iconst 0, 1) := by decide +kernel
theorem dX10_house_94 : decode cX10_house 94 = .ok (.goto 8, 3) := by decide +kernel
theorem dX10_house_97 : decode cX10_house 97 = .ok (.aload_n 0, 1) := by decide +kernel
theorem dX10_house_98 : decode cX10_house 98 = .ok (.iload_n 1, 1) := by decide +kernel
theorem dX10_house_99 : decode cX10_house 99 = .ok (.invokevirtual 376, 3) := by decide +kernel
theorem dX10_house_102 : decode cX10_house 102 = .ok (.ireturn, 1) := by decide +kernel
set_option maxHeartbeats 4000000 in
set_option maxRecDepth 100000 in
theorem n_X10_house (m : Nat) (y1 y2 : Int32) {n : Nat} {kd : mK} {I : mI} {J : mJ} {P : mP} (hM : kM kd P m) (hH : I m 1 = nI 0) : Ct yX10_house cX10_house 3 (some .int) 3 0 0 [.ref m, .int y1, .int y2] n kd I J P (am_is (some (.int (nI 0))) n kd (va_up I m (va_up (I m) 0 (nI 1))) J P) := by
  refine ct_of 0 (by decide +kernel) (Nat.le_of_ble_eq_true rfl) rfl ?_
  refine r_aload_n dX10_house_0 rfl ?_
  refine r_iconst (v := nI 0) dX10_house_1 (by decide) ?_
  refine r_putI dX10_house_2 fl_X10_193 rfl rfl (kM_0 hM) ?_
  refine r_aload_n dX10_house_5 rfl ?_
  refine r_iload_n dX10_house_6 rfl ?_
  have hc := c_X10_isHouse (n := n) (I := va_up I m (va_up (I m) 0 (nI 0))) (J := J) m y1 hM (by rw [am_up_s, am_up_s]; rfl)
  rw [show va_up I m (va_up (I m) 0 (nI 0)) m 1 = nI 0 by rw [am_up_s, am_up_n _ _ (by decide)]; exact hH, no_house] at hc
  refine r_virtE (hc) lk_X10_373 mc_X10_isHouse dX10_house_7 (kM_0 hM) (by decide) rfl rfl (Nat.le_of_ble_eq_true rfl) ?_
  refine r_if_eq (tgt := 27) dX10_house_10 (by decide) (fun _ => ?_) (fun hz => absurd (show _ from rfl) hz)
  refine r_iconst (v := nI 0) dX10_house_27 (by decide) ?_
  refine r_iret rfl dX10_house_28 ?_
  rw [show thM false (va_up I m (va_up (I m) 0 (nI 0))) m (nI 1) = va_up I m (va_up (I m) 0 (nI 1)) by show va_up (va_up I m _) m (va_up (va_up I m _ m) 0 (nI 1)) = _; rw [am_up_up, am_up_s, am_up_up]]
  exact am_is.mk

theorem dX9_become_0 : decode cX9_become 0 = .ok (.aload_n 0, 1) := by decide +kernel
theorem dX9_become_1 : decode cX9_become 1 = .ok (.iload_n 1, 1) := by decide +kernel
theorem dX9_become_2 : decode cX9_become 2 = .ok (.invokevirtual 142, 3) := by decide +kernel
theorem dX9_become_5 : decode cX9_become 5 = .ok (.aload_n 0, 1) := by decide +kernel
theorem dX9_become_6 : decode cX9_become 6 = .ok (.iload_n 2, 1) := by decide +kernel
theorem dX9_become_7 : decode cX9_become 7 = .ok (.iconst 2, 1) := by decide +kernel
theorem dX9_become_8 : decode cX9_become 8 = .ok (.invokevirtual 162, 3) := by decide +kernel
theorem dX9_become_11 : decode cX9_become 11 = .ok (.iload_n 3, 1) := by decide +kernel
theorem dX9_become_12 : decode cX9_become 12 = .ok (.ifCond .lt 9, 3) := by decide +kernel
theorem dX9_become_15 : decode cX9_become 15 = .ok (.iload_n 3, 1) := by decide +kernel
theorem dX9_become_16 : decode cX9_become 16 = .ok (.bipush 99, 2) := by decide +kernel
theorem dX9_become_18 : decode cX9_become 18 = .ok (.if_icmp .le 15, 3) := by decide +kernel
theorem dX9_become_21 : decode cX9_become 21 = .ok (.aload_n 0, 1) := by decide +kernel
theorem dX9_become_22 : decode cX9_become 22 = .ok (.getfield 20, 3) := by decide +kernel
theorem dX9_become_25 : decode cX9_become 25 = .ok (.iconst 1, 1) := by decide +kernel
theorem dX9_become_26 : decode cX9_become 26 = .ok (.dup2, 1) := by decide +kernel
theorem dX9_become_27 : decode cX9_become 27 = .ok (.iaload, 1) := by decide +kernel
theorem dX9_become_28 : decode cX9_become 28 = .ok (.iconst 1, 1) := by decide +kernel
theorem dX9_become_29 : decode cX9_become 29 = .ok (.iadd, 1) := by decide +kernel
theorem dX9_become_30 : decode cX9_become 30 = .ok (.iastore, 1) := by decide +kernel
theorem dX9_become_31 : decode cX9_become 31 = .ok (.iconst (-1), 1) := by decide +kernel
theorem dX9_become_32 : decode cX9_become 32 = .ok (.ireturn, 1) := by decide +kernel
theorem dX9_become_33 : decode cX9_become 33 = .ok (.aload_n 0, 1) := by decide +kernel
theorem dX9_become_34 : decode cX9_become 34 = .ok (.getfield 37, 3) := by decide +kernel
theorem dX9_become_37 : decode cX9_become 37 = .ok (.iload_n 2, 1) := by decide +kernel
theorem dX9_become_38 : decode cX9_become 38 = .ok (.iload_n 1, 1) := by decide +kernel
theorem dX9_become_39 : decode cX9_become 39 = .ok (.invokevirtual 166, 3) := by decide +kernel
theorem dX9_become_42 : decode cX9_become 42 = .ok (.istore 4, 2) := by decide +kernel
theorem dX9_become_44 : decode cX9_become 44 = .ok (.aload_n 0, 1) := by decide +kernel
theorem dX9_become_45 : decode cX9_become 45 = .ok (.getfield 37, 3) := by decide +kernel
theorem dX9_become_48 : decode cX9_become 48 = .ok (.iload_n 2, 1) := by decide +kernel
theorem dX9_become_49 : decode cX9_become 49 = .ok (.iload_n 1, 1) := by decide +kernel
theorem dX9_become_50 : decode cX9_become 50 = .ok (.iload_n 3, 1) := by decide +kernel
theorem dX9_become_51 : decode cX9_become 51 = .ok (.invokevirtual 170, 3) := by decide +kernel
theorem dX9_become_54 : decode cX9_become 54 = .ok (.aload_n 0, 1) := by decide +kernel
theorem dX9_become_55 : decode cX9_become 55 = .ok (.invokevirtual 174, 3) := by decide +kernel
theorem dX9_become_58 : decode cX9_become 58 = .ok (.iload 4, 2) := by decide +kernel
theorem dX9_become_60 : decode cX9_become 60 = .ok (.ireturn, 1) := by decide +kernel
set_option maxHeartbeats 4000000 in
set_option maxRecDepth 100000 in
theorem n_X9_become (o b : Nat) (y1 y2 y3 : Int32) {n : Nat} {kd : mK} {I : mI} {J : mJ} {P : mP} (ho : kd o = some (0, 9)) (hp : P o 4 = some b) (hb : kd b = some (0, 7)) (hH : I b 0 = nI 0) : Ct yX9_become cX9_become 5 (some .int) 9 1 6 [.ref o, .int y1, .int y2, .int y3] n kd I J P (fun z n' kd' I' J' P' => z = .inr "java/util/NoSuchElementException" ∧ n' = n ∧ kd' = kd ∧ I' = I ∧ J' = J ∧ P' = P) := by
  have hc := c_X9_mustBeHouse (n := n) (I := I) (J := J) o b y1 ho hp hb
  rw [hH, no_house] at hc
  refine ct_of 1 (by decide +kernel) (Nat.le_of_ble_eq_true rfl) rfl ?_
  refine r_aload_n dX9_become_0 rfl ?_
  refine r_iload_n dX9_become_1 rfl ?_
  exact r_virtX hc lk_X9_142 mc_X9_mustBeHouse dX9_become_2 ho (by decide) rfl rfl (Nat.le_of_ble_eq_true rfl) (by decide) (by decide) ⟨rfl, rfl, rfl, rfl, rfl, rfl⟩

theorem dX10_become_0 : decode cX10_become 0 = .ok (.aload_n 0, 1) := by decide +kernel
theorem dX10_become_1 : decode cX10_become 1 = .ok (.iconst 0, 1) := by decide +kernel
theorem dX10_become_2 : decode cX10_become 2 = .ok (.putfield 193, 3) := by decide +kernel
theorem dX10_become_5 : decode cX10_become 5 = .ok (.aload_n 0, 1) := by decide +kernel
theorem dX10_become_6 : decode cX10_become 6 = .ok (.iload_n 1, 1) := by decide +kernel
theorem dX10_become_7 : decode cX10_become 7 = .ok (.invokevirtual 373, 3) := by decide +kernel
theorem dX10_become_10 : decode cX10_become 10 = .ok (.ifCond .eq 11, 3) := by decide +kernel
theorem dX10_become_13 : decode cX10_become 13 = .ok (.aload_n 0, 1) := by decide +kernel
theorem dX10_become_14 : decode cX10_become 14 = .ok (.iload_n 2, 1) := by decide +kernel
theorem dX10_become_15 : decode cX10_become 15 = .ok (.invokevirtual 379, 3) := by decide +kernel
theorem dX10_become_18 : decode cX10_become 18 = .ok (.ifCond .ne 5, 3) := by decide +kernel
theorem dX10_become_21 : decode cX10_become 21 = .ok (.iconst 0, 1) := by decide +kernel
theorem dX10_become_22 : decode cX10_become 22 = .ok (.ireturn, 1) := by decide +kernel
theorem dX10_become_23 : decode cX10_become 23 = .ok (.iload_n 3, 1) := by decide +kernel
theorem dX10_become_24 : decode cX10_become 24 = .ok (.iconst 0, 1) := by decide +kernel
theorem dX10_become_25 : decode cX10_become 25 = .ok (.bipush 99, 2) := by decide +kernel
theorem dX10_become_27 : decode cX10_become 27 = .ok (.invokestatic 369, 3) := by decide +kernel
theorem dX10_become_30 : decode cX10_become 30 = .ok (.ifCond .ne 9, 3) := by decide +kernel
theorem dX10_become_33 : decode cX10_become 33 = .ok (.aload_n 0, 1) := by decide +kernel
theorem dX10_become_34 : decode cX10_become 34 = .ok (.iconst 1, 1) := by decide +kernel
theorem dX10_become_35 : decode cX10_become 35 = .ok (.invokevirtual 382, 3) := by decide +kernel
theorem dX10_become_38 : decode cX10_become 38 = .ok (.ireturn, 1) := by decide +kernel
theorem dX10_become_39 : decode cX10_become 39 = .ok (.aload_n 0, 1) := by decide +kernel
theorem dX10_become_40 : decode cX10_become 40 = .ok (.iload_n 1, 1) := by decide +kernel
theorem dX10_become_41 : decode cX10_become 41 = .ok (.iload_n 2, 1) := by decide +kernel
theorem dX10_become_42 : decode cX10_become 42 = .ok (.iload_n 3, 1) := by decide +kernel
theorem dX10_become_43 : decode cX10_become 43 = .ok (.invokevirtual 385, 3) := by decide +kernel
theorem dX10_become_46 : decode cX10_become 46 = .ok (.istore 4, 2) := by decide +kernel
theorem dX10_become_48 : decode cX10_become 48 = .ok (.aload_n 0, 1) := by decide +kernel
theorem dX10_become_49 : decode cX10_become 49 = .ok (.iload_n 1, 1) := by decide +kernel
theorem dX10_become_50 : decode cX10_become 50 = .ok (.iload_n 2, 1) := by decide +kernel
theorem dX10_become_51 : decode cX10_become 51 = .ok (.iload 4, 2) := by decide +kernel
theorem dX10_become_53 : decode cX10_become 53 = .ok (.invokevirtual 389, 3) := by decide +kernel
theorem dX10_become_56 : decode cX10_become 56 = .ok (.iload 4, 2) := by decide +kernel
theorem dX10_become_58 : decode cX10_become 58 = .ok (.ireturn, 1) := by decide +kernel
set_option maxHeartbeats 4000000 in
set_option maxRecDepth 100000 in
theorem n_X10_become (m : Nat) (y1 y2 y3 : Int32) {n : Nat} {kd : mK} {I : mI} {J : mJ} {P : mP} (hM : kM kd P m) (hH : I m 1 = nI 0) : Ct yX10_become cX10_become 5 (some .int) 3 0 0 [.ref m, .int y1, .int y2, .int y3] n kd I J P (am_is (some (.int (nI 0))) n kd (va_up I m (va_up (I m) 0 (nI 1))) J P) := by
  refine ct_of 1 (by decide +kernel) (Nat.le_of_ble_eq_true rfl) rfl ?_
  refine r_aload_n dX10_become_0 rfl ?_
  refine r_iconst (v := nI 0) dX10_become_1 (by decide) ?_
  refine r_putI dX10_become_2 fl_X10_193 rfl rfl (kM_0 hM) ?_
  refine r_aload_n dX10_become_5 rfl ?_
  refine r_iload_n dX10_become_6 rfl ?_
  have hc := c_X10_isHouse (n := n) (I := va_up I m (va_up (I m) 0 (nI 0))) (J := J) m y1 hM (by rw [am_up_s, am_up_s]; rfl)
  rw [show va_up I m (va_up (I m) 0 (nI 0)) m 1 = nI 0 by rw [am_up_s, am_up_n _ _ (by decide)]; exact hH, no_house] at hc
  refine r_virtE (hc) lk_X10_373 mc_X10_isHouse dX10_become_7 (kM_0 hM) (by decide) rfl rfl (Nat.le_of_ble_eq_true rfl) ?_
  refine r_if_eq (tgt := 21) dX10_become_10 (by decide) (fun _ => ?_) (fun hz => absurd (show _ from rfl) hz)
  refine r_iconst (v := nI 0) dX10_become_21 (by decide) ?_
  refine r_iret rfl dX10_become_22 ?_
  rw [show thM false (va_up I m (va_up (I m) 0 (nI 0))) m (nI 1) = va_up I m (va_up (I m) 0 (nI 1)) by show va_up (va_up I m _) m (va_up (va_up I m _ m) 0 (nI 1)) = _; rw [am_up_up, am_up_s, am_up_up]]
  exact am_is.mk

theorem dX9_mute_0 : decode cX9_mute 0 = .ok (.aload_n 0, 1) := by decide +kernel
theorem dX9_mute_1 : decode cX9_mute 1 = .ok (.iload_n 1, 1) := by decide +kernel
theorem dX9_mute_2 : decode cX9_mute 2 = .ok (.invokevirtual 142, 3) := by decide +kernel
theorem dX9_mute_5 : decode cX9_mute 5 = .ok (.iload_n 2, 1) := by decide +kernel
theorem dX9_mute_6 : decode cX9_mute 6 = .ok (.ifCond .eq 7, 3) := by decide +kernel
theorem dX9_mute_9 : decode cX9_mute 9 = .ok (.iconst 1, 1) := by decide +kernel
theorem dX9_mute_10 : decode cX9_mute 10 = .ok (.goto 4, 3) := by decide +kernel
theorem dX9_mute_13 : decode cX9_mute 13 = .ok (.iconst 0, 1) := by decide +kernel
theorem dX9_mute_14 : decode cX9_mute 14 = .ok (.istore_n 3, 1) := by decide +kernel
theorem dX9_mute_15 : decode cX9_mute 15 = .ok (.aload_n 0, 1) := by decide +kernel
theorem dX9_mute_16 : decode cX9_mute 16 = .ok (.getfield 27, 3) := by decide +kernel
theorem dX9_mute_19 : decode cX9_mute 19 = .ok (.iload_n 1, 1) := by decide +kernel
theorem dX9_mute_20 : decode cX9_mute 20 = .ok (.invokevirtual 151, 3) := by decide +kernel
theorem dX9_mute_23 : decode cX9_mute 23 = .ok (.ifCond .eq 16, 3) := by decide +kernel
theorem dX9_mute_26 : decode cX9_mute 26 = .ok (.aload_n 0, 1) := by decide +kernel
theorem dX9_mute_27 : decode cX9_mute 27 = .ok (.getfield 37, 3) := by decide +kernel
theorem dX9_mute_30 : decode cX9_mute 30 = .ok (.iconst 2, 1) := by decide +kernel
theorem dX9_mute_31 : decode cX9_mute 31 = .ok (.iload_n 1, 1) := by decide +kernel
theorem dX9_mute_32 : decode cX9_mute 32 = .ok (.invokevirtual 166, 3) := by decide +kernel
theorem dX9_mute_35 : decode cX9_mute 35 = .ok (.iload_n 3, 1) := by decide +kernel
theorem dX9_mute_36 : decode cX9_mute 36 = .ok (.if_icmp .ne 15, 3) := by decide +kernel
theorem dX9_mute_39 : decode cX9_mute 39 = .ok (.aload_n 0, 1) := by decide +kernel
theorem dX9_mute_40 : decode cX9_mute 40 = .ok (.getfield 20, 3) := by decide +kernel
theorem dX9_mute_43 : decode cX9_mute 43 = .ok (.iconst 1, 1) := by decide +kernel
theorem dX9_mute_44 : decode cX9_mute 44 = .ok (.dup2, 1) := by decide +kernel
theorem dX9_mute_45 : decode cX9_mute 45 = .ok (.iaload, 1) := by decide +kernel
theorem dX9_mute_46 : decode cX9_mute 46 = .ok (.iconst 1, 1) := by decide +kernel
theorem dX9_mute_47 : decode cX9_mute 47 = .ok (.iadd, 1) := by decide +kernel
theorem dX9_mute_48 : decode cX9_mute 48 = .ok (.iastore, 1) := by decide +kernel
theorem dX9_mute_49 : decode cX9_mute 49 = .ok (.iconst 0, 1) := by decide +kernel
theorem dX9_mute_50 : decode cX9_mute 50 = .ok (.ireturn, 1) := by decide +kernel
theorem dX9_mute_51 : decode cX9_mute 51 = .ok (.aload_n 0, 1) := by decide +kernel
theorem dX9_mute_52 : decode cX9_mute 52 = .ok (.getfield 37, 3) := by decide +kernel
theorem dX9_mute_55 : decode cX9_mute 55 = .ok (.iconst 2, 1) := by decide +kernel
theorem dX9_mute_56 : decode cX9_mute 56 = .ok (.iload_n 1, 1) := by decide +kernel
theorem dX9_mute_57 : decode cX9_mute 57 = .ok (.iload_n 3, 1) := by decide +kernel
theorem dX9_mute_58 : decode cX9_mute 58 = .ok (.invokevirtual 170, 3) := by decide +kernel
theorem dX9_mute_61 : decode cX9_mute 61 = .ok (.aload_n 0, 1) := by decide +kernel
theorem dX9_mute_62 : decode cX9_mute 62 = .ok (.invokevirtual 174, 3) := by decide +kernel
theorem dX9_mute_65 : decode cX9_mute 65 = .ok (.iconst 1, 1) := by decide +kernel
theorem dX9_mute_66 : decode cX9_mute 66 = .ok (.ireturn, 1) := by decide +kernel
set_option maxHeartbeats 4000000 in
set_option maxRecDepth 100000 in
theorem n_X9_mute (o b : Nat) (y1 y2 : Int32) {n : Nat} {kd : mK} {I : mI} {J : mJ} {P : mP} (ho : kd o = some (0, 9)) (hp : P o 4 = some b) (hb : kd b = some (0, 7)) (hH : I b 0 = nI 0) : Ct yX9_mute cX9_mute 4 (some .boolean) 9 1 6 [.ref o, .int y1, .int y2] n kd I J P (fun z n' kd' I' J' P' => z = .inr "java/util/NoSuchElementException" ∧ n' = n ∧ kd' = kd ∧ I' = I ∧ J' = J ∧ P' = P) := by
  have hc := c_X9_mustBeHouse (n := n) (I := I) (J := J) o b y1 ho hp hb
  rw [hH, no_house] at hc
  refine ct_of 1 (by decide +kernel) (Nat.le_of_ble_eq_true rfl) rfl ?_
  refine r_aload_n dX9_mute_0 rfl ?_
  refine r_iload_n dX9_mute_1 rfl ?_
  exact r_virtX hc lk_X9_142 mc_X9_mustBeHouse dX9_mute_2 ho (by decide) rfl rfl (Nat.le_of_ble_eq_true rfl) (by decide) (by decide) ⟨rfl, rfl, rfl, rfl, rfl, rfl⟩

theorem dX10_mute_0 : decode cX10_mute 0 = .ok (.aload_n 0, 1) := by decide +kernel
theorem dX10_mute_1 : decode cX10_mute 1 = .ok (.iconst 0, 1) := by decide +kernel
theorem dX10_mute_2 : decode cX10_mute 2 = .ok (.putfield 193, 3) := by decide +kernel
theorem dX10_mute_5 : decode cX10_mute 5 = .ok (.aload_n 0, 1) := by decide +kernel
theorem dX10_mute_6 : decode cX10_mute 6 = .ok (.iload_n 1, 1) := by decide +kernel
theorem dX10_mute_7 : decode cX10_mute 7 = .ok (.invokevirtual 373, 3) := by decide +kernel
theorem dX10_mute_10 : decode cX10_mute 10 = .ok (.ifCond .ne 5, 3) := by decide +kernel
theorem dX10_mute_13 : decode cX10_mute 13 = .ok (.iconst 0, 1) := by decide +kernel
theorem dX10_mute_14 : decode cX10_mute 14 = .ok (.ireturn, 1) := by decide +kernel
theorem dX10_mute_15 : decode cX10_mute 15 = .ok (.aload_n 0, 1) := by decide +kernel
theorem dX10_mute_16 : decode cX10_mute 16 = .ok (.getfield 20, 3) := by decide +kernel
theorem dX10_mute_19 : decode cX10_mute 19 = .ok (.iload_n 1, 1) := by decide +kernel
theorem dX10_mute_20 : decode cX10_mute 20 = .ok (.iaload, 1) := by decide +kernel
theorem dX10_mute_21 : decode cX10_mute 21 = .ok (.ifCond .eq 22, 3) := by decide +kernel
theorem dX10_mute_24 : decode cX10_mute 24 = .ok (.aload_n 0, 1) := by decide +kernel
theorem dX10_mute_25 : decode cX10_mute 25 = .ok (.getfield 23, 3) := by decide +kernel
theorem dX10_mute_28 : decode cX10_mute 28 = .ok (.iload_n 1, 1) := by decide +kernel
theorem dX10_mute_29 : decode cX10_mute 29 = .ok (.iaload, 1) := by decide +kernel
theorem dX10_mute_30 : decode cX10_mute 30 = .ok (.iconst 1, 1) := by decide +kernel
theorem dX10_mute_31 : decode cX10_mute 31 = .ok (.if_icmp .ne 7, 3) := by decide +kernel
theorem dX10_mute_34 : decode cX10_mute 34 = .ok (.iconst 1, 1) := by decide +kernel
theorem dX10_mute_35 : decode cX10_mute 35 = .ok (.goto 4, 3) := by decide +kernel
theorem dX10_mute_38 : decode cX10_mute 38 = .ok (.iconst 0, 1) := by decide +kernel
theorem dX10_mute_39 : decode cX10_mute 39 = .ok (.iload_n 2, 1) := by decide +kernel
theorem dX10_mute_40 : decode cX10_mute 40 = .ok (.if_icmp .ne 17, 3) := by decide +kernel
theorem dX10_mute_43 : decode cX10_mute 43 = .ok (.aload_n 0, 1) := by decide +kernel
theorem dX10_mute_44 : decode cX10_mute 44 = .ok (.iconst 1, 1) := by decide +kernel
theorem dX10_mute_45 : decode cX10_mute 45 = .ok (.invokevirtual 382, 3) := by decide +kernel
theorem dX10_mute_48 : decode cX10_mute 48 = .ok (.ifCond .le 7, 3) := by decide +kernel
theorem dX10_mute_51 : decode cX10_mute 51 = .ok (.iconst 1, 1) := by decide +kernel
theorem dX10_mute_52 : decode cX10_mute 52 = .ok (.goto 4, 3) := by decide +kernel
theorem dX10_mute_55 : decode cX10_mute 55 = .ok (.iconst 0, 1) := by decide +kernel
theorem dX10_mute_56 : decode cX10_mute 56 = .ok (.ireturn, 1) := by decide +kernel
theorem dX10_mute_57 : decode cX10_mute 57 = .ok (.aload_n 0, 1) := by decide +kernel
theorem dX10_mute_58 : decode cX10_mute 58 = .ok (.iload_n 1, 1) := by decide +kernel
theorem dX10_mute_59 : decode cX10_mute 59 = .ok (.iconst 2, 1) := by decide +kernel
theorem dX10_mute_60 : decode cX10_mute 60 = .ok (.aload_n 0, 1) := by decide +kernel
theorem dX10_mute_61 : decode cX10_mute 61 = .ok (.getfield 23, 3) := by decide +kernel
theorem dX10_mute_64 : decode cX10_mute 64 = .ok (.iload_n 1, 1) := by decide +kernel
theorem dX10_mute_65 : decode cX10_mute 65 = .ok (.iaload, 1) := by decide +kernel
theorem dX10_mute_66 : decode cX10_mute 66 = .ok (.invokevirtual 389, 3) := by decide +kernel
theorem dX10_mute_69 : decode cX10_mute 69 = .ok (.aload_n 0, 1) := by decide +kernel
theorem dX10_mute_70 : decode cX10_mute 70 = .ok (.getfield 23, 3) := by decide +kernel
theorem dX10_mute_73 : decode cX10_mute 73 = .ok (.iload_n 1, 1) := by decide +kernel
theorem dX10_mute_74 : decode cX10_mute 74 = .ok (.iload_n 2, 1) := by decide +kernel
theorem dX10_mute_75 : decode cX10_mute 75 = .ok (.ifCond .eq 7, 3) := by decide +kernel
theorem dX10_mute_78 : decode cX10_mute 78 = .ok (.iconst 1, 1) := by decide +kernel
theorem dX10_mute_79 : decode cX10_mute 79 = .ok (.goto 4, 3) := by decide +kernel
theorem dX10_mute_82 : decode cX10_mute 82 = .ok (.iconst 0, 1) := by decide +kernel
theorem dX10_mute_83 : decode cX10_mute 83 = .ok (.iastore, 1) := by decide +kernel
theorem dX10_mute_84 : decode cX10_mute 84 = .ok (.iconst 1, 1) := by decide +kernel
theorem dX10_mute_85 : decode cX10_mute 85 = .ok (.ireturn, 1) := by decide +kernel
set_option maxHeartbeats 4000000 in
set_option maxRecDepth 100000 in
theorem n_X10_mute (m : Nat) (y1 y2 : Int32) {n : Nat} {kd : mK} {I : mI} {J : mJ} {P : mP} (hM : kM kd P m) (hH : I m 1 = nI 0) : Ct yX10_mute cX10_mute 3 (some .boolean) 3 0 0 [.ref m, .int y1, .int y2] n kd I J P (am_is (some (.int (nI 0))) n kd (va_up I m (va_up (I m) 0 (nI 1))) J P) := by
  refine ct_of 0 (by decide +kernel) (Nat.le_of_ble_eq_true rfl) rfl ?_
  refine r_aload_n dX10_mute_0 rfl ?_
  refine r_iconst (v := nI 0) dX10_mute_1 (by decide) ?_
  refine r_putI dX10_mute_2 fl_X10_193 rfl rfl (kM_0 hM) ?_
  refine r_aload_n dX10_mute_5 rfl ?_
  refine r_iload_n dX10_mute_6 rfl ?_
  have hc := c_X10_isHouse (n := n) (I := va_up I m (va_up (I m) 0 (nI 0))) (J := J) m y1 hM (by rw [am_up_s, am_up_s]; rfl)
  rw [show va_up I m (va_up (I m) 0 (nI 0)) m 1 = nI 0 by rw [am_up_s, am_up_n _ _ (by decide)]; exact hH, no_house] at hc
  refine r_virtE (hc) lk_X10_373 mc_X10_isHouse dX10_mute_7 (kM_0 hM) (by decide) rfl rfl (Nat.le_of_ble_eq_true rfl) ?_
  refine r_if_ne (tgt := 15) dX10_mute_10 (by decide) (fun hz => absurd (show _ from rfl) hz) (fun _ => ?_)
  refine r_iconst (v := nI 0) dX10_mute_13 (by decide) ?_
  refine r_zret rfl dX10_mute_14 (by first | exact Or.inl rfl | exact Or.inr rfl | assumption) ?_
  rw [show thM false (va_up I m (va_up (I m) 0 (nI 0))) m (nI 1) = va_up I m (va_up (I m) 0 (nI 1)) by show va_up (va_up I m _) m (va_up (va_up I m _ m) 0 (nI 1)) = _; rw [am_up_up, am_up_s, am_up_up]]
  exact am_is.mk

theorem dX9_letter_0 : decode cX9_letter 0 = .ok (.aload_n 0, 1) := by decide +kernel
theorem dX9_letter_1 : decode cX9_letter 1 = .ok (.iload_n 1, 1) := by decide +kernel
theorem dX9_letter_2 : decode cX9_letter 2 = .ok (.invokevirtual 142, 3) := by decide +kernel
theorem dX9_letter_5 : decode cX9_letter 5 = .ok (.iload_n 2, 1) := by decide +kernel
theorem dX9_letter_6 : decode cX9_letter 6 = .ok (.iconst 1, 1) := by decide +kernel
theorem dX9_letter_7 : decode cX9_letter 7 = .ok (.if_icmp .lt 26, 3) := by decide +kernel
theorem dX9_letter_10 : decode cX9_letter 10 = .ok (.iload_n 2, 1) := by decide +kernel
theorem dX9_letter_11 : decode cX9_letter 11 = .ok (.aload_n 0, 1) := by decide +kernel
theorem dX9_letter_12 : decode cX9_letter 12 = .ok (.getfield 27, 3) := by decide +kernel
theorem dX9_letter_15 : decode cX9_letter 15 = .ok (.getfield 127, 3) := by decide +kernel
theorem dX9_letter_18 : decode cX9_letter 18 = .ok (.if_icmp .gt 15, 3) := by decide +kernel
theorem dX9_letter_21 : decode cX9_letter 21 = .ok (.aload_n 0, 1) := by decide +kernel
theorem dX9_letter_22 : decode cX9_letter 22 = .ok (.getfield 37, 3) := by decide +kernel
theorem dX9_letter_25 : decode cX9_letter 25 = .ok (.getfield 136, 3) := by decide +kernel
theorem dX9_letter_28 : decode cX9_letter 28 = .ok (.bipush 10, 2) := by decide +kernel
theorem dX9_letter_30 : decode cX9_letter 30 = .ok (.if_icmp .lt 15, 3) := by decide +kernel
theorem dX9_letter_33 : decode cX9_letter 33 = .ok (.aload_n 0, 1) := by decide +kernel
theorem dX9_letter_34 : decode cX9_letter 34 = .ok (.getfield 20, 3) := by decide +kernel
theorem dX9_letter_37 : decode cX9_letter 37 = .ok (.iconst 2, 1) := by decide +kernel
theorem dX9_letter_38 : decode cX9_letter 38 = .ok (.dup2, 1) := by decide +kernel
theorem dX9_letter_39 : decode cX9_letter 39 = .ok (.iaload, 1) := by decide +kernel
theorem dX9_letter_40 : decode cX9_letter 40 = .ok (.iconst 1, 1) := by decide +kernel
theorem dX9_letter_41 : decode cX9_letter 41 = .ok (.iadd, 1) := by decide +kernel
theorem dX9_letter_42 : decode cX9_letter 42 = .ok (.iastore, 1) := by decide +kernel
theorem dX9_letter_43 : decode cX9_letter 43 = .ok (.iconst (-1), 1) := by decide +kernel
theorem dX9_letter_44 : decode cX9_letter 44 = .ok (.ireturn, 1) := by decide +kernel
theorem dX9_letter_45 : decode cX9_letter 45 = .ok (.aload_n 0, 1) := by decide +kernel
theorem dX9_letter_46 : decode cX9_letter 46 = .ok (.getfield 37, 3) := by decide +kernel
theorem dX9_letter_49 : decode cX9_letter 49 = .ok (.iload_n 1, 1) := by decide +kernel
theorem dX9_letter_50 : decode cX9_letter 50 = .ok (.iload_n 2, 1) := by decide +kernel
theorem dX9_letter_51 : decode cX9_letter 51 = .ok (.invokevirtual 180, 3) := by decide +kernel
theorem dX9_letter_54 : decode cX9_letter 54 = .ok (.aload_n 0, 1) := by decide +kernel
theorem dX9_letter_55 : decode cX9_letter 55 = .ok (.invokevirtual 174, 3) := by decide +kernel
theorem dX9_letter_58 : decode cX9_letter 58 = .ok (.aload_n 0, 1) := by decide +kernel
theorem dX9_letter_59 : decode cX9_letter 59 = .ok (.getfield 37, 3) := by decide +kernel
theorem dX9_letter_62 : decode cX9_letter 62 = .ok (.getfield 136, 3) := by decide +kernel
theorem dX9_letter_65 : decode cX9_letter 65 = .ok (.ireturn, 1) := by decide +kernel
set_option maxHeartbeats 4000000 in
set_option maxRecDepth 100000 in
theorem n_X9_letter (o b : Nat) (y1 y2 : Int32) {n : Nat} {kd : mK} {I : mI} {J : mJ} {P : mP} (ho : kd o = some (0, 9)) (hp : P o 4 = some b) (hb : kd b = some (0, 7)) (hH : I b 0 = nI 0) : Ct yX9_letter cX9_letter 3 (some .int) 9 1 6 [.ref o, .int y1, .int y2] n kd I J P (fun z n' kd' I' J' P' => z = .inr "java/util/NoSuchElementException" ∧ n' = n ∧ kd' = kd ∧ I' = I ∧ J' = J ∧ P' = P) := by
  have hc := c_X9_mustBeHouse (n := n) (I := I) (J := J) o b y1 ho hp hb
  rw [hH, no_house] at hc
  refine ct_of 0 (by decide +kernel) (Nat.le_of_ble_eq_true rfl) rfl ?_
  refine r_aload_n dX9_letter_0 rfl ?_
  refine r_iload_n dX9_letter_1 rfl ?_
  exact r_virtX hc lk_X9_142 mc_X9_mustBeHouse dX9_letter_2 ho (by decide) rfl rfl (Nat.le_of_ble_eq_true rfl) (by decide) (by decide) ⟨rfl, rfl, rfl, rfl, rfl, rfl⟩

theorem dX10_letter_0 : decode cX10_letter 0 = .ok (.aload_n 0, 1) := by decide +kernel
theorem dX10_letter_1 : decode cX10_letter 1 = .ok (.iconst 0, 1) := by decide +kernel
theorem dX10_letter_2 : decode cX10_letter 2 = .ok (.putfield 193, 3) := by decide +kernel
theorem dX10_letter_5 : decode cX10_letter 5 = .ok (.aload_n 0, 1) := by decide +kernel
theorem dX10_letter_6 : decode cX10_letter 6 = .ok (.iload_n 1, 1) := by decide +kernel
theorem dX10_letter_7 : decode cX10_letter 7 = .ok (.invokevirtual 373, 3) := by decide +kernel
theorem dX10_letter_10 : decode cX10_letter 10 = .ok (.ifCond .ne 5, 3) := by decide +kernel
theorem dX10_letter_13 : decode cX10_letter 13 = .ok (.iconst 0, 1) := by decide +kernel
theorem dX10_letter_14 : decode cX10_letter 14 = .ok (.ireturn, 1) := by decide +kernel
theorem dX10_letter_15 : decode cX10_letter 15 = .ok (.aload_n 0, 1) := by decide +kernel
theorem dX10_letter_16 : decode cX10_letter 16 = .ok (.getfield 363, 3) := by decide +kernel
theorem dX10_letter_19 : decode cX10_letter 19 = .ok (.bipush 10, 2) := by decide +kernel
theorem dX10_letter_21 : decode cX10_letter 21 = .ok (.if_icmp .eq 15, 3) := by decide +kernel
theorem dX10_letter_24 : decode cX10_letter 24 = .ok (.iload_n 2, 1) := by decide +kernel
theorem dX10_letter_25 : decode cX10_letter 25 = .ok (.iconst 1, 1) := by decide +kernel
theorem dX10_letter_26 : decode cX10_letter 26 = .ok (.aload_n 0, 1) := by decide +kernel
theorem dX10_letter_27 : decode cX10_letter 27 = .ok (.getfield 7, 3) := by decide +kernel
theorem dX10_letter_30 : decode cX10_letter 30 = .ok (.invokestatic 369, 3) := by decide +kernel
theorem dX10_letter_33 : decode cX10_letter 33 = .ok (.ifCond .ne 9, 3) := by decide +kernel
theorem dX10_letter_36 : decode cX10_letter 36 = .ok (.aload_n 0, 1) := by decide +kernel
theorem dX10_letter_37 : decode cX10_letter 37 = .ok (.iconst 2, 1) := by decide +kernel
theorem dX10_letter_38 : decode cX10_letter 38 = .ok (.invokevirtual 382, 3) := by decide +kernel
theorem dX10_letter_41 : decode cX10_letter 41 = .ok (.ireturn, 1) := by decide +kernel
theorem dX10_letter_42 : decode cX10_letter 42 = .ok (.aload_n 0, 1) := by decide +kernel
theorem dX10_letter_43 : decode cX10_letter 43 = .ok (.getfield 87, 3) := by decide +kernel
theorem dX10_letter_46 : decode cX10_letter 46 = .ok (.iconst 2, 1) := by decide +kernel
theorem dX10_letter_47 : decode cX10_letter 47 = .ok (.aload_n 0, 1) := by decide +kernel
theorem dX10_letter_48 : decode cX10_letter 48 = .ok (.getfield 363, 3) := by decide +kernel
theorem dX10_letter_51 : decode cX10_letter 51 = .ok (.imul, 1) := by decide +kernel
theorem dX10_letter_52 : decode cX10_letter 52 = .ok (.iload_n 1, 1) := by decide +kernel
theorem dX10_letter_53 : decode cX10_letter 53 = .ok (.iastore, 1) := by decide +kernel
theorem dX10_letter_54 : decode cX10_letter 54 = .ok (.aload_n 0, 1) := by decide +kernel
theorem dX10_letter_55 : decode cX10_letter 55 = .ok (.getfield 87, 3) := by decide +kernel
theorem dX10_letter_58 : decode cX10_letter 58 = .ok (.iconst 2, 1) := by decide +kernel
theorem dX10_letter_59 : decode cX10_letter 59 = .ok (.aload_n 0, 1) := by decide +kernel
theorem dX10_letter_60 : decode cX10_letter 60 = .ok (.getfield 363, 3) := by decide +kernel
theorem dX10_letter_63 : decode cX10_letter 63 = .ok (.imul, 1) := by decide +kernel
theorem dX10_letter_64 : decode cX10_letter 64 = .ok (.iconst 1, 1) := by decide +kernel
theorem dX10_letter_65 : decode cX10_letter 65 = .ok (.iadd, 1) := by decide +kernel
theorem dX10_letter_66 : decode cX10_letter 66 = .ok (.iload_n 2, 1) := by decide +kernel
theorem dX10_letter_67 : decode cX10_letter 67 = .ok (.iastore, 1) := by decide +kernel
theorem dX10_letter_68 : decode cX10_letter 68 = .ok (.aload_n 0, 1) := by decide +kernel
theorem dX10_letter_69 : decode cX10_letter 69 = .ok (.dup, 1) := by decide +kernel
theorem dX10_letter_70 : decode cX10_letter 70 = .ok (.getfield 363, 3) := by decide +kernel
theorem dX10_letter_73 : decode cX10_letter 73 = .ok (.iconst 1, 1) := by decide +kernel
theorem dX10_letter_74 : decode cX10_letter 74 = .ok (.iadd, 1) := by decide +kernel
theorem dX10_letter_75 : decode cX10_letter 75 = .ok (.putfield 363, 3) := by decide +kernel
theorem dX10_letter_78 : decode cX10_letter 78 = .ok (.aload_n 0, 1) := by decide +kernel
theorem dX10_letter_79 : decode cX10_letter 79 = .ok (.getfield 363, 3) := by decide +kernel
theorem dX10_letter_82 : decode cX10_letter 82 = .ok (.ireturn, 1) := by decide +kernel
set_option maxHeartbeats 4000000 in
set_option maxRecDepth 100000 in
theorem n_X10_letter (m : Nat) (y1 y2 : Int32) {n : Nat} {kd : mK} {I : mI} {J : mJ} {P : mP} (hM : kM kd P m) (hH : I m 1 = nI 0) : Ct yX10_letter cX10_letter 3 (some .int) 3 0 0 [.ref m, .int y1, .int y2] n kd I J P (am_is (some (.int (nI 0))) n kd (va_up I m (va_up (I m) 0 (nI 1))) J P) := by
  refine ct_of 0 (by decide +kernel) (Nat.le_of_ble_eq_true rfl) rfl ?_
  refine r_aload_n dX10_letter_0 rfl ?_
  refine r_iconst (v := nI 0) dX10_letter_1 (by decide) ?_
  refine r_putI dX10_letter_2 fl_X10_193 rfl rfl (kM_0 hM) ?_
  refine r_aload_n dX10_letter_5 rfl ?_
  refine r_iload_n dX10_letter_6 rfl ?_
  have hc := c_X10_isHouse (n := n) (I := va_up I m (va_up (I m) 0 (nI 0))) (J := J) m y1 hM (by rw [am_up_s, am_up_s]; rfl)
  rw [show va_up I m (va_up (I m) 0 (nI 0)) m 1 = nI 0 by rw [am_up_s, am_up_n _ _ (by decide)]; exact hH, no_house] at hc
  refine r_virtE (hc) lk_X10_373 mc_X10_isHouse dX10_letter_7 (kM_0 hM) (by decide) rfl rfl (Nat.le_of_ble_eq_true rfl) ?_
  refine r_if_ne (tgt := 15) dX10_letter_10 (by decide) (fun hz => absurd (show _ from rfl) hz) (fun _ => ?_)
  refine r_iconst (v := nI 0) dX10_letter_13 (by decide) ?_
  refine r_iret rfl dX10_letter_14 ?_
  rw [show thM false (va_up I m (va_up (I m) 0 (nI 0))) m (nI 1) = va_up I m (va_up (I m) 0 (nI 1)) by show va_up (va_up I m _) m (va_up (va_up I m _ m) 0 (nI 1)) = _; rw [am_up_up, am_up_s, am_up_up]]
  exact am_is.mk

theorem dX9_number_0 : decode cX9_number 0 = .ok (.aload_n 0, 1) := by decide +kernel
theorem dX9_number_1 : decode cX9_number 1 = .ok (.iload_n 2, 1) := by decide +kernel
theorem dX9_number_2 : decode cX9_number 2 = .ok (.invokevirtual 142, 3) := by decide +kernel
theorem dX9_number_5 : decode cX9_number 5 = .ok (.aload_n 0, 1) := by decide +kernel
theorem dX9_number_6 : decode cX9_number 6 = .ok (.invokevirtual 183, 3) := by decide +kernel
theorem dX9_number_9 : decode cX9_number 9 = .ok (.iload_n 1, 1) := by decide +kernel
theorem dX9_number_10 : decode cX9_number 10 = .ok (.ifCond .lt 14, 3) := by decide +kernel
theorem dX9_number_13 : decode cX9_number 13 = .ok (.iload_n 1, 1) := by decide +kernel
theorem dX9_number_14 : decode cX9_number 14 = .ok (.aload_n 0, 1) := by decide +kernel
theorem dX9_number_15 : decode cX9_number 15 = .ok (.getfield 54, 3) := by decide +kernel
theorem dX9_number_18 : decode cX9_number 18 = .ok (.getfield 186, 3) := by decide +kernel
theorem dX9_number_21 : decode cX9_number 21 = .ok (.if_icmp .lt 11, 3) := by decide +kernel
theorem dX9_number_24 : decode cX9_number 24 = .ok (.new 139, 3) := by decide +kernel
theorem dX9_number_27 : decode cX9_number 27 = .ok (.dup, 1) := by decide +kernel
theorem dX9_number_28 : decode cX9_number 28 = .ok (.invokespecial 141, 3) := by decide +kernel
theorem dX9_number_31 : decode cX9_number 31 = .ok (.athrow, 1) := by decide +kernel
theorem dX9_number_32 : decode cX9_number 32 = .ok (.aload_n 0, 1) := by decide +kernel
theorem dX9_number_33 : decode cX9_number 33 = .ok (.getfield 54, 3) := by decide +kernel
theorem dX9_number_36 : decode cX9_number 36 = .ok (.iload_n 1, 1) := by decide +kernel
theorem dX9_number_37 : decode cX9_number 37 = .ok (.iload_n 2, 1) := by decide +kernel
theorem dX9_number_38 : decode cX9_number 38 = .ok (.invokevirtual 192, 3) := by decide +kernel
theorem dX9_number_41 : decode cX9_number 41 = .ok (.ireturn, 1) := by decide +kernel
set_option maxHeartbeats 4000000 in
set_option maxRecDepth 100000 in
theorem n_X9_number (o b : Nat) (y1 y2 : Int32) {n : Nat} {kd : mK} {I : mI} {J : mJ} {P : mP} (ho : kd o = some (0, 9)) (hp : P o 4 = some b) (hb : kd b = some (0, 7)) (hH : I b 0 = nI 0) : Ct yX9_number cX9_number 3 (some .int) 9 1 6 [.ref o, .int y1, .int y2] n kd I J P (fun z n' kd' I' J' P' => z = .inr "java/util/NoSuchElementException" ∧ n' = n ∧ kd' = kd ∧ I' = I ∧ J' = J ∧ P' = P) := by
  have hc := c_X9_mustBeHouse (n := n) (I := I) (J := J) o b y2 ho hp hb
  rw [hH, no_house] at hc
  refine ct_of 0 (by decide +kernel) (Nat.le_of_ble_eq_true rfl) rfl ?_
  refine r_aload_n dX9_number_0 rfl ?_
  refine r_iload_n dX9_number_1 rfl ?_
  exact r_virtX hc lk_X9_142 mc_X9_mustBeHouse dX9_number_2 ho (by decide) rfl rfl (Nat.le_of_ble_eq_true rfl) (by decide) (by decide) ⟨rfl, rfl, rfl, rfl, rfl, rfl⟩

theorem dX10_number_0 : decode cX10_number 0 = .ok (.aload_n 0, 1) := by decide +kernel
theorem dX10_number_1 : decode cX10_number 1 = .ok (.iconst 0, 1) := by decide +kernel
theorem dX10_number_2 : decode cX10_number 2 = .ok (.putfield 193, 3) := by decide +kernel
theorem dX10_number_5 : decode cX10_number 5 = .ok (.aload_n 0, 1) := by decide +kernel
theorem dX10_number_6 : decode cX10_number 6 = .ok (.iload_n 2, 1) := by decide +kernel
theorem dX10_number_7 : decode cX10_number 7 = .ok (.invokevirtual 373, 3) := by decide +kernel
theorem dX10_number_10 : decode cX10_number 10 = .ok (.ifCond .ne 5, 3) := by decide +kernel
theorem dX10_number_13 : decode cX10_number 13 = .ok (.iconst 0, 1) := by decide +kernel
theorem dX10_number_14 : decode cX10_number 14 = .ok (.ireturn, 1) := by decide +kernel
theorem dX10_number_15 : decode cX10_number 15 = .ok (.aload_n 0, 1) := by decide +kernel
theorem dX10_number_16 : decode cX10_number 16 = .ok (.invokevirtual 436, 3) := by decide +kernel
theorem dX10_number_19 : decode cX10_number 19 = .ok (.istore_n 3, 1) := by decide +kernel
theorem dX10_number_20 : decode cX10_number 20 = .ok (.aload_n 0, 1) := by decide +kernel
theorem dX10_number_21 : decode cX10_number 21 = .ok (.iload_n 3, 1) := by decide +kernel
theorem dX10_number_22 : decode cX10_number 22 = .ok (.ifCond .eq 19, 3) := by decide +kernel
theorem dX10_number_25 : decode cX10_number 25 = .ok (.iload_n 1, 1) := by decide +kernel
theorem dX10_number_26 : decode cX10_number 26 = .ok (.ifCond .lt 15, 3) := by decide +kernel
theorem dX10_number_29 : decode cX10_number 29 = .ok (.iload_n 1, 1) := by decide +kernel
theorem dX10_number_30 : decode cX10_number 30 = .ok (.aload_n 0, 1) := by decide +kernel
theorem dX10_number_31 : decode cX10_number 31 = .ok (.getfield 413, 3) := by decide +kernel
theorem dX10_number_34 : decode cX10_number 34 = .ok (.if_icmp .ge 7, 3) := by decide +kernel
theorem dX10_number_37 : decode cX10_number 37 = .ok (.iconst 1, 1) := by decide +kernel
theorem dX10_number_38 : decode cX10_number 38 = .ok (.goto 4, 3) := by decide +kernel
theorem dX10_number_41 : decode cX10_number 41 = .ok (.iconst 0, 1) := by decide +kernel
theorem dX10_number_42 : decode cX10_number 42 = .ok (.iconst 1, 1) := by decide +kernel
theorem dX10_number_43 : decode cX10_number 43 = .ok (.invokevirtual 343, 3) := by decide +kernel
theorem dX10_number_46 : decode cX10_number 46 = .ok (.ifCond .eq 12, 3) := by decide +kernel
theorem dX10_number_49 : decode cX10_number 49 = .ok (.aload_n 0, 1) := by decide +kernel
theorem dX10_number_50 : decode cX10_number 50 = .ok (.iload_n 1, 1) := by decide +kernel
theorem dX10_number_51 : decode cX10_number 51 = .ok (.iload_n 2, 1) := by decide +kernel
theorem dX10_number_52 : decode cX10_number 52 = .ok (.invokevirtual 439, 3) := by decide +kernel
theorem dX10_number_55 : decode cX10_number 55 = .ok (.goto 4, 3) := by decide +kernel
theorem dX10_number_58 : decode cX10_number 58 = .ok (.iconst 0, 1) := by decide +kernel
theorem dX10_number_59 : decode cX10_number 59 = .ok (.ireturn, 1) := by decide +kernel
set_option maxHeartbeats 4000000 in
set_option maxRecDepth 100000 in
theorem n_X10_number (m : Nat) (y1 y2 : Int32) {n : Nat} {kd : mK} {I : mI} {J : mJ} {P : mP} (hM : kM kd P m) (hH : I m 1 = nI 0) : Ct yX10_number cX10_number 4 (some .int) 3 0 0 [.ref m, .int y1, .int y2] n kd I J P (am_is (some (.int (nI 0))) n kd (va_up I m (va_up (I m) 0 (nI 1))) J P) := by
  refine ct_of 1 (by decide +kernel) (Nat.le_of_ble_eq_true rfl) rfl ?_
  refine r_aload_n dX10_number_0 rfl ?_
  refine r_iconst (v := nI 0) dX10_number_1 (by decide) ?_
  refine r_putI dX10_number_2 fl_X10_193 rfl rfl (kM_0 hM) ?_
  refine r_aload_n dX10_number_5 rfl ?_
  refine r_iload_n dX10_number_6 rfl ?_
  have hc := c_X10_isHouse (n := n) (I := va_up I m (va_up (I m) 0 (nI 0))) (J := J) m y2 hM (by rw [am_up_s, am_up_s]; rfl)
  rw [show va_up I m (va_up (I m) 0 (nI 0)) m 1 = nI 0 by rw [am_up_s, am_up_n _ _ (by decide)]; exact hH, no_house] at hc
  refine r_virtE (hc) lk_X10_373 mc_X10_isHouse dX10_number_7 (kM_0 hM) (by decide) rfl rfl (Nat.le_of_ble_eq_true rfl) ?_
  refine r_if_ne (tgt := 15) dX10_number_10 (by decide) (fun hz => absurd (show _ from rfl) hz) (fun _ => ?_)
  refine r_iconst (v := nI 0) dX10_number_13 (by decide) ?_
  refine r_iret rfl dX10_number_14 ?_
  rw [show thM false (va_up I m (va_up (I m) 0 (nI 0))) m (nI 1) = va_up I m (va_up (I m) 0 (nI 1)) by show va_up (va_up I m _) m (va_up (va_up I m _ m) 0 (nI 1)) = _; rw [am_up_up, am_up_s, am_up_up]]
  exact am_is.mk

theorem dX9_may_0 : decode cX9_may 0 = .ok (.aload_n 0, 1) := by decide +kernel
theorem dX9_may_1 : decode cX9_may 1 = .ok (.iload_n 1, 1) := by decide +kernel
theorem dX9_may_2 : decode cX9_may 2 = .ok (.invokevirtual 142, 3) := by decide +kernel
theorem dX9_may_5 : decode cX9_may 5 = .ok (.aload_n 0, 1) := by decide +kernel
theorem dX9_may_6 : decode cX9_may 6 = .ok (.invokevirtual 183, 3) := by decide +kernel
theorem dX9_may_9 : decode cX9_may 9 = .ok (.aload_n 0, 1) := by decide +kernel
theorem dX9_may_10 : decode cX9_may 10 = .ok (.getfield 54, 3) := by decide +kernel
theorem dX9_may_13 : decode cX9_may 13 = .ok (.getfield 186, 3) := by decide +kernel
theorem dX9_may_16 : decode cX9_may 16 = .ok (.bipush (-2), 2) := by decide +kernel
theorem dX9_may_18 : decode cX9_may 18 = .ok (.if_icmp .ne 8, 3) := by decide +kernel
theorem dX9_may_21 : decode cX9_may 21 = .ok (.bipush (-2), 2) := by decide +kernel
theorem dX9_may_23 : decode cX9_may 23 = .ok (.goto 12, 3) := by decide +kernel
theorem dX9_may_26 : decode cX9_may 26 = .ok (.aload_n 0, 1) := by decide +kernel
theorem dX9_may_27 : decode cX9_may 27 = .ok (.getfield 54, 3) := by decide +kernel
theorem dX9_may_30 : decode cX9_may 30 = .ok (.getfield 195, 3) := by decide +kernel
theorem dX9_may_33 : decode cX9_may 33 = .ok (.iload_n 1, 1) := by decide +kernel
theorem dX9_may_34 : decode cX9_may 34 = .ok (.iaload, 1) := by decide +kernel
theorem dX9_may_35 : decode cX9_may 35 = .ok (.ireturn, 1) := by decide +kernel
set_option maxHeartbeats 4000000 in
set_option maxRecDepth 100000 in
theorem n_X9_may (o b : Nat) (y1 : Int32) {n : Nat} {kd : mK} {I : mI} {J : mJ} {P : mP} (ho : kd o = some (0, 9)) (hp : P o 4 = some b) (hb : kd b = some (0, 7)) (hH : I b 0 = nI 0) : Ct yX9_may cX9_may 2 (some .int) 9 1 6 [.ref o, .int y1] n kd I J P (fun z n' kd' I' J' P' => z = .inr "java/util/NoSuchElementException" ∧ n' = n ∧ kd' = kd ∧ I' = I ∧ J' = J ∧ P' = P) := by
  have hc := c_X9_mustBeHouse (n := n) (I := I) (J := J) o b y1 ho hp hb
  rw [hH, no_house] at hc
  refine ct_of 0 (by decide +kernel) (Nat.le_of_ble_eq_true rfl) rfl ?_
  refine r_aload_n dX9_may_0 rfl ?_
  refine r_iload_n dX9_may_1 rfl ?_
  exact r_virtX hc lk_X9_142 mc_X9_mustBeHouse dX9_may_2 ho (by decide) rfl rfl (Nat.le_of_ble_eq_true rfl) (by decide) (by decide) ⟨rfl, rfl, rfl, rfl, rfl, rfl⟩

theorem dX10_may_0 : decode cX10_may 0 = .ok (.aload_n 0, 1) := by decide +kernel
theorem dX10_may_1 : decode cX10_may 1 = .ok (.iconst 0, 1) := by decide +kernel
theorem dX10_may_2 : decode cX10_may 2 = .ok (.putfield 193, 3) := by decide +kernel
theorem dX10_may_5 : decode cX10_may 5 = .ok (.aload_n 0, 1) := by decide +kernel
theorem dX10_may_6 : decode cX10_may 6 = .ok (.iload_n 1, 1) := by decide +kernel
theorem dX10_may_7 : decode cX10_may 7 = .ok (.invokevirtual 373, 3) := by decide +kernel
theorem dX10_may_10 : decode cX10_may 10 = .ok (.ifCond .ne 5, 3) := by decide +kernel
theorem dX10_may_13 : decode cX10_may 13 = .ok (.iconst 0, 1) := by decide +kernel
theorem dX10_may_14 : decode cX10_may 14 = .ok (.ireturn, 1) := by decide +kernel
theorem dX10_may_15 : decode cX10_may 15 = .ok (.aload_n 0, 1) := by decide +kernel
theorem dX10_may_16 : decode cX10_may 16 = .ok (.invokevirtual 436, 3) := by decide +kernel
theorem dX10_may_19 : decode cX10_may 19 = .ok (.ifCond .eq 11, 3) := by decide +kernel
theorem dX10_may_22 : decode cX10_may 22 = .ok (.aload_n 0, 1) := by decide +kernel
theorem dX10_may_23 : decode cX10_may 23 = .ok (.iload_n 1, 1) := by decide +kernel
theorem dX10_may_24 : decode cX10_may 24 = .ok (.invokevirtual 442, 3) := by decide +kernel
theorem dX10_may_27 : decode cX10_may 27 = .ok (.goto 5, 3) := by decide +kernel
theorem dX10_may_30 : decode cX10_may 30 = .ok (.bipush (-2), 2) := by decide +kernel
theorem dX10_may_32 : decode cX10_may 32 = .ok (.ireturn, 1) := by decide +kernel
set_option maxHeartbeats 4000000 in
set_option maxRecDepth 100000 in
theorem n_X10_may (m : Nat) (y1 : Int32) {n : Nat} {kd : mK} {I : mI} {J : mJ} {P : mP} (hM : kM kd P m) (hH : I m 1 = nI 0) : Ct yX10_may cX10_may 2 (some .int) 3 0 0 [.ref m, .int y1] n kd I J P (am_is (some (.int (nI 0))) n kd (va_up I m (va_up (I m) 0 (nI 1))) J P) := by
  refine ct_of 0 (by decide +kernel) (Nat.le_of_ble_eq_true rfl) rfl ?_
  refine r_aload_n dX10_may_0 rfl ?_
  refine r_iconst (v := nI 0) dX10_may_1 (by decide) ?_
  refine r_putI dX10_may_2 fl_X10_193 rfl rfl (kM_0 hM) ?_
  refine r_aload_n dX10_may_5 rfl ?_
  refine r_iload_n dX10_may_6 rfl ?_
  have hc := c_X10_isHouse (n := n) (I := va_up I m (va_up (I m) 0 (nI 0))) (J := J) m y1 hM (by rw [am_up_s, am_up_s]; rfl)
  rw [show va_up I m (va_up (I m) 0 (nI 0)) m 1 = nI 0 by rw [am_up_s, am_up_n _ _ (by decide)]; exact hH, no_house] at hc
  refine r_virtE (hc) lk_X10_373 mc_X10_isHouse dX10_may_7 (kM_0 hM) (by decide) rfl rfl (Nat.le_of_ble_eq_true rfl) ?_
  refine r_if_ne (tgt := 15) dX10_may_10 (by decide) (fun hz => absurd (show _ from rfl) hz) (fun _ => ?_)
  refine r_iconst (v := nI 0) dX10_may_13 (by decide) ?_
  refine r_iret rfl dX10_may_14 ?_
  rw [show thM false (va_up I m (va_up (I m) 0 (nI 0))) m (nI 1) = va_up I m (va_up (I m) 0 (nI 1)) by show va_up (va_up I m _) m (va_up (va_up I m _ m) 0 (nI 1)) = _; rw [am_up_up, am_up_s, am_up_up]]
  exact am_is.mk

theorem dX9_holds_0 : decode cX9_holds 0 = .ok (.aload_n 0, 1) := by decide +kernel
theorem dX9_holds_1 : decode cX9_holds 1 = .ok (.iload_n 1, 1) := by decide +kernel
theorem dX9_holds_2 : decode cX9_holds 2 = .ok (.invokevirtual 142, 3) := by decide +kernel
theorem dX9_holds_5 : decode cX9_holds 5 = .ok (.lload_n 2, 1) := by decide +kernel
theorem dX9_holds_6 : decode cX9_holds 6 = .ok (.lconst 0, 1) := by decide +kernel
theorem dX9_holds_7 : decode cX9_holds 7 = .ok (.lcmp, 1) := by decide +kernel
theorem dX9_holds_8 : decode cX9_holds 8 = .ok (.ifCond .lt 21, 3) := by decide +kernel
theorem dX9_holds_11 : decode cX9_holds 11 = .ok (.aload_n 0, 1) := by decide +kernel
theorem dX9_holds_12 : decode cX9_holds 12 = .ok (.getfield 64, 3) := by decide +kernel
theorem dX9_holds_15 : decode cX9_holds 15 = .ok (.getfield 198, 3) := by decide +kernel
theorem dX9_holds_18 : decode cX9_holds 18 = .ok (.aload_n 0, 1) := by decide +kernel
theorem dX9_holds_19 : decode cX9_holds 19 = .ok (.getfield 27, 3) := by decide +kernel
theorem dX9_holds_22 : decode cX9_holds 22 = .ok (.lload_n 2, 1) := by decide +kernel
theorem dX9_holds_23 : decode cX9_holds 23 = .ok (.invokevirtual 200, 3) := by decide +kernel
theorem dX9_holds_26 : decode cX9_holds 26 = .ok (.ifCond .ne 11, 3) := by decide +kernel
theorem dX9_holds_29 : decode cX9_holds 29 = .ok (.new 110, 3) := by decide +kernel
theorem dX9_holds_32 : decode cX9_holds 32 = .ok (.dup, 1) := by decide +kernel
theorem dX9_holds_33 : decode cX9_holds 33 = .ok (.invokespecial 112, 3) := by decide +kernel
theorem dX9_holds_36 : decode cX9_holds 36 = .ok (.athrow, 1) := by decide +kernel
theorem dX9_holds_37 : decode cX9_holds 37 = .ok (.aload_n 0, 1) := by decide +kernel
theorem dX9_holds_38 : decode cX9_holds 38 = .ok (.getfield 27, 3) := by decide +kernel
theorem dX9_holds_41 : decode cX9_holds 41 = .ok (.iload_n 1, 1) := by decide +kernel
theorem dX9_holds_42 : decode cX9_holds 42 = .ok (.invokevirtual 151, 3) := by decide +kernel
theorem dX9_holds_45 : decode cX9_holds 45 = .ok (.ifCond .ne 5, 3) := by decide +kernel
theorem dX9_holds_48 : decode cX9_holds 48 = .ok (.iconst (-1), 1) := by decide +kernel
theorem dX9_holds_49 : decode cX9_holds 49 = .ok (.ireturn, 1) := by decide +kernel
theorem dX9_holds_50 : decode cX9_holds 50 = .ok (.aload_n 0, 1) := by decide +kernel
theorem dX9_holds_51 : decode cX9_holds 51 = .ok (.getfield 27, 3) := by decide +kernel
theorem dX9_holds_54 : decode cX9_holds 54 = .ok (.iload_n 1, 1) := by decide +kernel
theorem dX9_holds_55 : decode cX9_holds 55 = .ok (.aload_n 0, 1) := by decide +kernel
theorem dX9_holds_56 : decode cX9_holds 56 = .ok (.getfield 64, 3) := by decide +kernel
theorem dX9_holds_59 : decode cX9_holds 59 = .ok (.getfield 198, 3) := by decide +kernel
theorem dX9_holds_62 : decode cX9_holds 62 = .ok (.getfield 204, 3) := by decide +kernel
theorem dX9_holds_65 : decode cX9_holds 65 = .ok (.aload_n 0, 1) := by decide +kernel
theorem dX9_holds_66 : decode cX9_holds 66 = .ok (.getfield 37, 3) := by decide +kernel
theorem dX9_holds_69 : decode cX9_holds 69 = .ok (.invokevirtual 207, 3) := by decide +kernel
theorem dX9_holds_72 : decode cX9_holds 72 = .ok (.ifCond .eq 7, 3) := by decide +kernel
theorem dX9_holds_75 : decode cX9_holds 75 = .ok (.iconst 1, 1) := by decide +kernel
theorem dX9_holds_76 : decode cX9_holds 76 = .ok (.goto 4, 3) := by decide +kernel
theorem dX9_holds_79 : decode cX9_holds 79 = .ok (.iconst 0, 1) := by decide +kernel
theorem dX9_holds_80 : decode cX9_holds 80 = .ok (.ireturn, 1) := by decide +kernel
set_option maxHeartbeats 4000000 in
set_option maxRecDepth 100000 in
theorem n_X9_holds (o b : Nat) (y1 : Int32) (y2 : Int64) {n : Nat} {kd : mK} {I : mI} {J : mJ} {P : mP} (ho : kd o = some (0, 9)) (hp : P o 4 = some b) (hb : kd b = some (0, 7)) (hH : I b 0 = nI 0) : Ct yX9_holds cX9_holds 4 (some .int) 9 1 6 [.ref o, .int y1, .long y2] n kd I J P (fun z n' kd' I' J' P' => z = .inr "java/util/NoSuchElementException" ∧ n' = n ∧ kd' = kd ∧ I' = I ∧ J' = J ∧ P' = P) := by
  have hc := c_X9_mustBeHouse (n := n) (I := I) (J := J) o b y1 ho hp hb
  rw [hH, no_house] at hc
  refine ct_of 0 (by decide +kernel) (Nat.le_of_ble_eq_true rfl) rfl ?_
  refine r_aload_n dX9_holds_0 rfl ?_
  refine r_iload_n dX9_holds_1 rfl ?_
  exact r_virtX hc lk_X9_142 mc_X9_mustBeHouse dX9_holds_2 ho (by decide) rfl rfl (Nat.le_of_ble_eq_true rfl) (by decide) (by decide) ⟨rfl, rfl, rfl, rfl, rfl, rfl⟩

theorem dX10_holds_0 : decode cX10_holds 0 = .ok (.aload_n 0, 1) := by decide +kernel
theorem dX10_holds_1 : decode cX10_holds 1 = .ok (.iconst 0, 1) := by decide +kernel
theorem dX10_holds_2 : decode cX10_holds 2 = .ok (.putfield 193, 3) := by decide +kernel
theorem dX10_holds_5 : decode cX10_holds 5 = .ok (.aload_n 0, 1) := by decide +kernel
theorem dX10_holds_6 : decode cX10_holds 6 = .ok (.iload_n 1, 1) := by decide +kernel
theorem dX10_holds_7 : decode cX10_holds 7 = .ok (.invokevirtual 373, 3) := by decide +kernel
theorem dX10_holds_10 : decode cX10_holds 10 = .ok (.ifCond .eq 22, 3) := by decide +kernel
theorem dX10_holds_13 : decode cX10_holds 13 = .ok (.aload_n 0, 1) := by decide +kernel
theorem dX10_holds_14 : decode cX10_holds 14 = .ok (.lload_n 2, 1) := by decide +kernel
theorem dX10_holds_15 : decode cX10_holds 15 = .ok (.lconst 0, 1) := by decide +kernel
theorem dX10_holds_16 : decode cX10_holds 16 = .ok (.lcmp, 1) := by decide +kernel
theorem dX10_holds_17 : decode cX10_holds 17 = .ok (.ifCond .lt 7, 3) := by decide +kernel
theorem dX10_holds_20 : decode cX10_holds 20 = .ok (.iconst 1, 1) := by decide +kernel
theorem dX10_holds_21 : decode cX10_holds 21 = .ok (.goto 4, 3) := by decide +kernel
theorem dX10_holds_24 : decode cX10_holds 24 = .ok (.iconst 0, 1) := by decide +kernel
theorem dX10_holds_25 : decode cX10_holds 25 = .ok (.iconst 2, 1) := by decide +kernel
theorem dX10_holds_26 : decode cX10_holds 26 = .ok (.invokevirtual 343, 3) := by decide +kernel
theorem dX10_holds_29 : decode cX10_holds 29 = .ok (.ifCond .ne 5, 3) := by decide +kernel
theorem dX10_holds_32 : decode cX10_holds 32 = .ok (.iconst 0, 1) := by decide +kernel
theorem dX10_holds_33 : decode cX10_holds 33 = .ok (.ireturn, 1) := by decide +kernel
theorem dX10_holds_34 : decode cX10_holds 34 = .ok (.iconst 0, 1) := by decide +kernel
theorem dX10_holds_35 : decode cX10_holds 35 = .ok (.istore 4, 2) := by decide +kernel
theorem dX10_holds_37 : decode cX10_holds 37 = .ok (.iload 4, 2) := by decide +kernel
theorem dX10_holds_39 : decode cX10_holds 39 = .ok (.aload_n 0, 1) := by decide +kernel
theorem dX10_holds_40 : decode cX10_holds 40 = .ok (.getfield 350, 3) := by decide +kernel
theorem dX10_holds_43 : decode cX10_holds 43 = .ok (.if_icmp .ge 52, 3) := by decide +kernel
theorem dX10_holds_46 : decode cX10_holds 46 = .ok (.aload_n 0, 1) := by decide +kernel
theorem dX10_holds_47 : decode cX10_holds 47 = .ok (.getfield 90, 3) := by decide +kernel
theorem dX10_holds_50 : decode cX10_holds 50 = .ok (.iload 4, 2) := by decide +kernel
theorem dX10_holds_52 : decode cX10_holds 52 = .ok (.lload_n 2, 1) := by decide +kernel
theorem dX10_holds_53 : decode cX10_holds 53 = .ok (.iconst 5, 1) := by decide +kernel
theorem dX10_holds_54 : decode cX10_holds 54 = .ok (.iload 4, 2) := by decide +kernel
theorem dX10_holds_56 : decode cX10_holds 56 = .ok (.imul, 1) := by decide +kernel
theorem dX10_holds_57 : decode cX10_holds 57 = .ok (.lshr, 1) := by decide +kernel
theorem dX10_holds_58 : decode cX10_holds 58 = .ok (.ldc2_w 408, 3) := by decide +kernel
theorem dX10_holds_61 : decode cX10_holds 61 = .ok (.land, 1) := by decide +kernel
theorem dX10_holds_62 : decode cX10_holds 62 = .ok (.l2i, 1) := by decide +kernel
theorem dX10_holds_63 : decode cX10_holds 63 = .ok (.iastore, 1) := by decide +kernel
theorem dX10_holds_64 : decode cX10_holds 64 = .ok (.aload_n 0, 1) := by decide +kernel
theorem dX10_holds_65 : decode cX10_holds 65 = .ok (.aload_n 0, 1) := by decide +kernel
theorem dX10_holds_66 : decode cX10_holds 66 = .ok (.getfield 90, 3) := by decide +kernel
theorem dX10_holds_69 : decode cX10_holds 69 = .ok (.iload 4, 2) := by decide +kernel
theorem dX10_holds_71 : decode cX10_holds 71 = .ok (.iaload, 1) := by decide +kernel
theorem dX10_holds_72 : decode cX10_holds 72 = .ok (.iconst 1, 1) := by decide +kernel
theorem dX10_holds_73 : decode cX10_holds 73 = .ok (.aload_n 0, 1) := by decide +kernel
theorem dX10_holds_74 : decode cX10_holds 74 = .ok (.getfield 7, 3) := by decide +kernel
theorem dX10_holds_77 : decode cX10_holds 77 = .ok (.invokestatic 369, 3) := by decide +kernel
theorem dX10_holds_80 : decode cX10_holds 80 = .ok (.iconst 2, 1) := by decide +kernel
theorem dX10_holds_81 : decode cX10_holds 81 = .ok (.invokevirtual 343, 3) := by decide +kernel
theorem dX10_holds_84 : decode cX10_holds 84 = .ok (.ifCond .ne 5, 3) := by decide +kernel
theorem dX10_holds_87 : decode cX10_holds 87 = .ok (.iconst 0, 1) := by decide +kernel
theorem dX10_holds_88 : decode cX10_holds 88 = .ok (.ireturn, 1) := by decide +kernel
theorem dX10_holds_89 : decode cX10_holds 89 = .ok (.iinc 4 1, 3) := by decide +kernel
theorem dX10_holds_92 : decode cX10_holds 92 = .ok (.goto (-55), 3) := by decide +kernel
theorem dX10_holds_95 : decode cX10_holds 95 = .ok (.aload_n 0, 1) := by decide +kernel
theorem dX10_holds_96 : decode cX10_holds 96 = .ok (.getfield 20, 3) := by decide +kernel
theorem dX10_holds_99 : decode cX10_holds 99 = .ok (.iload_n 1, 1) := by decide +kernel
theorem dX10_holds_100 : decode cX10_holds 100 = .ok (.iaload, 1) := by decide +kernel
theorem dX10_holds_101 : decode cX10_holds 101 = .ok (.ifCond .ne 7, 3) := by decide +kernel
theorem dX10_holds_104 : decode cX10_holds 104 = .ok (.iconst (-1), 1) := by decide +kernel
theorem dX10_holds_105 : decode cX10_holds 105 = .ok (.goto 16, 3) := by decide +kernel
theorem dX10_holds_108 : decode cX10_holds 108 = .ok (.aload_n 0, 1) := by decide +kernel
theorem dX10_holds_109 : decode cX10_holds 109 = .ok (.iload_n 1, 1) := by decide +kernel
theorem dX10_holds_110 : decode cX10_holds 110 = .ok (.invokevirtual 410, 3) := by decide +kernel
theorem dX10_holds_113 : decode cX10_holds 113 = .ok (.ifCond .eq 7, 3) := by decide +kernel
theorem dX10_holds_116 : decode cX10_holds 116 = .ok (.iconst 1, 1) := by decide +kernel
theorem dX10_holds_117 : decode cX10_holds 117 = .ok (.goto 4, 3) := by decide +kernel
theorem dX10_holds_120 : decode cX10_holds 120 = .ok (.iconst 0, 1) := by decide +kernel
theorem dX10_holds_121 : decode cX10_holds 121 = .ok (.ireturn, 1) := by decide +kernel
set_option maxHeartbeats 4000000 in
set_option maxRecDepth 100000 in
theorem n_X10_holds (m : Nat) (y1 : Int32) (y2 : Int64) {n : Nat} {kd : mK} {I : mI} {J : mJ} {P : mP} (hM : kM kd P m) (hH : I m 1 = nI 0) : Ct yX10_holds cX10_holds 5 (some .int) 3 0 0 [.ref m, .int y1, .long y2] n kd I J P (am_is (some (.int (nI 0))) n kd (va_up I m (va_up (I m) 0 (nI 1))) J P) := by
  refine ct_of 1 (by decide +kernel) (Nat.le_of_ble_eq_true rfl) rfl ?_
  refine r_aload_n dX10_holds_0 rfl ?_
  refine r_iconst (v := nI 0) dX10_holds_1 (by decide) ?_
  refine r_putI dX10_holds_2 fl_X10_193 rfl rfl (kM_0 hM) ?_
  refine r_aload_n dX10_holds_5 rfl ?_
  refine r_iload_n dX10_holds_6 rfl ?_
  have hc := c_X10_isHouse (n := n) (I := va_up I m (va_up (I m) 0 (nI 0))) (J := J) m y1 hM (by rw [am_up_s, am_up_s]; rfl)
  rw [show va_up I m (va_up (I m) 0 (nI 0)) m 1 = nI 0 by rw [am_up_s, am_up_n _ _ (by decide)]; exact hH, no_house] at hc
  refine r_virtE (hc) lk_X10_373 mc_X10_isHouse dX10_holds_7 (kM_0 hM) (by decide) rfl rfl (Nat.le_of_ble_eq_true rfl) ?_
  refine r_if_eq (tgt := 32) dX10_holds_10 (by decide) (fun _ => ?_) (fun hz => absurd (show _ from rfl) hz)
  refine r_iconst (v := nI 0) dX10_holds_32 (by decide) ?_
  refine r_iret rfl dX10_holds_33 ?_
  rw [show thM false (va_up I m (va_up (I m) 0 (nI 0))) m (nI 1) = va_up I m (va_up (I m) 0 (nI 1)) by show va_up (va_up I m _) m (va_up (va_up I m _ m) 0 (nI 1)) = _; rw [am_up_up, am_up_s, am_up_up]]
  exact am_is.mk

theorem dX9_post_0 : decode cX9_post 0 = .ok (.aload_n 0, 1) := by decide +kernel
theorem dX9_post_1 : decode cX9_post 1 = .ok (.iload_n 1, 1) := by decide +kernel
theorem dX9_post_2 : decode cX9_post 2 = .ok (.invokevirtual 142, 3) := by decide +kernel
theorem dX9_post_5 : decode cX9_post 5 = .ok (.aload_n 0, 1) := by decide +kernel
theorem dX9_post_6 : decode cX9_post 6 = .ok (.iload_n 2, 1) := by decide +kernel
theorem dX9_post_7 : decode cX9_post 7 = .ok (.invokevirtual 235, 3) := by decide +kernel
theorem dX9_post_10 : decode cX9_post 10 = .ok (.aload_n 0, 1) := by decide +kernel
theorem dX9_post_11 : decode cX9_post 11 = .ok (.invokevirtual 183, 3) := by decide +kernel
theorem dX9_post_14 : decode cX9_post 14 = .ok (.aload_n 0, 1) := by decide +kernel
theorem dX9_post_15 : decode cX9_post 15 = .ok (.getfield 54, 3) := by decide +kernel
theorem dX9_post_18 : decode cX9_post 18 = .ok (.getfield 186, 3) := by decide +kernel
theorem dX9_post_21 : decode cX9_post 21 = .ok (.bipush (-2), 2) := by decide +kernel
theorem dX9_post_23 : decode cX9_post 23 = .ok (.if_icmp .ne 6, 3) := by decide +kernel
theorem dX9_post_26 : decode cX9_post 26 = .ok (.bipush (-2), 2) := by decide +kernel
theorem dX9_post_28 : decode cX9_post 28 = .ok (.ireturn, 1) := by decide +kernel
theorem dX9_post_29 : decode cX9_post 29 = .ok (.aload_n 0, 1) := by decide +kernel
theorem dX9_post_30 : decode cX9_post 30 = .ok (.getfield 54, 3) := by decide +kernel
theorem dX9_post_33 : decode cX9_post 33 = .ok (.getfield 195, 3) := by decide +kernel
theorem dX9_post_36 : decode cX9_post 36 = .ok (.iload_n 1, 1) := by decide +kernel
theorem dX9_post_37 : decode cX9_post 37 = .ok (.iaload, 1) := by decide +kernel
theorem dX9_post_38 : decode cX9_post 38 = .ok (.istore_n 3, 1) := by decide +kernel
theorem dX9_post_39 : decode cX9_post 39 = .ok (.iload_n 3, 1) := by decide +kernel
theorem dX9_post_40 : decode cX9_post 40 = .ok (.ifCond .ne 5, 3) := by decide +kernel
theorem dX9_post_43 : decode cX9_post 43 = .ok (.iconst 0, 1) := by decide +kernel
theorem dX9_post_44 : decode cX9_post 44 = .ok (.ireturn, 1) := by decide +kernel
theorem dX9_post_45 : decode cX9_post 45 = .ok (.iload_n 3, 1) := by decide +kernel
theorem dX9_post_46 : decode cX9_post 46 = .ok (.invokestatic 238, 3) := by decide +kernel
theorem dX9_post_49 : decode cX9_post 49 = .ok (.istore 4, 2) := by decide +kernel
theorem dX9_post_51 : decode cX9_post 51 = .ok (.bipush 31, 2) := by decide +kernel
theorem dX9_post_53 : decode cX9_post 53 = .ok (.iload_n 3, 1) := by decide +kernel
theorem dX9_post_54 : decode cX9_post 54 = .ok (.invokestatic 243, 3) := by decide +kernel
theorem dX9_post_57 : decode cX9_post 57 = .ok (.isub, 1) := by decide +kernel
theorem dX9_post_58 : decode cX9_post 58 = .ok (.istore 5, 2) := by decide +kernel
theorem dX9_post_60 : decode cX9_post 60 = .ok (.iload 5, 2) := by decide +kernel
theorem dX9_post_62 : decode cX9_post 62 = .ok (.iload 4, 2) := by decide +kernel
theorem dX9_post_64 : decode cX9_post 64 = .ok (.isub, 1) := by decide +kernel
theorem dX9_post_65 : decode cX9_post 65 = .ok (.iload_n 2, 1) := by decide +kernel
theorem dX9_post_66 : decode cX9_post 66 = .ok (.iload 4, 2) := by decide +kernel
theorem dX9_post_68 : decode cX9_post 68 = .ok (.isub, 1) := by decide +kernel
theorem dX9_post_69 : decode cX9_post 69 = .ok (.invokestatic 246, 3) := by decide +kernel
theorem dX9_post_72 : decode cX9_post 72 = .ok (.iload_n 2, 1) := by decide +kernel
theorem dX9_post_73 : decode cX9_post 73 = .ok (.iload 5, 2) := by decide +kernel
theorem dX9_post_75 : decode cX9_post 75 = .ok (.isub, 1) := by decide +kernel
theorem dX9_post_76 : decode cX9_post 76 = .ok (.invokestatic 246, 3) := by decide +kernel
theorem dX9_post_79 : decode cX9_post 79 = .ok (.invokestatic 251, 3) := by decide +kernel
theorem dX9_post_82 : decode cX9_post 82 = .ok (.iadd, 1) := by decide +kernel
theorem dX9_post_83 : decode cX9_post 83 = .ok (.ireturn, 1) := by decide +kernel
set_option maxHeartbeats 4000000 in
set_option maxRecDepth 100000 in
theorem n_X9_post (o b : Nat) (y1 y2 : Int32) {n : Nat} {kd : mK} {I : mI} {J : mJ} {P : mP} (ho : kd o = some (0, 9)) (hp : P o 4 = some b) (hb : kd b = some (0, 7)) (hH : I b 0 = nI 0) : Ct yX9_post cX9_post 6 (some .int) 9 1 6 [.ref o, .int y1, .int y2] n kd I J P (fun z n' kd' I' J' P' => z = .inr "java/util/NoSuchElementException" ∧ n' = n ∧ kd' = kd ∧ I' = I ∧ J' = J ∧ P' = P) := by
  have hc := c_X9_mustBeHouse (n := n) (I := I) (J := J) o b y1 ho hp hb
  rw [hH, no_house] at hc
  refine ct_of 3 (by decide +kernel) (Nat.le_of_ble_eq_true rfl) rfl ?_
  refine r_aload_n dX9_post_0 rfl ?_
  refine r_iload_n dX9_post_1 rfl ?_
  exact r_virtX hc lk_X9_142 mc_X9_mustBeHouse dX9_post_2 ho (by decide) rfl rfl (Nat.le_of_ble_eq_true rfl) (by decide) (by decide) ⟨rfl, rfl, rfl, rfl, rfl, rfl⟩

theorem dX10_post_0 : decode cX10_post 0 = .ok (.aload_n 0, 1) := by decide +kernel
theorem dX10_post_1 : decode cX10_post 1 = .ok (.iconst 0, 1) := by decide +kernel
theorem dX10_post_2 : decode cX10_post 2 = .ok (.putfield 193, 3) := by decide +kernel
theorem dX10_post_5 : decode cX10_post 5 = .ok (.aload_n 0, 1) := by decide +kernel
theorem dX10_post_6 : decode cX10_post 6 = .ok (.iload_n 1, 1) := by decide +kernel
theorem dX10_post_7 : decode cX10_post 7 = .ok (.invokevirtual 373, 3) := by decide +kernel
theorem dX10_post_10 : decode cX10_post 10 = .ok (.ifCond .eq 20, 3) := by decide +kernel
theorem dX10_post_13 : decode cX10_post 13 = .ok (.aload_n 0, 1) := by decide +kernel
theorem dX10_post_14 : decode cX10_post 14 = .ok (.iload_n 2, 1) := by decide +kernel
theorem dX10_post_15 : decode cX10_post 15 = .ok (.iconst 1, 1) := by decide +kernel
theorem dX10_post_16 : decode cX10_post 16 = .ok (.aload_n 0, 1) := by decide +kernel
theorem dX10_post_17 : decode cX10_post 17 = .ok (.getfield 7, 3) := by decide +kernel
theorem dX10_post_20 : decode cX10_post 20 = .ok (.invokestatic 369, 3) := by decide +kernel
theorem dX10_post_23 : decode cX10_post 23 = .ok (.iconst 2, 1) := by decide +kernel
theorem dX10_post_24 : decode cX10_post 24 = .ok (.invokevirtual 343, 3) := by decide +kernel
theorem dX10_post_27 : decode cX10_post 27 = .ok (.ifCond .ne 5, 3) := by decide +kernel
theorem dX10_post_30 : decode cX10_post 30 = .ok (.iconst 0, 1) := by decide +kernel
theorem dX10_post_31 : decode cX10_post 31 = .ok (.ireturn, 1) := by decide +kernel
theorem dX10_post_32 : decode cX10_post 32 = .ok (.aload_n 0, 1) := by decide +kernel
theorem dX10_post_33 : decode cX10_post 33 = .ok (.invokevirtual 436, 3) := by decide +kernel
theorem dX10_post_36 : decode cX10_post 36 = .ok (.ifCond .ne 6, 3) := by decide +kernel
theorem dX10_post_39 : decode cX10_post 39 = .ok (.bipush (-2), 2) := by decide +kernel
theorem dX10_post_41 : decode cX10_post 41 = .ok (.ireturn, 1) := by decide +kernel
theorem dX10_post_42 : decode cX10_post 42 = .ok (.aload_n 0, 1) := by decide +kernel
theorem dX10_post_43 : decode cX10_post 43 = .ok (.iload_n 1, 1) := by decide +kernel
theorem dX10_post_44 : decode cX10_post 44 = .ok (.invokevirtual 442, 3) := by decide +kernel
theorem dX10_post_47 : decode cX10_post 47 = .ok (.istore_n 3, 1) := by decide +kernel
theorem dX10_post_48 : decode cX10_post 48 = .ok (.iload_n 3, 1) := by decide +kernel
theorem dX10_post_49 : decode cX10_post 49 = .ok (.ifCond .ne 5, 3) := by decide +kernel
theorem dX10_post_52 : decode cX10_post 52 = .ok (.iconst 0, 1) := by decide +kernel
theorem dX10_post_53 : decode cX10_post 53 = .ok (.ireturn, 1) := by decide +kernel
theorem dX10_post_54 : decode cX10_post 54 = .ok (.iconst 0, 1) := by decide +kernel
theorem dX10_post_55 : decode cX10_post 55 = .ok (.istore 4, 2) := by decide +kernel
theorem dX10_post_57 : decode cX10_post 57 = .ok (.iload_n 3, 1) := by decide +kernel
theorem dX10_post_58 : decode cX10_post 58 = .ok (.iload 4, 2) := by decide +kernel
theorem dX10_post_60 : decode cX10_post 60 = .ok (.ishr, 1) := by decide +kernel
theorem dX10_post_61 : decode cX10_post 61 = .ok (.iconst 1, 1) := by decide +kernel
theorem dX10_post_62 : decode cX10_post 62 = .ok (.iand, 1) := by decide +kernel
theorem dX10_post_63 : decode cX10_post 63 = .ok (.ifCond .ne 9, 3) := by decide +kernel
theorem dX10_post_66 : decode cX10_post 66 = .ok (.iinc 4 1, 3) := by decide +kernel
theorem dX10_post_69 : decode cX10_post 69 = .ok (.goto (-12), 3) := by decide +kernel
theorem dX10_post_72 : decode cX10_post 72 = .ok (.aload_n 0, 1) := by decide +kernel
theorem dX10_post_73 : decode cX10_post 73 = .ok (.getfield 7, 3) := by decide +kernel
theorem dX10_post_76 : decode cX10_post 76 = .ok (.istore 5, 2) := by decide +kernel
theorem dX10_post_78 : decode cX10_post 78 = .ok (.iload_n 3, 1) := by decide +kernel
theorem dX10_post_79 : decode cX10_post 79 = .ok (.iload 5, 2) := by decide +kernel
theorem dX10_post_81 : decode cX10_post 81 = .ok (.ishr, 1) := by decide +kernel
theorem dX10_post_82 : decode cX10_post 82 = .ok (.iconst 1, 1) := by decide +kernel
theorem dX10_post_83 : decode cX10_post 83 = .ok (.iand, 1) := by decide +kernel
theorem dX10_post_84 : decode cX10_post 84 = .ok (.ifCond .ne 9, 3) := by decide +kernel
theorem dX10_post_87 : decode cX10_post 87 = .ok (.iinc 5 (-1), 3) := by decide +kernel
theorem dX10_post_90 : decode cX10_post 90 = .ok (.goto (-12), 3) := by decide +kernel
theorem dX10_post_93 : decode cX10_post 93 = .ok (.iload_n 2, 1) := by decide +kernel
theorem dX10_post_94 : decode cX10_post 94 = .ok (.iload 4, 2) := by decide +kernel
theorem dX10_post_96 : decode cX10_post 96 = .ok (.if_icmp .ge 10, 3) := by decide +kernel
theorem dX10_post_99 : decode cX10_post 99 = .ok (.iload 4, 2) := by decide +kernel
theorem dX10_post_101 : decode cX10_post 101 = .ok (.iload_n 2, 1) := by decide +kernel
theorem dX10_post_102 : decode cX10_post 102 = .ok (.isub, 1) := by decide +kernel
theorem dX10_post_103 : decode cX10_post 103 = .ok (.goto 7, 3) := by decide +kernel
theorem dX10_post_106 : decode cX10_post 106 = .ok (.iload_n 2, 1) := by decide +kernel
theorem dX10_post_107 : decode cX10_post 107 = .ok (.iload 4, 2) := by decide +kernel
theorem dX10_post_109 : decode cX10_post 109 = .ok (.isub, 1) := by decide +kernel
theorem dX10_post_110 : decode cX10_post 110 = .ok (.istore 6, 2) := by decide +kernel
theorem dX10_post_112 : decode cX10_post 112 = .ok (.iload_n 2, 1) := by decide +kernel
theorem dX10_post_113 : decode cX10_post 113 = .ok (.iload 5, 2) := by decide +kernel
theorem dX10_post_115 : decode cX10_post 115 = .ok (.if_icmp .ge 10, 3) := by decide +kernel
theorem dX10_post_118 : decode cX10_post 118 = .ok (.iload 5, 2) := by decide +kernel
theorem dX10_post_120 : decode cX10_post 120 = .ok (.iload_n 2, 1) := by decide +kernel
theorem dX10_post_121 : decode cX10_post 121 = .ok (.isub, 1) := by decide +kernel
theorem dX10_post_122 : decode cX10_post 122 = .ok (.goto 7, 3) := by decide +kernel
theorem dX10_post_125 : decode cX10_post 125 = .ok (.iload_n 2, 1) := by decide +kernel
theorem dX10_post_126 : decode cX10_post 126 = .ok (.iload 5, 2) := by decide +kernel
theorem dX10_post_128 : decode cX10_post 128 = .ok (.isub, 1) := by decide +kernel
theorem dX10_post_129 : decode cX10_post 129 = .ok (.istore 7, 2) := by decide +kernel
theorem dX10_post_131 : decode cX10_post 131 = .ok (.iload 5, 2) := by decide +kernel
theorem dX10_post_133 : decode cX10_post 133 = .ok (.iload 4, 2) := by decide +kernel
theorem dX10_post_135 : decode cX10_post 135 = .ok (.isub, 1) := by decide +kernel
theorem dX10_post_136 : decode cX10_post 136 = .ok (.iload 6, 2) := by decide +kernel
theorem dX10_post_138 : decode cX10_post 138 = .ok (.iload 7, 2) := by decide +kernel
theorem dX10_post_140 : decode cX10_post 140 = .ok (.if_icmp .ge 8, 3) := by decide +kernel
theorem dX10_post_143 : decode cX10_post 143 = .ok (.iload 6, 2) := by decide +kernel
theorem dX10_post_145 : decode cX10_post 145 = .ok (.goto 5, 3) := by decide +kernel
theorem dX10_post_148 : decode cX10_post 148 = .ok (.iload 7, 2) := by decide +kernel
theorem dX10_post_150 : decode cX10_post 150 = .ok (.iadd, 1) := by decide +kernel
theorem dX10_post_151 : decode cX10_post 151 = .ok (.ireturn, 1) := by decide +kernel
set_option maxHeartbeats 4000000 in
set_option maxRecDepth 100000 in
theorem n_X10_post (m : Nat) (y1 y2 : Int32) {n : Nat} {kd : mK} {I : mI} {J : mJ} {P : mP} (hM : kM kd P m) (hH : I m 1 = nI 0) : Ct yX10_post cX10_post 8 (some .int) 3 0 0 [.ref m, .int y1, .int y2] n kd I J P (am_is (some (.int (nI 0))) n kd (va_up I m (va_up (I m) 0 (nI 1))) J P) := by
  refine ct_of 5 (by decide +kernel) (Nat.le_of_ble_eq_true rfl) rfl ?_
  refine r_aload_n dX10_post_0 rfl ?_
  refine r_iconst (v := nI 0) dX10_post_1 (by decide) ?_
  refine r_putI dX10_post_2 fl_X10_193 rfl rfl (kM_0 hM) ?_
  refine r_aload_n dX10_post_5 rfl ?_
  refine r_iload_n dX10_post_6 rfl ?_
  have hc := c_X10_isHouse (n := n) (I := va_up I m (va_up (I m) 0 (nI 0))) (J := J) m y1 hM (by rw [am_up_s, am_up_s]; rfl)
  rw [show va_up I m (va_up (I m) 0 (nI 0)) m 1 = nI 0 by rw [am_up_s, am_up_n _ _ (by decide)]; exact hH, no_house] at hc
  refine r_virtE (hc) lk_X10_373 mc_X10_isHouse dX10_post_7 (kM_0 hM) (by decide) rfl rfl (Nat.le_of_ble_eq_true rfl) ?_
  refine r_if_eq (tgt := 30) dX10_post_10 (by decide) (fun _ => ?_) (fun hz => absurd (show _ from rfl) hz)
  refine r_iconst (v := nI 0) dX10_post_30 (by decide) ?_
  refine r_iret rfl dX10_post_31 ?_
  rw [show thM false (va_up I m (va_up (I m) 0 (nI 0))) m (nI 1) = va_up I m (va_up (I m) 0 (nI 1)) by show va_up (va_up I m _) m (va_up (va_up I m _ m) 0 (nI 1)) = _; rw [am_up_up, am_up_s, am_up_up]]
  exact am_is.mk

theorem dX9_feud_0 : decode cX9_feud 0 = .ok (.aload_n 0, 1) := by decide +kernel
theorem dX9_feud_1 : decode cX9_feud 1 = .ok (.iload_n 1, 1) := by decide +kernel
theorem dX9_feud_2 : decode cX9_feud 2 = .ok (.invokevirtual 142, 3) := by decide +kernel
theorem dX9_feud_5 : decode cX9_feud 5 = .ok (.aload_n 0, 1) := by decide +kernel
theorem dX9_feud_6 : decode cX9_feud 6 = .ok (.iload_n 2, 1) := by decide +kernel
theorem dX9_feud_7 : decode cX9_feud 7 = .ok (.invokevirtual 142, 3) := by decide +kernel
theorem dX9_feud_10 : decode cX9_feud 10 = .ok (.aload_n 0, 1) := by decide +kernel
theorem dX9_feud_11 : decode cX9_feud 11 = .ok (.iload_n 3, 1) := by decide +kernel
theorem dX9_feud_12 : decode cX9_feud 12 = .ok (.iconst 2, 1) := by decide +kernel
theorem dX9_feud_13 : decode cX9_feud 13 = .ok (.invokevirtual 162, 3) := by decide +kernel
theorem dX9_feud_16 : decode cX9_feud 16 = .ok (.iload_n 1, 1) := by decide +kernel
theorem dX9_feud_17 : decode cX9_feud 17 = .ok (.iload_n 2, 1) := by decide +kernel
theorem dX9_feud_18 : decode cX9_feud 18 = .ok (.if_icmp .ne 11, 3) := by decide +kernel
theorem dX9_feud_21 : decode cX9_feud 21 = .ok (.new 110, 3) := by decide +kernel
theorem dX9_feud_24 : decode cX9_feud 24 = .ok (.dup, 1) := by decide +kernel
theorem dX9_feud_25 : decode cX9_feud 25 = .ok (.invokespecial 112, 3) := by decide +kernel
theorem dX9_feud_28 : decode cX9_feud 28 = .ok (.athrow, 1) := by decide +kernel
theorem dX9_feud_29 : decode cX9_feud 29 = .ok (.aload_n 0, 1) := by decide +kernel
theorem dX9_feud_30 : decode cX9_feud 30 = .ok (.getfield 64, 3) := by decide +kernel
theorem dX9_feud_33 : decode cX9_feud 33 = .ok (.aload_n 0, 1) := by decide +kernel
theorem dX9_feud_34 : decode cX9_feud 34 = .ok (.getfield 27, 3) := by decide +kernel
theorem dX9_feud_37 : decode cX9_feud 37 = .ok (.aload_n 0, 1) := by decide +kernel
theorem dX9_feud_38 : decode cX9_feud 38 = .ok (.getfield 37, 3) := by decide +kernel
theorem dX9_feud_41 : decode cX9_feud 41 = .ok (.iload_n 1, 1) := by decide +kernel
theorem dX9_feud_42 : decode cX9_feud 42 = .ok (.iload_n 2, 1) := by decide +kernel
theorem dX9_feud_43 : decode cX9_feud 43 = .ok (.invokevirtual 254, 3) := by decide +kernel
theorem dX9_feud_46 : decode cX9_feud 46 = .ok (.ifCond .ne 6, 3) := by decide +kernel
theorem dX9_feud_49 : decode cX9_feud 49 = .ok (.bipush (-2), 2) := by decide +kernel
theorem dX9_feud_51 : decode cX9_feud 51 = .ok (.ireturn, 1) := by decide +kernel
theorem dX9_feud_52 : decode cX9_feud 52 = .ok (.iload_n 3, 1) := by decide +kernel
theorem dX9_feud_53 : decode cX9_feud 53 = .ok (.ifCond .ne 13, 3) := by decide +kernel
theorem dX9_feud_56 : decode cX9_feud 56 = .ok (.aload_n 0, 1) := by decide +kernel
theorem dX9_feud_57 : decode cX9_feud 57 = .ok (.getfield 64, 3) := by decide +kernel
theorem dX9_feud_60 : decode cX9_feud 60 = .ok (.invokevirtual 258, 3) := by decide +kernel
theorem dX9_feud_63 : decode cX9_feud 63 = .ok (.goto 10, 3) := by decide +kernel
theorem dX9_feud_66 : decode cX9_feud 66 = .ok (.aload_n 0, 1) := by decide +kernel
theorem dX9_feud_67 : decode cX9_feud 67 = .ok (.getfield 64, 3) := by decide +kernel
theorem dX9_feud_70 : decode cX9_feud 70 = .ok (.invokevirtual 261, 3) := by decide +kernel
theorem dX9_feud_73 : decode cX9_feud 73 = .ok (.ireturn, 1) := by decide +kernel
set_option maxHeartbeats 4000000 in
set_option maxRecDepth 100000 in
theorem n_X9_feud (o b : Nat) (y1 y2 y3 : Int32) {n : Nat} {kd : mK} {I : mI} {J : mJ} {P : mP} (ho : kd o = some (0, 9)) (hp : P o 4 = some b) (hb : kd b = some (0, 7)) (hH : I b 0 = nI 0) : Ct yX9_feud cX9_feud 4 (some .int) 9 1 6 [.ref o, .int y1, .int y2, .int y3] n kd I J P (fun z n' kd' I' J' P' => z = .inr "java/util/NoSuchElementException" ∧ n' = n ∧ kd' = kd ∧ I' = I ∧ J' = J ∧ P' = P) := by
  have hc := c_X9_mustBeHouse (n := n) (I := I) (J := J) o b y1 ho hp hb
  rw [hH, no_house] at hc
  refine ct_of 0 (by decide +kernel) (Nat.le_of_ble_eq_true rfl) rfl ?_
  refine r_aload_n dX9_feud_0 rfl ?_
  refine r_iload_n dX9_feud_1 rfl ?_
  exact r_virtX hc lk_X9_142 mc_X9_mustBeHouse dX9_feud_2 ho (by decide) rfl rfl (Nat.le_of_ble_eq_true rfl) (by decide) (by decide) ⟨rfl, rfl, rfl, rfl, rfl, rfl⟩

theorem dX10_feud_0 : decode cX10_feud 0 = .ok (.aload_n 0, 1) := by decide +kernel
theorem dX10_feud_1 : decode cX10_feud 1 = .ok (.iconst 0, 1) := by decide +kernel
theorem dX10_feud_2 : decode cX10_feud 2 = .ok (.putfield 193, 3) := by decide +kernel
theorem dX10_feud_5 : decode cX10_feud 5 = .ok (.aload_n 0, 1) := by decide +kernel
theorem dX10_feud_6 : decode cX10_feud 6 = .ok (.iload_n 1, 1) := by decide +kernel
theorem dX10_feud_7 : decode cX10_feud 7 = .ok (.invokevirtual 373, 3) := by decide +kernel
theorem dX10_feud_10 : decode cX10_feud 10 = .ok (.ifCond .eq 37, 3) := by decide +kernel
theorem dX10_feud_13 : decode cX10_feud 13 = .ok (.aload_n 0, 1) := by decide +kernel
theorem dX10_feud_14 : decode cX10_feud 14 = .ok (.iload_n 2, 1) := by decide +kernel
theorem dX10_feud_15 : decode cX10_feud 15 = .ok (.invokevirtual 373, 3) := by decide +kernel
theorem dX10_feud_18 : decode cX10_feud 18 = .ok (.ifCond .eq 29, 3) := by decide +kernel
theorem dX10_feud_21 : decode cX10_feud 21 = .ok (.aload_n 0, 1) := by decide +kernel
theorem dX10_feud_22 : decode cX10_feud 22 = .ok (.iload_n 3, 1) := by decide +kernel
theorem dX10_feud_23 : decode cX10_feud 23 = .ok (.invokevirtual 379, 3) := by decide +kernel
theorem dX10_feud_26 : decode cX10_feud 26 = .ok (.ifCond .eq 21, 3) := by decide +kernel
theorem dX10_feud_29 : decode cX10_feud 29 = .ok (.aload_n 0, 1) := by decide +kernel
theorem dX10_feud_30 : decode cX10_feud 30 = .ok (.iload_n 1, 1) := by decide +kernel
theorem dX10_feud_31 : decode cX10_feud 31 = .ok (.iload_n 2, 1) := by decide +kernel
theorem dX10_feud_32 : decode cX10_feud 32 = .ok (.if_icmp .eq 7, 3) := by decide +kernel
theorem dX10_feud_35 : decode cX10_feud 35 = .ok (.iconst 1, 1) := by decide +kernel
theorem dX10_feud_36 : decode cX10_feud 36 = .ok (.goto 4, 3) := by decide +kernel
theorem dX10_feud_39 : decode cX10_feud 39 = .ok (.iconst 0, 1) := by decide +kernel
theorem dX10_feud_40 : decode cX10_feud 40 = .ok (.iconst 2, 1) := by decide +kernel
theorem dX10_feud_41 : decode cX10_feud 41 = .ok (.invokevirtual 343, 3) := by decide +kernel
theorem dX10_feud_44 : decode cX10_feud 44 = .ok (.ifCond .ne 5, 3) := by decide +kernel
theorem dX10_feud_47 : decode cX10_feud 47 = .ok (.iconst 0, 1) := by decide +kernel
theorem dX10_feud_48 : decode cX10_feud 48 = .ok (.ireturn, 1) := by decide +kernel
theorem dX10_feud_49 : decode cX10_feud 49 = .ok (.iconst 0, 1) := by decide +kernel
theorem dX10_feud_50 : decode cX10_feud 50 = .ok (.istore 4, 2) := by decide +kernel
theorem dX10_feud_52 : decode cX10_feud 52 = .ok (.iload 4, 2) := by decide +kernel
theorem dX10_feud_54 : decode cX10_feud 54 = .ok (.iconst 4, 1) := by decide +kernel
theorem dX10_feud_55 : decode cX10_feud 55 = .ok (.if_icmp .ge 81, 3) := by decide +kernel
theorem dX10_feud_58 : decode cX10_feud 58 = .ok (.iload 4, 2) := by decide +kernel
theorem dX10_feud_60 : decode cX10_feud 60 = .ok (.iconst 1, 1) := by decide +kernel
theorem dX10_feud_61 : decode cX10_feud 61 = .ok (.ishr, 1) := by decide +kernel
theorem dX10_feud_62 : decode cX10_feud 62 = .ok (.iconst 1, 1) := by decide +kernel
theorem dX10_feud_63 : decode cX10_feud 63 = .ok (.iand, 1) := by decide +kernel
theorem dX10_feud_64 : decode cX10_feud 64 = .ok (.iload_n 1, 1) := by decide +kernel
theorem dX10_feud_65 : decode cX10_feud 65 = .ok (.ishl, 1) := by decide +kernel
theorem dX10_feud_66 : decode cX10_feud 66 = .ok (.iload 4, 2) := by decide +kernel
theorem dX10_feud_68 : decode cX10_feud 68 = .ok (.iconst 1, 1) := by decide +kernel
theorem dX10_feud_69 : decode cX10_feud 69 = .ok (.iand, 1) := by decide +kernel
theorem dX10_feud_70 : decode cX10_feud 70 = .ok (.iload_n 2, 1) := by decide +kernel
theorem dX10_feud_71 : decode cX10_feud 71 = .ok (.ishl, 1) := by decide +kernel
theorem dX10_feud_72 : decode cX10_feud 72 = .ok (.ior, 1) := by decide +kernel
theorem dX10_feud_73 : decode cX10_feud 73 = .ok (.istore 5, 2) := by decide +kernel
theorem dX10_feud_75 : decode cX10_feud 75 = .ok (.aload_n 0, 1) := by decide +kernel
theorem dX10_feud_76 : decode cX10_feud 76 = .ok (.aload_n 0, 1) := by decide +kernel
theorem dX10_feud_77 : decode cX10_feud 77 = .ok (.invokevirtual 429, 3) := by decide +kernel
theorem dX10_feud_80 : decode cX10_feud 80 = .ok (.iload 5, 2) := by decide +kernel
theorem dX10_feud_82 : decode cX10_feud 82 = .ok (.iconst (-1), 1) := by decide +kernel
theorem dX10_feud_83 : decode cX10_feud 83 = .ok (.ixor, 1) := by decide +kernel
theorem dX10_feud_84 : decode cX10_feud 84 = .ok (.iand, 1) := by decide +kernel
theorem dX10_feud_85 : decode cX10_feud 85 = .ok (.iconst 1, 1) := by decide +kernel
theorem dX10_feud_86 : decode cX10_feud 86 = .ok (.sipush 1001, 3) := by decide +kernel
theorem dX10_feud_89 : decode cX10_feud 89 = .ok (.invokevirtual 432, 3) := by decide +kernel
theorem dX10_feud_92 : decode cX10_feud 92 = .ok (.ifCond .ne 6, 3) := by decide +kernel
theorem dX10_feud_95 : decode cX10_feud 95 = .ok (.bipush (-2), 2) := by decide +kernel
theorem dX10_feud_97 : decode cX10_feud 97 = .ok (.ireturn, 1) := by decide +kernel
theorem dX10_feud_98 : decode cX10_feud 98 = .ok (.aload_n 0, 1) := by decide +kernel
theorem dX10_feud_99 : decode cX10_feud 99 = .ok (.getfield 118, 3) := by decide +kernel
theorem dX10_feud_102 : decode cX10_feud 102 = .ok (.iconst 2, 1) := by decide +kernel
theorem dX10_feud_103 : decode cX10_feud 103 = .ok (.iload 4, 2) := by decide +kernel
theorem dX10_feud_105 : decode cX10_feud 105 = .ok (.imul, 1) := by decide +kernel
theorem dX10_feud_106 : decode cX10_feud 106 = .ok (.aload_n 0, 1) := by decide +kernel
theorem dX10_feud_107 : decode cX10_feud 107 = .ok (.iload_n 1, 1) := by decide +kernel
theorem dX10_feud_108 : decode cX10_feud 108 = .ok (.iload_n 2, 1) := by decide +kernel
theorem dX10_feud_109 : decode cX10_feud 109 = .ok (.invokevirtual 471, 3) := by decide +kernel
theorem dX10_feud_112 : decode cX10_feud 112 = .ok (.iastore, 1) := by decide +kernel
theorem dX10_feud_113 : decode cX10_feud 113 = .ok (.aload_n 0, 1) := by decide +kernel
theorem dX10_feud_114 : decode cX10_feud 114 = .ok (.getfield 118, 3) := by decide +kernel
theorem dX10_feud_117 : decode cX10_feud 117 = .ok (.iconst 2, 1) := by decide +kernel
theorem dX10_feud_118 : decode cX10_feud 118 = .ok (.iload 4, 2) := by decide +kernel
theorem dX10_feud_120 : decode cX10_feud 120 = .ok (.imul, 1) := by decide +kernel
theorem dX10_feud_121 : decode cX10_feud 121 = .ok (.iconst 1, 1) := by decide +kernel
theorem dX10_feud_122 : decode cX10_feud 122 = .ok (.iadd, 1) := by decide +kernel
theorem dX10_feud_123 : decode cX10_feud 123 = .ok (.aload_n 0, 1) := by decide +kernel
theorem dX10_feud_124 : decode cX10_feud 124 = .ok (.iload_n 2, 1) := by decide +kernel
theorem dX10_feud_125 : decode cX10_feud 125 = .ok (.iload_n 1, 1) := by decide +kernel
theorem dX10_feud_126 : decode cX10_feud 126 = .ok (.invokevirtual 471, 3) := by decide +kernel
theorem dX10_feud_129 : decode cX10_feud 129 = .ok (.iastore, 1) := by decide +kernel
theorem dX10_feud_130 : decode cX10_feud 130 = .ok (.iinc 4 1, 3) := by decide +kernel
theorem dX10_feud_133 : decode cX10_feud 133 = .ok (.goto (-81), 3) := by decide +kernel
theorem dX10_feud_136 : decode cX10_feud 136 = .ok (.iconst 0, 1) := by decide +kernel
theorem dX10_feud_137 : decode cX10_feud 137 = .ok (.istore 4, 2) := by decide +kernel
theorem dX10_feud_139 : decode cX10_feud 139 = .ok (.iconst (-1), 1) := by decide +kernel
theorem dX10_feud_140 : decode cX10_feud 140 = .ok (.istore 5, 2) := by decide +kernel
theorem dX10_feud_142 : decode cX10_feud 142 = .ok (.iconst 0, 1) := by decide +kernel
theorem dX10_feud_143 : decode cX10_feud 143 = .ok (.istore 6, 2) := by decide +kernel
theorem dX10_feud_145 : decode cX10_feud 145 = .ok (.iload 6, 2) := by decide +kernel
theorem dX10_feud_147 : decode cX10_feud 147 = .ok (.iconst 4, 1) := by decide +kernel
theorem dX10_feud_148 : decode cX10_feud 148 = .ok (.if_icmp .ge 75, 3) := by decide +kernel
theorem dX10_feud_151 : decode cX10_feud 151 = .ok (.aload_n 0, 1) := by decide +kernel
theorem dX10_feud_152 : decode cX10_feud 152 = .ok (.getfield 118, 3) := by decide +kernel
theorem dX10_feud_155 : decode cX10_feud 155 = .ok (.iconst 2, 1) := by decide +kernel
theorem dX10_feud_156 : decode cX10_feud 156 = .ok (.iload 6, 2) := by decide +kernel
theorem dX10_feud_158 : decode cX10_feud 158 = .ok (.iconst 2, 1) := by decide +kernel
theorem dX10_feud_159 : decode cX10_feud 159 = .ok (.ixor, 1) := by decide +kernel
theorem dX10_feud_160 : decode cX10_feud 160 = .ok (.imul, 1) := by decide +kernel
theorem dX10_feud_161 : decode cX10_feud 161 = .ok (.iaload, 1) := by decide +kernel
theorem dX10_feud_162 : decode cX10_feud 162 = .ok (.aload_n 0, 1) := by decide +kernel
theorem dX10_feud_163 : decode cX10_feud 163 = .ok (.getfield 118, 3) := by decide +kernel
theorem dX10_feud_166 : decode cX10_feud 166 = .ok (.iconst 2, 1) := by decide +kernel
theorem dX10_feud_167 : decode cX10_feud 167 = .ok (.iload 6, 2) := by decide +kernel
theorem dX10_feud_169 : decode cX10_feud 169 = .ok (.imul, 1) := by decide +kernel
theorem dX10_feud_170 : decode cX10_feud 170 = .ok (.iaload, 1) := by decide +kernel
theorem dX10_feud_171 : decode cX10_feud 171 = .ok (.if_icmp .gt 46, 3) := by decide +kernel
theorem dX10_feud_174 : decode cX10_feud 174 = .ok (.aload_n 0, 1) := by decide +kernel
theorem dX10_feud_175 : decode cX10_feud 175 = .ok (.getfield 118, 3) := by decide +kernel
theorem dX10_feud_178 : decode cX10_feud 178 = .ok (.iconst 2, 1) := by decide +kernel
theorem dX10_feud_179 : decode cX10_feud 179 = .ok (.iload 6, 2) := by decide +kernel
theorem dX10_feud_181 : decode cX10_feud 181 = .ok (.iconst 1, 1) := by decide +kernel
theorem dX10_feud_182 : decode cX10_feud 182 = .ok (.ixor, 1) := by decide +kernel
theorem dX10_feud_183 : decode cX10_feud 183 = .ok (.imul, 1) := by decide +kernel
theorem dX10_feud_184 : decode cX10_feud 184 = .ok (.iconst 1, 1) := by decide +kernel
theorem dX10_feud_185 : decode cX10_feud 185 = .ok (.iadd, 1) := by decide +kernel
theorem dX10_feud_186 : decode cX10_feud 186 = .ok (.iaload, 1) := by decide +kernel
theorem dX10_feud_187 : decode cX10_feud 187 = .ok (.aload_n 0, 1) := by decide +kernel
theorem dX10_feud_188 : decode cX10_feud 188 = .ok (.getfield 118, 3) := by decide +kernel
theorem dX10_feud_191 : decode cX10_feud 191 = .ok (.iconst 2, 1) := by decide +kernel
theorem dX10_feud_192 : decode cX10_feud 192 = .ok (.iload 6, 2) := by decide +kernel
theorem dX10_feud_194 : decode cX10_feud 194 = .ok (.imul, 1) := by decide +kernel
theorem dX10_feud_195 : decode cX10_feud 195 = .ok (.iconst 1, 1) := by decide +kernel
theorem dX10_feud_196 : decode cX10_feud 196 = .ok (.iadd, 1) := by decide +kernel
theorem dX10_feud_197 : decode cX10_feud 197 = .ok (.iaload, 1) := by decide +kernel
theorem dX10_feud_198 : decode cX10_feud 198 = .ok (.if_icmp .le 6, 3) := by decide +kernel
theorem dX10_feud_201 : decode cX10_feud 201 = .ok (.goto 16, 3) := by decide +kernel
theorem dX10_feud_204 : decode cX10_feud 204 = .ok (.iinc 4 1, 3) := by decide +kernel
theorem dX10_feud_207 : decode cX10_feud 207 = .ok (.iload 5, 2) := by decide +kernel
theorem dX10_feud_209 : decode cX10_feud 209 = .ok (.iconst (-1), 1) := by decide +kernel
theorem dX10_feud_210 : decode cX10_feud 210 = .ok (.if_icmp .ne 7, 3) := by decide +kernel
theorem dX10_feud_213 : decode cX10_feud 213 = .ok (.iload 6, 2) := by decide +kernel
theorem dX10_feud_215 : decode cX10_feud 215 = .ok (.istore 5, 2) := by decide +kernel
theorem dX10_feud_217 : decode cX10_feud 217 = .ok (.iinc 6 1, 3) := by decide +kernel
theorem dX10_feud_220 : decode cX10_feud 220 = .ok (.goto (-75), 3) := by decide +kernel
theorem dX10_feud_223 : decode cX10_feud 223 = .ok (.iload_n 3, 1) := by decide +kernel
theorem dX10_feud_224 : decode cX10_feud 224 = .ok (.ifCond .ne 8, 3) := by decide +kernel
theorem dX10_feud_227 : decode cX10_feud 227 = .ok (.iload 4, 2) := by decide +kernel
theorem dX10_feud_229 : decode cX10_feud 229 = .ok (.goto 5, 3) := by decide +kernel
theorem dX10_feud_232 : decode cX10_feud 232 = .ok (.iload 5, 2) := by decide +kernel
theorem dX10_feud_234 : decode cX10_feud 234 = .ok (.ireturn, 1) := by decide +kernel
set_option maxHeartbeats 4000000 in
set_option maxRecDepth 100000 in
theorem n_X10_feud (m : Nat) (y1 y2 y3 : Int32) {n : Nat} {kd : mK} {I : mI} {J : mJ} {P : mP} (hM : kM kd P m) (hH : I m 1 = nI 0) : Ct yX10_feud cX10_feud 7 (some .int) 3 0 0 [.ref m, .int y1, .int y2, .int y3] n kd I J P (am_is (some (.int (nI 0))) n kd (va_up I m (va_up (I m) 0 (nI 1))) J P) := by
  refine ct_of 3 (by decide +kernel) (Nat.le_of_ble_eq_true rfl) rfl ?_
  refine r_aload_n dX10_feud_0 rfl ?_
  refine r_iconst (v := nI 0) dX10_feud_1 (by decide) ?_
  refine r_putI dX10_feud_2 fl_X10_193 rfl rfl (kM_0 hM) ?_
  refine r_aload_n dX10_feud_5 rfl ?_
  refine r_iload_n dX10_feud_6 rfl ?_
  have hc := c_X10_isHouse (n := n) (I := va_up I m (va_up (I m) 0 (nI 0))) (J := J) m y1 hM (by rw [am_up_s, am_up_s]; rfl)
  rw [show va_up I m (va_up (I m) 0 (nI 0)) m 1 = nI 0 by rw [am_up_s, am_up_n _ _ (by decide)]; exact hH, no_house] at hc
  refine r_virtE (hc) lk_X10_373 mc_X10_isHouse dX10_feud_7 (kM_0 hM) (by decide) rfl rfl (Nat.le_of_ble_eq_true rfl) ?_
  refine r_if_eq (tgt := 47) dX10_feud_10 (by decide) (fun _ => ?_) (fun hz => absurd (show _ from rfl) hz)
  refine r_iconst (v := nI 0) dX10_feud_47 (by decide) ?_
  refine r_iret rfl dX10_feud_48 ?_
  rw [show thM false (va_up I m (va_up (I m) 0 (nI 0))) m (nI 1) = va_up I m (va_up (I m) 0 (nI 1)) by show va_up (va_up I m _) m (va_up (va_up I m _ m) 0 (nI 1)) = _; rw [am_up_up, am_up_s, am_up_up]]
  exact am_is.mk

theorem dX9_proof_0 : decode cX9_proof 0 = .ok (.aload_n 0, 1) := by decide +kernel
theorem dX9_proof_1 : decode cX9_proof 1 = .ok (.iload_n 1, 1) := by decide +kernel
theorem dX9_proof_2 : decode cX9_proof 2 = .ok (.invokevirtual 142, 3) := by decide +kernel
theorem dX9_proof_5 : decode cX9_proof 5 = .ok (.aload_n 0, 1) := by decide +kernel
theorem dX9_proof_6 : decode cX9_proof 6 = .ok (.getfield 64, 3) := by decide +kernel
theorem dX9_proof_9 : decode cX9_proof 9 = .ok (.aload_n 0, 1) := by decide +kernel
theorem dX9_proof_10 : decode cX9_proof 10 = .ok (.getfield 27, 3) := by decide +kernel
theorem dX9_proof_13 : decode cX9_proof 13 = .ok (.aload_n 0, 1) := by decide +kernel
theorem dX9_proof_14 : decode cX9_proof 14 = .ok (.getfield 37, 3) := by decide +kernel
theorem dX9_proof_17 : decode cX9_proof 17 = .ok (.iload_n 1, 1) := by decide +kernel
theorem dX9_proof_18 : decode cX9_proof 18 = .ok (.invokevirtual 280, 3) := by decide +kernel
theorem dX9_proof_21 : decode cX9_proof 21 = .ok (.ireturn, 1) := by decide +kernel
set_option maxHeartbeats 4000000 in
set_option maxRecDepth 100000 in
theorem n_X9_proof (o b : Nat) (y1 : Int32) {n : Nat} {kd : mK} {I : mI} {J : mJ} {P : mP} (ho : kd o = some (0, 9)) (hp : P o 4 = some b) (hb : kd b = some (0, 7)) (hH : I b 0 = nI 0) : Ct yX9_proof cX9_proof 2 (some .int) 9 1 6 [.ref o, .int y1] n kd I J P (fun z n' kd' I' J' P' => z = .inr "java/util/NoSuchElementException" ∧ n' = n ∧ kd' = kd ∧ I' = I ∧ J' = J ∧ P' = P) := by
  have hc := c_X9_mustBeHouse (n := n) (I := I) (J := J) o b y1 ho hp hb
  rw [hH, no_house] at hc
  refine ct_of 0 (by decide +kernel) (Nat.le_of_ble_eq_true rfl) rfl ?_
  refine r_aload_n dX9_proof_0 rfl ?_
  refine r_iload_n dX9_proof_1 rfl ?_
  exact r_virtX hc lk_X9_142 mc_X9_mustBeHouse dX9_proof_2 ho (by decide) rfl rfl (Nat.le_of_ble_eq_true rfl) (by decide) (by decide) ⟨rfl, rfl, rfl, rfl, rfl, rfl⟩

theorem dX10_proof_0 : decode cX10_proof 0 = .ok (.aload_n 0, 1) := by decide +kernel
theorem dX10_proof_1 : decode cX10_proof 1 = .ok (.iconst 0, 1) := by decide +kernel
theorem dX10_proof_2 : decode cX10_proof 2 = .ok (.putfield 193, 3) := by decide +kernel
theorem dX10_proof_5 : decode cX10_proof 5 = .ok (.aload_n 0, 1) := by decide +kernel
theorem dX10_proof_6 : decode cX10_proof 6 = .ok (.iload_n 1, 1) := by decide +kernel
theorem dX10_proof_7 : decode cX10_proof 7 = .ok (.invokevirtual 373, 3) := by decide +kernel
theorem dX10_proof_10 : decode cX10_proof 10 = .ok (.ifCond .ne 5, 3) := by decide +kernel
theorem dX10_proof_13 : decode cX10_proof 13 = .ok (.iconst 0, 1) := by decide +kernel
theorem dX10_proof_14 : decode cX10_proof 14 = .ok (.ireturn, 1) := by decide +kernel
theorem dX10_proof_15 : decode cX10_proof 15 = .ok (.aload_n 0, 1) := by decide +kernel
theorem dX10_proof_16 : decode cX10_proof 16 = .ok (.invokevirtual 429, 3) := by decide +kernel
theorem dX10_proof_19 : decode cX10_proof 19 = .ok (.istore_n 2, 1) := by decide +kernel
theorem dX10_proof_20 : decode cX10_proof 20 = .ok (.iconst 0, 1) := by decide +kernel
theorem dX10_proof_21 : decode cX10_proof 21 = .ok (.istore_n 3, 1) := by decide +kernel
theorem dX10_proof_22 : decode cX10_proof 22 = .ok (.iload_n 3, 1) := by decide +kernel
theorem dX10_proof_23 : decode cX10_proof 23 = .ok (.bipush 8, 2) := by decide +kernel
theorem dX10_proof_25 : decode cX10_proof 25 = .ok (.if_icmp .gt 119, 3) := by decide +kernel
theorem dX10_proof_28 : decode cX10_proof 28 = .ok (.iconst 0, 1) := by decide +kernel
theorem dX10_proof_29 : decode cX10_proof 29 = .ok (.istore 4, 2) := by decide +kernel
theorem dX10_proof_31 : decode cX10_proof 31 = .ok (.iload 4, 2) := by decide +kernel
theorem dX10_proof_33 : decode cX10_proof 33 = .ok (.sipush 256, 3) := by decide +kernel
theorem dX10_proof_36 : decode cX10_proof 36 = .ok (.if_icmp .ge 102, 3) := by decide +kernel
theorem dX10_proof_39 : decode cX10_proof 39 = .ok (.iload 4, 2) := by decide +kernel
theorem dX10_proof_41 : decode cX10_proof 41 = .ok (.iload_n 2, 1) := by decide +kernel
theorem dX10_proof_42 : decode cX10_proof 42 = .ok (.iconst (-1), 1) := by decide +kernel
theorem dX10_proof_43 : decode cX10_proof 43 = .ok (.ixor, 1) := by decide +kernel
theorem dX10_proof_44 : decode cX10_proof 44 = .ok (.iand, 1) := by decide +kernel
theorem dX10_proof_45 : decode cX10_proof 45 = .ok (.ifCond .ne 87, 3) := by decide +kernel
theorem dX10_proof_48 : decode cX10_proof 48 = .ok (.iload 4, 2) := by decide +kernel
theorem dX10_proof_50 : decode cX10_proof 50 = .ok (.invokestatic 448, 3) := by decide +kernel
theorem dX10_proof_53 : decode cX10_proof 53 = .ok (.iload_n 3, 1) := by decide +kernel
theorem dX10_proof_54 : decode cX10_proof 54 = .ok (.if_icmp .eq 6, 3) := by decide +kernel
theorem dX10_proof_57 : decode cX10_proof 57 = .ok (.goto 75, 3) := by decide +kernel
theorem dX10_proof_60 : decode cX10_proof 60 = .ok (.aload_n 0, 1) := by decide +kernel
theorem dX10_proof_61 : decode cX10_proof 61 = .ok (.iload 4, 2) := by decide +kernel
theorem dX10_proof_63 : decode cX10_proof 63 = .ok (.iconst 0, 1) := by decide +kernel
theorem dX10_proof_64 : decode cX10_proof 64 = .ok (.iconst 1, 1) := by decide +kernel
theorem dX10_proof_65 : decode cX10_proof 65 = .ok (.invokevirtual 432, 3) := by decide +kernel
theorem dX10_proof_68 : decode cX10_proof 68 = .ok (.ifCond .ne 6, 3) := by decide +kernel
theorem dX10_proof_71 : decode cX10_proof 71 = .ok (.bipush (-2), 2) := by decide +kernel
theorem dX10_proof_73 : decode cX10_proof 73 = .ok (.ireturn, 1) := by decide +kernel
theorem dX10_proof_74 : decode cX10_proof 74 = .ok (.aload_n 0, 1) := by decide +kernel
theorem dX10_proof_75 : decode cX10_proof 75 = .ok (.getfield 413, 3) := by decide +kernel
theorem dX10_proof_78 : decode cX10_proof 78 = .ok (.ifCond .ne 6, 3) := by decide +kernel
theorem dX10_proof_81 : decode cX10_proof 81 = .ok (.goto 51, 3) := by decide +kernel
theorem dX10_proof_84 : decode cX10_proof 84 = .ok (.aload_n 0, 1) := by decide +kernel
theorem dX10_proof_85 : decode cX10_proof 85 = .ok (.iload_n 1, 1) := by decide +kernel
theorem dX10_proof_86 : decode cX10_proof 86 = .ok (.putfield 102, 3) := by decide +kernel
theorem dX10_proof_89 : decode cX10_proof 89 = .ok (.aload_n 0, 1) := by decide +kernel
theorem dX10_proof_90 : decode cX10_proof 90 = .ok (.aload_n 0, 1) := by decide +kernel
theorem dX10_proof_91 : decode cX10_proof 91 = .ok (.iconst 0, 1) := by decide +kernel
theorem dX10_proof_92 : decode cX10_proof 92 = .ok (.iload_n 1, 1) := by decide +kernel
theorem dX10_proof_93 : decode cX10_proof 93 = .ok (.invokevirtual 439, 3) := by decide +kernel
theorem dX10_proof_96 : decode cX10_proof 96 = .ok (.putfield 419, 3) := by decide +kernel
theorem dX10_proof_99 : decode cX10_proof 99 = .ok (.aload_n 0, 1) := by decide +kernel
theorem dX10_proof_100 : decode cX10_proof 100 = .ok (.iload 4, 2) := by decide +kernel
theorem dX10_proof_102 : decode cX10_proof 102 = .ok (.iconst 0, 1) := by decide +kernel
theorem dX10_proof_103 : decode cX10_proof 103 = .ok (.iconst 1, 1) := by decide +kernel
theorem dX10_proof_104 : decode cX10_proof 104 = .ok (.invokevirtual 432, 3) := by decide +kernel
theorem dX10_proof_107 : decode cX10_proof 107 = .ok (.istore 5, 2) := by decide +kernel
theorem dX10_proof_109 : decode cX10_proof 109 = .ok (.aload_n 0, 1) := by decide +kernel
theorem dX10_proof_110 : decode cX10_proof 110 = .ok (.iconst (-1), 1) := by decide +kernel
theorem dX10_proof_111 : decode cX10_proof 111 = .ok (.putfield 102, 3) := by decide +kernel
theorem dX10_proof_114 : decode cX10_proof 114 = .ok (.iload 5, 2) := by decide +kernel
theorem dX10_proof_116 : decode cX10_proof 116 = .ok (.ifCond .ne 6, 3) := by decide +kernel
theorem dX10_proof_119 : decode cX10_proof 119 = .ok (.bipush (-2), 2) := by decide +kernel
theorem dX10_proof_121 : decode cX10_proof 121 = .ok (.ireturn, 1) := by decide +kernel
theorem dX10_proof_122 : decode cX10_proof 122 = .ok (.aload_n 0, 1) := by decide +kernel
theorem dX10_proof_123 : decode cX10_proof 123 = .ok (.getfield 413, 3) := by decide +kernel
theorem dX10_proof_126 : decode cX10_proof 126 = .ok (.ifCond .ne 6, 3) := by decide +kernel
theorem dX10_proof_129 : decode cX10_proof 129 = .ok (.iload 4, 2) := by decide +kernel
theorem dX10_proof_131 : decode cX10_proof 131 = .ok (.ireturn, 1) := by decide +kernel
theorem dX10_proof_132 : decode cX10_proof 132 = .ok (.iinc 4 1, 3) := by decide +kernel
theorem dX10_proof_135 : decode cX10_proof 135 = .ok (.goto (-104), 3) := by decide +kernel
theorem dX10_proof_138 : decode cX10_proof 138 = .ok (.iinc 3 1, 3) := by decide +kernel
theorem dX10_proof_141 : decode cX10_proof 141 = .ok (.goto (-119), 3) := by decide +kernel
theorem dX10_proof_144 : decode cX10_proof 144 = .ok (.iconst (-1), 1) := by decide +kernel
theorem dX10_proof_145 : decode cX10_proof 145 = .ok (.ireturn, 1) := by decide +kernel
set_option maxHeartbeats 4000000 in
set_option maxRecDepth 100000 in
theorem n_X10_proof (m : Nat) (y1 : Int32) {n : Nat} {kd : mK} {I : mI} {J : mJ} {P : mP} (hM : kM kd P m) (hH : I m 1 = nI 0) : Ct yX10_proof cX10_proof 6 (some .int) 3 0 0 [.ref m, .int y1] n kd I J P (am_is (some (.int (nI 0))) n kd (va_up I m (va_up (I m) 0 (nI 1))) J P) := by
  refine ct_of 4 (by decide +kernel) (Nat.le_of_ble_eq_true rfl) rfl ?_
  refine r_aload_n dX10_proof_0 rfl ?_
  refine r_iconst (v := nI 0) dX10_proof_1 (by decide) ?_
  refine r_putI dX10_proof_2 fl_X10_193 rfl rfl (kM_0 hM) ?_
  refine r_aload_n dX10_proof_5 rfl ?_
  refine r_iload_n dX10_proof_6 rfl ?_
  have hc := c_X10_isHouse (n := n) (I := va_up I m (va_up (I m) 0 (nI 0))) (J := J) m y1 hM (by rw [am_up_s, am_up_s]; rfl)
  rw [show va_up I m (va_up (I m) 0 (nI 0)) m 1 = nI 0 by rw [am_up_s, am_up_n _ _ (by decide)]; exact hH, no_house] at hc
  refine r_virtE (hc) lk_X10_373 mc_X10_isHouse dX10_proof_7 (kM_0 hM) (by decide) rfl rfl (Nat.le_of_ble_eq_true rfl) ?_
  refine r_if_ne (tgt := 15) dX10_proof_10 (by decide) (fun hz => absurd (show _ from rfl) hz) (fun _ => ?_)
  refine r_iconst (v := nI 0) dX10_proof_13 (by decide) ?_
  refine r_iret rfl dX10_proof_14 ?_
  rw [show thM false (va_up I m (va_up (I m) 0 (nI 0))) m (nI 1) = va_up I m (va_up (I m) 0 (nI 1)) by show va_up (va_up I m _) m (va_up (va_up I m _ m) 0 (nI 1)) = _; rw [am_up_up, am_up_s, am_up_up]]
  exact am_is.mk

theorem dX9_changed_0 : decode cX9_changed 0 = .ok (.aload_n 0, 1) := by decide +kernel
theorem dX9_changed_1 : decode cX9_changed 1 = .ok (.iload_n 1, 1) := by decide +kernel
theorem dX9_changed_2 : decode cX9_changed 2 = .ok (.invokevirtual 142, 3) := by decide +kernel
theorem dX9_changed_5 : decode cX9_changed 5 = .ok (.aload_n 0, 1) := by decide +kernel
theorem dX9_changed_6 : decode cX9_changed 6 = .ok (.iload_n 2, 1) := by decide +kernel
theorem dX9_changed_7 : decode cX9_changed 7 = .ok (.iconst 2, 1) := by decide +kernel
theorem dX9_changed_8 : decode cX9_changed 8 = .ok (.invokevirtual 162, 3) := by decide +kernel
theorem dX9_changed_11 : decode cX9_changed 11 = .ok (.aload_n 0, 1) := by decide +kernel
theorem dX9_changed_12 : decode cX9_changed 12 = .ok (.iload 4, 2) := by decide +kernel
theorem dX9_changed_14 : decode cX9_changed 14 = .ok (.iconst 2, 1) := by decide +kernel
theorem dX9_changed_15 : decode cX9_changed 15 = .ok (.invokevirtual 162, 3) := by decide +kernel
theorem dX9_changed_18 : decode cX9_changed 18 = .ok (.iload_n 3, 1) := by decide +kernel
theorem dX9_changed_19 : decode cX9_changed 19 = .ok (.ifCond .lt 9, 3) := by decide +kernel
theorem dX9_changed_22 : decode cX9_changed 22 = .ok (.iload_n 3, 1) := by decide +kernel
theorem dX9_changed_23 : decode cX9_changed 23 = .ok (.bipush 99, 2) := by decide +kernel
theorem dX9_changed_25 : decode cX9_changed 25 = .ok (.if_icmp .le 11, 3) := by decide +kernel
theorem dX9_changed_28 : decode cX9_changed 28 = .ok (.new 110, 3) := by decide +kernel
theorem dX9_changed_31 : decode cX9_changed 31 = .ok (.dup, 1) := by decide +kernel
theorem dX9_changed_32 : decode cX9_changed 32 = .ok (.invokespecial 112, 3) := by decide +kernel
theorem dX9_changed_35 : decode cX9_changed 35 = .ok (.athrow, 1) := by decide +kernel
theorem dX9_changed_36 : decode cX9_changed 36 = .ok (.aload_n 0, 1) := by decide +kernel
theorem dX9_changed_37 : decode cX9_changed 37 = .ok (.invokevirtual 183, 3) := by decide +kernel
theorem dX9_changed_40 : decode cX9_changed 40 = .ok (.aload_n 0, 1) := by decide +kernel
theorem dX9_changed_41 : decode cX9_changed 41 = .ok (.getfield 54, 3) := by decide +kernel
theorem dX9_changed_44 : decode cX9_changed 44 = .ok (.getfield 186, 3) := by decide +kernel
theorem dX9_changed_47 : decode cX9_changed 47 = .ok (.bipush (-2), 2) := by decide +kernel
theorem dX9_changed_49 : decode cX9_changed 49 = .ok (.if_icmp .ne 6, 3) := by decide +kernel
theorem dX9_changed_52 : decode cX9_changed 52 = .ok (.bipush (-2), 2) := by decide +kernel
theorem dX9_changed_54 : decode cX9_changed 54 = .ok (.ireturn, 1) := by decide +kernel
theorem dX9_changed_55 : decode cX9_changed 55 = .ok (.aload_n 0, 1) := by decide +kernel
theorem dX9_changed_56 : decode cX9_changed 56 = .ok (.getfield 41, 3) := by decide +kernel
theorem dX9_changed_59 : decode cX9_changed 59 = .ok (.aload_n 0, 1) := by decide +kernel
theorem dX9_changed_60 : decode cX9_changed 60 = .ok (.getfield 37, 3) := by decide +kernel
theorem dX9_changed_63 : decode cX9_changed 63 = .ok (.invokevirtual 264, 3) := by decide +kernel
theorem dX9_changed_66 : decode cX9_changed 66 = .ok (.aload_n 0, 1) := by decide +kernel
theorem dX9_changed_67 : decode cX9_changed 67 = .ok (.getfield 41, 3) := by decide +kernel
theorem dX9_changed_70 : decode cX9_changed 70 = .ok (.iload_n 2, 1) := by decide +kernel
theorem dX9_changed_71 : decode cX9_changed 71 = .ok (.iload_n 1, 1) := by decide +kernel
theorem dX9_changed_72 : decode cX9_changed 72 = .ok (.iload_n 3, 1) := by decide +kernel
theorem dX9_changed_73 : decode cX9_changed 73 = .ok (.invokevirtual 274, 3) := by decide +kernel
theorem dX9_changed_76 : decode cX9_changed 76 = .ok (.aload_n 0, 1) := by decide +kernel
theorem dX9_changed_77 : decode cX9_changed 77 = .ok (.getfield 64, 3) := by decide +kernel
theorem dX9_changed_80 : decode cX9_changed 80 = .ok (.getfield 198, 3) := by decide +kernel
theorem dX9_changed_83 : decode cX9_changed 83 = .ok (.astore 5, 2) := by decide +kernel
theorem dX9_changed_85 : decode cX9_changed 85 = .ok (.aload 5, 2) := by decide +kernel
theorem dX9_changed_87 : decode cX9_changed 87 = .ok (.aload_n 0, 1) := by decide +kernel
theorem dX9_changed_88 : decode cX9_changed 88 = .ok (.getfield 27, 3) := by decide +kernel
theorem dX9_changed_91 : decode cX9_changed 91 = .ok (.aload_n 0, 1) := by decide +kernel
theorem dX9_changed_92 : decode cX9_changed 92 = .ok (.getfield 41, 3) := by decide +kernel
theorem dX9_changed_95 : decode cX9_changed 95 = .ok (.aload_n 0, 1) := by decide +kernel
theorem dX9_changed_96 : decode cX9_changed 96 = .ok (.getfield 27, 3) := by decide +kernel
theorem dX9_changed_99 : decode cX9_changed 99 = .ok (.aload_n 0, 1) := by decide +kernel
theorem dX9_changed_100 : decode cX9_changed 100 = .ok (.getfield 41, 3) := by decide +kernel
theorem dX9_changed_103 : decode cX9_changed 103 = .ok (.invokevirtual 300, 3) := by decide +kernel
theorem dX9_changed_106 : decode cX9_changed 106 = .ok (.iconst 1, 1) := by decide +kernel
theorem dX9_changed_107 : decode cX9_changed 107 = .ok (.invokevirtual 304, 3) := by decide +kernel
theorem dX9_changed_110 : decode cX9_changed 110 = .ok (.aload 5, 2) := by decide +kernel
theorem dX9_changed_112 : decode cX9_changed 112 = .ok (.invokevirtual 308, 3) := by decide +kernel
theorem dX9_changed_115 : decode cX9_changed 115 = .ok (.bipush (-2), 2) := by decide +kernel
theorem dX9_changed_117 : decode cX9_changed 117 = .ok (.if_icmp .ne 6, 3) := by decide +kernel
theorem dX9_changed_120 : decode cX9_changed 120 = .ok (.bipush (-2), 2) := by decide +kernel
theorem dX9_changed_122 : decode cX9_changed 122 = .ok (.ireturn, 1) := by decide +kernel
theorem dX9_changed_123 : decode cX9_changed 123 = .ok (.iload 4, 2) := by decide +kernel
theorem dX9_changed_125 : decode cX9_changed 125 = .ok (.ifCond .ne 12, 3) := by decide +kernel
theorem dX9_changed_128 : decode cX9_changed 128 = .ok (.aload_n 0, 1) := by decide +kernel
theorem dX9_changed_129 : decode cX9_changed 129 = .ok (.aload 5, 2) := by decide +kernel
theorem dX9_changed_131 : decode cX9_changed 131 = .ok (.invokevirtual 311, 3) := by decide +kernel
theorem dX9_changed_134 : decode cX9_changed 134 = .ok (.goto 9, 3) := by decide +kernel
theorem dX9_changed_137 : decode cX9_changed 137 = .ok (.aload_n 0, 1) := by decide +kernel
theorem dX9_changed_138 : decode cX9_changed 138 = .ok (.aload 5, 2) := by decide +kernel
theorem dX9_changed_140 : decode cX9_changed 140 = .ok (.invokevirtual 315, 3) := by decide +kernel
theorem dX9_changed_143 : decode cX9_changed 143 = .ok (.ireturn, 1) := by decide +kernel
set_option maxHeartbeats 4000000 in
set_option maxRecDepth 100000 in
theorem n_X9_changed (o b : Nat) (y1 y2 y3 y4 : Int32) {n : Nat} {kd : mK} {I : mI} {J : mJ} {P : mP} (ho : kd o = some (0, 9)) (hp : P o 4 = some b) (hb : kd b = some (0, 7)) (hH : I b 0 = nI 0) : Ct yX9_changed cX9_changed 6 (some .int) 9 1 6 [.ref o, .int y1, .int y2, .int y3, .int y4] n kd I J P (fun z n' kd' I' J' P' => z = .inr "java/util/NoSuchElementException" ∧ n' = n ∧ kd' = kd ∧ I' = I ∧ J' = J ∧ P' = P) := by
  have hc := c_X9_mustBeHouse (n := n) (I := I) (J := J) o b y1 ho hp hb
  rw [hH, no_house] at hc
  refine ct_of 1 (by decide +kernel) (Nat.le_of_ble_eq_true rfl) rfl ?_
  refine r_aload_n dX9_changed_0 rfl ?_
  refine r_iload_n dX9_changed_1 rfl ?_
  exact r_virtX hc lk_X9_142 mc_X9_mustBeHouse dX9_changed_2 ho (by decide) rfl rfl (Nat.le_of_ble_eq_true rfl) (by decide) (by decide) ⟨rfl, rfl, rfl, rfl, rfl, rfl⟩

theorem dX10_changed_0 : decode cX10_changed 0 = .ok (.aload_n 0, 1) := by decide +kernel
theorem dX10_changed_1 : decode cX10_changed 1 = .ok (.iconst 0, 1) := by decide +kernel
theorem dX10_changed_2 : decode cX10_changed 2 = .ok (.putfield 193, 3) := by decide +kernel
theorem dX10_changed_5 : decode cX10_changed 5 = .ok (.aload_n 0, 1) := by decide +kernel
theorem dX10_changed_6 : decode cX10_changed 6 = .ok (.iload_n 1, 1) := by decide +kernel
theorem dX10_changed_7 : decode cX10_changed 7 = .ok (.invokevirtual 373, 3) := by decide +kernel
theorem dX10_changed_10 : decode cX10_changed 10 = .ok (.ifCond .eq 35, 3) := by decide +kernel
theorem dX10_changed_13 : decode cX10_changed 13 = .ok (.aload_n 0, 1) := by decide +kernel
theorem dX10_changed_14 : decode cX10_changed 14 = .ok (.iload_n 2, 1) := by decide +kernel
theorem dX10_changed_15 : decode cX10_changed 15 = .ok (.invokevirtual 379, 3) := by decide +kernel
theorem dX10_changed_18 : decode cX10_changed 18 = .ok (.ifCond .eq 27, 3) := by decide +kernel
theorem dX10_changed_21 : decode cX10_changed 21 = .ok (.aload_n 0, 1) := by decide +kernel
theorem dX10_changed_22 : decode cX10_changed 22 = .ok (.iload 4, 2) := by decide +kernel
theorem dX10_changed_24 : decode cX10_changed 24 = .ok (.invokevirtual 379, 3) := by decide +kernel
theorem dX10_changed_27 : decode cX10_changed 27 = .ok (.ifCond .eq 18, 3) := by decide +kernel
theorem dX10_changed_30 : decode cX10_changed 30 = .ok (.aload_n 0, 1) := by decide +kernel
theorem dX10_changed_31 : decode cX10_changed 31 = .ok (.iload_n 3, 1) := by decide +kernel
theorem dX10_changed_32 : decode cX10_changed 32 = .ok (.iconst 0, 1) := by decide +kernel
theorem dX10_changed_33 : decode cX10_changed 33 = .ok (.bipush 99, 2) := by decide +kernel
theorem dX10_changed_35 : decode cX10_changed 35 = .ok (.invokestatic 369, 3) := by decide +kernel
theorem dX10_changed_38 : decode cX10_changed 38 = .ok (.iconst 2, 1) := by decide +kernel
theorem dX10_changed_39 : decode cX10_changed 39 = .ok (.invokevirtual 343, 3) := by decide +kernel
theorem dX10_changed_42 : decode cX10_changed 42 = .ok (.ifCond .ne 5, 3) := by decide +kernel
theorem dX10_changed_45 : decode cX10_changed 45 = .ok (.iconst 0, 1) := by decide +kernel
theorem dX10_changed_46 : decode cX10_changed 46 = .ok (.ireturn, 1) := by decide +kernel
theorem dX10_changed_47 : decode cX10_changed 47 = .ok (.aload_n 0, 1) := by decide +kernel
theorem dX10_changed_48 : decode cX10_changed 48 = .ok (.invokevirtual 436, 3) := by decide +kernel
theorem dX10_changed_51 : decode cX10_changed 51 = .ok (.ifCond .ne 6, 3) := by decide +kernel
theorem dX10_changed_54 : decode cX10_changed 54 = .ok (.bipush (-2), 2) := by decide +kernel
theorem dX10_changed_56 : decode cX10_changed 56 = .ok (.ireturn, 1) := by decide +kernel
theorem dX10_changed_57 : decode cX10_changed 57 = .ok (.aload_n 0, 1) := by decide +kernel
theorem dX10_changed_58 : decode cX10_changed 58 = .ok (.getfield 413, 3) := by decide +kernel
theorem dX10_changed_61 : decode cX10_changed 61 = .ok (.istore 5, 2) := by decide +kernel
theorem dX10_changed_63 : decode cX10_changed 63 = .ok (.iconst 0, 1) := by decide +kernel
theorem dX10_changed_64 : decode cX10_changed 64 = .ok (.istore 6, 2) := by decide +kernel
theorem dX10_changed_66 : decode cX10_changed 66 = .ok (.iload 6, 2) := by decide +kernel
theorem dX10_changed_68 : decode cX10_changed 68 = .ok (.aload_n 0, 1) := by decide +kernel
theorem dX10_changed_69 : decode cX10_changed 69 = .ok (.getfield 350, 3) := by decide +kernel
theorem dX10_changed_72 : decode cX10_changed 72 = .ok (.if_icmp .ge 36, 3) := by decide +kernel
theorem dX10_changed_75 : decode cX10_changed 75 = .ok (.aload_n 0, 1) := by decide +kernel
theorem dX10_changed_76 : decode cX10_changed 76 = .ok (.getfield 124, 3) := by decide +kernel
theorem dX10_changed_79 : decode cX10_changed 79 = .ok (.iload 6, 2) := by decide +kernel
theorem dX10_changed_81 : decode cX10_changed 81 = .ok (.aload_n 0, 1) := by decide +kernel
theorem dX10_changed_82 : decode cX10_changed 82 = .ok (.iload 6, 2) := by decide +kernel
theorem dX10_changed_84 : decode cX10_changed 84 = .ok (.invokevirtual 442, 3) := by decide +kernel
theorem dX10_changed_87 : decode cX10_changed 87 = .ok (.iastore, 1) := by decide +kernel
theorem dX10_changed_88 : decode cX10_changed 88 = .ok (.aload_n 0, 1) := by decide +kernel
theorem dX10_changed_89 : decode cX10_changed 89 = .ok (.getfield 127, 3) := by decide +kernel
theorem dX10_changed_92 : decode cX10_changed 92 = .ok (.iload 6, 2) := by decide +kernel
theorem dX10_changed_94 : decode cX10_changed 94 = .ok (.aload_n 0, 1) := by decide +kernel
theorem dX10_changed_95 : decode cX10_changed 95 = .ok (.iconst 0, 1) := by decide +kernel
theorem dX10_changed_96 : decode cX10_changed 96 = .ok (.iload 6, 2) := by decide +kernel
theorem dX10_changed_98 : decode cX10_changed 98 = .ok (.invokevirtual 439, 3) := by decide +kernel
theorem dX10_changed_101 : decode cX10_changed 101 = .ok (.iastore, 1) := by decide +kernel
theorem dX10_changed_102 : decode cX10_changed 102 = .ok (.iinc 6 1, 3) := by decide +kernel
theorem dX10_changed_105 : decode cX10_changed 105 = .ok (.goto (-39), 3) := by decide +kernel
theorem dX10_changed_108 : decode cX10_changed 108 = .ok (.aload_n 0, 1) := by decide +kernel
theorem dX10_changed_109 : decode cX10_changed 109 = .ok (.iload_n 1, 1) := by decide +kernel
theorem dX10_changed_110 : decode cX10_changed 110 = .ok (.iload_n 2, 1) := by decide +kernel
theorem dX10_changed_111 : decode cX10_changed 111 = .ok (.iload_n 3, 1) := by decide +kernel
theorem dX10_changed_112 : decode cX10_changed 112 = .ok (.invokevirtual 385, 3) := by decide +kernel
theorem dX10_changed_115 : decode cX10_changed 115 = .ok (.istore 6, 2) := by decide +kernel
theorem dX10_changed_117 : decode cX10_changed 117 = .ok (.aload_n 0, 1) := by decide +kernel
theorem dX10_changed_118 : decode cX10_changed 118 = .ok (.invokevirtual 436, 3) := by decide +kernel
theorem dX10_changed_121 : decode cX10_changed 121 = .ok (.istore 7, 2) := by decide +kernel
theorem dX10_changed_123 : decode cX10_changed 123 = .ok (.aload_n 0, 1) := by decide +kernel
theorem dX10_changed_124 : decode cX10_changed 124 = .ok (.iload_n 1, 1) := by decide +kernel
theorem dX10_changed_125 : decode cX10_changed 125 = .ok (.iload_n 2, 1) := by decide +kernel
theorem dX10_changed_126 : decode cX10_changed 126 = .ok (.iload 6, 2) := by decide +kernel
theorem dX10_changed_128 : decode cX10_changed 128 = .ok (.invokevirtual 385, 3) := by decide +kernel
theorem dX10_changed_131 : decode cX10_changed 131 = .ok (.pop, 1) := by decide +kernel
theorem dX10_changed_132 : decode cX10_changed 132 = .ok (.iload 7, 2) := by decide +kernel
theorem dX10_changed_134 : decode cX10_changed 134 = .ok (.ifCond .ne 6, 3) := by decide +kernel
theorem dX10_changed_137 : decode cX10_changed 137 = .ok (.bipush (-2), 2) := by decide +kernel
theorem dX10_changed_139 : decode cX10_changed 139 = .ok (.ireturn, 1) := by decide +kernel
theorem dX10_changed_140 : decode cX10_changed 140 = .ok (.iconst 0, 1) := by decide +kernel
theorem dX10_changed_141 : decode cX10_changed 141 = .ok (.istore 8, 2) := by decide +kernel
theorem dX10_changed_143 : decode cX10_changed 143 = .ok (.iconst 0, 1) := by decide +kernel
theorem dX10_changed_144 : decode cX10_changed 144 = .ok (.istore 9, 2) := by decide +kernel
theorem dX10_changed_146 : decode cX10_changed 146 = .ok (.iconst 0, 1) := by decide +kernel
theorem dX10_changed_147 : decode cX10_changed 147 = .ok (.istore 10, 2) := by decide +kernel
theorem dX10_changed_149 : decode cX10_changed 149 = .ok (.iload 10, 2) := by decide +kernel
theorem dX10_changed_151 : decode cX10_changed 151 = .ok (.aload_n 0, 1) := by decide +kernel
theorem dX10_changed_152 : decode cX10_changed 152 = .ok (.getfield 350, 3) := by decide +kernel
theorem dX10_changed_155 : decode cX10_changed 155 = .ok (.if_icmp .ge 90, 3) := by decide +kernel
theorem dX10_changed_158 : decode cX10_changed 158 = .ok (.iload 8, 2) := by decide +kernel
theorem dX10_changed_160 : decode cX10_changed 160 = .ok (.aload_n 0, 1) := by decide +kernel
theorem dX10_changed_161 : decode cX10_changed 161 = .ok (.iload 10, 2) := by decide +kernel
theorem dX10_changed_163 : decode cX10_changed 163 = .ok (.invokevirtual 442, 3) := by decide +kernel
theorem dX10_changed_166 : decode cX10_changed 166 = .ok (.aload_n 0, 1) := by decide +kernel
theorem dX10_changed_167 : decode cX10_changed 167 = .ok (.getfield 124, 3) := by decide +kernel
theorem dX10_changed_170 : decode cX10_changed 170 = .ok (.iload 10, 2) := by decide +kernel
theorem dX10_changed_172 : decode cX10_changed 172 = .ok (.iaload, 1) := by decide +kernel
theorem dX10_changed_173 : decode cX10_changed 173 = .ok (.if_icmp .eq 7, 3) := by decide +kernel
theorem dX10_changed_176 : decode cX10_changed 176 = .ok (.iconst 1, 1) := by decide +kernel
theorem dX10_changed_177 : decode cX10_changed 177 = .ok (.goto 4, 3) := by decide +kernel
theorem dX10_changed_180 : decode cX10_changed 180 = .ok (.iconst 0, 1) := by decide +kernel
theorem dX10_changed_181 : decode cX10_changed 181 = .ok (.iadd, 1) := by decide +kernel
theorem dX10_changed_182 : decode cX10_changed 182 = .ok (.istore 8, 2) := by decide +kernel
theorem dX10_changed_184 : decode cX10_changed 184 = .ok (.iload 9, 2) := by decide +kernel
theorem dX10_changed_186 : decode cX10_changed 186 = .ok (.aload_n 0, 1) := by decide +kernel
theorem dX10_changed_187 : decode cX10_changed 187 = .ok (.iconst 0, 1) := by decide +kernel
theorem dX10_changed_188 : decode cX10_changed 188 = .ok (.iload 10, 2) := by decide +kernel
theorem dX10_changed_190 : decode cX10_changed 190 = .ok (.invokevirtual 439, 3) := by decide +kernel
theorem dX10_changed_193 : decode cX10_changed 193 = .ok (.aload_n 0, 1) := by decide +kernel
theorem dX10_changed_194 : decode cX10_changed 194 = .ok (.getfield 127, 3) := by decide +kernel
theorem dX10_changed_197 : decode cX10_changed 197 = .ok (.iload 10, 2) := by decide +kernel
theorem dX10_changed_199 : decode cX10_changed 199 = .ok (.iaload, 1) := by decide +kernel
theorem dX10_changed_200 : decode cX10_changed 200 = .ok (.if_icmp .ge 21, 3) := by decide +kernel
theorem dX10_changed_203 : decode cX10_changed 203 = .ok (.aload_n 0, 1) := by decide +kernel
theorem dX10_changed_204 : decode cX10_changed 204 = .ok (.getfield 127, 3) := by decide +kernel
theorem dX10_changed_207 : decode cX10_changed 207 = .ok (.iload 10, 2) := by decide +kernel
theorem dX10_changed_209 : decode cX10_changed 209 = .ok (.iaload, 1) := by decide +kernel
theorem dX10_changed_210 : decode cX10_changed 210 = .ok (.aload_n 0, 1) := by decide +kernel
theorem dX10_changed_211 : decode cX10_changed 211 = .ok (.iconst 0, 1) := by decide +kernel
theorem dX10_changed_212 : decode cX10_changed 212 = .ok (.iload 10, 2) := by decide +kernel
theorem dX10_changed_214 : decode cX10_changed 214 = .ok (.invokevirtual 439, 3) := by decide +kernel
theorem dX10_changed_217 : decode cX10_changed 217 = .ok (.isub, 1) := by decide +kernel
theorem dX10_changed_218 : decode cX10_changed 218 = .ok (.goto 18, 3) := by decide +kernel
theorem dX10_changed_221 : decode cX10_changed 221 = .ok (.aload_n 0, 1) := by decide +kernel
theorem dX10_changed_222 : decode cX10_changed 222 = .ok (.iconst 0, 1) := by decide +kernel
theorem dX10_changed_223 : decode cX10_changed 223 = .ok (.iload 10, 2) := by decide +kernel
theorem dX10_changed_225 : decode cX10_changed 225 = .ok (.invokevirtual 439, 3) := by decide +kernel
theorem dX10_changed_228 : decode cX10_changed 228 = .ok (.aload_n 0, 1) := by decide +kernel
theorem dX10_changed_229 : decode cX10_changed 229 = .ok (.getfield 127, 3) := by decide +kernel
theorem dX10_changed_232 : decode cX10_changed 232 = .ok (.iload 10, 2) := by decide +kernel
theorem dX10_changed_234 : decode cX10_changed 234 = .ok (.iaload, 1) := by decide +kernel
theorem dX10_changed_235 : decode cX10_changed 235 = .ok (.isub, 1) := by decide +kernel
theorem dX10_changed_236 : decode cX10_changed 236 = .ok (.iadd, 1) := by decide +kernel
theorem dX10_changed_237 : decode cX10_changed 237 = .ok (.istore 9, 2) := by decide +kernel
theorem dX10_changed_239 : decode cX10_changed 239 = .ok (.iinc 10 1, 3) := by decide +kernel
theorem dX10_changed_242 : decode cX10_changed 242 = .ok (.goto (-93), 3) := by decide +kernel
theorem dX10_changed_245 : decode cX10_changed 245 = .ok (.iload 4, 2) := by decide +kernel
theorem dX10_changed_247 : decode cX10_changed 247 = .ok (.ifCond .ne 8, 3) := by decide +kernel
theorem dX10_changed_250 : decode cX10_changed 250 = .ok (.iload 8, 2) := by decide +kernel
theorem dX10_changed_252 : decode cX10_changed 252 = .ok (.goto 21, 3) := by decide +kernel
theorem dX10_changed_255 : decode cX10_changed 255 = .ok (.iload 5, 2) := by decide +kernel
theorem dX10_changed_257 : decode cX10_changed 257 = .ok (.ifCond .eq 10, 3) := by decide +kernel
theorem dX10_changed_260 : decode cX10_changed 260 = .ok (.aload_n 0, 1) := by decide +kernel
theorem dX10_changed_261 : decode cX10_changed 261 = .ok (.getfield 413, 3) := by decide +kernel
theorem dX10_changed_264 : decode cX10_changed 264 = .ok (.ifCond .ne 7, 3) := by decide +kernel
theorem dX10_changed_267 : decode cX10_changed 267 = .ok (.iconst (-1), 1) := by decide +kernel
theorem dX10_changed_268 : decode cX10_changed 268 = .ok (.goto 5, 3) := by decide +kernel
theorem dX10_changed_271 : decode cX10_changed 271 = .ok (.iload 9, 2) := by decide +kernel
theorem dX10_changed_273 : decode cX10_changed 273 = .ok (.ireturn, 1) := by decide +kernel
set_option maxHeartbeats 4000000 in
set_option maxRecDepth 100000 in
theorem n_X10_changed (m : Nat) (y1 y2 y3 y4 : Int32) {n : Nat} {kd : mK} {I : mI} {J : mJ} {P : mP} (hM : kM kd P m) (hH : I m 1 = nI 0) : Ct yX10_changed cX10_changed 11 (some .int) 3 0 0 [.ref m, .int y1, .int y2, .int y3, .int y4] n kd I J P (am_is (some (.int (nI 0))) n kd (va_up I m (va_up (I m) 0 (nI 1))) J P) := by
  refine ct_of 6 (by decide +kernel) (Nat.le_of_ble_eq_true rfl) rfl ?_
  refine r_aload_n dX10_changed_0 rfl ?_
  refine r_iconst (v := nI 0) dX10_changed_1 (by decide) ?_
  refine r_putI dX10_changed_2 fl_X10_193 rfl rfl (kM_0 hM) ?_
  refine r_aload_n dX10_changed_5 rfl ?_
  refine r_iload_n dX10_changed_6 rfl ?_
  have hc := c_X10_isHouse (n := n) (I := va_up I m (va_up (I m) 0 (nI 0))) (J := J) m y1 hM (by rw [am_up_s, am_up_s]; rfl)
  rw [show va_up I m (va_up (I m) 0 (nI 0)) m 1 = nI 0 by rw [am_up_s, am_up_n _ _ (by decide)]; exact hH, no_house] at hc
  refine r_virtE (hc) lk_X10_373 mc_X10_isHouse dX10_changed_7 (kM_0 hM) (by decide) rfl rfl (Nat.le_of_ble_eq_true rfl) ?_
  refine r_if_eq (tgt := 45) dX10_changed_10 (by decide) (fun _ => ?_) (fun hz => absurd (show _ from rfl) hz)
  refine r_iconst (v := nI 0) dX10_changed_45 (by decide) ?_
  refine r_iret rfl dX10_changed_46 ?_
  rw [show thM false (va_up I m (va_up (I m) 0 (nI 0))) m (nI 1) = va_up I m (va_up (I m) 0 (nI 1)) by show va_up (va_up I m _) m (va_up (va_up I m _ m) 0 (nI 1)) = _; rw [am_up_up, am_up_s, am_up_up]]
  exact am_is.mk

theorem dX9_ring_0 : decode cX9_ring 0 = .ok (.aload_n 0, 1) := by decide +kernel
theorem dX9_ring_1 : decode cX9_ring 1 = .ok (.iload_n 1, 1) := by decide +kernel
theorem dX9_ring_2 : decode cX9_ring 2 = .ok (.invokevirtual 142, 3) := by decide +kernel
theorem dX9_ring_5 : decode cX9_ring 5 = .ok (.aload_n 0, 1) := by decide +kernel
theorem dX9_ring_6 : decode cX9_ring 6 = .ok (.iload_n 2, 1) := by decide +kernel
theorem dX9_ring_7 : decode cX9_ring 7 = .ok (.iconst 2, 1) := by decide +kernel
theorem dX9_ring_8 : decode cX9_ring 8 = .ok (.invokevirtual 162, 3) := by decide +kernel
theorem dX9_ring_11 : decode cX9_ring 11 = .ok (.aload_n 0, 1) := by decide +kernel
theorem dX9_ring_12 : decode cX9_ring 12 = .ok (.getfield 27, 3) := by decide +kernel
theorem dX9_ring_15 : decode cX9_ring 15 = .ok (.aload_n 0, 1) := by decide +kernel
theorem dX9_ring_16 : decode cX9_ring 16 = .ok (.getfield 37, 3) := by decide +kernel
theorem dX9_ring_19 : decode cX9_ring 19 = .ok (.invokevirtual 300, 3) := by decide +kernel
theorem dX9_ring_22 : decode cX9_ring 22 = .ok (.istore_n 3, 1) := by decide +kernel
theorem dX9_ring_23 : decode cX9_ring 23 = .ok (.iload_n 2, 1) := by decide +kernel
theorem dX9_ring_24 : decode cX9_ring 24 = .ok (.ifCond .ne 15, 3) := by decide +kernel
theorem dX9_ring_27 : decode cX9_ring 27 = .ok (.aload_n 0, 1) := by decide +kernel
theorem dX9_ring_28 : decode cX9_ring 28 = .ok (.getfield 27, 3) := by decide +kernel
theorem dX9_ring_31 : decode cX9_ring 31 = .ok (.iload_n 1, 1) := by decide +kernel
theorem dX9_ring_32 : decode cX9_ring 32 = .ok (.iload_n 3, 1) := by decide +kernel
theorem dX9_ring_33 : decode cX9_ring 33 = .ok (.invokevirtual 337, 3) := by decide +kernel
theorem dX9_ring_36 : decode cX9_ring 36 = .ok (.goto 12, 3) := by decide +kernel
theorem dX9_ring_39 : decode cX9_ring 39 = .ok (.aload_n 0, 1) := by decide +kernel
theorem dX9_ring_40 : decode cX9_ring 40 = .ok (.getfield 27, 3) := by decide +kernel
theorem dX9_ring_43 : decode cX9_ring 43 = .ok (.iload_n 1, 1) := by decide +kernel
theorem dX9_ring_44 : decode cX9_ring 44 = .ok (.iload_n 3, 1) := by decide +kernel
theorem dX9_ring_45 : decode cX9_ring 45 = .ok (.invokevirtual 340, 3) := by decide +kernel
theorem dX9_ring_48 : decode cX9_ring 48 = .ok (.ireturn, 1) := by decide +kernel
set_option maxHeartbeats 4000000 in
set_option maxRecDepth 100000 in
theorem n_X9_ring (o b : Nat) (y1 y2 : Int32) {n : Nat} {kd : mK} {I : mI} {J : mJ} {P : mP} (ho : kd o = some (0, 9)) (hp : P o 4 = some b) (hb : kd b = some (0, 7)) (hH : I b 0 = nI 0) : Ct yX9_ring cX9_ring 4 (some .int) 9 1 6 [.ref o, .int y1, .int y2] n kd I J P (fun z n' kd' I' J' P' => z = .inr "java/util/NoSuchElementException" ∧ n' = n ∧ kd' = kd ∧ I' = I ∧ J' = J ∧ P' = P) := by
  have hc := c_X9_mustBeHouse (n := n) (I := I) (J := J) o b y1 ho hp hb
  rw [hH, no_house] at hc
  refine ct_of 1 (by decide +kernel) (Nat.le_of_ble_eq_true rfl) rfl ?_
  refine r_aload_n dX9_ring_0 rfl ?_
  refine r_iload_n dX9_ring_1 rfl ?_
  exact r_virtX hc lk_X9_142 mc_X9_mustBeHouse dX9_ring_2 ho (by decide) rfl rfl (Nat.le_of_ble_eq_true rfl) (by decide) (by decide) ⟨rfl, rfl, rfl, rfl, rfl, rfl⟩

theorem dX10_ring_0 : decode cX10_ring 0 = .ok (.aload_n 0, 1) := by decide +kernel
theorem dX10_ring_1 : decode cX10_ring 1 = .ok (.iconst 0, 1) := by decide +kernel
theorem dX10_ring_2 : decode cX10_ring 2 = .ok (.putfield 193, 3) := by decide +kernel
theorem dX10_ring_5 : decode cX10_ring 5 = .ok (.aload_n 0, 1) := by decide +kernel
theorem dX10_ring_6 : decode cX10_ring 6 = .ok (.iload_n 1, 1) := by decide +kernel
theorem dX10_ring_7 : decode cX10_ring 7 = .ok (.invokevirtual 373, 3) := by decide +kernel
theorem dX10_ring_10 : decode cX10_ring 10 = .ok (.ifCond .eq 11, 3) := by decide +kernel
theorem dX10_ring_13 : decode cX10_ring 13 = .ok (.aload_n 0, 1) := by decide +kernel
theorem dX10_ring_14 : decode cX10_ring 14 = .ok (.iload_n 2, 1) := by decide +kernel
theorem dX10_ring_15 : decode cX10_ring 15 = .ok (.invokevirtual 379, 3) := by decide +kernel
theorem dX10_ring_18 : decode cX10_ring 18 = .ok (.ifCond .ne 5, 3) := by decide +kernel
theorem dX10_ring_21 : decode cX10_ring 21 = .ok (.iconst 0, 1) := by decide +kernel
theorem dX10_ring_22 : decode cX10_ring 22 = .ok (.ireturn, 1) := by decide +kernel
theorem dX10_ring_23 : decode cX10_ring 23 = .ok (.iload_n 2, 1) := by decide +kernel
theorem dX10_ring_24 : decode cX10_ring 24 = .ok (.ifCond .ne 11, 3) := by decide +kernel
theorem dX10_ring_27 : decode cX10_ring 27 = .ok (.aload_n 0, 1) := by decide +kernel
theorem dX10_ring_28 : decode cX10_ring 28 = .ok (.iload_n 1, 1) := by decide +kernel
theorem dX10_ring_29 : decode cX10_ring 29 = .ok (.invokevirtual 499, 3) := by decide +kernel
theorem dX10_ring_32 : decode cX10_ring 32 = .ok (.goto 8, 3) := by decide +kernel
theorem dX10_ring_35 : decode cX10_ring 35 = .ok (.aload_n 0, 1) := by decide +kernel
theorem dX10_ring_36 : decode cX10_ring 36 = .ok (.iload_n 1, 1) := by decide +kernel
theorem dX10_ring_37 : decode cX10_ring 37 = .ok (.invokevirtual 502, 3) := by decide +kernel
theorem dX10_ring_40 : decode cX10_ring 40 = .ok (.ireturn, 1) := by decide +kernel
set_option maxHeartbeats 4000000 in
set_option maxRecDepth 100000 in
theorem n_X10_ring (m : Nat) (y1 y2 : Int32) {n : Nat} {kd : mK} {I : mI} {J : mJ} {P : mP} (hM : kM kd P m) (hH : I m 1 = nI 0) : Ct yX10_ring cX10_ring 3 (some .int) 3 0 0 [.ref m, .int y1, .int y2] n kd I J P (am_is (some (.int (nI 0))) n kd (va_up I m (va_up (I m) 0 (nI 1))) J P) := by
  refine ct_of 0 (by decide +kernel) (Nat.le_of_ble_eq_true rfl) rfl ?_
  refine r_aload_n dX10_ring_0 rfl ?_
  refine r_iconst (v := nI 0) dX10_ring_1 (by decide) ?_
  refine r_putI dX10_ring_2 fl_X10_193 rfl rfl (kM_0 hM) ?_
  refine r_aload_n dX10_ring_5 rfl ?_
  refine r_iload_n dX10_ring_6 rfl ?_
  have hc := c_X10_isHouse (n := n) (I := va_up I m (va_up (I m) 0 (nI 0))) (J := J) m y1 hM (by rw [am_up_s, am_up_s]; rfl)
  rw [show va_up I m (va_up (I m) 0 (nI 0)) m 1 = nI 0 by rw [am_up_s, am_up_n _ _ (by decide)]; exact hH, no_house] at hc
  refine r_virtE (hc) lk_X10_373 mc_X10_isHouse dX10_ring_7 (kM_0 hM) (by decide) rfl rfl (Nat.le_of_ble_eq_true rfl) ?_
  refine r_if_eq (tgt := 21) dX10_ring_10 (by decide) (fun _ => ?_) (fun hz => absurd (show _ from rfl) hz)
  refine r_iconst (v := nI 0) dX10_ring_21 (by decide) ?_
  refine r_iret rfl dX10_ring_22 ?_
  rw [show thM false (va_up I m (va_up (I m) 0 (nI 0))) m (nI 1) = va_up I m (va_up (I m) 0 (nI 1)) by show va_up (va_up I m _) m (va_up (va_up I m _ m) 0 (nI 1)) = _; rw [am_up_up, am_up_s, am_up_up]]
  exact am_is.mk

theorem dX9_left_0 : decode cX9_left 0 = .ok (.aload_n 0, 1) := by decide +kernel
theorem dX9_left_1 : decode cX9_left 1 = .ok (.iload_n 1, 1) := by decide +kernel
theorem dX9_left_2 : decode cX9_left 2 = .ok (.invokevirtual 142, 3) := by decide +kernel
theorem dX9_left_5 : decode cX9_left 5 = .ok (.aload_n 0, 1) := by decide +kernel
theorem dX9_left_6 : decode cX9_left 6 = .ok (.iload_n 2, 1) := by decide +kernel
theorem dX9_left_7 : decode cX9_left 7 = .ok (.invokevirtual 235, 3) := by decide +kernel
theorem dX9_left_10 : decode cX9_left 10 = .ok (.aload_n 0, 1) := by decide +kernel
theorem dX9_left_11 : decode cX9_left 11 = .ok (.invokevirtual 183, 3) := by decide +kernel
theorem dX9_left_14 : decode cX9_left 14 = .ok (.aload_n 0, 1) := by decide +kernel
theorem dX9_left_15 : decode cX9_left 15 = .ok (.getfield 54, 3) := by decide +kernel
theorem dX9_left_18 : decode cX9_left 18 = .ok (.getfield 186, 3) := by decide +kernel
theorem dX9_left_21 : decode cX9_left 21 = .ok (.bipush (-2), 2) := by decide +kernel
theorem dX9_left_23 : decode cX9_left 23 = .ok (.if_icmp .ne 8, 3) := by decide +kernel
theorem dX9_left_26 : decode cX9_left 26 = .ok (.bipush (-2), 2) := by decide +kernel
theorem dX9_left_28 : decode cX9_left 28 = .ok (.goto 12, 3) := by decide +kernel
theorem dX9_left_31 : decode cX9_left 31 = .ok (.aload_n 0, 1) := by decide +kernel
theorem dX9_left_32 : decode cX9_left 32 = .ok (.getfield 54, 3) := by decide +kernel
theorem dX9_left_35 : decode cX9_left 35 = .ok (.iload_n 1, 1) := by decide +kernel
theorem dX9_left_36 : decode cX9_left 36 = .ok (.iload_n 2, 1) := by decide +kernel
theorem dX9_left_37 : decode cX9_left 37 = .ok (.invokevirtual 351, 3) := by decide +kernel
theorem dX9_left_40 : decode cX9_left 40 = .ok (.ireturn, 1) := by decide +kernel
set_option maxHeartbeats 4000000 in
set_option maxRecDepth 100000 in
theorem n_X9_left (o b : Nat) (y1 y2 : Int32) {n : Nat} {kd : mK} {I : mI} {J : mJ} {P : mP} (ho : kd o = some (0, 9)) (hp : P o 4 = some b) (hb : kd b = some (0, 7)) (hH : I b 0 = nI 0) : Ct yX9_left cX9_left 3 (some .int) 9 1 6 [.ref o, .int y1, .int y2] n kd I J P (fun z n' kd' I' J' P' => z = .inr "java/util/NoSuchElementException" ∧ n' = n ∧ kd' = kd ∧ I' = I ∧ J' = J ∧ P' = P) := by
  have hc := c_X9_mustBeHouse (n := n) (I := I) (J := J) o b y1 ho hp hb
  rw [hH, no_house] at hc
  refine ct_of 0 (by decide +kernel) (Nat.le_of_ble_eq_true rfl) rfl ?_
  refine r_aload_n dX9_left_0 rfl ?_
  refine r_iload_n dX9_left_1 rfl ?_
  exact r_virtX hc lk_X9_142 mc_X9_mustBeHouse dX9_left_2 ho (by decide) rfl rfl (Nat.le_of_ble_eq_true rfl) (by decide) (by decide) ⟨rfl, rfl, rfl, rfl, rfl, rfl⟩

theorem dX10_left_0 : decode cX10_left 0 = .ok (.aload_n 0, 1) := by decide +kernel
theorem dX10_left_1 : decode cX10_left 1 = .ok (.iconst 0, 1) := by decide +kernel
theorem dX10_left_2 : decode cX10_left 2 = .ok (.putfield 193, 3) := by decide +kernel
theorem dX10_left_5 : decode cX10_left 5 = .ok (.aload_n 0, 1) := by decide +kernel
theorem dX10_left_6 : decode cX10_left 6 = .ok (.iload_n 1, 1) := by decide +kernel
theorem dX10_left_7 : decode cX10_left 7 = .ok (.invokevirtual 373, 3) := by decide +kernel
theorem dX10_left_10 : decode cX10_left 10 = .ok (.ifCond .eq 20, 3) := by decide +kernel
theorem dX10_left_13 : decode cX10_left 13 = .ok (.aload_n 0, 1) := by decide +kernel
theorem dX10_left_14 : decode cX10_left 14 = .ok (.iload_n 2, 1) := by decide +kernel
theorem dX10_left_15 : decode cX10_left 15 = .ok (.iconst 1, 1) := by decide +kernel
theorem dX10_left_16 : decode cX10_left 16 = .ok (.aload_n 0, 1) := by decide +kernel
theorem dX10_left_17 : decode cX10_left 17 = .ok (.getfield 7, 3) := by decide +kernel
theorem dX10_left_20 : decode cX10_left 20 = .ok (.invokestatic 369, 3) := by decide +kernel
theorem dX10_left_23 : decode cX10_left 23 = .ok (.iconst 2, 1) := by decide +kernel
theorem dX10_left_24 : decode cX10_left 24 = .ok (.invokevirtual 343, 3) := by decide +kernel
theorem dX10_left_27 : decode cX10_left 27 = .ok (.ifCond .ne 5, 3) := by decide +kernel
theorem dX10_left_30 : decode cX10_left 30 = .ok (.iconst 0, 1) := by decide +kernel
theorem dX10_left_31 : decode cX10_left 31 = .ok (.ireturn, 1) := by decide +kernel
theorem dX10_left_32 : decode cX10_left 32 = .ok (.aload_n 0, 1) := by decide +kernel
theorem dX10_left_33 : decode cX10_left 33 = .ok (.invokevirtual 436, 3) := by decide +kernel
theorem dX10_left_36 : decode cX10_left 36 = .ok (.ifCond .eq 12, 3) := by decide +kernel
theorem dX10_left_39 : decode cX10_left 39 = .ok (.aload_n 0, 1) := by decide +kernel
theorem dX10_left_40 : decode cX10_left 40 = .ok (.iload_n 1, 1) := by decide +kernel
theorem dX10_left_41 : decode cX10_left 41 = .ok (.iload_n 2, 1) := by decide +kernel
theorem dX10_left_42 : decode cX10_left 42 = .ok (.invokevirtual 526, 3) := by decide +kernel
theorem dX10_left_45 : decode cX10_left 45 = .ok (.goto 5, 3) := by decide +kernel
theorem dX10_left_48 : decode cX10_left 48 = .ok (.bipush (-2), 2) := by decide +kernel
theorem dX10_left_50 : decode cX10_left 50 = .ok (.ireturn, 1) := by decide +kernel
set_option maxHeartbeats 4000000 in
set_option maxRecDepth 100000 in
theorem n_X10_left (m : Nat) (y1 y2 : Int32) {n : Nat} {kd : mK} {I : mI} {J : mJ} {P : mP} (hM : kM kd P m) (hH : I m 1 = nI 0) : Ct yX10_left cX10_left 3 (some .int) 3 0 0 [.ref m, .int y1, .int y2] n kd I J P (am_is (some (.int (nI 0))) n kd (va_up I m (va_up (I m) 0 (nI 1))) J P) := by
  refine ct_of 0 (by decide +kernel) (Nat.le_of_ble_eq_true rfl) rfl ?_
  refine r_aload_n dX10_left_0 rfl ?_
  refine r_iconst (v := nI 0) dX10_left_1 (by decide) ?_
  refine r_putI dX10_left_2 fl_X10_193 rfl rfl (kM_0 hM) ?_
  refine r_aload_n dX10_left_5 rfl ?_
  refine r_iload_n dX10_left_6 rfl ?_
  have hc := c_X10_isHouse (n := n) (I := va_up I m (va_up (I m) 0 (nI 0))) (J := J) m y1 hM (by rw [am_up_s, am_up_s]; rfl)
  rw [show va_up I m (va_up (I m) 0 (nI 0)) m 1 = nI 0 by rw [am_up_s, am_up_n _ _ (by decide)]; exact hH, no_house] at hc
  refine r_virtE (hc) lk_X10_373 mc_X10_isHouse dX10_left_7 (kM_0 hM) (by decide) rfl rfl (Nat.le_of_ble_eq_true rfl) ?_
  refine r_if_eq (tgt := 30) dX10_left_10 (by decide) (fun _ => ?_) (fun hz => absurd (show _ from rfl) hz)
  refine r_iconst (v := nI 0) dX10_left_30 (by decide) ?_
  refine r_iret rfl dX10_left_31 ?_
  rw [show thM false (va_up I m (va_up (I m) 0 (nI 0))) m (nI 1) = va_up I m (va_up (I m) 0 (nI 1)) by show va_up (va_up I m _) m (va_up (va_up I m _ m) 0 (nI 1)) = _; rw [am_up_up, am_up_s, am_up_up]]
  exact am_is.mk

theorem dX9_look_0 : decode cX9_look 0 = .ok (.aload_n 0, 1) := by decide +kernel
theorem dX9_look_1 : decode cX9_look 1 = .ok (.iload_n 1, 1) := by decide +kernel
theorem dX9_look_2 : decode cX9_look 2 = .ok (.invokevirtual 142, 3) := by decide +kernel
theorem dX9_look_5 : decode cX9_look 5 = .ok (.aload_n 0, 1) := by decide +kernel
theorem dX9_look_6 : decode cX9_look 6 = .ok (.iload_n 2, 1) := by decide +kernel
theorem dX9_look_7 : decode cX9_look 7 = .ok (.iconst 3, 1) := by decide +kernel
theorem dX9_look_8 : decode cX9_look 8 = .ok (.invokevirtual 162, 3) := by decide +kernel
theorem dX9_look_11 : decode cX9_look 11 = .ok (.aload_n 0, 1) := by decide +kernel
theorem dX9_look_12 : decode cX9_look 12 = .ok (.invokevirtual 183, 3) := by decide +kernel
theorem dX9_look_15 : decode cX9_look 15 = .ok (.aload_n 0, 1) := by decide +kernel
theorem dX9_look_16 : decode cX9_look 16 = .ok (.getfield 54, 3) := by decide +kernel
theorem dX9_look_19 : decode cX9_look 19 = .ok (.getfield 186, 3) := by decide +kernel
theorem dX9_look_22 : decode cX9_look 22 = .ok (.bipush (-2), 2) := by decide +kernel
theorem dX9_look_24 : decode cX9_look 24 = .ok (.if_icmp .ne 6, 3) := by decide +kernel
theorem dX9_look_27 : decode cX9_look 27 = .ok (.bipush (-2), 2) := by decide +kernel
theorem dX9_look_29 : decode cX9_look 29 = .ok (.ireturn, 1) := by decide +kernel
theorem dX9_look_30 : decode cX9_look 30 = .ok (.iconst 0, 1) := by decide +kernel
theorem dX9_look_31 : decode cX9_look 31 = .ok (.istore_n 3, 1) := by decide +kernel
theorem dX9_look_32 : decode cX9_look 32 = .ok (.iconst 0, 1) := by decide +kernel
theorem dX9_look_33 : decode cX9_look 33 = .ok (.istore 4, 2) := by decide +kernel
theorem dX9_look_35 : decode cX9_look 35 = .ok (.iconst 1, 1) := by decide +kernel
theorem dX9_look_36 : decode cX9_look 36 = .ok (.istore 5, 2) := by decide +kernel
theorem dX9_look_38 : decode cX9_look 38 = .ok (.iload 5, 2) := by decide +kernel
theorem dX9_look_40 : decode cX9_look 40 = .ok (.aload_n 0, 1) := by decide +kernel
theorem dX9_look_41 : decode cX9_look 41 = .ok (.getfield 27, 3) := by decide +kernel
theorem dX9_look_44 : decode cX9_look 44 = .ok (.getfield 127, 3) := by decide +kernel
theorem dX9_look_47 : decode cX9_look 47 = .ok (.if_icmp .gt 38, 3) := by decide +kernel
theorem dX9_look_50 : decode cX9_look 50 = .ok (.aload_n 0, 1) := by decide +kernel
theorem dX9_look_51 : decode cX9_look 51 = .ok (.getfield 54, 3) := by decide +kernel
theorem dX9_look_54 : decode cX9_look 54 = .ok (.iload_n 1, 1) := by decide +kernel
theorem dX9_look_55 : decode cX9_look 55 = .ok (.iload 5, 2) := by decide +kernel
theorem dX9_look_57 : decode cX9_look 57 = .ok (.invokevirtual 351, 3) := by decide +kernel
theorem dX9_look_60 : decode cX9_look 60 = .ok (.istore 6, 2) := by decide +kernel
theorem dX9_look_62 : decode cX9_look 62 = .ok (.iload_n 3, 1) := by decide +kernel
theorem dX9_look_63 : decode cX9_look 63 = .ok (.iload 6, 2) := by decide +kernel
theorem dX9_look_65 : decode cX9_look 65 = .ok (.invokestatic 354, 3) := by decide +kernel
theorem dX9_look_68 : decode cX9_look 68 = .ok (.istore_n 3, 1) := by decide +kernel
theorem dX9_look_69 : decode cX9_look 69 = .ok (.iload 4, 2) := by decide +kernel
theorem dX9_look_71 : decode cX9_look 71 = .ok (.iload 6, 2) := by decide +kernel
theorem dX9_look_73 : decode cX9_look 73 = .ok (.iload 6, 2) := by decide +kernel
theorem dX9_look_75 : decode cX9_look 75 = .ok (.imul, 1) := by decide +kernel
theorem dX9_look_76 : decode cX9_look 76 = .ok (.iadd, 1) := by decide +kernel
theorem dX9_look_77 : decode cX9_look 77 = .ok (.istore 4, 2) := by decide +kernel
theorem dX9_look_79 : decode cX9_look 79 = .ok (.iinc 5 1, 3) := by decide +kernel
theorem dX9_look_82 : decode cX9_look 82 = .ok (.goto (-44), 3) := by decide +kernel
theorem dX9_look_85 : decode cX9_look 85 = .ok (.iload_n 2, 1) := by decide +kernel
theorem dX9_look_86 : decode cX9_look 86 = .ok (.ifCond .ne 5, 3) := by decide +kernel
theorem dX9_look_89 : decode cX9_look 89 = .ok (.iload_n 3, 1) := by decide +kernel
theorem dX9_look_90 : decode cX9_look 90 = .ok (.ireturn, 1) := by decide +kernel
theorem dX9_look_91 : decode cX9_look 91 = .ok (.iload 4, 2) := by decide +kernel
theorem dX9_look_93 : decode cX9_look 93 = .ok (.ifCond .ne 14, 3) := by decide +kernel
theorem dX9_look_96 : decode cX9_look 96 = .ok (.iload_n 2, 1) := by decide +kernel
theorem dX9_look_97 : decode cX9_look 97 = .ok (.iconst 1, 1) := by decide +kernel
theorem dX9_look_98 : decode cX9_look 98 = .ok (.if_icmp .ne 7, 3) := by decide +kernel
theorem dX9_look_101 : decode cX9_look 101 = .ok (.iconst 0, 1) := by decide +kernel
theorem dX9_look_102 : decode cX9_look 102 = .ok (.goto 4, 3) := by decide +kernel
theorem dX9_look_105 : decode cX9_look 105 = .ok (.iconst 1, 1) := by decide +kernel
theorem dX9_look_106 : decode cX9_look 106 = .ok (.ireturn, 1) := by decide +kernel
theorem dX9_look_107 : decode cX9_look 107 = .ok (.iload 4, 2) := by decide +kernel
theorem dX9_look_109 : decode cX9_look 109 = .ok (.aload_n 0, 1) := by decide +kernel
theorem dX9_look_110 : decode cX9_look 110 = .ok (.getfield 54, 3) := by decide +kernel
theorem dX9_look_113 : decode cX9_look 113 = .ok (.getfield 186, 3) := by decide +kernel
theorem dX9_look_116 : decode cX9_look 116 = .ok (.invokestatic 357, 3) := by decide +kernel
theorem dX9_look_119 : decode cX9_look 119 = .ok (.istore 5, 2) := by decide +kernel
theorem dX9_look_121 : decode cX9_look 121 = .ok (.iload 5, 2) := by decide +kernel
theorem dX9_look_123 : decode cX9_look 123 = .ok (.iconst 1, 1) := by decide +kernel
theorem dX9_look_124 : decode cX9_look 124 = .ok (.if_icmp .ge 7, 3) := by decide +kernel
theorem dX9_look_127 : decode cX9_look 127 = .ok (.iconst 0, 1) := by decide +kernel
theorem dX9_look_128 : decode cX9_look 128 = .ok (.goto 23, 3) := by decide +kernel
theorem dX9_look_131 : decode cX9_look 131 = .ok (.iload_n 2, 1) := by decide +kernel
theorem dX9_look_132 : decode cX9_look 132 = .ok (.iconst 1, 1) := by decide +kernel
theorem dX9_look_133 : decode cX9_look 133 = .ok (.if_icmp .ne 8, 3) := by decide +kernel
theorem dX9_look_136 : decode cX9_look 136 = .ok (.iload 4, 2) := by decide +kernel
theorem dX9_look_138 : decode cX9_look 138 = .ok (.goto 10, 3) := by decide +kernel
theorem dX9_look_141 : decode cX9_look 141 = .ok (.aload_n 0, 1) := by decide +kernel
theorem dX9_look_142 : decode cX9_look 142 = .ok (.getfield 54, 3) := by decide +kernel
theorem dX9_look_145 : decode cX9_look 145 = .ok (.getfield 186, 3) := by decide +kernel
theorem dX9_look_148 : decode cX9_look 148 = .ok (.iload 5, 2) := by decide +kernel
theorem dX9_look_150 : decode cX9_look 150 = .ok (.idiv, 1) := by decide +kernel
theorem dX9_look_151 : decode cX9_look 151 = .ok (.ireturn, 1) := by decide +kernel
set_option maxHeartbeats 4000000 in
set_option maxRecDepth 100000 in
theorem n_X9_look (o b : Nat) (y1 y2 : Int32) {n : Nat} {kd : mK} {I : mI} {J : mJ} {P : mP} (ho : kd o = some (0, 9)) (hp : P o 4 = some b) (hb : kd b = some (0, 7)) (hH : I b 0 = nI 0) : Ct yX9_look cX9_look 7 (some .int) 9 1 6 [.ref o, .int y1, .int y2] n kd I J P (fun z n' kd' I' J' P' => z = .inr "java/util/NoSuchElementException" ∧ n' = n ∧ kd' = kd ∧ I' = I ∧ J' = J ∧ P' = P) := by
  have hc := c_X9_mustBeHouse (n := n) (I := I) (J := J) o b y1 ho hp hb
  rw [hH, no_house] at hc
  refine ct_of 4 (by decide +kernel) (Nat.le_of_ble_eq_true rfl) rfl ?_
  refine r_aload_n dX9_look_0 rfl ?_
  refine r_iload_n dX9_look_1 rfl ?_
  exact r_virtX hc lk_X9_142 mc_X9_mustBeHouse dX9_look_2 ho (by decide) rfl rfl (Nat.le_of_ble_eq_true rfl) (by decide) (by decide) ⟨rfl, rfl, rfl, rfl, rfl, rfl⟩

theorem dX10_look_0 : decode cX10_look 0 = .ok (.aload_n 0, 1) := by decide +kernel
theorem dX10_look_1 : decode cX10_look 1 = .ok (.iconst 0, 1) := by decide +kernel
theorem dX10_look_2 : decode cX10_look 2 = .ok (.putfield 193, 3) := by decide +kernel
theorem dX10_look_5 : decode cX10_look 5 = .ok (.aload_n 0, 1) := by decide +kernel
theorem dX10_look_6 : decode cX10_look 6 = .ok (.iload_n 1, 1) := by decide +kernel
theorem dX10_look_7 : decode cX10_look 7 = .ok (.invokevirtual 373, 3) := by decide +kernel
theorem dX10_look_10 : decode cX10_look 10 = .ok (.ifCond .eq 17, 3) := by decide +kernel
theorem dX10_look_13 : decode cX10_look 13 = .ok (.aload_n 0, 1) := by decide +kernel
theorem dX10_look_14 : decode cX10_look 14 = .ok (.iload_n 2, 1) := by decide +kernel
theorem dX10_look_15 : decode cX10_look 15 = .ok (.iconst 0, 1) := by decide +kernel
theorem dX10_look_16 : decode cX10_look 16 = .ok (.iconst 2, 1) := by decide +kernel
theorem dX10_look_17 : decode cX10_look 17 = .ok (.invokestatic 369, 3) := by decide +kernel
theorem dX10_look_20 : decode cX10_look 20 = .ok (.iconst 1, 1) := by decide +kernel
theorem dX10_look_21 : decode cX10_look 21 = .ok (.invokevirtual 343, 3) := by decide +kernel
theorem dX10_look_24 : decode cX10_look 24 = .ok (.ifCond .ne 5, 3) := by decide +kernel
theorem dX10_look_27 : decode cX10_look 27 = .ok (.iconst 0, 1) := by decide +kernel
theorem dX10_look_28 : decode cX10_look 28 = .ok (.ireturn, 1) := by decide +kernel
theorem dX10_look_29 : decode cX10_look 29 = .ok (.aload_n 0, 1) := by decide +kernel
theorem dX10_look_30 : decode cX10_look 30 = .ok (.invokevirtual 436, 3) := by decide +kernel
theorem dX10_look_33 : decode cX10_look 33 = .ok (.ifCond .ne 6, 3) := by decide +kernel
theorem dX10_look_36 : decode cX10_look 36 = .ok (.bipush (-2), 2) := by decide +kernel
theorem dX10_look_38 : decode cX10_look 38 = .ok (.ireturn, 1) := by decide +kernel
theorem dX10_look_39 : decode cX10_look 39 = .ok (.iconst 0, 1) := by decide +kernel
theorem dX10_look_40 : decode cX10_look 40 = .ok (.istore_n 3, 1) := by decide +kernel
theorem dX10_look_41 : decode cX10_look 41 = .ok (.iconst 0, 1) := by decide +kernel
theorem dX10_look_42 : decode cX10_look 42 = .ok (.istore 4, 2) := by decide +kernel
theorem dX10_look_44 : decode cX10_look 44 = .ok (.iconst 1, 1) := by decide +kernel
theorem dX10_look_45 : decode cX10_look 45 = .ok (.istore 5, 2) := by decide +kernel
theorem dX10_look_47 : decode cX10_look 47 = .ok (.iload 5, 2) := by decide +kernel
theorem dX10_look_49 : decode cX10_look 49 = .ok (.aload_n 0, 1) := by decide +kernel
theorem dX10_look_50 : decode cX10_look 50 = .ok (.getfield 7, 3) := by decide +kernel
theorem dX10_look_53 : decode cX10_look 53 = .ok (.if_icmp .gt 41, 3) := by decide +kernel
theorem dX10_look_56 : decode cX10_look 56 = .ok (.aload_n 0, 1) := by decide +kernel
theorem dX10_look_57 : decode cX10_look 57 = .ok (.iload_n 1, 1) := by decide +kernel
theorem dX10_look_58 : decode cX10_look 58 = .ok (.iload 5, 2) := by decide +kernel
theorem dX10_look_60 : decode cX10_look 60 = .ok (.invokevirtual 526, 3) := by decide +kernel
theorem dX10_look_63 : decode cX10_look 63 = .ok (.istore 6, 2) := by decide +kernel
theorem dX10_look_65 : decode cX10_look 65 = .ok (.iload 6, 2) := by decide +kernel
theorem dX10_look_67 : decode cX10_look 67 = .ok (.iload_n 3, 1) := by decide +kernel
theorem dX10_look_68 : decode cX10_look 68 = .ok (.if_icmp .le 8, 3) := by decide +kernel
theorem dX10_look_71 : decode cX10_look 71 = .ok (.iload 6, 2) := by decide +kernel
theorem dX10_look_73 : decode cX10_look 73 = .ok (.goto 4, 3) := by decide +kernel
theorem dX10_look_76 : decode cX10_look 76 = .ok (.iload_n 3, 1) := by decide +kernel
theorem dX10_look_77 : decode cX10_look 77 = .ok (.istore_n 3, 1) := by decide +kernel
theorem dX10_look_78 : decode cX10_look 78 = .ok (.iload 4, 2) := by decide +kernel
theorem dX10_look_80 : decode cX10_look 80 = .ok (.iload 6, 2) := by decide +kernel
theorem dX10_look_82 : decode cX10_look 82 = .ok (.iload 6, 2) := by decide +kernel
theorem dX10_look_84 : decode cX10_look 84 = .ok (.imul, 1) := by decide +kernel
theorem dX10_look_85 : decode cX10_look 85 = .ok (.iadd, 1) := by decide +kernel
theorem dX10_look_86 : decode cX10_look 86 = .ok (.istore 4, 2) := by decide +kernel
theorem dX10_look_88 : decode cX10_look 88 = .ok (.iinc 5 1, 3) := by decide +kernel
theorem dX10_look_91 : decode cX10_look 91 = .ok (.goto (-44), 3) := by decide +kernel
theorem dX10_look_94 : decode cX10_look 94 = .ok (.iload_n 2, 1) := by decide +kernel
theorem dX10_look_95 : decode cX10_look 95 = .ok (.ifCond .ne 5, 3) := by decide +kernel
theorem dX10_look_98 : decode cX10_look 98 = .ok (.iload_n 3, 1) := by decide +kernel
theorem dX10_look_99 : decode cX10_look 99 = .ok (.ireturn, 1) := by decide +kernel
theorem dX10_look_100 : decode cX10_look 100 = .ok (.aload_n 0, 1) := by decide +kernel
theorem dX10_look_101 : decode cX10_look 101 = .ok (.getfield 413, 3) := by decide +kernel
theorem dX10_look_104 : decode cX10_look 104 = .ok (.ifCond .ne 7, 3) := by decide +kernel
theorem dX10_look_107 : decode cX10_look 107 = .ok (.iload_n 2, 1) := by decide +kernel
theorem dX10_look_108 : decode cX10_look 108 = .ok (.iconst 1, 1) := by decide +kernel
theorem dX10_look_109 : decode cX10_look 109 = .ok (.isub, 1) := by decide +kernel
theorem dX10_look_110 : decode cX10_look 110 = .ok (.ireturn, 1) := by decide +kernel
theorem dX10_look_111 : decode cX10_look 111 = .ok (.iload 4, 2) := by decide +kernel
theorem dX10_look_113 : decode cX10_look 113 = .ok (.istore 5, 2) := by decide +kernel
theorem dX10_look_115 : decode cX10_look 115 = .ok (.aload_n 0, 1) := by decide +kernel
theorem dX10_look_116 : decode cX10_look 116 = .ok (.getfield 413, 3) := by decide +kernel
theorem dX10_look_119 : decode cX10_look 119 = .ok (.istore 6, 2) := by decide +kernel
theorem dX10_look_121 : decode cX10_look 121 = .ok (.iload 6, 2) := by decide +kernel
theorem dX10_look_123 : decode cX10_look 123 = .ok (.ifCond .eq 21, 3) := by decide +kernel
theorem dX10_look_126 : decode cX10_look 126 = .ok (.iload 5, 2) := by decide +kernel
theorem dX10_look_128 : decode cX10_look 128 = .ok (.iload 6, 2) := by decide +kernel
theorem dX10_look_130 : decode cX10_look 130 = .ok (.irem, 1) := by decide +kernel
theorem dX10_look_131 : decode cX10_look 131 = .ok (.istore 7, 2) := by decide +kernel
theorem dX10_look_133 : decode cX10_look 133 = .ok (.iload 6, 2) := by decide +kernel
theorem dX10_look_135 : decode cX10_look 135 = .ok (.istore 5, 2) := by decide +kernel
theorem dX10_look_137 : decode cX10_look 137 = .ok (.iload 7, 2) := by decide +kernel
theorem dX10_look_139 : decode cX10_look 139 = .ok (.istore 6, 2) := by decide +kernel
theorem dX10_look_141 : decode cX10_look 141 = .ok (.goto (-20), 3) := by decide +kernel
theorem dX10_look_144 : decode cX10_look 144 = .ok (.iload_n 2, 1) := by decide +kernel
theorem dX10_look_145 : decode cX10_look 145 = .ok (.iconst 1, 1) := by decide +kernel
theorem dX10_look_146 : decode cX10_look 146 = .ok (.if_icmp .ne 8, 3) := by decide +kernel
theorem dX10_look_149 : decode cX10_look 149 = .ok (.iload 4, 2) := by decide +kernel
theorem dX10_look_151 : decode cX10_look 151 = .ok (.goto 7, 3) := by decide +kernel
theorem dX10_look_154 : decode cX10_look 154 = .ok (.aload_n 0, 1) := by decide +kernel
theorem dX10_look_155 : decode cX10_look 155 = .ok (.getfield 413, 3) := by decide +kernel
theorem dX10_look_158 : decode cX10_look 158 = .ok (.iload 5, 2) := by decide +kernel
theorem dX10_look_160 : decode cX10_look 160 = .ok (.idiv, 1) := by decide +kernel
theorem dX10_look_161 : decode cX10_look 161 = .ok (.ireturn, 1) := by decide +kernel
set_option maxHeartbeats 4000000 in
set_option maxRecDepth 100000 in
theorem n_X10_look (m : Nat) (y1 y2 : Int32) {n : Nat} {kd : mK} {I : mI} {J : mJ} {P : mP} (hM : kM kd P m) (hH : I m 1 = nI 0) : Ct yX10_look cX10_look 8 (some .int) 3 0 0 [.ref m, .int y1, .int y2] n kd I J P (am_is (some (.int (nI 0))) n kd (va_up I m (va_up (I m) 0 (nI 1))) J P) := by
  refine ct_of 5 (by decide +kernel) (Nat.le_of_ble_eq_true rfl) rfl ?_
  refine r_aload_n dX10_look_0 rfl ?_
  refine r_iconst (v := nI 0) dX10_look_1 (by decide) ?_
  refine r_putI dX10_look_2 fl_X10_193 rfl rfl (kM_0 hM) ?_
  refine r_aload_n dX10_look_5 rfl ?_
  refine r_iload_n dX10_look_6 rfl ?_
  have hc := c_X10_isHouse (n := n) (I := va_up I m (va_up (I m) 0 (nI 0))) (J := J) m y1 hM (by rw [am_up_s, am_up_s]; rfl)
  rw [show va_up I m (va_up (I m) 0 (nI 0)) m 1 = nI 0 by rw [am_up_s, am_up_n _ _ (by decide)]; exact hH, no_house] at hc
  refine r_virtE (hc) lk_X10_373 mc_X10_isHouse dX10_look_7 (kM_0 hM) (by decide) rfl rfl (Nat.le_of_ble_eq_true rfl) ?_
  refine r_if_eq (tgt := 27) dX10_look_10 (by decide) (fun _ => ?_) (fun hz => absurd (show _ from rfl) hz)
  refine r_iconst (v := nI 0) dX10_look_27 (by decide) ?_
  refine r_iret rfl dX10_look_28 ?_
  rw [show thM false (va_up I m (va_up (I m) 0 (nI 0))) m (nI 1) = va_up I m (va_up (I m) 0 (nI 1)) by show va_up (va_up I m _) m (va_up (va_up I m _ m) 0 (nI 1)) = _; rw [am_up_up, am_up_s, am_up_up]]
  exact am_is.mk

