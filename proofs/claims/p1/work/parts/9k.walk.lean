/-! THE NEW OBJECT: a walk to nobody -/
theorem dX8_shortestFrom_0 : decode cX8_shortestFrom 0 = .ok (.iload_n 2, 1) := by decide +kernel
theorem dX8_shortestFrom_1 : decode cX8_shortestFrom 1 = .ok (.iconst 1, 1) := by decide +kernel
theorem dX8_shortestFrom_2 : decode cX8_shortestFrom 2 = .ok (.aload_n 0, 1) := by decide +kernel
theorem dX8_shortestFrom_3 : decode cX8_shortestFrom 3 = .ok (.getfield 15, 3) := by decide +kernel
theorem dX8_shortestFrom_6 : decode cX8_shortestFrom 6 = .ok (.ishl, 1) := by decide +kernel
theorem dX8_shortestFrom_7 : decode cX8_shortestFrom 7 = .ok (.iconst 1, 1) := by decide +kernel
theorem dX8_shortestFrom_8 : decode cX8_shortestFrom 8 = .ok (.isub, 1) := by decide +kernel
theorem dX8_shortestFrom_9 : decode cX8_shortestFrom 9 = .ok (.if_icmp .ne 5, 3) := by decide +kernel
theorem dX8_shortestFrom_12 : decode cX8_shortestFrom 12 = .ok (.iconst 0, 1) := by decide +kernel
theorem dX8_shortestFrom_13 : decode cX8_shortestFrom 13 = .ok (.ireturn, 1) := by decide +kernel
theorem dX8_shortestFrom_14 : decode cX8_shortestFrom 14 = .ok (.ldc 49, 2) := by decide +kernel
theorem dX8_shortestFrom_16 : decode cX8_shortestFrom 16 = .ok (.istore_n 3, 1) := by decide +kernel
theorem dX8_shortestFrom_17 : decode cX8_shortestFrom 17 = .ok (.iconst 0, 1) := by decide +kernel
theorem dX8_shortestFrom_18 : decode cX8_shortestFrom 18 = .ok (.istore 4, 2) := by decide +kernel
theorem dX8_shortestFrom_20 : decode cX8_shortestFrom 20 = .ok (.iload 4, 2) := by decide +kernel
theorem dX8_shortestFrom_22 : decode cX8_shortestFrom 22 = .ok (.aload_n 0, 1) := by decide +kernel
theorem dX8_shortestFrom_23 : decode cX8_shortestFrom 23 = .ok (.getfield 15, 3) := by decide +kernel
theorem dX8_shortestFrom_26 : decode cX8_shortestFrom 26 = .ok (.if_icmp .ge 31, 3) := by decide +kernel
theorem dX8_shortestFrom_29 : decode cX8_shortestFrom 29 = .ok (.iload_n 2, 1) := by decide +kernel
theorem dX8_shortestFrom_30 : decode cX8_shortestFrom 30 = .ok (.iload 4, 2) := by decide +kernel
theorem dX8_shortestFrom_32 : decode cX8_shortestFrom 32 = .ok (.ishr, 1) := by decide +kernel
theorem dX8_shortestFrom_33 : decode cX8_shortestFrom 33 = .ok (.iconst 1, 1) := by decide +kernel
theorem dX8_shortestFrom_34 : decode cX8_shortestFrom 34 = .ok (.iand, 1) := by decide +kernel
theorem dX8_shortestFrom_35 : decode cX8_shortestFrom 35 = .ok (.ifCond .ne 16, 3) := by decide +kernel
theorem dX8_shortestFrom_38 : decode cX8_shortestFrom 38 = .ok (.iload_n 3, 1) := by decide +kernel
theorem dX8_shortestFrom_39 : decode cX8_shortestFrom 39 = .ok (.aload_n 0, 1) := by decide +kernel
theorem dX8_shortestFrom_40 : decode cX8_shortestFrom 40 = .ok (.iload 4, 2) := by decide +kernel
theorem dX8_shortestFrom_42 : decode cX8_shortestFrom 42 = .ok (.iload_n 1, 1) := by decide +kernel
theorem dX8_shortestFrom_43 : decode cX8_shortestFrom 43 = .ok (.iload_n 2, 1) := by decide +kernel
theorem dX8_shortestFrom_44 : decode cX8_shortestFrom 44 = .ok (.invokevirtual 50, 3) := by decide +kernel
theorem dX8_shortestFrom_47 : decode cX8_shortestFrom 47 = .ok (.invokestatic 54, 3) := by decide +kernel
theorem dX8_shortestFrom_50 : decode cX8_shortestFrom 50 = .ok (.istore_n 3, 1) := by decide +kernel
theorem dX8_shortestFrom_51 : decode cX8_shortestFrom 51 = .ok (.iinc 4 1, 3) := by decide +kernel
theorem dX8_shortestFrom_54 : decode cX8_shortestFrom 54 = .ok (.goto (-34), 3) := by decide +kernel
theorem dX8_shortestFrom_57 : decode cX8_shortestFrom 57 = .ok (.iload_n 3, 1) := by decide +kernel
theorem dX8_shortestFrom_58 : decode cX8_shortestFrom 58 = .ok (.ireturn, 1) := by decide +kernel
set_option maxHeartbeats 4000000 in
set_option maxRecDepth 100000 in
theorem c_sf0 (w : Nat) (x : Int32) {n : Nat} {kd : mK} {I : mI} {J : mJ} {P : mP} (hW : kW kd P w) (h : I w 1 = nI 0) : Ct yX8_shortestFrom cX8_shortestFrom 5 (some .int) 2 0 0 [.ref w, .int x, .int (nI 0)] n kd I J P (am_is (some (.int (nI 0))) n kd I J P) := by
  refine ct_of 2 (by decide +kernel) (Nat.le_of_ble_eq_true rfl) rfl ?_
  refine r_iload_n dX8_shortestFrom_0 rfl ?_
  refine r_iconst (v := nI 1) dX8_shortestFrom_1 (by decide) ?_
  refine r_aload_n dX8_shortestFrom_2 rfl ?_
  refine r_getI dX8_shortestFrom_3 fl_X8_15 rfl hW.1 ?_
  rw [h]
  refine r_ishl dX8_shortestFrom_6 ?_
  refine r_iconst (v := nI 1) dX8_shortestFrom_7 (by decide) ?_
  refine r_isub dX8_shortestFrom_8 ?_
  refine r_icmp_ne (tgt := 14) dX8_shortestFrom_9 (by decide) (fun hz => absurd (show _ from (by decide)) hz) (fun _ => ?_)
  refine r_iconst (v := nI 0) dX8_shortestFrom_12 (by decide) ?_
  refine r_iret rfl dX8_shortestFrom_13 ?_
  exact am_is.mk

theorem dX8_keepRow_0 : decode cX8_keepRow 0 = .ok (.iconst 0, 1) := by decide +kernel
theorem dX8_keepRow_1 : decode cX8_keepRow 1 = .ok (.istore_n 2, 1) := by decide +kernel
theorem dX8_keepRow_2 : decode cX8_keepRow 2 = .ok (.iload_n 1, 1) := by decide +kernel
theorem dX8_keepRow_3 : decode cX8_keepRow 3 = .ok (.istore_n 3, 1) := by decide +kernel
theorem dX8_keepRow_4 : decode cX8_keepRow 4 = .ok (.iconst 0, 1) := by decide +kernel
theorem dX8_keepRow_5 : decode cX8_keepRow 5 = .ok (.istore 4, 2) := by decide +kernel
theorem dX8_keepRow_7 : decode cX8_keepRow 7 = .ok (.iload 4, 2) := by decide +kernel
theorem dX8_keepRow_9 : decode cX8_keepRow 9 = .ok (.aload_n 0, 1) := by decide +kernel
theorem dX8_keepRow_10 : decode cX8_keepRow 10 = .ok (.getfield 15, 3) := by decide +kernel
theorem dX8_keepRow_13 : decode cX8_keepRow 13 = .ok (.if_icmp .ge 88, 3) := by decide +kernel
theorem dX8_keepRow_16 : decode cX8_keepRow 16 = .ok (.aload_n 0, 1) := by decide +kernel
theorem dX8_keepRow_17 : decode cX8_keepRow 17 = .ok (.iload_n 3, 1) := by decide +kernel
theorem dX8_keepRow_18 : decode cX8_keepRow 18 = .ok (.iload_n 2, 1) := by decide +kernel
theorem dX8_keepRow_19 : decode cX8_keepRow 19 = .ok (.invokevirtual 41, 3) := by decide +kernel
theorem dX8_keepRow_22 : decode cX8_keepRow 22 = .ok (.istore 5, 2) := by decide +kernel
theorem dX8_keepRow_24 : decode cX8_keepRow 24 = .ok (.iconst 0, 1) := by decide +kernel
theorem dX8_keepRow_25 : decode cX8_keepRow 25 = .ok (.istore 6, 2) := by decide +kernel
theorem dX8_keepRow_27 : decode cX8_keepRow 27 = .ok (.aload_n 0, 1) := by decide +kernel
theorem dX8_keepRow_28 : decode cX8_keepRow 28 = .ok (.getfield 15, 3) := by decide +kernel
theorem dX8_keepRow_31 : decode cX8_keepRow 31 = .ok (.iconst 1, 1) := by decide +kernel
theorem dX8_keepRow_32 : decode cX8_keepRow 32 = .ok (.isub, 1) := by decide +kernel
theorem dX8_keepRow_33 : decode cX8_keepRow 33 = .ok (.istore 7, 2) := by decide +kernel
theorem dX8_keepRow_35 : decode cX8_keepRow 35 = .ok (.iload 7, 2) := by decide +kernel
theorem dX8_keepRow_37 : decode cX8_keepRow 37 = .ok (.ifCond .lt 35, 3) := by decide +kernel
theorem dX8_keepRow_40 : decode cX8_keepRow 40 = .ok (.iload_n 2, 1) := by decide +kernel
theorem dX8_keepRow_41 : decode cX8_keepRow 41 = .ok (.iload 7, 2) := by decide +kernel
theorem dX8_keepRow_43 : decode cX8_keepRow 43 = .ok (.ishr, 1) := by decide +kernel
theorem dX8_keepRow_44 : decode cX8_keepRow 44 = .ok (.iconst 1, 1) := by decide +kernel
theorem dX8_keepRow_45 : decode cX8_keepRow 45 = .ok (.iand, 1) := by decide +kernel
theorem dX8_keepRow_46 : decode cX8_keepRow 46 = .ok (.ifCond .ne 20, 3) := by decide +kernel
theorem dX8_keepRow_49 : decode cX8_keepRow 49 = .ok (.aload_n 0, 1) := by decide +kernel
theorem dX8_keepRow_50 : decode cX8_keepRow 50 = .ok (.iload 7, 2) := by decide +kernel
theorem dX8_keepRow_52 : decode cX8_keepRow 52 = .ok (.iload_n 3, 1) := by decide +kernel
theorem dX8_keepRow_53 : decode cX8_keepRow 53 = .ok (.iload_n 2, 1) := by decide +kernel
theorem dX8_keepRow_54 : decode cX8_keepRow 54 = .ok (.invokevirtual 50, 3) := by decide +kernel
theorem dX8_keepRow_57 : decode cX8_keepRow 57 = .ok (.iload 5, 2) := by decide +kernel
theorem dX8_keepRow_59 : decode cX8_keepRow 59 = .ok (.if_icmp .ne 7, 3) := by decide +kernel
theorem dX8_keepRow_62 : decode cX8_keepRow 62 = .ok (.iload 7, 2) := by decide +kernel
theorem dX8_keepRow_64 : decode cX8_keepRow 64 = .ok (.istore 6, 2) := by decide +kernel
theorem dX8_keepRow_66 : decode cX8_keepRow 66 = .ok (.iinc 7 (-1), 3) := by decide +kernel
theorem dX8_keepRow_69 : decode cX8_keepRow 69 = .ok (.goto (-34), 3) := by decide +kernel
theorem dX8_keepRow_72 : decode cX8_keepRow 72 = .ok (.iload_n 2, 1) := by decide +kernel
theorem dX8_keepRow_73 : decode cX8_keepRow 73 = .ok (.iconst 1, 1) := by decide +kernel
theorem dX8_keepRow_74 : decode cX8_keepRow 74 = .ok (.iload 6, 2) := by decide +kernel
theorem dX8_keepRow_76 : decode cX8_keepRow 76 = .ok (.ishl, 1) := by decide +kernel
theorem dX8_keepRow_77 : decode cX8_keepRow 77 = .ok (.ior, 1) := by decide +kernel
theorem dX8_keepRow_78 : decode cX8_keepRow 78 = .ok (.istore_n 2, 1) := by decide +kernel
theorem dX8_keepRow_79 : decode cX8_keepRow 79 = .ok (.aload_n 0, 1) := by decide +kernel
theorem dX8_keepRow_80 : decode cX8_keepRow 80 = .ok (.getfield 9, 3) := by decide +kernel
theorem dX8_keepRow_83 : decode cX8_keepRow 83 = .ok (.iload 6, 2) := by decide +kernel
theorem dX8_keepRow_85 : decode cX8_keepRow 85 = .ok (.iaload, 1) := by decide +kernel
theorem dX8_keepRow_86 : decode cX8_keepRow 86 = .ok (.istore_n 3, 1) := by decide +kernel
theorem dX8_keepRow_87 : decode cX8_keepRow 87 = .ok (.aload_n 0, 1) := by decide +kernel
theorem dX8_keepRow_88 : decode cX8_keepRow 88 = .ok (.getfield 25, 3) := by decide +kernel
theorem dX8_keepRow_91 : decode cX8_keepRow 91 = .ok (.iload 4, 2) := by decide +kernel
theorem dX8_keepRow_93 : decode cX8_keepRow 93 = .ok (.iload_n 3, 1) := by decide +kernel
theorem dX8_keepRow_94 : decode cX8_keepRow 94 = .ok (.iastore, 1) := by decide +kernel
theorem dX8_keepRow_95 : decode cX8_keepRow 95 = .ok (.iinc 4 1, 3) := by decide +kernel
theorem dX8_keepRow_98 : decode cX8_keepRow 98 = .ok (.goto (-91), 3) := by decide +kernel
theorem dX8_keepRow_101 : decode cX8_keepRow 101 = .ok (.aload_n 0, 1) := by decide +kernel
theorem dX8_keepRow_102 : decode cX8_keepRow 102 = .ok (.aload_n 0, 1) := by decide +kernel
theorem dX8_keepRow_103 : decode cX8_keepRow 103 = .ok (.getfield 15, 3) := by decide +kernel
theorem dX8_keepRow_106 : decode cX8_keepRow 106 = .ok (.putfield 28, 3) := by decide +kernel
theorem dX8_keepRow_109 : decode cX8_keepRow 109 = .ok (.aload_n 0, 1) := by decide +kernel
theorem dX8_keepRow_110 : decode cX8_keepRow 110 = .ok (.iconst 1, 1) := by decide +kernel
theorem dX8_keepRow_111 : decode cX8_keepRow 111 = .ok (.putfield 31, 3) := by decide +kernel
theorem dX8_keepRow_114 : decode cX8_keepRow 114 = .ok (.return_, 1) := by decide +kernel
set_option maxHeartbeats 4000000 in
set_option maxRecDepth 100000 in
theorem c_kr0 (w : Nat) (x : Int32) {n : Nat} {kd : mK} {I : mI} {J : mJ} {P : mP} (hW : kW kd P w) (h : I w 1 = nI 0) : Ct yX8_keepRow cX8_keepRow 8 none 2 0 0 [.ref w, .int x] n kd I J P (fun z n' kd' I' J' P' => z = .inl none ∧ n' = n ∧ kd' = kd ∧ J' = J ∧ P' = P ∧ (∀ a, a ≠ w → I' a = I a) ∧ I' w 1 = nI 0) := by
  refine ct_of 6 (by decide +kernel) (Nat.le_of_ble_eq_true rfl) rfl ?_
  refine r_iconst (v := nI 0) dX8_keepRow_0 (by decide) ?_
  refine r_istore_n dX8_keepRow_1 (by decide) ?_
  refine r_iload_n dX8_keepRow_2 rfl ?_
  refine r_istore_n dX8_keepRow_3 (by decide) ?_
  refine r_iconst (v := nI 0) dX8_keepRow_4 (by decide) ?_
  refine r_istore dX8_keepRow_5 (by decide) ?_
  refine r_iload dX8_keepRow_7 rfl ?_
  refine r_aload_n dX8_keepRow_9 rfl ?_
  refine r_getI dX8_keepRow_10 fl_X8_15 rfl hW.1 ?_
  rw [h]
  refine r_icmp_ge (tgt := 101) dX8_keepRow_13 (by decide) (fun _ => ?_) (fun hz => absurd (show _ from (by decide)) hz)
  refine r_aload_n dX8_keepRow_101 rfl ?_
  refine r_aload_n dX8_keepRow_102 rfl ?_
  refine r_getI dX8_keepRow_103 fl_X8_15 rfl hW.1 ?_
  rw [h]
  refine r_putI dX8_keepRow_106 fl_X8_28 rfl rfl hW.1 ?_
  refine r_aload_n dX8_keepRow_109 rfl ?_
  refine r_iconst (v := nI 1) dX8_keepRow_110 (by decide) ?_
  refine r_putZ dX8_keepRow_111 fl_X8_31 rfl rfl (Or.inr rfl) hW.1 ?_
  refine r_vret rfl dX8_keepRow_114 ?_
  refine ⟨rfl, rfl, rfl, rfl, rfl, fun a ha => by rw [am_up_n _ _ ha, am_up_n _ _ ha], ?_⟩
  simp (disch := decide) only [am_up_s, am_up_n]
  exact h

theorem dX8_walkTo_0 : decode cX8_walkTo 0 = .ok (.iload_n 1, 1) := by decide +kernel
theorem dX8_walkTo_1 : decode cX8_walkTo 1 = .ok (.invokestatic 35, 3) := by decide +kernel
theorem dX8_walkTo_4 : decode cX8_walkTo 4 = .ok (.bipush 10, 2) := by decide +kernel
theorem dX8_walkTo_6 : decode cX8_walkTo 6 = .ok (.if_icmp .gt 12, 3) := by decide +kernel
theorem dX8_walkTo_9 : decode cX8_walkTo 9 = .ok (.aload 4, 2) := by decide +kernel
theorem dX8_walkTo_11 : decode cX8_walkTo 11 = .ok (.arraylength, 1) := by decide +kernel
theorem dX8_walkTo_12 : decode cX8_walkTo 12 = .ok (.sipush 10240, 3) := by decide +kernel
theorem dX8_walkTo_15 : decode cX8_walkTo 15 = .ok (.if_icmp .ge 6, 3) := by decide +kernel
theorem dX8_walkTo_18 : decode cX8_walkTo 18 = .ok (.bipush (-2), 2) := by decide +kernel
theorem dX8_walkTo_20 : decode cX8_walkTo 20 = .ok (.ireturn, 1) := by decide +kernel
theorem dX8_walkTo_21 : decode cX8_walkTo 21 = .ok (.aload_n 0, 1) := by decide +kernel
theorem dX8_walkTo_22 : decode cX8_walkTo 22 = .ok (.aload 4, 2) := by decide +kernel
theorem dX8_walkTo_24 : decode cX8_walkTo 24 = .ok (.putfield 22, 3) := by decide +kernel
theorem dX8_walkTo_27 : decode cX8_walkTo 27 = .ok (.aload_n 0, 1) := by decide +kernel
theorem dX8_walkTo_28 : decode cX8_walkTo 28 = .ok (.iconst 0, 1) := by decide +kernel
theorem dX8_walkTo_29 : decode cX8_walkTo 29 = .ok (.putfield 15, 3) := by decide +kernel
theorem dX8_walkTo_32 : decode cX8_walkTo 32 = .ok (.iconst 1, 1) := by decide +kernel
theorem dX8_walkTo_33 : decode cX8_walkTo 33 = .ok (.istore 5, 2) := by decide +kernel
theorem dX8_walkTo_35 : decode cX8_walkTo 35 = .ok (.iload 5, 2) := by decide +kernel
theorem dX8_walkTo_37 : decode cX8_walkTo 37 = .ok (.bipush 31, 2) := by decide +kernel
theorem dX8_walkTo_39 : decode cX8_walkTo 39 = .ok (.if_icmp .ge 48, 3) := by decide +kernel
theorem dX8_walkTo_42 : decode cX8_walkTo 42 = .ok (.aload_n 0, 1) := by decide +kernel
theorem dX8_walkTo_43 : decode cX8_walkTo 43 = .ok (.getfield 15, 3) := by decide +kernel
theorem dX8_walkTo_46 : decode cX8_walkTo 46 = .ok (.bipush 10, 2) := by decide +kernel
theorem dX8_walkTo_48 : decode cX8_walkTo 48 = .ok (.if_icmp .ge 39, 3) := by decide +kernel
theorem dX8_walkTo_51 : decode cX8_walkTo 51 = .ok (.iload_n 1, 1) := by decide +kernel
theorem dX8_walkTo_52 : decode cX8_walkTo 52 = .ok (.iload 5, 2) := by decide +kernel
theorem dX8_walkTo_54 : decode cX8_walkTo 54 = .ok (.ishr, 1) := by decide +kernel
theorem dX8_walkTo_55 : decode cX8_walkTo 55 = .ok (.iconst 1, 1) := by decide +kernel
theorem dX8_walkTo_56 : decode cX8_walkTo 56 = .ok (.iand, 1) := by decide +kernel
theorem dX8_walkTo_57 : decode cX8_walkTo 57 = .ok (.ifCond .eq 24, 3) := by decide +kernel
theorem dX8_walkTo_60 : decode cX8_walkTo 60 = .ok (.aload_n 0, 1) := by decide +kernel
theorem dX8_walkTo_61 : decode cX8_walkTo 61 = .ok (.getfield 9, 3) := by decide +kernel
theorem dX8_walkTo_64 : decode cX8_walkTo 64 = .ok (.aload_n 0, 1) := by decide +kernel
theorem dX8_walkTo_65 : decode cX8_walkTo 65 = .ok (.getfield 15, 3) := by decide +kernel
theorem dX8_walkTo_68 : decode cX8_walkTo 68 = .ok (.iload 5, 2) := by decide +kernel
theorem dX8_walkTo_70 : decode cX8_walkTo 70 = .ok (.iastore, 1) := by decide +kernel
theorem dX8_walkTo_71 : decode cX8_walkTo 71 = .ok (.aload_n 0, 1) := by decide +kernel
theorem dX8_walkTo_72 : decode cX8_walkTo 72 = .ok (.dup, 1) := by decide +kernel
theorem dX8_walkTo_73 : decode cX8_walkTo 73 = .ok (.getfield 15, 3) := by decide +kernel
theorem dX8_walkTo_76 : decode cX8_walkTo 76 = .ok (.iconst 1, 1) := by decide +kernel
theorem dX8_walkTo_77 : decode cX8_walkTo 77 = .ok (.iadd, 1) := by decide +kernel
theorem dX8_walkTo_78 : decode cX8_walkTo 78 = .ok (.putfield 15, 3) := by decide +kernel
theorem dX8_walkTo_81 : decode cX8_walkTo 81 = .ok (.iinc 5 1, 3) := by decide +kernel
theorem dX8_walkTo_84 : decode cX8_walkTo 84 = .ok (.goto (-49), 3) := by decide +kernel
theorem dX8_walkTo_87 : decode cX8_walkTo 87 = .ok (.aload_n 0, 1) := by decide +kernel
theorem dX8_walkTo_88 : decode cX8_walkTo 88 = .ok (.iload_n 3, 1) := by decide +kernel
theorem dX8_walkTo_89 : decode cX8_walkTo 89 = .ok (.putfield 19, 3) := by decide +kernel
theorem dX8_walkTo_92 : decode cX8_walkTo 92 = .ok (.iconst 1, 1) := by decide +kernel
theorem dX8_walkTo_93 : decode cX8_walkTo 93 = .ok (.aload_n 0, 1) := by decide +kernel
theorem dX8_walkTo_94 : decode cX8_walkTo 94 = .ok (.getfield 15, 3) := by decide +kernel
theorem dX8_walkTo_97 : decode cX8_walkTo 97 = .ok (.ishl, 1) := by decide +kernel
theorem dX8_walkTo_98 : decode cX8_walkTo 98 = .ok (.iconst 1, 1) := by decide +kernel
theorem dX8_walkTo_99 : decode cX8_walkTo 99 = .ok (.isub, 1) := by decide +kernel
theorem dX8_walkTo_100 : decode cX8_walkTo 100 = .ok (.istore 5, 2) := by decide +kernel
theorem dX8_walkTo_102 : decode cX8_walkTo 102 = .ok (.iload 5, 2) := by decide +kernel
theorem dX8_walkTo_104 : decode cX8_walkTo 104 = .ok (.ifCond .le 63, 3) := by decide +kernel
theorem dX8_walkTo_107 : decode cX8_walkTo 107 = .ok (.iconst 0, 1) := by decide +kernel
theorem dX8_walkTo_108 : decode cX8_walkTo 108 = .ok (.istore 6, 2) := by decide +kernel
theorem dX8_walkTo_110 : decode cX8_walkTo 110 = .ok (.iload 6, 2) := by decide +kernel
theorem dX8_walkTo_112 : decode cX8_walkTo 112 = .ok (.aload_n 0, 1) := by decide +kernel
theorem dX8_walkTo_113 : decode cX8_walkTo 113 = .ok (.getfield 15, 3) := by decide +kernel
theorem dX8_walkTo_116 : decode cX8_walkTo 116 = .ok (.if_icmp .ge 45, 3) := by decide +kernel
theorem dX8_walkTo_119 : decode cX8_walkTo 119 = .ok (.iload 5, 2) := by decide +kernel
theorem dX8_walkTo_121 : decode cX8_walkTo 121 = .ok (.iload 6, 2) := by decide +kernel
theorem dX8_walkTo_123 : decode cX8_walkTo 123 = .ok (.ishr, 1) := by decide +kernel
theorem dX8_walkTo_124 : decode cX8_walkTo 124 = .ok (.iconst 1, 1) := by decide +kernel
theorem dX8_walkTo_125 : decode cX8_walkTo 125 = .ok (.iand, 1) := by decide +kernel
theorem dX8_walkTo_126 : decode cX8_walkTo 126 = .ok (.ifCond .eq 29, 3) := by decide +kernel
theorem dX8_walkTo_129 : decode cX8_walkTo 129 = .ok (.aload_n 0, 1) := by decide +kernel
theorem dX8_walkTo_130 : decode cX8_walkTo 130 = .ok (.getfield 22, 3) := by decide +kernel
theorem dX8_walkTo_133 : decode cX8_walkTo 133 = .ok (.iload 5, 2) := by decide +kernel
theorem dX8_walkTo_135 : decode cX8_walkTo 135 = .ok (.bipush 10, 2) := by decide +kernel
theorem dX8_walkTo_137 : decode cX8_walkTo 137 = .ok (.imul, 1) := by decide +kernel
theorem dX8_walkTo_138 : decode cX8_walkTo 138 = .ok (.iload 6, 2) := by decide +kernel
theorem dX8_walkTo_140 : decode cX8_walkTo 140 = .ok (.iadd, 1) := by decide +kernel
theorem dX8_walkTo_141 : decode cX8_walkTo 141 = .ok (.aload_n 0, 1) := by decide +kernel
theorem dX8_walkTo_142 : decode cX8_walkTo 142 = .ok (.aload_n 0, 1) := by decide +kernel
theorem dX8_walkTo_143 : decode cX8_walkTo 143 = .ok (.getfield 9, 3) := by decide +kernel
theorem dX8_walkTo_146 : decode cX8_walkTo 146 = .ok (.iload 6, 2) := by decide +kernel
theorem dX8_walkTo_148 : decode cX8_walkTo 148 = .ok (.iaload, 1) := by decide +kernel
theorem dX8_walkTo_149 : decode cX8_walkTo 149 = .ok (.iload 5, 2) := by decide +kernel
theorem dX8_walkTo_151 : decode cX8_walkTo 151 = .ok (.invokevirtual 41, 3) := by decide +kernel
theorem dX8_walkTo_154 : decode cX8_walkTo 154 = .ok (.iastore, 1) := by decide +kernel
theorem dX8_walkTo_155 : decode cX8_walkTo 155 = .ok (.iinc 6 1, 3) := by decide +kernel
theorem dX8_walkTo_158 : decode cX8_walkTo 158 = .ok (.goto (-48), 3) := by decide +kernel
theorem dX8_walkTo_161 : decode cX8_walkTo 161 = .ok (.iinc 5 (-1), 3) := by decide +kernel
theorem dX8_walkTo_164 : decode cX8_walkTo 164 = .ok (.goto (-62), 3) := by decide +kernel
theorem dX8_walkTo_167 : decode cX8_walkTo 167 = .ok (.aload_n 0, 1) := by decide +kernel
theorem dX8_walkTo_168 : decode cX8_walkTo 168 = .ok (.iload_n 2, 1) := by decide +kernel
theorem dX8_walkTo_169 : decode cX8_walkTo 169 = .ok (.invokevirtual 45, 3) := by decide +kernel
theorem dX8_walkTo_172 : decode cX8_walkTo 172 = .ok (.aload_n 0, 1) := by decide +kernel
theorem dX8_walkTo_173 : decode cX8_walkTo 173 = .ok (.iload_n 2, 1) := by decide +kernel
theorem dX8_walkTo_174 : decode cX8_walkTo 174 = .ok (.iconst 0, 1) := by decide +kernel
theorem dX8_walkTo_175 : decode cX8_walkTo 175 = .ok (.invokevirtual 41, 3) := by decide +kernel
theorem dX8_walkTo_178 : decode cX8_walkTo 178 = .ok (.ireturn, 1) := by decide +kernel

theorem sh_0 : ∀ i, i < 32 → (nI 0 >>> (nI i &&& 31)) &&& nI 1 = nI 0 := by decide +kernel
set_option maxHeartbeats 4000000 in
set_option maxRecDepth 100000 in
theorem wt_loop (w z : Nat) (x y : Int32) {n : Nat} {kd : mK} {I : mI} {J : mJ} {P : mP} (hW : kW kd P w) : ∀ (cnt i : Nat), i + cnt = 31 → I w 1 = nI 0 → Ru yX8_walkTo.cls cX8_walkTo 7 (some .int) yX8_walkTo.name 3 (fun v n' kd' I' J' P' => v = .inl (some (.int (nI 0))) ∧ n' = n ∧ kd' = kd ∧ J' = J ∧ P' = P ∧ (∀ a, a ≠ w → I' a = I a)) 0 0 35 [some (.ref w), some (.int (nI 0)), some (.int x), some (.int y), some (.ref z), some (.int (nI i)), none] [] n kd I J P := by
  intro cnt
  induction cnt with
  | zero =>
    intro i hi h
    have ei : i = 31 := by omega
    subst ei
    refine r_iload dX8_walkTo_35 rfl ?_
    refine r_bipush (v := nI 31) dX8_walkTo_37 (by decide) ?_
    refine r_icmp_ge (tgt := 87) dX8_walkTo_39 (by decide) (fun _ => ?_) (fun hz => absurd (show _ from (by decide)) hz)
    refine r_aload_n dX8_walkTo_87 rfl ?_
    refine r_iload_n dX8_walkTo_88 rfl ?_
    refine r_putI dX8_walkTo_89 fl_X8_19 rfl rfl hW.1 ?_
    refine r_iconst (v := nI 1) dX8_walkTo_92 (by decide) ?_
    refine r_aload_n dX8_walkTo_93 rfl ?_
    refine r_getI dX8_walkTo_94 fl_X8_15 rfl hW.1 ?_
    rw [show va_up I w (va_up (I w) 2 y) w 1 = nI 0 from by rw [am_up_s, am_up_n _ _ (by decide)]; exact h]
    refine r_ishl dX8_walkTo_97 ?_
    refine r_iconst (v := nI 1) dX8_walkTo_98 (by decide) ?_
    refine r_isub dX8_walkTo_99 ?_
    refine r_istore dX8_walkTo_100 (by decide) ?_
    refine r_iload dX8_walkTo_102 rfl ?_
    refine r_if_le (tgt := 167) dX8_walkTo_104 (by decide) (fun _ => ?_) (fun hz => absurd (show _ from (by decide)) hz)
    refine r_aload_n dX8_walkTo_167 rfl ?_
    refine r_iload_n dX8_walkTo_168 rfl ?_
    refine r_virt (c_kr0 w x hW (by rw [am_up_s, am_up_n _ _ (by decide)]; exact h)) lk_X8_45 mc_X8_keepRow dX8_walkTo_169 hW.1 (by decide) rfl rfl (Nat.le_of_ble_eq_true rfl) (Nat.le_of_eq (Nat.zero_add _)) (Nat.le_of_eq (Nat.zero_add _)) (fun _ _ _ _ _ _ h => nomatch h.1) ?_
    rintro v n1 kd1 I1 J1 P1 ⟨h0, rfl, rfl, rfl, rfl, hf, h1⟩
    cases h0
    simp only [Option.toList, List.nil_append]
    refine r_aload_n dX8_walkTo_172 rfl ?_
    refine r_iload_n dX8_walkTo_173 rfl ?_
    refine r_iconst (v := nI 0) dX8_walkTo_174 (by decide) ?_
    refine r_virtE (c_sf0 w x hW h1) lk_X8_41 mc_X8_shortestFrom dX8_walkTo_175 hW.1 (by decide) rfl rfl (Nat.le_of_ble_eq_true rfl) ?_
    refine r_iret rfl dX8_walkTo_178 ?_
    exact ⟨rfl, rfl, rfl, rfl, rfl, fun a ha => by rw [hf a ha, am_up_n _ _ ha]⟩
  | succ cnt ih =>
    intro i hi h
    refine r_iload dX8_walkTo_35 rfl ?_
    refine r_bipush (v := nI 31) dX8_walkTo_37 (by decide) ?_
    refine r_icmp_ge (tgt := 87) dX8_walkTo_39 (by decide) (fun hz => absurd hz (show ¬ _ from (by rw [nI_leI (by omega) (by omega)]; omega))) (fun _ => ?_)
    refine r_aload_n dX8_walkTo_42 rfl ?_
    refine r_getI dX8_walkTo_43 fl_X8_15 rfl hW.1 ?_
    rw [h]
    refine r_bipush (v := nI 10) dX8_walkTo_46 (by decide) ?_
    refine r_icmp_ge (tgt := 87) dX8_walkTo_48 (by decide) (fun hz => absurd hz (show ¬ _ from (by decide))) (fun _ => ?_)
    refine r_iload_n dX8_walkTo_51 rfl ?_
    refine r_iload dX8_walkTo_52 rfl ?_
    refine r_ishr dX8_walkTo_54 ?_
    refine r_iconst (v := nI 1) dX8_walkTo_55 (by decide) ?_
    refine r_iand dX8_walkTo_56 ?_
    rw [sh_0 i (by omega)]
    refine r_if_eq (tgt := 81) dX8_walkTo_57 (by decide) (fun _ => ?_) (fun hz => absurd (show _ from rfl) hz)
    refine r_iinc (v := nI (i + 1)) dX8_walkTo_81 rfl (nI_inc i) ?_
    refine r_goto (tgt := 35) dX8_walkTo_84 (by decide) ?_
    exact ih (i + 1) (by omega) h

set_option maxHeartbeats 4000000 in
set_option maxRecDepth 100000 in
theorem c_wt0 (w z : Nat) (x y : Int32) {n : Nat} {kd : mK} {I : mI} {J : mJ} {P : mP} (hW : kW kd P w) (hz : kd z = some (1, 10240)) (hz9 : z < 1000000) : Ct yX8_walkTo cX8_walkTo 7 (some .int) 3 0 0 [.ref w, .int (nI 0), .int x, .int y, .ref z] n kd I J P (fun v n' kd' I' J' P' => v = .inl (some (.int (nI 0))) ∧ n' = n ∧ kd' = kd ∧ J' = J ∧ (∀ a, a ≠ w → P' a = P a) ∧ (∀ a, a ≠ w → I' a = I a)) := by
  refine ct_of 2 (by decide +kernel) (Nat.le_of_ble_eq_true rfl) rfl ?_
  have hW2 : kW kd (va_up P w (va_up (P w) 3 (some z))) w := by
    unfold kW at hW ⊢
    rw [am_up_s, am_up_n _ _ (by decide), am_up_n _ _ (by decide)]
    exact hW
  refine r_iload_n dX8_walkTo_0 rfl ?_
  refine r_statE (c_J6_bitCount_0f7a4 (nI 0)) lk_X8_35 mc_J6_bitCount_0f7a4 dX8_walkTo_1 (by decide) rfl rfl (Nat.le_of_ble_eq_true rfl) ?_
  refine r_bipush (v := nI 10) dX8_walkTo_4 (by decide) ?_
  refine r_icmp_gt (tgt := 18) dX8_walkTo_6 (by decide) (fun hz => absurd hz (show ¬ _ from (by decide))) (fun _ => ?_)
  refine r_aload dX8_walkTo_9 rfl ?_
  refine r_alen dX8_walkTo_11 hz (by decide) ?_
  refine r_sipush (v := nI 10240) dX8_walkTo_12 (by decide) ?_
  refine r_icmp_ge (tgt := 21) dX8_walkTo_15 (by decide) (fun _ => ?_) (fun hz => absurd (show _ from (by decide)) hz)
  refine r_aload_n dX8_walkTo_21 rfl ?_
  refine r_aload dX8_walkTo_22 rfl ?_
  refine r_putR dX8_walkTo_24 fl_X8_22 (Or.inl rfl) rfl hW.1 hz9 ?_
  refine r_aload_n dX8_walkTo_27 rfl ?_
  refine r_iconst (v := nI 0) dX8_walkTo_28 (by decide) ?_
  refine r_putI dX8_walkTo_29 fl_X8_15 rfl rfl hW.1 ?_
  refine r_iconst (v := nI 1) dX8_walkTo_32 (by decide) ?_
  refine r_istore dX8_walkTo_33 (by decide) ?_
  refine RuZ.mono (wt_loop w z x y hW2 30 1 (by omega) (by rw [am_up_s, am_up_s])) (fun v n' kd' I' J' P' hx => ?_)
  obtain ⟨h0, rfl, rfl, rfl, rfl, hf⟩ := hx
  exact ⟨h0, rfl, rfl, rfl, fun a ha => am_up_n _ _ ha, fun a ha => by rw [hf a ha, am_up_n _ _ ha]⟩

theorem and_m1' (x : Int32) : x &&& (-1) = x := b_ext (fun i hi => by rw [b_and, b_m1 i hi, Bool.and_true])
theorem dX9_walk_0 : decode cX9_walk 0 = .ok (.iload_n 1, 1) := by decide +kernel
theorem dX9_walk_1 : decode cX9_walk 1 = .ok (.aload_n 0, 1) := by decide +kernel
theorem dX9_walk_2 : decode cX9_walk 2 = .ok (.getfield 27, 3) := by decide +kernel
theorem dX9_walk_5 : decode cX9_walk 5 = .ok (.invokevirtual 318, 3) := by decide +kernel
theorem dX9_walk_8 : decode cX9_walk 8 = .ok (.iconst (-1), 1) := by decide +kernel
theorem dX9_walk_9 : decode cX9_walk 9 = .ok (.ixor, 1) := by decide +kernel
theorem dX9_walk_10 : decode cX9_walk 10 = .ok (.iand, 1) := by decide +kernel
theorem dX9_walk_11 : decode cX9_walk 11 = .ok (.ifCond .ne 13, 3) := by decide +kernel
theorem dX9_walk_14 : decode cX9_walk 14 = .ok (.iload_n 3, 1) := by decide +kernel
theorem dX9_walk_15 : decode cX9_walk 15 = .ok (.ifCond .lt 9, 3) := by decide +kernel
theorem dX9_walk_18 : decode cX9_walk 18 = .ok (.iload_n 3, 1) := by decide +kernel
theorem dX9_walk_19 : decode cX9_walk 19 = .ok (.bipush 9, 2) := by decide +kernel
theorem dX9_walk_21 : decode cX9_walk 21 = .ok (.if_icmp .le 11, 3) := by decide +kernel
theorem dX9_walk_24 : decode cX9_walk 24 = .ok (.new 110, 3) := by decide +kernel
theorem dX9_walk_27 : decode cX9_walk 27 = .ok (.dup, 1) := by decide +kernel
theorem dX9_walk_28 : decode cX9_walk 28 = .ok (.invokespecial 112, 3) := by decide +kernel
theorem dX9_walk_31 : decode cX9_walk 31 = .ok (.athrow, 1) := by decide +kernel
theorem dX9_walk_32 : decode cX9_walk 32 = .ok (.aload_n 0, 1) := by decide +kernel
theorem dX9_walk_33 : decode cX9_walk 33 = .ok (.iload_n 2, 1) := by decide +kernel
theorem dX9_walk_34 : decode cX9_walk 34 = .ok (.invokevirtual 235, 3) := by decide +kernel
theorem dX9_walk_37 : decode cX9_walk 37 = .ok (.aload_n 0, 1) := by decide +kernel
theorem dX9_walk_38 : decode cX9_walk 38 = .ok (.invokevirtual 183, 3) := by decide +kernel
theorem dX9_walk_41 : decode cX9_walk 41 = .ok (.aload_n 0, 1) := by decide +kernel
theorem dX9_walk_42 : decode cX9_walk 42 = .ok (.getfield 54, 3) := by decide +kernel
theorem dX9_walk_45 : decode cX9_walk 45 = .ok (.getfield 186, 3) := by decide +kernel
theorem dX9_walk_48 : decode cX9_walk 48 = .ok (.bipush (-2), 2) := by decide +kernel
theorem dX9_walk_50 : decode cX9_walk 50 = .ok (.if_icmp .ne 6, 3) := by decide +kernel
theorem dX9_walk_53 : decode cX9_walk 53 = .ok (.bipush (-2), 2) := by decide +kernel
theorem dX9_walk_55 : decode cX9_walk 55 = .ok (.ireturn, 1) := by decide +kernel
theorem dX9_walk_56 : decode cX9_walk 56 = .ok (.iconst 0, 1) := by decide +kernel
theorem dX9_walk_57 : decode cX9_walk 57 = .ok (.istore 4, 2) := by decide +kernel
theorem dX9_walk_59 : decode cX9_walk 59 = .ok (.iconst 0, 1) := by decide +kernel
theorem dX9_walk_60 : decode cX9_walk 60 = .ok (.istore 5, 2) := by decide +kernel
theorem dX9_walk_62 : decode cX9_walk 62 = .ok (.iload 5, 2) := by decide +kernel
theorem dX9_walk_64 : decode cX9_walk 64 = .ok (.aload_n 0, 1) := by decide +kernel
theorem dX9_walk_65 : decode cX9_walk 65 = .ok (.getfield 27, 3) := by decide +kernel
theorem dX9_walk_68 : decode cX9_walk 68 = .ok (.getfield 124, 3) := by decide +kernel
theorem dX9_walk_71 : decode cX9_walk 71 = .ok (.if_icmp .ge 33, 3) := by decide +kernel
theorem dX9_walk_74 : decode cX9_walk 74 = .ok (.iload_n 1, 1) := by decide +kernel
theorem dX9_walk_75 : decode cX9_walk 75 = .ok (.iload 5, 2) := by decide +kernel
theorem dX9_walk_77 : decode cX9_walk 77 = .ok (.ishr, 1) := by decide +kernel
theorem dX9_walk_78 : decode cX9_walk 78 = .ok (.iconst 1, 1) := by decide +kernel
theorem dX9_walk_79 : decode cX9_walk 79 = .ok (.iand, 1) := by decide +kernel
theorem dX9_walk_80 : decode cX9_walk 80 = .ok (.ifCond .eq 18, 3) := by decide +kernel
theorem dX9_walk_83 : decode cX9_walk 83 = .ok (.iload 4, 2) := by decide +kernel
theorem dX9_walk_85 : decode cX9_walk 85 = .ok (.aload_n 0, 1) := by decide +kernel
theorem dX9_walk_86 : decode cX9_walk 86 = .ok (.getfield 54, 3) := by decide +kernel
theorem dX9_walk_89 : decode cX9_walk 89 = .ok (.getfield 195, 3) := by decide +kernel
theorem dX9_walk_92 : decode cX9_walk 92 = .ok (.iload 5, 2) := by decide +kernel
theorem dX9_walk_94 : decode cX9_walk 94 = .ok (.iaload, 1) := by decide +kernel
theorem dX9_walk_95 : decode cX9_walk 95 = .ok (.ior, 1) := by decide +kernel
theorem dX9_walk_96 : decode cX9_walk 96 = .ok (.istore 4, 2) := by decide +kernel
theorem dX9_walk_98 : decode cX9_walk 98 = .ok (.iinc 5 1, 3) := by decide +kernel
theorem dX9_walk_101 : decode cX9_walk 101 = .ok (.goto (-39), 3) := by decide +kernel
theorem dX9_walk_104 : decode cX9_walk 104 = .ok (.aload_n 0, 1) := by decide +kernel
theorem dX9_walk_105 : decode cX9_walk 105 = .ok (.getfield 78, 3) := by decide +kernel
theorem dX9_walk_108 : decode cX9_walk 108 = .ok (.iload 4, 2) := by decide +kernel
theorem dX9_walk_110 : decode cX9_walk 110 = .ok (.iload_n 2, 1) := by decide +kernel
theorem dX9_walk_111 : decode cX9_walk 111 = .ok (.iload_n 3, 1) := by decide +kernel
theorem dX9_walk_112 : decode cX9_walk 112 = .ok (.aload_n 0, 1) := by decide +kernel
theorem dX9_walk_113 : decode cX9_walk 113 = .ok (.getfield 71, 3) := by decide +kernel
theorem dX9_walk_116 : decode cX9_walk 116 = .ok (.invokevirtual 321, 3) := by decide +kernel
theorem dX9_walk_119 : decode cX9_walk 119 = .ok (.invokevirtual 325, 3) := by decide +kernel
theorem dX9_walk_122 : decode cX9_walk 122 = .ok (.ireturn, 1) := by decide +kernel
set_option maxHeartbeats 4000000 in
set_option maxRecDepth 100000 in
theorem p_walk_no (o : Nat) (x1 x2 x3 : Int32) {n : Nat} {kd : mK} {I : mI} {J : mJ} {P : mP} (hF : fsC o n kd I J P) (hx : ¬ x1 = 0 ∨ x3 < 0 ∨ nI 9 < x3 ∨ x2 < nI 1 ∨ nI 9 < x2) : Ct yX9_walk cX9_walk 6 (some .int) 9 2 10252 [.ref o, .int x1, .int x2, .int x3] n kd I J P (pC o n kd I J P (.inr "java/lang/IllegalArgumentException")) := by
  have hF0 := hF
  obtain ⟨hX, hO, h12, hz, hn, f3, f13, f23, f29, f35, f41, f47, f56, f58, f61, f66, f67, f48⟩ := hF
  have hX0 := hX
  obtain ⟨⟨c0, c1, c2⟩, ⟨s3, s13⟩, ⟨l23, l29, l35⟩, ⟨q41, a47, g56, w58, r61, d66, p67⟩, ⟨e0, e3, e8, e10, e12, e13, e14, e15, e16, e17⟩, ⟨e4, e5, e6, e7⟩, hbs, hfl, ho⟩ := hX
  have h9 : I (o + 3) 1 = nI 9 := by rw [f3.1]; rfl
  refine ct_of 2 (by decide +kernel) (Nat.le_of_ble_eq_true rfl) rfl ?_
  refine r_iload_n dX9_walk_0 rfl ?_
  refine r_aload_n dX9_walk_1 rfl ?_
  refine r_getR dX9_walk_2 fl_X9_27 rfl c0 e4 ?_
  refine r_virtE (c_X7_allHouses (o + 3) s3) lk_X9_318 mc_X7_allHouses dX9_walk_5 s3.1 (by decide) rfl rfl (Nat.le_of_ble_eq_true rfl) ?_
  refine r_iconst (v := (-1)) dX9_walk_8 (by decide) ?_
  refine r_ixor dX9_walk_9 ?_
  refine r_iand dX9_walk_10 ?_
  rw [show (nI 1 <<< (I (o + 3) 0 &&& 31) - nI 1) ^^^ (-1) = -1 from by rw [f3.1]; decide, and_m1']
  refine r_if_ne (tgt := 24) dX9_walk_11 (by decide) (fun h11 => ?_) (fun h11 => ?_)
  · skip
    refine r_throw (cls := "java/lang/IllegalArgumentException") (names := ["java/lang/RuntimeException", "java/lang/Exception"]) dX9_walk_24 dX9_walk_27 dX9_walk_28 dX9_walk_31 (by decide +kernel) (by decide +kernel) cl_X9_110 xi_IllegalArgumentException xa_iae xb_iae (by decide) (Nat.le_of_ble_eq_true rfl) (by omega) (by omega) ?_
    exact pC.eq
  · skip
    refine r_iload_n dX9_walk_14 rfl ?_
    refine r_if_lt (tgt := 24) dX9_walk_15 (by decide) (fun h15 => ?_) (fun h15 => ?_)
    · skip
      refine r_throw (cls := "java/lang/IllegalArgumentException") (names := ["java/lang/RuntimeException", "java/lang/Exception"]) dX9_walk_24 dX9_walk_27 dX9_walk_28 dX9_walk_31 (by decide +kernel) (by decide +kernel) cl_X9_110 xi_IllegalArgumentException xa_iae xb_iae (by decide) (Nat.le_of_ble_eq_true rfl) (by omega) (by omega) ?_
      exact pC.eq
    · skip
      refine r_iload_n dX9_walk_18 rfl ?_
      refine r_bipush (v := nI 9) dX9_walk_19 (by decide) ?_
      refine r_icmp_le (tgt := 32) dX9_walk_21 (by decide) (fun h21 => ?_) (fun h21 => ?_)
      · skip
        refine r_aload_n dX9_walk_32 rfl ?_
        refine r_iload_n dX9_walk_33 rfl ?_
        refine r_virtX (v := none) (by have h := c_X9_mustBeNumber (n := n) (kd := kd) (I := I) (J := J) (P := P) o (o + 3) x2 c0 e4 s3.1; rw [show (!decide (x2 < nI 1) && decide (x2 ≤ I (o + 3) 1)) = false from by rw [h9]; rcases hx with q | q | q | q | q; exact absurd h11 (fun z => q (by simpa using z)); exact absurd q h15; exact absurd q (Int32.not_lt.mpr h21); rw [decide_eq_true q]; rfl; rw [decide_eq_false (Int32.not_le.mpr q), Bool.and_false]] at h; exact h) lk_X9_235 mc_X9_mustBeNumber dX9_walk_34 c0 (by decide) rfl rfl (Nat.le_of_ble_eq_true rfl) (by decide) (by decide) pC.eq
      · skip
        refine r_throw (cls := "java/lang/IllegalArgumentException") (names := ["java/lang/RuntimeException", "java/lang/Exception"]) dX9_walk_24 dX9_walk_27 dX9_walk_28 dX9_walk_31 (by decide +kernel) (by decide +kernel) cl_X9_110 xi_IllegalArgumentException xa_iae xb_iae (by decide) (Nat.le_of_ble_eq_true rfl) (by omega) (by omega) ?_
        exact pC.eq

set_option maxHeartbeats 4000000 in
set_option maxRecDepth 100000 in
theorem p_walk_0 (o : Nat) (x2 x3 : Int32) {n : Nat} {kd : mK} {I : mI} {J : mJ} {P : mP} (hF : fsC o n kd I J P) (h3 : ¬ x3 < 0) (h39 : x3 ≤ nI 9) (h2 : ¬ x2 < nI 1) (h29 : x2 ≤ nI 9) : Ct yX9_walk cX9_walk 6 (some .int) 9 2 10252 [.ref o, .int (nI 0), .int x2, .int x3] n kd I J P (pC o n kd I J P (.inl (some (.int (nI 0))))) := by
  have hF0 := hF
  obtain ⟨hX, hO, h12, hz, hn, f3, f13, f23, f29, f35, f41, f47, f56, f58, f61, f66, f67, f48⟩ := hF
  have hX0 := hX
  obtain ⟨⟨c0, c1, c2⟩, ⟨s3, s13⟩, ⟨l23, l29, l35⟩, ⟨q41, a47, g56, w58, r61, d66, p67⟩, ⟨e0, e3, e8, e10, e12, e13, e14, e15, e16, e17⟩, ⟨e4, e5, e6, e7⟩, hbs, hfl, ho⟩ := hX
  have h9 : I (o + 3) 1 = nI 9 := by rw [f3.1]; rfl
  refine ct_of 2 (by decide +kernel) (Nat.le_of_ble_eq_true rfl) rfl ?_
  refine r_iload_n dX9_walk_0 rfl ?_
  refine r_aload_n dX9_walk_1 rfl ?_
  refine r_getR dX9_walk_2 fl_X9_27 rfl c0 e4 ?_
  refine r_virtE (c_X7_allHouses (o + 3) s3) lk_X9_318 mc_X7_allHouses dX9_walk_5 s3.1 (by decide) rfl rfl (Nat.le_of_ble_eq_true rfl) ?_
  refine r_iconst (v := (-1)) dX9_walk_8 (by decide) ?_
  refine r_ixor dX9_walk_9 ?_
  refine r_iand dX9_walk_10 ?_
  rw [show (nI 1 <<< (I (o + 3) 0 &&& 31) - nI 1) ^^^ (-1) = -1 from by rw [f3.1]; decide, and_m1']
  refine r_if_ne (tgt := 24) dX9_walk_11 (by decide) (fun hz => absurd (show _ from rfl) hz) (fun _ => ?_)
  refine r_iload_n dX9_walk_14 rfl ?_
  refine r_if_lt (tgt := 24) dX9_walk_15 (by decide) (fun hz => absurd hz (show ¬ _ from h3)) (fun _ => ?_)
  refine r_iload_n dX9_walk_18 rfl ?_
  refine r_bipush (v := nI 9) dX9_walk_19 (by decide) ?_
  refine r_icmp_le (tgt := 32) dX9_walk_21 (by decide) (fun _ => ?_) (fun hz => absurd (show _ from h39) hz)
  refine r_aload_n dX9_walk_32 rfl ?_
  refine r_iload_n dX9_walk_33 rfl ?_
  refine r_virtO (kc2 := 1) (ks2 := 10240) (by have h := c_X9_mustBeNumber (n := n) (kd := kd) (I := I) (J := J) (P := P) o (o + 3) x2 c0 e4 s3.1; rw [show (!decide (x2 < nI 1) && decide (x2 ≤ I (o + 3) 1)) = true from by rw [h9, decide_eq_false h2, decide_eq_true h29]; rfl] at h; exact h) lk_X9_235 mc_X9_mustBeNumber dX9_walk_34 c0 (by decide) rfl rfl (Nat.le_of_ble_eq_true rfl) (by decide) (by decide) ?_
  refine r_aload_n dX9_walk_37 rfl ?_
  refine r_virt (kc2 := 1) (ks2 := 10240) (c_X9_search o (o + 3) (o + 23) 0 9 0 (fun h => lkm 0 (cs0 h)) cs0 false so0 (I (o + 23 + 1)) (I (o + 23 + 2)) res0 c0 e10 e4 e6 s3 l23 q41 (by omega) (by omega) (by omega) (by omega) (by decide) (by decide) (fs_cl hF0) (sk_0 _ _ _) (by rw [hO]; rfl)) lk_X9_183 mc_X9_search dX9_walk_38 c0 (by decide) rfl rfl (Nat.le_of_ble_eq_true rfl) (by decide) (by decide) (fun _ _ _ _ _ _ h => nomatch h.1) ?_
  rintro v n1 kd1 I1 J1 P1 ⟨h0, rfl, rfl, g1, g2, g3, g4, g5, -, g7, -, -⟩
  cases h0
  simp only [Option.toList, List.nil_append]
  have g7' : I1 (o + 41) 10 = nI 1 := g7
  have P1o : P1 o = P o := g4 o (by omega)
  have hw1 : kW kd1 P1 (o + 58) := by unfold kW at w58 ⊢; rw [g4 (o + 58) (by omega)]; exact w58
  have hg1 : kG kd1 P1 (o + 56) := by unfold kG at g56 ⊢; rw [g4 (o + 56) (by omega)]; exact g56
  have hz1 : P1 (o + 56) 3 = none := by rw [g4 (o + 56) (by omega)]; exact hz
  refine r_aload_n dX9_walk_41 rfl ?_
  refine r_getR dX9_walk_42 fl_X9_54 rfl c0 (by rw [P1o]; exact e10) ?_
  refine r_getI dX9_walk_45 fl_X9_186 rfl q41.1 ?_
  rw [g7']
  refine r_bipush (v := -2) dX9_walk_48 (by decide) ?_
  refine r_icmp_ne (tgt := 56) dX9_walk_50 (by decide) (fun _ => ?_) (fun hz => absurd hz (show ¬ _ from (by decide)))
  refine r_iconst (v := nI 0) dX9_walk_56 (by decide) ?_
  refine r_istore dX9_walk_57 (by decide) ?_
  refine r_iconst (v := nI 0) dX9_walk_59 (by decide) ?_
  refine r_istore dX9_walk_60 (by decide) ?_
  refine r_iload dX9_walk_62 rfl ?_
  refine r_aload_n dX9_walk_64 rfl ?_
  refine r_getR dX9_walk_65 fl_X9_27 rfl c0 (by rw [P1o]; exact e4) ?_
  refine r_getI dX9_walk_68 fl_X9_124 rfl s3.1 ?_
  rw [show I1 (o + 3) 0 = nI 0 from by rw [g1 (o + 3) (by omega) (by omega) (by omega), f3.1]; rfl]
  refine r_icmp_ge (tgt := 104) dX9_walk_71 (by decide) (fun _ => ?_) (fun hz => absurd (show _ from (by decide)) hz)
  refine r_aload_n dX9_walk_104 rfl ?_
  refine r_getR dX9_walk_105 fl_X9_78 rfl c0 (by rw [P1o]; exact e14) ?_
  refine r_iload dX9_walk_108 rfl ?_
  refine r_iload_n dX9_walk_110 rfl ?_
  refine r_iload_n dX9_walk_111 rfl ?_
  refine r_aload_n dX9_walk_112 rfl ?_
  refine r_getR dX9_walk_113 fl_X9_71 rfl c0 (by rw [P1o]; exact e13) ?_
  refine r_virt (kc2 := 0) (ks2 := 0) (c_X3_scratchRow_new (o + 56) hg1 hz1 (by omega) (by omega)) lk_X9_321 mc_X3_scratchRow dX9_walk_116 hg1.1 (by decide) rfl rfl (Nat.le_of_ble_eq_true rfl) (by decide) (by decide) (fun _ _ _ _ _ _ h => nomatch h.1) ?_
  rintro v n2 kd2 I2 J2 P2 ⟨h0, rfl, rfl, rfl, rfl, rfl⟩
  cases h0
  simp only [Option.toList, List.cons_append, List.nil_append]
  have hw2 : kW (va_up kd1 n1 (some (1, 10240))) (va_up P1 (o + 56) (va_up (P1 (o + 56)) 3 (some n1))) (o + 58) := by
    unfold kW at hw1 ⊢
    rw [am_up_n _ _ (by omega), am_up_n _ _ (by omega), am_up_n _ _ (by omega), am_up_n _ _ (by omega)]
    exact hw1
  refine r_virt (c_wt0 (o + 58) n1 x2 x3 hw2 (by rw [am_up_s]) (by omega)) lk_X9_325 mc_X8_walkTo dX9_walk_119 hw2.1 (by decide) rfl rfl (Nat.le_of_ble_eq_true rfl) (Nat.le_of_eq (Nat.zero_add _)) (Nat.le_of_eq (Nat.zero_add _)) (fun _ _ _ _ _ _ h => nomatch h.1) ?_
  rintro v n3 kd3 I3 J3 P3 ⟨h0, rfl, rfl, rfl, k1, k2⟩
  cases h0
  simp only [Option.toList, List.cons_append, List.nil_append]
  refine r_iret rfl dX9_walk_122 ?_
  refine ⟨rfl, ⟨by omega, by omega⟩, fun a a1 a2 => ⟨am_up_n _ _ (by omega), ?_, ?_, ?_⟩⟩
  · rw [k2 a (by omega), am_up_n _ _ (by omega)]; exact g1 a (by omega) (by omega) (by omega)
  · rw [am_up_n _ _ (by omega)]; exact g3 a (by omega)
  · rw [k1 a (by omega), am_up_n _ _ (by omega)]; exact g4 a (by omega)

theorem dX10_walk_0 : decode cX10_walk 0 = .ok (.aload_n 0, 1) := by decide +kernel
theorem dX10_walk_1 : decode cX10_walk 1 = .ok (.iconst 0, 1) := by decide +kernel
theorem dX10_walk_2 : decode cX10_walk 2 = .ok (.putfield 193, 3) := by decide +kernel
theorem dX10_walk_5 : decode cX10_walk 5 = .ok (.aload_n 0, 1) := by decide +kernel
theorem dX10_walk_6 : decode cX10_walk 6 = .ok (.iload_n 1, 1) := by decide +kernel
theorem dX10_walk_7 : decode cX10_walk 7 = .ok (.ifCond .lt 39, 3) := by decide +kernel
theorem dX10_walk_10 : decode cX10_walk 10 = .ok (.iload_n 1, 1) := by decide +kernel
theorem dX10_walk_11 : decode cX10_walk 11 = .ok (.iconst 1, 1) := by decide +kernel
theorem dX10_walk_12 : decode cX10_walk 12 = .ok (.aload_n 0, 1) := by decide +kernel
theorem dX10_walk_13 : decode cX10_walk 13 = .ok (.getfield 350, 3) := by decide +kernel
theorem dX10_walk_16 : decode cX10_walk 16 = .ok (.ishl, 1) := by decide +kernel
theorem dX10_walk_17 : decode cX10_walk 17 = .ok (.if_icmp .ge 29, 3) := by decide +kernel
theorem dX10_walk_20 : decode cX10_walk 20 = .ok (.iload_n 2, 1) := by decide +kernel
theorem dX10_walk_21 : decode cX10_walk 21 = .ok (.iconst 1, 1) := by decide +kernel
theorem dX10_walk_22 : decode cX10_walk 22 = .ok (.aload_n 0, 1) := by decide +kernel
theorem dX10_walk_23 : decode cX10_walk 23 = .ok (.getfield 7, 3) := by decide +kernel
theorem dX10_walk_26 : decode cX10_walk 26 = .ok (.invokestatic 369, 3) := by decide +kernel
theorem dX10_walk_29 : decode cX10_walk 29 = .ok (.ifCond .eq 17, 3) := by decide +kernel
theorem dX10_walk_32 : decode cX10_walk 32 = .ok (.iload_n 3, 1) := by decide +kernel
theorem dX10_walk_33 : decode cX10_walk 33 = .ok (.iconst 0, 1) := by decide +kernel
theorem dX10_walk_34 : decode cX10_walk 34 = .ok (.bipush 9, 2) := by decide +kernel
theorem dX10_walk_36 : decode cX10_walk 36 = .ok (.invokestatic 369, 3) := by decide +kernel
theorem dX10_walk_39 : decode cX10_walk 39 = .ok (.ifCond .eq 7, 3) := by decide +kernel
theorem dX10_walk_42 : decode cX10_walk 42 = .ok (.iconst 1, 1) := by decide +kernel
theorem dX10_walk_43 : decode cX10_walk 43 = .ok (.goto 4, 3) := by decide +kernel
theorem dX10_walk_46 : decode cX10_walk 46 = .ok (.iconst 0, 1) := by decide +kernel
theorem dX10_walk_47 : decode cX10_walk 47 = .ok (.iconst 1, 1) := by decide +kernel
theorem dX10_walk_48 : decode cX10_walk 48 = .ok (.invokevirtual 343, 3) := by decide +kernel
theorem dX10_walk_51 : decode cX10_walk 51 = .ok (.ifCond .ne 5, 3) := by decide +kernel
theorem dX10_walk_54 : decode cX10_walk 54 = .ok (.iconst 0, 1) := by decide +kernel
theorem dX10_walk_55 : decode cX10_walk 55 = .ok (.ireturn, 1) := by decide +kernel
theorem dX10_walk_56 : decode cX10_walk 56 = .ok (.aload_n 0, 1) := by decide +kernel
theorem dX10_walk_57 : decode cX10_walk 57 = .ok (.invokevirtual 436, 3) := by decide +kernel
theorem dX10_walk_60 : decode cX10_walk 60 = .ok (.ifCond .ne 6, 3) := by decide +kernel
theorem dX10_walk_63 : decode cX10_walk 63 = .ok (.bipush (-2), 2) := by decide +kernel
theorem dX10_walk_65 : decode cX10_walk 65 = .ok (.ireturn, 1) := by decide +kernel
theorem dX10_walk_66 : decode cX10_walk 66 = .ok (.iconst 0, 1) := by decide +kernel
theorem dX10_walk_67 : decode cX10_walk 67 = .ok (.istore 4, 2) := by decide +kernel
theorem dX10_walk_69 : decode cX10_walk 69 = .ok (.iconst 0, 1) := by decide +kernel
theorem dX10_walk_70 : decode cX10_walk 70 = .ok (.istore 5, 2) := by decide +kernel
theorem dX10_walk_72 : decode cX10_walk 72 = .ok (.iload 5, 2) := by decide +kernel
theorem dX10_walk_74 : decode cX10_walk 74 = .ok (.aload_n 0, 1) := by decide +kernel
theorem dX10_walk_75 : decode cX10_walk 75 = .ok (.getfield 350, 3) := by decide +kernel
theorem dX10_walk_78 : decode cX10_walk 78 = .ok (.if_icmp .ge 34, 3) := by decide +kernel
theorem dX10_walk_81 : decode cX10_walk 81 = .ok (.iload 4, 2) := by decide +kernel
theorem dX10_walk_83 : decode cX10_walk 83 = .ok (.iload_n 1, 1) := by decide +kernel
theorem dX10_walk_84 : decode cX10_walk 84 = .ok (.iload 5, 2) := by decide +kernel
theorem dX10_walk_86 : decode cX10_walk 86 = .ok (.ishr, 1) := by decide +kernel
theorem dX10_walk_87 : decode cX10_walk 87 = .ok (.iconst 1, 1) := by decide +kernel
theorem dX10_walk_88 : decode cX10_walk 88 = .ok (.iand, 1) := by decide +kernel
theorem dX10_walk_89 : decode cX10_walk 89 = .ok (.iconst 1, 1) := by decide +kernel
theorem dX10_walk_90 : decode cX10_walk 90 = .ok (.if_icmp .ne 12, 3) := by decide +kernel
theorem dX10_walk_93 : decode cX10_walk 93 = .ok (.aload_n 0, 1) := by decide +kernel
theorem dX10_walk_94 : decode cX10_walk 94 = .ok (.iload 5, 2) := by decide +kernel
theorem dX10_walk_96 : decode cX10_walk 96 = .ok (.invokevirtual 442, 3) := by decide +kernel
theorem dX10_walk_99 : decode cX10_walk 99 = .ok (.goto 4, 3) := by decide +kernel
theorem dX10_walk_102 : decode cX10_walk 102 = .ok (.iconst 0, 1) := by decide +kernel
theorem dX10_walk_103 : decode cX10_walk 103 = .ok (.ior, 1) := by decide +kernel
theorem dX10_walk_104 : decode cX10_walk 104 = .ok (.istore 4, 2) := by decide +kernel
theorem dX10_walk_106 : decode cX10_walk 106 = .ok (.iinc 5 1, 3) := by decide +kernel
theorem dX10_walk_109 : decode cX10_walk 109 = .ok (.goto (-37), 3) := by decide +kernel
theorem dX10_walk_112 : decode cX10_walk 112 = .ok (.iload 4, 2) := by decide +kernel
theorem dX10_walk_114 : decode cX10_walk 114 = .ok (.invokestatic 448, 3) := by decide +kernel
theorem dX10_walk_117 : decode cX10_walk 117 = .ok (.bipush 10, 2) := by decide +kernel
theorem dX10_walk_119 : decode cX10_walk 119 = .ok (.if_icmp .le 6, 3) := by decide +kernel
theorem dX10_walk_122 : decode cX10_walk 122 = .ok (.bipush (-2), 2) := by decide +kernel
theorem dX10_walk_124 : decode cX10_walk 124 = .ok (.ireturn, 1) := by decide +kernel
theorem dX10_walk_125 : decode cX10_walk 125 = .ok (.aload_n 0, 1) := by decide +kernel
theorem dX10_walk_126 : decode cX10_walk 126 = .ok (.iconst 0, 1) := by decide +kernel
theorem dX10_walk_127 : decode cX10_walk 127 = .ok (.putfield 487, 3) := by decide +kernel
theorem dX10_walk_130 : decode cX10_walk 130 = .ok (.iconst 1, 1) := by decide +kernel
theorem dX10_walk_131 : decode cX10_walk 131 = .ok (.istore 5, 2) := by decide +kernel
theorem dX10_walk_133 : decode cX10_walk 133 = .ok (.iload 5, 2) := by decide +kernel
theorem dX10_walk_135 : decode cX10_walk 135 = .ok (.aload_n 0, 1) := by decide +kernel
theorem dX10_walk_136 : decode cX10_walk 136 = .ok (.getfield 7, 3) := by decide +kernel
theorem dX10_walk_139 : decode cX10_walk 139 = .ok (.if_icmp .gt 43, 3) := by decide +kernel
theorem dX10_walk_142 : decode cX10_walk 142 = .ok (.iload 4, 2) := by decide +kernel
theorem dX10_walk_144 : decode cX10_walk 144 = .ok (.iload 5, 2) := by decide +kernel
theorem dX10_walk_146 : decode cX10_walk 146 = .ok (.ishr, 1) := by decide +kernel
theorem dX10_walk_147 : decode cX10_walk 147 = .ok (.iconst 1, 1) := by decide +kernel
theorem dX10_walk_148 : decode cX10_walk 148 = .ok (.iand, 1) := by decide +kernel
theorem dX10_walk_149 : decode cX10_walk 149 = .ok (.ifCond .ne 6, 3) := by decide +kernel
theorem dX10_walk_152 : decode cX10_walk 152 = .ok (.goto 24, 3) := by decide +kernel
theorem dX10_walk_155 : decode cX10_walk 155 = .ok (.aload_n 0, 1) := by decide +kernel
theorem dX10_walk_156 : decode cX10_walk 156 = .ok (.getfield 130, 3) := by decide +kernel
theorem dX10_walk_159 : decode cX10_walk 159 = .ok (.aload_n 0, 1) := by decide +kernel
theorem dX10_walk_160 : decode cX10_walk 160 = .ok (.getfield 487, 3) := by decide +kernel
theorem dX10_walk_163 : decode cX10_walk 163 = .ok (.iload 5, 2) := by decide +kernel
theorem dX10_walk_165 : decode cX10_walk 165 = .ok (.iastore, 1) := by decide +kernel
theorem dX10_walk_166 : decode cX10_walk 166 = .ok (.aload_n 0, 1) := by decide +kernel
theorem dX10_walk_167 : decode cX10_walk 167 = .ok (.dup, 1) := by decide +kernel
theorem dX10_walk_168 : decode cX10_walk 168 = .ok (.getfield 487, 3) := by decide +kernel
theorem dX10_walk_171 : decode cX10_walk 171 = .ok (.iconst 1, 1) := by decide +kernel
theorem dX10_walk_172 : decode cX10_walk 172 = .ok (.iadd, 1) := by decide +kernel
theorem dX10_walk_173 : decode cX10_walk 173 = .ok (.putfield 487, 3) := by decide +kernel
theorem dX10_walk_176 : decode cX10_walk 176 = .ok (.iinc 5 1, 3) := by decide +kernel
theorem dX10_walk_179 : decode cX10_walk 179 = .ok (.goto (-46), 3) := by decide +kernel
theorem dX10_walk_182 : decode cX10_walk 182 = .ok (.iconst 1, 1) := by decide +kernel
theorem dX10_walk_183 : decode cX10_walk 183 = .ok (.aload_n 0, 1) := by decide +kernel
theorem dX10_walk_184 : decode cX10_walk 184 = .ok (.getfield 487, 3) := by decide +kernel
theorem dX10_walk_187 : decode cX10_walk 187 = .ok (.ishl, 1) := by decide +kernel
theorem dX10_walk_188 : decode cX10_walk 188 = .ok (.iconst 1, 1) := by decide +kernel
theorem dX10_walk_189 : decode cX10_walk 189 = .ok (.isub, 1) := by decide +kernel
theorem dX10_walk_190 : decode cX10_walk 190 = .ok (.istore 5, 2) := by decide +kernel
theorem dX10_walk_192 : decode cX10_walk 192 = .ok (.iload 5, 2) := by decide +kernel
theorem dX10_walk_194 : decode cX10_walk 194 = .ok (.ifCond .le 103, 3) := by decide +kernel
theorem dX10_walk_197 : decode cX10_walk 197 = .ok (.iconst 0, 1) := by decide +kernel
theorem dX10_walk_198 : decode cX10_walk 198 = .ok (.istore 6, 2) := by decide +kernel
theorem dX10_walk_200 : decode cX10_walk 200 = .ok (.iload 6, 2) := by decide +kernel
theorem dX10_walk_202 : decode cX10_walk 202 = .ok (.aload_n 0, 1) := by decide +kernel
theorem dX10_walk_203 : decode cX10_walk 203 = .ok (.getfield 487, 3) := by decide +kernel
theorem dX10_walk_206 : decode cX10_walk 206 = .ok (.if_icmp .ge 85, 3) := by decide +kernel
theorem dX10_walk_209 : decode cX10_walk 209 = .ok (.aload_n 0, 1) := by decide +kernel
theorem dX10_walk_210 : decode cX10_walk 210 = .ok (.aload_n 0, 1) := by decide +kernel
theorem dX10_walk_211 : decode cX10_walk 211 = .ok (.getfield 130, 3) := by decide +kernel
theorem dX10_walk_214 : decode cX10_walk 214 = .ok (.iload 6, 2) := by decide +kernel
theorem dX10_walk_216 : decode cX10_walk 216 = .ok (.iaload, 1) := by decide +kernel
theorem dX10_walk_217 : decode cX10_walk 217 = .ok (.iload 5, 2) := by decide +kernel
theorem dX10_walk_219 : decode cX10_walk 219 = .ok (.iload_n 3, 1) := by decide +kernel
theorem dX10_walk_220 : decode cX10_walk 220 = .ok (.invokevirtual 493, 3) := by decide +kernel
theorem dX10_walk_223 : decode cX10_walk 223 = .ok (.istore 7, 2) := by decide +kernel
theorem dX10_walk_225 : decode cX10_walk 225 = .ok (.aload_n 0, 1) := by decide +kernel
theorem dX10_walk_226 : decode cX10_walk 226 = .ok (.getfield 136, 3) := by decide +kernel
theorem dX10_walk_229 : decode cX10_walk 229 = .ok (.bipush 10, 2) := by decide +kernel
theorem dX10_walk_231 : decode cX10_walk 231 = .ok (.iload 5, 2) := by decide +kernel
theorem dX10_walk_233 : decode cX10_walk 233 = .ok (.imul, 1) := by decide +kernel
theorem dX10_walk_234 : decode cX10_walk 234 = .ok (.iload 6, 2) := by decide +kernel
theorem dX10_walk_236 : decode cX10_walk 236 = .ok (.iadd, 1) := by decide +kernel
theorem dX10_walk_237 : decode cX10_walk 237 = .ok (.iload 7, 2) := by decide +kernel
theorem dX10_walk_239 : decode cX10_walk 239 = .ok (.iconst (-1), 1) := by decide +kernel
theorem dX10_walk_240 : decode cX10_walk 240 = .ok (.if_icmp .ne 7, 3) := by decide +kernel
theorem dX10_walk_243 : decode cX10_walk 243 = .ok (.iconst 0, 1) := by decide +kernel
theorem dX10_walk_244 : decode cX10_walk 244 = .ok (.goto 40, 3) := by decide +kernel
theorem dX10_walk_247 : decode cX10_walk 247 = .ok (.aload_n 0, 1) := by decide +kernel
theorem dX10_walk_248 : decode cX10_walk 248 = .ok (.getfield 130, 3) := by decide +kernel
theorem dX10_walk_251 : decode cX10_walk 251 = .ok (.iload 6, 2) := by decide +kernel
theorem dX10_walk_253 : decode cX10_walk 253 = .ok (.iaload, 1) := by decide +kernel
theorem dX10_walk_254 : decode cX10_walk 254 = .ok (.aload_n 0, 1) := by decide +kernel
theorem dX10_walk_255 : decode cX10_walk 255 = .ok (.getfield 130, 3) := by decide +kernel
theorem dX10_walk_258 : decode cX10_walk 258 = .ok (.iload 7, 2) := by decide +kernel
theorem dX10_walk_260 : decode cX10_walk 260 = .ok (.iaload, 1) := by decide +kernel
theorem dX10_walk_261 : decode cX10_walk 261 = .ok (.iload_n 3, 1) := by decide +kernel
theorem dX10_walk_262 : decode cX10_walk 262 = .ok (.invokestatic 490, 3) := by decide +kernel
theorem dX10_walk_265 : decode cX10_walk 265 = .ok (.aload_n 0, 1) := by decide +kernel
theorem dX10_walk_266 : decode cX10_walk 266 = .ok (.getfield 136, 3) := by decide +kernel
theorem dX10_walk_269 : decode cX10_walk 269 = .ok (.bipush 10, 2) := by decide +kernel
theorem dX10_walk_271 : decode cX10_walk 271 = .ok (.iload 5, 2) := by decide +kernel
theorem dX10_walk_273 : decode cX10_walk 273 = .ok (.iconst 1, 1) := by decide +kernel
theorem dX10_walk_274 : decode cX10_walk 274 = .ok (.iload 7, 2) := by decide +kernel
theorem dX10_walk_276 : decode cX10_walk 276 = .ok (.ishl, 1) := by decide +kernel
theorem dX10_walk_277 : decode cX10_walk 277 = .ok (.ior, 1) := by decide +kernel
theorem dX10_walk_278 : decode cX10_walk 278 = .ok (.imul, 1) := by decide +kernel
theorem dX10_walk_279 : decode cX10_walk 279 = .ok (.iload 7, 2) := by decide +kernel
theorem dX10_walk_281 : decode cX10_walk 281 = .ok (.iadd, 1) := by decide +kernel
theorem dX10_walk_282 : decode cX10_walk 282 = .ok (.iaload, 1) := by decide +kernel
theorem dX10_walk_283 : decode cX10_walk 283 = .ok (.iadd, 1) := by decide +kernel
theorem dX10_walk_284 : decode cX10_walk 284 = .ok (.iastore, 1) := by decide +kernel
theorem dX10_walk_285 : decode cX10_walk 285 = .ok (.iinc 6 1, 3) := by decide +kernel
theorem dX10_walk_288 : decode cX10_walk 288 = .ok (.goto (-88), 3) := by decide +kernel
theorem dX10_walk_291 : decode cX10_walk 291 = .ok (.iinc 5 (-1), 3) := by decide +kernel
theorem dX10_walk_294 : decode cX10_walk 294 = .ok (.goto (-102), 3) := by decide +kernel
theorem dX10_walk_297 : decode cX10_walk 297 = .ok (.iload_n 2, 1) := by decide +kernel
theorem dX10_walk_298 : decode cX10_walk 298 = .ok (.istore 5, 2) := by decide +kernel
theorem dX10_walk_300 : decode cX10_walk 300 = .ok (.iconst 0, 1) := by decide +kernel
theorem dX10_walk_301 : decode cX10_walk 301 = .ok (.istore 6, 2) := by decide +kernel
theorem dX10_walk_303 : decode cX10_walk 303 = .ok (.iconst 0, 1) := by decide +kernel
theorem dX10_walk_304 : decode cX10_walk 304 = .ok (.istore 7, 2) := by decide +kernel
theorem dX10_walk_306 : decode cX10_walk 306 = .ok (.iconst 0, 1) := by decide +kernel
theorem dX10_walk_307 : decode cX10_walk 307 = .ok (.istore 8, 2) := by decide +kernel
theorem dX10_walk_309 : decode cX10_walk 309 = .ok (.iload 8, 2) := by decide +kernel
theorem dX10_walk_311 : decode cX10_walk 311 = .ok (.aload_n 0, 1) := by decide +kernel
theorem dX10_walk_312 : decode cX10_walk 312 = .ok (.getfield 487, 3) := by decide +kernel
theorem dX10_walk_315 : decode cX10_walk 315 = .ok (.if_icmp .ge 65, 3) := by decide +kernel
theorem dX10_walk_318 : decode cX10_walk 318 = .ok (.aload_n 0, 1) := by decide +kernel
theorem dX10_walk_319 : decode cX10_walk 319 = .ok (.iload 5, 2) := by decide +kernel
theorem dX10_walk_321 : decode cX10_walk 321 = .ok (.iload 6, 2) := by decide +kernel
theorem dX10_walk_323 : decode cX10_walk 323 = .ok (.iload_n 3, 1) := by decide +kernel
theorem dX10_walk_324 : decode cX10_walk 324 = .ok (.invokevirtual 493, 3) := by decide +kernel
theorem dX10_walk_327 : decode cX10_walk 327 = .ok (.istore 9, 2) := by decide +kernel
theorem dX10_walk_329 : decode cX10_walk 329 = .ok (.iload 7, 2) := by decide +kernel
theorem dX10_walk_331 : decode cX10_walk 331 = .ok (.iload 5, 2) := by decide +kernel
theorem dX10_walk_333 : decode cX10_walk 333 = .ok (.aload_n 0, 1) := by decide +kernel
theorem dX10_walk_334 : decode cX10_walk 334 = .ok (.getfield 130, 3) := by decide +kernel
theorem dX10_walk_337 : decode cX10_walk 337 = .ok (.iload 9, 2) := by decide +kernel
theorem dX10_walk_339 : decode cX10_walk 339 = .ok (.iaload, 1) := by decide +kernel
theorem dX10_walk_340 : decode cX10_walk 340 = .ok (.iload_n 3, 1) := by decide +kernel
theorem dX10_walk_341 : decode cX10_walk 341 = .ok (.invokestatic 490, 3) := by decide +kernel
theorem dX10_walk_344 : decode cX10_walk 344 = .ok (.iadd, 1) := by decide +kernel
theorem dX10_walk_345 : decode cX10_walk 345 = .ok (.istore 7, 2) := by decide +kernel
theorem dX10_walk_347 : decode cX10_walk 347 = .ok (.aload_n 0, 1) := by decide +kernel
theorem dX10_walk_348 : decode cX10_walk 348 = .ok (.getfield 130, 3) := by decide +kernel
theorem dX10_walk_351 : decode cX10_walk 351 = .ok (.iload 9, 2) := by decide +kernel
theorem dX10_walk_353 : decode cX10_walk 353 = .ok (.iaload, 1) := by decide +kernel
theorem dX10_walk_354 : decode cX10_walk 354 = .ok (.istore 5, 2) := by decide +kernel
theorem dX10_walk_356 : decode cX10_walk 356 = .ok (.iload 6, 2) := by decide +kernel
theorem dX10_walk_358 : decode cX10_walk 358 = .ok (.iconst 1, 1) := by decide +kernel
theorem dX10_walk_359 : decode cX10_walk 359 = .ok (.iload 9, 2) := by decide +kernel
theorem dX10_walk_361 : decode cX10_walk 361 = .ok (.ishl, 1) := by decide +kernel
theorem dX10_walk_362 : decode cX10_walk 362 = .ok (.ior, 1) := by decide +kernel
theorem dX10_walk_363 : decode cX10_walk 363 = .ok (.istore 6, 2) := by decide +kernel
theorem dX10_walk_365 : decode cX10_walk 365 = .ok (.aload_n 0, 1) := by decide +kernel
theorem dX10_walk_366 : decode cX10_walk 366 = .ok (.getfield 133, 3) := by decide +kernel
theorem dX10_walk_369 : decode cX10_walk 369 = .ok (.iload 8, 2) := by decide +kernel
theorem dX10_walk_371 : decode cX10_walk 371 = .ok (.iload 5, 2) := by decide +kernel
theorem dX10_walk_373 : decode cX10_walk 373 = .ok (.iastore, 1) := by decide +kernel
theorem dX10_walk_374 : decode cX10_walk 374 = .ok (.iinc 8 1, 3) := by decide +kernel
theorem dX10_walk_377 : decode cX10_walk 377 = .ok (.goto (-68), 3) := by decide +kernel
theorem dX10_walk_380 : decode cX10_walk 380 = .ok (.aload_n 0, 1) := by decide +kernel
theorem dX10_walk_381 : decode cX10_walk 381 = .ok (.aload_n 0, 1) := by decide +kernel
theorem dX10_walk_382 : decode cX10_walk 382 = .ok (.getfield 487, 3) := by decide +kernel
theorem dX10_walk_385 : decode cX10_walk 385 = .ok (.putfield 139, 3) := by decide +kernel
theorem dX10_walk_388 : decode cX10_walk 388 = .ok (.iload 7, 2) := by decide +kernel
theorem dX10_walk_390 : decode cX10_walk 390 = .ok (.ireturn, 1) := by decide +kernel

set_option maxHeartbeats 4000000 in
set_option maxRecDepth 100000 in
theorem q_walk_no (m : Nat) (x1 x2 x3 : Int32) {n : Nat} {kd : mK} {I : mI} {J : mJ} {P : mP} (hF : fsM m kd I J P) (hx : ¬ x1 = 0 ∨ (!decide (x2 < nI 1) && !decide (nI 9 < x2)) = false ∨ (!decide (x3 < nI 0) && !decide (nI 9 < x3)) = false) : Ct yX10_walk cX10_walk 10 (some .int) 9 0 0 [.ref m, .int x1, .int x2, .int x3] n kd I J P (pR m n kd I J P (some (.int (nI 0))) 1) := by
  have hM := hF.1
  have hm := hF.2.1
  refine ct_of 6 (by decide +kernel) (Nat.le_of_ble_eq_true rfl) rfl ?_
  have hsh : nI 1 <<< (nI 0 &&& 31) = nI 1 := by decide
  by_cases hx1 : x1 = 0
  · by_cases h2 : (!decide (x2 < nI 1) && !decide (nI 9 < x2)) = true
    · have h3 : (!decide (x3 < nI 0) && !decide (nI 9 < x3)) = false := by
        rcases hx with q | q | q
        · exact absurd hx1 q
        · rw [h2] at q; exact nomatch q
        · exact q
      refine r_aload_n dX10_walk_0 rfl ?_
      refine r_iconst (v := nI 0) dX10_walk_1 (by decide) ?_
      refine r_putI dX10_walk_2 fl_X10_193 rfl rfl (kM_0 hM) ?_
      rw [hF.th]
      refine r_aload_n dX10_walk_5 rfl ?_
      refine r_iload_n dX10_walk_6 rfl ?_
      refine r_if_lt (tgt := 46) dX10_walk_7 (by decide) (fun hz => absurd hz (show ¬ _ from (by rw [hx1]; decide))) (fun _ => ?_)
      refine r_iload_n dX10_walk_10 rfl ?_
      refine r_iconst (v := nI 1) dX10_walk_11 (by decide) ?_
      refine r_aload_n dX10_walk_12 rfl ?_
      refine r_getI dX10_walk_13 fl_X10_350 rfl (kM_0 hM) ?_
      rw [show I m 1 = nI 0 from by rw [hm]; rfl]
      refine r_ishl dX10_walk_16 ?_
      rw [hsh]
      refine r_icmp_ge (tgt := 46) dX10_walk_17 (by decide) (fun hz => absurd hz (show ¬ _ from (by rw [hx1]; decide))) (fun _ => ?_)
      refine r_iload_n dX10_walk_20 rfl ?_
      refine r_iconst (v := nI 1) dX10_walk_21 (by decide) ?_
      refine r_aload_n dX10_walk_22 rfl ?_
      refine r_getI dX10_walk_23 fl_X10_7 rfl (kM_0 hM) ?_
      rw [show I m 2 = nI 9 from by rw [hm]; rfl]
      refine r_statE (c_X10_within (x2) (nI 1) (nI 9)) lk_X10_369 mc_X10_within dX10_walk_26 (by decide) rfl rfl (Nat.le_of_ble_eq_true rfl) ?_
      rw [show (!decide (x2 < nI 1) && !decide (nI 9 < x2)) = true from h2]
      refine r_if_eq (tgt := 46) dX10_walk_29 (by decide) (fun hz => absurd hz (show ¬ _ from (by decide))) (fun _ => ?_)
      refine r_iload_n dX10_walk_32 rfl ?_
      refine r_iconst (v := nI 0) dX10_walk_33 (by decide) ?_
      refine r_bipush (v := nI 9) dX10_walk_34 (by decide) ?_
      refine r_statE (c_X10_within (x3) (nI 0) (nI 9)) lk_X10_369 mc_X10_within dX10_walk_36 (by decide) rfl rfl (Nat.le_of_ble_eq_true rfl) ?_
      rw [show (!decide (x3 < nI 0) && !decide (nI 9 < x3)) = false from h3]
      refine r_if_eq (tgt := 46) dX10_walk_39 (by decide) (fun _ => ?_) (fun hz => absurd (show _ from rfl) hz)
      refine r_iconst (v := nI 0) dX10_walk_46 (by decide) ?_
      refine r_iconst (v := nI 1) dX10_walk_47 (by decide) ?_
      refine r_virtE (c_X10_right m false (nI 1) hM (by rw [hm]; rfl) (by decide)) lk_X10_343 mc_X10_right dX10_walk_48 hM.1 (by decide) rfl rfl (Nat.le_of_ble_eq_true rfl) ?_
      refine r_if_ne (tgt := 56) dX10_walk_51 (by decide) (fun hz => absurd (show _ from rfl) hz) (fun _ => ?_)
      refine r_iconst (v := nI 0) dX10_walk_54 (by decide) ?_
      refine r_iret rfl dX10_walk_55 ?_
      refine ⟨rfl, rfl, rfl, rfl, ?_, rfl⟩
      simp only [thM, am_up_s, Bool.false_eq_true, if_false]
    · simp only [Bool.not_eq_true] at h2
      refine r_aload_n dX10_walk_0 rfl ?_
      refine r_iconst (v := nI 0) dX10_walk_1 (by decide) ?_
      refine r_putI dX10_walk_2 fl_X10_193 rfl rfl (kM_0 hM) ?_
      rw [hF.th]
      refine r_aload_n dX10_walk_5 rfl ?_
      refine r_iload_n dX10_walk_6 rfl ?_
      refine r_if_lt (tgt := 46) dX10_walk_7 (by decide) (fun hz => absurd hz (show ¬ _ from (by rw [hx1]; decide))) (fun _ => ?_)
      refine r_iload_n dX10_walk_10 rfl ?_
      refine r_iconst (v := nI 1) dX10_walk_11 (by decide) ?_
      refine r_aload_n dX10_walk_12 rfl ?_
      refine r_getI dX10_walk_13 fl_X10_350 rfl (kM_0 hM) ?_
      rw [show I m 1 = nI 0 from by rw [hm]; rfl]
      refine r_ishl dX10_walk_16 ?_
      rw [hsh]
      refine r_icmp_ge (tgt := 46) dX10_walk_17 (by decide) (fun hz => absurd hz (show ¬ _ from (by rw [hx1]; decide))) (fun _ => ?_)
      refine r_iload_n dX10_walk_20 rfl ?_
      refine r_iconst (v := nI 1) dX10_walk_21 (by decide) ?_
      refine r_aload_n dX10_walk_22 rfl ?_
      refine r_getI dX10_walk_23 fl_X10_7 rfl (kM_0 hM) ?_
      rw [show I m 2 = nI 9 from by rw [hm]; rfl]
      refine r_statE (c_X10_within (x2) (nI 1) (nI 9)) lk_X10_369 mc_X10_within dX10_walk_26 (by decide) rfl rfl (Nat.le_of_ble_eq_true rfl) ?_
      rw [show (!decide (x2 < nI 1) && !decide (nI 9 < x2)) = false from h2]
      refine r_if_eq (tgt := 46) dX10_walk_29 (by decide) (fun _ => ?_) (fun hz => absurd (show _ from rfl) hz)
      refine r_iconst (v := nI 0) dX10_walk_46 (by decide) ?_
      refine r_iconst (v := nI 1) dX10_walk_47 (by decide) ?_
      refine r_virtE (c_X10_right m false (nI 1) hM (by rw [hm]; rfl) (by decide)) lk_X10_343 mc_X10_right dX10_walk_48 hM.1 (by decide) rfl rfl (Nat.le_of_ble_eq_true rfl) ?_
      refine r_if_ne (tgt := 56) dX10_walk_51 (by decide) (fun hz => absurd (show _ from rfl) hz) (fun _ => ?_)
      refine r_iconst (v := nI 0) dX10_walk_54 (by decide) ?_
      refine r_iret rfl dX10_walk_55 ?_
      refine ⟨rfl, rfl, rfl, rfl, ?_, rfl⟩
      simp only [thM, am_up_s, Bool.false_eq_true, if_false]
  · have hx2 : ¬ x1 < 0 → nI 1 ≤ x1 := fun h1 => by
      rw [Int32.lt_iff_toInt_lt, show (0 : Int32).toInt = 0 from by decide] at h1
      rw [Int32.le_iff_toInt_le, show (nI 1).toInt = 1 from by decide]
      have : ¬ x1.toInt = 0 := fun q => hx1 (Int32.toInt_inj.mp q)
      omega
    refine r_aload_n dX10_walk_0 rfl ?_
    refine r_iconst (v := nI 0) dX10_walk_1 (by decide) ?_
    refine r_putI dX10_walk_2 fl_X10_193 rfl rfl (kM_0 hM) ?_
    rw [hF.th]
    refine r_aload_n dX10_walk_5 rfl ?_
    refine r_iload_n dX10_walk_6 rfl ?_
    refine r_if_lt (tgt := 46) dX10_walk_7 (by decide) (fun h7 => ?_) (fun h7 => ?_)
    · skip
      refine r_iconst (v := nI 0) dX10_walk_46 (by decide) ?_
      refine r_iconst (v := nI 1) dX10_walk_47 (by decide) ?_
      refine r_virtE (c_X10_right m false (nI 1) hM (by rw [hm]; rfl) (by decide)) lk_X10_343 mc_X10_right dX10_walk_48 hM.1 (by decide) rfl rfl (Nat.le_of_ble_eq_true rfl) ?_
      refine r_if_ne (tgt := 56) dX10_walk_51 (by decide) (fun hz => absurd (show _ from rfl) hz) (fun _ => ?_)
      refine r_iconst (v := nI 0) dX10_walk_54 (by decide) ?_
      refine r_iret rfl dX10_walk_55 ?_
      refine ⟨rfl, rfl, rfl, rfl, ?_, rfl⟩
      simp only [thM, am_up_s, Bool.false_eq_true, if_false]
    · skip
      refine r_iload_n dX10_walk_10 rfl ?_
      refine r_iconst (v := nI 1) dX10_walk_11 (by decide) ?_
      refine r_aload_n dX10_walk_12 rfl ?_
      refine r_getI dX10_walk_13 fl_X10_350 rfl (kM_0 hM) ?_
      rw [show I m 1 = nI 0 from by rw [hm]; rfl]
      refine r_ishl dX10_walk_16 ?_
      rw [hsh]
      refine r_icmp_ge (tgt := 46) dX10_walk_17 (by decide) (fun _ => ?_) (fun hz => absurd (show _ from (hx2 h7)) hz)
      refine r_iconst (v := nI 0) dX10_walk_46 (by decide) ?_
      refine r_iconst (v := nI 1) dX10_walk_47 (by decide) ?_
      refine r_virtE (c_X10_right m false (nI 1) hM (by rw [hm]; rfl) (by decide)) lk_X10_343 mc_X10_right dX10_walk_48 hM.1 (by decide) rfl rfl (Nat.le_of_ble_eq_true rfl) ?_
      refine r_if_ne (tgt := 56) dX10_walk_51 (by decide) (fun hz => absurd (show _ from rfl) hz) (fun _ => ?_)
      refine r_iconst (v := nI 0) dX10_walk_54 (by decide) ?_
      refine r_iret rfl dX10_walk_55 ?_
      refine ⟨rfl, rfl, rfl, rfl, ?_, rfl⟩
      simp only [thM, am_up_s, Bool.false_eq_true, if_false]

set_option maxHeartbeats 4000000 in
set_option maxRecDepth 100000 in
theorem rw_loop (m : Nat) (x2 x3 : Int32) {n : Nat} {kd : mK} {I : mI} {J : mJ} {P : mP} (hM : kM kd P m) (h2 : I m 2 = nI 9) (hs : I m 73 = nI 0) : ∀ (cnt i : Nat), i + cnt = 10 → Ru yX10_walk.cls cX10_walk 10 (some .int) yX10_walk.name 9 (fun y n' kd' I' J' P' => y = .inl (some (.int (nI 0))) ∧ n' = n ∧ kd' = kd ∧ P' = P ∧ J' = J ∧ I' m 0 = I m 0) 0 0 133 [some (.ref m), some (.int (nI 0)), some (.int x2), some (.int x3), some (.int (nI 0)), some (.int (nI i)), none, none, none, none] [] n kd I J P := by
  intro cnt
  induction cnt with
  | zero =>
    intro i hi
    have ei : i = 10 := by omega
    subst ei
    refine r_iload dX10_walk_133 rfl ?_
    refine r_aload_n dX10_walk_135 rfl ?_
    refine r_getI dX10_walk_136 fl_X10_7 rfl (kM_0 hM) ?_
    rw [h2]
    refine r_icmp_gt (tgt := 182) dX10_walk_139 (by decide) (fun _ => ?_) (fun hz => absurd (show _ from (by decide)) hz)
    refine r_iconst (v := nI 1) dX10_walk_182 (by decide) ?_
    refine r_aload_n dX10_walk_183 rfl ?_
    refine r_getI dX10_walk_184 fl_X10_487 rfl (kM_0 hM) ?_
    rw [hs]
    refine r_ishl dX10_walk_187 ?_
    refine r_iconst (v := nI 1) dX10_walk_188 (by decide) ?_
    refine r_isub dX10_walk_189 ?_
    refine r_istore dX10_walk_190 (by decide) ?_
    refine r_iload dX10_walk_192 rfl ?_
    refine r_if_le (tgt := 297) dX10_walk_194 (by decide) (fun _ => ?_) (fun hz => absurd (show _ from (by decide)) hz)
    refine r_iload_n dX10_walk_297 rfl ?_
    refine r_istore dX10_walk_298 (by decide) ?_
    refine r_iconst (v := nI 0) dX10_walk_300 (by decide) ?_
    refine r_istore dX10_walk_301 (by decide) ?_
    refine r_iconst (v := nI 0) dX10_walk_303 (by decide) ?_
    refine r_istore dX10_walk_304 (by decide) ?_
    refine r_iconst (v := nI 0) dX10_walk_306 (by decide) ?_
    refine r_istore dX10_walk_307 (by decide) ?_
    refine r_iload dX10_walk_309 rfl ?_
    refine r_aload_n dX10_walk_311 rfl ?_
    refine r_getI dX10_walk_312 fl_X10_487 rfl (kM_0 hM) ?_
    rw [hs]
    refine r_icmp_ge (tgt := 380) dX10_walk_315 (by decide) (fun _ => ?_) (fun hz => absurd (show _ from (by decide)) hz)
    refine r_aload_n dX10_walk_380 rfl ?_
    refine r_aload_n dX10_walk_381 rfl ?_
    refine r_getI dX10_walk_382 fl_X10_487 rfl (kM_0 hM) ?_
    rw [hs]
    refine r_putI dX10_walk_385 fl_X10_139 rfl rfl (kM_0 hM) ?_
    refine r_iload dX10_walk_388 rfl ?_
    refine r_iret rfl dX10_walk_390 ?_
    exact ⟨rfl, rfl, rfl, rfl, rfl, by rw [am_up_s, am_up_n _ _ (by decide)]⟩
  | succ cnt ih =>
    intro i hi
    refine r_iload dX10_walk_133 rfl ?_
    refine r_aload_n dX10_walk_135 rfl ?_
    refine r_getI dX10_walk_136 fl_X10_7 rfl (kM_0 hM) ?_
    rw [h2]
    refine r_icmp_gt (tgt := 182) dX10_walk_139 (by decide) (fun hz => absurd hz (show ¬ _ from (by rw [nI_ltI (by omega) (by omega)]; omega))) (fun _ => ?_)
    refine r_iload dX10_walk_142 rfl ?_
    refine r_iload dX10_walk_144 rfl ?_
    refine r_ishr dX10_walk_146 ?_
    refine r_iconst (v := nI 1) dX10_walk_147 (by decide) ?_
    refine r_iand dX10_walk_148 ?_
    rw [sh_0 i (by omega)]
    refine r_if_ne (tgt := 155) dX10_walk_149 (by decide) (fun hz => absurd (show _ from rfl) hz) (fun _ => ?_)
    refine r_goto (tgt := 176) dX10_walk_152 (by decide) ?_
    refine r_iinc (v := nI (i + 1)) dX10_walk_176 rfl (nI_inc i) ?_
    refine r_goto (tgt := 133) dX10_walk_179 (by decide) ?_
    exact ih (i + 1) (by omega)

set_option maxHeartbeats 4000000 in
set_option maxRecDepth 100000 in
theorem q_walk_0 (m : Nat) (x2 x3 : Int32) {n : Nat} {kd : mK} {I : mI} {J : mJ} {P : mP} (hF : fsM m kd I J P) (h2 : (!decide (x2 < nI 1) && !decide (nI 9 < x2)) = true) (h3 : (!decide (x3 < nI 0) && !decide (nI 9 < x3)) = true) : Ct yX10_walk cX10_walk 10 (some .int) 9 0 0 [.ref m, .int (nI 0), .int x2, .int x3] n kd I J P (pR m n kd I J P (some (.int (nI 0))) 0) := by
  have hM := hF.1
  have hm := hF.2.1
  refine ct_of 6 (by decide +kernel) (Nat.le_of_ble_eq_true rfl) rfl ?_
  refine r_aload_n dX10_walk_0 rfl ?_
  refine r_iconst (v := nI 0) dX10_walk_1 (by decide) ?_
  refine r_putI dX10_walk_2 fl_X10_193 rfl rfl (kM_0 hM) ?_
  rw [hF.th]
  refine r_aload_n dX10_walk_5 rfl ?_
  refine r_iload_n dX10_walk_6 rfl ?_
  refine r_if_lt (tgt := 46) dX10_walk_7 (by decide) (fun hz => absurd hz (show ¬ _ from (by decide))) (fun _ => ?_)
  refine r_iload_n dX10_walk_10 rfl ?_
  refine r_iconst (v := nI 1) dX10_walk_11 (by decide) ?_
  refine r_aload_n dX10_walk_12 rfl ?_
  refine r_getI dX10_walk_13 fl_X10_350 rfl (kM_0 hM) ?_
  rw [show I m 1 = nI 0 from by rw [hm]; rfl]
  refine r_ishl dX10_walk_16 ?_
  refine r_icmp_ge (tgt := 46) dX10_walk_17 (by decide) (fun hz => absurd hz (show ¬ _ from (by decide))) (fun _ => ?_)
  refine r_iload_n dX10_walk_20 rfl ?_
  refine r_iconst (v := nI 1) dX10_walk_21 (by decide) ?_
  refine r_aload_n dX10_walk_22 rfl ?_
  refine r_getI dX10_walk_23 fl_X10_7 rfl (kM_0 hM) ?_
  rw [show I m 2 = nI 9 from by rw [hm]; rfl]
  refine r_statE (c_X10_within (x2) (nI 1) (nI 9)) lk_X10_369 mc_X10_within dX10_walk_26 (by decide) rfl rfl (Nat.le_of_ble_eq_true rfl) ?_
  rw [show (!decide (x2 < nI 1) && !decide (nI 9 < x2)) = true from h2]
  refine r_if_eq (tgt := 46) dX10_walk_29 (by decide) (fun hz => absurd hz (show ¬ _ from (by decide))) (fun _ => ?_)
  refine r_iload_n dX10_walk_32 rfl ?_
  refine r_iconst (v := nI 0) dX10_walk_33 (by decide) ?_
  refine r_bipush (v := nI 9) dX10_walk_34 (by decide) ?_
  refine r_statE (c_X10_within (x3) (nI 0) (nI 9)) lk_X10_369 mc_X10_within dX10_walk_36 (by decide) rfl rfl (Nat.le_of_ble_eq_true rfl) ?_
  rw [show (!decide (x3 < nI 0) && !decide (nI 9 < x3)) = true from h3]
  refine r_if_eq (tgt := 46) dX10_walk_39 (by decide) (fun hz => absurd hz (show ¬ _ from (by decide))) (fun _ => ?_)
  refine r_iconst (v := nI 1) dX10_walk_42 (by decide) ?_
  refine r_goto (tgt := 47) dX10_walk_43 (by decide) ?_
  refine r_iconst (v := nI 1) dX10_walk_47 (by decide) ?_
  refine r_virtE (c_X10_right m true (nI 1) hM (by rw [hm]; rfl) (by decide)) lk_X10_343 mc_X10_right dX10_walk_48 hM.1 (by decide) rfl rfl (Nat.le_of_ble_eq_true rfl) ?_
  rw [thM_ok]
  refine r_if_ne (tgt := 56) dX10_walk_51 (by decide) (fun _ => ?_) (fun hz => absurd hz (show ¬ _ from (by decide)))
  refine r_aload_n dX10_walk_56 rfl ?_
  refine r_virt (c_X10_seeksAll m 0 9 0 (fun h => lkm 0 (cs0 h)) cs0 false (I (m + 24)) (I (m + 1)) (I (m + 2)) (fun k => !(cs0 k).isEmpty) res0 (fs_rf hF) (by decide) (by decide) (fun k hk => absurd hk (by omega)) (sk_0 _ _ _)) lk_X10_436 mc_X10_seeksAll dX10_walk_57 hM.1 (by decide) rfl rfl (Nat.le_of_ble_eq_true rfl) (Nat.le_of_eq (Nat.zero_add _)) (Nat.le_of_eq (Nat.zero_add _)) (fun _ _ _ _ _ _ h => nomatch h.1) ?_
  rintro v n1 kd1 I1 J1 P1 ⟨h0, rfl, rfl, rfl, rfl, hf, h52, h53, h27⟩
  cases h0
  simp only [Option.toList, List.cons_append, List.nil_append]
  rw [show (!res0.2.2 && decide (res0.2.1.length ≤ 1000)) = true from rfl]
  have g1 : I1 m 1 = nI 0 := by rw [hf.2 1 (by decide) (by decide), hm]; rfl
  have g2 : I1 m 2 = nI 9 := by rw [hf.2 2 (by decide) (by decide), hm]; rfl
  have g0 : I1 m 0 = nI 0 := by rw [hf.2 0 (by decide) (by decide), hm]; rfl
  refine r_if_ne (tgt := 66) dX10_walk_60 (by decide) (fun _ => ?_) (fun hz => absurd hz (show ¬ _ from (by decide)))
  refine r_iconst (v := nI 0) dX10_walk_66 (by decide) ?_
  refine r_istore dX10_walk_67 (by decide) ?_
  refine r_iconst (v := nI 0) dX10_walk_69 (by decide) ?_
  refine r_istore dX10_walk_70 (by decide) ?_
  refine r_iload dX10_walk_72 rfl ?_
  refine r_aload_n dX10_walk_74 rfl ?_
  refine r_getI dX10_walk_75 fl_X10_350 rfl (kM_0 hM) ?_
  rw [g1]
  refine r_icmp_ge (tgt := 112) dX10_walk_78 (by decide) (fun _ => ?_) (fun hz => absurd (show _ from (by decide)) hz)
  refine r_iload dX10_walk_112 rfl ?_
  refine r_statE (c_X10_bits (nI 0)) lk_X10_448 mc_X10_bits dX10_walk_114 (by decide) rfl rfl (Nat.le_of_ble_eq_true rfl) ?_
  refine r_bipush (v := nI 10) dX10_walk_117 (by decide) ?_
  refine r_icmp_le (tgt := 125) dX10_walk_119 (by decide) (fun _ => ?_) (fun hz => absurd (show _ from (by decide)) hz)
  refine r_aload_n dX10_walk_125 rfl ?_
  refine r_iconst (v := nI 0) dX10_walk_126 (by decide) ?_
  refine r_putI dX10_walk_127 fl_X10_487 rfl rfl (kM_0 hM) ?_
  refine r_iconst (v := nI 1) dX10_walk_130 (by decide) ?_
  refine r_istore dX10_walk_131 (by decide) ?_
  refine RuZ.mono (rw_loop m x2 x3 hM (by rw [am_up_s, am_up_n _ _ (by decide)]; exact g2) (by rw [am_up_s, am_up_s]) 9 1 (by omega)) (fun y n' kd' I' J' P' hx => ?_)
  obtain ⟨q0, rfl, rfl, rfl, rfl, q1⟩ := hx
  exact ⟨q0, rfl, rfl, rfl, by rw [q1, am_up_s, am_up_n _ _ (by decide)]; exact g0, rfl⟩

