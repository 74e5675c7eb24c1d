/-! LEADING ZEROS, BITS COUNTED, WITH WHICH HOUSE A RIDDLE CAN BE ASKED, A SEARCH SET UP -/
theorem dJ6_numberOfLeadingZeros_0f7a4_0 : decode cJ6_numberOfLeadingZeros_0f7a4 0 = .ok (.iload_n 0, 1) := by decide +kernel
theorem dJ6_numberOfLeadingZeros_0f7a4_1 : decode cJ6_numberOfLeadingZeros_0f7a4 1 = .ok (.ifCond .gt 14, 3) := by decide +kernel
theorem dJ6_numberOfLeadingZeros_0f7a4_4 : decode cJ6_numberOfLeadingZeros_0f7a4 4 = .ok (.iload_n 0, 1) := by decide +kernel
theorem dJ6_numberOfLeadingZeros_0f7a4_5 : decode cJ6_numberOfLeadingZeros_0f7a4 5 = .ok (.ifCond .ne 8, 3) := by decide +kernel
theorem dJ6_numberOfLeadingZeros_0f7a4_8 : decode cJ6_numberOfLeadingZeros_0f7a4 8 = .ok (.bipush 32, 2) := by decide +kernel
theorem dJ6_numberOfLeadingZeros_0f7a4_10 : decode cJ6_numberOfLeadingZeros_0f7a4 10 = .ok (.goto 4, 3) := by decide +kernel
theorem dJ6_numberOfLeadingZeros_0f7a4_13 : decode cJ6_numberOfLeadingZeros_0f7a4 13 = .ok (.iconst 0, 1) := by decide +kernel
theorem dJ6_numberOfLeadingZeros_0f7a4_14 : decode cJ6_numberOfLeadingZeros_0f7a4 14 = .ok (.ireturn, 1) := by decide +kernel
theorem dJ6_numberOfLeadingZeros_0f7a4_15 : decode cJ6_numberOfLeadingZeros_0f7a4 15 = .ok (.bipush 31, 2) := by decide +kernel
theorem dJ6_numberOfLeadingZeros_0f7a4_17 : decode cJ6_numberOfLeadingZeros_0f7a4 17 = .ok (.istore_n 1, 1) := by decide +kernel
theorem dJ6_numberOfLeadingZeros_0f7a4_18 : decode cJ6_numberOfLeadingZeros_0f7a4 18 = .ok (.iload_n 0, 1) := by decide +kernel
theorem dJ6_numberOfLeadingZeros_0f7a4_19 : decode cJ6_numberOfLeadingZeros_0f7a4 19 = .ok (.ldc_w 264, 3) := by decide +kernel
theorem dJ6_numberOfLeadingZeros_0f7a4_22 : decode cJ6_numberOfLeadingZeros_0f7a4 22 = .ok (.if_icmp .lt 11, 3) := by decide +kernel
theorem dJ6_numberOfLeadingZeros_0f7a4_25 : decode cJ6_numberOfLeadingZeros_0f7a4 25 = .ok (.iinc 1 (-16), 3) := by decide +kernel
theorem dJ6_numberOfLeadingZeros_0f7a4_28 : decode cJ6_numberOfLeadingZeros_0f7a4 28 = .ok (.iload_n 0, 1) := by decide +kernel
theorem dJ6_numberOfLeadingZeros_0f7a4_29 : decode cJ6_numberOfLeadingZeros_0f7a4 29 = .ok (.bipush 16, 2) := by decide +kernel
theorem dJ6_numberOfLeadingZeros_0f7a4_31 : decode cJ6_numberOfLeadingZeros_0f7a4 31 = .ok (.iushr, 1) := by decide +kernel
theorem dJ6_numberOfLeadingZeros_0f7a4_32 : decode cJ6_numberOfLeadingZeros_0f7a4 32 = .ok (.istore_n 0, 1) := by decide +kernel
theorem dJ6_numberOfLeadingZeros_0f7a4_33 : decode cJ6_numberOfLeadingZeros_0f7a4 33 = .ok (.iload_n 0, 1) := by decide +kernel
theorem dJ6_numberOfLeadingZeros_0f7a4_34 : decode cJ6_numberOfLeadingZeros_0f7a4 34 = .ok (.sipush 256, 3) := by decide +kernel
theorem dJ6_numberOfLeadingZeros_0f7a4_37 : decode cJ6_numberOfLeadingZeros_0f7a4 37 = .ok (.if_icmp .lt 11, 3) := by decide +kernel
theorem dJ6_numberOfLeadingZeros_0f7a4_40 : decode cJ6_numberOfLeadingZeros_0f7a4 40 = .ok (.iinc 1 (-8), 3) := by decide +kernel
theorem dJ6_numberOfLeadingZeros_0f7a4_43 : decode cJ6_numberOfLeadingZeros_0f7a4 43 = .ok (.iload_n 0, 1) := by decide +kernel
theorem dJ6_numberOfLeadingZeros_0f7a4_44 : decode cJ6_numberOfLeadingZeros_0f7a4 44 = .ok (.bipush 8, 2) := by decide +kernel
theorem dJ6_numberOfLeadingZeros_0f7a4_46 : decode cJ6_numberOfLeadingZeros_0f7a4 46 = .ok (.iushr, 1) := by decide +kernel
theorem dJ6_numberOfLeadingZeros_0f7a4_47 : decode cJ6_numberOfLeadingZeros_0f7a4 47 = .ok (.istore_n 0, 1) := by decide +kernel
theorem dJ6_numberOfLeadingZeros_0f7a4_48 : decode cJ6_numberOfLeadingZeros_0f7a4 48 = .ok (.iload_n 0, 1) := by decide +kernel
theorem dJ6_numberOfLeadingZeros_0f7a4_49 : decode cJ6_numberOfLeadingZeros_0f7a4 49 = .ok (.bipush 16, 2) := by decide +kernel
theorem dJ6_numberOfLeadingZeros_0f7a4_51 : decode cJ6_numberOfLeadingZeros_0f7a4 51 = .ok (.if_icmp .lt 10, 3) := by decide +kernel
theorem dJ6_numberOfLeadingZeros_0f7a4_54 : decode cJ6_numberOfLeadingZeros_0f7a4 54 = .ok (.iinc 1 (-4), 3) := by decide +kernel
theorem dJ6_numberOfLeadingZeros_0f7a4_57 : decode cJ6_numberOfLeadingZeros_0f7a4 57 = .ok (.iload_n 0, 1) := by decide +kernel
theorem dJ6_numberOfLeadingZeros_0f7a4_58 : decode cJ6_numberOfLeadingZeros_0f7a4 58 = .ok (.iconst 4, 1) := by decide +kernel
theorem dJ6_numberOfLeadingZeros_0f7a4_59 : decode cJ6_numberOfLeadingZeros_0f7a4 59 = .ok (.iushr, 1) := by decide +kernel
theorem dJ6_numberOfLeadingZeros_0f7a4_60 : decode cJ6_numberOfLeadingZeros_0f7a4 60 = .ok (.istore_n 0, 1) := by decide +kernel
theorem dJ6_numberOfLeadingZeros_0f7a4_61 : decode cJ6_numberOfLeadingZeros_0f7a4 61 = .ok (.iload_n 0, 1) := by decide +kernel
theorem dJ6_numberOfLeadingZeros_0f7a4_62 : decode cJ6_numberOfLeadingZeros_0f7a4 62 = .ok (.iconst 4, 1) := by decide +kernel
theorem dJ6_numberOfLeadingZeros_0f7a4_63 : decode cJ6_numberOfLeadingZeros_0f7a4 63 = .ok (.if_icmp .lt 10, 3) := by decide +kernel
theorem dJ6_numberOfLeadingZeros_0f7a4_66 : decode cJ6_numberOfLeadingZeros_0f7a4 66 = .ok (.iinc 1 (-2), 3) := by decide +kernel
theorem dJ6_numberOfLeadingZeros_0f7a4_69 : decode cJ6_numberOfLeadingZeros_0f7a4 69 = .ok (.iload_n 0, 1) := by decide +kernel
theorem dJ6_numberOfLeadingZeros_0f7a4_70 : decode cJ6_numberOfLeadingZeros_0f7a4 70 = .ok (.iconst 2, 1) := by decide +kernel
theorem dJ6_numberOfLeadingZeros_0f7a4_71 : decode cJ6_numberOfLeadingZeros_0f7a4 71 = .ok (.iushr, 1) := by decide +kernel
theorem dJ6_numberOfLeadingZeros_0f7a4_72 : decode cJ6_numberOfLeadingZeros_0f7a4 72 = .ok (.istore_n 0, 1) := by decide +kernel
theorem dJ6_numberOfLeadingZeros_0f7a4_73 : decode cJ6_numberOfLeadingZeros_0f7a4 73 = .ok (.iload_n 1, 1) := by decide +kernel
theorem dJ6_numberOfLeadingZeros_0f7a4_74 : decode cJ6_numberOfLeadingZeros_0f7a4 74 = .ok (.iload_n 0, 1) := by decide +kernel
theorem dJ6_numberOfLeadingZeros_0f7a4_75 : decode cJ6_numberOfLeadingZeros_0f7a4 75 = .ok (.iconst 1, 1) := by decide +kernel
theorem dJ6_numberOfLeadingZeros_0f7a4_76 : decode cJ6_numberOfLeadingZeros_0f7a4 76 = .ok (.iushr, 1) := by decide +kernel
theorem dJ6_numberOfLeadingZeros_0f7a4_77 : decode cJ6_numberOfLeadingZeros_0f7a4 77 = .ok (.isub, 1) := by decide +kernel
theorem dJ6_numberOfLeadingZeros_0f7a4_78 : decode cJ6_numberOfLeadingZeros_0f7a4 78 = .ok (.ireturn, 1) := by decide +kernel
set_option maxHeartbeats 4000000 in
set_option maxRecDepth 100000 in
theorem c_J6_numberOfLeadingZeros_0f7a4 (m : Nat) {n : Nat} {kd : mK} {I : mI} {J : mJ} {P : mP} (hm : m < 256) (hm0 : 0 < m) : Ct yJ6_numberOfLeadingZeros_0f7a4 cJ6_numberOfLeadingZeros_0f7a4 2 (some .int) 1 0 0 [.int (nI m)] n kd I J P (am_is (some (.int (nI (31 - Nat.log2 m)))) n kd I J P) := by
  refine ct_of 1 (by decide +kernel) (Nat.le_of_ble_eq_true rfl) rfl ?_
  refine r_iload_n dJ6_numberOfLeadingZeros_0f7a4_0 rfl ?_
  refine r_if_gt (tgt := 15) dJ6_numberOfLeadingZeros_0f7a4_1 (by decide) (fun hz9 => ?_) (fun hz => absurd (show _ from (by rw [z_gt (by omega)]; omega)) hz)
  clear hz9
  refine r_bipush (v := nI 31) dJ6_numberOfLeadingZeros_0f7a4_15 (by decide) ?_
  refine r_istore_n dJ6_numberOfLeadingZeros_0f7a4_17 (by decide) ?_
  refine r_iload_n dJ6_numberOfLeadingZeros_0f7a4_18 rfl ?_
  refine r_ldcw dJ6_numberOfLeadingZeros_0f7a4_19 ic_J6_264 ?_
  refine r_icmp_lt (tgt := 33) dJ6_numberOfLeadingZeros_0f7a4_22 (by decide) (fun hz9 => ?_) (fun hz => absurd (show _ from (by rw [show (65536 : Int32) = nI 65536 from rfl, nI_ltI (by omega) (by omega)]; omega)) hz)
  clear hz9
  refine r_iload_n dJ6_numberOfLeadingZeros_0f7a4_33 rfl ?_
  refine r_sipush (v := nI 256) dJ6_numberOfLeadingZeros_0f7a4_34 (by decide) ?_
  refine r_icmp_lt (tgt := 48) dJ6_numberOfLeadingZeros_0f7a4_37 (by decide) (fun hz9 => ?_) (fun hz => absurd (show _ from (by rw [nI_ltI (by omega) (by omega)]; omega)) hz)
  clear hz9
  refine r_iload_n dJ6_numberOfLeadingZeros_0f7a4_48 rfl ?_
  refine r_bipush (v := nI 16) dJ6_numberOfLeadingZeros_0f7a4_49 (by decide) ?_
  refine r_icmp_lt (tgt := 61) dJ6_numberOfLeadingZeros_0f7a4_51 (by decide) (fun h51 => ?_) (fun h51 => ?_)
  · skip
    refine r_iload_n dJ6_numberOfLeadingZeros_0f7a4_61 rfl ?_
    refine r_iconst (v := nI 4) dJ6_numberOfLeadingZeros_0f7a4_62 (by decide) ?_
    refine r_icmp_lt (tgt := 73) dJ6_numberOfLeadingZeros_0f7a4_63 (by decide) (fun h63 => ?_) (fun h63 => ?_)
    · skip
      refine r_iload_n dJ6_numberOfLeadingZeros_0f7a4_73 rfl ?_
      refine r_iload_n dJ6_numberOfLeadingZeros_0f7a4_74 rfl ?_
      refine r_iconst (v := nI 1) dJ6_numberOfLeadingZeros_0f7a4_75 (by decide) ?_
      refine r_iushr dJ6_numberOfLeadingZeros_0f7a4_76 ?_
      refine r_isub dJ6_numberOfLeadingZeros_0f7a4_77 ?_
      refine r_iret rfl dJ6_numberOfLeadingZeros_0f7a4_78 ?_
      refine ⟨congrArg (fun z => Sum.inl (some (Value.int z))) ?_, rfl, rfl, rfl, rfl, rfl⟩
      clear n kd I J P
      revert h63 h51 hm0 hm
      revert m
      decide +kernel
    · skip
      refine r_iinc dJ6_numberOfLeadingZeros_0f7a4_66 rfl rfl ?_
      refine r_iload_n dJ6_numberOfLeadingZeros_0f7a4_69 rfl ?_
      refine r_iconst (v := nI 2) dJ6_numberOfLeadingZeros_0f7a4_70 (by decide) ?_
      refine r_iushr dJ6_numberOfLeadingZeros_0f7a4_71 ?_
      refine r_istore_n dJ6_numberOfLeadingZeros_0f7a4_72 (by decide) ?_
      refine r_iload_n dJ6_numberOfLeadingZeros_0f7a4_73 rfl ?_
      refine r_iload_n dJ6_numberOfLeadingZeros_0f7a4_74 rfl ?_
      refine r_iconst (v := nI 1) dJ6_numberOfLeadingZeros_0f7a4_75 (by decide) ?_
      refine r_iushr dJ6_numberOfLeadingZeros_0f7a4_76 ?_
      refine r_isub dJ6_numberOfLeadingZeros_0f7a4_77 ?_
      refine r_iret rfl dJ6_numberOfLeadingZeros_0f7a4_78 ?_
      refine ⟨congrArg (fun z => Sum.inl (some (Value.int z))) ?_, rfl, rfl, rfl, rfl, rfl⟩
      clear n kd I J P
      revert h63 h51 hm0 hm
      revert m
      decide +kernel
  · skip
    refine r_iinc dJ6_numberOfLeadingZeros_0f7a4_54 rfl rfl ?_
    refine r_iload_n dJ6_numberOfLeadingZeros_0f7a4_57 rfl ?_
    refine r_iconst (v := nI 4) dJ6_numberOfLeadingZeros_0f7a4_58 (by decide) ?_
    refine r_iushr dJ6_numberOfLeadingZeros_0f7a4_59 ?_
    refine r_istore_n dJ6_numberOfLeadingZeros_0f7a4_60 (by decide) ?_
    refine r_iload_n dJ6_numberOfLeadingZeros_0f7a4_61 rfl ?_
    refine r_iconst (v := nI 4) dJ6_numberOfLeadingZeros_0f7a4_62 (by decide) ?_
    refine r_icmp_lt (tgt := 73) dJ6_numberOfLeadingZeros_0f7a4_63 (by decide) (fun h63 => ?_) (fun h63 => ?_)
    · skip
      refine r_iload_n dJ6_numberOfLeadingZeros_0f7a4_73 rfl ?_
      refine r_iload_n dJ6_numberOfLeadingZeros_0f7a4_74 rfl ?_
      refine r_iconst (v := nI 1) dJ6_numberOfLeadingZeros_0f7a4_75 (by decide) ?_
      refine r_iushr dJ6_numberOfLeadingZeros_0f7a4_76 ?_
      refine r_isub dJ6_numberOfLeadingZeros_0f7a4_77 ?_
      refine r_iret rfl dJ6_numberOfLeadingZeros_0f7a4_78 ?_
      refine ⟨congrArg (fun z => Sum.inl (some (Value.int z))) ?_, rfl, rfl, rfl, rfl, rfl⟩
      clear n kd I J P
      revert h63 h51 hm0 hm
      revert m
      decide +kernel
    · skip
      refine r_iinc dJ6_numberOfLeadingZeros_0f7a4_66 rfl rfl ?_
      refine r_iload_n dJ6_numberOfLeadingZeros_0f7a4_69 rfl ?_
      refine r_iconst (v := nI 2) dJ6_numberOfLeadingZeros_0f7a4_70 (by decide) ?_
      refine r_iushr dJ6_numberOfLeadingZeros_0f7a4_71 ?_
      refine r_istore_n dJ6_numberOfLeadingZeros_0f7a4_72 (by decide) ?_
      refine r_iload_n dJ6_numberOfLeadingZeros_0f7a4_73 rfl ?_
      refine r_iload_n dJ6_numberOfLeadingZeros_0f7a4_74 rfl ?_
      refine r_iconst (v := nI 1) dJ6_numberOfLeadingZeros_0f7a4_75 (by decide) ?_
      refine r_iushr dJ6_numberOfLeadingZeros_0f7a4_76 ?_
      refine r_isub dJ6_numberOfLeadingZeros_0f7a4_77 ?_
      refine r_iret rfl dJ6_numberOfLeadingZeros_0f7a4_78 ?_
      refine ⟨congrArg (fun z => Sum.inl (some (Value.int z))) ?_, rfl, rfl, rfl, rfl, rfl⟩
      clear n kd I J P
      revert h63 h51 hm0 hm
      revert m
      decide +kernel

def bc1 (x : Int32) : Int32 := x - ((x.toUInt32 >>> ((nI 1).toUInt32 &&& Int32.toUInt32 31)).toInt32 &&& 1431655765)
def bc2 (x : Int32) : Int32 := (x &&& 858993459) + ((x.toUInt32 >>> ((nI 2).toUInt32 &&& Int32.toUInt32 31)).toInt32 &&& 858993459)
def bc3 (x : Int32) : Int32 := (x + (x.toUInt32 >>> ((nI 4).toUInt32 &&& Int32.toUInt32 31)).toInt32) &&& 252645135
def bc4 (x : Int32) : Int32 := x + (x.toUInt32 >>> ((nI 8).toUInt32 &&& Int32.toUInt32 31)).toInt32
def bc5 (x : Int32) : Int32 := x + (x.toUInt32 >>> ((nI 16).toUInt32 &&& Int32.toUInt32 31)).toInt32
def bcF (x : Int32) : Int32 := bc5 (bc4 (bc3 (bc2 (bc1 x)))) &&& nI 63
theorem dJ6_bitCount_0f7a4_0 : decode cJ6_bitCount_0f7a4 0 = .ok (.iload_n 0, 1) := by decide +kernel
theorem dJ6_bitCount_0f7a4_1 : decode cJ6_bitCount_0f7a4 1 = .ok (.iload_n 0, 1) := by decide +kernel
theorem dJ6_bitCount_0f7a4_2 : decode cJ6_bitCount_0f7a4 2 = .ok (.iconst 1, 1) := by decide +kernel
theorem dJ6_bitCount_0f7a4_3 : decode cJ6_bitCount_0f7a4 3 = .ok (.iushr, 1) := by decide +kernel
theorem dJ6_bitCount_0f7a4_4 : decode cJ6_bitCount_0f7a4 4 = .ok (.ldc_w 265, 3) := by decide +kernel
theorem dJ6_bitCount_0f7a4_7 : decode cJ6_bitCount_0f7a4 7 = .ok (.iand, 1) := by decide +kernel
theorem dJ6_bitCount_0f7a4_8 : decode cJ6_bitCount_0f7a4 8 = .ok (.isub, 1) := by decide +kernel
theorem dJ6_bitCount_0f7a4_9 : decode cJ6_bitCount_0f7a4 9 = .ok (.istore_n 0, 1) := by decide +kernel
theorem dJ6_bitCount_0f7a4_10 : decode cJ6_bitCount_0f7a4 10 = .ok (.iload_n 0, 1) := by decide +kernel
theorem dJ6_bitCount_0f7a4_11 : decode cJ6_bitCount_0f7a4 11 = .ok (.ldc_w 266, 3) := by decide +kernel
theorem dJ6_bitCount_0f7a4_14 : decode cJ6_bitCount_0f7a4 14 = .ok (.iand, 1) := by decide +kernel
theorem dJ6_bitCount_0f7a4_15 : decode cJ6_bitCount_0f7a4 15 = .ok (.iload_n 0, 1) := by decide +kernel
theorem dJ6_bitCount_0f7a4_16 : decode cJ6_bitCount_0f7a4 16 = .ok (.iconst 2, 1) := by decide +kernel
theorem dJ6_bitCount_0f7a4_17 : decode cJ6_bitCount_0f7a4 17 = .ok (.iushr, 1) := by decide +kernel
theorem dJ6_bitCount_0f7a4_18 : decode cJ6_bitCount_0f7a4 18 = .ok (.ldc_w 266, 3) := by decide +kernel
theorem dJ6_bitCount_0f7a4_21 : decode cJ6_bitCount_0f7a4 21 = .ok (.iand, 1) := by decide +kernel
theorem dJ6_bitCount_0f7a4_22 : decode cJ6_bitCount_0f7a4 22 = .ok (.iadd, 1) := by decide +kernel
theorem dJ6_bitCount_0f7a4_23 : decode cJ6_bitCount_0f7a4 23 = .ok (.istore_n 0, 1) := by decide +kernel
theorem dJ6_bitCount_0f7a4_24 : decode cJ6_bitCount_0f7a4 24 = .ok (.iload_n 0, 1) := by decide +kernel
theorem dJ6_bitCount_0f7a4_25 : decode cJ6_bitCount_0f7a4 25 = .ok (.iload_n 0, 1) := by decide +kernel
theorem dJ6_bitCount_0f7a4_26 : decode cJ6_bitCount_0f7a4 26 = .ok (.iconst 4, 1) := by decide +kernel
theorem dJ6_bitCount_0f7a4_27 : decode cJ6_bitCount_0f7a4 27 = .ok (.iushr, 1) := by decide +kernel
theorem dJ6_bitCount_0f7a4_28 : decode cJ6_bitCount_0f7a4 28 = .ok (.iadd, 1) := by decide +kernel
theorem dJ6_bitCount_0f7a4_29 : decode cJ6_bitCount_0f7a4 29 = .ok (.ldc_w 267, 3) := by decide +kernel
theorem dJ6_bitCount_0f7a4_32 : decode cJ6_bitCount_0f7a4 32 = .ok (.iand, 1) := by decide +kernel
theorem dJ6_bitCount_0f7a4_33 : decode cJ6_bitCount_0f7a4 33 = .ok (.istore_n 0, 1) := by decide +kernel
theorem dJ6_bitCount_0f7a4_34 : decode cJ6_bitCount_0f7a4 34 = .ok (.iload_n 0, 1) := by decide +kernel
theorem dJ6_bitCount_0f7a4_35 : decode cJ6_bitCount_0f7a4 35 = .ok (.iload_n 0, 1) := by decide +kernel
theorem dJ6_bitCount_0f7a4_36 : decode cJ6_bitCount_0f7a4 36 = .ok (.bipush 8, 2) := by decide +kernel
theorem dJ6_bitCount_0f7a4_38 : decode cJ6_bitCount_0f7a4 38 = .ok (.iushr, 1) := by decide +kernel
theorem dJ6_bitCount_0f7a4_39 : decode cJ6_bitCount_0f7a4 39 = .ok (.iadd, 1) := by decide +kernel
theorem dJ6_bitCount_0f7a4_40 : decode cJ6_bitCount_0f7a4 40 = .ok (.istore_n 0, 1) := by decide +kernel
theorem dJ6_bitCount_0f7a4_41 : decode cJ6_bitCount_0f7a4 41 = .ok (.iload_n 0, 1) := by decide +kernel
theorem dJ6_bitCount_0f7a4_42 : decode cJ6_bitCount_0f7a4 42 = .ok (.iload_n 0, 1) := by decide +kernel
theorem dJ6_bitCount_0f7a4_43 : decode cJ6_bitCount_0f7a4 43 = .ok (.bipush 16, 2) := by decide +kernel
theorem dJ6_bitCount_0f7a4_45 : decode cJ6_bitCount_0f7a4 45 = .ok (.iushr, 1) := by decide +kernel
theorem dJ6_bitCount_0f7a4_46 : decode cJ6_bitCount_0f7a4 46 = .ok (.iadd, 1) := by decide +kernel
theorem dJ6_bitCount_0f7a4_47 : decode cJ6_bitCount_0f7a4 47 = .ok (.istore_n 0, 1) := by decide +kernel
theorem dJ6_bitCount_0f7a4_48 : decode cJ6_bitCount_0f7a4 48 = .ok (.iload_n 0, 1) := by decide +kernel
theorem dJ6_bitCount_0f7a4_49 : decode cJ6_bitCount_0f7a4 49 = .ok (.bipush 63, 2) := by decide +kernel
theorem dJ6_bitCount_0f7a4_51 : decode cJ6_bitCount_0f7a4 51 = .ok (.iand, 1) := by decide +kernel
theorem dJ6_bitCount_0f7a4_52 : decode cJ6_bitCount_0f7a4 52 = .ok (.ireturn, 1) := by decide +kernel
set_option maxHeartbeats 4000000 in
set_option maxRecDepth 100000 in
theorem c_J6_bitCount_0f7a4 (x : Int32) {n : Nat} {kd : mK} {I : mI} {J : mJ} {P : mP} : Ct yJ6_bitCount_0f7a4 cJ6_bitCount_0f7a4 1 (some .int) 1 0 0 [.int x] n kd I J P (am_is (some (.int (bcF x))) n kd I J P) := by
  refine ct_of 0 (by decide +kernel) (Nat.le_of_ble_eq_true rfl) rfl ?_
  refine r_iload_n dJ6_bitCount_0f7a4_0 rfl ?_
  refine r_iload_n dJ6_bitCount_0f7a4_1 rfl ?_
  refine r_iconst (v := nI 1) dJ6_bitCount_0f7a4_2 (by decide) ?_
  refine r_iushr dJ6_bitCount_0f7a4_3 ?_
  refine r_ldcw dJ6_bitCount_0f7a4_4 ic_J6_265 ?_
  refine r_iand dJ6_bitCount_0f7a4_7 ?_
  refine r_isub dJ6_bitCount_0f7a4_8 ?_
  refine r_istore_n dJ6_bitCount_0f7a4_9 (by decide) ?_
  refine r_iload_n dJ6_bitCount_0f7a4_10 rfl ?_
  refine r_ldcw dJ6_bitCount_0f7a4_11 ic_J6_266 ?_
  refine r_iand dJ6_bitCount_0f7a4_14 ?_
  refine r_iload_n dJ6_bitCount_0f7a4_15 rfl ?_
  refine r_iconst (v := nI 2) dJ6_bitCount_0f7a4_16 (by decide) ?_
  refine r_iushr dJ6_bitCount_0f7a4_17 ?_
  refine r_ldcw dJ6_bitCount_0f7a4_18 ic_J6_266 ?_
  refine r_iand dJ6_bitCount_0f7a4_21 ?_
  refine r_iadd dJ6_bitCount_0f7a4_22 ?_
  refine r_istore_n dJ6_bitCount_0f7a4_23 (by decide) ?_
  refine r_iload_n dJ6_bitCount_0f7a4_24 rfl ?_
  refine r_iload_n dJ6_bitCount_0f7a4_25 rfl ?_
  refine r_iconst (v := nI 4) dJ6_bitCount_0f7a4_26 (by decide) ?_
  refine r_iushr dJ6_bitCount_0f7a4_27 ?_
  refine r_iadd dJ6_bitCount_0f7a4_28 ?_
  refine r_ldcw dJ6_bitCount_0f7a4_29 ic_J6_267 ?_
  refine r_iand dJ6_bitCount_0f7a4_32 ?_
  refine r_istore_n dJ6_bitCount_0f7a4_33 (by decide) ?_
  refine r_iload_n dJ6_bitCount_0f7a4_34 rfl ?_
  refine r_iload_n dJ6_bitCount_0f7a4_35 rfl ?_
  refine r_bipush (v := nI 8) dJ6_bitCount_0f7a4_36 (by decide) ?_
  refine r_iushr dJ6_bitCount_0f7a4_38 ?_
  refine r_iadd dJ6_bitCount_0f7a4_39 ?_
  refine r_istore_n dJ6_bitCount_0f7a4_40 (by decide) ?_
  refine r_iload_n dJ6_bitCount_0f7a4_41 rfl ?_
  refine r_iload_n dJ6_bitCount_0f7a4_42 rfl ?_
  refine r_bipush (v := nI 16) dJ6_bitCount_0f7a4_43 (by decide) ?_
  refine r_iushr dJ6_bitCount_0f7a4_45 ?_
  refine r_iadd dJ6_bitCount_0f7a4_46 ?_
  refine r_istore_n dJ6_bitCount_0f7a4_47 (by decide) ?_
  refine r_iload_n dJ6_bitCount_0f7a4_48 rfl ?_
  refine r_bipush (v := nI 63) dJ6_bitCount_0f7a4_49 (by decide) ?_
  refine r_iand dJ6_bitCount_0f7a4_51 ?_
  refine r_iret rfl dJ6_bitCount_0f7a4_52 ?_
  exact am_is.mk

def awS (m h : Nat) : Nat := if m = 0 then h else Nat.log2 m
theorem dX7_askedWith_0 : decode cX7_askedWith 0 = .ok (.aload_n 0, 1) := by decide +kernel
theorem dX7_askedWith_1 : decode cX7_askedWith 1 = .ok (.iload_n 1, 1) := by decide +kernel
theorem dX7_askedWith_2 : decode cX7_askedWith 2 = .ok (.invokevirtual 79, 3) := by decide +kernel
theorem dX7_askedWith_5 : decode cX7_askedWith 5 = .ok (.istore_n 2, 1) := by decide +kernel
theorem dX7_askedWith_6 : decode cX7_askedWith 6 = .ok (.iload_n 2, 1) := by decide +kernel
theorem dX7_askedWith_7 : decode cX7_askedWith 7 = .ok (.ifCond .ne 7, 3) := by decide +kernel
theorem dX7_askedWith_10 : decode cX7_askedWith 10 = .ok (.iload_n 1, 1) := by decide +kernel
theorem dX7_askedWith_11 : decode cX7_askedWith 11 = .ok (.goto 10, 3) := by decide +kernel
theorem dX7_askedWith_14 : decode cX7_askedWith 14 = .ok (.bipush 31, 2) := by decide +kernel
theorem dX7_askedWith_16 : decode cX7_askedWith 16 = .ok (.iload_n 2, 1) := by decide +kernel
theorem dX7_askedWith_17 : decode cX7_askedWith 17 = .ok (.invokestatic 83, 3) := by decide +kernel
theorem dX7_askedWith_20 : decode cX7_askedWith 20 = .ok (.isub, 1) := by decide +kernel
theorem dX7_askedWith_21 : decode cX7_askedWith 21 = .ok (.ireturn, 1) := by decide +kernel
set_option maxHeartbeats 4000000 in
set_option maxRecDepth 100000 in
theorem c_X7_askedWith (b h m : Nat) {n : Nat} {kd : mK} {I : mI} {J : mJ} {P : mP} (hS : kS kd P b) (hh : h < 8) (hm : (if nI h < I b 0 then I (b + 1) h &&& ((nI 1 <<< (I b 0 &&& 31)) - nI 1) else nI 0) = nI m) (hm2 : m < 256) : Ct yX7_askedWith cX7_askedWith 3 (some .int) 3 0 0 [.ref b, .int (nI h)] n kd I J P (am_is (some (.int (nI (awS m h)))) n kd I J P) := by
  have hS0 := hS
  obtain ⟨s0, s1, s2, s3, s4, s5, s6, s7, s8, s9, p4, p5, p7, p8, p9, p11, p12, p13, p14⟩ := hS
  refine ct_of 1 (by decide +kernel) (Nat.le_of_ble_eq_true rfl) rfl ?_
  by_cases hz0 : m = 0
  · skip
    refine r_aload_n dX7_askedWith_0 rfl ?_
    refine r_iload_n dX7_askedWith_1 rfl ?_
    refine r_virtE (c_X7_looksAt b h hS0 hh) lk_X7_79 mc_X7_looksAt dX7_askedWith_2 s0 (by decide) rfl rfl (Nat.le_of_ble_eq_true rfl) ?_
    rw [hm]
    refine r_istore_n dX7_askedWith_5 (by decide) ?_
    refine r_iload_n dX7_askedWith_6 rfl ?_
    refine r_if_ne (tgt := 14) dX7_askedWith_7 (by decide) (fun hz => absurd (show _ from (by rw [hz0]; rfl)) hz) (fun _ => ?_)
    refine r_iload_n dX7_askedWith_10 rfl ?_
    refine r_goto (tgt := 21) dX7_askedWith_11 (by decide) ?_
    refine r_iret rfl dX7_askedWith_21 ?_
    exact ⟨by rw [awS, if_pos hz0], rfl, rfl, rfl, rfl, rfl⟩
  · skip
    refine r_aload_n dX7_askedWith_0 rfl ?_
    refine r_iload_n dX7_askedWith_1 rfl ?_
    refine r_virtE (c_X7_looksAt b h hS0 hh) lk_X7_79 mc_X7_looksAt dX7_askedWith_2 s0 (by decide) rfl rfl (Nat.le_of_ble_eq_true rfl) ?_
    rw [hm]
    refine r_istore_n dX7_askedWith_5 (by decide) ?_
    refine r_iload_n dX7_askedWith_6 rfl ?_
    refine r_if_ne (tgt := 14) dX7_askedWith_7 (by decide) (fun _ => ?_) (fun hz => absurd hz (show ¬ _ from (by rw [z_eq (by omega)]; exact hz0)))
    refine r_bipush (v := nI 31) dX7_askedWith_14 (by decide) ?_
    refine r_iload_n dX7_askedWith_16 rfl ?_
    refine r_statE (c_J6_numberOfLeadingZeros_0f7a4 m hm2 (by omega)) lk_X7_83 mc_J6_numberOfLeadingZeros_0f7a4 dX7_askedWith_17 (by decide) rfl rfl (Nat.le_of_ble_eq_true rfl) ?_
    refine r_isub dX7_askedWith_20 ?_
    refine r_iret rfl dX7_askedWith_21 ?_
    exact ⟨by rw [awS, if_neg hz0, pk_sub (by omega), show 31 - (31 - Nat.log2 m) = Nat.log2 m by have : Nat.log2 m < 8 := (Nat.log2_lt hz0).mpr (by omega); omega], rfl, rfl, rfl, rfl, rfl⟩

