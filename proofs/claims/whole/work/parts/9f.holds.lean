/-! WHETHER A LAW HOLDS: the reference -/
def lawH (law H M : Nat) (un : Bool) (cs : Nat → List Nat) : Int32 := if lawB law H M un cs = -2 then -2 else if lawB law H M un cs = nI 1 then nI 0 else nI 1
def lhF (m : Nat) (I I' : mI) (J J' : mJ) : Prop := (∀ a, a ≠ m → a ≠ m + 25 → a ≠ m + 26 → a ≠ m + 27 → a ≠ m + 30 → a ≠ m + 31 → I' a = I a) ∧ (∀ j, j ≠ 52 → j ≠ 53 → I' m j = I m j) ∧ (∀ a, a ≠ m + 28 → a ≠ m + 29 → J' a = J a)
theorem lhF.rf {m : Nat} {I : mI} {J : mJ} : lhF m I I J J := ⟨fun _ _ _ _ _ _ _ => rfl, fun _ _ _ => rfl, fun _ _ _ => rfl⟩
theorem lhF.of {m : Nat} {I I' : mI} {J : mJ} (h : rFr m I I') : lhF m I I' J J := ⟨fun a a1 a2 a3 a4 _ _ => h.1 a a1 a2 a3 a4, h.2, fun _ _ _ => rfl⟩
def lhP (n : Nat) (kd : mK) (I : mI) (J : mJ) (P : mP) (m : Nat) (v : Int32) : am_Post := fun y n' kd' I' J' P' => y = .inl (some (.int v)) ∧ n' = n ∧ kd' = kd ∧ P' = P ∧ lhF m I I' J J'
theorem dX10_lawHolds_0 : decode cX10_lawHolds 0 = .ok (.iload_n 1, 1) := by decide +kernel
theorem dX10_lawHolds_1 : decode cX10_lawHolds 1 = .ok (.ifCond .ne 43, 3) := by decide +kernel
theorem dX10_lawHolds_4 : decode cX10_lawHolds 4 = .ok (.iload_n 2, 1) := by decide +kernel
theorem dX10_lawHolds_5 : decode cX10_lawHolds 5 = .ok (.aload_n 0, 1) := by decide +kernel
theorem dX10_lawHolds_6 : decode cX10_lawHolds 6 = .ok (.getfield 350, 3) := by decide +kernel
theorem dX10_lawHolds_9 : decode cX10_lawHolds 9 = .ok (.if_icmp .ge 5, 3) := by decide +kernel
theorem dX10_lawHolds_12 : decode cX10_lawHolds 12 = .ok (.iconst 1, 1) := by decide +kernel
theorem dX10_lawHolds_13 : decode cX10_lawHolds 13 = .ok (.ireturn, 1) := by decide +kernel
theorem dX10_lawHolds_14 : decode cX10_lawHolds 14 = .ok (.aload_n 0, 1) := by decide +kernel
theorem dX10_lawHolds_15 : decode cX10_lawHolds 15 = .ok (.aload_n 0, 1) := by decide +kernel
theorem dX10_lawHolds_16 : decode cX10_lawHolds 16 = .ok (.invokevirtual 429, 3) := by decide +kernel
theorem dX10_lawHolds_19 : decode cX10_lawHolds 19 = .ok (.iconst 1, 1) := by decide +kernel
theorem dX10_lawHolds_20 : decode cX10_lawHolds 20 = .ok (.iconst 2, 1) := by decide +kernel
theorem dX10_lawHolds_21 : decode cX10_lawHolds 21 = .ok (.invokevirtual 432, 3) := by decide +kernel
theorem dX10_lawHolds_24 : decode cX10_lawHolds 24 = .ok (.ifCond .ne 6, 3) := by decide +kernel
theorem dX10_lawHolds_27 : decode cX10_lawHolds 27 = .ok (.bipush (-2), 2) := by decide +kernel
theorem dX10_lawHolds_29 : decode cX10_lawHolds 29 = .ok (.ireturn, 1) := by decide +kernel
theorem dX10_lawHolds_30 : decode cX10_lawHolds 30 = .ok (.aload_n 0, 1) := by decide +kernel
theorem dX10_lawHolds_31 : decode cX10_lawHolds 31 = .ok (.getfield 413, 3) := by decide +kernel
theorem dX10_lawHolds_34 : decode cX10_lawHolds 34 = .ok (.iconst 2, 1) := by decide +kernel
theorem dX10_lawHolds_35 : decode cX10_lawHolds 35 = .ok (.if_icmp .ge 7, 3) := by decide +kernel
theorem dX10_lawHolds_38 : decode cX10_lawHolds 38 = .ok (.iconst 1, 1) := by decide +kernel
theorem dX10_lawHolds_39 : decode cX10_lawHolds 39 = .ok (.goto 4, 3) := by decide +kernel
theorem dX10_lawHolds_42 : decode cX10_lawHolds 42 = .ok (.iconst 0, 1) := by decide +kernel
theorem dX10_lawHolds_43 : decode cX10_lawHolds 43 = .ok (.ireturn, 1) := by decide +kernel
theorem dX10_lawHolds_44 : decode cX10_lawHolds 44 = .ok (.iload_n 1, 1) := by decide +kernel
theorem dX10_lawHolds_45 : decode cX10_lawHolds 45 = .ok (.iconst 1, 1) := by decide +kernel
theorem dX10_lawHolds_46 : decode cX10_lawHolds 46 = .ok (.if_icmp .ne 10, 3) := by decide +kernel
theorem dX10_lawHolds_49 : decode cX10_lawHolds 49 = .ok (.aload_n 0, 1) := by decide +kernel
theorem dX10_lawHolds_50 : decode cX10_lawHolds 50 = .ok (.invokevirtual 455, 3) := by decide +kernel
theorem dX10_lawHolds_53 : decode cX10_lawHolds 53 = .ok (.goto 7, 3) := by decide +kernel
theorem dX10_lawHolds_56 : decode cX10_lawHolds 56 = .ok (.aload_n 0, 1) := by decide +kernel
theorem dX10_lawHolds_57 : decode cX10_lawHolds 57 = .ok (.invokevirtual 445, 3) := by decide +kernel
theorem dX10_lawHolds_60 : decode cX10_lawHolds 60 = .ok (.istore_n 3, 1) := by decide +kernel
theorem dX10_lawHolds_61 : decode cX10_lawHolds 61 = .ok (.iload_n 3, 1) := by decide +kernel
theorem dX10_lawHolds_62 : decode cX10_lawHolds 62 = .ok (.bipush (-2), 2) := by decide +kernel
theorem dX10_lawHolds_64 : decode cX10_lawHolds 64 = .ok (.if_icmp .ne 6, 3) := by decide +kernel
theorem dX10_lawHolds_67 : decode cX10_lawHolds 67 = .ok (.bipush (-2), 2) := by decide +kernel
theorem dX10_lawHolds_69 : decode cX10_lawHolds 69 = .ok (.ireturn, 1) := by decide +kernel
theorem dX10_lawHolds_70 : decode cX10_lawHolds 70 = .ok (.iload_n 1, 1) := by decide +kernel
theorem dX10_lawHolds_71 : decode cX10_lawHolds 71 = .ok (.iconst 1, 1) := by decide +kernel
theorem dX10_lawHolds_72 : decode cX10_lawHolds 72 = .ok (.if_icmp .ne 19, 3) := by decide +kernel
theorem dX10_lawHolds_75 : decode cX10_lawHolds 75 = .ok (.iload_n 3, 1) := by decide +kernel
theorem dX10_lawHolds_76 : decode cX10_lawHolds 76 = .ok (.aload_n 0, 1) := by decide +kernel
theorem dX10_lawHolds_77 : decode cX10_lawHolds 77 = .ok (.getfield 350, 3) := by decide +kernel
theorem dX10_lawHolds_80 : decode cX10_lawHolds 80 = .ok (.if_icmp .ge 7, 3) := by decide +kernel
theorem dX10_lawHolds_83 : decode cX10_lawHolds 83 = .ok (.iconst 1, 1) := by decide +kernel
theorem dX10_lawHolds_84 : decode cX10_lawHolds 84 = .ok (.goto 25, 3) := by decide +kernel
theorem dX10_lawHolds_87 : decode cX10_lawHolds 87 = .ok (.iconst 0, 1) := by decide +kernel
theorem dX10_lawHolds_88 : decode cX10_lawHolds 88 = .ok (.goto 21, 3) := by decide +kernel
theorem dX10_lawHolds_91 : decode cX10_lawHolds 91 = .ok (.iload_n 3, 1) := by decide +kernel
theorem dX10_lawHolds_92 : decode cX10_lawHolds 92 = .ok (.iconst (-1), 1) := by decide +kernel
theorem dX10_lawHolds_93 : decode cX10_lawHolds 93 = .ok (.if_icmp .eq 11, 3) := by decide +kernel
theorem dX10_lawHolds_96 : decode cX10_lawHolds 96 = .ok (.iload_n 3, 1) := by decide +kernel
theorem dX10_lawHolds_97 : decode cX10_lawHolds 97 = .ok (.invokestatic 448, 3) := by decide +kernel
theorem dX10_lawHolds_100 : decode cX10_lawHolds 100 = .ok (.iconst 2, 1) := by decide +kernel
theorem dX10_lawHolds_101 : decode cX10_lawHolds 101 = .ok (.if_icmp .gt 7, 3) := by decide +kernel
theorem dX10_lawHolds_104 : decode cX10_lawHolds 104 = .ok (.iconst 1, 1) := by decide +kernel
theorem dX10_lawHolds_105 : decode cX10_lawHolds 105 = .ok (.goto 4, 3) := by decide +kernel
theorem dX10_lawHolds_108 : decode cX10_lawHolds 108 = .ok (.iconst 0, 1) := by decide +kernel
theorem dX10_lawHolds_109 : decode cX10_lawHolds 109 = .ok (.ireturn, 1) := by decide +kernel

set_option maxHeartbeats 4000000 in
set_option maxRecDepth 100000 in
theorem c_lh0 (m M H : Nat) (un : Bool) (cs : Nat → List Nat) {n : Nat} {kd : mK} {I : mI} {J : mJ} {P : mP} (hM : kM kd P m) (hc : csOK cs H) (hH8 : H ≤ 8) (hM20 : M ≤ 20) (hst : rsM cs H I m) (hmo : I m 2 = nI M) (hu : (!decide (I m 3 = 0)) = un) (hL : I m 47 = nI 0) (h54 : I m 54 = -1) (h58 : I m 58 = -1) : Ct yX10_lawHolds cX10_lawHolds 4 (some .int) 9 0 0 [.ref m, .int (nI 0), .int (nI (cnR cs H))] n kd I J P (lhP n kd I J P m (lawH 0 H M un cs)) := by
  have hR := rf_seed hc hH8 hM hst hmo hu hL h54 h58
  have hsp := rs_riB hH8 hst
  have hz : ∀ k, k < H → I (m + 1) k = nI 0 ∧ I (m + 2) k = nI 0 := fun k hk => ⟨(hst.2 k hk).1, (hst.2 k hk).2.1⟩
  have hp := riB_lt (cs := cs) hH8
  have hrb : ∀ k, k < H → bt (spR (I (m + 3)) (I (m + 4)) H) k = true → (fun k => !(cs k).isEmpty) k = true := fun k hk hb => by
    rw [hsp, bt_nI _ (by omega)] at hb
    unfold riB at hb
    rw [alB_bit, Bool.and_eq_true] at hb
    exact hb.2
  have hH := hst.1
  have hsk := rsT_eq (un := un) (Lt := I (m + 24)) (E := 2) hH8 hM20 hsp hz
  have hcl := cn_le cs H
  refine ct_of 1 (by decide +kernel) (Nat.le_of_ble_eq_true rfl) rfl ?_
  by_cases hcn : cnR cs H = H
  · have hlw : lawB 0 H M un cs = if (rsT un cs M H 2).2.2 then -2 else if 1 < (rsT un cs M H 2).2.1.length then nI 1 else nI 0 := by unfold lawB; rw [if_pos rfl, if_pos hcn]
    have hlen := skTop_len (by decide) hsk
    have hcut : cutF (rsT un cs M H 2).2.1 = (rsT un cs M H 2).2.1 := by unfold cutF; rw [if_pos (by omega)]
    refine r_iload_n dX10_lawHolds_0 rfl ?_
    refine r_if_ne (tgt := 44) dX10_lawHolds_1 (by decide) (fun hz => absurd (show _ from rfl) hz) (fun _ => ?_)
    refine r_iload_n dX10_lawHolds_4 rfl ?_
    refine r_aload_n dX10_lawHolds_5 rfl ?_
    refine r_getI dX10_lawHolds_6 fl_X10_350 rfl (kM_0 hM) ?_
    rw [hH]
    refine r_icmp_ge (tgt := 14) dX10_lawHolds_9 (by decide) (fun _ => ?_) (fun hz => absurd (show _ from (by rw [nI_leI (by omega) (by omega)]; omega)) hz)
    refine r_aload_n dX10_lawHolds_14 rfl ?_
    refine r_aload_n dX10_lawHolds_15 rfl ?_
    refine r_virtE (c_X10_speaking m H hM hH hH8) lk_X10_429 mc_X10_speaking dX10_lawHolds_16 hM.1 (by decide) rfl rfl (Nat.le_of_ble_eq_true rfl) ?_
    refine r_iconst (v := nI 1) dX10_lawHolds_19 (by decide) ?_
    refine r_iconst (v := nI 2) dX10_lawHolds_20 (by decide) ?_
    refine r_virt (c_seeksN m H M 0 (fun h => lkm 0 (cs h)) cs un (I (m + 24)) (I (m + 1)) (I (m + 2)) (fun k => !(cs k).isEmpty) (spR (I (m + 3)) (I (m + 4)) H) (nI 1) 2 (rsT un cs M H 2) hR hH8 hM20 (by decide) (by decide) hrb hsk) lk_X10_432 mc_X10_seeks dX10_lawHolds_21 hM.1 (by decide) rfl rfl (Nat.le_of_ble_eq_true rfl) (Nat.le_of_eq (Nat.zero_add _)) (Nat.le_of_eq (Nat.zero_add _)) (fun _ _ _ _ _ _ h => nomatch h.1) ?_
    rintro v n1 kd1 I1 J1 P1 ⟨h0, rfl, rfl, rfl, rfl, hf, h52, h53, h27⟩
    cases h0
    simp only [Option.toList, List.cons_append, List.nil_append]
    rw [hcut] at h52
    by_cases hsq : (rsT un cs M H 2).2.2 = true
    · rw [if_pos hsq] at hlw
      rw [show (!(rsT un cs M H 2).2.2 && decide ((rsT un cs M H 2).2.1.length ≤ 1000)) = false from by rw [hsq]; rfl, show lawH 0 H M un cs = -2 from by unfold lawH; rw [hlw, if_pos rfl]]
      refine r_if_ne (tgt := 30) dX10_lawHolds_24 (by decide) (fun hz => absurd (show _ from (by decide)) hz) (fun _ => ?_)
      refine r_bipush (v := -2) dX10_lawHolds_27 (by decide) ?_
      refine r_iret rfl dX10_lawHolds_29 ?_
      exact ⟨rfl, rfl, rfl, rfl, lhF.of hf⟩
    · rw [if_neg hsq] at hlw
      rw [show (!(rsT un cs M H 2).2.2 && decide ((rsT un cs M H 2).2.1.length ≤ 1000)) = true from by rw [decide_eq_true (by omega)]; simpa using hsq]
      by_cases h1 : 1 < (rsT un cs M H 2).2.1.length
      · rw [if_pos h1] at hlw
        rw [show lawH 0 H M un cs = nI 0 from by unfold lawH; rw [hlw]; rfl]
        refine r_if_ne (tgt := 30) dX10_lawHolds_24 (by decide) (fun _ => ?_) (fun hz => absurd hz (show ¬ _ from (by decide)))
        refine r_aload_n dX10_lawHolds_30 rfl ?_
        refine r_getI dX10_lawHolds_31 fl_X10_413 rfl (kM_0 hM) ?_
        rw [h52]
        refine r_iconst (v := nI 2) dX10_lawHolds_34 (by decide) ?_
        refine r_icmp_ge (tgt := 42) dX10_lawHolds_35 (by decide) (fun _ => ?_) (fun hz => absurd (show _ from (by rw [nI_leI (by omega) (by omega)]; omega)) hz)
        refine r_iconst (v := nI 0) dX10_lawHolds_42 (by decide) ?_
        refine r_iret rfl dX10_lawHolds_43 ?_
        exact ⟨rfl, rfl, rfl, rfl, lhF.of hf⟩
      · rw [if_neg h1] at hlw
        rw [show lawH 0 H M un cs = nI 1 from by unfold lawH; rw [hlw]; rfl]
        refine r_if_ne (tgt := 30) dX10_lawHolds_24 (by decide) (fun _ => ?_) (fun hz => absurd hz (show ¬ _ from (by decide)))
        refine r_aload_n dX10_lawHolds_30 rfl ?_
        refine r_getI dX10_lawHolds_31 fl_X10_413 rfl (kM_0 hM) ?_
        rw [h52]
        refine r_iconst (v := nI 2) dX10_lawHolds_34 (by decide) ?_
        refine r_icmp_ge (tgt := 42) dX10_lawHolds_35 (by decide) (fun hz => absurd hz (show ¬ _ from (by rw [nI_leI (by omega) (by omega)]; omega))) (fun _ => ?_)
        refine r_iconst (v := nI 1) dX10_lawHolds_38 (by decide) ?_
        refine r_goto (tgt := 43) dX10_lawHolds_39 (by decide) ?_
        refine r_iret rfl dX10_lawHolds_43 ?_
        exact ⟨rfl, rfl, rfl, rfl, lhF.of hf⟩
  · have hlw : lawH 0 H M un cs = nI 1 := by unfold lawH lawB; rw [if_pos rfl, if_neg hcn]; rfl
    rw [hlw]
    refine r_iload_n dX10_lawHolds_0 rfl ?_
    refine r_if_ne (tgt := 44) dX10_lawHolds_1 (by decide) (fun hz => absurd (show _ from rfl) hz) (fun _ => ?_)
    refine r_iload_n dX10_lawHolds_4 rfl ?_
    refine r_aload_n dX10_lawHolds_5 rfl ?_
    refine r_getI dX10_lawHolds_6 fl_X10_350 rfl (kM_0 hM) ?_
    rw [hH]
    refine r_icmp_ge (tgt := 14) dX10_lawHolds_9 (by decide) (fun hz => absurd hz (show ¬ _ from (by rw [nI_leI (by omega) (by omega)]; omega))) (fun _ => ?_)
    refine r_iconst (v := nI 1) dX10_lawHolds_12 (by decide) ?_
    refine r_iret rfl dX10_lawHolds_13 ?_
    exact ⟨rfl, rfl, rfl, rfl, lhF.rf⟩

set_option maxHeartbeats 4000000 in
set_option maxRecDepth 100000 in
theorem c_lh1 (m M H : Nat) (un : Bool) (cs : Nat → List Nat) {n : Nat} {kd : mK} {I : mI} {J : mJ} {P : mP} (hM : kM kd P m) (hc : csOK cs H) (hH8 : H ≤ 8) (hM20 : M ≤ 20) (hst : rsM cs H I m) (hmo : I m 2 = nI M) (hu : (!decide (I m 3 = 0)) = un) (hL : I m 47 = nI 0) (h54 : I m 54 = -1) (h58 : I m 58 = -1) : Ct yX10_lawHolds cX10_lawHolds 4 (some .int) 9 0 0 [.ref m, .int (nI 1), .int (nI (cnR cs H))] n kd I J P (lhP n kd I J P m (lawH 1 H M un cs)) := by
  have hR := rf_seed hc hH8 hM hst hmo hu hL h54 h58
  have hsp := rs_riB hH8 hst
  have hz : ∀ k, k < H → I (m + 1) k = nI 0 ∧ I (m + 2) k = nI 0 := fun k hk => ⟨(hst.2 k hk).1, (hst.2 k hk).2.1⟩
  have hp := riB_lt (cs := cs) hH8
  have hrb : ∀ k, k < H → bt (spR (I (m + 3)) (I (m + 4)) H) k = true → (fun k => !(cs k).isEmpty) k = true := fun k hk hb => by
    rw [hsp, bt_nI _ (by omega)] at hb
    unfold riB at hb
    rw [alB_bit, Bool.and_eq_true] at hb
    exact hb.2
  have hH := hst.1
  have hsk := rsT_eq (un := un) (Lt := I (m + 24)) (E := 1001) hH8 hM20 hsp hz
  have hlw : lawB 1 H M un cs = if fwB (rsT un cs M H 1001) = true then (if lookV H (rsT un cs M H 1001).2.1 < H then nI 0 else nI 1) else -2 := by unfold lawB; rw [if_neg (by decide), if_pos rfl]
  have hl8 := lookV_8 H (rsT un cs M H 1001).2.1
  refine ct_of 1 (by decide +kernel) (Nat.le_of_ble_eq_true rfl) rfl ?_
  refine r_iload_n dX10_lawHolds_0 rfl ?_
  refine r_if_ne (tgt := 44) dX10_lawHolds_1 (by decide) (fun _ => ?_) (fun hz => absurd hz (show ¬ _ from (by decide)))
  refine r_iload_n dX10_lawHolds_44 rfl ?_
  refine r_iconst (v := nI 1) dX10_lawHolds_45 (by decide) ?_
  refine r_icmp_ne (tgt := 56) dX10_lawHolds_46 (by decide) (fun hz => absurd (show _ from rfl) hz) (fun _ => ?_)
  refine r_aload_n dX10_lawHolds_49 rfl ?_
  refine r_virt (c_X10_fewestLooks m H M 0 (fun h => lkm 0 (cs h)) cs un (I (m + 24)) (I (m + 1)) (I (m + 2)) (fun k => !(cs k).isEmpty) (rsT un cs M H 1001) hR hH8 hM20 hrb hsk) lk_X10_455 mc_X10_fewestLooks dX10_lawHolds_50 hM.1 (by decide) rfl rfl (Nat.le_of_ble_eq_true rfl) (Nat.le_of_eq (Nat.zero_add _)) (Nat.le_of_eq (Nat.zero_add _)) (fun _ _ _ _ _ _ h => nomatch h.1) ?_
  rintro v n1 kd1 I1 J1 P1 ⟨h0, rfl, rfl, rfl, hf1, hf2, hf3⟩
  cases h0
  simp only [Option.toList, List.cons_append, List.nil_append]
  have hH1 : I1 m 1 = nI H := by rw [hf2 1 (by decide) (by decide)]; exact hH
  by_cases hb : fwB (rsT un cs M H 1001) = true
  · rw [if_pos hb] at hlw
    rw [if_pos hb]
    by_cases hlt : lookV H (rsT un cs M H 1001).2.1 < H
    · rw [if_pos hlt] at hlw
      rw [show lawH 1 H M un cs = nI 1 from by unfold lawH; rw [hlw]; rfl]
      refine r_goto (tgt := 60) dX10_lawHolds_53 (by decide) ?_
      refine r_istore_n dX10_lawHolds_60 (by decide) ?_
      refine r_iload_n dX10_lawHolds_61 rfl ?_
      refine r_bipush (v := -2) dX10_lawHolds_62 (by decide) ?_
      refine r_icmp_ne (tgt := 70) dX10_lawHolds_64 (by decide) (fun _ => ?_) (fun hz => absurd hz (show ¬ _ from (nI_m2 (by omega))))
      refine r_iload_n dX10_lawHolds_70 rfl ?_
      refine r_iconst (v := nI 1) dX10_lawHolds_71 (by decide) ?_
      refine r_icmp_ne (tgt := 91) dX10_lawHolds_72 (by decide) (fun hz => absurd (show _ from rfl) hz) (fun _ => ?_)
      refine r_iload_n dX10_lawHolds_75 rfl ?_
      refine r_aload_n dX10_lawHolds_76 rfl ?_
      refine r_getI dX10_lawHolds_77 fl_X10_350 rfl (kM_0 hM) ?_
      rw [hH1]
      refine r_icmp_ge (tgt := 87) dX10_lawHolds_80 (by decide) (fun hz => absurd hz (show ¬ _ from (by rw [nI_leI (by omega) (by omega)]; omega))) (fun _ => ?_)
      refine r_iconst (v := nI 1) dX10_lawHolds_83 (by decide) ?_
      refine r_goto (tgt := 109) dX10_lawHolds_84 (by decide) ?_
      refine r_iret rfl dX10_lawHolds_109 ?_
      exact ⟨rfl, rfl, rfl, rfl, hf1, hf2, hf3⟩
    · rw [if_neg hlt] at hlw
      rw [show lawH 1 H M un cs = nI 0 from by unfold lawH; rw [hlw]; rfl]
      refine r_goto (tgt := 60) dX10_lawHolds_53 (by decide) ?_
      refine r_istore_n dX10_lawHolds_60 (by decide) ?_
      refine r_iload_n dX10_lawHolds_61 rfl ?_
      refine r_bipush (v := -2) dX10_lawHolds_62 (by decide) ?_
      refine r_icmp_ne (tgt := 70) dX10_lawHolds_64 (by decide) (fun _ => ?_) (fun hz => absurd hz (show ¬ _ from (nI_m2 (by omega))))
      refine r_iload_n dX10_lawHolds_70 rfl ?_
      refine r_iconst (v := nI 1) dX10_lawHolds_71 (by decide) ?_
      refine r_icmp_ne (tgt := 91) dX10_lawHolds_72 (by decide) (fun hz => absurd (show _ from rfl) hz) (fun _ => ?_)
      refine r_iload_n dX10_lawHolds_75 rfl ?_
      refine r_aload_n dX10_lawHolds_76 rfl ?_
      refine r_getI dX10_lawHolds_77 fl_X10_350 rfl (kM_0 hM) ?_
      rw [hH1]
      refine r_icmp_ge (tgt := 87) dX10_lawHolds_80 (by decide) (fun _ => ?_) (fun hz => absurd (show _ from (by rw [nI_leI (by omega) (by omega)]; omega)) hz)
      refine r_iconst (v := nI 0) dX10_lawHolds_87 (by decide) ?_
      refine r_goto (tgt := 109) dX10_lawHolds_88 (by decide) ?_
      refine r_iret rfl dX10_lawHolds_109 ?_
      exact ⟨rfl, rfl, rfl, rfl, hf1, hf2, hf3⟩
  · rw [if_neg hb] at hlw
    rw [if_neg hb, show lawH 1 H M un cs = -2 from by unfold lawH; rw [hlw]; rfl]
    refine r_goto (tgt := 60) dX10_lawHolds_53 (by decide) ?_
    refine r_istore_n dX10_lawHolds_60 (by decide) ?_
    refine r_iload_n dX10_lawHolds_61 rfl ?_
    refine r_bipush (v := -2) dX10_lawHolds_62 (by decide) ?_
    refine r_icmp_ne (tgt := 70) dX10_lawHolds_64 (by decide) (fun hz => absurd (show _ from rfl) hz) (fun _ => ?_)
    refine r_bipush (v := -2) dX10_lawHolds_67 (by decide) ?_
    refine r_iret rfl dX10_lawHolds_69 ?_
    exact ⟨rfl, rfl, rfl, rfl, hf1, hf2, hf3⟩

set_option maxHeartbeats 4000000 in
set_option maxRecDepth 100000 in
theorem c_lh2 (m M H : Nat) (un : Bool) (cs : Nat → List Nat) {n : Nat} {kd : mK} {I : mI} {J : mJ} {P : mP} (hM : kM kd P m) (hc : csOK cs H) (hH8 : H ≤ 8) (hM20 : M ≤ 20) (hst : rsM cs H I m) (hmo : I m 2 = nI M) (hu : (!decide (I m 3 = 0)) = un) (hL : I m 47 = nI 0) (h54 : I m 54 = -1) (h58 : I m 58 = -1) : Ct yX10_lawHolds cX10_lawHolds 4 (some .int) 9 0 0 [.ref m, .int (nI 2), .int (nI (cnR cs H))] n kd I J P (lhP n kd I J P m (lawH 2 H M un cs)) := by
  have hR := rf_seed hc hH8 hM hst hmo hu hL h54 h58
  have hsp := rs_riB hH8 hst
  have hz : ∀ k, k < H → I (m + 1) k = nI 0 ∧ I (m + 2) k = nI 0 := fun k hk => ⟨(hst.2 k hk).1, (hst.2 k hk).2.1⟩
  have hp := riB_lt (cs := cs) hH8
  have hrb : ∀ k, k < H → bt (spR (I (m + 3)) (I (m + 4)) H) k = true → (fun k => !(cs k).isEmpty) k = true := fun k hk hb => by
    rw [hsp, bt_nI _ (by omega)] at hb
    unfold riB at hb
    rw [alB_bit, Bool.and_eq_true] at hb
    exact hb.2
  have hH := hst.1
  have hkn : kn2 (RK un (I (m + 24)) 0 H M (fun h => lkm 0 (cs h)) (tvN (I (m + 1)) (I (m + 2)) (nI M) H cs)) (riB cs H) 256 9 0 = (knV un cs M H) := by
    rw [RK_q hz]
    rfl
  have hk := c_X10_smallestKnot (n := n) (J := J) m H M 0 (fun h => lkm 0 (cs h)) cs un (I (m + 24)) (I (m + 1)) (I (m + 2)) (fun k => !(cs k).isEmpty) (riB cs H) hR hH8 hM20 hp (fun k hk hb => hrb k hk (by rw [hsp]; exact hb)) hsp
  rw [hkn] at hk
  have hrg : (knV un cs M H) = -1 ∨ (knV un cs M H) = -2 ∨ ∃ t, t < 256 ∧ (knV un cs M H) = nI t := kn2_rng 9 0
  have hlw : lawB 2 H M un cs = if (knV un cs M H) = -2 then -2 else if (knV un cs M H) = -1 then nI 0 else if nI 2 < bcF (knV un cs M H) then nI 1 else nI 0 := by unfold lawB; rw [if_neg (by decide), if_neg (by decide)]
  refine ct_of 1 (by decide +kernel) (Nat.le_of_ble_eq_true rfl) rfl ?_
  refine r_iload_n dX10_lawHolds_0 rfl ?_
  refine r_if_ne (tgt := 44) dX10_lawHolds_1 (by decide) (fun _ => ?_) (fun hz => absurd hz (show ¬ _ from (by decide)))
  refine r_iload_n dX10_lawHolds_44 rfl ?_
  refine r_iconst (v := nI 1) dX10_lawHolds_45 (by decide) ?_
  refine r_icmp_ne (tgt := 56) dX10_lawHolds_46 (by decide) (fun _ => ?_) (fun hz => absurd hz (show ¬ _ from (by decide)))
  refine r_aload_n dX10_lawHolds_56 rfl ?_
  refine r_virt (hk) lk_X10_445 mc_X10_smallestKnot dX10_lawHolds_57 hM.1 (by decide) rfl rfl (Nat.le_of_ble_eq_true rfl) (Nat.le_of_eq (Nat.zero_add _)) (Nat.le_of_eq (Nat.zero_add _)) (fun _ _ _ _ _ _ h => nomatch h.1) ?_
  rintro v n1 kd1 I1 J1 P1 ⟨h0, rfl, rfl, rfl, rfl, hf⟩
  cases h0
  simp only [Option.toList, List.cons_append, List.nil_append]
  rcases hrg with e | e | ⟨t, ht, e⟩
  · rw [e, if_neg (by decide), if_pos rfl] at hlw
    rw [e, show lawH 2 H M un cs = nI 1 from by unfold lawH; rw [hlw]; rfl]
    refine r_istore_n dX10_lawHolds_60 (by decide) ?_
    refine r_iload_n dX10_lawHolds_61 rfl ?_
    refine r_bipush (v := -2) dX10_lawHolds_62 (by decide) ?_
    refine r_icmp_ne (tgt := 70) dX10_lawHolds_64 (by decide) (fun _ => ?_) (fun hz => absurd hz (show ¬ _ from (by decide)))
    refine r_iload_n dX10_lawHolds_70 rfl ?_
    refine r_iconst (v := nI 1) dX10_lawHolds_71 (by decide) ?_
    refine r_icmp_ne (tgt := 91) dX10_lawHolds_72 (by decide) (fun _ => ?_) (fun hz => absurd hz (show ¬ _ from (by decide)))
    refine r_iload_n dX10_lawHolds_91 rfl ?_
    refine r_iconst (v := (-1)) dX10_lawHolds_92 (by decide) ?_
    refine r_icmp_eq (tgt := 104) dX10_lawHolds_93 (by decide) (fun _ => ?_) (fun hz => absurd (show _ from rfl) hz)
    refine r_iconst (v := nI 1) dX10_lawHolds_104 (by decide) ?_
    refine r_goto (tgt := 109) dX10_lawHolds_105 (by decide) ?_
    refine r_iret rfl dX10_lawHolds_109 ?_
    exact ⟨rfl, rfl, rfl, rfl, lhF.of hf⟩
  · rw [e, if_pos rfl] at hlw
    rw [e, show lawH 2 H M un cs = -2 from by unfold lawH; rw [hlw]; rfl]
    refine r_istore_n dX10_lawHolds_60 (by decide) ?_
    refine r_iload_n dX10_lawHolds_61 rfl ?_
    refine r_bipush (v := -2) dX10_lawHolds_62 (by decide) ?_
    refine r_icmp_ne (tgt := 70) dX10_lawHolds_64 (by decide) (fun hz => absurd (show _ from rfl) hz) (fun _ => ?_)
    refine r_bipush (v := -2) dX10_lawHolds_67 (by decide) ?_
    refine r_iret rfl dX10_lawHolds_69 ?_
    exact ⟨rfl, rfl, rfl, rfl, lhF.of hf⟩
  · rw [e, if_neg (nI_m2 (by omega)), if_neg (nI_m1 (by omega)), bc_pc t ht] at hlw
    rw [e]
    have hb8 := pc8_le t ht
    by_cases h2 : 2 < pc8 t
    · rw [if_pos ((nI_ltI (by omega) (by omega)).mpr h2)] at hlw
      rw [show lawH 2 H M un cs = nI 0 from by unfold lawH; rw [hlw]; rfl]
      refine r_istore_n dX10_lawHolds_60 (by decide) ?_
      refine r_iload_n dX10_lawHolds_61 rfl ?_
      refine r_bipush (v := -2) dX10_lawHolds_62 (by decide) ?_
      refine r_icmp_ne (tgt := 70) dX10_lawHolds_64 (by decide) (fun _ => ?_) (fun hz => absurd hz (show ¬ _ from (nI_m2 (by omega))))
      refine r_iload_n dX10_lawHolds_70 rfl ?_
      refine r_iconst (v := nI 1) dX10_lawHolds_71 (by decide) ?_
      refine r_icmp_ne (tgt := 91) dX10_lawHolds_72 (by decide) (fun _ => ?_) (fun hz => absurd hz (show ¬ _ from (by decide)))
      refine r_iload_n dX10_lawHolds_91 rfl ?_
      refine r_iconst (v := (-1)) dX10_lawHolds_92 (by decide) ?_
      refine r_icmp_eq (tgt := 104) dX10_lawHolds_93 (by decide) (fun hz => absurd hz (show ¬ _ from (nI_m1 (by omega)))) (fun _ => ?_)
      refine r_iload_n dX10_lawHolds_96 rfl ?_
      refine r_statE (c_X10_bits (nI t)) lk_X10_448 mc_X10_bits dX10_lawHolds_97 (by decide) rfl rfl (Nat.le_of_ble_eq_true rfl) ?_
      rw [pc_21 t ht]
      refine r_iconst (v := nI 2) dX10_lawHolds_100 (by decide) ?_
      refine r_icmp_gt (tgt := 108) dX10_lawHolds_101 (by decide) (fun _ => ?_) (fun hz => absurd (show _ from (by rw [nI_ltI (by omega) (by omega)]; omega)) hz)
      refine r_iconst (v := nI 0) dX10_lawHolds_108 (by decide) ?_
      refine r_iret rfl dX10_lawHolds_109 ?_
      exact ⟨rfl, rfl, rfl, rfl, lhF.of hf⟩
    · rw [if_neg (fun q => h2 ((nI_ltI (by omega) (by omega)).mp q))] at hlw
      rw [show lawH 2 H M un cs = nI 1 from by unfold lawH; rw [hlw]; rfl]
      refine r_istore_n dX10_lawHolds_60 (by decide) ?_
      refine r_iload_n dX10_lawHolds_61 rfl ?_
      refine r_bipush (v := -2) dX10_lawHolds_62 (by decide) ?_
      refine r_icmp_ne (tgt := 70) dX10_lawHolds_64 (by decide) (fun _ => ?_) (fun hz => absurd hz (show ¬ _ from (nI_m2 (by omega))))
      refine r_iload_n dX10_lawHolds_70 rfl ?_
      refine r_iconst (v := nI 1) dX10_lawHolds_71 (by decide) ?_
      refine r_icmp_ne (tgt := 91) dX10_lawHolds_72 (by decide) (fun _ => ?_) (fun hz => absurd hz (show ¬ _ from (by decide)))
      refine r_iload_n dX10_lawHolds_91 rfl ?_
      refine r_iconst (v := (-1)) dX10_lawHolds_92 (by decide) ?_
      refine r_icmp_eq (tgt := 104) dX10_lawHolds_93 (by decide) (fun hz => absurd hz (show ¬ _ from (nI_m1 (by omega)))) (fun _ => ?_)
      refine r_iload_n dX10_lawHolds_96 rfl ?_
      refine r_statE (c_X10_bits (nI t)) lk_X10_448 mc_X10_bits dX10_lawHolds_97 (by decide) rfl rfl (Nat.le_of_ble_eq_true rfl) ?_
      rw [pc_21 t ht]
      refine r_iconst (v := nI 2) dX10_lawHolds_100 (by decide) ?_
      refine r_icmp_gt (tgt := 108) dX10_lawHolds_101 (by decide) (fun hz => absurd hz (show ¬ _ from (by rw [nI_ltI (by omega) (by omega)]; omega))) (fun _ => ?_)
      refine r_iconst (v := nI 1) dX10_lawHolds_104 (by decide) ?_
      refine r_goto (tgt := 109) dX10_lawHolds_105 (by decide) ?_
      refine r_iret rfl dX10_lawHolds_109 ?_
      exact ⟨rfl, rfl, rfl, rfl, lhF.of hf⟩

set_option maxHeartbeats 4000000 in
set_option maxRecDepth 100000 in
theorem c_X10_lawHolds (m M H : Nat) (un : Bool) (cs : Nat → List Nat) (law : Nat) {n : Nat} {kd : mK} {I : mI} {J : mJ} {P : mP} (hM : kM kd P m) (hc : csOK cs H) (hH8 : H ≤ 8) (hM20 : M ≤ 20) (hst : rsM cs H I m) (hmo : I m 2 = nI M) (hu : (!decide (I m 3 = 0)) = un) (hL : I m 47 = nI 0) (h54 : I m 54 = -1) (h58 : I m 58 = -1) (hlaw : law ≤ 2) : Ct yX10_lawHolds cX10_lawHolds 4 (some .int) 9 0 0 [.ref m, .int (nI law), .int (nI (cnR cs H))] n kd I J P (lhP n kd I J P m (lawH law H M un cs)) := by
  rcases (by omega : law = 0 ∨ law = 1 ∨ law = 2) with e | e | e
  · rw [e]; exact c_lh0 m M H un cs hM hc hH8 hM20 hst hmo hu hL h54 h58
  · rw [e]; exact c_lh1 m M H un cs hM hc hH8 hM20 hst hmo hu hL h54 h58
  · rw [e]; exact c_lh2 m M H un cs hM hc hH8 hM20 hst hmo hu hL h54 h58
